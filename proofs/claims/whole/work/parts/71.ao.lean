section AO
variable {G : wG} {M : wM} {cc : ByteArray} {X : wX} {Z : State → Prop} {pc : Nat} {lv : List (Option Value)} {st : List Value} {h : wH} {k n : Nat}
theorem ww_aast {a v j nn ci : Nat} {i : Int32} {V : Nat → Value} {r : vw_C} {f : Nat → Option Nat} (hd : decode cc pc = .ok (.aastore, 1)) (ha : h.1 a = some (.inl (.object r.1, nn, .inr (.inr (.inr (.inr f)))))) (hv : h.1 v = some (.inr (ci, V))) (hc : wCl[ci]? = some r) (hi : i = nI j) (hj : j < nn) (hb31 : nn < 2 ^ 31) (kk : WW G M cc X Z (pc + 1) lv st (va_up h.1 a (some (.inl (.object r.1, nn, .inr (.inr (.inr (.inr (va_up f j (some v)))))))), h.2) k n) : WW G M cc X Z pc lv (.ref v :: .int i :: .ref a :: st) h k n := by
  obtain ⟨p, e, R, s, m, args, below, meth, c⟩ := X
  intro O H locs ls hR hS hl
  obtain ⟨hvi, hcl⟩ := w_ix hi hj hb31
  have h0 : ¬ i < 0 := fun q => hvi (Or.inl q)
  obtain ⟨hBa, cA, q1, q2, kA, comp, k1, k2, k3, k4⟩ := hR.2.2 a _ ha
  obtain ⟨-, r', h1, cellV, g1, g2, g3, -⟩ := hR.2.2 v _ hv
  have hK := O.2.2.2.2.2.2.2.2.1
  have hcls := (hK.1 ci r hc).2
  have hcomp : comp = G.2.1.1 ci := Option.some.inj (k3.symm.trans hcls.1)
  subst hcomp
  obtain ⟨kC, hkC, hkind⟩ := hcls.2
  refine W.aast O.1 O.2.1 q1 (fun q h => by cases h) (fun h => by cases h) k1 k2 rfl hkC ⟨h0, by show _ < (arrV _ _ _).slots.size; rw [arrV_size, hcl]; exact hj⟩ g1 (fun q h => by rw [g3] at h; cases h) (by rw [g2]; exact hkC) (by rw [g2]; exact va_assign hcls) rfl rfl hd fun H1 e1 z oq => ?_
  refine kk O H1 _ ls (hR.put hBa z oq ⟨cA, ?_, q2, kA, _, k1, k2, k3, k4⟩) (hS.put z oq hBa) hl
  rw [e1, vp_cell_q, vp_cell_q, arrV_store, hcl]
  congr 2
  funext q
  by_cases hq : q = j
  · subst hq
    simp [updV, va_up, va_rf]
  · simp [updV, va_up, hq]
end AO
section AO2
variable {Λ : wL} {F : Nat → Nat → Int32} {O : Nat → Nat → Option Nat} {R : Nat → Nat → Nat → Int32} {h0 : Nat → Option wE} {i m : Nat}
variable {G : wG} {M : wM} {cc : ByteArray} {X : wX} {Z : State → Prop} {pc : Nat} {lv : List (Option Value)} {st : List Value} {k n sz : Nat}
theorem Wra_aast {j v u : Nat} {x : Int32} (hk : Lk Λ i 8 m) (hU : Lk Λ u 7 v) (hd : decode cc pc = .ok (.aastore, 1)) (hi : x = nI j) (hj : j < 8) (kq : WW G M cc X Z (pc + 1) lv st (wld Λ F (va_up O i (va_up (O i) j (some v))) R h0, sz) k n) : WW G M cc X Z pc lv (.ref v :: .int x :: .ref m :: st) (wld Λ F O R h0, sz) k n := by
  refine ww_aast (r := (RX4, TX4, 7)) (nn := 8) hd (Wra_at hk) (rr_wo hU) rfl hi hj (by decide) ?_
  dsimp only
  have e : va_up (wld Λ F O R h0) m (some (.inl (.object RX4, 8, .inr (.inr (.inr (.inr (va_up (O i) j (some v)))))))) = wld Λ F (va_up O i (va_up (O i) j (some v))) R h0 := by
    have e1 : kb 8 m (F i) (va_up (O i) j (some v)) (R i) (wld Λ F O R h0) = _ := wld_put hk
    rw [w_up_id, w_up_id] at e1
    rw [← e1]
    funext q
    show va_up _ m _ q = rah m _ _ q
    unfold va_up rah
    by_cases hq : q = m
    · rw [if_pos hq, if_pos hq]; rfl
    · rw [if_neg hq, if_neg hq]
  rw [e]
  exact kq
end AO2
