theorem rdV_puto {m kf : Nat} {F : Nat → Int32} {O : Nat → Option Nat} (h : rdPos kf = none) (hb : rdOb kf = true) (v : Option Nat) : updV (rdV m F O) kf (va_rf v) = rdV m F (va_up O kf v) := by
  funext k
  by_cases hk : k = kf
  · subst hk
    simp [updV, rdV, h, hb, va_up]
  · simp [updV, rdV, hk, va_up]
theorem xxV_puto {m kf : Nat} {F : Nat → Int32} {O : Nat → Option Nat} (h : xxPos kf = none) (hb : xxOb kf = true) (v : Option Nat) : updV (xxV m F O) kf (va_rf v) = xxV m F (va_up O kf v) := by
  funext k
  by_cases hk : k = kf
  · subst hk
    simp [updV, xxV, h, hb, va_up]
  · simp [updV, xxV, hk, va_up]
section PO
variable {Λ : wL} {F : Nat → Nat → Int32} {O : Nat → Nat → Option Nat} {R : Nat → Nat → Nat → Int32} {h0 : Nat → Option wE} {i m : Nat}
variable {G : wG} {M : wM} {cc : ByteArray} {X : wX} {Z : State → Prop} {pc : Nat} {lv : List (Option Value)} {st : List Value} {k n sz index : Nat}
theorem Wrd_puto {kf a : Nat} {ty : FieldType} (hk : Lk Λ i 1 m) (hd : decode cc pc = .ok (.putfield index, 3)) (L : wFl M.1.cls index 2 kf ty false) (hn : narrow ty (.ref a) = .ref a) (hf : fits ty (.ref a) = true) (h : rdPos kf = none) (hb : rdOb kf = true) (kq : WW G M cc X Z (pc + 3) lv st (wld Λ F (va_up O i (va_up (O i) kf (some a))) R h0, sz) k n) : WW G M cc X Z pc lv (.ref a :: .ref m :: st) (wld Λ F O R h0, sz) k n := by
  refine ww_put hd L hn hf (rd_wo hk) ?_
  dsimp only
  have e : va_up (wld Λ F O R h0) m (some (.inr (2, updV (rdV m (F i) (O i)) kf (.ref a)))) = wld Λ F (va_up O i (va_up (O i) kf (some a))) R h0 := by
    have e1 := rdh_puto (m := m) (F := F i) (O := O i) (R := R i) (h0 := wld Λ F O R h0) (F i) (va_up (O i) kf (some a))
    rw [rd_wg hk, rd_wp hk, w_up_id, w_up_id] at e1
    rw [← e1, ← rdV_puto h hb (some a)]
    rfl
  rw [e]
  exact kq
theorem Wxx_puto {kf a : Nat} {ty : FieldType} (hk : Lk Λ i 0 m) (hd : decode cc pc = .ok (.putfield index, 3)) (L : wFl M.1.cls index 7 kf ty false) (hn : narrow ty (.ref a) = .ref a) (hf : fits ty (.ref a) = true) (h : xxPos kf = none) (hb : xxOb kf = true) (kq : WW G M cc X Z (pc + 3) lv st (wld Λ F (va_up O i (va_up (O i) kf (some a))) R h0, sz) k n) : WW G M cc X Z pc lv (.ref a :: .ref m :: st) (wld Λ F O R h0, sz) k n := by
  refine ww_put hd L hn hf (xx_wo hk) ?_
  dsimp only
  have e : va_up (wld Λ F O R h0) m (some (.inr (7, updV (xxV m (F i) (O i)) kf (.ref a)))) = wld Λ F (va_up O i (va_up (O i) kf (some a))) R h0 := by
    have e1 := xxh_puto (m := m) (F := F i) (O := O i) (R := R i) (h0 := wld Λ F O R h0) (F i) (va_up (O i) kf (some a))
    rw [xx_wg hk, xx_wp hk, w_up_id, w_up_id] at e1
    rw [← e1, ← xxV_puto h hb (some a)]
    rfl
  rw [e]
  exact kq
end PO
theorem wld_add {Λ : wL} {n κ m : Nat} {F : Nat → Nat → Int32} {O : Nat → Nat → Option Nat} {R : Nat → Nat → Nat → Int32} {h0 : Nat → Option wE} {F' : Nat → Int32} {O' : Nat → Option Nat} {R' : Nat → Nat → Int32} (hn : ∀ x, Λ.1 x ≠ some n) (hm : ∀ x, inK κ m x → Λ.1 x = none) : kb κ m F' O' R' (wld Λ F O R h0) = wld (lkA Λ n κ m) (va_up F n F') (va_up O n O') (va_up R n R') h0 := by
  funext x
  by_cases hx : inK κ m x
  · have e1 : (lkA Λ n κ m).1 x = some n := if_pos hx
    have e2 : (lkA Λ n κ m).2 n = (κ, m) := if_pos rfl
    simp only [wld, e1, e2, w_up_self]
    exact kb_in _ _ hx
  · rw [kb_out _ hx]
    have e1 : (lkA Λ n κ m).1 x = Λ.1 x := if_neg hx
    simp only [wld, e1]
    cases hl : Λ.1 x with
    | none => rfl
    | some j =>
      have hj : j ≠ n := fun q => hn x (by rw [hl, q])
      have e2 : (lkA Λ n κ m).2 j = Λ.2 j := if_neg hj
      simp only [e2, va_up, if_neg hj]
theorem inK_self (κ m : Nat) : inK κ m m := Or.inl rfl
theorem Lk_nn {Λ : wL} {n i κ m : Nat} (hk : Lk Λ i κ m) (hn : ∀ x, Λ.1 x ≠ some n) : i ≠ n := fun q => hn m (by rw [(hk.2 m).mp (inK_self κ m), q])
theorem Lk_old {Λ : wL} {n κ m i κ2 m2 : Nat} (hk : Lk Λ i κ2 m2) (hn : ∀ x, Λ.1 x ≠ some n) (hm : ∀ x, inK κ m x → Λ.1 x = none) : Lk (lkA Λ n κ m) i κ2 m2 := by
  have hi := Lk_nn hk hn
  refine ⟨?_, fun x => ?_⟩
  · show (if i = n then (κ, m) else Λ.2 i) = _
    rw [if_neg hi]
    exact hk.1
  · by_cases hx : inK κ m x
    · have e1 : (lkA Λ n κ m).1 x = some n := if_pos hx
      rw [e1, hk.2 x, hm x hx]
      constructor
      · intro q; cases q
      · intro q; cases q; exact absurd rfl hi
    · have e1 : (lkA Λ n κ m).1 x = Λ.1 x := if_neg hx
      rw [e1]
      exact hk.2 x
theorem Lk_new {Λ : wL} {n κ m : Nat} (hn : ∀ x, Λ.1 x ≠ some n) : Lk (lkA Λ n κ m) n κ m := by
  refine ⟨if_pos rfl, fun x => ?_⟩
  by_cases hx : inK κ m x
  · have e1 : (lkA Λ n κ m).1 x = some n := if_pos hx
    rw [e1]
    exact ⟨fun _ => rfl, fun _ => hx⟩
  · have e1 : (lkA Λ n κ m).1 x = Λ.1 x := if_neg hx
    rw [e1]
    exact ⟨fun q => absurd q hx, fun q => absurd q (hn x)⟩
theorem stepX_4 {b : Nat → Int32} {L : Nat} {X : cX} (hp : X.1 ≤ L) : (stepX b L X).2.1 4 = X.2.1 4 := by
  have hf : ∀ k : Int32, (flX b L k X).2.1 4 = X.2.1 4 := fun k => (flX_P (b := b) hp).2.2.1 4 (by decide) (by decide)
  have a1 : (ad b L X.1) ≤ L := (ad_le hp).2
  have hop : ∀ (w h : Int32) (Y : cX), Y.1 ≤ L → (opX b L w h Y).2.1 4 = Y.2.1 4 := by
    intro w h Y hY
    unfold opX
    dsimp only
    exact (upd_gt (k := 7) (v := nI (opN Y + 1)) (by decide)).trans ((ndX_P (b := b) (k := 11) hY).2.2.1 4 (by decide) (by decide))
  unfold stepX
  split
  · split
    · exact hf 4
    · split
      · have N1 := nnX_1 (b := b) (X := spX X b L (stpN X)) a1
        have N4 := nnX_o (b := b) (L := L) (k := 4) (X := spX X b L (stpN X)) (by decide) (by decide) (by decide)
        have P1 := ndX_P (b := b) (k := 1) N1
        have P2 : PP L (do1X b L (spX X b L (stpN X))).2 (nnX b L (spX X b L (stpN X))) := (nmX_P (b := b) (lo := 0) (hi := 5) P1.1).tr P1
        have P3 := (ndX_P (b := b) (k := 2) P2.1).tr P2
        have P4 : PP L (do2X b L (do1X b L (spX X b L (stpN X))).2).2 (nnX b L (spX X b L (stpN X))) := (nmX_P (b := b) (lo := 1) (hi := 99) P3.1).tr P3
        have P5 := (do3X_P (b := b) P4.1).tr P4
        have P6 := (ndX_P (b := b) (k := 13) P5.1).tr P5
        have key : ∀ (oo : Nat) (u v w : Int32) (Y : cX), (hdX oo (dX u v w Y)).2.1 = Y.2.1 := fun _ _ _ _ _ => rfl
        unfold doX
        rw [key]
        exact (P6.2.2.1 4 (by decide) (by decide)).trans N4
      · have P1 := fdX_P (b := b) (X := spX X b L (stpN X)) a1
        have P2 := (nmX_P (b := b) (lo := 0) (hi := 99) P1.1).tr P1
        have P3 := (ndX_P (b := b) (k := 13) P2.1).tr P2
        have key : ∀ (u v w z : Int32) (Y : cX), (adX u v w z Y).2.1 = Y.2.1 := fun _ _ _ _ _ => rfl
        unfold setX
        rw [key]
        exact P3.2.2.1 4 (by decide) (by decide)
  · split
    · split
      · exact hf 4
      · split
        · exact hop _ _ (fkX (spX X b L (stpN X))) a1
        · split
          · exact (hop _ _ _ (tstX_P (b := b) (X := spX X b L (stpN X)) a1).1).trans ((tstX_P (b := b) (X := spX X b L (stpN X)) a1).2 4 (by decide) (by decide))
          · exact (hop _ _ _ (tstX_P (b := b) (X := adX 3 0 0 (nI (lnN X + 2)) (spX X b L (stpN X))) a1).1).trans ((tstX_P (b := b) (X := adX 3 0 0 (nI (lnN X + 2)) (spX X b L (stpN X))) a1).2 4 (by decide) (by decide))
    · exact hf 1
def hN (Λ : wL) (r t d : Nat) (F : Nat → Nat → Int32) (O : Nat → Nat → Option Nat) (R : Nat → Nat → Nat → Int32) (h0 : Nat → Option wE) (L nb sz : Nat) (X : cX) : Nat → Option wE :=
  wld (lkA Λ nb 3 sz) (va_up (va_up (va_up (va_up F r X.2.1) t (taF (R t 0) L X.1 (F t))) d X.2.2.1) nb (fun _ => 0)) (va_up (va_up O nb (fun _ => none)) r (va_up (O r) 3 (some sz))) (va_up (va_up (va_up R r X.2.2.2.1) d X.2.2.2.2) nb (fun _ _ => 0)) h0
def finX (X : cX) : cX := (X.1, upd X.2.1 4 1, (adX 6 0 0 0 X).2.2)
def rdQ (Λ : wL) (r t d : Nat) (F : Nat → Nat → Int32) (O : Nat → Nat → Option Nat) (R : Nat → Nat → Nat → Int32) (h0 : Nat → Option wE) (L nb sz md : Nat) (res : (Nat × Nat) ⊕ aT) : Option Value → wH → Prop := fun v h2 => match res with
  | .inl e => v = some .null ∧ ∃ X2 : cX, h2 = (hX Λ r t d F O R h0 L X2, sz) ∧ Dd e X2
  | .inr A => v = some (.ref md) ∧ ∃ X2 : cX, IC A X2 ∧ wfA L A ∧ A.2.2.2.2.2.2.1 = [] ∧ h2 = (hN Λ r t d F O R h0 L nb sz (finX X2), sz + 9)
section RD
variable {G : wG} {Λ : wL} {r t d mr mt md L : Nat} {F : Nat → Nat → Int32} {O : Nat → Nat → Option Nat} {R : Nat → Nat → Nat → Int32} {h0 : Nat → Option wE} {sz : Nat} {nb : Nat}
set_option maxHeartbeats 4000000 in
theorem L3_rdN (J : hJ Λ r t d F O R L mr mt md) {X : cX} {Y : wX} {res : (Nat × Nat) ⊕ aT} {x1 : Int32} {e : Nat × Nat} (hr : res = .inl e) (hD : Dd e X) (h4 : X.2.1 4 = 0) : WW G mX3_read cX3_read Y (wZ G mX3_read Y (rdQ Λ r t d F O R h0 L nb sz md res)) 103 [some (.ref mr), some (.int x1)] [] (hX Λ r t d F O R h0 L X, sz) 0 0 := by
  subst hr
  refine ww_aload_n dX3_read_103 rfl rfl ?_
  refine Xr_geti J dX3_read_104 fX3_32 rfl rfl ?_
  refine ww_if_ne (tgt := 112) dX3_read_107 (by decide) (fun c107 => ?_) (fun c107 => ?_)
  · exact absurd c107 (fun q => q h4)
  · refine ww_null dX3_read_110 ?_
    exact ww_aret dX3_read_111 rfl (Or.inl rfl) ⟨rfl, X, rfl, hD⟩ (Nat.zero_le _) (Nat.zero_le _)
set_option maxHeartbeats 4000000 in
theorem L3_rdK (J : hJ Λ r t d F O R L mr mt md) {X : cX} {Y : wX} {res : (Nat × Nat) ⊕ aT} {x1 : Int32} {A : aT} (hfr : ∀ x, Λ.1 x ≠ some nb) (htop : ∀ x, sz ≤ x → Λ.1 x = none) (hr : res = .inr A) (hI : IC A X) (hw : wfA L A) (hG : A.2.2.2.2.2.2.1 = []) : WW G mX3_read cX3_read Y (wZ G mX3_read Y (rdQ Λ r t d F O R h0 L nb sz md res)) 103 [some (.ref mr), some (.int x1)] [] (hX Λ r t d F O R h0 L (finX X), sz) 0 0 := by
  subst hr
  refine ww_aload_n dX3_read_103 rfl rfl ?_
  refine Xr_geti J dX3_read_104 fX3_32 rfl rfl ?_
  refine ww_if_ne (tgt := 112) dX3_read_107 (by decide) (fun c107 => ?_) (fun c107 => ?_)
  · refine ww_aload_n dX3_read_112 rfl rfl ?_
    refine Wrd_geto J.1 dX3_read_113 fX3_28 rfl rfl J.2.2.2.2.1 ?_
    refine ww_astore_n dX3_read_116 rfl rfl rfl ?_
    refine ww_aload_n dX3_read_117 rfl rfl ?_
    refine ww_new dX3_read_118 nX3_25 (by decide) (by decide) ?_
    refine ww_dup dX3_read_121 rfl ?_
    refine ww_callI dX3_read_122 kX3_27 (c0_init (m := sz) (h0 := hX Λ r t d F O R h0 L (finX X))) rfl rfl rfl rfl rfl (by decide) (by decide) (fun v h' q => ?_)
    obtain ⟨rfl, rfl⟩ := q
    have hm : ∀ x, inK 3 sz x → Λ.1 x = none := fun x hx => htop x (by rcases hx with q | q; omega; have : kLo 3 = 1 := rfl; omega)
    have e1 : bbh sz (fun _ => 0) (fun _ => none) (fun _ _ => 0) (hX Λ r t d F O R h0 L (finX X)) = wld (lkA Λ nb 3 sz) (va_up (va_up (va_up (va_up F r (finX X).2.1) t (taF (R t 0) L (finX X).1 (F t))) d (finX X).2.2.1) nb (fun _ => 0)) (va_up O nb (fun _ => none)) (va_up (va_up (va_up R r (finX X).2.2.2.1) d (finX X).2.2.2.2) nb (fun _ _ => 0)) h0 := wld_add (κ := 3) hfr hm
    rw [e1]
    refine Wrd_puto (Lk_old J.1 hfr hm) dX3_read_125 fX3_28 rfl rfl rfl rfl ?_
    rw [w_up_ne _ _ (Lk_nn J.1 hfr)]
    refine ww_aload_n dX3_read_128 rfl rfl ?_
    exact ww_aret dX3_read_129 rfl (Or.inr ⟨_, rfl⟩) ⟨rfl, X, hI, hw, hG, rfl⟩ (by decide) (by decide)
  · exact absurd c107 (show ¬ (1 : Int32) = 0 by decide)
set_option maxHeartbeats 4000000 in
theorem L3_rd (J : hJ Λ r t d F O R L mr mt md) {Y : wX} {res : (Nat × Nat) ⊕ aT} (hfr : ∀ x, Λ.1 x ≠ some nb) (htop : ∀ x, sz ≤ x → Λ.1 x = none) : ∀ (n : Nat) (A : aT) (X : cX) (tn : Nat) (x1 : Int32), L - A.1 < n → tn + n ≤ 301 → x1 = nI tn → wfA L A → IC A X → apL (R t 0) L n A = res → WW G mX3_read cX3_read Y (wZ G mX3_read Y (rdQ Λ r t d F O R h0 L nb sz md res)) 6 [some (.ref mr), some (.int x1)] [] (hX Λ r t d F O R h0 L X, sz) 0 0 := by
  intro n
  induction n with
  | zero => intro A X tn x1 hn; exact absurd hn (by omega)
  | succ n ih =>
    intro A X tn x1 hn htn i1 hw hI hres
    obtain ⟨p, s, c, f, ns, cur, Γ, ro, du, ey⟩ := A
    have hw0 := hw
    have hI0 := hI
    have hcl := (code_le hw0).2
    obtain ⟨w1, w2, w3, w4, w5, w6, w7, w8, w9, w10, w11, w12⟩ := hw
    obtain ⟨j1, j2, j3, j4, j5, j6, j7, j8, j9, j10, j11, j12, j13, j14, j15, j16⟩ := hI
    dsimp only at hcl hn
    have hp : X.1 ≤ L := by rw [j1]; exact w1
    have dead : ∀ (X3 : cX) (x1 : Int32) (tm : Nat) (e : Nat × Nat), okE e → res = .inl e → Dd e X3 → X3.2.1 4 = 0 → WW G mX3_read cX3_read Y (wZ G mX3_read Y (rdQ Λ r t d F O R h0 L nb sz md res)) 6 [some (.ref mr), some (.int x1)] [] (hX Λ r t d F O R h0 L X3, sz) 0 0 := by
      intro X3 x1 tm e he hr hD h4
      have h1n : ¬ X3.2.1 1 = 0 := by rw [hD.1]; exact okE_ne he
      refine ww_iload_n dX3_read_6 rfl rfl ?_
      refine ww_sipush (v := 300) dX3_read_7 (by decide) ?_
      refine ww_icmp_gt (tgt := 103) dX3_read_10 (by decide) (fun c10 => ?_) (fun c10 => ?_)
      · exact L3_rdN J hr hD h4
      · refine ww_aload_n dX3_read_13 rfl rfl ?_
        refine Xr_geti J dX3_read_14 fX3_18 rfl rfl ?_
        refine ww_if_ne (tgt := 103) dX3_read_17 (by decide) (fun c17 => ?_) (fun c17 => ?_)
        · exact L3_rdN J hr hD h4
        · exact absurd c17 h1n
    have fini : ∀ (x1 : Int32), res = .inr (p, s, c, f, ns, cur, Γ, ro, du, ey) → Γ = [] → WW G mX3_read cX3_read Y (wZ G mX3_read Y (rdQ Λ r t d F O R h0 L nb sz md res)) 6 [some (.ref mr), some (.int x1)] [] (hX Λ r t d F O R h0 L (finX X), sz) 0 0 := by
      intro x1 hr hG
      refine ww_iload_n dX3_read_6 rfl rfl ?_
      refine ww_sipush (v := 300) dX3_read_7 (by decide) ?_
      refine ww_icmp_gt (tgt := 103) dX3_read_10 (by decide) (fun c10 => ?_) (fun c10 => ?_)
      · exact L3_rdK J hfr htop hr hI0 hw0 hG
      · refine ww_aload_n dX3_read_13 rfl rfl ?_
        refine Xr_geti J dX3_read_14 fX3_18 rfl rfl ?_
        refine ww_if_ne (tgt := 103) dX3_read_17 (by decide) (fun c17 => ?_) (fun c17 => ?_)
        · exact absurd c17 (fun q => q j2)
        · refine ww_aload_n dX3_read_20 rfl rfl ?_
          refine Xr_geti J dX3_read_21 fX3_32 rfl rfl ?_
          refine ww_if_ne (tgt := 103) dX3_read_24 (by decide) (fun c24 => ?_) (fun c24 => ?_)
          · exact L3_rdK J hfr htop hr hI0 hw0 hG
          · exact absurd c24 (show ¬ (1 : Int32) = 0 by decide)
    have hk12 : X.1 = p := j1
    have cls : kd (R t 0) L p = 12 → Γ ≠ [] → WW G mX3_read cX3_read Y (wZ G mX3_read Y (rdQ Λ r t d F O R h0 L nb sz md res)) 46 [some (.ref mr), some (.int x1)] [] (hX Λ r t d F O R h0 L X, sz) 0 0 := by
      intro k12 hne
      have hres2 : sb (apClose (R t 0) L (p, s, c, f, ns, cur, Γ, ro, du, ey)) (apL (R t 0) L n) = res := by
        rw [← hres, apL, if_neg (fun q => by have := q.1; dsimp only at this; omega), if_pos ⟨k12, hne⟩]
      refine ww_aload_n dX3_read_46 rfl rfl ?_
      refine Wrd_call J.1 dX3_read_47 kX3_71 rfl rfl (c3_closesA (X := X) (A := (p, s, c, f, ns, cur, Γ, ro, du, ey)) J hw0 hI0 hne) rfl rfl rfl rfl rfl rfl (Nat.zero_le _) (Nat.zero_le _) (fun v h2 q => ?_)
      obtain ⟨rfl, X2, rfl, hm⟩ := q
      refine ww_goto (tgt := 97) dX3_read_50 (by decide) ?_
      refine ww_iinc dX3_read_97 rfl rfl rfl rfl ?_
      refine ww_goto (tgt := 6) dX3_read_100 (by decide) ?_
      cases ha : apClose (R t 0) L (p, s, c, f, ns, cur, Γ, ro, du, ey) with
      | inl e =>
        rw [ha] at hm hres2
        exact dead X2 _ 0 e (apClose_f ha) hres2.symm hm.1 hm.2
      | inr A2 =>
        rw [ha] at hm hres2
        obtain ⟨m2, m3⟩ := apClose_wf hw0 k12 ha
        dsimp only at m3
        have m5 : A2.1 ≤ L := by
          obtain ⟨p2, s2, c2, f2, ns2, cur2, Γ2, ro2, du2, ey2⟩ := A2
          exact m2.1
        exact ih A2 X2 (tn + 1) _ (by omega) (by omega) (w_inc i1) m2 hm hres2
    have stp : ¬ (kd (R t 0) L p = 15 ∧ Γ = []) → ¬ (kd (R t 0) L p = 12 ∧ Γ ≠ []) → WW G mX3_read cX3_read Y (wZ G mX3_read Y (rdQ Λ r t d F O R h0 L nb sz md res)) 93 [some (.ref mr), some (.int x1)] [] (hX Λ r t d F O R h0 L X, sz) 0 0 := by
      intro k15 k12
      have hres2 : sb (apStep (R t 0) L (p, s, c, f, ns, cur, Γ, ro, du, ey)) (apL (R t 0) L n) = res := by
        rw [← hres, apL, if_neg k15, if_neg k12]
      refine ww_aload_n dX3_read_93 rfl rfl ?_
      refine Wrd_call0 J.1 dX3_read_94 kX3_78 rfl rfl (c3_readStep (X := X) J hp j5 j8 w9 j7 w3 j10 (by omega) j6 w6) rfl rfl rfl rfl rfl rfl (Nat.zero_le _) (Nat.zero_le _) ?_
      refine ww_iinc dX3_read_97 rfl rfl rfl rfl ?_
      refine ww_goto (tgt := 6) dX3_read_100 (by decide) ?_
      have sp := ic_step (b := R t 0) hw0 hI0
      cases ha : apStep (R t 0) L (p, s, c, f, ns, cur, Γ, ro, du, ey) with
      | inl e =>
        rw [ha] at hres2
        have he : okE e := by
          rcases sb_invl ha with q | ⟨a, -, q⟩
          · exact pStep_f q
          · cases q
        exact dead _ _ 0 e he hres2.symm (sp.1 e ha) ((stepX_4 hp).trans j4)
      | inr A2 =>
        rw [ha] at hres2
        obtain ⟨rr, q1, q2⟩ := sb_inv ha
        have q3 : apS (R t 0) L (p, s, c, f, ns, cur, Γ, ro, du, ey) rr = A2 := Sum.inr.inj q2
        have g := pStep_inv q1 w1
        have e3 : (apS (R t 0) L (p, s, c, f, ns, cur, Γ, ro, du, ey) rr).1 = rr.2.2.2.2 := by
          unfold apS
          dsimp only
          (repeat' split) <;> rfl
        have m2 := wfA_step (A := (p, s, c, f, ns, cur, Γ, ro, du, ey)) hw0 q1
        rw [q3] at m2 e3
        have g1 := g.1
        have g2 := g.2.1
        dsimp only at g1
        exact ih A2 _ (tn + 1) _ (by rw [e3]; omega) (by omega) (w_inc i1) m2 (sp.2 A2 ha) hres2
    refine ww_iload_n dX3_read_6 rfl rfl ?_
    refine ww_sipush (v := 300) dX3_read_7 (by decide) ?_
    refine ww_icmp_gt (tgt := 103) dX3_read_10 (by decide) (fun c10 => ?_) (fun c10 => ?_)
    · exact absurd c10 (by rw [i1]; exact Int32.not_lt.mpr (nI_le (b := 300) (by omega) (by decide)))
    · refine ww_aload_n dX3_read_13 rfl rfl ?_
      refine Xr_geti J dX3_read_14 fX3_18 rfl rfl ?_
      refine ww_if_ne (tgt := 103) dX3_read_17 (by decide) (fun c17 => ?_) (fun c17 => ?_)
      · exact absurd c17 (fun q => q j2)
      · refine ww_aload_n dX3_read_20 rfl rfl ?_
        refine Xr_geti J dX3_read_21 fX3_32 rfl rfl ?_
        refine ww_if_ne (tgt := 103) dX3_read_24 (by decide) (fun c24 => ?_) (fun c24 => ?_)
        · exact absurd c24 (fun q => q j4)
        · refine ww_aload_n dX3_read_27 rfl rfl ?_
          refine Wrd_geto J.1 dX3_read_28 fX3_12 rfl rfl J.2.2.2.1 ?_
          refine Xt_geti J dX3_read_31 fX3_68 rfl rfl ?_
          refine ww_bipush (v := 12) dX3_read_34 (by decide) ?_
          refine ww_icmp_ne (tgt := 53) dX3_read_36 (by decide) (fun c36 => ?_) (fun c36 => ?_)
          · refine ww_aload_n dX3_read_53 rfl rfl ?_
            refine Wrd_geto J.1 dX3_read_54 fX3_12 rfl rfl J.2.2.2.1 ?_
            refine Xt_geti J dX3_read_57 fX3_68 rfl rfl ?_
            refine ww_bipush (v := 15) dX3_read_60 (by decide) ?_
            refine ww_icmp_ne (tgt := 93) dX3_read_62 (by decide) (fun c62 => ?_) (fun c62 => ?_)
            · refine stp (fun q => ?_) (fun q => ?_)
              · exact c62 (by show nI (kd _ _ _) = nI 15; rw [hk12, q.1])
              · exact c36 (by show nI (kd _ _ _) = nI 12; rw [hk12, q.1])
            · refine ww_aload_n dX3_read_65 rfl rfl ?_
              refine Xr_geti J dX3_read_66 fX3_43 rfl rfl ?_
              refine ww_if_ne (tgt := 93) dX3_read_69 (by decide) (fun c69 => ?_) (fun c69 => ?_)
              · refine stp (fun q => ?_) (fun q => ?_)
                · have hG := q.2
                  subst hG
                  exact c69 (by show X.2.1 7 = 0; rw [j6]; rfl)
                · exact c36 (by show nI (kd _ _ _) = nI 12; rw [hk12, q.1])
              · refine ww_aload_n dX3_read_72 rfl rfl ?_
                refine Wrd_geto J.1 dX3_read_73 fX3_28 rfl rfl J.2.2.2.2.1 ?_
                refine ww_bipush (v := 6) dX3_read_76 (by decide) ?_
                refine ww_iconst (v := 0) dX3_read_78 (by decide) ?_
                refine ww_iconst (v := 0) dX3_read_79 (by decide) ?_
                refine ww_iconst (v := 0) dX3_read_80 (by decide) ?_
                refine Wbb_call1 J.2.2.1 dX3_read_81 kX3_74 rfl rfl (x3_add (X := X) J j10 (by omega)) rfl rfl rfl rfl rfl rfl (Nat.zero_le _) (Nat.zero_le _) ?_
                refine ww_pop dX3_read_84 rfl ?_
                refine ww_aload_n dX3_read_85 rfl rfl ?_
                refine ww_iconst (v := 1) dX3_read_86 (by decide) ?_
                refine Xr_putz J dX3_read_87 fX3_32 rfl rfl (Or.inr rfl) ?_
                refine ww_goto (tgt := 97) dX3_read_90 (by decide) ?_
                refine ww_iinc dX3_read_97 rfl rfl rfl rfl ?_
                refine ww_goto (tgt := 6) dX3_read_100 (by decide) ?_
                have k15 : kd (R t 0) L p = 15 := by rw [← hk12]; exact (kd_eq (b := R t 0) (L := L) (p := X.1) (k := 15) (by decide)).mp c62
                have hG : Γ = [] := by
                  cases Γ with
                  | nil => rfl
                  | cons a l => exact absurd c69 (by show ¬ X.2.1 7 = 0; rw [j6]; exact nI_ne0 (by simp) (by have := w6; omega))
                have hr : res = .inr (p, s, c, f, ns, cur, Γ, ro, du, ey) := by rw [← hres, apL, if_pos ⟨k15, hG⟩]
                exact fini _ hr hG
          · refine ww_aload_n dX3_read_39 rfl rfl ?_
            refine Xr_geti J dX3_read_40 fX3_43 rfl rfl ?_
            refine ww_if_le (tgt := 53) dX3_read_43 (by decide) (fun c43 => ?_) (fun c43 => ?_)
            · refine ww_aload_n dX3_read_53 rfl rfl ?_
              refine Wrd_geto J.1 dX3_read_54 fX3_12 rfl rfl J.2.2.2.1 ?_
              refine Xt_geti J dX3_read_57 fX3_68 rfl rfl ?_
              refine ww_bipush (v := 15) dX3_read_60 (by decide) ?_
              refine ww_icmp_ne (tgt := 93) dX3_read_62 (by decide) (fun c62 => ?_) (fun c62 => ?_)
              · refine stp (fun q => ?_) (fun q => ?_)
                · exact c62 (by show nI (kd _ _ _) = nI 15; rw [hk12, q.1])
                · have hG := q.2
                  cases Γ with
                  | nil => exact hG rfl
                  | cons a l => exact absurd c43 (by show ¬ X.2.1 7 ≤ 0; rw [j6]; exact nI_nle (by simp) (by have := w6; omega))
              · refine ww_aload_n dX3_read_65 rfl rfl ?_
                refine Xr_geti J dX3_read_66 fX3_43 rfl rfl ?_
                refine ww_if_ne (tgt := 93) dX3_read_69 (by decide) (fun c69 => ?_) (fun c69 => ?_)
                · refine stp (fun q => ?_) (fun q => ?_)
                  · have hG := q.2
                    subst hG
                    exact c69 (by show X.2.1 7 = 0; rw [j6]; rfl)
                  · have hG := q.2
                    cases Γ with
                    | nil => exact hG rfl
                    | cons a l => exact absurd c43 (by show ¬ X.2.1 7 ≤ 0; rw [j6]; exact nI_nle (by simp) (by have := w6; omega))
                · refine ww_aload_n dX3_read_72 rfl rfl ?_
                  refine Wrd_geto J.1 dX3_read_73 fX3_28 rfl rfl J.2.2.2.2.1 ?_
                  refine ww_bipush (v := 6) dX3_read_76 (by decide) ?_
                  refine ww_iconst (v := 0) dX3_read_78 (by decide) ?_
                  refine ww_iconst (v := 0) dX3_read_79 (by decide) ?_
                  refine ww_iconst (v := 0) dX3_read_80 (by decide) ?_
                  refine Wbb_call1 J.2.2.1 dX3_read_81 kX3_74 rfl rfl (x3_add (X := X) J j10 (by omega)) rfl rfl rfl rfl rfl rfl (Nat.zero_le _) (Nat.zero_le _) ?_
                  refine ww_pop dX3_read_84 rfl ?_
                  refine ww_aload_n dX3_read_85 rfl rfl ?_
                  refine ww_iconst (v := 1) dX3_read_86 (by decide) ?_
                  refine Xr_putz J dX3_read_87 fX3_32 rfl rfl (Or.inr rfl) ?_
                  refine ww_goto (tgt := 97) dX3_read_90 (by decide) ?_
                  refine ww_iinc dX3_read_97 rfl rfl rfl rfl ?_
                  refine ww_goto (tgt := 6) dX3_read_100 (by decide) ?_
                  have k15 : kd (R t 0) L p = 15 := by rw [← hk12]; exact (kd_eq (b := R t 0) (L := L) (p := X.1) (k := 15) (by decide)).mp c62
                  have hG : Γ = [] := by
                    cases Γ with
                    | nil => rfl
                    | cons a l => exact absurd c69 (by show ¬ X.2.1 7 = 0; rw [j6]; exact nI_ne0 (by simp) (by have := w6; omega))
                  have hr : res = .inr (p, s, c, f, ns, cur, Γ, ro, du, ey) := by rw [← hres, apL, if_pos ⟨k15, hG⟩]
                  exact fini _ hr hG
            · exact cls (by rw [← hk12]; exact (kd_eq (b := R t 0) (L := L) (p := X.1) (k := 12) (by decide)).mp c36) (by intro hG; subst hG; exact c43 (by show X.2.1 7 ≤ 0; rw [j6]; decide))
set_option maxHeartbeats 4000000 in
theorem c3_read (J : hJ Λ r t d F O R L mr mt md) {X : cX} (hfr : ∀ x, Λ.1 x ≠ some nb) (htop : ∀ x, sz ≤ x → Λ.1 x = none) : Sat G mX3_read [.ref mr] (hX Λ r t d F O R h0 L X, sz) (rdQ Λ r t d F O R h0 L nb sz md (apL (R t 0) L (L + 1) aT0)) := by
  refine Sat.of (by decide) [some (.ref mr), none] rfl rfl (fun Y => ?_)
  refine ww_aload_n dX3_read_0 rfl rfl ?_
  refine Wrd_call0 J.1 dX3_read_1 kX3_65 rfl rfl (c3_begin (X := X) J) rfl rfl rfl rfl rfl rfl (Nat.zero_le _) (Nat.zero_le _) ?_
  refine ww_iconst (v := 0) dX3_read_4 (by decide) ?_
  refine ww_istore_n dX3_read_5 rfl rfl rfl ?_
  have hI0 : IC aT0 (begX X) := ⟨rfl, rfl, rfl, rfl, rfl, rfl, rfl, rfl, rfl, rfl, fun i hi => absurd hi (by omega), fun i hi => absurd hi (by omega), trivial, trivial, trivial, rfl⟩
  have hw0 : wfA L aT0 := ⟨Nat.zero_le _, rfl, by decide, gd_skip, trivial, by decide, rfl, rfl, Nat.le_refl _, Nat.le_refl _, fun i hi => absurd hi (by omega), fun i j hi => absurd hi (by omega)⟩
  have hL := J.2.2.2.2.2.2.1
  exact L3_rd J hfr htop (L + 1) aT0 (begX X) 0 _ (by show L - 0 < L + 1; omega) (by omega) rfl hw0 hI0 rfl
end RD
