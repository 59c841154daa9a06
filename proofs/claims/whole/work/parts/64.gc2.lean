section GC2
variable {B : Nat → Nat → Int32} {l : Nat}
theorem rc_ge {n m k : Nat} {F : Nat → Int32} {R : Nat → Nat → Int32} {Fin : cT → Prop} (h : n + 1 ≤ m) (hk : RC B l (m - 1 + 1) (some k) F R Fin) : RC B l m (some k) F R Fin := by
  rw [show m - 1 + 1 = m by omega] at hk
  exact hk
theorem enC (hl : l ≤ 121) : ∀ t : tT, okT t = true → EnC B l t := by
  apply T_ind2
  · intro v hn ha k sc σ F R Fin N hH hs hi hh hc hk m hm
    exact hk F R hs (fun _ _ => rfl) m (by have : szC (.num v) = 0 := rfl; omega)
  · intro d hn ha k sc σ F R Fin N hH hs hi hh hc hk m hm
    obtain ⟨⟨i1, i2, i3⟩, i4, i5, i6, i7⟩ := hH
    have hz : szC (tDo d) = 1 := rfl
    have hd1 : (dsT (tDo d)).length = 1 := rfl
    refine rc_ge (n := 0) (by omega) (rc_step (fl_do (c := ln σ) (by omega) i1 i2 (i5 d (List.mem_singleton.mpr rfl)) hs.1 (by omega)) ?_)
    exact hk _ _ (SC_com hs) (fun _ _ => rfl) (m - 1) (by omega)
  · intro x hn ha k sc σ F R Fin N hH hs hi hh hc hk m hm
    obtain ⟨⟨i1, i2, i3⟩, i4, i5, i6, i7⟩ := hH
    have hz : szC (tSet x) = 1 := rfl
    have hx : x < 400 := of_decide_eq_true i7
    refine rc_ge (n := 0) (by omega) (rc_step (fl_set (by omega) i1 i2 (show x / 100 < 4 by omega)) ?_)
    rw [i3]
    exact hk _ _ (SC_set (by omega) hs) (fun _ _ => rfl) (m - 1) (by omega)
  · intro p q op oq ip iq hn ha k sc σ F R Fin N hH hs hi hh hc hk m hm
    obtain ⟨H1, H2⟩ := HC_sq hH
    obtain ⟨f1, f2, f3⟩ := nd_app hn.1
    obtain ⟨d1, d2, d3⟩ := nd_app hn.2
    rw [agT, Bool.and_eq_true] at ha
    have hz : szC (tSeq p q) = szC p + szC q := rfl
    have hfl : (fkT (tSeq p q)).length = (fkT p).length + (fkT q).length := List.length_append
    have hdl : (dsT (tSeq p q)).length = (dsT p).length + (dsT q).length := List.length_append
    have hmp := en_mk p op ⟨f1, d1⟩ σ (id_mo apl apl hi)
    have hiq : idW q (enT p σ).1 := id_eq (eq_fr (fun f q z => f3 f z q) (fun d q z => d3 d z q) (en_fr p op σ)) (id_mo apr apr hi)
    have hzz : k + szC p + szC q = k + szC (tSeq p q) := Nat.add_assoc _ _ _
    rw [en_seq] at hk
    refine ip ⟨f1, d1⟩ ha.1 k sc σ F R Fin (N + szC q) H1 hs (id_mo apl apl hi) (by omega) (by omega) (fun F1 R1 hs1 hp1 m1 hm1 => ?_) m (by omega)
    by_cases hf : (enT p σ).2 = true
    · rw [if_pos hf] at hk ⊢
      have := cm_tr hmp.1 hf
      refine iq ⟨f2, d2⟩ ha.2 (k + szC p) sc (enT p σ).1 F1 R1 Fin N H2 hs1 hiq (by omega) (by omega) (fun F2 R2 hs2 hp2 m2 hm2 => ?_) m1 (by omega)
      rw [hzz]
      exact hk F2 R2 hs2 (fun j hj => (hp2 j hj).trans (hp1 j hj)) m2 hm2
    · rw [if_neg hf] at hk ⊢
      exact hk F1 R1 hs1 hp1 m1 (by omega)
  · intro x p op ip hn ha k sc σ F R Fin N hH hs hi hh hc hk m hm
    have H1 := HC_ag hH
    obtain ⟨⟨⟨i1, i2⟩, ⟨i3, i4, i5, i6⟩, i7, i8, i9⟩, j2, j3, j4, j5⟩ := hH
    rw [agT, Bool.and_eq_true] at ha
    have hz : szC (tAg x p) = szC p + 3 := rfl
    have hf := en_hd p op hn ha.1 ha.2 σ hi
    refine rc_ge (n := 0) (by omega) (rc_step (fl_jump (by omega) i1 i2 (by omega)) ?_)
    refine ip hn ha.1 (k + 2) sc σ F R Fin N H1 hs hi hh hc (fun F1 R1 hs1 hp1 m1 hm1 => ?_) (m - 1) (by omega)
    have := hk F1 R1 hs1 hp1 m1 hm1
    have hf2 : (enT (tAg x p) σ).2 = false := hf
    rw [hf2, if_neg (by decide)] at this
    rw [hf, if_neg (by decide)]
    exact this
  · intro f p q op oq ip iq hn ha k sc σ F R Fin N hH hs hi hh hc hk m hm
    obtain ⟨H1, H2⟩ := HC_bo hH
    obtain ⟨⟨⟨i1, i2, i3⟩, i4, ⟨i5, i6, i7⟩, i8, i9, i10, i11⟩, j2, j3, j4, j5⟩ := hH
    have hz : szC (tBo f p q) = szC p + szC q + 3 := rfl
    obtain ⟨n1, n2⟩ := List.nodup_cons.mp hn.1
    obtain ⟨f1, f2, f3⟩ := nd_app n2
    obtain ⟨d1, d2, d3⟩ := nd_app hn.2
    have nfa : f ∉ fkT p := fun q => n1 (apl f q)
    have nfb : f ∉ fkT q := fun q => n1 (apr f q)
    rw [agT, Bool.and_eq_true] at ha
    have hf40 := j4 f List.mem_cons_self
    have hf0 := (hi.1 f List.mem_cons_self).1
    have hfl : (fkT (tBo f p q)).length = (fkT p).length + (fkT q).length + 1 := by
      show (f :: (fkT p ++ fkT q)).length = _
      rw [List.length_cons, List.length_append]
    have hdl : (dsT (tBo f p q)).length = (dsT p).length + (dsT q).length := List.length_append
    have hip : idW p (acS f σ) := id_eq (eqW_ac nfa) (id_mo cpl apl hi)
    have hmp := en_mk p op ⟨f1, d1⟩ (acS f σ) hip
    have h1f := en1_f (σ := σ) op nfa hf0
    have hiq : idW q (en1 f p σ) := id_eq (en1_b op nfb (fun g q z => f3 g z q) (fun d q z => d3 d z q)) (id_mo cpr apr hi)
    have hl1 : ln (en1 f p σ) = ln (enT p (acS f σ)).1 := by
      unfold en1
      split
      · show (jn f _).1.2.2.2.2.length = _
        rw [(jn_cm f _).1]
      · rfl
    have hlp := cm_up hmp.1
    have hls : ln (acS f σ) = ln σ := rfl
    have hfb := (en_fr q oq (en1 f p σ)).1 f nfb
    have hfp := (en_fr p op (acS f σ)).1 f nfa
    refine rc_ge (n := 0) (by omega) (rc_step (fl_fork (s := sc) (by omega) i1 i2 hf40 hs.2.1 (by omega)) ?_)
    rw [i3]
    have second : ∀ F2 R2, SC (en1 f p σ) (sc + 1) F2 R2 → (∀ j, j < sc + 1 → R2 5 j = upd (R 5) sc (nI (k + szC p + 2)) j) → ∀ m1, N + 1 + szC q ≤ m1 → RC B l m1 none F2 R2 Fin := by
      intro F2 R2 hs2 hp2 m1 hm1
      refine rc_pop (sc := sc) (j := k + szC p + 2) hs2.2.1 (by omega) (by rw [hp2 sc (by omega), w_upd_self]) (by omega) ?_
      refine iq ⟨f2, d2⟩ ha.2 (k + szC p + 2) sc (en1 f p σ) _ R2 Fin (N + 1) H2 (SC_pop hs2) hiq (by omega) (by omega) (fun F3 R3 hs3 hp3 m3 hm3 => ?_) m1 (by omega)
      have hp4 : ∀ j, j < sc → R3 5 j = R 5 j := fun j hj => (hp3 j hj).trans ((hp2 j (by omega)).trans (upd_lt hj))
      have hk2 := hk
      rw [en_bo] at hk2
      by_cases hq : (enT q (en1 f p σ)).2 = true
      · rw [if_pos hq] at hk2 ⊢
        refine rc_ge (n := N) (by omega) (jnC (f := f) (e := k + szC p + szC q + 3) hf40 (k := k + szC p + 2 + szC q) (by omega) hl (by omega) (by rw [show k + szC p + 2 + szC q = k + szC p + szC q + 2 by omega]; exact i9) (by rw [show k + szC p + 2 + szC q = k + szC p + szC q + 2 by omega]; exact i10) (by rw [show k + szC p + 2 + szC q = k + szC p + szC q + 2 by omega]; exact i11) hs3 (hfb.2.trans h1f.2) ?_ (fun F4 R4 hs4 hp5 => ?_))
        · rw [hfb.1, h1f.1]
          split
          · exact Or.inr rfl
          · exact Or.inl rfl
        · rw [show k + szC p + szC q + 3 = k + szC (tBo f p q) by omega]
          exact hk2 F4 R4 hs4 (fun j hj => (hp5 j hj).trans (hp4 j hj)) (m3 - 1) (by omega)
      · rw [if_neg hq] at hk2 ⊢
        exact hk2 F3 R3 hs3 hp4 m3 (by omega)
    refine ip ⟨f1, d1⟩ ha.1 (k + 1) (sc + 1) (acS f σ) _ _ Fin (N + 2 + szC q) H1 (SC_fork hf40 hf0 hs) hip (by omega) (by omega) (fun F1 R1 hs1 hp1 m1 hm1 => ?_) (m - 1) (by omega)
    have hsec := second
    unfold en1 at hsec
    by_cases hq : (enT p (acS f σ)).2 = true
    · rw [if_pos hq] at hsec ⊢
      have hen0 : (enT p (acS f σ)).1.2.1 f = 0 := hfp.1.trans hf0
      have hac : (enT p (acS f σ)).1.2.2.1 f = true := hfp.2.trans (w_up_self _ _ _)
      refine rc_ge (n := N) (by omega) (jnC (f := f) (e := k + szC p + szC q + 3) hf40 (k := k + 1 + szC p) (by omega) hl (by omega) (by rw [show k + 1 + szC p = k + szC p + 1 by omega]; exact i5) (by rw [show k + 1 + szC p = k + szC p + 1 by omega]; exact i6) (by rw [show k + 1 + szC p = k + szC p + 1 by omega]; exact i7) hs1 hac (Or.inl hen0) (fun F4 R4 hs4 hp5 => ?_))
      have hjf : (jn f (enT p (acS f σ)).1).2 = false := by rw [jn_0 hen0]
      rw [hjf, if_neg (by decide)]
      exact hsec F4 R4 hs4 (fun j hj => (hp5 j hj).trans (hp1 j hj)) (m1 - 1) (by omega)
    · rw [if_neg hq] at hsec ⊢
      exact hsec F1 R1 hs1 hp1 m1 (by omega)
  · intro x p q op oq ip iq hn ha k sc σ F R Fin N hH hs hi hh hc hk m hm
    obtain ⟨H1, H2⟩ := HC_if hH
    obtain ⟨⟨⟨i1, i2, i3, i3b⟩, i4, ⟨i5, i6⟩, i8⟩, j2, j3, j4, j5⟩ := hH
    have hz : szC (tIf x p q) = szC p + szC q + 2 := rfl
    obtain ⟨f1, f2, f3⟩ := nd_app hn.1
    obtain ⟨d1, d2, d3⟩ := nd_app hn.2
    rw [agT, Bool.and_eq_true] at ha
    rw [lbT, Bool.and_eq_true] at j5
    have hx : x < 400 := of_decide_eq_true j5.2
    have hfl : (fkT (tIf x p q)).length = (fkT p).length + (fkT q).length := List.length_append
    have hdl : (dsT (tIf x p q)).length = (dsT p).length + (dsT q).length := List.length_append
    refine rc_ge (n := 0) (by omega) (rc_step (fl_if (f := x / 100) (j := k + szC p + 2) (by omega) i1 i2 (by omega) i3b (by omega)) ?_)
    rw [hs.2.2.2.1 (x / 100) (by omega), i3]
    rw [en_if] at hk
    by_cases ht : ltB x σ = true
    · have ht2 : σ.1 (x / 100) < nI (x % 100) := of_decide_eq_true ht
      rw [if_pos ht2]
      rw [if_pos ht] at hk
      refine ip ⟨f1, d1⟩ ha.1 (k + 1) sc σ F R Fin (N + 1) H1 hs (id_mo apl apl hi) (by omega) (by omega) (fun F1 R1 hs1 hp1 m1 hm1 => ?_) (m - 1) (by omega)
      by_cases hq : (enT p σ).2 = true
      · rw [if_pos hq]
        have hk2 := hk F1 R1 hs1 hp1 (m1 - 1) (by omega)
        rw [if_pos hq] at hk2
        exact rc_ge (n := N) (by omega) (rc_step (fl_jump (j := k + szC p + szC q + 2) (by omega) (by rw [show k + 1 + szC p = k + szC p + 1 by omega]; exact i5) (by rw [show k + 1 + szC p = k + szC p + 1 by omega]; exact i6) (by omega)) (by rw [show k + szC p + szC q + 2 = k + szC (tIf x p q) by omega]; exact hk2))
      · have hk2 := hk F1 R1 hs1 hp1 m1 (by omega)
        rw [if_neg hq] at hk2 ⊢
        exact hk2
    · have ht2 : ¬ σ.1 (x / 100) < nI (x % 100) := fun z => ht (decide_eq_true z)
      rw [if_neg ht2]
      rw [if_neg ht] at hk
      refine iq ⟨f2, d2⟩ ha.2 (k + szC p + 2) sc σ F R Fin N H2 hs (id_mo apr apr hi) (by omega) (by omega) (fun F1 R1 hs1 hp1 m1 hm1 => ?_) (m - 1) (by omega)
      rw [show k + szC p + 2 + szC q = k + szC (tIf x p q) by omega]
      exact hk F1 R1 hs1 hp1 m1 hm1
def psC : tT → Nat → Nat → Nat
  | .add a b, k, d => if d ∈ dsT a then psC a k d else psC b (k + szC a) d
  | .pow a _, k, d => psC a (k + 2) d
  | .sub (.pow a _) b, k, d => if d ∈ dsT a then psC a (k + 1) d else psC b (k + szC a + 2) d
  | .mul (.pow a _) b, k, d => if d ∈ dsT a then psC a (k + 1) d else psC b (k + szC a + 2) d
  | _, k, _ => k
/-- where the rows hold the tree, the row of places says where each do stands -/
theorem ps_C {o a n t pl : Nat → Int32} : ∀ p : tT, okT p = true → ∀ k, iC o a n t pl p k → ∀ d, d ∈ dsT p → pl d = nI (psC p k d) := by
  apply T_ind2
  · intro v k h d hd; cases hd
  · intro e k h d hd
    rw [List.mem_singleton.mp hd]
    exact h.2.2
  · intro x k h d hd; cases hd
  · intro p q op oq ip iq k h d hd
    by_cases hda : d ∈ dsT p
    · rw [show psC (tSeq p q) k d = psC p k d from if_pos hda]; exact ip k h.1 d hda
    · rw [show psC (tSeq p q) k d = psC q (k + szC p) d from if_neg hda]; exact iq _ h.2 d ((List.mem_append.mp hd).resolve_left hda)
  · intro x p op ip k h d hd; exact ip (k + 2) h.2.2.1 d hd
  · intro f p q op oq ip iq k h d hd
    by_cases hda : d ∈ dsT p
    · rw [show psC (tBo f p q) k d = psC p (k + 1) d from if_pos hda]; exact ip _ h.2.1 d hda
    · rw [show psC (tBo f p q) k d = psC q (k + szC p + 2) d from if_neg hda]; exact iq _ h.2.2.2.1 d ((List.mem_append.mp hd).resolve_left hda)
  · intro x p q op oq ip iq k h d hd
    by_cases hda : d ∈ dsT p
    · rw [show psC (tIf x p q) k d = psC p (k + 1) d from if_pos hda]; exact ip _ h.2.1 d hda
    · rw [show psC (tIf x p q) k d = psC q (k + szC p + 2) d from if_neg hda]; exact iq _ h.2.2.2 d ((List.mem_append.mp hd).resolve_left hda)
def cst (d : Nat) (t : tT) (σ : wS) : Nat := if (reT d t σ).2 = true then szC t else 2 * szC t
def ReC (B : Nat → Nat → Int32) (l d : Nat) (t : tT) : Prop := ndT t → agT t = true → d ∈ dsT t → ∀ (k sc : Nat) (σ : wS) (F : Nat → Int32) (R : Nat → Nat → Int32) (Fin : cT → Prop) (N : Nat), HC l B t k → SC σ sc F R → σ.2.2.2.1 d = 0 → bzT t (inS d σ) → sc + (fkT t).length ≤ 40 → ln σ + (dsT t).length ≤ 40 → CnC B l N (reT d t σ) (k + szC t) sc R Fin → ∀ m, N + cst d t σ ≤ m → RC B l m (some (psC t k d + 1)) F R Fin
theorem cst_le (d : Nat) (t : tT) (σ : wS) : cst d t σ ≤ 2 * szC t := by
  unfold cst
  split <;> omega
theorem cst_t {d : Nat} {t : tT} {σ : wS} (h : (reT d t σ).2 = true) : cst d t σ = szC t := if_pos h
theorem cst_f {d : Nat} {t : tT} {σ : wS} (h : ¬ (reT d t σ).2 = true) : cst d t σ = 2 * szC t := if_neg h
end GC2
