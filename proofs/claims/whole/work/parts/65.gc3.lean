section GC3
variable {B : Nat → Nat → Int32} {l : Nat}
theorem reC (d : Nat) (hl : l ≤ 121) : ∀ t : tT, okT t = true → ReC B l d t := by
  apply T_ind2
  · intro v hn ha hd; cases hd
  · intro e hn ha hd k sc σ F R Fin N hH hs h0 hb hh hc hk m hm
    exact hk F R hs (fun _ _ => rfl) m (by have : cst d (tDo e) σ = 1 := rfl; omega)
  · intro x hn ha hd; cases hd
  · intro p q op oq ip iq hn ha hd k sc σ F R Fin N hH hs h0 hb hh hc hk m hm
    obtain ⟨H1, H2⟩ := HC_sq hH
    obtain ⟨f1, f2, f3⟩ := nd_app hn.1
    obtain ⟨d1, d2, d3⟩ := nd_app hn.2
    rw [agT, Bool.and_eq_true] at ha
    have hz : szC (tSeq p q) = szC p + szC q := rfl
    have hfl : (fkT (tSeq p q)).length = (fkT p).length + (fkT q).length := List.length_append
    have hdl : (dsT (tSeq p q)).length = (dsT p).length + (dsT q).length := List.length_append
    have hzz : k + szC p + szC q = k + szC (tSeq p q) := Nat.add_assoc _ _ _
    have hcs : szC (tSeq p q) ≤ cst d (tSeq p q) σ := by unfold cst; split <;> omega
    have hre := re_seq d p q σ
    by_cases hda : d ∈ dsT p
    · rw [show psC (tSeq p q) k d = psC p k d from if_pos hda]
      rw [if_pos hda] at hre
      rcases hb with ⟨hb1, hb2⟩ | ⟨hb1, hb2⟩
      · have hiq : idW q (reT d p σ).1 := id_eq (eq_fr (fun f q z => f3 f z q) (fun d q z => d3 d z q) (re_fr d p op σ)) (id_eq (eqW_in2 (d3 d hda)) hb2)
        have hmp := re_mk d p op ⟨f1, d1⟩ ha.1 hda σ h0 hb1
        by_cases hf : (reT d p σ).2 = true
        · rw [if_pos hf] at hre
          rw [hre] at hk
          have hlen := cm_tr hmp.1 hf
          refine ip ⟨f1, d1⟩ ha.1 hda k sc σ F R Fin (N + szC q) H1 hs h0 hb1 (by omega) (by omega) (fun F1 R1 hs1 hp1 m1 hm1 => ?_) m (by rw [cst_t hf]; omega)
          rw [if_pos hf]
          refine enC hl q oq ⟨f2, d2⟩ ha.2 (k + szC p) sc (reT d p σ).1 F1 R1 Fin N H2 hs1 hiq (by omega) (by omega) (fun F2 R2 hs2 hp2 m2 hm2 => ?_) m1 (by omega)
          rw [hzz]
          exact hk F2 R2 hs2 (fun j hj => (hp2 j hj).trans (hp1 j hj)) m2 hm2
        · rw [if_neg hf] at hre
          rw [cst_f (by rw [hre]; exact Bool.false_ne_true)] at hm
          rw [hre] at hk
          refine ip ⟨f1, d1⟩ ha.1 hda k sc σ F R Fin N H1 hs h0 hb1 (by omega) (by omega) (fun F1 R1 hs1 hp1 m1 hm1 => ?_) m (by rw [cst_f hf]; omega)
          rw [if_neg hf]
          exact hk F1 R1 hs1 hp1 m1 hm1
      · exact absurd hb1 (not_id hda)
    · rw [show psC (tSeq p q) k d = psC q (k + szC p) d from if_neg hda]
      rw [if_neg hda] at hre
      have hdb : d ∈ dsT q := (List.mem_append.mp hd).resolve_left hda
      rcases hb with ⟨hb1, hb2⟩ | ⟨hb1, hb2⟩
      · exact absurd hb2 (not_id hdb)
      · rw [hre, ← hzz] at hk
        refine iq ⟨f2, d2⟩ ha.2 hdb (k + szC p) sc σ F R Fin N H2 hs h0 hb2 (by omega) (by omega) hk m ?_
        unfold cst at hm ⊢
        rw [hre] at hm
        split at hm
        · rename_i hq; rw [if_pos hq]; omega
        · rename_i hq; rw [if_neg hq]; omega
  · intro x p op ip hn ha hd k sc σ F R Fin N hH hs h0 hb hh hc hk m hm
    have H1 := HC_ag hH
    obtain ⟨⟨⟨i1, i2⟩, ⟨i3, i4, i5, i6⟩, i7, i8, i9⟩, j2, j3, j4, j5⟩ := hH
    rw [agT, Bool.and_eq_true] at ha
    rw [lbT, Bool.and_eq_true] at j5
    have hx : x < 400 := of_decide_eq_true j5.2
    have hz : szC (tAg x p) = szC p + 3 := rfl
    have hmp := re_mk d p op hn ha.1 hd σ h0 hb
    have hre := re_ag d x p σ
    show RC B l m (some (psC p (k + 2) d + 1)) F R Fin
    by_cases hf : (reT d p σ).2 = true
    · rw [if_pos hf] at hre
      have hlen := cm_tr hmp.1 hf
      have hlen2 : ln (reT d p σ).1 + (dsT p).length ≤ 40 := by have : (dsT (tAg x p)).length = (dsT p).length := rfl; omega
      by_cases ht : ltB x (reT d p σ).1 = true
      · have ht2 : (reT d p σ).1.1 (x / 100) < nI (x % 100) := of_decide_eq_true ht
        rw [if_pos ht] at hre
        rw [cst_f (by rw [hre]; exact Bool.false_ne_true)] at hm
        rw [hre] at hk
        have hi1 := hmp.2.1 hf
        have hfl := en_hd p op hn ha.1 ha.2 _ hi1
        refine ip hn ha.1 hd (k + 2) sc σ F R Fin (N + 2 + szC p) H1 hs h0 hb hh hc (fun F1 R1 hs1 hp1 m1 hm1 => ?_) m (by rw [cst_t hf]; omega)
        rw [if_pos hf]
        refine rc_ge (n := N) (by omega) (rc_step (fl_jump (j := k + 1) (by omega) (by rw [show k + 2 + szC p = k + szC p + 2 by omega]; exact i8) (by rw [show k + 2 + szC p = k + szC p + 2 by omega]; exact i9) (by omega)) ?_)
        refine rc_ge (n := N) (by omega) (rc_step (fl_if (f := x / 100) (j := k + szC p + 3) (by omega) i3 i4 (by omega) i6 (by omega)) ?_)
        rw [hs1.2.2.2.1 (x / 100) (by omega), i5, if_pos ht2]
        refine enC hl p op hn ha.1 (k + 1 + 1) sc (reT d p σ).1 F1 R1 Fin N H1 hs1 hi1 hh hlen2 (fun F2 R2 hs2 hp2 m2 hm2 => ?_) (m1 - 1 - 1) (by omega)
        rw [hfl, if_neg (by decide)]
        exact hk F2 R2 hs2 (fun j hj => (hp2 j hj).trans (hp1 j hj)) m2 hm2
      · have ht2 : ¬ (reT d p σ).1.1 (x / 100) < nI (x % 100) := fun z => ht (decide_eq_true z)
        rw [if_neg ht] at hre
        rw [cst_t (by rw [hre])] at hm
        rw [hre] at hk
        refine ip hn ha.1 hd (k + 2) sc σ F R Fin (N + 2) H1 hs h0 hb hh hc (fun F1 R1 hs1 hp1 m1 hm1 => ?_) m (by rw [cst_t hf]; omega)
        rw [if_pos hf]
        refine rc_ge (n := N) (by omega) (rc_step (fl_jump (j := k + 1) (by omega) (by rw [show k + 2 + szC p = k + szC p + 2 by omega]; exact i8) (by rw [show k + 2 + szC p = k + szC p + 2 by omega]; exact i9) (by omega)) ?_)
        refine rc_ge (n := N) (by omega) (rc_step (fl_if (f := x / 100) (j := k + szC p + 3) (by omega) i3 i4 (by omega) i6 (by omega)) ?_)
        rw [hs1.2.2.2.1 (x / 100) (by omega), i5, if_neg ht2]
        exact hk F1 R1 hs1 hp1 (m1 - 1 - 1) (by omega)
    · rw [if_neg hf] at hre
      rw [cst_f (by rw [hre]; exact Bool.false_ne_true)] at hm
      rw [hre] at hk
      refine ip hn ha.1 hd (k + 2) sc σ F R Fin N H1 hs h0 hb hh hc (fun F1 R1 hs1 hp1 m1 hm1 => ?_) m (by rw [cst_f hf]; omega)
      rw [if_neg hf]
      exact hk F1 R1 hs1 hp1 m1 hm1
  · intro f p q op oq ip iq hn ha hd k sc σ F R Fin N hH hs h0 hb hh hc hk m hm
    obtain ⟨H1, H2⟩ := HC_bo hH
    obtain ⟨⟨⟨i1, i2, i3⟩, i4, ⟨i5, i6, i7⟩, i8, i9, i10, i11⟩, j2, j3, j4, j5⟩ := hH
    have hz : szC (tBo f p q) = szC p + szC q + 3 := rfl
    obtain ⟨n1, n2⟩ := List.nodup_cons.mp hn.1
    obtain ⟨f1, f2, f3⟩ := nd_app n2
    obtain ⟨d1, d2, d3⟩ := nd_app hn.2
    have nfa : f ∉ fkT p := fun q => n1 (apl f q)
    have nfb : f ∉ fkT q := fun q => n1 (apr f q)
    rw [agT, Bool.and_eq_true] at ha
    have hf40 := j4 f List.mem_cons_self
    have hfl : (fkT (tBo f p q)).length = (fkT p).length + (fkT q).length + 1 := by
      show (f :: (fkT p ++ fkT q)).length = _
      rw [List.length_cons, List.length_append]
    have hdl : (dsT (tBo f p q)).length = (dsT p).length + (dsT q).length := List.length_append
    have hcs : szC (tBo f p q) ≤ cst d (tBo f p q) σ := by unfold cst; split <;> omega
    obtain ⟨hac, hb⟩ := hb
    have hac : σ.2.2.1 f = true := hac
    have h01 : σ.2.1 f = 0 ∨ σ.2.1 f = 1 := by
      rcases hb with ⟨h, -⟩ | ⟨h, -⟩
      · exact Or.inl h
      · exact Or.inr h
    have hre := re_bo d f p q σ
    by_cases hda : d ∈ dsT p
    · rw [if_pos hda] at hre
      rw [show psC (tBo f p q) k d = psC p (k + 1) d from if_pos hda]
      have hbp : bzT p (inS d σ) := by
        rcases hb with ⟨h1, h2, h3⟩ | ⟨h1, ⟨h2, h3⟩ | ⟨h2, h3⟩⟩
        · exact h2
        · exact h2
        · exact absurd h2 (not_id hda)
      have hff := (re_fr d p op σ).1 f nfa
      by_cases hf : (reT d p σ).2 = true
      · rw [if_pos hf] at hre
        rw [hre] at hk
        refine ip ⟨f1, d1⟩ ha.1 hda (k + 1) sc σ F R Fin (N + 1) H1 hs h0 hbp (by omega) (by omega) (fun F1 R1 hs1 hp1 m1 hm1 => ?_) m (by rw [cst_t hf]; omega)
        rw [if_pos hf]
        refine rc_ge (n := N) (by omega) (jnC (f := f) (e := k + szC p + szC q + 3) hf40 (k := k + 1 + szC p) (by omega) hl (by omega) (by rw [show k + 1 + szC p = k + szC p + 1 by omega]; exact i5) (by rw [show k + 1 + szC p = k + szC p + 1 by omega]; exact i6) (by rw [show k + 1 + szC p = k + szC p + 1 by omega]; exact i7) hs1 (hff.2.trans hac) (by rw [hff.1]; exact h01) (fun F4 R4 hs4 hp5 => ?_))
        rw [show k + szC p + szC q + 3 = k + szC (tBo f p q) by omega]
        exact hk F4 R4 hs4 (fun j hj => (hp5 j hj).trans (hp1 j hj)) (m1 - 1) (by omega)
      · rw [if_neg hf] at hre
        rw [cst_f (by rw [hre]; exact Bool.false_ne_true)] at hm
        rw [hre] at hk
        refine ip ⟨f1, d1⟩ ha.1 hda (k + 1) sc σ F R Fin N H1 hs h0 hbp (by omega) (by omega) (fun F1 R1 hs1 hp1 m1 hm1 => ?_) m (by rw [cst_f hf]; omega)
        rw [if_neg hf]
        exact hk F1 R1 hs1 hp1 m1 hm1
    · rw [if_neg hda] at hre
      rw [show psC (tBo f p q) k d = psC q (k + szC p + 2) d from if_neg hda]
      have hdb : d ∈ dsT q := (List.mem_append.mp hd).resolve_left hda
      have hbp : bzT q (inS d σ) := by
        rcases hb with ⟨h1, h2, h3⟩ | ⟨h1, ⟨h2, h3⟩ | ⟨h2, h3⟩⟩
        · exact h3
        · exact absurd h3 (not_id hdb)
        · exact h3
      have hff := (re_fr d q oq σ).1 f nfb
      by_cases hf : (reT d q σ).2 = true
      · rw [if_pos hf] at hre
        rw [hre] at hk
        refine iq ⟨f2, d2⟩ ha.2 hdb (k + szC p + 2) sc σ F R Fin (N + 1) H2 hs h0 hbp (by omega) (by omega) (fun F1 R1 hs1 hp1 m1 hm1 => ?_) m (by rw [cst_t hf]; omega)
        rw [if_pos hf]
        refine rc_ge (n := N) (by omega) (jnC (f := f) (e := k + szC p + szC q + 3) hf40 (k := k + szC p + 2 + szC q) (by omega) hl (by omega) (by rw [show k + szC p + 2 + szC q = k + szC p + szC q + 2 by omega]; exact i9) (by rw [show k + szC p + 2 + szC q = k + szC p + szC q + 2 by omega]; exact i10) (by rw [show k + szC p + 2 + szC q = k + szC p + szC q + 2 by omega]; exact i11) hs1 (hff.2.trans hac) (by rw [hff.1]; exact h01) (fun F4 R4 hs4 hp5 => ?_))
        rw [show k + szC p + szC q + 3 = k + szC (tBo f p q) by omega]
        exact hk F4 R4 hs4 (fun j hj => (hp5 j hj).trans (hp1 j hj)) (m1 - 1) (by omega)
      · rw [if_neg hf] at hre
        rw [cst_f (by rw [hre]; exact Bool.false_ne_true)] at hm
        rw [hre] at hk
        refine iq ⟨f2, d2⟩ ha.2 hdb (k + szC p + 2) sc σ F R Fin N H2 hs h0 hbp (by omega) (by omega) (fun F1 R1 hs1 hp1 m1 hm1 => ?_) m (by rw [cst_f hf]; omega)
        rw [if_neg hf]
        exact hk F1 R1 hs1 hp1 m1 hm1
  · intro x p q op oq ip iq hn ha hd k sc σ F R Fin N hH hs h0 hb hh hc hk m hm
    obtain ⟨H1, H2⟩ := HC_if hH
    obtain ⟨⟨⟨i1, i2, i3, i3b⟩, i4, ⟨i5, i6⟩, i8⟩, j2, j3, j4, j5⟩ := hH
    have hz : szC (tIf x p q) = szC p + szC q + 2 := rfl
    obtain ⟨f1, f2, f3⟩ := nd_app hn.1
    obtain ⟨d1, d2, d3⟩ := nd_app hn.2
    rw [agT, Bool.and_eq_true] at ha
    have hfl : (fkT (tIf x p q)).length = (fkT p).length + (fkT q).length := List.length_append
    have hdl : (dsT (tIf x p q)).length = (dsT p).length + (dsT q).length := List.length_append
    have hre := re_if d x p q σ
    by_cases hda : d ∈ dsT p
    · rw [if_pos hda] at hre
      rw [show psC (tIf x p q) k d = psC p (k + 1) d from if_pos hda]
      rcases hb with ⟨hb1, hb2⟩ | ⟨hb1, hb2⟩
      · rw [hre] at hk
        by_cases hf : (reT d p σ).2 = true
        · rw [cst_t (by rw [hre]; exact hf)] at hm
          refine ip ⟨f1, d1⟩ ha.1 hda (k + 1) sc σ F R Fin (N + 1) H1 hs h0 hb1 (by omega) (by omega) (fun F1 R1 hs1 hp1 m1 hm1 => ?_) m (by rw [cst_t hf]; omega)
          rw [if_pos hf]
          have hk2 := hk F1 R1 hs1 hp1 (m1 - 1) (by omega)
          rw [if_pos hf] at hk2
          exact rc_ge (n := N) (by omega) (rc_step (fl_jump (j := k + szC p + szC q + 2) (by omega) (by rw [show k + 1 + szC p = k + szC p + 1 by omega]; exact i5) (by rw [show k + 1 + szC p = k + szC p + 1 by omega]; exact i6) (by omega)) (by rw [show k + szC p + szC q + 2 = k + szC (tIf x p q) by omega]; exact hk2))
        · rw [cst_f (by rw [hre]; exact hf)] at hm
          refine ip ⟨f1, d1⟩ ha.1 hda (k + 1) sc σ F R Fin N H1 hs h0 hb1 (by omega) (by omega) (fun F1 R1 hs1 hp1 m1 hm1 => ?_) m (by rw [cst_f hf]; omega)
          have hk2 := hk F1 R1 hs1 hp1 m1 hm1
          rw [if_neg hf] at hk2 ⊢
          exact hk2
      · exact absurd hb1 (not_id hda)
    · rw [if_neg hda] at hre
      rw [show psC (tIf x p q) k d = psC q (k + szC p + 2) d from if_neg hda]
      have hdb : d ∈ dsT q := (List.mem_append.mp hd).resolve_left hda
      rcases hb with ⟨hb1, hb2⟩ | ⟨hb1, hb2⟩
      · exact absurd hb2 (not_id hdb)
      · rw [hre, show k + szC (tIf x p q) = k + szC p + 2 + szC q by omega] at hk
        refine iq ⟨f2, d2⟩ ha.2 hdb (k + szC p + 2) sc σ F R Fin N H2 hs h0 hb2 (by omega) (by omega) hk m ?_
        unfold cst at hm ⊢
        rw [hre] at hm
        split at hm
        · rename_i hq; rw [if_pos hq]; omega
        · rename_i hq; rw [if_neg hq]; omega
end GC3
