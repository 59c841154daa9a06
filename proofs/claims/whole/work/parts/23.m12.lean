section M12
variable {G : wG} {m : Nat} {F : Nat → Int32} {tl : Int64} {R : Nat → Nat → Int32} {NL : Nat → Int64} {h0 : Nat → Option wE} {sz : Nat}
theorem c9_isWellB : Sat G mX9_isWell [.ref m] (mh m F tl R NL h0, sz) (Det (some (.int (wb (decide (F 7 = 0))))) (mh m F tl R NL h0, sz)) := by
  have h := c9_isWell (G := G) (m := m) (F := F) (tl := tl) (R := R) (NL := NL) (h0 := h0) (sz := sz)
  rw [show wb (decide (F 7 = 0)) = if F 7 = 0 then 1 else 0 by simp [wb]]
  exact h
def sgB (F : Nat → Int32) (tl : Int64) (so : Int32) (x : Int32) : Bool := decide (F 7 = 0) && decide (F 4 = so) && decide (tl = x.toInt64)

set_option maxHeartbeats 4000000 in
theorem c9_isSign {x : Int32} : Sat G mX9_isSign [.ref m, .int x] (mh m F tl R NL h0, sz) (Det (some (.int (wb (sgB F tl 4 x)))) (mh m F tl R NL h0, sz)) := by
  refine Sat.of (by decide) [some (.ref m), some (.int x)] rfl rfl (fun X => ?_)
  refine ww_aload_n dX9_isSign_0 rfl rfl ?_
  refine mm_call1 dX9_isSign_1 kX9_225 rfl c9_isWellB rfl rfl rfl rfl rfl rfl (Nat.zero_le _) (Nat.zero_le _) ?_
  refine ww_if_eq (tgt := 29) dX9_isSign_4 (by decide) (fun c4 => ?_) (fun c4 => ?_)
  · refine ww_iconst (v := 0) dX9_isSign_29 (by decide) ?_
    exact ww_zret dX9_isSign_30 rfl (Or.inl rfl) ⟨by rw [sgB, wb_eq0.mp c4]; rfl, rfl⟩ (Nat.zero_le _) (Nat.zero_le _)
  · refine ww_aload_n dX9_isSign_7 rfl rfl ?_
    refine mm_geti dX9_isSign_8 fX9_197 rfl rfl ?_
    refine ww_iconst (v := 4) dX9_isSign_11 (by decide) ?_
    refine ww_icmp_ne (tgt := 29) dX9_isSign_12 (by decide) (fun c12 => ?_) (fun c12 => ?_)
    · refine ww_iconst (v := 0) dX9_isSign_29 (by decide) ?_
      exact ww_zret dX9_isSign_30 rfl (Or.inl rfl) ⟨by rw [sgB, decide_eq_false c12]; simp [wb], rfl⟩ (Nat.zero_le _) (Nat.zero_le _)
    · refine ww_aload_n dX9_isSign_15 rfl rfl ?_
      refine mm_getl dX9_isSign_16 fX9_193 ?_
      refine ww_iload_n dX9_isSign_19 rfl rfl ?_
      refine ww_i2l dX9_isSign_20 ?_
      refine ww_lcmp dX9_isSign_21 ?_
      refine ww_if_ne (tgt := 29) dX9_isSign_22 (by decide) (fun c22 => ?_) (fun c22 => ?_)
      · refine ww_iconst (v := 0) dX9_isSign_29 (by decide) ?_
        exact ww_zret dX9_isSign_30 rfl (Or.inl rfl) ⟨by rw [sgB, decide_eq_false (fun q => c22 ((lgc_eq _ _).mpr q))]; simp [wb], rfl⟩ (Nat.zero_le _) (Nat.zero_le _)
      · refine ww_iconst (v := 1) dX9_isSign_25 (by decide) ?_
        refine ww_goto (tgt := 30) dX9_isSign_26 (by decide) ?_
        exact ww_zret dX9_isSign_30 rfl (Or.inr rfl) ⟨by rw [sgB, wb_ne0.mp c4, decide_eq_true c12, decide_eq_true ((lgc_eq _ _).mp c22)]; rfl, rfl⟩ (Nat.zero_le _) (Nat.zero_le _)
set_option maxHeartbeats 4000000 in
theorem c9_isWord {x : Int32} : Sat G mX9_isWord [.ref m, .int x] (mh m F tl R NL h0, sz) (Det (some (.int (wb (sgB F tl 2 x)))) (mh m F tl R NL h0, sz)) := by
  refine Sat.of (by decide) [some (.ref m), some (.int x)] rfl rfl (fun X => ?_)
  refine ww_aload_n dX9_isWord_0 rfl rfl ?_
  refine mm_call1 dX9_isWord_1 kX9_225 rfl c9_isWellB rfl rfl rfl rfl rfl rfl (Nat.zero_le _) (Nat.zero_le _) ?_
  refine ww_if_eq (tgt := 29) dX9_isWord_4 (by decide) (fun c4 => ?_) (fun c4 => ?_)
  · refine ww_iconst (v := 0) dX9_isWord_29 (by decide) ?_
    exact ww_zret dX9_isWord_30 rfl (Or.inl rfl) ⟨by rw [sgB, wb_eq0.mp c4]; rfl, rfl⟩ (Nat.zero_le _) (Nat.zero_le _)
  · refine ww_aload_n dX9_isWord_7 rfl rfl ?_
    refine mm_geti dX9_isWord_8 fX9_197 rfl rfl ?_
    refine ww_iconst (v := 2) dX9_isWord_11 (by decide) ?_
    refine ww_icmp_ne (tgt := 29) dX9_isWord_12 (by decide) (fun c12 => ?_) (fun c12 => ?_)
    · refine ww_iconst (v := 0) dX9_isWord_29 (by decide) ?_
      exact ww_zret dX9_isWord_30 rfl (Or.inl rfl) ⟨by rw [sgB, decide_eq_false c12]; simp [wb], rfl⟩ (Nat.zero_le _) (Nat.zero_le _)
    · refine ww_aload_n dX9_isWord_15 rfl rfl ?_
      refine mm_getl dX9_isWord_16 fX9_193 ?_
      refine ww_iload_n dX9_isWord_19 rfl rfl ?_
      refine ww_i2l dX9_isWord_20 ?_
      refine ww_lcmp dX9_isWord_21 ?_
      refine ww_if_ne (tgt := 29) dX9_isWord_22 (by decide) (fun c22 => ?_) (fun c22 => ?_)
      · refine ww_iconst (v := 0) dX9_isWord_29 (by decide) ?_
        exact ww_zret dX9_isWord_30 rfl (Or.inl rfl) ⟨by rw [sgB, decide_eq_false (fun q => c22 ((lgc_eq _ _).mpr q))]; simp [wb], rfl⟩ (Nat.zero_le _) (Nat.zero_le _)
      · refine ww_iconst (v := 1) dX9_isWord_25 (by decide) ?_
        refine ww_goto (tgt := 30) dX9_isWord_26 (by decide) ?_
        exact ww_zret dX9_isWord_30 rfl (Or.inr rfl) ⟨by rw [sgB, wb_ne0.mp c4, decide_eq_true c12, decide_eq_true ((lgc_eq _ _).mp c22)]; rfl, rfl⟩ (Nat.zero_le _) (Nat.zero_le _)
set_option maxHeartbeats 4000000 in
theorem c9_takesK {x y : Int32} {L p : Nat} (hs : sgB F tl 4 x = true) (hL : y = nI L) (hL2 : L ≤ 300) (hp : F 2 = nI p) (hpL : p ≤ L) : Sat G mX9_takes [.ref m, .int x, .int y] (mh m F tl R NL h0, sz) (Det none (mh m (nxF (R 0) L p F) (nxT (R 0) L p) R NL h0, sz)) := by
  refine Sat.of (by decide) [some (.ref m), some (.int x), some (.int y)] rfl rfl (fun X => ?_)
  refine ww_aload_n dX9_takes_0 rfl rfl ?_
  refine ww_iload_n dX9_takes_1 rfl rfl ?_
  refine mm_call1 dX9_takes_2 kX9_229 rfl c9_isSign rfl rfl rfl rfl rfl rfl (Nat.zero_le _) (Nat.zero_le _) ?_
  refine ww_if_eq (tgt := 16) dX9_takes_5 (by decide) (fun c5 => ?_) (fun c5 => ?_)
  · exact absurd c5 (wb_ne0.mpr hs)
  · refine ww_aload_n dX9_takes_8 rfl rfl ?_
    refine ww_iload_n dX9_takes_9 rfl rfl ?_
    refine mm_call0 dX9_takes_10 kX9_233 rfl (c9_next hL hL2 hp hpL) rfl rfl rfl rfl rfl rfl (Nat.zero_le _) (Nat.zero_le _) ?_
    refine ww_goto (tgt := 21) dX9_takes_13 (by decide) ?_
    exact ww_vret dX9_takes_21 rfl ⟨rfl, rfl⟩ (Nat.zero_le _) (Nat.zero_le _)
set_option maxHeartbeats 4000000 in
theorem c9_takesB {x y : Int32} (hw : F 7 = 0) (hs : sgB F tl 4 x = false) : Sat G mX9_takes [.ref m, .int x, .int y] (mh m F tl R NL h0, sz) (Det none (mh m (upd (upd F 7 1) 8 (F 3)) tl R NL h0, sz)) := by
  refine Sat.of (by decide) [some (.ref m), some (.int x), some (.int y)] rfl rfl (fun X => ?_)
  refine ww_aload_n dX9_takes_0 rfl rfl ?_
  refine ww_iload_n dX9_takes_1 rfl rfl ?_
  refine mm_call1 dX9_takes_2 kX9_229 rfl c9_isSign rfl rfl rfl rfl rfl rfl (Nat.zero_le _) (Nat.zero_le _) ?_
  refine ww_if_eq (tgt := 16) dX9_takes_5 (by decide) (fun c5 => ?_) (fun c5 => ?_)
  · refine ww_aload_n dX9_takes_16 rfl rfl ?_
    refine ww_iconst (v := 1) dX9_takes_17 (by decide) ?_
    refine mm_call0 dX9_takes_18 kX9_236 rfl c9_fails rfl rfl rfl rfl rfl rfl (Nat.zero_le _) (Nat.zero_le _) ?_
    exact ww_vret dX9_takes_21 rfl ⟨rfl, by rw [if_pos hw]⟩ (Nat.zero_le _) (Nat.zero_le _)
  · exact absurd c5 (fun q => q (wb_eq0.mpr hs))
set_option maxHeartbeats 4000000 in
theorem c9_takesD {x y : Int32} (hw : ¬ F 7 = 0) : Sat G mX9_takes [.ref m, .int x, .int y] (mh m F tl R NL h0, sz) (Det none (mh m F tl R NL h0, sz)) := by
  refine Sat.of (by decide) [some (.ref m), some (.int x), some (.int y)] rfl rfl (fun X => ?_)
  refine ww_aload_n dX9_takes_0 rfl rfl ?_
  refine ww_iload_n dX9_takes_1 rfl rfl ?_
  refine mm_call1 dX9_takes_2 kX9_229 rfl c9_isSign rfl rfl rfl rfl rfl rfl (Nat.zero_le _) (Nat.zero_le _) ?_
  refine ww_if_eq (tgt := 16) dX9_takes_5 (by decide) (fun c5 => ?_) (fun c5 => ?_)
  · refine ww_aload_n dX9_takes_16 rfl rfl ?_
    refine ww_iconst (v := 1) dX9_takes_17 (by decide) ?_
    refine mm_call0 dX9_takes_18 kX9_236 rfl c9_fails rfl rfl rfl rfl rfl rfl (Nat.zero_le _) (Nat.zero_le _) ?_
    exact ww_vret dX9_takes_21 rfl ⟨rfl, by rw [if_neg hw]⟩ (Nat.zero_le _) (Nat.zero_le _)
  · exact absurd c5 (fun q => q (wb_eq0.mpr (by rw [sgB, decide_eq_false hw]; rfl)))
set_option maxHeartbeats 4000000 in
theorem c9_takesWordK {x y : Int32} {L p : Nat} (hs : sgB F tl 2 x = true) (hL : y = nI L) (hL2 : L ≤ 300) (hp : F 2 = nI p) (hpL : p ≤ L) : Sat G mX9_takesWord [.ref m, .int x, .int y] (mh m F tl R NL h0, sz) (Det none (mh m (nxF (R 0) L p F) (nxT (R 0) L p) R NL h0, sz)) := by
  refine Sat.of (by decide) [some (.ref m), some (.int x), some (.int y)] rfl rfl (fun X => ?_)
  refine ww_aload_n dX9_takesWord_0 rfl rfl ?_
  refine ww_iload_n dX9_takesWord_1 rfl rfl ?_
  refine mm_call1 dX9_takesWord_2 kX9_239 rfl c9_isWord rfl rfl rfl rfl rfl rfl (Nat.zero_le _) (Nat.zero_le _) ?_
  refine ww_if_eq (tgt := 16) dX9_takesWord_5 (by decide) (fun c5 => ?_) (fun c5 => ?_)
  · exact absurd c5 (wb_ne0.mpr hs)
  · refine ww_aload_n dX9_takesWord_8 rfl rfl ?_
    refine ww_iload_n dX9_takesWord_9 rfl rfl ?_
    refine mm_call0 dX9_takesWord_10 kX9_233 rfl (c9_next hL hL2 hp hpL) rfl rfl rfl rfl rfl rfl (Nat.zero_le _) (Nat.zero_le _) ?_
    refine ww_goto (tgt := 21) dX9_takesWord_13 (by decide) ?_
    exact ww_vret dX9_takesWord_21 rfl ⟨rfl, rfl⟩ (Nat.zero_le _) (Nat.zero_le _)
set_option maxHeartbeats 4000000 in
theorem c9_takesWordB {x y : Int32} (hw : F 7 = 0) (hs : sgB F tl 2 x = false) : Sat G mX9_takesWord [.ref m, .int x, .int y] (mh m F tl R NL h0, sz) (Det none (mh m (upd (upd F 7 1) 8 (F 3)) tl R NL h0, sz)) := by
  refine Sat.of (by decide) [some (.ref m), some (.int x), some (.int y)] rfl rfl (fun X => ?_)
  refine ww_aload_n dX9_takesWord_0 rfl rfl ?_
  refine ww_iload_n dX9_takesWord_1 rfl rfl ?_
  refine mm_call1 dX9_takesWord_2 kX9_239 rfl c9_isWord rfl rfl rfl rfl rfl rfl (Nat.zero_le _) (Nat.zero_le _) ?_
  refine ww_if_eq (tgt := 16) dX9_takesWord_5 (by decide) (fun c5 => ?_) (fun c5 => ?_)
  · refine ww_aload_n dX9_takesWord_16 rfl rfl ?_
    refine ww_iconst (v := 1) dX9_takesWord_17 (by decide) ?_
    refine mm_call0 dX9_takesWord_18 kX9_236 rfl c9_fails rfl rfl rfl rfl rfl rfl (Nat.zero_le _) (Nat.zero_le _) ?_
    exact ww_vret dX9_takesWord_21 rfl ⟨rfl, by rw [if_pos hw]⟩ (Nat.zero_le _) (Nat.zero_le _)
  · exact absurd c5 (fun q => q (wb_eq0.mpr hs))
set_option maxHeartbeats 4000000 in
theorem c9_takesWordD {x y : Int32} (hw : ¬ F 7 = 0) : Sat G mX9_takesWord [.ref m, .int x, .int y] (mh m F tl R NL h0, sz) (Det none (mh m F tl R NL h0, sz)) := by
  refine Sat.of (by decide) [some (.ref m), some (.int x), some (.int y)] rfl rfl (fun X => ?_)
  refine ww_aload_n dX9_takesWord_0 rfl rfl ?_
  refine ww_iload_n dX9_takesWord_1 rfl rfl ?_
  refine mm_call1 dX9_takesWord_2 kX9_239 rfl c9_isWord rfl rfl rfl rfl rfl rfl (Nat.zero_le _) (Nat.zero_le _) ?_
  refine ww_if_eq (tgt := 16) dX9_takesWord_5 (by decide) (fun c5 => ?_) (fun c5 => ?_)
  · refine ww_aload_n dX9_takesWord_16 rfl rfl ?_
    refine ww_iconst (v := 1) dX9_takesWord_17 (by decide) ?_
    refine mm_call0 dX9_takesWord_18 kX9_236 rfl c9_fails rfl rfl rfl rfl rfl rfl (Nat.zero_le _) (Nat.zero_le _) ?_
    exact ww_vret dX9_takesWord_21 rfl ⟨rfl, by rw [if_neg hw]⟩ (Nat.zero_le _) (Nat.zero_le _)
  · exact absurd c5 (fun q => q (wb_eq0.mpr (by rw [sgB, decide_eq_false hw]; rfl)))
set_option maxHeartbeats 4000000 in
theorem c9_numberK {x y z : Int32} {L p : Nat} (hw : F 7 = 0) (h3 : F 4 = 3) (hr : x.toInt64 ≤ tl ∧ tl ≤ y.toInt64) (hL : z = nI L) (hL2 : L ≤ 300) (hp : F 2 = nI p) (hpL : p ≤ L) : Sat G mX9_number [.ref m, .int x, .int y, .int z] (mh m F tl R NL h0, sz) (Det (some (.int tl.toInt32)) (mh m (nxF (R 0) L p F) (nxT (R 0) L p) R NL h0, sz)) := by
  refine Sat.of (by decide) [some (.ref m), some (.int x), some (.int y), some (.int z), none] rfl rfl (fun X => ?_)
  refine ww_aload_n dX9_number_0 rfl rfl ?_
  refine mm_call1 dX9_number_1 kX9_225 rfl c9_isWellB rfl rfl rfl rfl rfl rfl (Nat.zero_le _) (Nat.zero_le _) ?_
  refine ww_if_eq (tgt := 15) dX9_number_4 (by decide) (fun c4 => ?_) (fun c4 => ?_)
  · exact absurd c4 (wb_ne0.mpr (decide_eq_true hw))
  · refine ww_aload_n dX9_number_7 rfl rfl ?_
    refine mm_geti dX9_number_8 fX9_197 rfl rfl ?_
    refine ww_iconst (v := 3) dX9_number_11 (by decide) ?_
    refine ww_icmp_eq (tgt := 22) dX9_number_12 (by decide) (fun c12 => ?_) (fun c12 => ?_)
    · refine ww_aload_n dX9_number_22 rfl rfl ?_
      refine mm_getl dX9_number_23 fX9_193 ?_
      refine ww_iload_n dX9_number_26 rfl rfl ?_
      refine ww_i2l dX9_number_27 ?_
      refine ww_iload_n dX9_number_28 rfl rfl ?_
      refine ww_i2l dX9_number_29 ?_
      refine ww_calls1 dX9_number_30 kX9_177 c9_in rfl rfl rfl rfl rfl rfl (Nat.zero_le _) (Nat.zero_le _) ?_
      refine ww_if_ne (tgt := 43) dX9_number_33 (by decide) (fun c33 => ?_) (fun c33 => ?_)
      · refine ww_aload_n dX9_number_43 rfl rfl ?_
        refine mm_getl dX9_number_44 fX9_193 ?_
        refine ww_l2i dX9_number_47 ?_
        refine ww_istore dX9_number_48 rfl rfl ?_
        refine ww_aload_n dX9_number_50 rfl rfl ?_
        refine ww_iload_n dX9_number_51 rfl rfl ?_
        refine mm_call0 dX9_number_52 kX9_233 rfl (c9_next hL hL2 hp hpL) rfl rfl rfl rfl rfl rfl (Nat.zero_le _) (Nat.zero_le _) ?_
        refine ww_iload dX9_number_55 rfl ?_
        exact ww_iret dX9_number_57 rfl ⟨rfl, rfl⟩ (Nat.zero_le _) (Nat.zero_le _)
      · exact absurd c33 (wb_ne0.mpr (decide_eq_true hr))
    · exact absurd c12 (fun q => q h3)
set_option maxHeartbeats 4000000 in
theorem c9_numberB1 {x y z : Int32} (hw : F 7 = 0) (h3 : ¬ F 4 = 3) : Sat G mX9_number [.ref m, .int x, .int y, .int z] (mh m F tl R NL h0, sz) (Det (some (.int x)) (mh m (upd (upd F 7 1) 8 (F 3)) tl R NL h0, sz)) := by
  refine Sat.of (by decide) [some (.ref m), some (.int x), some (.int y), some (.int z), none] rfl rfl (fun X => ?_)
  refine ww_aload_n dX9_number_0 rfl rfl ?_
  refine mm_call1 dX9_number_1 kX9_225 rfl c9_isWellB rfl rfl rfl rfl rfl rfl (Nat.zero_le _) (Nat.zero_le _) ?_
  refine ww_if_eq (tgt := 15) dX9_number_4 (by decide) (fun c4 => ?_) (fun c4 => ?_)
  · exact absurd c4 (wb_ne0.mpr (decide_eq_true hw))
  · refine ww_aload_n dX9_number_7 rfl rfl ?_
    refine mm_geti dX9_number_8 fX9_197 rfl rfl ?_
    refine ww_iconst (v := 3) dX9_number_11 (by decide) ?_
    refine ww_icmp_eq (tgt := 22) dX9_number_12 (by decide) (fun c12 => ?_) (fun c12 => ?_)
    · exact absurd c12 h3
    · refine ww_aload_n dX9_number_15 rfl rfl ?_
      refine ww_iconst (v := 1) dX9_number_16 (by decide) ?_
      refine mm_call0 dX9_number_17 kX9_236 rfl c9_fails rfl rfl rfl rfl rfl rfl (Nat.zero_le _) (Nat.zero_le _) ?_
      refine ww_iload_n dX9_number_20 rfl rfl ?_
      exact ww_iret dX9_number_21 rfl ⟨rfl, by rw [if_pos hw]⟩ (Nat.zero_le _) (Nat.zero_le _)
set_option maxHeartbeats 4000000 in
theorem c9_numberB3 {x y z : Int32} (hw : F 7 = 0) (h3 : F 4 = 3) (hr : ¬ (x.toInt64 ≤ tl ∧ tl ≤ y.toInt64)) : Sat G mX9_number [.ref m, .int x, .int y, .int z] (mh m F tl R NL h0, sz) (Det (some (.int x)) (mh m (upd (upd F 7 3) 8 (F 3)) tl R NL h0, sz)) := by
  refine Sat.of (by decide) [some (.ref m), some (.int x), some (.int y), some (.int z), none] rfl rfl (fun X => ?_)
  refine ww_aload_n dX9_number_0 rfl rfl ?_
  refine mm_call1 dX9_number_1 kX9_225 rfl c9_isWellB rfl rfl rfl rfl rfl rfl (Nat.zero_le _) (Nat.zero_le _) ?_
  refine ww_if_eq (tgt := 15) dX9_number_4 (by decide) (fun c4 => ?_) (fun c4 => ?_)
  · exact absurd c4 (wb_ne0.mpr (decide_eq_true hw))
  · refine ww_aload_n dX9_number_7 rfl rfl ?_
    refine mm_geti dX9_number_8 fX9_197 rfl rfl ?_
    refine ww_iconst (v := 3) dX9_number_11 (by decide) ?_
    refine ww_icmp_eq (tgt := 22) dX9_number_12 (by decide) (fun c12 => ?_) (fun c12 => ?_)
    · refine ww_aload_n dX9_number_22 rfl rfl ?_
      refine mm_getl dX9_number_23 fX9_193 ?_
      refine ww_iload_n dX9_number_26 rfl rfl ?_
      refine ww_i2l dX9_number_27 ?_
      refine ww_iload_n dX9_number_28 rfl rfl ?_
      refine ww_i2l dX9_number_29 ?_
      refine ww_calls1 dX9_number_30 kX9_177 c9_in rfl rfl rfl rfl rfl rfl (Nat.zero_le _) (Nat.zero_le _) ?_
      refine ww_if_ne (tgt := 43) dX9_number_33 (by decide) (fun c33 => ?_) (fun c33 => ?_)
      · exact absurd c33 (fun q => q (wb_eq0.mpr (decide_eq_false hr)))
      · refine ww_aload_n dX9_number_36 rfl rfl ?_
        refine ww_iconst (v := 3) dX9_number_37 (by decide) ?_
        refine mm_call0 dX9_number_38 kX9_236 rfl c9_fails rfl rfl rfl rfl rfl rfl (Nat.zero_le _) (Nat.zero_le _) ?_
        refine ww_iload_n dX9_number_41 rfl rfl ?_
        exact ww_iret dX9_number_42 rfl ⟨rfl, by rw [if_pos hw]⟩ (Nat.zero_le _) (Nat.zero_le _)
    · exact absurd c12 (fun q => q h3)
set_option maxHeartbeats 4000000 in
theorem c9_numberD {x y z : Int32} (hw : ¬ F 7 = 0) : Sat G mX9_number [.ref m, .int x, .int y, .int z] (mh m F tl R NL h0, sz) (Det (some (.int x)) (mh m F tl R NL h0, sz)) := by
  refine Sat.of (by decide) [some (.ref m), some (.int x), some (.int y), some (.int z), none] rfl rfl (fun X => ?_)
  refine ww_aload_n dX9_number_0 rfl rfl ?_
  refine mm_call1 dX9_number_1 kX9_225 rfl c9_isWellB rfl rfl rfl rfl rfl rfl (Nat.zero_le _) (Nat.zero_le _) ?_
  refine ww_if_eq (tgt := 15) dX9_number_4 (by decide) (fun c4 => ?_) (fun c4 => ?_)
  · refine ww_aload_n dX9_number_15 rfl rfl ?_
    refine ww_iconst (v := 1) dX9_number_16 (by decide) ?_
    refine mm_call0 dX9_number_17 kX9_236 rfl c9_fails rfl rfl rfl rfl rfl rfl (Nat.zero_le _) (Nat.zero_le _) ?_
    refine ww_iload_n dX9_number_20 rfl rfl ?_
    exact ww_iret dX9_number_21 rfl ⟨rfl, by rw [if_neg hw]⟩ (Nat.zero_le _) (Nat.zero_le _)
  · exact absurd c4 (fun q => q (wb_eq0.mpr (decide_eq_false hw)))
set_option maxHeartbeats 4000000 in
theorem c9_fieldOfK {x : Int32} {L p : Nat} (hw : F 7 = 0) (h1 : F 4 = 1) (h6 : F 6 = 1) (hr : (1 : Int64) ≤ tl ∧ tl ≤ 4) (hL : x = nI L) (hL2 : L ≤ 300) (hp : F 2 = nI p) (hpL : p ≤ L) : Sat G mX9_fieldOf [.ref m, .int x] (mh m F tl R NL h0, sz) (Det (some (.int (tl.toInt32 - 1))) (mh m (nxF (R 0) L p F) (nxT (R 0) L p) R NL h0, sz)) := by
  refine Sat.of (by decide) [some (.ref m), some (.int x), none] rfl rfl (fun X => ?_)
  refine ww_aload_n dX9_fieldOf_0 rfl rfl ?_
  refine mm_call1 dX9_fieldOf_1 kX9_225 rfl c9_isWellB rfl rfl rfl rfl rfl rfl (Nat.zero_le _) (Nat.zero_le _) ?_
  refine ww_if_eq (tgt := 37) dX9_fieldOf_4 (by decide) (fun c4 => ?_) (fun c4 => ?_)
  · exact absurd c4 (wb_ne0.mpr (decide_eq_true hw))
  · refine ww_aload_n dX9_fieldOf_7 rfl rfl ?_
    refine mm_geti dX9_fieldOf_8 fX9_197 rfl rfl ?_
    refine ww_iconst (v := 1) dX9_fieldOf_11 (by decide) ?_
    refine ww_icmp_ne (tgt := 37) dX9_fieldOf_12 (by decide) (fun c12 => ?_) (fun c12 => ?_)
    · exact absurd c12 (fun q => q h1)
    · refine ww_aload_n dX9_fieldOf_15 rfl rfl ?_
      refine mm_geti dX9_fieldOf_16 fX9_204 rfl rfl ?_
      refine ww_iconst (v := 1) dX9_fieldOf_19 (by decide) ?_
      refine ww_icmp_ne (tgt := 37) dX9_fieldOf_20 (by decide) (fun c20 => ?_) (fun c20 => ?_)
      · exact absurd c20 (fun q => q h6)
      · refine ww_aload_n dX9_fieldOf_23 rfl rfl ?_
        refine mm_getl dX9_fieldOf_24 fX9_193 ?_
        refine ww_lconst (v := 1) dX9_fieldOf_27 (by decide) ?_
        refine ww_ldc2 dX9_fieldOf_28 qX9_242 ?_
        refine ww_calls1 dX9_fieldOf_31 kX9_177 c9_in rfl rfl rfl rfl rfl rfl (Nat.zero_le _) (Nat.zero_le _) ?_
        refine ww_if_ne (tgt := 44) dX9_fieldOf_34 (by decide) (fun c34 => ?_) (fun c34 => ?_)
        · refine ww_aload_n dX9_fieldOf_44 rfl rfl ?_
          refine mm_getl dX9_fieldOf_45 fX9_193 ?_
          refine ww_l2i dX9_fieldOf_48 ?_
          refine ww_iconst (v := 1) dX9_fieldOf_49 (by decide) ?_
          refine ww_isub dX9_fieldOf_50 ?_
          refine ww_istore_n dX9_fieldOf_51 rfl rfl rfl ?_
          refine ww_aload_n dX9_fieldOf_52 rfl rfl ?_
          refine ww_iload_n dX9_fieldOf_53 rfl rfl ?_
          refine mm_call0 dX9_fieldOf_54 kX9_233 rfl (c9_next hL hL2 hp hpL) rfl rfl rfl rfl rfl rfl (Nat.zero_le _) (Nat.zero_le _) ?_
          refine ww_iload_n dX9_fieldOf_57 rfl rfl ?_
          exact ww_iret dX9_fieldOf_58 rfl ⟨rfl, rfl⟩ (Nat.zero_le _) (Nat.zero_le _)
        · exact absurd c34 (wb_ne0.mpr (decide_eq_true hr))
set_option maxHeartbeats 4000000 in
theorem c9_fieldOfB {x : Int32} (hw : F 7 = 0) (hno : (decide (F 4 = 1) && decide (F 6 = 1) && decide ((1 : Int64) ≤ tl ∧ tl ≤ 4)) = false) : Sat G mX9_fieldOf [.ref m, .int x] (mh m F tl R NL h0, sz) (Det (some (.int 0)) (mh m (upd (upd F 7 1) 8 (F 3)) tl R NL h0, sz)) := by
  refine Sat.of (by decide) [some (.ref m), some (.int x), none] rfl rfl (fun X => ?_)
  refine ww_aload_n dX9_fieldOf_0 rfl rfl ?_
  refine mm_call1 dX9_fieldOf_1 kX9_225 rfl c9_isWellB rfl rfl rfl rfl rfl rfl (Nat.zero_le _) (Nat.zero_le _) ?_
  refine ww_if_eq (tgt := 37) dX9_fieldOf_4 (by decide) (fun c4 => ?_) (fun c4 => ?_)
  · exact absurd c4 (wb_ne0.mpr (decide_eq_true hw))
  · refine ww_aload_n dX9_fieldOf_7 rfl rfl ?_
    refine mm_geti dX9_fieldOf_8 fX9_197 rfl rfl ?_
    refine ww_iconst (v := 1) dX9_fieldOf_11 (by decide) ?_
    refine ww_icmp_ne (tgt := 37) dX9_fieldOf_12 (by decide) (fun c12 => ?_) (fun c12 => ?_)
    · refine ww_aload_n dX9_fieldOf_37 rfl rfl ?_
      refine ww_iconst (v := 1) dX9_fieldOf_38 (by decide) ?_
      refine mm_call0 dX9_fieldOf_39 kX9_236 rfl c9_fails rfl rfl rfl rfl rfl rfl (Nat.zero_le _) (Nat.zero_le _) ?_
      refine ww_iconst (v := 0) dX9_fieldOf_42 (by decide) ?_
      exact ww_iret dX9_fieldOf_43 rfl ⟨rfl, by rw [if_pos hw]⟩ (Nat.zero_le _) (Nat.zero_le _)
    · refine ww_aload_n dX9_fieldOf_15 rfl rfl ?_
      refine mm_geti dX9_fieldOf_16 fX9_204 rfl rfl ?_
      refine ww_iconst (v := 1) dX9_fieldOf_19 (by decide) ?_
      refine ww_icmp_ne (tgt := 37) dX9_fieldOf_20 (by decide) (fun c20 => ?_) (fun c20 => ?_)
      · refine ww_aload_n dX9_fieldOf_37 rfl rfl ?_
        refine ww_iconst (v := 1) dX9_fieldOf_38 (by decide) ?_
        refine mm_call0 dX9_fieldOf_39 kX9_236 rfl c9_fails rfl rfl rfl rfl rfl rfl (Nat.zero_le _) (Nat.zero_le _) ?_
        refine ww_iconst (v := 0) dX9_fieldOf_42 (by decide) ?_
        exact ww_iret dX9_fieldOf_43 rfl ⟨rfl, by rw [if_pos hw]⟩ (Nat.zero_le _) (Nat.zero_le _)
      · refine ww_aload_n dX9_fieldOf_23 rfl rfl ?_
        refine mm_getl dX9_fieldOf_24 fX9_193 ?_
        refine ww_lconst (v := 1) dX9_fieldOf_27 (by decide) ?_
        refine ww_ldc2 dX9_fieldOf_28 qX9_242 ?_
        refine ww_calls1 dX9_fieldOf_31 kX9_177 c9_in rfl rfl rfl rfl rfl rfl (Nat.zero_le _) (Nat.zero_le _) ?_
        refine ww_if_ne (tgt := 44) dX9_fieldOf_34 (by decide) (fun c34 => ?_) (fun c34 => ?_)
        · exact absurd hno (by rw [decide_eq_true c12, decide_eq_true c20, wb_ne0.mp c34]; decide)
        · refine ww_aload_n dX9_fieldOf_37 rfl rfl ?_
          refine ww_iconst (v := 1) dX9_fieldOf_38 (by decide) ?_
          refine mm_call0 dX9_fieldOf_39 kX9_236 rfl c9_fails rfl rfl rfl rfl rfl rfl (Nat.zero_le _) (Nat.zero_le _) ?_
          refine ww_iconst (v := 0) dX9_fieldOf_42 (by decide) ?_
          exact ww_iret dX9_fieldOf_43 rfl ⟨rfl, by rw [if_pos hw]⟩ (Nat.zero_le _) (Nat.zero_le _)
set_option maxHeartbeats 4000000 in
theorem c9_fieldOfD {x : Int32} (hw : ¬ F 7 = 0) : Sat G mX9_fieldOf [.ref m, .int x] (mh m F tl R NL h0, sz) (Det (some (.int 0)) (mh m F tl R NL h0, sz)) := by
  refine Sat.of (by decide) [some (.ref m), some (.int x), none] rfl rfl (fun X => ?_)
  refine ww_aload_n dX9_fieldOf_0 rfl rfl ?_
  refine mm_call1 dX9_fieldOf_1 kX9_225 rfl c9_isWellB rfl rfl rfl rfl rfl rfl (Nat.zero_le _) (Nat.zero_le _) ?_
  refine ww_if_eq (tgt := 37) dX9_fieldOf_4 (by decide) (fun c4 => ?_) (fun c4 => ?_)
  · refine ww_aload_n dX9_fieldOf_37 rfl rfl ?_
    refine ww_iconst (v := 1) dX9_fieldOf_38 (by decide) ?_
    refine mm_call0 dX9_fieldOf_39 kX9_236 rfl c9_fails rfl rfl rfl rfl rfl rfl (Nat.zero_le _) (Nat.zero_le _) ?_
    refine ww_iconst (v := 0) dX9_fieldOf_42 (by decide) ?_
    exact ww_iret dX9_fieldOf_43 rfl ⟨rfl, by rw [if_neg hw]⟩ (Nat.zero_le _) (Nat.zero_le _)
  · exact absurd c4 (fun q => q (wb_eq0.mpr (decide_eq_false hw)))
def emR (R : Nat → Nat → Int32) (k : Nat) (q a b : Int32) : Nat → Nat → Int32 := va_up (va_up (va_up (va_up R 15 (upd (R 15) k q)) 16 (upd (R 16) k a)) 17 (upd (R 17) k b)) 18 (upd (R 18) k (-1))
set_option maxHeartbeats 4000000 in
theorem c9_emits {q a b : Int32} {k : Nat} (hk : F 14 = nI k) (hk2 : k < 200) : Sat G mX9_emits [.ref m, .int q, .int a, .int b] (mh m F tl R NL h0, sz) (Det (some (.int (nI k))) (mh m (upd F 14 (nI (k + 1))) tl (emR R k q a b) NL h0, sz)) := by
  refine Sat.of (by decide) [some (.ref m), some (.int q), some (.int a), some (.int b), none] rfl rfl (fun X => ?_)
  refine ww_aload_n dX9_emits_0 rfl rfl ?_
  refine mm_geti dX9_emits_1 fX9_244 rfl rfl ?_
  refine ww_istore dX9_emits_4 rfl rfl ?_
  refine ww_aload_n dX9_emits_6 rfl rfl ?_
  refine mm_getr dX9_emits_7 fX9_20 rfl ?_
  refine ww_iload dX9_emits_10 rfl ?_
  refine ww_iload_n dX9_emits_12 rfl rfl ?_
  refine mm_iast dX9_emits_13 rfl hk (by omega) rfl rfl ?_
  refine ww_aload_n dX9_emits_14 rfl rfl ?_
  refine mm_getr dX9_emits_15 fX9_24 rfl ?_
  refine ww_iload dX9_emits_18 rfl ?_
  refine ww_iload_n dX9_emits_20 rfl rfl ?_
  refine mm_iast dX9_emits_21 rfl hk (by omega) rfl rfl ?_
  refine ww_aload_n dX9_emits_22 rfl rfl ?_
  refine mm_getr dX9_emits_23 fX9_27 rfl ?_
  refine ww_iload dX9_emits_26 rfl ?_
  refine ww_iload_n dX9_emits_28 rfl rfl ?_
  refine mm_iast dX9_emits_29 rfl hk (by omega) rfl rfl ?_
  refine ww_aload_n dX9_emits_30 rfl rfl ?_
  refine mm_getr dX9_emits_31 fX9_30 rfl ?_
  refine ww_iload dX9_emits_34 rfl ?_
  refine ww_iconst (v := -1) dX9_emits_36 (by decide) ?_
  refine mm_iast dX9_emits_37 rfl hk (by omega) rfl rfl ?_
  refine ww_aload_n dX9_emits_38 rfl rfl ?_
  refine ww_dup dX9_emits_39 rfl ?_
  refine mm_geti dX9_emits_40 fX9_244 rfl rfl ?_
  refine ww_iconst (v := 1) dX9_emits_43 (by decide) ?_
  refine ww_iadd dX9_emits_44 ?_
  refine mm_puti dX9_emits_45 fX9_244 rfl rfl ?_
  refine ww_iload dX9_emits_48 rfl ?_
  exact ww_iret dX9_emits_50 rfl ⟨by rw [hk], by rw [hk, nI_1]; rfl⟩ (Nat.zero_le _) (Nat.zero_le _)
def opR (R : Nat → Nat → Int32) (d : Nat) (q a f n : Int32) : Nat → Nat → Int32 := va_up (va_up (va_up (va_up (va_up R 34 (upd (R 34) d q)) 35 (upd (R 35) d a)) 36 (upd (R 36) d f)) 37 (upd (R 37) d n)) 38 (upd (R 38) d 0)
set_option maxHeartbeats 4000000 in
theorem c9_opens {q a f n x : Int32} {d : Nat} {F2 : Nat → Int32} {tl2 : Int64} (ht : Sat G mX9_takes [.ref m, .int 123, .int x] (mh m F tl R NL h0, sz) (Det none (mh m F2 tl2 R NL h0, sz))) (hd : F2 33 = nI d) (hd2 : d < 5) : Sat G mX9_opens [.ref m, .int q, .int a, .int f, .int n, .int x] (mh m F tl R NL h0, sz) (Det none (mh m (upd F2 33 (nI (d + 1))) tl2 (opR R (d + 1) q a f n) NL h0, sz)) := by
  refine Sat.of (by decide) [some (.ref m), some (.int q), some (.int a), some (.int f), some (.int n), some (.int x)] rfl rfl (fun X => ?_)
  refine ww_aload_n dX9_opens_0 rfl rfl ?_
  refine ww_bipush (v := 123) dX9_opens_1 (by decide) ?_
  refine ww_iload dX9_opens_3 rfl ?_
  refine mm_call0 dX9_opens_5 kX9_247 rfl ht rfl rfl rfl rfl rfl rfl (Nat.zero_le _) (Nat.zero_le _) ?_
  refine ww_aload_n dX9_opens_8 rfl rfl ?_
  refine ww_dup dX9_opens_9 rfl ?_
  refine mm_geti dX9_opens_10 fX9_251 rfl rfl ?_
  refine ww_iconst (v := 1) dX9_opens_13 (by decide) ?_
  refine ww_iadd dX9_opens_14 ?_
  refine mm_puti dX9_opens_15 fX9_251 rfl rfl ?_
  refine ww_aload_n dX9_opens_18 rfl rfl ?_
  refine mm_getr dX9_opens_19 fX9_70 rfl ?_
  refine ww_aload_n dX9_opens_22 rfl rfl ?_
  refine mm_geti dX9_opens_23 fX9_251 rfl rfl ?_
  refine ww_iload_n dX9_opens_26 rfl rfl ?_
  refine mm_iast dX9_opens_27 rfl (show _ = nI (d + 1) by simp only [w_upd_self, hd]; exact nI_1 d) (by omega) rfl rfl ?_
  refine ww_aload_n dX9_opens_28 rfl rfl ?_
  refine mm_getr dX9_opens_29 fX9_73 rfl ?_
  refine ww_aload_n dX9_opens_32 rfl rfl ?_
  refine mm_geti dX9_opens_33 fX9_251 rfl rfl ?_
  refine ww_iload_n dX9_opens_36 rfl rfl ?_
  refine mm_iast dX9_opens_37 rfl (show _ = nI (d + 1) by simp only [w_upd_self, hd]; exact nI_1 d) (by omega) rfl rfl ?_
  refine ww_aload_n dX9_opens_38 rfl rfl ?_
  refine mm_getr dX9_opens_39 fX9_76 rfl ?_
  refine ww_aload_n dX9_opens_42 rfl rfl ?_
  refine mm_geti dX9_opens_43 fX9_251 rfl rfl ?_
  refine ww_iload_n dX9_opens_46 rfl rfl ?_
  refine mm_iast dX9_opens_47 rfl (show _ = nI (d + 1) by simp only [w_upd_self, hd]; exact nI_1 d) (by omega) rfl rfl ?_
  refine ww_aload_n dX9_opens_48 rfl rfl ?_
  refine mm_getr dX9_opens_49 fX9_79 rfl ?_
  refine ww_aload_n dX9_opens_52 rfl rfl ?_
  refine mm_geti dX9_opens_53 fX9_251 rfl rfl ?_
  refine ww_iload dX9_opens_56 rfl ?_
  refine mm_iast dX9_opens_58 rfl (show _ = nI (d + 1) by simp only [w_upd_self, hd]; exact nI_1 d) (by omega) rfl rfl ?_
  refine ww_aload_n dX9_opens_59 rfl rfl ?_
  refine mm_getr dX9_opens_60 fX9_82 rfl ?_
  refine ww_aload_n dX9_opens_63 rfl rfl ?_
  refine mm_geti dX9_opens_64 fX9_251 rfl rfl ?_
  refine ww_iconst (v := 0) dX9_opens_67 (by decide) ?_
  refine mm_zast dX9_opens_68 rfl (show _ = nI (d + 1) by simp only [w_upd_self, hd]; exact nI_1 d) (by omega) rfl rfl ?_
  exact ww_vret dX9_opens_69 rfl ⟨rfl, by rw [hd, nI_1]; rfl⟩ (Nat.zero_le _) (Nat.zero_le _)
def dnm (NL : Nat → Int64) (v : Int64) : Nat → Int32
  | 0 => -1
  | k + 1 => if NL k = v then nI k else dnm NL v k
set_option maxHeartbeats 4000000 in
theorem L9_doNamed {v : Int64} {c : Nat} {X : wX} (hc : F 12 = nI c) (hc2 : c ≤ 40) : ∀ (n t : Nat) (x3 x4 : Int32), c - t < n → t ≤ c → x3 = dnm NL v t → x4 = nI t → WW G mX9_doNamed cX9_doNamed X (wZ G mX9_doNamed X (Det (some (.int (dnm NL v c))) (mh m F tl R NL h0, sz))) 5 [some (.ref m), some (.long v), none, some (.int x3), some (.int x4)] [] (mh m F tl R NL h0, sz) 0 0 := by
  intro n
  induction n with
  | zero => intro t x3 x4 hn; exact absurd hn (by omega)
  | succ n ih =>
    intro t x3 x4 hn ht i3 i4
    refine ww_iload dX9_doNamed_5 rfl ?_
    refine ww_aload_n dX9_doNamed_7 rfl rfl ?_
    refine mm_geti dX9_doNamed_8 fX9_254 rfl rfl ?_
    refine ww_icmp_ge (tgt := 39) dX9_doNamed_11 (by decide) (fun c11 => ?_) (fun c11 => ?_)
    · have e1 := (w_le hc i4 (by omega) (by omega)).mp c11
      have e2 : t = c := by omega
      refine ww_iload_n dX9_doNamed_39 rfl rfl ?_
      exact ww_iret dX9_doNamed_40 rfl ⟨by rw [i3, e2], rfl⟩ (Nat.zero_le _) (Nat.zero_le _)
    · have e1 : t < c := by rcases Nat.lt_or_ge t c with q | q; exact q; exact absurd ((w_le hc i4 (by omega) (by omega)).mpr q) c11
      refine ww_aload_n dX9_doNamed_14 rfl rfl ?_
      refine mm_getr dX9_doNamed_15 fX9_33 rfl ?_
      refine ww_iload dX9_doNamed_18 rfl ?_
      refine mm_lald dX9_doNamed_20 i4 (by omega) ?_
      refine ww_lload_n dX9_doNamed_21 rfl rfl ?_
      refine ww_lcmp dX9_doNamed_22 ?_
      refine ww_if_ne (tgt := 31) dX9_doNamed_23 (by decide) (fun c23 => ?_) (fun c23 => ?_)
      · refine ww_iload_n dX9_doNamed_31 rfl rfl ?_
        refine ww_istore_n dX9_doNamed_32 rfl rfl rfl ?_
        refine ww_iinc dX9_doNamed_33 rfl rfl rfl rfl ?_
        refine ww_goto (tgt := 5) dX9_doNamed_36 (by decide) ?_
        exact ih (t + 1) _ _ (by omega) (by omega) (by rw [dnm, if_neg (fun q => c23 ((lgc_eq _ _).mpr q))]; exact i3) (w_inc i4)
      · refine ww_iload dX9_doNamed_26 rfl ?_
        refine ww_goto (tgt := 32) dX9_doNamed_28 (by decide) ?_
        refine ww_istore_n dX9_doNamed_32 rfl rfl rfl ?_
        refine ww_iinc dX9_doNamed_33 rfl rfl rfl rfl ?_
        refine ww_goto (tgt := 5) dX9_doNamed_36 (by decide) ?_
        exact ih (t + 1) _ _ (by omega) (by omega) (by rw [dnm, if_pos ((lgc_eq _ _).mp c23)]; exact i4) (w_inc i4)
set_option maxHeartbeats 4000000 in
theorem c9_doNamed {v : Int64} {c : Nat} (hc : F 12 = nI c) (hc2 : c ≤ 40) : Sat G mX9_doNamed [.ref m, .long v] (mh m F tl R NL h0, sz) (Det (some (.int (dnm NL v c))) (mh m F tl R NL h0, sz)) := by
  refine Sat.of (by decide) [some (.ref m), some (.long v), none, none, none] rfl rfl (fun X => ?_)
  refine ww_iconst (v := -1) dX9_doNamed_0 (by decide) ?_
  refine ww_istore_n dX9_doNamed_1 rfl rfl rfl ?_
  refine ww_iconst (v := 0) dX9_doNamed_2 (by decide) ?_
  refine ww_istore dX9_doNamed_3 rfl rfl ?_
  exact L9_doNamed hc hc2 (c + 1) 0 _ _ (by omega) (by omega) rfl rfl
end M12
