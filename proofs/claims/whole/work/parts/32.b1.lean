theorem wIn_f1 {x : Int32} {n : Nat} (h : x < 0) : wIn x n = false := decide_eq_false (fun q => by have := Int32.lt_iff_toInt_lt.mp h; have z : (0 : Int32).toInt = 0 := rfl; omega)
theorem wIn_f2 {x y : Int32} {n : Nat} (hy : y = nI n) (hn : n < 2 ^ 31) (h : y ≤ x) : wIn x n = false := decide_eq_false (fun q => by have := Int32.le_iff_toInt_le.mp h; rw [hy, nI_toInt hn] at this; omega)
theorem wIn_t {x y : Int32} {n : Nat} (hy : y = nI n) (hn : n < 2 ^ 31) (h1 : ¬ x < 0) (h2 : ¬ y ≤ x) : wIn x n = true := decide_eq_true (by
  have a := mt Int32.lt_iff_toInt_lt.mpr h1
  have b := mt Int32.le_iff_toInt_le.mpr h2
  rw [hy, nI_toInt hn] at b
  have z : (0 : Int32).toInt = 0 := rfl
  omega)
section B1
variable {G : wG} {m : Nat} {F : Nat → Int32} {O : Nat → Option Nat} {R : Nat → Nat → Int32} {h0 : Nat → Option wE} {sz : Nat}

set_option maxHeartbeats 4000000 in
theorem c0_hasOrder {x : Int32} {l : Nat} (hl : F 3 = nI l) (hl2 : l ≤ 121) : Sat G mX0_hasOrder [.ref m, .int x] (bbh m F O R h0, sz) (Det (some (.int (wb (wIn x l)))) (bbh m F O R h0, sz)) := by
  refine Sat.of (by decide) [some (.ref m), some (.int x)] rfl rfl (fun X => ?_)
  refine ww_iload_n dX0_hasOrder_0 rfl rfl ?_
  refine ww_if_lt (tgt := 22) dX0_hasOrder_1 (by decide) (fun c1 => ?_) (fun c1 => ?_)
  · refine ww_iconst (v := 0) dX0_hasOrder_22 (by decide) ?_
    exact ww_zret dX0_hasOrder_23 rfl (Or.inl rfl) ⟨by rw [wIn_f1 c1]; rfl, rfl⟩ (Nat.zero_le _) (Nat.zero_le _)
  · refine ww_iload_n dX0_hasOrder_4 rfl rfl ?_
    refine ww_aload_n dX0_hasOrder_5 rfl rfl ?_
    refine bb_geti dX0_hasOrder_6 fX0_21 rfl rfl ?_
    refine ww_icmp_ge (tgt := 22) dX0_hasOrder_9 (by decide) (fun c9 => ?_) (fun c9 => ?_)
    · refine ww_iconst (v := 0) dX0_hasOrder_22 (by decide) ?_
      exact ww_zret dX0_hasOrder_23 rfl (Or.inl rfl) ⟨by rw [wIn_f2 hl (by omega) c9]; rfl, rfl⟩ (Nat.zero_le _) (Nat.zero_le _)
    · refine ww_iload_n dX0_hasOrder_12 rfl rfl ?_
      refine ww_bipush (v := 121) dX0_hasOrder_13 (by decide) ?_
      refine ww_icmp_ge (tgt := 22) dX0_hasOrder_15 (by decide) (fun c15 => ?_) (fun c15 => ?_)
      · refine ww_iconst (v := 0) dX0_hasOrder_22 (by decide) ?_
        exact ww_zret dX0_hasOrder_23 rfl (Or.inl rfl) ⟨by rw [wIn_f2 (n := l) (y := nI l) rfl (by omega) (Int32.le_trans (nI_le (b := 121) hl2 (by decide)) c15)]; rfl, rfl⟩ (Nat.zero_le _) (Nat.zero_le _)
      · refine ww_iconst (v := 1) dX0_hasOrder_18 (by decide) ?_
        refine ww_goto (tgt := 23) dX0_hasOrder_19 (by decide) ?_
        exact ww_zret dX0_hasOrder_23 rfl (Or.inr rfl) ⟨by rw [wIn_t hl (by omega) c1 c9]; rfl, rfl⟩ (Nat.zero_le _) (Nat.zero_le _)
set_option maxHeartbeats 4000000 in
theorem c0_hasDo {x : Int32} {l : Nat} (hl : F 1 = nI l) (hl2 : l ≤ 40) : Sat G mX0_hasDo [.ref m, .int x] (bbh m F O R h0, sz) (Det (some (.int (wb (wIn x l)))) (bbh m F O R h0, sz)) := by
  refine Sat.of (by decide) [some (.ref m), some (.int x)] rfl rfl (fun X => ?_)
  refine ww_iload_n dX0_hasDo_0 rfl rfl ?_
  refine ww_if_lt (tgt := 22) dX0_hasDo_1 (by decide) (fun c1 => ?_) (fun c1 => ?_)
  · refine ww_iconst (v := 0) dX0_hasDo_22 (by decide) ?_
    exact ww_zret dX0_hasDo_23 rfl (Or.inl rfl) ⟨by rw [wIn_f1 c1]; rfl, rfl⟩ (Nat.zero_le _) (Nat.zero_le _)
  · refine ww_iload_n dX0_hasDo_4 rfl rfl ?_
    refine ww_aload_n dX0_hasDo_5 rfl rfl ?_
    refine bb_geti dX0_hasDo_6 fX0_15 rfl rfl ?_
    refine ww_icmp_ge (tgt := 22) dX0_hasDo_9 (by decide) (fun c9 => ?_) (fun c9 => ?_)
    · refine ww_iconst (v := 0) dX0_hasDo_22 (by decide) ?_
      exact ww_zret dX0_hasDo_23 rfl (Or.inl rfl) ⟨by rw [wIn_f2 hl (by omega) c9]; rfl, rfl⟩ (Nat.zero_le _) (Nat.zero_le _)
    · refine ww_iload_n dX0_hasDo_12 rfl rfl ?_
      refine ww_bipush (v := 40) dX0_hasDo_13 (by decide) ?_
      refine ww_icmp_ge (tgt := 22) dX0_hasDo_15 (by decide) (fun c15 => ?_) (fun c15 => ?_)
      · refine ww_iconst (v := 0) dX0_hasDo_22 (by decide) ?_
        exact ww_zret dX0_hasDo_23 rfl (Or.inl rfl) ⟨by rw [wIn_f2 (n := l) (y := nI l) rfl (by omega) (Int32.le_trans (nI_le (b := 40) hl2 (by decide)) c15)]; rfl, rfl⟩ (Nat.zero_le _) (Nat.zero_le _)
      · refine ww_iconst (v := 1) dX0_hasDo_18 (by decide) ?_
        refine ww_goto (tgt := 23) dX0_hasDo_19 (by decide) ?_
        exact ww_zret dX0_hasDo_23 rfl (Or.inr rfl) ⟨by rw [wIn_t hl (by omega) c1 c9]; rfl, rfl⟩ (Nat.zero_le _) (Nat.zero_le _)
set_option maxHeartbeats 4000000 in
theorem c0_clear  : Sat G mX0_clear [.ref m] (bbh m F O R h0, sz) (Det none (bbh m (upd (upd (upd (upd F 0 0) 1 0) 2 0) 3 0) O R h0, sz)) := by
  refine Sat.of (by decide) [some (.ref m)] rfl rfl (fun X => ?_)
  refine ww_aload_n dX0_clear_0 rfl rfl ?_
  refine ww_iconst (v := 0) dX0_clear_1 (by decide) ?_
  refine bb_puti dX0_clear_2 fX0_9 rfl rfl ?_
  refine ww_aload_n dX0_clear_5 rfl rfl ?_
  refine ww_iconst (v := 0) dX0_clear_6 (by decide) ?_
  refine bb_puti dX0_clear_7 fX0_15 rfl rfl ?_
  refine ww_aload_n dX0_clear_10 rfl rfl ?_
  refine ww_iconst (v := 0) dX0_clear_11 (by decide) ?_
  refine bb_puti dX0_clear_12 fX0_18 rfl rfl ?_
  refine ww_aload_n dX0_clear_15 rfl rfl ?_
  refine ww_iconst (v := 0) dX0_clear_16 (by decide) ?_
  refine bb_puti dX0_clear_17 fX0_21 rfl rfl ?_
  exact ww_vret dX0_clear_20 rfl ⟨rfl, rfl⟩ (Nat.zero_le _) (Nat.zero_le _)
def adB (R : Nat → Nat → Int32) (l : Nat) (q a c t : Int32) : Nat → Nat → Int32 := va_up (va_up (va_up (va_up R 4 (upd (R 4) l q)) 5 (upd (R 5) l a)) 6 (upd (R 6) l c)) 7 (upd (R 7) l t)
set_option maxHeartbeats 4000000 in
theorem c0_add {q a c t : Int32} {l : Nat} (hl : F 3 = nI l) (hl2 : l < 121) : Sat G mX0_add [.ref m, .int q, .int a, .int c, .int t] (bbh m F O R h0, sz) (Det (some (.int (nI l))) (bbh m (upd F 3 (nI (l + 1))) O (adB R l q a c t) h0, sz)) := by
  refine Sat.of (by decide) [some (.ref m), some (.int q), some (.int a), some (.int c), some (.int t), none] rfl rfl (fun X => ?_)
  refine ww_aload_n dX0_add_0 rfl rfl ?_
  refine bb_geti dX0_add_1 fX0_21 rfl rfl ?_
  refine ww_istore dX0_add_4 rfl rfl ?_
  refine ww_iload dX0_add_6 rfl ?_
  refine ww_if_lt (tgt := 18) dX0_add_8 (by decide) (fun c8 => ?_) (fun c8 => ?_)
  · exact absurd c8 (by rw [hl]; exact nI_pos (by omega))
  · refine ww_iload dX0_add_11 rfl ?_
    refine ww_bipush (v := 121) dX0_add_13 (by decide) ?_
    refine ww_icmp_lt (tgt := 20) dX0_add_15 (by decide) (fun c15 => ?_) (fun c15 => ?_)
    · refine ww_aload_n dX0_add_20 rfl rfl ?_
      refine bb_getr dX0_add_21 fX0_24 rfl ?_
      refine ww_iload dX0_add_24 rfl ?_
      refine ww_iload_n dX0_add_26 rfl rfl ?_
      refine bb_iast dX0_add_27 rfl hl (by omega) rfl ?_
      refine ww_aload_n dX0_add_28 rfl rfl ?_
      refine bb_getr dX0_add_29 fX0_28 rfl ?_
      refine ww_iload dX0_add_32 rfl ?_
      refine ww_iload_n dX0_add_34 rfl rfl ?_
      refine bb_iast dX0_add_35 rfl hl (by omega) rfl ?_
      refine ww_aload_n dX0_add_36 rfl rfl ?_
      refine bb_getr dX0_add_37 fX0_31 rfl ?_
      refine ww_iload dX0_add_40 rfl ?_
      refine ww_iload_n dX0_add_42 rfl rfl ?_
      refine bb_iast dX0_add_43 rfl hl (by omega) rfl ?_
      refine ww_aload_n dX0_add_44 rfl rfl ?_
      refine bb_getr dX0_add_45 fX0_34 rfl ?_
      refine ww_iload dX0_add_48 rfl ?_
      refine ww_iload dX0_add_50 rfl ?_
      refine bb_iast dX0_add_52 rfl hl (by omega) rfl ?_
      refine ww_aload_n dX0_add_53 rfl rfl ?_
      refine ww_dup dX0_add_54 rfl ?_
      refine bb_geti dX0_add_55 fX0_21 rfl rfl ?_
      refine ww_iconst (v := 1) dX0_add_58 (by decide) ?_
      refine ww_iadd dX0_add_59 ?_
      refine bb_puti dX0_add_60 fX0_21 rfl rfl ?_
      refine ww_iload dX0_add_63 rfl ?_
      exact ww_iret dX0_add_65 rfl ⟨by rw [hl], by rw [hl, nI_1]; rfl⟩ (Nat.zero_le _) (Nat.zero_le _)
    · exact absurd c15 (fun q => q (by rw [hl]; exact nI_lt (b := 121) hl2 (by decide)))
set_option maxHeartbeats 4000000 in
theorem c0_subjectAt {x : Int32} {l j : Nat} (hl : F 3 = nI l) (hl2 : l ≤ 121) (hx : x = nI j) (hj : j < l) : Sat G mX0_subjectAt [.ref m, .int x] (bbh m F O R h0, sz) (Det (some (.int (R 5 j))) (bbh m F O R h0, sz)) := by
  refine Sat.of (by decide) [some (.ref m), some (.int x)] rfl rfl (fun X => ?_)
  refine ww_aload_n dX0_subjectAt_0 rfl rfl ?_
  refine ww_iload_n dX0_subjectAt_1 rfl rfl ?_
  refine bb_call1 dX0_subjectAt_2 kX0_53 rfl rfl (c0_hasOrder hl hl2) rfl rfl rfl rfl rfl rfl (Nat.zero_le _) (Nat.zero_le _) ?_
  refine ww_if_eq (tgt := 17) dX0_subjectAt_5 (by decide) (fun c5 => ?_) (fun c5 => ?_)
  · exact absurd c5 (by rw [hx, wIn_nI hj (by omega)]; decide)
  · refine ww_aload_n dX0_subjectAt_8 rfl rfl ?_
    refine bb_getr dX0_subjectAt_9 fX0_28 rfl ?_
    refine ww_iload_n dX0_subjectAt_12 rfl rfl ?_
    refine bb_iald dX0_subjectAt_13 rfl hx (by omega) rfl ?_
    refine ww_goto (tgt := 18) dX0_subjectAt_14 (by decide) ?_
    exact ww_iret dX0_subjectAt_18 rfl ⟨rfl, rfl⟩ (Nat.zero_le _) (Nat.zero_le _)
set_option maxHeartbeats 4000000 in
theorem c0_subjectAt0 {x : Int32} {l : Nat} (hl : F 3 = nI l) (hl2 : l ≤ 121) (hno : wIn x l = false) : Sat G mX0_subjectAt [.ref m, .int x] (bbh m F O R h0, sz) (Det (some (.int (0))) (bbh m F O R h0, sz)) := by
  refine Sat.of (by decide) [some (.ref m), some (.int x)] rfl rfl (fun X => ?_)
  refine ww_aload_n dX0_subjectAt_0 rfl rfl ?_
  refine ww_iload_n dX0_subjectAt_1 rfl rfl ?_
  refine bb_call1 dX0_subjectAt_2 kX0_53 rfl rfl (c0_hasOrder hl hl2) rfl rfl rfl rfl rfl rfl (Nat.zero_le _) (Nat.zero_le _) ?_
  refine ww_if_eq (tgt := 17) dX0_subjectAt_5 (by decide) (fun c5 => ?_) (fun c5 => ?_)
  · refine ww_iconst (v := 0) dX0_subjectAt_17 (by decide) ?_
    exact ww_iret dX0_subjectAt_18 rfl ⟨rfl, rfl⟩ (Nat.zero_le _) (Nat.zero_le _)
  · exact absurd c5 (fun q => q (wb_eq0.mpr hno))
set_option maxHeartbeats 4000000 in
theorem c0_roleOf {x : Int32} {l j : Nat} (hl : F 1 = nI l) (hl2 : l ≤ 40) (hx : x = nI j) (hj : j < l) : Sat G mX0_roleOf [.ref m, .int x] (bbh m F O R h0, sz) (Det (some (.int (R 8 j))) (bbh m F O R h0, sz)) := by
  refine Sat.of (by decide) [some (.ref m), some (.int x)] rfl rfl (fun X => ?_)
  refine ww_aload_n dX0_roleOf_0 rfl rfl ?_
  refine ww_iload_n dX0_roleOf_1 rfl rfl ?_
  refine bb_call1 dX0_roleOf_2 kX0_57 rfl rfl (c0_hasDo hl hl2) rfl rfl rfl rfl rfl rfl (Nat.zero_le _) (Nat.zero_le _) ?_
  refine ww_if_eq (tgt := 17) dX0_roleOf_5 (by decide) (fun c5 => ?_) (fun c5 => ?_)
  · exact absurd c5 (by rw [hx, wIn_nI hj (by omega)]; decide)
  · refine ww_aload_n dX0_roleOf_8 rfl rfl ?_
    refine bb_getr dX0_roleOf_9 fX0_37 rfl ?_
    refine ww_iload_n dX0_roleOf_12 rfl rfl ?_
    refine bb_iald dX0_roleOf_13 rfl hx (by omega) rfl ?_
    refine ww_goto (tgt := 18) dX0_roleOf_14 (by decide) ?_
    exact ww_iret dX0_roleOf_18 rfl ⟨rfl, rfl⟩ (Nat.zero_le _) (Nat.zero_le _)
set_option maxHeartbeats 4000000 in
theorem c0_roleOf0 {x : Int32} {l : Nat} (hl : F 1 = nI l) (hl2 : l ≤ 40) (hno : wIn x l = false) : Sat G mX0_roleOf [.ref m, .int x] (bbh m F O R h0, sz) (Det (some (.int (0))) (bbh m F O R h0, sz)) := by
  refine Sat.of (by decide) [some (.ref m), some (.int x)] rfl rfl (fun X => ?_)
  refine ww_aload_n dX0_roleOf_0 rfl rfl ?_
  refine ww_iload_n dX0_roleOf_1 rfl rfl ?_
  refine bb_call1 dX0_roleOf_2 kX0_57 rfl rfl (c0_hasDo hl hl2) rfl rfl rfl rfl rfl rfl (Nat.zero_le _) (Nat.zero_le _) ?_
  refine ww_if_eq (tgt := 17) dX0_roleOf_5 (by decide) (fun c5 => ?_) (fun c5 => ?_)
  · refine ww_iconst (v := 0) dX0_roleOf_17 (by decide) ?_
    exact ww_iret dX0_roleOf_18 rfl ⟨rfl, rfl⟩ (Nat.zero_le _) (Nat.zero_le _)
  · exact absurd c5 (fun q => q (wb_eq0.mpr hno))
set_option maxHeartbeats 4000000 in
theorem c0_hoursOf {x : Int32} {l j : Nat} (hl : F 1 = nI l) (hl2 : l ≤ 40) (hx : x = nI j) (hj : j < l) : Sat G mX0_hoursOf [.ref m, .int x] (bbh m F O R h0, sz) (Det (some (.int (R 9 j))) (bbh m F O R h0, sz)) := by
  refine Sat.of (by decide) [some (.ref m), some (.int x)] rfl rfl (fun X => ?_)
  refine ww_aload_n dX0_hoursOf_0 rfl rfl ?_
  refine ww_iload_n dX0_hoursOf_1 rfl rfl ?_
  refine bb_call1 dX0_hoursOf_2 kX0_57 rfl rfl (c0_hasDo hl hl2) rfl rfl rfl rfl rfl rfl (Nat.zero_le _) (Nat.zero_le _) ?_
  refine ww_if_eq (tgt := 17) dX0_hoursOf_5 (by decide) (fun c5 => ?_) (fun c5 => ?_)
  · exact absurd c5 (by rw [hx, wIn_nI hj (by omega)]; decide)
  · refine ww_aload_n dX0_hoursOf_8 rfl rfl ?_
    refine bb_getr dX0_hoursOf_9 fX0_40 rfl ?_
    refine ww_iload_n dX0_hoursOf_12 rfl rfl ?_
    refine bb_iald dX0_hoursOf_13 rfl hx (by omega) rfl ?_
    refine ww_goto (tgt := 18) dX0_hoursOf_14 (by decide) ?_
    exact ww_iret dX0_hoursOf_18 rfl ⟨rfl, rfl⟩ (Nat.zero_le _) (Nat.zero_le _)
set_option maxHeartbeats 4000000 in
theorem c0_hoursOf0 {x : Int32} {l : Nat} (hl : F 1 = nI l) (hl2 : l ≤ 40) (hno : wIn x l = false) : Sat G mX0_hoursOf [.ref m, .int x] (bbh m F O R h0, sz) (Det (some (.int (1))) (bbh m F O R h0, sz)) := by
  refine Sat.of (by decide) [some (.ref m), some (.int x)] rfl rfl (fun X => ?_)
  refine ww_aload_n dX0_hoursOf_0 rfl rfl ?_
  refine ww_iload_n dX0_hoursOf_1 rfl rfl ?_
  refine bb_call1 dX0_hoursOf_2 kX0_57 rfl rfl (c0_hasDo hl hl2) rfl rfl rfl rfl rfl rfl (Nat.zero_le _) (Nat.zero_le _) ?_
  refine ww_if_eq (tgt := 17) dX0_hoursOf_5 (by decide) (fun c5 => ?_) (fun c5 => ?_)
  · refine ww_iconst (v := 1) dX0_hoursOf_17 (by decide) ?_
    exact ww_iret dX0_hoursOf_18 rfl ⟨rfl, rfl⟩ (Nat.zero_le _) (Nat.zero_le _)
  · exact absurd c5 (fun q => q (wb_eq0.mpr hno))
set_option maxHeartbeats 4000000 in
theorem c0_eyesOf {x : Int32} {l j : Nat} (hl : F 1 = nI l) (hl2 : l ≤ 40) (hx : x = nI j) (hj : j < l) : Sat G mX0_eyesOf [.ref m, .int x] (bbh m F O R h0, sz) (Det (some (.int (R 10 j))) (bbh m F O R h0, sz)) := by
  refine Sat.of (by decide) [some (.ref m), some (.int x)] rfl rfl (fun X => ?_)
  refine ww_aload_n dX0_eyesOf_0 rfl rfl ?_
  refine ww_iload_n dX0_eyesOf_1 rfl rfl ?_
  refine bb_call1 dX0_eyesOf_2 kX0_57 rfl rfl (c0_hasDo hl hl2) rfl rfl rfl rfl rfl rfl (Nat.zero_le _) (Nat.zero_le _) ?_
  refine ww_if_eq (tgt := 17) dX0_eyesOf_5 (by decide) (fun c5 => ?_) (fun c5 => ?_)
  · exact absurd c5 (by rw [hx, wIn_nI hj (by omega)]; decide)
  · refine ww_aload_n dX0_eyesOf_8 rfl rfl ?_
    refine bb_getr dX0_eyesOf_9 fX0_43 rfl ?_
    refine ww_iload_n dX0_eyesOf_12 rfl rfl ?_
    refine bb_iald dX0_eyesOf_13 rfl hx (by omega) rfl ?_
    refine ww_goto (tgt := 18) dX0_eyesOf_14 (by decide) ?_
    exact ww_iret dX0_eyesOf_18 rfl ⟨rfl, rfl⟩ (Nat.zero_le _) (Nat.zero_le _)
set_option maxHeartbeats 4000000 in
theorem c0_eyesOf0 {x : Int32} {l : Nat} (hl : F 1 = nI l) (hl2 : l ≤ 40) (hno : wIn x l = false) : Sat G mX0_eyesOf [.ref m, .int x] (bbh m F O R h0, sz) (Det (some (.int (-1))) (bbh m F O R h0, sz)) := by
  refine Sat.of (by decide) [some (.ref m), some (.int x)] rfl rfl (fun X => ?_)
  refine ww_aload_n dX0_eyesOf_0 rfl rfl ?_
  refine ww_iload_n dX0_eyesOf_1 rfl rfl ?_
  refine bb_call1 dX0_eyesOf_2 kX0_57 rfl rfl (c0_hasDo hl hl2) rfl rfl rfl rfl rfl rfl (Nat.zero_le _) (Nat.zero_le _) ?_
  refine ww_if_eq (tgt := 17) dX0_eyesOf_5 (by decide) (fun c5 => ?_) (fun c5 => ?_)
  · refine ww_iconst (v := -1) dX0_eyesOf_17 (by decide) ?_
    exact ww_iret dX0_eyesOf_18 rfl ⟨rfl, rfl⟩ (Nat.zero_le _) (Nat.zero_le _)
  · exact absurd c5 (fun q => q (wb_eq0.mpr hno))
set_option maxHeartbeats 4000000 in
theorem c0_placeBehind {x : Int32} {l j : Nat} (hl : F 1 = nI l) (hl2 : l ≤ 40) (hx : x = nI j) (hj : j < l) : Sat G mX0_placeBehind [.ref m, .int x] (bbh m F O R h0, sz) (Det (some (.int (R 11 j + 1))) (bbh m F O R h0, sz)) := by
  refine Sat.of (by decide) [some (.ref m), some (.int x)] rfl rfl (fun X => ?_)
  refine ww_aload_n dX0_placeBehind_0 rfl rfl ?_
  refine ww_iload_n dX0_placeBehind_1 rfl rfl ?_
  refine bb_call1 dX0_placeBehind_2 kX0_57 rfl rfl (c0_hasDo hl hl2) rfl rfl rfl rfl rfl rfl (Nat.zero_le _) (Nat.zero_le _) ?_
  refine ww_if_eq (tgt := 19) dX0_placeBehind_5 (by decide) (fun c5 => ?_) (fun c5 => ?_)
  · exact absurd c5 (by rw [hx, wIn_nI hj (by omega)]; decide)
  · refine ww_aload_n dX0_placeBehind_8 rfl rfl ?_
    refine bb_getr dX0_placeBehind_9 fX0_46 rfl ?_
    refine ww_iload_n dX0_placeBehind_12 rfl rfl ?_
    refine bb_iald dX0_placeBehind_13 rfl hx (by omega) rfl ?_
    refine ww_iconst (v := 1) dX0_placeBehind_14 (by decide) ?_
    refine ww_iadd dX0_placeBehind_15 ?_
    refine ww_goto (tgt := 20) dX0_placeBehind_16 (by decide) ?_
    exact ww_iret dX0_placeBehind_20 rfl ⟨rfl, rfl⟩ (Nat.zero_le _) (Nat.zero_le _)
set_option maxHeartbeats 4000000 in
theorem c0_placeBehind0 {x : Int32} {l : Nat} (hl : F 1 = nI l) (hl2 : l ≤ 40) (hno : wIn x l = false) : Sat G mX0_placeBehind [.ref m, .int x] (bbh m F O R h0, sz) (Det (some (.int (-1))) (bbh m F O R h0, sz)) := by
  refine Sat.of (by decide) [some (.ref m), some (.int x)] rfl rfl (fun X => ?_)
  refine ww_aload_n dX0_placeBehind_0 rfl rfl ?_
  refine ww_iload_n dX0_placeBehind_1 rfl rfl ?_
  refine bb_call1 dX0_placeBehind_2 kX0_57 rfl rfl (c0_hasDo hl hl2) rfl rfl rfl rfl rfl rfl (Nat.zero_le _) (Nat.zero_le _) ?_
  refine ww_if_eq (tgt := 19) dX0_placeBehind_5 (by decide) (fun c5 => ?_) (fun c5 => ?_)
  · refine ww_iconst (v := -1) dX0_placeBehind_19 (by decide) ?_
    exact ww_iret dX0_placeBehind_20 rfl ⟨rfl, rfl⟩ (Nat.zero_le _) (Nat.zero_le _)
  · exact absurd c5 (fun q => q (wb_eq0.mpr hno))
set_option maxHeartbeats 4000000 in
theorem c0_aim {x y : Int32} {l j : Nat} (hl : F 3 = nI l) (hl2 : l ≤ 121) (hx : x = nI j) (hj : j < l) : Sat G mX0_aim [.ref m, .int x, .int y] (bbh m F O R h0, sz) (Det none (bbh m F O (va_up R 7 (upd (R 7) j y)) h0, sz)) := by
  refine Sat.of (by decide) [some (.ref m), some (.int x), some (.int y)] rfl rfl (fun X => ?_)
  refine ww_aload_n dX0_aim_0 rfl rfl ?_
  refine ww_iload_n dX0_aim_1 rfl rfl ?_
  refine bb_call1 dX0_aim_2 kX0_53 rfl rfl (c0_hasOrder hl hl2) rfl rfl rfl rfl rfl rfl (Nat.zero_le _) (Nat.zero_le _) ?_
  refine ww_if_eq (tgt := 15) dX0_aim_5 (by decide) (fun c5 => ?_) (fun c5 => ?_)
  · exact absurd c5 (by rw [hx, wIn_nI hj (by omega)]; decide)
  · refine ww_aload_n dX0_aim_8 rfl rfl ?_
    refine bb_getr dX0_aim_9 fX0_34 rfl ?_
    refine ww_iload_n dX0_aim_12 rfl rfl ?_
    refine ww_iload_n dX0_aim_13 rfl rfl ?_
    refine bb_iast dX0_aim_14 rfl hx (by omega) rfl ?_
    exact ww_vret dX0_aim_15 rfl ⟨rfl, rfl⟩ (Nat.zero_le _) (Nat.zero_le _)
set_option maxHeartbeats 4000000 in
theorem c0_aim0 {x y : Int32} {l : Nat} (hl : F 3 = nI l) (hl2 : l ≤ 121) (hno : wIn x l = false) : Sat G mX0_aim [.ref m, .int x, .int y] (bbh m F O R h0, sz) (Det none (bbh m F O R h0, sz)) := by
  refine Sat.of (by decide) [some (.ref m), some (.int x), some (.int y)] rfl rfl (fun X => ?_)
  refine ww_aload_n dX0_aim_0 rfl rfl ?_
  refine ww_iload_n dX0_aim_1 rfl rfl ?_
  refine bb_call1 dX0_aim_2 kX0_53 rfl rfl (c0_hasOrder hl hl2) rfl rfl rfl rfl rfl rfl (Nat.zero_le _) (Nat.zero_le _) ?_
  refine ww_if_eq (tgt := 15) dX0_aim_5 (by decide) (fun c5 => ?_) (fun c5 => ?_)
  · exact ww_vret dX0_aim_15 rfl ⟨rfl, rfl⟩ (Nat.zero_le _) (Nat.zero_le _)
  · exact absurd c5 (fun q => q (wb_eq0.mpr hno))
set_option maxHeartbeats 4000000 in
theorem c0_addFork {l : Nat} (hl : F 3 = nI l) (hl2 : l < 121) : Sat G mX0_addFork [.ref m] (bbh m F O R h0, sz) (Det (some (.int (nI l))) (bbh m (upd (upd F 3 (nI (l + 1))) 2 (F 2 + 1)) O (adB R l 4 (F 2) 0 0) h0, sz)) := by
  refine Sat.of (by decide) [some (.ref m), none] rfl rfl (fun X => ?_)
  refine ww_aload_n dX0_addFork_0 rfl rfl ?_
  refine ww_iconst (v := 4) dX0_addFork_1 (by decide) ?_
  refine ww_aload_n dX0_addFork_2 rfl rfl ?_
  refine bb_geti dX0_addFork_3 fX0_18 rfl rfl ?_
  refine ww_iconst (v := 0) dX0_addFork_6 (by decide) ?_
  refine ww_iconst (v := 0) dX0_addFork_7 (by decide) ?_
  refine bb_call1 dX0_addFork_8 kX0_49 rfl rfl (c0_add hl hl2) rfl rfl rfl rfl rfl rfl (Nat.zero_le _) (Nat.zero_le _) ?_
  refine ww_istore_n dX0_addFork_11 rfl rfl rfl ?_
  refine ww_aload_n dX0_addFork_12 rfl rfl ?_
  refine ww_dup dX0_addFork_13 rfl ?_
  refine bb_geti dX0_addFork_14 fX0_18 rfl rfl ?_
  refine ww_iconst (v := 1) dX0_addFork_17 (by decide) ?_
  refine ww_iadd dX0_addFork_18 ?_
  refine bb_puti dX0_addFork_19 fX0_18 rfl rfl ?_
  refine ww_iload_n dX0_addFork_22 rfl rfl ?_
  exact ww_iret dX0_addFork_23 rfl ⟨rfl, rfl⟩ (Nat.zero_le _) (Nat.zero_le _)
def doB (R : Nat → Nat → Int32) (c l : Nat) (r h e : Int32) : Nat → Nat → Int32 := let R1 := va_up (va_up (va_up R 8 (upd (R 8) c r)) 9 (upd (R 9) c h)) 10 (upd (R 10) c e); va_up (adB R1 l 0 (nI c) 0 0) 11 (upd (R 11) c (nI l))
set_option maxHeartbeats 4000000 in
theorem c0_addDo {r h e : Int32} {c l : Nat} (hc : F 1 = nI c) (hc2 : c < 40) (hl : F 3 = nI l) (hl2 : l < 121) : Sat G mX0_addDo [.ref m, .int r, .int h, .int e] (bbh m F O R h0, sz) (Det none (bbh m (upd (upd F 3 (nI (l + 1))) 1 (nI (c + 1))) O (doB R c l r h e) h0, sz)) := by
  refine Sat.of (by decide) [some (.ref m), some (.int r), some (.int h), some (.int e), none] rfl rfl (fun X => ?_)
  refine ww_aload_n dX0_addDo_0 rfl rfl ?_
  refine bb_geti dX0_addDo_1 fX0_15 rfl rfl ?_
  refine ww_istore dX0_addDo_4 rfl rfl ?_
  refine ww_iload dX0_addDo_6 rfl ?_
  refine ww_if_lt (tgt := 18) dX0_addDo_8 (by decide) (fun c8 => ?_) (fun c8 => ?_)
  · exact absurd c8 (by rw [hc]; exact nI_pos (by omega))
  · refine ww_iload dX0_addDo_11 rfl ?_
    refine ww_bipush (v := 40) dX0_addDo_13 (by decide) ?_
    refine ww_icmp_lt (tgt := 19) dX0_addDo_15 (by decide) (fun c15 => ?_) (fun c15 => ?_)
    · refine ww_aload_n dX0_addDo_19 rfl rfl ?_
      refine bb_getr dX0_addDo_20 fX0_37 rfl ?_
      refine ww_iload dX0_addDo_23 rfl ?_
      refine ww_iload_n dX0_addDo_25 rfl rfl ?_
      refine bb_iast dX0_addDo_26 rfl hc (by omega) rfl ?_
      refine ww_aload_n dX0_addDo_27 rfl rfl ?_
      refine bb_getr dX0_addDo_28 fX0_40 rfl ?_
      refine ww_iload dX0_addDo_31 rfl ?_
      refine ww_iload_n dX0_addDo_33 rfl rfl ?_
      refine bb_iast dX0_addDo_34 rfl hc (by omega) rfl ?_
      refine ww_aload_n dX0_addDo_35 rfl rfl ?_
      refine bb_getr dX0_addDo_36 fX0_43 rfl ?_
      refine ww_iload dX0_addDo_39 rfl ?_
      refine ww_iload_n dX0_addDo_41 rfl rfl ?_
      refine bb_iast dX0_addDo_42 rfl hc (by omega) rfl ?_
      refine ww_aload_n dX0_addDo_43 rfl rfl ?_
      refine bb_getr dX0_addDo_44 fX0_46 rfl ?_
      refine ww_iload dX0_addDo_47 rfl ?_
      refine ww_aload_n dX0_addDo_49 rfl rfl ?_
      refine ww_iconst (v := 0) dX0_addDo_50 (by decide) ?_
      refine ww_iload dX0_addDo_51 rfl ?_
      refine ww_iconst (v := 0) dX0_addDo_53 (by decide) ?_
      refine ww_iconst (v := 0) dX0_addDo_54 (by decide) ?_
      refine bb_call1 dX0_addDo_55 kX0_49 rfl rfl (c0_add (l := l) (by exact hl) hl2) rfl rfl rfl rfl rfl rfl (Nat.zero_le _) (Nat.zero_le _) ?_
      refine bb_iast dX0_addDo_58 rfl hc (by omega) rfl ?_
      refine ww_aload_n dX0_addDo_59 rfl rfl ?_
      refine ww_dup dX0_addDo_60 rfl ?_
      refine bb_geti dX0_addDo_61 fX0_15 rfl rfl ?_
      refine ww_iconst (v := 1) dX0_addDo_64 (by decide) ?_
      refine ww_iadd dX0_addDo_65 ?_
      refine bb_puti dX0_addDo_66 fX0_15 rfl rfl ?_
      exact ww_vret dX0_addDo_69 rfl ⟨rfl, by rw [hc]; exact (congrArg (fun f => ((bbh m f O _ h0, sz) : wH)) (show upd (upd F 3 (nI (l + 1))) 1 (F 1 + 1) = upd (upd F 3 (nI (l + 1))) 1 (nI (c + 1)) by rw [hc, nI_1])).trans rfl⟩ (Nat.zero_le _) (Nat.zero_le _)
    · exact absurd c15 (fun q => q (by rw [hc]; exact nI_lt (b := 40) hc2 (by decide)))
end B1
