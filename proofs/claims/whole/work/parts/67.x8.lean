def hH (Λ : wL) (O : Nat → Nat → Option Nat) (x mr mt mp mk mw ma : Nat) : Prop := Lk Λ 0 0 x ∧ Lk Λ 1 1 mr ∧ Lk Λ 2 2 mt ∧ Lk Λ 4 4 mp ∧ Lk Λ 5 5 mk ∧ Lk Λ 6 6 mw ∧ Lk Λ 7 8 ma ∧ O 0 0 = some mr ∧ O 0 1 = some mp ∧ O 0 2 = some mk ∧ O 0 3 = some mw ∧ O 0 4 = some ma ∧ O 1 0 = some mt
section X8A
variable {G : wG} {Λ : wL} {x mr mt mp mk mw ma : Nat} {F : Nat → Nat → Int32} {O : Nat → Nat → Option Nat} {R : Nat → Nat → Nat → Int32} {h0 : Nat → Option wE} {sz : Nat}
set_option maxHeartbeats 4000000 in
theorem c8_feed0 (H : hH Λ O x mr mt mp mk mw ma) {a b c d e : Int32} {L : Nat} (hL : F 2 1 = nI L) (hL2 : L ≤ 300) (hno : 300 < L + 20) : Sat G mX8_feed [.ref x, .int a, .int b, .int c, .int d, .int e] (wld Λ F O R h0, sz) (Det (some (.int (-1))) (wld Λ F O R h0, sz)) := by
  refine Sat.of (by decide) [some (.ref x), some (.int a), some (.int b), some (.int c), some (.int d), some (.int e), none] rfl rfl (fun X => ?_)
  refine ww_aload_n dX8_feed_0 rfl rfl ?_
  refine Wxx_geto H.1 dX8_feed_1 fX8_10 rfl rfl H.2.2.2.2.2.2.2.1 ?_
  refine Wrd_geto H.2.1 dX8_feed_4 fX8_60 rfl rfl H.2.2.2.2.2.2.2.2.2.2.2.2 ?_
  refine ww_astore dX8_feed_7 rfl rfl ?_
  refine ww_aload dX8_feed_9 rfl ?_
  refine Wta_geti H.2.2.1 dX8_feed_11 fX8_64 rfl rfl ?_
  refine ww_bipush (v := 20) dX8_feed_14 (by decide) ?_
  refine ww_iadd dX8_feed_16 ?_
  refine ww_sipush (v := 300) dX8_feed_17 (by decide) ?_
  refine ww_icmp_le (tgt := 25) dX8_feed_20 (by decide) (fun c20 => ?_) (fun c20 => ?_)
  · exact absurd c20 (by rw [show F 2 1 + 20 = nI (L + 20) by rw [hL]; exact nI_add L 20]; exact fun q => absurd ((nI_leI (b := 300) (by omega) (by decide)).mp q) (by omega))
  · refine ww_iconst (v := -1) dX8_feed_23 (by decide) ?_
    exact ww_iret dX8_feed_24 rfl ⟨rfl, rfl⟩ (Nat.zero_le _) (Nat.zero_le _)
set_option maxHeartbeats 4000000 in
theorem c8_feed (H : hH Λ O x mr mt mp mk mw ma) {a b c d e : Int32} {L : Nat} (hL : F 2 1 = nI L) (hL2 : L + 20 ≤ 300) : Sat G mX8_feed [.ref x, .int a, .int b, .int c, .int d, .int e] (wld Λ F O R h0, sz) (Det (some (.int (nI (L + 20)))) (wld Λ (va_up F 2 (upd (F 2) 1 (nI (L + 20)))) O (va_up R 2 (va_up (R 2) 0 (fed (R 2 0) L a b c d e))) h0, sz)) := by
  refine Sat.of (by decide) [some (.ref x), some (.int a), some (.int b), some (.int c), some (.int d), some (.int e), none] rfl rfl (fun X => ?_)
  refine ww_aload_n dX8_feed_0 rfl rfl ?_
  refine Wxx_geto H.1 dX8_feed_1 fX8_10 rfl rfl H.2.2.2.2.2.2.2.1 ?_
  refine Wrd_geto H.2.1 dX8_feed_4 fX8_60 rfl rfl H.2.2.2.2.2.2.2.2.2.2.2.2 ?_
  refine ww_astore dX8_feed_7 rfl rfl ?_
  refine ww_aload dX8_feed_9 rfl ?_
  refine Wta_geti H.2.2.1 dX8_feed_11 fX8_64 rfl rfl ?_
  refine ww_bipush (v := 20) dX8_feed_14 (by decide) ?_
  refine ww_iadd dX8_feed_16 ?_
  refine ww_sipush (v := 300) dX8_feed_17 (by decide) ?_
  refine ww_icmp_le (tgt := 25) dX8_feed_20 (by decide) (fun c20 => ?_) (fun c20 => ?_)
  · refine ww_aload dX8_feed_25 rfl ?_
    refine ww_iload_n dX8_feed_27 rfl rfl ?_
    refine Wta_call0 H.2.2.1 dX8_feed_28 kX8_69 rfl rfl (ta_lB H.2.2.1 (c5_addFour (c := L + 0) hL (by omega))) rfl rfl rfl rfl rfl rfl (Nat.zero_le _) (Nat.zero_le _) ?_
    refine ww_aload dX8_feed_31 rfl ?_
    refine ww_iload_n dX8_feed_33 rfl rfl ?_
    refine Wta_call0 H.2.2.1 dX8_feed_34 kX8_69 rfl rfl (ta_lB H.2.2.1 (c5_addFour (c := L + 4) rfl (by omega))) rfl rfl rfl rfl rfl rfl (Nat.zero_le _) (Nat.zero_le _) ?_
    refine ww_aload dX8_feed_37 rfl ?_
    refine ww_iload_n dX8_feed_39 rfl rfl ?_
    refine Wta_call0 H.2.2.1 dX8_feed_40 kX8_69 rfl rfl (ta_lB H.2.2.1 (c5_addFour (c := L + 8) rfl (by omega))) rfl rfl rfl rfl rfl rfl (Nat.zero_le _) (Nat.zero_le _) ?_
    refine ww_aload dX8_feed_43 rfl ?_
    refine ww_iload dX8_feed_45 rfl ?_
    refine Wta_call0 H.2.2.1 dX8_feed_47 kX8_69 rfl rfl (ta_lB H.2.2.1 (c5_addFour (c := L + 12) rfl (by omega))) rfl rfl rfl rfl rfl rfl (Nat.zero_le _) (Nat.zero_le _) ?_
    refine ww_aload dX8_feed_50 rfl ?_
    refine ww_iload dX8_feed_52 rfl ?_
    refine Wta_call0 H.2.2.1 dX8_feed_54 kX8_69 rfl rfl (ta_lB H.2.2.1 (c5_addFour (c := L + 16) rfl (by omega))) rfl rfl rfl rfl rfl rfl (Nat.zero_le _) (Nat.zero_le _) ?_
    refine ww_aload dX8_feed_57 rfl ?_
    refine Wta_geti H.2.2.1 dX8_feed_59 fX8_64 rfl rfl ?_
    exact ww_iret dX8_feed_62 rfl ⟨rfl, by simp only [w_up_up, w_up_self, w_upd_upd]; rfl⟩ (Nat.zero_le _) (Nat.zero_le _)
  · exact absurd c20 (fun q => q (by rw [show F 2 1 + 20 = nI (L + 20) by rw [hL]; exact nI_add L 20]; exact nI_le (b := 300) (by omega) (by decide)))
set_option maxHeartbeats 4000000 in
theorem c8_end0 (H : hH Λ O x mr mt mp mk mw ma) {y : Int32} {L : Nat} (hL : F 2 1 = nI L) (hL2 : L ≤ 300) (hno : wIn y (L + 1) = false) : Sat G mX8_end [.ref x, .int y] (wld Λ F O R h0, sz) (Det (some (.int (-1))) (wld Λ F O R h0, sz)) := by
  refine Sat.of (by decide) [some (.ref x), some (.int y), none] rfl rfl (fun X => ?_)
  refine ww_aload_n dX8_end_0 rfl rfl ?_
  refine Wxx_geto H.1 dX8_end_1 fX8_10 rfl rfl H.2.2.2.2.2.2.2.1 ?_
  refine Wrd_geto H.2.1 dX8_end_4 fX8_60 rfl rfl H.2.2.2.2.2.2.2.2.2.2.2.2 ?_
  refine ww_astore_n dX8_end_7 rfl rfl rfl ?_
  refine ww_iload_n dX8_end_8 rfl rfl ?_
  refine ww_if_lt (tgt := 20) dX8_end_9 (by decide) (fun c9 => ?_) (fun c9 => ?_)
  · refine ww_iconst (v := -1) dX8_end_20 (by decide) ?_
    exact ww_iret dX8_end_21 rfl ⟨rfl, rfl⟩ (Nat.zero_le _) (Nat.zero_le _)
  · refine ww_iload_n dX8_end_12 rfl rfl ?_
    refine ww_aload_n dX8_end_13 rfl rfl ?_
    refine Wta_geti H.2.2.1 dX8_end_14 fX8_64 rfl rfl ?_
    refine ww_icmp_le (tgt := 22) dX8_end_17 (by decide) (fun c17 => ?_) (fun c17 => ?_)
    · exact absurd (wIn_t (n := L + 1) (y := nI (L + 1)) rfl (by omega) c9 (fun q => by rw [hL] at c17; exact absurd (Int32.lt_of_lt_of_le (nI_lt (a := L) (by omega) (by omega)) (Int32.le_trans q c17)) Int32.lt_irrefl)) (wb_nt hno)
    · refine ww_iconst (v := -1) dX8_end_20 (by decide) ?_
      exact ww_iret dX8_end_21 rfl ⟨rfl, rfl⟩ (Nat.zero_le _) (Nat.zero_le _)
set_option maxHeartbeats 4000000 in
theorem c8_end (H : hH Λ O x mr mt mp mk mw ma) {y : Int32} {L j : Nat} (hL : F 2 1 = nI L) (hL2 : L ≤ 300) (hy : y = nI j) (hj : j ≤ L) : Sat G mX8_end [.ref x, .int y] (wld Λ F O R h0, sz) (Det (some (.int (y))) (wld Λ (va_up F 2 (upd (F 2) 1 y)) O R h0, sz)) := by
  refine Sat.of (by decide) [some (.ref x), some (.int y), none] rfl rfl (fun X => ?_)
  refine ww_aload_n dX8_end_0 rfl rfl ?_
  refine Wxx_geto H.1 dX8_end_1 fX8_10 rfl rfl H.2.2.2.2.2.2.2.1 ?_
  refine Wrd_geto H.2.1 dX8_end_4 fX8_60 rfl rfl H.2.2.2.2.2.2.2.2.2.2.2.2 ?_
  refine ww_astore_n dX8_end_7 rfl rfl rfl ?_
  refine ww_iload_n dX8_end_8 rfl rfl ?_
  refine ww_if_lt (tgt := 20) dX8_end_9 (by decide) (fun c9 => ?_) (fun c9 => ?_)
  · exact absurd c9 (by rw [hy]; exact nI_pos (by omega))
  · refine ww_iload_n dX8_end_12 rfl rfl ?_
    refine ww_aload_n dX8_end_13 rfl rfl ?_
    refine Wta_geti H.2.2.1 dX8_end_14 fX8_64 rfl rfl ?_
    refine ww_icmp_le (tgt := 22) dX8_end_17 (by decide) (fun c17 => ?_) (fun c17 => ?_)
    · refine ww_aload_n dX8_end_22 rfl rfl ?_
      refine ww_iload_n dX8_end_23 rfl rfl ?_
      refine Wta_puti H.2.2.1 dX8_end_24 fX8_64 rfl rfl ?_
      refine ww_iload_n dX8_end_27 rfl rfl ?_
      exact ww_iret dX8_end_28 rfl ⟨rfl, rfl⟩ (Nat.zero_le _) (Nat.zero_le _)
    · exact absurd c17 (fun q => q (by rw [hy, hL]; exact nI_le hj (by omega)))
set_option maxHeartbeats 4000000 in
theorem c8_fault (H : hH Λ O x mr mt mp mk mw ma) {y : Int32} : Sat G mX8_fault [.ref x, .int y] (wld Λ F O R h0, sz) (Det (some (.int (if y = 0 then F 0 8 else if y = 1 then F 0 9 else -1))) (wld Λ F O R h0, sz)) := by
  refine Sat.of (by decide) [some (.ref x), some (.int y)] rfl rfl (fun X => ?_)
  refine ww_iload_n dX8_fault_0 rfl rfl ?_
  refine ww_lookupL [(0, 28), (1, 33)] 38 dX8_fault_1 (by decide) (by decide) (by decide) (fun j1 t1 ht1 c1 => ?_) (fun c1 => ?_)
  · rcases j1 with _ | _ | j
    · cases ht1
      refine ww_aload_n dX8_fault_28 rfl rfl ?_
      refine Wxx_geti H.1 dX8_fault_29 fX8_54 rfl rfl ?_
      exact ww_iret dX8_fault_32 rfl ⟨by rw [if_pos (show y = 0 from w_litI c1 rfl)], rfl⟩ (Nat.zero_le _) (Nat.zero_le _)
    · cases ht1
      refine ww_aload_n dX8_fault_33 rfl rfl ?_
      refine Wxx_geti H.1 dX8_fault_34 fX8_57 rfl rfl ?_
      exact ww_iret dX8_fault_37 rfl ⟨by rw [if_neg (by rw [show y = 1 from w_litI c1 rfl]; decide), if_pos (show y = 1 from w_litI c1 rfl)], rfl⟩ (Nat.zero_le _) (Nat.zero_le _)
    · cases ht1
  · refine ww_iconst (v := -1) dX8_fault_38 (by decide) ?_
    exact ww_iret dX8_fault_39 rfl ⟨by rw [if_neg (fun q => c1 (0, 28) (by decide) (by rw [q]; rfl)), if_neg (fun q => c1 (1, 33) (by decide) (by rw [q]; rfl))], rfl⟩ (Nat.zero_le _) (Nat.zero_le _)
set_option maxHeartbeats 4000000 in
theorem c8_hour0 (H : hH Λ O x mr mt mp mk mw ma) {y : Int32} (hno : ¬ (F 0 7 ≤ y ∧ y ≤ 20000)) : Sat G mX8_hour [.ref x, .int y] (wld Λ F O R h0, sz) (Det (some (.int (0))) (wld Λ F O R h0, sz)) := by
  refine Sat.of (by decide) [some (.ref x), some (.int y)] rfl rfl (fun X => ?_)
  refine ww_iload_n dX8_hour_0 rfl rfl ?_
  refine ww_aload_n dX8_hour_1 rfl rfl ?_
  refine Wxx_geti H.1 dX8_hour_2 fX8_51 rfl rfl ?_
  refine ww_icmp_lt (tgt := 15) dX8_hour_5 (by decide) (fun c5 => ?_) (fun c5 => ?_)
  · refine ww_iconst (v := 0) dX8_hour_15 (by decide) ?_
    exact ww_zret dX8_hour_16 rfl (Or.inl rfl) ⟨rfl, rfl⟩ (Nat.zero_le _) (Nat.zero_le _)
  · refine ww_iload_n dX8_hour_8 rfl rfl ?_
    refine ww_sipush (v := 20000) dX8_hour_9 (by decide) ?_
    refine ww_icmp_le (tgt := 17) dX8_hour_12 (by decide) (fun c12 => ?_) (fun c12 => ?_)
    · exact absurd ⟨Int32.not_lt.mp c5, c12⟩ hno
    · refine ww_iconst (v := 0) dX8_hour_15 (by decide) ?_
      exact ww_zret dX8_hour_16 rfl (Or.inl rfl) ⟨rfl, rfl⟩ (Nat.zero_le _) (Nat.zero_le _)
set_option maxHeartbeats 4000000 in
theorem c8_hour (H : hH Λ O x mr mt mp mk mw ma) {y : Int32} (hy : F 0 7 ≤ y ∧ y ≤ 20000) : Sat G mX8_hour [.ref x, .int y] (wld Λ F O R h0, sz) (Det (some (.int (1))) (wld Λ (va_up F 0 (upd (F 0) 7 y)) O R h0, sz)) := by
  refine Sat.of (by decide) [some (.ref x), some (.int y)] rfl rfl (fun X => ?_)
  refine ww_iload_n dX8_hour_0 rfl rfl ?_
  refine ww_aload_n dX8_hour_1 rfl rfl ?_
  refine Wxx_geti H.1 dX8_hour_2 fX8_51 rfl rfl ?_
  refine ww_icmp_lt (tgt := 15) dX8_hour_5 (by decide) (fun c5 => ?_) (fun c5 => ?_)
  · exact absurd c5 (Int32.not_lt.mpr hy.1)
  · refine ww_iload_n dX8_hour_8 rfl rfl ?_
    refine ww_sipush (v := 20000) dX8_hour_9 (by decide) ?_
    refine ww_icmp_le (tgt := 17) dX8_hour_12 (by decide) (fun c12 => ?_) (fun c12 => ?_)
    · refine ww_aload_n dX8_hour_17 rfl rfl ?_
      refine ww_iload_n dX8_hour_18 rfl rfl ?_
      refine Wxx_puti H.1 dX8_hour_19 fX8_51 rfl rfl ?_
      refine ww_iconst (v := 1) dX8_hour_22 (by decide) ?_
      exact ww_zret dX8_hour_23 rfl (Or.inr rfl) ⟨rfl, rfl⟩ (Nat.zero_le _) (Nat.zero_le _)
    · exact absurd c12 (fun q => q hy.2)
set_option maxHeartbeats 4000000 in
theorem c8_stands (H : hH Λ O x mr mt mp mk mw ma) {y : Int32} {l : Nat} (hl : F 4 0 = nI l) (hl2 : l ≤ 8) : Sat G mX8_stands [.ref x, .int y] (wld Λ F O R h0, sz) (Det (some (.int (stC (R 4 6) (R 4 5) l 8 y))) (wld Λ F O R h0, sz)) := by
  refine Sat.of (by decide) [some (.ref x), some (.int y)] rfl rfl (fun X => ?_)
  refine ww_aload_n dX8_stands_0 rfl rfl ?_
  refine Wxx_geto H.1 dX8_stands_1 fX8_19 rfl rfl H.2.2.2.2.2.2.2.2.1 ?_
  refine ww_iload_n dX8_stands_4 rfl rfl ?_
  refine Wpp_call1 H.2.2.2.1 dX8_stands_5 kX8_110 rfl rfl (pp_l0 H.2.2.2.1 (c2_standInFor hl hl2)) rfl rfl rfl rfl rfl rfl (Nat.zero_le _) (Nat.zero_le _) ?_
  exact ww_iret dX8_stands_8 rfl ⟨rfl, rfl⟩ (Nat.zero_le _) (Nat.zero_le _)
set_option maxHeartbeats 4000000 in
theorem c8_due (H : hH Λ O x mr mt mp mk mw ma) {y z : Int32} {j l : Nat} (hy : y = nI j) (hj : j ≤ 20000) (hz : z = nI l) (hl1 : 1 ≤ l) (hl2 : l ≤ 99) : Sat G mX8_due [.ref x, .int y, .int z] (wld Λ F O R h0, sz) (Det (some (.int (nI (wEn (wHr j + l - 1))))) (wld Λ F O R h0, sz)) := by
  refine Sat.of (by decide) [some (.ref x), some (.int y), some (.int z)] rfl rfl (fun X => ?_)
  refine ww_iload_n dX8_due_0 rfl rfl ?_
  refine ww_if_lt (tgt := 22) dX8_due_1 (by decide) (fun c1 => ?_) (fun c1 => ?_)
  · exact absurd c1 (by rw [hy]; exact nI_pos (by omega))
  · refine ww_iload_n dX8_due_4 rfl rfl ?_
    refine ww_sipush (v := 20000) dX8_due_5 (by decide) ?_
    refine ww_icmp_gt (tgt := 22) dX8_due_8 (by decide) (fun c8 => ?_) (fun c8 => ?_)
    · exact absurd c8 (by rw [hy]; exact Int32.not_lt.mpr (nI_le (b := 20000) hj (by decide)))
    · refine ww_iload_n dX8_due_11 rfl rfl ?_
      refine ww_iconst (v := 1) dX8_due_12 (by decide) ?_
      refine ww_icmp_lt (tgt := 22) dX8_due_13 (by decide) (fun c13 => ?_) (fun c13 => ?_)
      · exact absurd c13 (by rw [hz]; exact Int32.not_lt.mpr (nI_le (a := 1) hl1 (by omega)))
      · refine ww_iload_n dX8_due_16 rfl rfl ?_
        refine ww_bipush (v := 99) dX8_due_17 (by decide) ?_
        refine ww_icmp_le (tgt := 24) dX8_due_19 (by decide) (fun c19 => ?_) (fun c19 => ?_)
        · refine ww_iload_n dX8_due_24 rfl rfl ?_
          refine ww_iload_n dX8_due_25 rfl rfl ?_
          refine ww_calls1 dX8_due_26 kX8_229 (c1_end hy hj hz hl1 (by omega)) rfl rfl rfl rfl rfl rfl (Nat.zero_le _) (Nat.zero_le _) ?_
          exact ww_iret dX8_due_29 rfl ⟨rfl, rfl⟩ (Nat.zero_le _) (Nat.zero_le _)
        · exact absurd c19 (fun q => q (by rw [hz]; exact nI_le (b := 99) hl2 (by decide)))
set_option maxHeartbeats 4000000 in
theorem c8_due0 (H : hH Λ O x mr mt mp mk mw ma) {y z : Int32} (hno : (inR y 0 20000 && inR z 1 99) = false) : Sat G mX8_due [.ref x, .int y, .int z] (wld Λ F O R h0, sz) (Det (some (.int (-1))) (wld Λ F O R h0, sz)) := by
  refine Sat.of (by decide) [some (.ref x), some (.int y), some (.int z)] rfl rfl (fun X => ?_)
  refine ww_iload_n dX8_due_0 rfl rfl ?_
  refine ww_if_lt (tgt := 22) dX8_due_1 (by decide) (fun c1 => ?_) (fun c1 => ?_)
  · refine ww_iconst (v := -1) dX8_due_22 (by decide) ?_
    exact ww_iret dX8_due_23 rfl ⟨rfl, rfl⟩ (Nat.zero_le _) (Nat.zero_le _)
  · refine ww_iload_n dX8_due_4 rfl rfl ?_
    refine ww_sipush (v := 20000) dX8_due_5 (by decide) ?_
    refine ww_icmp_gt (tgt := 22) dX8_due_8 (by decide) (fun c8 => ?_) (fun c8 => ?_)
    · refine ww_iconst (v := -1) dX8_due_22 (by decide) ?_
      exact ww_iret dX8_due_23 rfl ⟨rfl, rfl⟩ (Nat.zero_le _) (Nat.zero_le _)
    · refine ww_iload_n dX8_due_11 rfl rfl ?_
      refine ww_iconst (v := 1) dX8_due_12 (by decide) ?_
      refine ww_icmp_lt (tgt := 22) dX8_due_13 (by decide) (fun c13 => ?_) (fun c13 => ?_)
      · refine ww_iconst (v := -1) dX8_due_22 (by decide) ?_
        exact ww_iret dX8_due_23 rfl ⟨rfl, rfl⟩ (Nat.zero_le _) (Nat.zero_le _)
      · refine ww_iload_n dX8_due_16 rfl rfl ?_
        refine ww_bipush (v := 99) dX8_due_17 (by decide) ?_
        refine ww_icmp_le (tgt := 24) dX8_due_19 (by decide) (fun c19 => ?_) (fun c19 => ?_)
        · exfalso
          have q0 := Not.imp c1 Int32.lt_iff_toInt_lt.mpr
          have q1 := Not.imp c8 Int32.lt_iff_toInt_lt.mpr
          have q2 := Not.imp c13 Int32.lt_iff_toInt_lt.mpr
          have q3 := Int32.le_iff_toInt_le.mp c19
          have e0 : (0 : Int32).toInt = 0 := rfl
          have b0 : (20000 : Int32).toInt = 20000 := rfl
          have b1 : (1 : Int32).toInt = 1 := rfl
          have b2 : (99 : Int32).toInt = 99 := rfl
          exact absurd (show (inR y 0 20000 && inR z 1 99) = true by simp only [inR, Bool.and_eq_true, decide_eq_true_eq]; omega) (by rw [hno]; decide)
        · refine ww_iconst (v := -1) dX8_due_22 (by decide) ?_
          exact ww_iret dX8_due_23 rfl ⟨rfl, rfl⟩ (Nat.zero_le _) (Nat.zero_le _)
set_option maxHeartbeats 4000000 in
theorem c8_person0 (H : hH Λ O x mr mt mp mk mw ma) {y z : Int32} (hno : (inR y 0 63 && inR z 1 9) = false) : Sat G mX8_person [.ref x, .int y, .int z] (wld Λ F O R h0, sz) (Det (some (.int (-1))) (wld Λ F O R h0, sz)) := by
  refine Sat.of (by decide) [some (.ref x), some (.int y), some (.int z)] rfl rfl (fun X => ?_)
  refine ww_iload_n dX8_person_0 rfl rfl ?_
  refine ww_if_lt (tgt := 21) dX8_person_1 (by decide) (fun c1 => ?_) (fun c1 => ?_)
  · refine ww_iconst (v := -1) dX8_person_21 (by decide) ?_
    exact ww_iret dX8_person_22 rfl ⟨rfl, rfl⟩ (Nat.zero_le _) (Nat.zero_le _)
  · refine ww_iload_n dX8_person_4 rfl rfl ?_
    refine ww_bipush (v := 63) dX8_person_5 (by decide) ?_
    refine ww_icmp_gt (tgt := 21) dX8_person_7 (by decide) (fun c7 => ?_) (fun c7 => ?_)
    · refine ww_iconst (v := -1) dX8_person_21 (by decide) ?_
      exact ww_iret dX8_person_22 rfl ⟨rfl, rfl⟩ (Nat.zero_le _) (Nat.zero_le _)
    · refine ww_iload_n dX8_person_10 rfl rfl ?_
      refine ww_iconst (v := 1) dX8_person_11 (by decide) ?_
      refine ww_icmp_lt (tgt := 21) dX8_person_12 (by decide) (fun c12 => ?_) (fun c12 => ?_)
      · refine ww_iconst (v := -1) dX8_person_21 (by decide) ?_
        exact ww_iret dX8_person_22 rfl ⟨rfl, rfl⟩ (Nat.zero_le _) (Nat.zero_le _)
      · refine ww_iload_n dX8_person_15 rfl rfl ?_
        refine ww_bipush (v := 9) dX8_person_16 (by decide) ?_
        refine ww_icmp_le (tgt := 23) dX8_person_18 (by decide) (fun c18 => ?_) (fun c18 => ?_)
        · exfalso
          have q0 := Not.imp c1 Int32.lt_iff_toInt_lt.mpr
          have q1 := Not.imp c7 Int32.lt_iff_toInt_lt.mpr
          have q2 := Not.imp c12 Int32.lt_iff_toInt_lt.mpr
          have q3 := Int32.le_iff_toInt_le.mp c18
          have e0 : (0 : Int32).toInt = 0 := rfl
          have b0 : (63 : Int32).toInt = 63 := rfl
          have b1 : (1 : Int32).toInt = 1 := rfl
          have b2 : (9 : Int32).toInt = 9 := rfl
          exact absurd (show (inR y 0 63 && inR z 1 9) = true by simp only [inR, Bool.and_eq_true, decide_eq_true_eq]; omega) (by rw [hno]; decide)
        · refine ww_iconst (v := -1) dX8_person_21 (by decide) ?_
          exact ww_iret dX8_person_22 rfl ⟨rfl, rfl⟩ (Nat.zero_le _) (Nat.zero_le _)
set_option maxHeartbeats 4000000 in
theorem c8_person (H : hH Λ O x mr mt mp mk mw ma) {y z : Int32} {l : Nat} (hl : F 4 0 = nI l) (hl2 : l < 8) (hy : inR y 0 63 = true) (hz : inR z 1 9 = true) : Sat G mX8_person [.ref x, .int y, .int z] (wld Λ F O R h0, sz) (Det (some (.int (nI l))) (wld Λ (va_up F 4 (upd (F 4) 0 (nI (l + 1)))) O (va_up R 4 (va_up (va_up (va_up (va_up (va_up (va_up (R 4) 1 (upd (R 4 1) l y)) 2 (upd (R 4 2) l z)) 3 (upd (R 4 3) l 0)) 4 (upd (R 4 4) l 0)) 5 (upd (R 4 5) l (-1))) 6 (upd (R 4 6) l 0))) h0, sz)) := by
  refine Sat.of (by decide) [some (.ref x), some (.int y), some (.int z)] rfl rfl (fun X => ?_)
  have hy := of_decide_eq_true hy
  have hz := of_decide_eq_true hz
  have e0 : (0 : Int32).toInt = 0 := rfl
  have e1 : (1 : Int32).toInt = 1 := rfl
  have e63 : (63 : Int32).toInt = 63 := rfl
  have e9 : (9 : Int32).toInt = 9 := rfl
  refine ww_iload_n dX8_person_0 rfl rfl ?_
  refine ww_if_lt (tgt := 21) dX8_person_1 (by decide) (fun c1 => ?_) (fun c1 => ?_)
  · exact absurd c1 (fun q => by have := Int32.lt_iff_toInt_lt.mp q; omega)
  · refine ww_iload_n dX8_person_4 rfl rfl ?_
    refine ww_bipush (v := 63) dX8_person_5 (by decide) ?_
    refine ww_icmp_gt (tgt := 21) dX8_person_7 (by decide) (fun c7 => ?_) (fun c7 => ?_)
    · exact absurd c7 (fun q => by have := Int32.lt_iff_toInt_lt.mp q; omega)
    · refine ww_iload_n dX8_person_10 rfl rfl ?_
      refine ww_iconst (v := 1) dX8_person_11 (by decide) ?_
      refine ww_icmp_lt (tgt := 21) dX8_person_12 (by decide) (fun c12 => ?_) (fun c12 => ?_)
      · exact absurd c12 (fun q => by have := Int32.lt_iff_toInt_lt.mp q; omega)
      · refine ww_iload_n dX8_person_15 rfl rfl ?_
        refine ww_bipush (v := 9) dX8_person_16 (by decide) ?_
        refine ww_icmp_le (tgt := 23) dX8_person_18 (by decide) (fun c18 => ?_) (fun c18 => ?_)
        · refine ww_aload_n dX8_person_23 rfl rfl ?_
          refine Wxx_geto H.1 dX8_person_24 fX8_19 rfl rfl H.2.2.2.2.2.2.2.2.1 ?_
          refine ww_iload_n dX8_person_27 rfl rfl ?_
          refine ww_iload_n dX8_person_28 rfl rfl ?_
          refine Wpp_call1 H.2.2.2.1 dX8_person_29 kX8_88 rfl rfl (pp_lB H.2.2.2.1 (c2_add hl hl2)) rfl rfl rfl rfl rfl rfl (Nat.zero_le _) (Nat.zero_le _) ?_
          exact ww_iret dX8_person_32 rfl ⟨rfl, rfl⟩ (Nat.zero_le _) (Nat.zero_le _)
        · exact absurd c18 (fun q => q (Int32.le_iff_toInt_le.mpr (by omega)))
end X8A
