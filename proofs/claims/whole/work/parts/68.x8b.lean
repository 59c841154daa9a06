section X8B
variable {G : wG} {Λ : wL} {x mr mt mp mk mw ma : Nat} {F : Nat → Nat → Int32} {O : Nat → Nat → Option Nat} {R : Nat → Nat → Nat → Int32} {h0 : Nat → Option wE} {sz : Nat}
set_option maxHeartbeats 4000000 in
theorem c8_deputy0 (H : hH Λ O x mr mt mp mk mw ma) {y z : Int32} {l : Nat} (hl : F 4 0 = nI l) (hl2 : l ≤ 8) (hno : wIn y l = false) : Sat G mX8_deputy [.ref x, .int y, .int z] (wld Λ F O R h0, sz) (Det (some (.int (0))) (wld Λ F O R h0, sz)) := by
  refine Sat.of (by decide) [some (.ref x), some (.int y), some (.int z)] rfl rfl (fun X => ?_)
  refine ww_aload_n dX8_deputy_0 rfl rfl ?_
  refine Wxx_geto H.1 dX8_deputy_1 fX8_19 rfl rfl H.2.2.2.2.2.2.2.2.1 ?_
  refine ww_iload_n dX8_deputy_4 rfl rfl ?_
  refine Wpp_call1 H.2.2.2.1 dX8_deputy_5 kX8_92 rfl rfl (pp_l0 H.2.2.2.1 (c2_has hl hl2)) rfl rfl rfl rfl rfl rfl (Nat.zero_le _) (Nat.zero_le _) ?_
  refine ww_if_eq (tgt := 16) dX8_deputy_8 (by decide) (fun c8 => ?_) (fun c8 => ?_)
  · refine ww_iconst (v := 0) dX8_deputy_16 (by decide) ?_
    exact ww_zret dX8_deputy_17 rfl (Or.inl rfl) ⟨rfl, rfl⟩ (Nat.zero_le _) (Nat.zero_le _)
  · exact absurd c8 (fun q => q (wb_eq0.mpr hno))
set_option maxHeartbeats 4000000 in
theorem c8_deputy1 (H : hH Λ O x mr mt mp mk mw ma) {y z : Int32} {l : Nat} (hl : F 4 0 = nI l) (hl2 : l ≤ 8){j : Nat} (hy : y = nI j) (hj : j < l) (hzy : z = y) : Sat G mX8_deputy [.ref x, .int y, .int z] (wld Λ F O R h0, sz) (Det (some (.int (0))) (wld Λ F O R h0, sz)) := by
  refine Sat.of (by decide) [some (.ref x), some (.int y), some (.int z)] rfl rfl (fun X => ?_)
  refine ww_aload_n dX8_deputy_0 rfl rfl ?_
  refine Wxx_geto H.1 dX8_deputy_1 fX8_19 rfl rfl H.2.2.2.2.2.2.2.2.1 ?_
  refine ww_iload_n dX8_deputy_4 rfl rfl ?_
  refine Wpp_call1 H.2.2.2.1 dX8_deputy_5 kX8_92 rfl rfl (pp_l0 H.2.2.2.1 (c2_has hl hl2)) rfl rfl rfl rfl rfl rfl (Nat.zero_le _) (Nat.zero_le _) ?_
  refine ww_if_eq (tgt := 16) dX8_deputy_8 (by decide) (fun c8 => ?_) (fun c8 => ?_)
  · exact absurd c8 (by rw [hy, wIn_nI hj (by omega)]; decide)
  · refine ww_iload_n dX8_deputy_11 rfl rfl ?_
    refine ww_iload_n dX8_deputy_12 rfl rfl ?_
    refine ww_icmp_ne (tgt := 18) dX8_deputy_13 (by decide) (fun c13 => ?_) (fun c13 => ?_)
    · exact absurd c13 (fun q => q hzy)
    · refine ww_iconst (v := 0) dX8_deputy_16 (by decide) ?_
      exact ww_zret dX8_deputy_17 rfl (Or.inl rfl) ⟨rfl, rfl⟩ (Nat.zero_le _) (Nat.zero_le _)
set_option maxHeartbeats 4000000 in
theorem c8_deputy2 (H : hH Λ O x mr mt mp mk mw ma) {y z : Int32} {l : Nat} (hl : F 4 0 = nI l) (hl2 : l ≤ 8){j : Nat} (hy : y = nI j) (hj : j < l) (hzy : ¬ z = y) (hz1 : ¬ z = -1) (hno : wIn z l = false) : Sat G mX8_deputy [.ref x, .int y, .int z] (wld Λ F O R h0, sz) (Det (some (.int (0))) (wld Λ F O R h0, sz)) := by
  refine Sat.of (by decide) [some (.ref x), some (.int y), some (.int z)] rfl rfl (fun X => ?_)
  refine ww_aload_n dX8_deputy_0 rfl rfl ?_
  refine Wxx_geto H.1 dX8_deputy_1 fX8_19 rfl rfl H.2.2.2.2.2.2.2.2.1 ?_
  refine ww_iload_n dX8_deputy_4 rfl rfl ?_
  refine Wpp_call1 H.2.2.2.1 dX8_deputy_5 kX8_92 rfl rfl (pp_l0 H.2.2.2.1 (c2_has hl hl2)) rfl rfl rfl rfl rfl rfl (Nat.zero_le _) (Nat.zero_le _) ?_
  refine ww_if_eq (tgt := 16) dX8_deputy_8 (by decide) (fun c8 => ?_) (fun c8 => ?_)
  · exact absurd c8 (by rw [hy, wIn_nI hj (by omega)]; decide)
  · refine ww_iload_n dX8_deputy_11 rfl rfl ?_
    refine ww_iload_n dX8_deputy_12 rfl rfl ?_
    refine ww_icmp_ne (tgt := 18) dX8_deputy_13 (by decide) (fun c13 => ?_) (fun c13 => ?_)
    · refine ww_iload_n dX8_deputy_18 rfl rfl ?_
      refine ww_iconst (v := -1) dX8_deputy_19 (by decide) ?_
      refine ww_icmp_eq (tgt := 36) dX8_deputy_20 (by decide) (fun c20 => ?_) (fun c20 => ?_)
      · exact absurd c20 hz1
      · refine ww_aload_n dX8_deputy_23 rfl rfl ?_
        refine Wxx_geto H.1 dX8_deputy_24 fX8_19 rfl rfl H.2.2.2.2.2.2.2.2.1 ?_
        refine ww_iload_n dX8_deputy_27 rfl rfl ?_
        refine Wpp_call1 H.2.2.2.1 dX8_deputy_28 kX8_92 rfl rfl (pp_l0 H.2.2.2.1 (c2_has hl hl2)) rfl rfl rfl rfl rfl rfl (Nat.zero_le _) (Nat.zero_le _) ?_
        refine ww_if_ne (tgt := 36) dX8_deputy_31 (by decide) (fun c31 => ?_) (fun c31 => ?_)
        · exact absurd c31 (fun q => q (wb_eq0.mpr hno))
        · refine ww_iconst (v := 0) dX8_deputy_34 (by decide) ?_
          exact ww_zret dX8_deputy_35 rfl (Or.inl rfl) ⟨rfl, rfl⟩ (Nat.zero_le _) (Nat.zero_le _)
    · exact absurd c13 hzy
set_option maxHeartbeats 4000000 in
theorem c8_deputy3 (H : hH Λ O x mr mt mp mk mw ma) {y z : Int32} {l : Nat} (hl : F 4 0 = nI l) (hl2 : l ≤ 8){j : Nat} (hy : y = nI j) (hj : j < l) (hzy : ¬ z = y) (hz1 : z = -1) : Sat G mX8_deputy [.ref x, .int y, .int z] (wld Λ F O R h0, sz) (Det (some (.int (1))) (wld Λ F O (va_up R 4 (va_up (R 4) 5 (upd (R 4 5) j z))) h0, sz)) := by
  refine Sat.of (by decide) [some (.ref x), some (.int y), some (.int z)] rfl rfl (fun X => ?_)
  refine ww_aload_n dX8_deputy_0 rfl rfl ?_
  refine Wxx_geto H.1 dX8_deputy_1 fX8_19 rfl rfl H.2.2.2.2.2.2.2.2.1 ?_
  refine ww_iload_n dX8_deputy_4 rfl rfl ?_
  refine Wpp_call1 H.2.2.2.1 dX8_deputy_5 kX8_92 rfl rfl (pp_l0 H.2.2.2.1 (c2_has hl hl2)) rfl rfl rfl rfl rfl rfl (Nat.zero_le _) (Nat.zero_le _) ?_
  refine ww_if_eq (tgt := 16) dX8_deputy_8 (by decide) (fun c8 => ?_) (fun c8 => ?_)
  · exact absurd c8 (by rw [hy, wIn_nI hj (by omega)]; decide)
  · refine ww_iload_n dX8_deputy_11 rfl rfl ?_
    refine ww_iload_n dX8_deputy_12 rfl rfl ?_
    refine ww_icmp_ne (tgt := 18) dX8_deputy_13 (by decide) (fun c13 => ?_) (fun c13 => ?_)
    · refine ww_iload_n dX8_deputy_18 rfl rfl ?_
      refine ww_iconst (v := -1) dX8_deputy_19 (by decide) ?_
      refine ww_icmp_eq (tgt := 36) dX8_deputy_20 (by decide) (fun c20 => ?_) (fun c20 => ?_)
      · refine ww_aload_n dX8_deputy_36 rfl rfl ?_
        refine Wxx_geto H.1 dX8_deputy_37 fX8_19 rfl rfl H.2.2.2.2.2.2.2.2.1 ?_
        refine Wpp_getr H.2.2.2.1 dX8_deputy_40 fX8_96 rfl ?_
        refine ww_iload_n dX8_deputy_43 rfl rfl ?_
        refine ww_iload_n dX8_deputy_44 rfl rfl ?_
        refine Wpp_iast H.2.2.2.1 dX8_deputy_45 rfl hy (by omega) rfl ?_
        refine ww_iconst (v := 1) dX8_deputy_46 (by decide) ?_
        exact ww_zret dX8_deputy_47 rfl (Or.inr rfl) ⟨rfl, rfl⟩ (Nat.zero_le _) (Nat.zero_le _)
      · exact absurd c20 (fun q => q hz1)
    · exact absurd c13 hzy
set_option maxHeartbeats 4000000 in
theorem c8_deputy4 (H : hH Λ O x mr mt mp mk mw ma) {y z : Int32} {l : Nat} (hl : F 4 0 = nI l) (hl2 : l ≤ 8){j : Nat} (hy : y = nI j) (hj : j < l) (hzy : ¬ z = y) (hz1 : ¬ z = -1) (hz2 : wIn z l = true) : Sat G mX8_deputy [.ref x, .int y, .int z] (wld Λ F O R h0, sz) (Det (some (.int (1))) (wld Λ F O (va_up R 4 (va_up (R 4) 5 (upd (R 4 5) j z))) h0, sz)) := by
  refine Sat.of (by decide) [some (.ref x), some (.int y), some (.int z)] rfl rfl (fun X => ?_)
  refine ww_aload_n dX8_deputy_0 rfl rfl ?_
  refine Wxx_geto H.1 dX8_deputy_1 fX8_19 rfl rfl H.2.2.2.2.2.2.2.2.1 ?_
  refine ww_iload_n dX8_deputy_4 rfl rfl ?_
  refine Wpp_call1 H.2.2.2.1 dX8_deputy_5 kX8_92 rfl rfl (pp_l0 H.2.2.2.1 (c2_has hl hl2)) rfl rfl rfl rfl rfl rfl (Nat.zero_le _) (Nat.zero_le _) ?_
  refine ww_if_eq (tgt := 16) dX8_deputy_8 (by decide) (fun c8 => ?_) (fun c8 => ?_)
  · exact absurd c8 (by rw [hy, wIn_nI hj (by omega)]; decide)
  · refine ww_iload_n dX8_deputy_11 rfl rfl ?_
    refine ww_iload_n dX8_deputy_12 rfl rfl ?_
    refine ww_icmp_ne (tgt := 18) dX8_deputy_13 (by decide) (fun c13 => ?_) (fun c13 => ?_)
    · refine ww_iload_n dX8_deputy_18 rfl rfl ?_
      refine ww_iconst (v := -1) dX8_deputy_19 (by decide) ?_
      refine ww_icmp_eq (tgt := 36) dX8_deputy_20 (by decide) (fun c20 => ?_) (fun c20 => ?_)
      · exact absurd c20 hz1
      · refine ww_aload_n dX8_deputy_23 rfl rfl ?_
        refine Wxx_geto H.1 dX8_deputy_24 fX8_19 rfl rfl H.2.2.2.2.2.2.2.2.1 ?_
        refine ww_iload_n dX8_deputy_27 rfl rfl ?_
        refine Wpp_call1 H.2.2.2.1 dX8_deputy_28 kX8_92 rfl rfl (pp_l0 H.2.2.2.1 (c2_has hl hl2)) rfl rfl rfl rfl rfl rfl (Nat.zero_le _) (Nat.zero_le _) ?_
        refine ww_if_ne (tgt := 36) dX8_deputy_31 (by decide) (fun c31 => ?_) (fun c31 => ?_)
        · refine ww_aload_n dX8_deputy_36 rfl rfl ?_
          refine Wxx_geto H.1 dX8_deputy_37 fX8_19 rfl rfl H.2.2.2.2.2.2.2.2.1 ?_
          refine Wpp_getr H.2.2.2.1 dX8_deputy_40 fX8_96 rfl ?_
          refine ww_iload_n dX8_deputy_43 rfl rfl ?_
          refine ww_iload_n dX8_deputy_44 rfl rfl ?_
          refine Wpp_iast H.2.2.2.1 dX8_deputy_45 rfl hy (by omega) rfl ?_
          refine ww_iconst (v := 1) dX8_deputy_46 (by decide) ?_
          exact ww_zret dX8_deputy_47 rfl (Or.inr rfl) ⟨rfl, rfl⟩ (Nat.zero_le _) (Nat.zero_le _)
        · exact absurd c31 (by rw [hz2]; decide)
    · exact absurd c13 hzy
set_option maxHeartbeats 4000000 in
theorem c8_away0 (H : hH Λ O x mr mt mp mk mw ma) {y z : Int32} {l : Nat} (hl : F 4 0 = nI l) (hl2 : l ≤ 8) (hno : wIn y l = false) : Sat G mX8_away [.ref x, .int y, .int z] (wld Λ F O R h0, sz) (Det (some (.int (0))) (wld Λ F O R h0, sz)) := by
  refine Sat.of (by decide) [some (.ref x), some (.int y), some (.int z)] rfl rfl (fun X => ?_)
  refine ww_aload_n dX8_away_0 rfl rfl ?_
  refine Wxx_geto H.1 dX8_away_1 fX8_19 rfl rfl H.2.2.2.2.2.2.2.2.1 ?_
  refine ww_iload_n dX8_away_4 rfl rfl ?_
  refine Wpp_call1 H.2.2.2.1 dX8_away_5 kX8_92 rfl rfl (pp_l0 H.2.2.2.1 (c2_has hl hl2)) rfl rfl rfl rfl rfl rfl (Nat.zero_le _) (Nat.zero_le _) ?_
  refine ww_if_ne (tgt := 13) dX8_away_8 (by decide) (fun c8 => ?_) (fun c8 => ?_)
  · exact absurd c8 (fun q => q (wb_eq0.mpr hno))
  · refine ww_iconst (v := 0) dX8_away_11 (by decide) ?_
    exact ww_zret dX8_away_12 rfl (Or.inl rfl) ⟨rfl, rfl⟩ (Nat.zero_le _) (Nat.zero_le _)
set_option maxHeartbeats 4000000 in
theorem c8_awayF (H : hH Λ O x mr mt mp mk mw ma) {y : Int32} {l : Nat} (hl : F 4 0 = nI l) (hl2 : l ≤ 8){j : Nat} (hy : y = nI j) (hj : j < l) : Sat G mX8_away [.ref x, .int y, .int 0] (wld Λ F O R h0, sz) (Det (some (.int (1))) (wld Λ F O (va_up R 4 (va_up (R 4) 6 (upd (R 4 6) j 0))) h0, sz)) := by
  refine Sat.of (by decide) [some (.ref x), some (.int y), some (.int 0)] rfl rfl (fun X => ?_)
  refine ww_aload_n dX8_away_0 rfl rfl ?_
  refine Wxx_geto H.1 dX8_away_1 fX8_19 rfl rfl H.2.2.2.2.2.2.2.2.1 ?_
  refine ww_iload_n dX8_away_4 rfl rfl ?_
  refine Wpp_call1 H.2.2.2.1 dX8_away_5 kX8_92 rfl rfl (pp_l0 H.2.2.2.1 (c2_has hl hl2)) rfl rfl rfl rfl rfl rfl (Nat.zero_le _) (Nat.zero_le _) ?_
  refine ww_if_ne (tgt := 13) dX8_away_8 (by decide) (fun c8 => ?_) (fun c8 => ?_)
  · refine ww_aload_n dX8_away_13 rfl rfl ?_
    refine Wxx_geto H.1 dX8_away_14 fX8_19 rfl rfl H.2.2.2.2.2.2.2.2.1 ?_
    refine Wpp_getr H.2.2.2.1 dX8_away_17 fX8_100 rfl ?_
    refine ww_iload_n dX8_away_20 rfl rfl ?_
    refine ww_iload_n dX8_away_21 rfl rfl ?_
    refine Wpp_zast H.2.2.2.1 dX8_away_22 rfl hy (by omega) rfl ?_
    refine ww_iload_n dX8_away_23 rfl rfl ?_
    refine ww_if_eq (tgt := 45) dX8_away_24 (by decide) (fun c24 => ?_) (fun c24 => ?_)
    · refine ww_iconst (v := 1) dX8_away_45 (by decide) ?_
      exact ww_zret dX8_away_46 rfl (Or.inr rfl) ⟨rfl, rfl⟩ (Nat.zero_le _) (Nat.zero_le _)
    · exact absurd c24 (fun q => q rfl)
  · exact absurd c8 (by rw [hy, wIn_nI hj (by omega)]; decide)
set_option maxHeartbeats 4000000 in
theorem c8_awayT (H : hH Λ O x mr mt mp mk mw ma) {y : Int32} {l : Nat} (hl : F 4 0 = nI l) (hl2 : l ≤ 8){j : Nat} (hy : y = nI j) (hj : j < l){c : Nat} (hc : F 5 0 = nI c) (hc2 : c ≤ 200) : Sat G mX8_away [.ref x, .int y, .int 1] (wld Λ F O R h0, sz) (Det (some (.int (1))) (wld Λ F O (va_up (va_up (va_up R 4 (va_up (R 4) 6 (upd (R 4 6) j 1))) 5 (awT (R 5) y c)) 4 (va_up (va_up (R 4) 6 (upd (R 4 6) j 1)) 3 (upd (R 4 3) j 0))) h0, sz)) := by
  refine Sat.of (by decide) [some (.ref x), some (.int y), some (.int 1)] rfl rfl (fun X => ?_)
  refine ww_aload_n dX8_away_0 rfl rfl ?_
  refine Wxx_geto H.1 dX8_away_1 fX8_19 rfl rfl H.2.2.2.2.2.2.2.2.1 ?_
  refine ww_iload_n dX8_away_4 rfl rfl ?_
  refine Wpp_call1 H.2.2.2.1 dX8_away_5 kX8_92 rfl rfl (pp_l0 H.2.2.2.1 (c2_has hl hl2)) rfl rfl rfl rfl rfl rfl (Nat.zero_le _) (Nat.zero_le _) ?_
  refine ww_if_ne (tgt := 13) dX8_away_8 (by decide) (fun c8 => ?_) (fun c8 => ?_)
  · refine ww_aload_n dX8_away_13 rfl rfl ?_
    refine Wxx_geto H.1 dX8_away_14 fX8_19 rfl rfl H.2.2.2.2.2.2.2.2.1 ?_
    refine Wpp_getr H.2.2.2.1 dX8_away_17 fX8_100 rfl ?_
    refine ww_iload_n dX8_away_20 rfl rfl ?_
    refine ww_iload_n dX8_away_21 rfl rfl ?_
    refine Wpp_zast H.2.2.2.1 dX8_away_22 rfl hy (by omega) rfl ?_
    refine ww_iload_n dX8_away_23 rfl rfl ?_
    refine ww_if_eq (tgt := 45) dX8_away_24 (by decide) (fun c24 => ?_) (fun c24 => ?_)
    · exact absurd c24 (by decide)
    · refine ww_aload_n dX8_away_27 rfl rfl ?_
      refine Wxx_geto H.1 dX8_away_28 fX8_26 rfl rfl H.2.2.2.2.2.2.2.2.2.1 ?_
      refine ww_iload_n dX8_away_31 rfl rfl ?_
      refine Wtt_call0 H.2.2.2.2.1 dX8_away_32 kX8_104 rfl rfl (tt_lR H.2.2.2.2.1 (c6_reopenAllOf (x := y) hc hc2)) rfl rfl rfl rfl rfl rfl (Nat.zero_le _) (Nat.zero_le _) ?_
      refine ww_aload_n dX8_away_35 rfl rfl ?_
      refine Wxx_geto H.1 dX8_away_36 fX8_19 rfl rfl H.2.2.2.2.2.2.2.2.1 ?_
      refine Wpp_getr H.2.2.2.1 dX8_away_39 fX8_107 rfl ?_
      refine ww_iload_n dX8_away_42 rfl rfl ?_
      refine ww_iconst (v := 0) dX8_away_43 (by decide) ?_
      refine Wpp_iast H.2.2.2.1 dX8_away_44 rfl hy (by omega) rfl ?_
      refine ww_iconst (v := 1) dX8_away_45 (by decide) ?_
      exact ww_zret dX8_away_46 rfl (Or.inr rfl) ⟨rfl, rfl⟩ (Nat.zero_le _) (Nat.zero_le _)
  · exact absurd c8 (by rw [hy, wIn_nI hj (by omega)]; decide)
set_option maxHeartbeats 4000000 in
theorem c8_giveBack0 (H : hH Λ O x mr mt mp mk mw ma) {y : Int32} {c : Nat} (hc : F 5 0 = nI c) (hc2 : c ≤ 200) (hno : wIn y c = false) : Sat G mX8_giveBack [.ref x, .int y] (wld Λ F O R h0, sz) (Det (some (.int (0))) (wld Λ F O R h0, sz)) := by
  refine Sat.of (by decide) [some (.ref x), some (.int y)] rfl rfl (fun X => ?_)
  refine ww_aload_n dX8_giveBack_0 rfl rfl ?_
  refine Wxx_geto H.1 dX8_giveBack_1 fX8_26 rfl rfl H.2.2.2.2.2.2.2.2.2.1 ?_
  refine ww_iload_n dX8_giveBack_4 rfl rfl ?_
  refine ww_iconst (v := 1) dX8_giveBack_5 (by decide) ?_
  refine Wtt_call1 H.2.2.2.2.1 dX8_giveBack_6 kX8_179 rfl rfl (tt_l0 H.2.2.2.2.1 (c6_isIn0 hc hc2 hno)) rfl rfl rfl rfl rfl rfl (Nat.zero_le _) (Nat.zero_le _) ?_
  refine ww_if_ne (tgt := 14) dX8_giveBack_9 (by decide) (fun c9 => ?_) (fun c9 => ?_)
  · exact absurd c9 (fun q => q rfl)
  · refine ww_iconst (v := 0) dX8_giveBack_12 (by decide) ?_
    exact ww_zret dX8_giveBack_13 rfl (Or.inl rfl) ⟨rfl, rfl⟩ (Nat.zero_le _) (Nat.zero_le _)
set_option maxHeartbeats 4000000 in
theorem c8_giveBack1 (H : hH Λ O x mr mt mp mk mw ma) {y : Int32} {c : Nat} (hc : F 5 0 = nI c) (hc2 : c ≤ 200){j : Nat} (hy : y = nI j) (hj : j < c) (hs : ¬ R 5 6 j = 1) : Sat G mX8_giveBack [.ref x, .int y] (wld Λ F O R h0, sz) (Det (some (.int (0))) (wld Λ F O R h0, sz)) := by
  refine Sat.of (by decide) [some (.ref x), some (.int y)] rfl rfl (fun X => ?_)
  refine ww_aload_n dX8_giveBack_0 rfl rfl ?_
  refine Wxx_geto H.1 dX8_giveBack_1 fX8_26 rfl rfl H.2.2.2.2.2.2.2.2.2.1 ?_
  refine ww_iload_n dX8_giveBack_4 rfl rfl ?_
  refine ww_iconst (v := 1) dX8_giveBack_5 (by decide) ?_
  refine Wtt_call1 H.2.2.2.2.1 dX8_giveBack_6 kX8_179 rfl rfl (tt_l0 H.2.2.2.2.1 (c6_isIn (y := 1) hc hc2 hy hj)) rfl rfl rfl rfl rfl rfl (Nat.zero_le _) (Nat.zero_le _) ?_
  refine ww_if_ne (tgt := 14) dX8_giveBack_9 (by decide) (fun c9 => ?_) (fun c9 => ?_)
  · exact absurd c9 (fun q => q (wb_eq0.mpr (decide_eq_false hs)))
  · refine ww_iconst (v := 0) dX8_giveBack_12 (by decide) ?_
    exact ww_zret dX8_giveBack_13 rfl (Or.inl rfl) ⟨rfl, rfl⟩ (Nat.zero_le _) (Nat.zero_le _)
set_option maxHeartbeats 4000000 in
theorem c8_giveBack (H : hH Λ O x mr mt mp mk mw ma) {y : Int32} {p : Nat} {l : Nat} (hl : F 4 0 = nI l) (hl2 : l ≤ 8){c : Nat} (hc : F 5 0 = nI c) (hc2 : c ≤ 200){j : Nat} (hy : y = nI j) (hj : j < c) (hs : R 5 6 j = 1) (hp : R 5 7 j = nI p) (hpl : p < l) : Sat G mX8_giveBack [.ref x, .int y] (wld Λ F O R h0, sz) (Det (some (.int (1))) (wld Λ F O (va_up (va_up R 4 (va_up (R 4) 3 (upd (R 4 3) p (R 4 3 p - 1)))) 5 (va_up (va_up (R 5) 6 (upd (R 5 6) j 0)) 7 (upd (R 5 7) j (-1)))) h0, sz)) := by
  refine Sat.of (by decide) [some (.ref x), some (.int y)] rfl rfl (fun X => ?_)
  refine ww_aload_n dX8_giveBack_0 rfl rfl ?_
  refine Wxx_geto H.1 dX8_giveBack_1 fX8_26 rfl rfl H.2.2.2.2.2.2.2.2.2.1 ?_
  refine ww_iload_n dX8_giveBack_4 rfl rfl ?_
  refine ww_iconst (v := 1) dX8_giveBack_5 (by decide) ?_
  refine Wtt_call1 H.2.2.2.2.1 dX8_giveBack_6 kX8_179 rfl rfl (tt_l0 H.2.2.2.2.1 (c6_isIn (y := 1) hc hc2 hy hj)) rfl rfl rfl rfl rfl rfl (Nat.zero_le _) (Nat.zero_le _) ?_
  refine ww_if_ne (tgt := 14) dX8_giveBack_9 (by decide) (fun c9 => ?_) (fun c9 => ?_)
  · refine ww_aload_n dX8_giveBack_14 rfl rfl ?_
    refine Wxx_geto H.1 dX8_giveBack_15 fX8_19 rfl rfl H.2.2.2.2.2.2.2.2.1 ?_
    refine ww_aload_n dX8_giveBack_18 rfl rfl ?_
    refine Wxx_geto H.1 dX8_giveBack_19 fX8_26 rfl rfl H.2.2.2.2.2.2.2.2.2.1 ?_
    refine Wtt_getr H.2.2.2.2.1 dX8_giveBack_22 fX8_166 rfl ?_
    refine ww_iload_n dX8_giveBack_25 rfl rfl ?_
    refine Wtt_iald H.2.2.2.2.1 dX8_giveBack_26 rfl hy (by omega) rfl ?_
    refine Wpp_call0 H.2.2.2.1 dX8_giveBack_27 kX8_190 rfl rfl (pp_lR H.2.2.2.1 (c2_dropClaim hl hl2 hp hpl)) rfl rfl rfl rfl rfl rfl (Nat.zero_le _) (Nat.zero_le _) ?_
    refine ww_aload_n dX8_giveBack_30 rfl rfl ?_
    refine Wxx_geto H.1 dX8_giveBack_31 fX8_26 rfl rfl H.2.2.2.2.2.2.2.2.2.1 ?_
    refine ww_iload_n dX8_giveBack_34 rfl rfl ?_
    refine Wtt_call0 H.2.2.2.2.1 dX8_giveBack_35 kX8_193 rfl rfl (tt_lR H.2.2.2.2.1 (c6_reopen hc hc2 hy hj)) rfl rfl rfl rfl rfl rfl (Nat.zero_le _) (Nat.zero_le _) ?_
    refine ww_iconst (v := 1) dX8_giveBack_38 (by decide) ?_
    exact ww_zret dX8_giveBack_39 rfl (Or.inr rfl) ⟨rfl, rfl⟩ (Nat.zero_le _) (Nat.zero_le _)
  · exact absurd c9 (by rw [decide_eq_true hs]; decide)
set_option maxHeartbeats 4000000 in
theorem c8_task0 (H : hH Λ O x mr mt mp mk mw ma) {y z : Int32} {c : Nat} (hc : F 5 0 = nI c) (hc2 : c ≤ 200) (hno : wIn y c = false) : Sat G mX8_task [.ref x, .int y, .int z] (wld Λ F O R h0, sz) (Det (some (.int (-1))) (wld Λ F O R h0, sz)) := by
  refine Sat.of (by decide) [some (.ref x), some (.int y), some (.int z)] rfl rfl (fun X => ?_)
  refine ww_aload_n dX8_task_0 rfl rfl ?_
  refine Wxx_geto H.1 dX8_task_1 fX8_26 rfl rfl H.2.2.2.2.2.2.2.2.2.1 ?_
  refine ww_iload_n dX8_task_4 rfl rfl ?_
  refine Wtt_call1 H.2.2.2.2.1 dX8_task_5 kX8_148 rfl rfl (tt_l0 H.2.2.2.2.1 (c6_has hc hc2)) rfl rfl rfl rfl rfl rfl (Nat.zero_le _) (Nat.zero_le _) ?_
  refine ww_if_ne (tgt := 13) dX8_task_8 (by decide) (fun c8 => ?_) (fun c8 => ?_)
  · exact absurd c8 (fun q => q (wb_eq0.mpr hno))
  · refine ww_iconst (v := -1) dX8_task_11 (by decide) ?_
    exact ww_iret dX8_task_12 rfl ⟨rfl, rfl⟩ (Nat.zero_le _) (Nat.zero_le _)
def tskC (R : Nat → Nat → Nat → Int32) (j : Nat) (z : Int32) : Int32 := if z = nI 0 then R 5 1 j else if z = nI 1 then R 5 2 j else if z = nI 2 then R 5 3 j else if z = nI 3 then R 5 4 j else if z = nI 4 then R 5 5 j else if z = nI 5 then R 5 6 j else if z = nI 6 then R 5 7 j else if z = nI 7 then R 5 8 j else -1
set_option maxHeartbeats 4000000 in
theorem c8_task (H : hH Λ O x mr mt mp mk mw ma) {y z : Int32} {c : Nat} (hc : F 5 0 = nI c) (hc2 : c ≤ 200){j : Nat} (hy : y = nI j) (hj : j < c) : Sat G mX8_task [.ref x, .int y, .int z] (wld Λ F O R h0, sz) (Det (some (.int (tskC R j z))) (wld Λ F O R h0, sz)) := by
  refine Sat.of (by decide) [some (.ref x), some (.int y), some (.int z)] rfl rfl (fun X => ?_)
  refine ww_aload_n dX8_task_0 rfl rfl ?_
  refine Wxx_geto H.1 dX8_task_1 fX8_26 rfl rfl H.2.2.2.2.2.2.2.2.2.1 ?_
  refine ww_iload_n dX8_task_4 rfl rfl ?_
  refine Wtt_call1 H.2.2.2.2.1 dX8_task_5 kX8_148 rfl rfl (tt_l0 H.2.2.2.2.1 (c6_has hc hc2)) rfl rfl rfl rfl rfl rfl (Nat.zero_le _) (Nat.zero_le _) ?_
  refine ww_if_ne (tgt := 13) dX8_task_8 (by decide) (fun c8 => ?_) (fun c8 => ?_)
  · refine ww_iload_n dX8_task_13 rfl rfl ?_
    refine ww_table [60, 70, 80, 90, 100, 110, 120, 130] 140 dX8_task_14 (by decide) (by decide) (by decide) (fun j14 t14 ht14 c14 => ?_) (fun c14 => ?_)
    · rcases j14 with _ | _ | _ | _ | _ | _ | _ | _ | j
      · cases ht14
        refine ww_aload_n dX8_task_60 rfl rfl ?_
        refine Wxx_geto H.1 dX8_task_61 fX8_26 rfl rfl H.2.2.2.2.2.2.2.2.2.1 ?_
        refine Wtt_getr H.2.2.2.2.1 dX8_task_64 fX8_149 rfl ?_
        refine ww_iload_n dX8_task_67 rfl rfl ?_
        refine Wtt_iald H.2.2.2.2.1 dX8_task_68 rfl hy (by omega) rfl ?_
        exact ww_iret dX8_task_69 rfl ⟨by unfold tskC; rw [if_pos (show z = nI 0 from w_lit c14 (by decide))], rfl⟩ (Nat.zero_le _) (Nat.zero_le _)
      · cases ht14
        refine ww_aload_n dX8_task_70 rfl rfl ?_
        refine Wxx_geto H.1 dX8_task_71 fX8_26 rfl rfl H.2.2.2.2.2.2.2.2.2.1 ?_
        refine Wtt_getr H.2.2.2.2.1 dX8_task_74 fX8_151 rfl ?_
        refine ww_iload_n dX8_task_77 rfl rfl ?_
        refine Wtt_iald H.2.2.2.2.1 dX8_task_78 rfl hy (by omega) rfl ?_
        exact ww_iret dX8_task_79 rfl ⟨by unfold tskC; rw [if_neg (by rw [show z = nI 1 from w_lit c14 (by decide)]; decide), if_pos (show z = nI 1 from w_lit c14 (by decide))], rfl⟩ (Nat.zero_le _) (Nat.zero_le _)
      · cases ht14
        refine ww_aload_n dX8_task_80 rfl rfl ?_
        refine Wxx_geto H.1 dX8_task_81 fX8_26 rfl rfl H.2.2.2.2.2.2.2.2.2.1 ?_
        refine Wtt_getr H.2.2.2.2.1 dX8_task_84 fX8_154 rfl ?_
        refine ww_iload_n dX8_task_87 rfl rfl ?_
        refine Wtt_iald H.2.2.2.2.1 dX8_task_88 rfl hy (by omega) rfl ?_
        exact ww_iret dX8_task_89 rfl ⟨by unfold tskC; rw [if_neg (by rw [show z = nI 2 from w_lit c14 (by decide)]; decide), if_neg (by rw [show z = nI 2 from w_lit c14 (by decide)]; decide), if_pos (show z = nI 2 from w_lit c14 (by decide))], rfl⟩ (Nat.zero_le _) (Nat.zero_le _)
      · cases ht14
        refine ww_aload_n dX8_task_90 rfl rfl ?_
        refine Wxx_geto H.1 dX8_task_91 fX8_26 rfl rfl H.2.2.2.2.2.2.2.2.2.1 ?_
        refine Wtt_getr H.2.2.2.2.1 dX8_task_94 fX8_157 rfl ?_
        refine ww_iload_n dX8_task_97 rfl rfl ?_
        refine Wtt_iald H.2.2.2.2.1 dX8_task_98 rfl hy (by omega) rfl ?_
        exact ww_iret dX8_task_99 rfl ⟨by unfold tskC; rw [if_neg (by rw [show z = nI 3 from w_lit c14 (by decide)]; decide), if_neg (by rw [show z = nI 3 from w_lit c14 (by decide)]; decide), if_neg (by rw [show z = nI 3 from w_lit c14 (by decide)]; decide), if_pos (show z = nI 3 from w_lit c14 (by decide))], rfl⟩ (Nat.zero_le _) (Nat.zero_le _)
      · cases ht14
        refine ww_aload_n dX8_task_100 rfl rfl ?_
        refine Wxx_geto H.1 dX8_task_101 fX8_26 rfl rfl H.2.2.2.2.2.2.2.2.2.1 ?_
        refine Wtt_getr H.2.2.2.2.1 dX8_task_104 fX8_160 rfl ?_
        refine ww_iload_n dX8_task_107 rfl rfl ?_
        refine Wtt_iald H.2.2.2.2.1 dX8_task_108 rfl hy (by omega) rfl ?_
        exact ww_iret dX8_task_109 rfl ⟨by unfold tskC; rw [if_neg (by rw [show z = nI 4 from w_lit c14 (by decide)]; decide), if_neg (by rw [show z = nI 4 from w_lit c14 (by decide)]; decide), if_neg (by rw [show z = nI 4 from w_lit c14 (by decide)]; decide), if_neg (by rw [show z = nI 4 from w_lit c14 (by decide)]; decide), if_pos (show z = nI 4 from w_lit c14 (by decide))], rfl⟩ (Nat.zero_le _) (Nat.zero_le _)
      · cases ht14
        refine ww_aload_n dX8_task_110 rfl rfl ?_
        refine Wxx_geto H.1 dX8_task_111 fX8_26 rfl rfl H.2.2.2.2.2.2.2.2.2.1 ?_
        refine Wtt_getr H.2.2.2.2.1 dX8_task_114 fX8_163 rfl ?_
        refine ww_iload_n dX8_task_117 rfl rfl ?_
        refine Wtt_iald H.2.2.2.2.1 dX8_task_118 rfl hy (by omega) rfl ?_
        exact ww_iret dX8_task_119 rfl ⟨by unfold tskC; rw [if_neg (by rw [show z = nI 5 from w_lit c14 (by decide)]; decide), if_neg (by rw [show z = nI 5 from w_lit c14 (by decide)]; decide), if_neg (by rw [show z = nI 5 from w_lit c14 (by decide)]; decide), if_neg (by rw [show z = nI 5 from w_lit c14 (by decide)]; decide), if_neg (by rw [show z = nI 5 from w_lit c14 (by decide)]; decide), if_pos (show z = nI 5 from w_lit c14 (by decide))], rfl⟩ (Nat.zero_le _) (Nat.zero_le _)
      · cases ht14
        refine ww_aload_n dX8_task_120 rfl rfl ?_
        refine Wxx_geto H.1 dX8_task_121 fX8_26 rfl rfl H.2.2.2.2.2.2.2.2.2.1 ?_
        refine Wtt_getr H.2.2.2.2.1 dX8_task_124 fX8_166 rfl ?_
        refine ww_iload_n dX8_task_127 rfl rfl ?_
        refine Wtt_iald H.2.2.2.2.1 dX8_task_128 rfl hy (by omega) rfl ?_
        exact ww_iret dX8_task_129 rfl ⟨by unfold tskC; rw [if_neg (by rw [show z = nI 6 from w_lit c14 (by decide)]; decide), if_neg (by rw [show z = nI 6 from w_lit c14 (by decide)]; decide), if_neg (by rw [show z = nI 6 from w_lit c14 (by decide)]; decide), if_neg (by rw [show z = nI 6 from w_lit c14 (by decide)]; decide), if_neg (by rw [show z = nI 6 from w_lit c14 (by decide)]; decide), if_neg (by rw [show z = nI 6 from w_lit c14 (by decide)]; decide), if_pos (show z = nI 6 from w_lit c14 (by decide))], rfl⟩ (Nat.zero_le _) (Nat.zero_le _)
      · cases ht14
        refine ww_aload_n dX8_task_130 rfl rfl ?_
        refine Wxx_geto H.1 dX8_task_131 fX8_26 rfl rfl H.2.2.2.2.2.2.2.2.2.1 ?_
        refine Wtt_getr H.2.2.2.2.1 dX8_task_134 fX8_169 rfl ?_
        refine ww_iload_n dX8_task_137 rfl rfl ?_
        refine Wtt_iald H.2.2.2.2.1 dX8_task_138 rfl hy (by omega) rfl ?_
        exact ww_iret dX8_task_139 rfl ⟨by unfold tskC; rw [if_neg (by rw [show z = nI 7 from w_lit c14 (by decide)]; decide), if_neg (by rw [show z = nI 7 from w_lit c14 (by decide)]; decide), if_neg (by rw [show z = nI 7 from w_lit c14 (by decide)]; decide), if_neg (by rw [show z = nI 7 from w_lit c14 (by decide)]; decide), if_neg (by rw [show z = nI 7 from w_lit c14 (by decide)]; decide), if_neg (by rw [show z = nI 7 from w_lit c14 (by decide)]; decide), if_neg (by rw [show z = nI 7 from w_lit c14 (by decide)]; decide), if_pos (show z = nI 7 from w_lit c14 (by decide))], rfl⟩ (Nat.zero_le _) (Nat.zero_le _)
      · cases ht14
    · refine ww_iconst (v := -1) dX8_task_140 (by decide) ?_
      exact ww_iret dX8_task_141 rfl ⟨by unfold tskC; rw [if_neg (w_nlit c14 (by decide) (by decide)), if_neg (w_nlit c14 (by decide) (by decide)), if_neg (w_nlit c14 (by decide) (by decide)), if_neg (w_nlit c14 (by decide) (by decide)), if_neg (w_nlit c14 (by decide) (by decide)), if_neg (w_nlit c14 (by decide) (by decide)), if_neg (w_nlit c14 (by decide) (by decide)), if_neg (w_nlit c14 (by decide) (by decide))], rfl⟩ (Nat.zero_le _) (Nat.zero_le _)
  · exact absurd c8 (by rw [hy, wIn_nI hj (by omega)]; decide)
set_option maxHeartbeats 4000000 in
theorem c8_personOf0 (H : hH Λ O x mr mt mp mk mw ma) {y z : Int32} {l : Nat} (hl : F 4 0 = nI l) (hl2 : l ≤ 8) (hno : wIn y l = false) : Sat G mX8_personOf [.ref x, .int y, .int z] (wld Λ F O R h0, sz) (Det (some (.int (-1))) (wld Λ F O R h0, sz)) := by
  refine Sat.of (by decide) [some (.ref x), some (.int y), some (.int z)] rfl rfl (fun X => ?_)
  refine ww_aload_n dX8_personOf_0 rfl rfl ?_
  refine Wxx_geto H.1 dX8_personOf_1 fX8_19 rfl rfl H.2.2.2.2.2.2.2.2.1 ?_
  refine ww_iload_n dX8_personOf_4 rfl rfl ?_
  refine Wpp_call1 H.2.2.2.1 dX8_personOf_5 kX8_92 rfl rfl (pp_l0 H.2.2.2.1 (c2_has hl hl2)) rfl rfl rfl rfl rfl rfl (Nat.zero_le _) (Nat.zero_le _) ?_
  refine ww_if_ne (tgt := 13) dX8_personOf_8 (by decide) (fun c8 => ?_) (fun c8 => ?_)
  · exact absurd c8 (fun q => q (wb_eq0.mpr hno))
  · refine ww_iconst (v := -1) dX8_personOf_11 (by decide) ?_
    exact ww_iret dX8_personOf_12 rfl ⟨rfl, rfl⟩ (Nat.zero_le _) (Nat.zero_le _)
def psnC (R : Nat → Nat → Nat → Int32) (j : Nat) (z : Int32) : Int32 := if z = nI 0 then R 4 1 j else if z = nI 1 then R 4 2 j else if z = nI 2 then R 4 3 j else if z = nI 3 then (if R 4 6 j = 0 then 0 else 1) else if z = nI 4 then R 4 5 j else if z = nI 5 then R 4 4 j else -1
set_option maxHeartbeats 4000000 in
theorem c8_personOf (H : hH Λ O x mr mt mp mk mw ma) {y z : Int32} {l : Nat} (hl : F 4 0 = nI l) (hl2 : l ≤ 8){j : Nat} (hy : y = nI j) (hj : j < l) : Sat G mX8_personOf [.ref x, .int y, .int z] (wld Λ F O R h0, sz) (Det (some (.int (psnC R j z))) (wld Λ F O R h0, sz)) := by
  refine Sat.of (by decide) [some (.ref x), some (.int y), some (.int z)] rfl rfl (fun X => ?_)
  refine ww_aload_n dX8_personOf_0 rfl rfl ?_
  refine Wxx_geto H.1 dX8_personOf_1 fX8_19 rfl rfl H.2.2.2.2.2.2.2.2.1 ?_
  refine ww_iload_n dX8_personOf_4 rfl rfl ?_
  refine Wpp_call1 H.2.2.2.1 dX8_personOf_5 kX8_92 rfl rfl (pp_l0 H.2.2.2.1 (c2_has hl hl2)) rfl rfl rfl rfl rfl rfl (Nat.zero_le _) (Nat.zero_le _) ?_
  refine ww_if_ne (tgt := 13) dX8_personOf_8 (by decide) (fun c8 => ?_) (fun c8 => ?_)
  · refine ww_iload_n dX8_personOf_13 rfl rfl ?_
    refine ww_table [52, 62, 72, 82, 100, 110] 120 dX8_personOf_14 (by decide) (by decide) (by decide) (fun j14 t14 ht14 c14 => ?_) (fun c14 => ?_)
    · rcases j14 with _ | _ | _ | _ | _ | _ | j
      · cases ht14
        refine ww_aload_n dX8_personOf_52 rfl rfl ?_
        refine Wxx_geto H.1 dX8_personOf_53 fX8_19 rfl rfl H.2.2.2.2.2.2.2.2.1 ?_
        refine Wpp_getr H.2.2.2.1 dX8_personOf_56 fX8_222 rfl ?_
        refine ww_iload_n dX8_personOf_59 rfl rfl ?_
        refine Wpp_iald H.2.2.2.1 dX8_personOf_60 rfl hy (by omega) rfl ?_
        exact ww_iret dX8_personOf_61 rfl ⟨by unfold psnC; rw [if_pos (show z = nI 0 from w_lit c14 (by decide))], rfl⟩ (Nat.zero_le _) (Nat.zero_le _)
      · cases ht14
        refine ww_aload_n dX8_personOf_62 rfl rfl ?_
        refine Wxx_geto H.1 dX8_personOf_63 fX8_19 rfl rfl H.2.2.2.2.2.2.2.2.1 ?_
        refine Wpp_getr H.2.2.2.1 dX8_personOf_66 fX8_223 rfl ?_
        refine ww_iload_n dX8_personOf_69 rfl rfl ?_
        refine Wpp_iald H.2.2.2.1 dX8_personOf_70 rfl hy (by omega) rfl ?_
        exact ww_iret dX8_personOf_71 rfl ⟨by unfold psnC; rw [if_neg (by rw [show z = nI 1 from w_lit c14 (by decide)]; decide), if_pos (show z = nI 1 from w_lit c14 (by decide))], rfl⟩ (Nat.zero_le _) (Nat.zero_le _)
      · cases ht14
        refine ww_aload_n dX8_personOf_72 rfl rfl ?_
        refine Wxx_geto H.1 dX8_personOf_73 fX8_19 rfl rfl H.2.2.2.2.2.2.2.2.1 ?_
        refine Wpp_getr H.2.2.2.1 dX8_personOf_76 fX8_107 rfl ?_
        refine ww_iload_n dX8_personOf_79 rfl rfl ?_
        refine Wpp_iald H.2.2.2.1 dX8_personOf_80 rfl hy (by omega) rfl ?_
        exact ww_iret dX8_personOf_81 rfl ⟨by unfold psnC; rw [if_neg (by rw [show z = nI 2 from w_lit c14 (by decide)]; decide), if_neg (by rw [show z = nI 2 from w_lit c14 (by decide)]; decide), if_pos (show z = nI 2 from w_lit c14 (by decide))], rfl⟩ (Nat.zero_le _) (Nat.zero_le _)
      · cases ht14
        refine ww_aload_n dX8_personOf_82 rfl rfl ?_
        refine Wxx_geto H.1 dX8_personOf_83 fX8_19 rfl rfl H.2.2.2.2.2.2.2.2.1 ?_
        refine Wpp_getr H.2.2.2.1 dX8_personOf_86 fX8_100 rfl ?_
        refine ww_iload_n dX8_personOf_89 rfl rfl ?_
        refine Wpp_zald H.2.2.2.1 dX8_personOf_90 rfl hy (by omega) rfl ?_
        refine ww_if_eq (tgt := 98) dX8_personOf_91 (by decide) (fun c91 => ?_) (fun c91 => ?_)
        · refine ww_iconst (v := 0) dX8_personOf_98 (by decide) ?_
          exact ww_iret dX8_personOf_99 rfl ⟨by unfold psnC; rw [if_neg (by rw [show z = nI 3 from w_lit c14 (by decide)]; decide), if_neg (by rw [show z = nI 3 from w_lit c14 (by decide)]; decide), if_neg (by rw [show z = nI 3 from w_lit c14 (by decide)]; decide), if_pos (show z = nI 3 from w_lit c14 (by decide)), if_pos c91], rfl⟩ (Nat.zero_le _) (Nat.zero_le _)
        · refine ww_iconst (v := 1) dX8_personOf_94 (by decide) ?_
          refine ww_goto (tgt := 99) dX8_personOf_95 (by decide) ?_
          exact ww_iret dX8_personOf_99 rfl ⟨by unfold psnC; rw [if_neg (by rw [show z = nI 3 from w_lit c14 (by decide)]; decide), if_neg (by rw [show z = nI 3 from w_lit c14 (by decide)]; decide), if_neg (by rw [show z = nI 3 from w_lit c14 (by decide)]; decide), if_pos (show z = nI 3 from w_lit c14 (by decide)), if_neg c91], rfl⟩ (Nat.zero_le _) (Nat.zero_le _)
      · cases ht14
        refine ww_aload_n dX8_personOf_100 rfl rfl ?_
        refine Wxx_geto H.1 dX8_personOf_101 fX8_19 rfl rfl H.2.2.2.2.2.2.2.2.1 ?_
        refine Wpp_getr H.2.2.2.1 dX8_personOf_104 fX8_96 rfl ?_
        refine ww_iload_n dX8_personOf_107 rfl rfl ?_
        refine Wpp_iald H.2.2.2.1 dX8_personOf_108 rfl hy (by omega) rfl ?_
        exact ww_iret dX8_personOf_109 rfl ⟨by unfold psnC; rw [if_neg (by rw [show z = nI 4 from w_lit c14 (by decide)]; decide), if_neg (by rw [show z = nI 4 from w_lit c14 (by decide)]; decide), if_neg (by rw [show z = nI 4 from w_lit c14 (by decide)]; decide), if_neg (by rw [show z = nI 4 from w_lit c14 (by decide)]; decide), if_pos (show z = nI 4 from w_lit c14 (by decide))], rfl⟩ (Nat.zero_le _) (Nat.zero_le _)
      · cases ht14
        refine ww_aload_n dX8_personOf_110 rfl rfl ?_
        refine Wxx_geto H.1 dX8_personOf_111 fX8_19 rfl rfl H.2.2.2.2.2.2.2.2.1 ?_
        refine Wpp_getr H.2.2.2.1 dX8_personOf_114 fX8_226 rfl ?_
        refine ww_iload_n dX8_personOf_117 rfl rfl ?_
        refine Wpp_iald H.2.2.2.1 dX8_personOf_118 rfl hy (by omega) rfl ?_
        exact ww_iret dX8_personOf_119 rfl ⟨by unfold psnC; rw [if_neg (by rw [show z = nI 5 from w_lit c14 (by decide)]; decide), if_neg (by rw [show z = nI 5 from w_lit c14 (by decide)]; decide), if_neg (by rw [show z = nI 5 from w_lit c14 (by decide)]; decide), if_neg (by rw [show z = nI 5 from w_lit c14 (by decide)]; decide), if_neg (by rw [show z = nI 5 from w_lit c14 (by decide)]; decide), if_pos (show z = nI 5 from w_lit c14 (by decide))], rfl⟩ (Nat.zero_le _) (Nat.zero_le _)
      · cases ht14
    · refine ww_iconst (v := -1) dX8_personOf_120 (by decide) ?_
      exact ww_iret dX8_personOf_121 rfl ⟨by unfold psnC; rw [if_neg (w_nlit c14 (by decide) (by decide)), if_neg (w_nlit c14 (by decide) (by decide)), if_neg (w_nlit c14 (by decide) (by decide)), if_neg (w_nlit c14 (by decide) (by decide)), if_neg (w_nlit c14 (by decide) (by decide)), if_neg (w_nlit c14 (by decide) (by decide))], rfl⟩ (Nat.zero_le _) (Nat.zero_le _)
  · exact absurd c8 (by rw [hy, wIn_nI hj (by omega)]; decide)
def PltC (F : Nat → Nat → Int32) (R : Nat → Nat → Nat → Int32) : Nat → Bool := fun j => !decide (R 5 6 j = 2) && decide (R 5 5 j < F 0 7)
set_option maxHeartbeats 4000000 in
theorem L8_late (H : hH Λ O x mr mt mp mk mw ma) {c : Nat} {X : wX} (hc : F 5 0 = nI c) (hc2 : c ≤ 200) : ∀ (n t : Nat) (x1 x2 : Int32), c - t < n → t ≤ c → x1 = nI (cntB (PltC F R) t) → x2 = nI t → WW G mX8_late cX8_late X (wZ G mX8_late X (Det (some (.int (nI (cntB (PltC F R) c)))) (wld Λ F O R h0, sz))) 4 [some (.ref x), some (.int x1), some (.int x2)] [] (wld Λ F O R h0, sz) 0 0 := by
  intro n
  induction n with
  | zero => intro t x1 x2 hn; exact absurd hn (by omega)
  | succ n ih =>
    intro t x1 x2 hn ht i1 i2
    refine ww_iload_n dX8_late_4 rfl rfl ?_
    refine ww_aload_n dX8_late_5 rfl rfl ?_
    refine Wxx_geto H.1 dX8_late_6 fX8_26 rfl rfl H.2.2.2.2.2.2.2.2.2.1 ?_
    refine Wtt_geti H.2.2.2.2.1 dX8_late_9 fX8_212 rfl rfl ?_
    refine ww_icmp_ge (tgt := 53) dX8_late_12 (by decide) (fun c12 => ?_) (fun c12 => ?_)
    · refine ww_iload_n dX8_late_53 rfl rfl ?_
      exact ww_iret dX8_late_54 rfl ⟨by have e1 := (w_le hc i2 (by omega) (by omega)).mp c12; rw [i1, show t = c by omega], rfl⟩ (Nat.zero_le _) (Nat.zero_le _)
    · have e1 : t < c := by rcases Nat.lt_or_ge t c with q | q; exact q; exact absurd ((w_le hc i2 (by omega) (by omega)).mpr q) c12
      refine ww_aload_n dX8_late_15 rfl rfl ?_
      refine Wxx_geto H.1 dX8_late_16 fX8_26 rfl rfl H.2.2.2.2.2.2.2.2.2.1 ?_
      refine Wtt_getr H.2.2.2.2.1 dX8_late_19 fX8_163 rfl ?_
      refine ww_iload_n dX8_late_22 rfl rfl ?_
      refine Wtt_iald H.2.2.2.2.1 dX8_late_23 rfl i2 (by omega) rfl ?_
      refine ww_iconst (v := 2) dX8_late_24 (by decide) ?_
      refine ww_icmp_eq (tgt := 47) dX8_late_25 (by decide) (fun c25 => ?_) (fun c25 => ?_)
      · refine ww_iinc dX8_late_47 rfl rfl rfl rfl ?_
        refine ww_goto (tgt := 4) dX8_late_50 (by decide) ?_
        exact ih (t + 1) _ _ (by omega) (by omega) (by rw [cntB_f (by simp [PltC, c25])]; exact i1) (w_inc i2)
      · refine ww_aload_n dX8_late_28 rfl rfl ?_
        refine Wxx_geto H.1 dX8_late_29 fX8_26 rfl rfl H.2.2.2.2.2.2.2.2.2.1 ?_
        refine Wtt_getr H.2.2.2.2.1 dX8_late_32 fX8_160 rfl ?_
        refine ww_iload_n dX8_late_35 rfl rfl ?_
        refine Wtt_iald H.2.2.2.2.1 dX8_late_36 rfl i2 (by omega) rfl ?_
        refine ww_aload_n dX8_late_37 rfl rfl ?_
        refine Wxx_geti H.1 dX8_late_38 fX8_51 rfl rfl ?_
        refine ww_icmp_ge (tgt := 47) dX8_late_41 (by decide) (fun c41 => ?_) (fun c41 => ?_)
        · refine ww_iinc dX8_late_47 rfl rfl rfl rfl ?_
          refine ww_goto (tgt := 4) dX8_late_50 (by decide) ?_
          exact ih (t + 1) _ _ (by omega) (by omega) (by rw [cntB_f (by simp [PltC, c25, Int32.not_lt.mpr c41])]; exact i1) (w_inc i2)
        · refine ww_iinc dX8_late_44 rfl rfl rfl rfl ?_
          refine ww_iinc dX8_late_47 rfl rfl rfl rfl ?_
          refine ww_goto (tgt := 4) dX8_late_50 (by decide) ?_
          exact ih (t + 1) _ _ (by omega) (by omega) (by rw [cntB_t (by simp [PltC, c25, Int32.not_le.mp c41])]; exact w_inc i1) (w_inc i2)
set_option maxHeartbeats 4000000 in
theorem c8_late (H : hH Λ O x mr mt mp mk mw ma) {c : Nat} (hc : F 5 0 = nI c) (hc2 : c ≤ 200) : Sat G mX8_late [.ref x] (wld Λ F O R h0, sz) (Det (some (.int (nI (cntB (PltC F R) c)))) (wld Λ F O R h0, sz)) := by
  refine Sat.of (by decide) [some (.ref x), none, none] rfl rfl (fun X => ?_)
  refine ww_iconst (v := 0) dX8_late_0 (by decide) ?_
  refine ww_istore_n dX8_late_1 rfl rfl rfl ?_
  refine ww_iconst (v := 0) dX8_late_2 (by decide) ?_
  refine ww_istore_n dX8_late_3 rfl rfl rfl ?_
  exact L8_late H hc hc2 (c + 1) 0 _ _ (by omega) (by omega) rfl rfl
end X8B
