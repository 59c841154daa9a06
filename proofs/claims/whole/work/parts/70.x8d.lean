section X8D
variable {G : wG} {Λ : wL} {x mr mt mp mk mw ma : Nat} {F : Nat → Nat → Int32} {O : Nat → Nat → Option Nat} {R : Nat → Nat → Nat → Int32} {h0 : Nat → Option wE} {sz : Nat}
def PlC (R : Nat → Nat → Nat → Int32) (y s : Int32) (le : Nat → Int32) : Nat → Bool := fun t => decide (R 5 6 t = 0) && alC R y s t (le t)
set_option maxHeartbeats 4000000 in
theorem c8_list0 (H : hH Λ O x mr mt mp mk mw ma) {y : Int32} {l : Nat} (hl : F 4 0 = nI l) (hl2 : l ≤ 8) (hno : wIn y l = false) : Sat G mX8_list [.ref x, .int y] (wld Λ F O R h0, sz) (Det (some (.int (-1))) (wld Λ F O R h0, sz)) := by
  refine Sat.of (by decide) [some (.ref x), some (.int y), none, none, none] rfl rfl (fun X => ?_)
  refine ww_aload_n dX8_list_0 rfl rfl ?_
  refine Wxx_geto H.1 dX8_list_1 fX8_19 rfl rfl H.2.2.2.2.2.2.2.2.1 ?_
  refine ww_iload_n dX8_list_4 rfl rfl ?_
  refine Wpp_call1 H.2.2.2.1 dX8_list_5 kX8_92 rfl rfl (pp_l0 H.2.2.2.1 (c2_has hl hl2)) rfl rfl rfl rfl rfl rfl (Nat.zero_le _) (Nat.zero_le _) ?_
  refine ww_if_ne (tgt := 13) dX8_list_8 (by decide) (fun c8 => ?_) (fun c8 => ?_)
  · exact absurd c8 (fun q => q (wb_eq0.mpr hno))
  · refine ww_iconst (v := -1) dX8_list_11 (by decide) ?_
    exact ww_iret dX8_list_12 rfl ⟨rfl, rfl⟩ (Nat.zero_le _) (Nat.zero_le _)
set_option maxHeartbeats 4000000 in
theorem L8_list (H : hH Λ O x mr mt mp mk mw ma) {y s : Int32} {c : Nat} (hc : F 5 0 = nI c) (hc2 : c ≤ 200) {nr : Nat} (hr : F 0 5 = nI nr) (hr2 : nr ≤ 8) {le : Nat → Int32} (hT : ∀ t, t < c → tkC Λ F O R nr t (le t)) {X : wX} : ∀ (n t : Nat) (x3 x4 : Int32), c - t < n → t ≤ c → x3 = nI (cntB (PlC R y s le) t) → x4 = nI t → WW G mX8_list cX8_list X (wZ G mX8_list X (Det (some (.int (nI (cntB (PlC R y s le) c)))) (wld Λ F O R h0, sz))) 27 [some (.ref x), some (.int y), some (.int s), some (.int x3), some (.int x4)] [] (wld Λ F O R h0, sz) 0 0 := by
  intro n
  induction n with
  | zero => intro t x3 x4 hn; exact absurd hn (by omega)
  | succ n ih =>
    intro t x3 x4 hn ht i3 i4
    refine ww_iload dX8_list_27 rfl ?_
    refine ww_aload_n dX8_list_29 rfl rfl ?_
    refine Wxx_geto H.1 dX8_list_30 fX8_26 rfl rfl H.2.2.2.2.2.2.2.2.2.1 ?_
    refine Wtt_geti H.2.2.2.2.1 dX8_list_33 fX8_212 rfl rfl ?_
    refine ww_icmp_ge (tgt := 59) dX8_list_36 (by decide) (fun c36 => ?_) (fun c36 => ?_)
    · refine ww_iload_n dX8_list_59 rfl rfl ?_
      exact ww_iret dX8_list_60 rfl ⟨by have e1 := (w_le hc i4 (by omega) (by omega)).mp c36; rw [i3, show t = c by omega], rfl⟩ (Nat.zero_le _) (Nat.zero_le _)
    · have e1 : t < c := by rcases Nat.lt_or_ge t c with q | q; exact q; exact absurd ((w_le hc i4 (by omega) (by omega)).mpr q) c36
      refine ww_aload_n dX8_list_39 rfl rfl ?_
      refine ww_iload_n dX8_list_40 rfl rfl ?_
      refine ww_iload_n dX8_list_41 rfl rfl ?_
      refine ww_iload dX8_list_42 rfl ?_
      refine Wxx_call1 H.1 dX8_list_44 kX8_215 rfl rfl (c8_isListed (e := le t) H hc hc2 hr hr2 i4 e1 (hT t e1)) rfl rfl rfl rfl rfl rfl (Nat.zero_le _) (Nat.zero_le _) ?_
      refine ww_if_eq (tgt := 53) dX8_list_47 (by decide) (fun c47 => ?_) (fun c47 => ?_)
      · refine ww_iinc dX8_list_53 rfl rfl rfl rfl ?_
        refine ww_goto (tgt := 27) dX8_list_56 (by decide) ?_
        exact ih (t + 1) _ _ (by omega) (by omega) (by rw [cntB_f (show PlC R y s le t = false from wb_eq0.mp c47)]; exact i3) (w_inc i4)
      · refine ww_iinc dX8_list_50 rfl rfl rfl rfl ?_
        refine ww_iinc dX8_list_53 rfl rfl rfl rfl ?_
        refine ww_goto (tgt := 27) dX8_list_56 (by decide) ?_
        exact ih (t + 1) _ _ (by omega) (by omega) (by rw [cntB_t (show PlC R y s le t = true from wb_ne0.mp c47)]; exact w_inc i3) (w_inc i4)
set_option maxHeartbeats 4000000 in
theorem c8_list (H : hH Λ O x mr mt mp mk mw ma) {y : Int32} {l : Nat} (hl : F 4 0 = nI l) (hl2 : l ≤ 8){p : Nat} (hy : y = nI p) (hp : p < l){c : Nat} (hc : F 5 0 = nI c) (hc2 : c ≤ 200){nr : Nat} (hr : F 0 5 = nI nr) (hr2 : nr ≤ 8){le : Nat → Int32} (hT : ∀ t, t < c → tkC Λ F O R nr t (le t)) : Sat G mX8_list [.ref x, .int y] (wld Λ F O R h0, sz) (Det (some (.int (nI (cntB (PlC R y (rsV R l p) le) c)))) (wld Λ F O R h0, sz)) := by
  refine Sat.of (by decide) [some (.ref x), some (.int y), none, none, none] rfl rfl (fun X => ?_)
  refine ww_aload_n dX8_list_0 rfl rfl ?_
  refine Wxx_geto H.1 dX8_list_1 fX8_19 rfl rfl H.2.2.2.2.2.2.2.2.1 ?_
  refine ww_iload_n dX8_list_4 rfl rfl ?_
  refine Wpp_call1 H.2.2.2.1 dX8_list_5 kX8_92 rfl rfl (pp_l0 H.2.2.2.1 (c2_has hl hl2)) rfl rfl rfl rfl rfl rfl (Nat.zero_le _) (Nat.zero_le _) ?_
  refine ww_if_ne (tgt := 13) dX8_list_8 (by decide) (fun c8 => ?_) (fun c8 => ?_)
  · refine ww_aload_n dX8_list_13 rfl rfl ?_
    refine Wxx_geto H.1 dX8_list_14 fX8_19 rfl rfl H.2.2.2.2.2.2.2.2.1 ?_
    refine ww_iload_n dX8_list_17 rfl rfl ?_
    refine Wpp_call1 H.2.2.2.1 dX8_list_18 kX8_172 rfl rfl (c8_served H hl hl2 hy hp) rfl rfl rfl rfl rfl rfl (Nat.zero_le _) (Nat.zero_le _) ?_
    refine ww_istore_n dX8_list_21 rfl rfl rfl ?_
    refine ww_iconst (v := 0) dX8_list_22 (by decide) ?_
    refine ww_istore_n dX8_list_23 rfl rfl rfl ?_
    refine ww_iconst (v := 0) dX8_list_24 (by decide) ?_
    refine ww_istore dX8_list_25 rfl rfl ?_
    exact L8_list (le := le) H hc hc2 hr hr2 hT (c + 1) 0 _ _ (by omega) (by omega) rfl rfl
  · exact absurd c8 (by rw [hy, wIn_nI hp (by omega)]; decide)
def lsC (P : Nat → Bool) (bd : Nat → Nat) (z : Int32) : Nat → Nat → Nat → Int32
  | 0, _, _ => -1
  | n + 1, k, h => if P (bd k) = true then (if nI h = z then nI (bd k) else lsC P bd z n (k + 1) (h + 1)) else lsC P bd z n (k + 1) h
set_option maxHeartbeats 4000000 in
theorem c8_listed0 (H : hH Λ O x mr mt mp mk mw ma) {y z : Int32} {l : Nat} (hl : F 4 0 = nI l) (hl2 : l ≤ 8) (hno : wIn y l = false) : Sat G mX8_listed [.ref x, .int y, .int z] (wld Λ F O R h0, sz) (Det (some (.int (-1))) (wld Λ F O R h0, sz)) := by
  refine Sat.of (by decide) [some (.ref x), some (.int y), some (.int z), none, none, none, none] rfl rfl (fun X => ?_)
  refine ww_aload_n dX8_listed_0 rfl rfl ?_
  refine Wxx_geto H.1 dX8_listed_1 fX8_19 rfl rfl H.2.2.2.2.2.2.2.2.1 ?_
  refine ww_iload_n dX8_listed_4 rfl rfl ?_
  refine Wpp_call1 H.2.2.2.1 dX8_listed_5 kX8_92 rfl rfl (pp_l0 H.2.2.2.1 (c2_has hl hl2)) rfl rfl rfl rfl rfl rfl (Nat.zero_le _) (Nat.zero_le _) ?_
  refine ww_if_eq (tgt := 15) dX8_listed_8 (by decide) (fun c8 => ?_) (fun c8 => ?_)
  · refine ww_iconst (v := -1) dX8_listed_15 (by decide) ?_
    exact ww_iret dX8_listed_16 rfl ⟨rfl, rfl⟩ (Nat.zero_le _) (Nat.zero_le _)
  · exact absurd c8 (fun q => q (wb_eq0.mpr hno))
set_option maxHeartbeats 4000000 in
theorem c8_listed1 (H : hH Λ O x mr mt mp mk mw ma) {y z : Int32} {l : Nat} (hl : F 4 0 = nI l) (hl2 : l ≤ 8){p : Nat} (hy : y = nI p) (hp : p < l) (hz : z < 0) : Sat G mX8_listed [.ref x, .int y, .int z] (wld Λ F O R h0, sz) (Det (some (.int (-1))) (wld Λ F O R h0, sz)) := by
  refine Sat.of (by decide) [some (.ref x), some (.int y), some (.int z), none, none, none, none] rfl rfl (fun X => ?_)
  refine ww_aload_n dX8_listed_0 rfl rfl ?_
  refine Wxx_geto H.1 dX8_listed_1 fX8_19 rfl rfl H.2.2.2.2.2.2.2.2.1 ?_
  refine ww_iload_n dX8_listed_4 rfl rfl ?_
  refine Wpp_call1 H.2.2.2.1 dX8_listed_5 kX8_92 rfl rfl (pp_l0 H.2.2.2.1 (c2_has hl hl2)) rfl rfl rfl rfl rfl rfl (Nat.zero_le _) (Nat.zero_le _) ?_
  refine ww_if_eq (tgt := 15) dX8_listed_8 (by decide) (fun c8 => ?_) (fun c8 => ?_)
  · exact absurd c8 (by rw [hy, wIn_nI hp (by omega)]; decide)
  · refine ww_iload_n dX8_listed_11 rfl rfl ?_
    refine ww_if_ge (tgt := 17) dX8_listed_12 (by decide) (fun c12 => ?_) (fun c12 => ?_)
    · exact absurd c12 (Int32.not_le.mpr hz)
    · refine ww_iconst (v := -1) dX8_listed_15 (by decide) ?_
      exact ww_iret dX8_listed_16 rfl ⟨rfl, rfl⟩ (Nat.zero_le _) (Nat.zero_le _)
set_option maxHeartbeats 4000000 in
theorem L8_listed (H : hH Λ O x mr mt mp mk mw ma) {y z s : Int32} {c : Nat} (hc : F 5 0 = nI c) (hc2 : c ≤ 200) {nr : Nat} (hr : F 0 5 = nI nr) (hr2 : nr ≤ 8) {le : Nat → Int32} (hT : ∀ t, t < c → tkC Λ F O R nr t (le t)) {bd : Nat → Nat} (hbd : ∀ k, k < c → R 5 9 k = nI (bd k) ∧ bd k < c) {X : wX} : ∀ (n k h : Nat) (x4 x5 : Int32) (x6 : Option Value), c - k < n → k ≤ c → x4 = nI h → x5 = nI k → lsC (PlC R y s le) bd z (c - k) k h = lsC (PlC R y s le) bd z c 0 0 → WW G mX8_listed cX8_listed X (wZ G mX8_listed X (Det (some (.int (lsC (PlC R y s le) bd z c 0 0))) (wld Λ F O R h0, sz))) 32 [some (.ref x), some (.int y), some (.int z), some (.int s), some (.int x4), some (.int x5), x6] [] (wld Λ F O R h0, sz) 0 0 := by
  intro n
  induction n with
  | zero => intro k h x4 x5 x6 hn; exact absurd hn (by omega)
  | succ n ih =>
    intro k h x4 x5 x6 hn hk i4 i5 i6
    refine ww_iload dX8_listed_32 rfl ?_
    refine ww_aload_n dX8_listed_34 rfl rfl ?_
    refine Wxx_geto H.1 dX8_listed_35 fX8_26 rfl rfl H.2.2.2.2.2.2.2.2.2.1 ?_
    refine Wtt_geti H.2.2.2.2.1 dX8_listed_38 fX8_212 rfl rfl ?_
    refine ww_icmp_ge (tgt := 85) dX8_listed_41 (by decide) (fun c41 => ?_) (fun c41 => ?_)
    · refine ww_iconst (v := -1) dX8_listed_85 (by decide) ?_
      exact ww_iret dX8_listed_86 rfl ⟨by have e1 := (w_le hc i5 (by omega) (by omega)).mp c41; rw [← i6, show c - k = 0 by omega]; rfl, rfl⟩ (Nat.zero_le _) (Nat.zero_le _)
    · have e1 : k < c := by rcases Nat.lt_or_ge k c with q | q; exact q; exact absurd ((w_le hc i5 (by omega) (by omega)).mpr q) c41
      refine ww_aload_n dX8_listed_44 rfl rfl ?_
      refine Wxx_geto H.1 dX8_listed_45 fX8_26 rfl rfl H.2.2.2.2.2.2.2.2.2.1 ?_
      refine Wtt_getr H.2.2.2.2.1 dX8_listed_48 fX8_218 rfl ?_
      refine ww_iload dX8_listed_51 rfl ?_
      refine Wtt_iald H.2.2.2.2.1 dX8_listed_53 rfl i5 (by omega) rfl ?_
      refine ww_istore dX8_listed_54 rfl rfl ?_
      refine ww_aload_n dX8_listed_56 rfl rfl ?_
      refine ww_iload_n dX8_listed_57 rfl rfl ?_
      refine ww_iload_n dX8_listed_58 rfl rfl ?_
      refine ww_iload dX8_listed_59 rfl ?_
      refine Wxx_call1 H.1 dX8_listed_61 kX8_215 rfl rfl (c8_isListed (e := le (bd k)) H hc hc2 hr hr2 (hbd k e1).1 (hbd k e1).2 (hT _ (hbd k e1).2)) rfl rfl rfl rfl rfl rfl (Nat.zero_le _) (Nat.zero_le _) ?_
      refine ww_if_eq (tgt := 79) dX8_listed_64 (by decide) (fun c64 => ?_) (fun c64 => ?_)
      · refine ww_iinc dX8_listed_79 rfl rfl rfl rfl ?_
        refine ww_goto (tgt := 32) dX8_listed_82 (by decide) ?_
        exact ih (k + 1) h _ _ _ (by omega) (by omega) i4 (w_inc i5) (by rw [← i6, show c - k = c - (k + 1) + 1 by omega, lsC, if_neg (wb_nt (show PlC R y s le (bd k) = false from wb_eq0.mp c64))])
      · refine ww_iload dX8_listed_67 rfl ?_
        refine ww_iload_n dX8_listed_69 rfl rfl ?_
        refine ww_icmp_ne (tgt := 76) dX8_listed_70 (by decide) (fun c70 => ?_) (fun c70 => ?_)
        · refine ww_iinc dX8_listed_76 rfl rfl rfl rfl ?_
          refine ww_iinc dX8_listed_79 rfl rfl rfl rfl ?_
          refine ww_goto (tgt := 32) dX8_listed_82 (by decide) ?_
          exact ih (k + 1) (h + 1) _ _ _ (by omega) (by omega) (w_inc i4) (w_inc i5) (by rw [← i6, show c - k = c - (k + 1) + 1 by omega, lsC, if_pos (show PlC R y s le (bd k) = true from wb_ne0.mp c64), if_neg (by rw [← i4]; exact c70)])
        · refine ww_iload dX8_listed_73 rfl ?_
          exact ww_iret dX8_listed_75 rfl ⟨by rw [← i6, show c - k = c - (k + 1) + 1 by omega, lsC, if_pos (show PlC R y s le (bd k) = true from wb_ne0.mp c64), if_pos (by rw [← i4]; exact c70), (hbd k e1).1], rfl⟩ (Nat.zero_le _) (Nat.zero_le _)
set_option maxHeartbeats 4000000 in
theorem c8_listed (H : hH Λ O x mr mt mp mk mw ma) {y z : Int32} {l : Nat} (hl : F 4 0 = nI l) (hl2 : l ≤ 8){p : Nat} (hy : y = nI p) (hp : p < l) (hz : 0 ≤ z) {c : Nat} (hc : F 5 0 = nI c) (hc2 : c ≤ 200){nr : Nat} (hr : F 0 5 = nI nr) (hr2 : nr ≤ 8){le : Nat → Int32} (hT : ∀ t, t < c → tkC Λ F O R nr t (le t)){bd : Nat → Nat} (hbd : ∀ k, k < c → R 5 9 k = nI (bd k) ∧ bd k < c) : Sat G mX8_listed [.ref x, .int y, .int z] (wld Λ F O R h0, sz) (Det (some (.int (lsC (PlC R y (rsV R l p) le) bd z c 0 0))) (wld Λ F O R h0, sz)) := by
  refine Sat.of (by decide) [some (.ref x), some (.int y), some (.int z), none, none, none, none] rfl rfl (fun X => ?_)
  refine ww_aload_n dX8_listed_0 rfl rfl ?_
  refine Wxx_geto H.1 dX8_listed_1 fX8_19 rfl rfl H.2.2.2.2.2.2.2.2.1 ?_
  refine ww_iload_n dX8_listed_4 rfl rfl ?_
  refine Wpp_call1 H.2.2.2.1 dX8_listed_5 kX8_92 rfl rfl (pp_l0 H.2.2.2.1 (c2_has hl hl2)) rfl rfl rfl rfl rfl rfl (Nat.zero_le _) (Nat.zero_le _) ?_
  refine ww_if_eq (tgt := 15) dX8_listed_8 (by decide) (fun c8 => ?_) (fun c8 => ?_)
  · exact absurd c8 (by rw [hy, wIn_nI hp (by omega)]; decide)
  · refine ww_iload_n dX8_listed_11 rfl rfl ?_
    refine ww_if_ge (tgt := 17) dX8_listed_12 (by decide) (fun c12 => ?_) (fun c12 => ?_)
    · refine ww_aload_n dX8_listed_17 rfl rfl ?_
      refine Wxx_geto H.1 dX8_listed_18 fX8_19 rfl rfl H.2.2.2.2.2.2.2.2.1 ?_
      refine ww_iload_n dX8_listed_21 rfl rfl ?_
      refine Wpp_call1 H.2.2.2.1 dX8_listed_22 kX8_172 rfl rfl (c8_served H hl hl2 hy hp) rfl rfl rfl rfl rfl rfl (Nat.zero_le _) (Nat.zero_le _) ?_
      refine ww_istore_n dX8_listed_25 rfl rfl rfl ?_
      refine ww_iconst (v := 0) dX8_listed_26 (by decide) ?_
      refine ww_istore dX8_listed_27 rfl rfl ?_
      refine ww_iconst (v := 0) dX8_listed_29 (by decide) ?_
      refine ww_istore dX8_listed_30 rfl rfl ?_
      exact L8_listed (le := le) (bd := bd) H hc hc2 hr hr2 hT hbd (c + 1) 0 0 _ _ _ (by omega) (by omega) rfl rfl rfl
    · exact absurd c12 (fun q => q hz)
set_option maxHeartbeats 4000000 in
theorem c8_offer0 (H : hH Λ O x mr mt mp mk mw ma) {y : Int32} {c : Nat} (hc : F 5 0 = nI c) (hc2 : c ≤ 200) (hno : wIn y c = false) : Sat G mX8_offer [.ref x, .int y] (wld Λ F O R h0, sz) (Det (some (.int (-1))) (wld Λ F O R h0, sz)) := by
  refine Sat.of (by decide) [some (.ref x), some (.int y), none, none, none] rfl rfl (fun X => ?_)
  refine ww_aload_n dX8_offer_0 rfl rfl ?_
  refine Wxx_geto H.1 dX8_offer_1 fX8_26 rfl rfl H.2.2.2.2.2.2.2.2.2.1 ?_
  refine ww_iload_n dX8_offer_4 rfl rfl ?_
  refine ww_iconst (v := 0) dX8_offer_5 (by decide) ?_
  refine Wtt_call1 H.2.2.2.2.1 dX8_offer_6 kX8_179 rfl rfl (tt_l0 H.2.2.2.2.1 (c6_isIn0 hc hc2 hno)) rfl rfl rfl rfl rfl rfl (Nat.zero_le _) (Nat.zero_le _) ?_
  refine ww_if_ne (tgt := 14) dX8_offer_9 (by decide) (fun c9 => ?_) (fun c9 => ?_)
  · exact absurd c9 (fun q => q rfl)
  · refine ww_iconst (v := -1) dX8_offer_12 (by decide) ?_
    exact ww_iret dX8_offer_13 rfl ⟨rfl, rfl⟩ (Nat.zero_le _) (Nat.zero_le _)
set_option maxHeartbeats 4000000 in
theorem c8_offer1 (H : hH Λ O x mr mt mp mk mw ma) {y : Int32} {c : Nat} (hc : F 5 0 = nI c) (hc2 : c ≤ 200){j : Nat} (hy : y = nI j) (hj : j < c) (hs : ¬ R 5 6 j = 0) : Sat G mX8_offer [.ref x, .int y] (wld Λ F O R h0, sz) (Det (some (.int (-1))) (wld Λ F O R h0, sz)) := by
  refine Sat.of (by decide) [some (.ref x), some (.int y), none, none, none] rfl rfl (fun X => ?_)
  refine ww_aload_n dX8_offer_0 rfl rfl ?_
  refine Wxx_geto H.1 dX8_offer_1 fX8_26 rfl rfl H.2.2.2.2.2.2.2.2.2.1 ?_
  refine ww_iload_n dX8_offer_4 rfl rfl ?_
  refine ww_iconst (v := 0) dX8_offer_5 (by decide) ?_
  refine Wtt_call1 H.2.2.2.2.1 dX8_offer_6 kX8_179 rfl rfl (tt_l0 H.2.2.2.2.1 (c6_isIn (y := 0) hc hc2 hy hj)) rfl rfl rfl rfl rfl rfl (Nat.zero_le _) (Nat.zero_le _) ?_
  refine ww_if_ne (tgt := 14) dX8_offer_9 (by decide) (fun c9 => ?_) (fun c9 => ?_)
  · exact absurd c9 (fun q => q (wb_eq0.mpr (decide_eq_false hs)))
  · refine ww_iconst (v := -1) dX8_offer_12 (by decide) ?_
    exact ww_iret dX8_offer_13 rfl ⟨rfl, rfl⟩ (Nat.zero_le _) (Nat.zero_le _)
def fwC (R : Nat → Nat → Nat → Int32) (p : Nat) : Option Nat → Bool
  | none => true
  | some b => decide (R 4 3 p < R 4 3 b)
/-- the person to whom task t is offered, of the first n -/
def ofC (R : Nat → Nat → Nat → Int32) (l t : Nat) (e : Int32) : Nat → Option Nat
  | 0 => none
  | p + 1 => if (fwC R p (ofC R l t e p) && decide (R 4 3 p < R 4 2 p) && alC R (nI p) (rsV R l p) t e) = true then some p else ofC R l t e p
theorem ofC_lt {R : Nat → Nat → Nat → Int32} {l t : Nat} {e : Int32} : ∀ {n b : Nat}, ofC R l t e n = some b → b < n
  | 0, b, h => by cases h
  | n + 1, b, h => by
    rw [ofC] at h
    split at h
    · cases h; omega
    · have := ofC_lt h; omega
set_option maxHeartbeats 4000000 in
theorem L8_offer (H : hH Λ O x mr mt mp mk mw ma) {y e : Int32} {l : Nat} (hl : F 4 0 = nI l) (hl2 : l ≤ 8) {c : Nat} (hc : F 5 0 = nI c) (hc2 : c ≤ 200) {nr : Nat} (hr : F 0 5 = nI nr) (hr2 : nr ≤ 8) {j : Nat} (hy : y = nI j) (hj : j < c) (hT : tkC Λ F O R nr j e) {X : wX} : ∀ (n p : Nat) (x2 x3 : Int32) (x4 : Option Value), l - p < n → p ≤ l → x2 = onI (ofC R l j e p) → x3 = nI p → WW G mX8_offer cX8_offer X (wZ G mX8_offer X (Det (some (.int (onI (ofC R l j e l)))) (wld Λ F O R h0, sz))) 18 [some (.ref x), some (.int y), some (.int x2), some (.int x3), x4] [] (wld Λ F O R h0, sz) 0 0 := by
  intro n
  induction n with
  | zero => intro p x2 x3 x4 hn; exact absurd hn (by omega)
  | succ n ih =>
    intro p x2 x3 x4 hn hp i2 i3
    subst i3
    refine ww_iload_n dX8_offer_18 rfl rfl ?_
    refine ww_aload_n dX8_offer_19 rfl rfl ?_
    refine Wxx_geto H.1 dX8_offer_20 fX8_19 rfl rfl H.2.2.2.2.2.2.2.2.1 ?_
    refine Wpp_geti H.2.2.2.1 dX8_offer_23 fX8_221 rfl rfl ?_
    refine ww_icmp_ge (tgt := 103) dX8_offer_26 (by decide) (fun c26 => ?_) (fun c26 => ?_)
    · refine ww_iload_n dX8_offer_103 rfl rfl ?_
      exact ww_iret dX8_offer_104 rfl ⟨by have e1 := (w_le hl rfl (by omega) (by omega)).mp c26; rw [i2, show p = l by omega], rfl⟩ (Nat.zero_le _) (Nat.zero_le _)
    · have e1 : p < l := by rcases Nat.lt_or_ge p l with q | q; exact q; exact absurd ((w_le hl rfl (by omega) (by omega)).mpr q) c26
      refine ww_iload_n dX8_offer_29 rfl rfl ?_
      refine ww_iconst (v := -1) dX8_offer_30 (by decide) ?_
      refine ww_icmp_eq (tgt := 55) dX8_offer_31 (by decide) (fun c31 => ?_) (fun c31 => ?_)
      · refine ww_iconst (v := 1) dX8_offer_55 (by decide) ?_
        refine ww_goto (tgt := 60) dX8_offer_56 (by decide) ?_
        refine ww_istore dX8_offer_60 rfl rfl ?_
        have hfw : fwC R p (ofC R l j e p) = true := by
          cases hb : ofC R l j e p with
          | none => rfl
          | some b => rw [hb] at i2; exact absurd (i2.symm.trans c31) (onI_ne b (by have := ofC_lt hb; omega))
        refine ww_iload dX8_offer_62 rfl ?_
        refine ww_if_eq (tgt := 97) dX8_offer_64 (by decide) (fun c64 => ?_) (fun c64 => ?_)
        · exact absurd c64 (by decide)
        · refine ww_aload_n dX8_offer_67 rfl rfl ?_
          refine Wxx_geto H.1 dX8_offer_68 fX8_19 rfl rfl H.2.2.2.2.2.2.2.2.1 ?_
          refine ww_iload_n dX8_offer_71 rfl rfl ?_
          refine Wpp_call1 H.2.2.2.1 dX8_offer_72 kX8_183 rfl rfl (pp_l0 H.2.2.2.1 (c2_hasRoom hl hl2 rfl e1)) rfl rfl rfl rfl rfl rfl (Nat.zero_le _) (Nat.zero_le _) ?_
          refine ww_if_eq (tgt := 97) dX8_offer_75 (by decide) (fun c75 => ?_) (fun c75 => ?_)
          · refine ww_iinc dX8_offer_97 rfl rfl rfl rfl ?_
            refine ww_goto (tgt := 18) dX8_offer_100 (by decide) ?_
            exact ih (p + 1) _ _ _ (by omega) (by omega) (by rw [ofC, wb_eq0.mp c75, Bool.and_false, Bool.false_and, if_neg (by decide)]; exact i2) (w_inc rfl)
          · refine ww_aload_n dX8_offer_78 rfl rfl ?_
            refine ww_iload_n dX8_offer_79 rfl rfl ?_
            refine ww_aload_n dX8_offer_80 rfl rfl ?_
            refine Wxx_geto H.1 dX8_offer_81 fX8_19 rfl rfl H.2.2.2.2.2.2.2.2.1 ?_
            refine ww_iload_n dX8_offer_84 rfl rfl ?_
            refine Wpp_call1 H.2.2.2.1 dX8_offer_85 kX8_172 rfl rfl (c8_served H hl hl2 rfl e1) rfl rfl rfl rfl rfl rfl (Nat.zero_le _) (Nat.zero_le _) ?_
            refine ww_iload_n dX8_offer_88 rfl rfl ?_
            refine Wxx_call1 H.1 dX8_offer_89 kX8_175 rfl rfl (c8_isAllowed (e := e) H hc hc2 hr hr2 hy hj hT) rfl rfl rfl rfl rfl rfl (Nat.zero_le _) (Nat.zero_le _) ?_
            refine ww_if_eq (tgt := 97) dX8_offer_92 (by decide) (fun c92 => ?_) (fun c92 => ?_)
            · refine ww_iinc dX8_offer_97 rfl rfl rfl rfl ?_
              refine ww_goto (tgt := 18) dX8_offer_100 (by decide) ?_
              exact ih (p + 1) _ _ _ (by omega) (by omega) (by rw [ofC, wb_eq0.mp c92, Bool.and_false, if_neg (by decide)]; exact i2) (w_inc rfl)
            · refine ww_iload_n dX8_offer_95 rfl rfl ?_
              refine ww_istore_n dX8_offer_96 rfl rfl rfl ?_
              refine ww_iinc dX8_offer_97 rfl rfl rfl rfl ?_
              refine ww_goto (tgt := 18) dX8_offer_100 (by decide) ?_
              exact ih (p + 1) _ _ _ (by omega) (by omega) (by rw [ofC, hfw, wb_ne0.mp c75, wb_ne0.mp c92, if_pos (show (true && true && true) = true from rfl)]; exact rfl) (w_inc rfl)
      · obtain ⟨b, hb⟩ : ∃ b, ofC R l j e p = some b := by
          cases hb : ofC R l j e p with
          | none => rw [hb] at i2; exact absurd i2 c31
          | some b => exact ⟨b, rfl⟩
        have i2b : x2 = nI b := by rw [i2, hb]; rfl
        refine ww_aload_n dX8_offer_34 rfl rfl ?_
        refine Wxx_geto H.1 dX8_offer_35 fX8_19 rfl rfl H.2.2.2.2.2.2.2.2.1 ?_
        refine Wpp_getr H.2.2.2.1 dX8_offer_38 fX8_107 rfl ?_
        refine ww_iload_n dX8_offer_41 rfl rfl ?_
        refine Wpp_iald H.2.2.2.1 dX8_offer_42 rfl rfl (by omega) rfl ?_
        refine ww_aload_n dX8_offer_43 rfl rfl ?_
        refine Wxx_geto H.1 dX8_offer_44 fX8_19 rfl rfl H.2.2.2.2.2.2.2.2.1 ?_
        refine Wpp_getr H.2.2.2.1 dX8_offer_47 fX8_107 rfl ?_
        refine ww_iload_n dX8_offer_50 rfl rfl ?_
        refine Wpp_iald H.2.2.2.1 dX8_offer_51 rfl i2b (by have := ofC_lt hb; omega) rfl ?_
        refine ww_icmp_ge (tgt := 59) dX8_offer_52 (by decide) (fun c52 => ?_) (fun c52 => ?_)
        · refine ww_iconst (v := 0) dX8_offer_59 (by decide) ?_
          refine ww_istore dX8_offer_60 rfl rfl ?_
          have hfw : fwC R p (ofC R l j e p) = false := by rw [hb]; exact decide_eq_false (Int32.not_lt.mpr c52)
          refine ww_iload dX8_offer_62 rfl ?_
          refine ww_if_eq (tgt := 97) dX8_offer_64 (by decide) (fun c64 => ?_) (fun c64 => ?_)
          · refine ww_iinc dX8_offer_97 rfl rfl rfl rfl ?_
            refine ww_goto (tgt := 18) dX8_offer_100 (by decide) ?_
            exact ih (p + 1) _ _ _ (by omega) (by omega) (by rw [ofC, hfw, Bool.false_and, Bool.false_and, if_neg (by decide)]; exact i2) (w_inc rfl)
          · exact absurd c64 (fun q => q rfl)
        · refine ww_iconst (v := 1) dX8_offer_55 (by decide) ?_
          refine ww_goto (tgt := 60) dX8_offer_56 (by decide) ?_
          refine ww_istore dX8_offer_60 rfl rfl ?_
          have hfw : fwC R p (ofC R l j e p) = true := by rw [hb]; exact decide_eq_true (Int32.not_le.mp c52)
          refine ww_iload dX8_offer_62 rfl ?_
          refine ww_if_eq (tgt := 97) dX8_offer_64 (by decide) (fun c64 => ?_) (fun c64 => ?_)
          · exact absurd c64 (by decide)
          · refine ww_aload_n dX8_offer_67 rfl rfl ?_
            refine Wxx_geto H.1 dX8_offer_68 fX8_19 rfl rfl H.2.2.2.2.2.2.2.2.1 ?_
            refine ww_iload_n dX8_offer_71 rfl rfl ?_
            refine Wpp_call1 H.2.2.2.1 dX8_offer_72 kX8_183 rfl rfl (pp_l0 H.2.2.2.1 (c2_hasRoom hl hl2 rfl e1)) rfl rfl rfl rfl rfl rfl (Nat.zero_le _) (Nat.zero_le _) ?_
            refine ww_if_eq (tgt := 97) dX8_offer_75 (by decide) (fun c75 => ?_) (fun c75 => ?_)
            · refine ww_iinc dX8_offer_97 rfl rfl rfl rfl ?_
              refine ww_goto (tgt := 18) dX8_offer_100 (by decide) ?_
              exact ih (p + 1) _ _ _ (by omega) (by omega) (by rw [ofC, wb_eq0.mp c75, Bool.and_false, Bool.false_and, if_neg (by decide)]; exact i2) (w_inc rfl)
            · refine ww_aload_n dX8_offer_78 rfl rfl ?_
              refine ww_iload_n dX8_offer_79 rfl rfl ?_
              refine ww_aload_n dX8_offer_80 rfl rfl ?_
              refine Wxx_geto H.1 dX8_offer_81 fX8_19 rfl rfl H.2.2.2.2.2.2.2.2.1 ?_
              refine ww_iload_n dX8_offer_84 rfl rfl ?_
              refine Wpp_call1 H.2.2.2.1 dX8_offer_85 kX8_172 rfl rfl (c8_served H hl hl2 rfl e1) rfl rfl rfl rfl rfl rfl (Nat.zero_le _) (Nat.zero_le _) ?_
              refine ww_iload_n dX8_offer_88 rfl rfl ?_
              refine Wxx_call1 H.1 dX8_offer_89 kX8_175 rfl rfl (c8_isAllowed (e := e) H hc hc2 hr hr2 hy hj hT) rfl rfl rfl rfl rfl rfl (Nat.zero_le _) (Nat.zero_le _) ?_
              refine ww_if_eq (tgt := 97) dX8_offer_92 (by decide) (fun c92 => ?_) (fun c92 => ?_)
              · refine ww_iinc dX8_offer_97 rfl rfl rfl rfl ?_
                refine ww_goto (tgt := 18) dX8_offer_100 (by decide) ?_
                exact ih (p + 1) _ _ _ (by omega) (by omega) (by rw [ofC, wb_eq0.mp c92, Bool.and_false, if_neg (by decide)]; exact i2) (w_inc rfl)
              · refine ww_iload_n dX8_offer_95 rfl rfl ?_
                refine ww_istore_n dX8_offer_96 rfl rfl rfl ?_
                refine ww_iinc dX8_offer_97 rfl rfl rfl rfl ?_
                refine ww_goto (tgt := 18) dX8_offer_100 (by decide) ?_
                exact ih (p + 1) _ _ _ (by omega) (by omega) (by rw [ofC, hfw, wb_ne0.mp c75, wb_ne0.mp c92, if_pos (show (true && true && true) = true from rfl)]; exact rfl) (w_inc rfl)
set_option maxHeartbeats 4000000 in
theorem c8_offer (H : hH Λ O x mr mt mp mk mw ma) {y e : Int32} {l : Nat} (hl : F 4 0 = nI l) (hl2 : l ≤ 8){c : Nat} (hc : F 5 0 = nI c) (hc2 : c ≤ 200){nr : Nat} (hr : F 0 5 = nI nr) (hr2 : nr ≤ 8){j : Nat} (hy : y = nI j) (hj : j < c) (hT : tkC Λ F O R nr j e) (hs : R 5 6 j = 0) : Sat G mX8_offer [.ref x, .int y] (wld Λ F O R h0, sz) (Det (some (.int (onI (ofC R l j e l)))) (wld Λ F O R h0, sz)) := by
  refine Sat.of (by decide) [some (.ref x), some (.int y), none, none, none] rfl rfl (fun X => ?_)
  refine ww_aload_n dX8_offer_0 rfl rfl ?_
  refine Wxx_geto H.1 dX8_offer_1 fX8_26 rfl rfl H.2.2.2.2.2.2.2.2.2.1 ?_
  refine ww_iload_n dX8_offer_4 rfl rfl ?_
  refine ww_iconst (v := 0) dX8_offer_5 (by decide) ?_
  refine Wtt_call1 H.2.2.2.2.1 dX8_offer_6 kX8_179 rfl rfl (tt_l0 H.2.2.2.2.1 (c6_isIn (y := 0) hc hc2 hy hj)) rfl rfl rfl rfl rfl rfl (Nat.zero_le _) (Nat.zero_le _) ?_
  refine ww_if_ne (tgt := 14) dX8_offer_9 (by decide) (fun c9 => ?_) (fun c9 => ?_)
  · refine ww_iconst (v := -1) dX8_offer_14 (by decide) ?_
    refine ww_istore_n dX8_offer_15 rfl rfl rfl ?_
    refine ww_iconst (v := 0) dX8_offer_16 (by decide) ?_
    refine ww_istore_n dX8_offer_17 rfl rfl rfl ?_
    exact L8_offer H hl hl2 hc hc2 hr hr2 hy hj hT (l + 1) 0 _ _ _ (by omega) (by omega) rfl rfl
  · exact absurd c9 (by rw [decide_eq_true hs]; decide)
set_option maxHeartbeats 4000000 in
theorem c8_runOf0 (H : hH Λ O x mr mt mp mk mw ma) {y z : Int32} {nr : Nat} (hr : F 0 5 = nI nr) (hr2 : nr ≤ 8) (hno : wIn y nr = false) : Sat G mX8_runOf [.ref x, .int y, .int z] (wld Λ F O R h0, sz) (Det (some (.int (-1))) (wld Λ F O R h0, sz)) := by
  refine Sat.of (by decide) [some (.ref x), some (.int y), some (.int z), none] rfl rfl (fun X => ?_)
  refine ww_aload_n dX8_runOf_0 rfl rfl ?_
  refine ww_iload_n dX8_runOf_1 rfl rfl ?_
  refine Wxx_call1 H.1 dX8_runOf_2 kX8_134 rfl rfl (c8_runAt0 H hr hr2 hno) rfl rfl rfl rfl rfl rfl (Nat.zero_le _) (Nat.zero_le _) ?_
  refine ww_astore_nN dX8_runOf_5 rfl rfl rfl ?_
  refine ww_aload_nN dX8_runOf_6 rfl rfl ?_
  refine ww_ifnonnullN dX8_runOf_7 ?_
  refine ww_iconst (v := -1) dX8_runOf_10 (by decide) ?_
  exact ww_iret dX8_runOf_11 rfl ⟨rfl, rfl⟩ (Nat.zero_le _) (Nat.zero_le _)
def rofC (F : Nat → Nat → Int32) (R : Nat → Nat → Nat → Int32) (u : Nat) (z : Int32) : Int32 := if wIn z 4 = true then R u 2 z.toNatClampNeg else if z = 4 then (if F u 5 = 0 then 0 else 1) else if z = 5 then F u 6 else -1
set_option maxHeartbeats 4000000 in
theorem c8_runOf (H : hH Λ O x mr mt mp mk mw ma) {y z : Int32} {j mu u : Nat} {nr : Nat} (hr : F 0 5 = nI nr) (hr2 : nr ≤ 8) (hy : y = nI j) (hj : j < nr) (ho : O 7 j = some mu) (hU : Lk Λ u 7 mu) : Sat G mX8_runOf [.ref x, .int y, .int z] (wld Λ F O R h0, sz) (Det (some (.int (rofC F R u z))) (wld Λ F O R h0, sz)) := by
  refine Sat.of (by decide) [some (.ref x), some (.int y), some (.int z), none] rfl rfl (fun X => ?_)
  refine ww_aload_n dX8_runOf_0 rfl rfl ?_
  refine ww_iload_n dX8_runOf_1 rfl rfl ?_
  refine Wxx_call1 H.1 dX8_runOf_2 kX8_134 rfl rfl (c8_runAt H hr hr2 hy hj ho) rfl rfl rfl rfl rfl rfl (Nat.zero_le _) (Nat.zero_le _) ?_
  refine ww_astore_n dX8_runOf_5 rfl rfl rfl ?_
  refine ww_aload_n dX8_runOf_6 rfl rfl ?_
  refine ww_ifnonnull (tgt := 12) dX8_runOf_7 (by decide) ?_
  refine ww_iload_n dX8_runOf_12 rfl rfl ?_
  refine ww_if_lt (tgt := 28) dX8_runOf_13 (by decide) (fun c13 => ?_) (fun c13 => ?_)
  · refine ww_iload_n dX8_runOf_28 rfl rfl ?_
    refine ww_lookupL [(4, 56), (5, 69)] 74 dX8_runOf_29 (by decide) (by decide) (by decide) (fun j29 t29 ht29 c29 => ?_) (fun c29 => ?_)
    · rcases j29 with _ | _ | j
      · cases ht29
        refine ww_aload_n dX8_runOf_56 rfl rfl ?_
        refine Wrr_geti hU dX8_runOf_57 fX8_141 rfl rfl ?_
        refine ww_if_eq (tgt := 67) dX8_runOf_60 (by decide) (fun c60 => ?_) (fun c60 => ?_)
        · refine ww_iconst (v := 0) dX8_runOf_67 (by decide) ?_
          exact ww_iret dX8_runOf_68 rfl ⟨by rw [rofC, if_neg (wb_nt (wIn_f1 c13)), if_pos (show z = 4 from w_litI c29 rfl), if_pos c60], rfl⟩ (Nat.zero_le _) (Nat.zero_le _)
        · refine ww_iconst (v := 1) dX8_runOf_63 (by decide) ?_
          refine ww_goto (tgt := 68) dX8_runOf_64 (by decide) ?_
          exact ww_iret dX8_runOf_68 rfl ⟨by rw [rofC, if_neg (wb_nt (wIn_f1 c13)), if_pos (show z = 4 from w_litI c29 rfl), if_neg c60], rfl⟩ (Nat.zero_le _) (Nat.zero_le _)
      · cases ht29
        refine ww_aload_n dX8_runOf_69 rfl rfl ?_
        refine Wrr_geti hU dX8_runOf_70 fX8_145 rfl rfl ?_
        exact ww_iret dX8_runOf_73 rfl ⟨by rw [rofC, if_neg (wb_nt (wIn_f1 c13)), if_neg (by rw [show z = 5 from w_litI c29 rfl]; decide), if_pos (show z = 5 from w_litI c29 rfl)], rfl⟩ (Nat.zero_le _) (Nat.zero_le _)
      · cases ht29
    · refine ww_iconst (v := -1) dX8_runOf_74 (by decide) ?_
      exact ww_iret dX8_runOf_75 rfl ⟨by rw [rofC, if_neg (wb_nt (wIn_f1 c13)), if_neg (fun q => c29 (4, 56) (by decide) (by rw [q]; rfl)), if_neg (fun q => c29 (5, 69) (by decide) (by rw [q]; rfl))], rfl⟩ (Nat.zero_le _) (Nat.zero_le _)
  · refine ww_iload_n dX8_runOf_16 rfl rfl ?_
    refine ww_iconst (v := 4) dX8_runOf_17 (by decide) ?_
    refine ww_icmp_ge (tgt := 28) dX8_runOf_18 (by decide) (fun c18 => ?_) (fun c18 => ?_)
    · refine ww_iload_n dX8_runOf_28 rfl rfl ?_
      refine ww_lookupL [(4, 56), (5, 69)] 74 dX8_runOf_29 (by decide) (by decide) (by decide) (fun j29 t29 ht29 c29 => ?_) (fun c29 => ?_)
      · rcases j29 with _ | _ | j
        · cases ht29
          refine ww_aload_n dX8_runOf_56 rfl rfl ?_
          refine Wrr_geti hU dX8_runOf_57 fX8_141 rfl rfl ?_
          refine ww_if_eq (tgt := 67) dX8_runOf_60 (by decide) (fun c60 => ?_) (fun c60 => ?_)
          · refine ww_iconst (v := 0) dX8_runOf_67 (by decide) ?_
            exact ww_iret dX8_runOf_68 rfl ⟨by rw [rofC, if_neg (wb_nt (wIn_f2 (n := 4) rfl (by decide) c18)), if_pos (show z = 4 from w_litI c29 rfl), if_pos c60], rfl⟩ (Nat.zero_le _) (Nat.zero_le _)
          · refine ww_iconst (v := 1) dX8_runOf_63 (by decide) ?_
            refine ww_goto (tgt := 68) dX8_runOf_64 (by decide) ?_
            exact ww_iret dX8_runOf_68 rfl ⟨by rw [rofC, if_neg (wb_nt (wIn_f2 (n := 4) rfl (by decide) c18)), if_pos (show z = 4 from w_litI c29 rfl), if_neg c60], rfl⟩ (Nat.zero_le _) (Nat.zero_le _)
        · cases ht29
          refine ww_aload_n dX8_runOf_69 rfl rfl ?_
          refine Wrr_geti hU dX8_runOf_70 fX8_145 rfl rfl ?_
          exact ww_iret dX8_runOf_73 rfl ⟨by rw [rofC, if_neg (wb_nt (wIn_f2 (n := 4) rfl (by decide) c18)), if_neg (by rw [show z = 5 from w_litI c29 rfl]; decide), if_pos (show z = 5 from w_litI c29 rfl)], rfl⟩ (Nat.zero_le _) (Nat.zero_le _)
        · cases ht29
      · refine ww_iconst (v := -1) dX8_runOf_74 (by decide) ?_
        exact ww_iret dX8_runOf_75 rfl ⟨by rw [rofC, if_neg (wb_nt (wIn_f2 (n := 4) rfl (by decide) c18)), if_neg (fun q => c29 (4, 56) (by decide) (by rw [q]; rfl)), if_neg (fun q => c29 (5, 69) (by decide) (by rw [q]; rfl))], rfl⟩ (Nat.zero_le _) (Nat.zero_le _)
    · have hw4 := wIn_t (n := 4) (x := z) rfl (by decide) c13 c18
      obtain ⟨i, hi4, hi⟩ := (wIn_iff (x := z) (n := 4) (by decide)).mp hw4
      refine ww_aload_n dX8_runOf_21 rfl rfl ?_
      refine Wrr_getr hU dX8_runOf_22 fX8_138 rfl ?_
      refine ww_iload_n dX8_runOf_25 rfl rfl ?_
      refine Wrr_iald hU dX8_runOf_26 rfl hi hi4 rfl ?_
      exact ww_iret dX8_runOf_27 rfl ⟨by rw [rofC, if_pos hw4, hi, nI_clamp (by omega)], rfl⟩ (Nat.zero_le _) (Nat.zero_le _)
def abC (F : Nat → Nat → Int32) (s d z : Int32) : Int32 := if z = nI 0 then s else if z = nI 1 then d else if z = nI 2 then F 4 0 else if z = nI 3 then F 0 7 else if z = nI 4 then F 0 5 else if z = nI 5 then F 5 0 else if z = nI 6 then F 2 1 else -1
set_option maxHeartbeats 4000000 in
theorem c8_aboutN (H : hH Λ O x mr mt mp mk mw ma) {z : Int32} (hcu : O 0 6 = none) : Sat G mX8_about [.ref x, .int z] (wld Λ F O R h0, sz) (Det (some (.int (abC F (-1) (-1) z))) (wld Λ F O R h0, sz)) := by
  refine Sat.of (by decide) [some (.ref x), some (.int z)] rfl rfl (fun X => ?_)
  refine ww_iload_n dX8_about_0 rfl rfl ?_
  refine ww_table [44, 63, 82, 90, 95, 100, 108] 119 dX8_about_1 (by decide) (by decide) (by decide) (fun j1 t1 ht1 c1 => ?_) (fun c1 => ?_)
  · rcases j1 with _ | _ | _ | _ | _ | _ | _ | j
    · cases ht1
      refine ww_aload_n dX8_about_44 rfl rfl ?_
      refine Wxx_getn H.1 dX8_about_45 fX8_47 rfl rfl hcu ?_
      refine ww_ifnonnullN dX8_about_48 ?_
      refine ww_iconst (v := -1) dX8_about_51 (by decide) ?_
      refine ww_goto (tgt := 62) dX8_about_52 (by decide) ?_
      exact ww_iret dX8_about_62 rfl ⟨by unfold abC; rw [if_pos (show z = nI 0 from w_lit c1 (by decide))], rfl⟩ (Nat.zero_le _) (Nat.zero_le _)
    · cases ht1
      refine ww_aload_n dX8_about_63 rfl rfl ?_
      refine Wxx_getn H.1 dX8_about_64 fX8_47 rfl rfl hcu ?_
      refine ww_ifnonnullN dX8_about_67 ?_
      refine ww_iconst (v := -1) dX8_about_70 (by decide) ?_
      refine ww_goto (tgt := 81) dX8_about_71 (by decide) ?_
      exact ww_iret dX8_about_81 rfl ⟨by unfold abC; rw [if_neg (by rw [show z = nI 1 from w_lit c1 (by decide)]; decide), if_pos (show z = nI 1 from w_lit c1 (by decide))], rfl⟩ (Nat.zero_le _) (Nat.zero_le _)
    · cases ht1
      refine ww_aload_n dX8_about_82 rfl rfl ?_
      refine Wxx_geto H.1 dX8_about_83 fX8_19 rfl rfl H.2.2.2.2.2.2.2.2.1 ?_
      refine Wpp_geti H.2.2.2.1 dX8_about_86 fX8_221 rfl rfl ?_
      exact ww_iret dX8_about_89 rfl ⟨by unfold abC; rw [if_neg (by rw [show z = nI 2 from w_lit c1 (by decide)]; decide), if_neg (by rw [show z = nI 2 from w_lit c1 (by decide)]; decide), if_pos (show z = nI 2 from w_lit c1 (by decide))], rfl⟩ (Nat.zero_le _) (Nat.zero_le _)
    · cases ht1
      refine ww_aload_n dX8_about_90 rfl rfl ?_
      refine Wxx_geti H.1 dX8_about_91 fX8_51 rfl rfl ?_
      exact ww_iret dX8_about_94 rfl ⟨by unfold abC; rw [if_neg (by rw [show z = nI 3 from w_lit c1 (by decide)]; decide), if_neg (by rw [show z = nI 3 from w_lit c1 (by decide)]; decide), if_neg (by rw [show z = nI 3 from w_lit c1 (by decide)]; decide), if_pos (show z = nI 3 from w_lit c1 (by decide))], rfl⟩ (Nat.zero_le _) (Nat.zero_le _)
    · cases ht1
      refine ww_aload_n dX8_about_95 rfl rfl ?_
      refine Wxx_geti H.1 dX8_about_96 fX8_43 rfl rfl ?_
      exact ww_iret dX8_about_99 rfl ⟨by unfold abC; rw [if_neg (by rw [show z = nI 4 from w_lit c1 (by decide)]; decide), if_neg (by rw [show z = nI 4 from w_lit c1 (by decide)]; decide), if_neg (by rw [show z = nI 4 from w_lit c1 (by decide)]; decide), if_neg (by rw [show z = nI 4 from w_lit c1 (by decide)]; decide), if_pos (show z = nI 4 from w_lit c1 (by decide))], rfl⟩ (Nat.zero_le _) (Nat.zero_le _)
    · cases ht1
      refine ww_aload_n dX8_about_100 rfl rfl ?_
      refine Wxx_geto H.1 dX8_about_101 fX8_26 rfl rfl H.2.2.2.2.2.2.2.2.2.1 ?_
      refine Wtt_geti H.2.2.2.2.1 dX8_about_104 fX8_212 rfl rfl ?_
      exact ww_iret dX8_about_107 rfl ⟨by unfold abC; rw [if_neg (by rw [show z = nI 5 from w_lit c1 (by decide)]; decide), if_neg (by rw [show z = nI 5 from w_lit c1 (by decide)]; decide), if_neg (by rw [show z = nI 5 from w_lit c1 (by decide)]; decide), if_neg (by rw [show z = nI 5 from w_lit c1 (by decide)]; decide), if_neg (by rw [show z = nI 5 from w_lit c1 (by decide)]; decide), if_pos (show z = nI 5 from w_lit c1 (by decide))], rfl⟩ (Nat.zero_le _) (Nat.zero_le _)
    · cases ht1
      refine ww_aload_n dX8_about_108 rfl rfl ?_
      refine Wxx_geto H.1 dX8_about_109 fX8_10 rfl rfl H.2.2.2.2.2.2.2.1 ?_
      refine Wrd_geto H.2.1 dX8_about_112 fX8_60 rfl rfl H.2.2.2.2.2.2.2.2.2.2.2.2 ?_
      refine Wta_geti H.2.2.1 dX8_about_115 fX8_64 rfl rfl ?_
      exact ww_iret dX8_about_118 rfl ⟨by unfold abC; rw [if_neg (by rw [show z = nI 6 from w_lit c1 (by decide)]; decide), if_neg (by rw [show z = nI 6 from w_lit c1 (by decide)]; decide), if_neg (by rw [show z = nI 6 from w_lit c1 (by decide)]; decide), if_neg (by rw [show z = nI 6 from w_lit c1 (by decide)]; decide), if_neg (by rw [show z = nI 6 from w_lit c1 (by decide)]; decide), if_neg (by rw [show z = nI 6 from w_lit c1 (by decide)]; decide), if_pos (show z = nI 6 from w_lit c1 (by decide))], rfl⟩ (Nat.zero_le _) (Nat.zero_le _)
    · cases ht1
  · refine ww_iconst (v := -1) dX8_about_119 (by decide) ?_
    exact ww_iret dX8_about_120 rfl ⟨by unfold abC; rw [if_neg (w_nlit c1 (by decide) (by decide)), if_neg (w_nlit c1 (by decide) (by decide)), if_neg (w_nlit c1 (by decide) (by decide)), if_neg (w_nlit c1 (by decide) (by decide)), if_neg (w_nlit c1 (by decide) (by decide)), if_neg (w_nlit c1 (by decide) (by decide)), if_neg (w_nlit c1 (by decide) (by decide))], rfl⟩ (Nat.zero_le _) (Nat.zero_le _)
set_option maxHeartbeats 4000000 in
theorem c8_aboutS (H : hH Λ O x mr mt mp mk mw ma) {z : Int32} {b mb : Nat} (hcu : O 0 6 = some mb) (hB : Lk Λ b 3 mb) : Sat G mX8_about [.ref x, .int z] (wld Λ F O R h0, sz) (Det (some (.int (abC F (F b 0) (F b 1) z))) (wld Λ F O R h0, sz)) := by
  refine Sat.of (by decide) [some (.ref x), some (.int z)] rfl rfl (fun X => ?_)
  refine ww_iload_n dX8_about_0 rfl rfl ?_
  refine ww_table [44, 63, 82, 90, 95, 100, 108] 119 dX8_about_1 (by decide) (by decide) (by decide) (fun j1 t1 ht1 c1 => ?_) (fun c1 => ?_)
  · rcases j1 with _ | _ | _ | _ | _ | _ | _ | j
    · cases ht1
      refine ww_aload_n dX8_about_44 rfl rfl ?_
      refine Wxx_geto H.1 dX8_about_45 fX8_47 rfl rfl hcu ?_
      refine ww_ifnonnull (tgt := 55) dX8_about_48 (by decide) ?_
      refine ww_aload_n dX8_about_55 rfl rfl ?_
      refine Wxx_geto H.1 dX8_about_56 fX8_47 rfl rfl hcu ?_
      refine Wbb_geti hB dX8_about_59 fX8_83 rfl rfl ?_
      exact ww_iret dX8_about_62 rfl ⟨by unfold abC; rw [if_pos (show z = nI 0 from w_lit c1 (by decide))], rfl⟩ (Nat.zero_le _) (Nat.zero_le _)
    · cases ht1
      refine ww_aload_n dX8_about_63 rfl rfl ?_
      refine Wxx_geto H.1 dX8_about_64 fX8_47 rfl rfl hcu ?_
      refine ww_ifnonnull (tgt := 74) dX8_about_67 (by decide) ?_
      refine ww_aload_n dX8_about_74 rfl rfl ?_
      refine Wxx_geto H.1 dX8_about_75 fX8_47 rfl rfl hcu ?_
      refine Wbb_geti hB dX8_about_78 fX8_234 rfl rfl ?_
      exact ww_iret dX8_about_81 rfl ⟨by unfold abC; rw [if_neg (by rw [show z = nI 1 from w_lit c1 (by decide)]; decide), if_pos (show z = nI 1 from w_lit c1 (by decide))], rfl⟩ (Nat.zero_le _) (Nat.zero_le _)
    · cases ht1
      refine ww_aload_n dX8_about_82 rfl rfl ?_
      refine Wxx_geto H.1 dX8_about_83 fX8_19 rfl rfl H.2.2.2.2.2.2.2.2.1 ?_
      refine Wpp_geti H.2.2.2.1 dX8_about_86 fX8_221 rfl rfl ?_
      exact ww_iret dX8_about_89 rfl ⟨by unfold abC; rw [if_neg (by rw [show z = nI 2 from w_lit c1 (by decide)]; decide), if_neg (by rw [show z = nI 2 from w_lit c1 (by decide)]; decide), if_pos (show z = nI 2 from w_lit c1 (by decide))], rfl⟩ (Nat.zero_le _) (Nat.zero_le _)
    · cases ht1
      refine ww_aload_n dX8_about_90 rfl rfl ?_
      refine Wxx_geti H.1 dX8_about_91 fX8_51 rfl rfl ?_
      exact ww_iret dX8_about_94 rfl ⟨by unfold abC; rw [if_neg (by rw [show z = nI 3 from w_lit c1 (by decide)]; decide), if_neg (by rw [show z = nI 3 from w_lit c1 (by decide)]; decide), if_neg (by rw [show z = nI 3 from w_lit c1 (by decide)]; decide), if_pos (show z = nI 3 from w_lit c1 (by decide))], rfl⟩ (Nat.zero_le _) (Nat.zero_le _)
    · cases ht1
      refine ww_aload_n dX8_about_95 rfl rfl ?_
      refine Wxx_geti H.1 dX8_about_96 fX8_43 rfl rfl ?_
      exact ww_iret dX8_about_99 rfl ⟨by unfold abC; rw [if_neg (by rw [show z = nI 4 from w_lit c1 (by decide)]; decide), if_neg (by rw [show z = nI 4 from w_lit c1 (by decide)]; decide), if_neg (by rw [show z = nI 4 from w_lit c1 (by decide)]; decide), if_neg (by rw [show z = nI 4 from w_lit c1 (by decide)]; decide), if_pos (show z = nI 4 from w_lit c1 (by decide))], rfl⟩ (Nat.zero_le _) (Nat.zero_le _)
    · cases ht1
      refine ww_aload_n dX8_about_100 rfl rfl ?_
      refine Wxx_geto H.1 dX8_about_101 fX8_26 rfl rfl H.2.2.2.2.2.2.2.2.2.1 ?_
      refine Wtt_geti H.2.2.2.2.1 dX8_about_104 fX8_212 rfl rfl ?_
      exact ww_iret dX8_about_107 rfl ⟨by unfold abC; rw [if_neg (by rw [show z = nI 5 from w_lit c1 (by decide)]; decide), if_neg (by rw [show z = nI 5 from w_lit c1 (by decide)]; decide), if_neg (by rw [show z = nI 5 from w_lit c1 (by decide)]; decide), if_neg (by rw [show z = nI 5 from w_lit c1 (by decide)]; decide), if_neg (by rw [show z = nI 5 from w_lit c1 (by decide)]; decide), if_pos (show z = nI 5 from w_lit c1 (by decide))], rfl⟩ (Nat.zero_le _) (Nat.zero_le _)
    · cases ht1
      refine ww_aload_n dX8_about_108 rfl rfl ?_
      refine Wxx_geto H.1 dX8_about_109 fX8_10 rfl rfl H.2.2.2.2.2.2.2.1 ?_
      refine Wrd_geto H.2.1 dX8_about_112 fX8_60 rfl rfl H.2.2.2.2.2.2.2.2.2.2.2.2 ?_
      refine Wta_geti H.2.2.1 dX8_about_115 fX8_64 rfl rfl ?_
      exact ww_iret dX8_about_118 rfl ⟨by unfold abC; rw [if_neg (by rw [show z = nI 6 from w_lit c1 (by decide)]; decide), if_neg (by rw [show z = nI 6 from w_lit c1 (by decide)]; decide), if_neg (by rw [show z = nI 6 from w_lit c1 (by decide)]; decide), if_neg (by rw [show z = nI 6 from w_lit c1 (by decide)]; decide), if_neg (by rw [show z = nI 6 from w_lit c1 (by decide)]; decide), if_neg (by rw [show z = nI 6 from w_lit c1 (by decide)]; decide), if_pos (show z = nI 6 from w_lit c1 (by decide))], rfl⟩ (Nat.zero_le _) (Nat.zero_le _)
    · cases ht1
  · refine ww_iconst (v := -1) dX8_about_119 (by decide) ?_
    exact ww_iret dX8_about_120 rfl ⟨by unfold abC; rw [if_neg (w_nlit c1 (by decide) (by decide)), if_neg (w_nlit c1 (by decide) (by decide)), if_neg (w_nlit c1 (by decide) (by decide)), if_neg (w_nlit c1 (by decide) (by decide)), if_neg (w_nlit c1 (by decide) (by decide)), if_neg (w_nlit c1 (by decide) (by decide)), if_neg (w_nlit c1 (by decide) (by decide))], rfl⟩ (Nat.zero_le _) (Nat.zero_le _)
end X8D
