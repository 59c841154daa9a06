/-- the walk's rows as a run goes on at a task of its that is done -/
def wkS (F6 : Nat → Int32) : Nat → Int32 := upd (upd (upd F6 3 0) 6 0) 4 0
def wkW (R : Nat → Nat → Nat → Int32) (u : Nat) : Nat → Nat → Int32 := va_up (va_up (R 6) 0 (cpN 4 (R u 2) (R 6 0))) 1 (cpN 40 (R u 3) (R 6 1))
def wkV (R : Nat → Nat → Nat → Int32) (u f : Nat) (v : Int32) : Nat → Nat → Int32 := va_up (wkW R u) 0 (upd (wkW R u 0) f v)
section X8H
variable {G : wG} {Λ : wL} {x mr mt mp mk mw ma : Nat} {F : Nat → Nat → Int32} {O : Nat → Nat → Option Nat} {R : Nat → Nat → Nat → Int32} {h0 : Nat → Option wE} {sz : Nat}
set_option maxHeartbeats 4000000 in
theorem c8_doneNF (H : hH Λ O x mr mt mp mk mw ma) {y z v : Int32} {c : Nat} (hc : F 5 0 = nI c) (hc2 : c ≤ 200){nr : Nat} (hr : F 0 5 = nI nr) (hr2 : nr ≤ 8){j : Nat} (hy : y = nI j) (hj : j < c){r : Nat} (h1 : R 5 1 j = nI r) (h2 : r < nr) (hs : R 5 6 j = 1) (hz : z = -1){u mu b mb : Nat} (hU : Lk Λ u 7 mu) (hO : O u 1 = some mb) (hB : Lk Λ b 3 mb) {lb q d cd : Nat} (hlb : F b 3 = nI lb) (hlb2 : lb ≤ 121) (hcd : F b 1 = nI cd) (hcd2 : cd ≤ 40) (hd : R 5 2 j = nI d) (hd2 : d < cd) (hq : R b 11 d = nI q) (hq2 : q < 150) {n : Nat} {Fw : Nat → Int32} {Rw : Nat → Nat → Int32} (hg : cM (R b) lb 1000 (some (q + 1)) (wkS (F 6)) (wkW R u) = some (Fw, Rw)) (hn : Fw 3 = nI n) (hn2 : n ≤ 40) (ho7 : O 7 r = some mu) (hfull : 200 < c + n) : Sat G mX8_done [.ref x, .int y, .int z, .int v] (wld Λ F O R h0, sz) (Det (some (.int (-1))) (wld Λ (va_up F 6 Fw) O (va_up R 6 Rw) h0, sz)) := by
  refine Sat.of (by decide) [some (.ref x), some (.int y), some (.int z), some (.int v), none] rfl rfl (fun X => ?_)
  have n5 : u ≠ 5 := Lk_ne hU H.2.2.2.2.1 (by decide)
  have n4 : u ≠ 4 := Lk_ne hU H.2.2.2.1 (by decide)
  have n6 : u ≠ 6 := Lk_ne hU H.2.2.2.2.2.1 (by decide)
  have n0 : u ≠ 0 := Lk_ne hU H.1 (by decide)
  have nb5 : b ≠ 5 := Lk_ne hB H.2.2.2.2.1 (by decide)
  have nb4 : b ≠ 4 := Lk_ne hB H.2.2.2.1 (by decide)
  have nb6 : b ≠ 6 := Lk_ne hB H.2.2.2.2.2.1 (by decide)
  have nbu : b ≠ u := Lk_ne hB hU (by decide)
  refine ww_aload_n dX8_done_0 rfl rfl ?_
  refine Wxx_geto H.1 dX8_done_1 fX8_26 rfl rfl H.2.2.2.2.2.2.2.2.2.1 ?_
  refine ww_iload_n dX8_done_4 rfl rfl ?_
  refine ww_iconst (v := 1) dX8_done_5 (by decide) ?_
  refine Wtt_call1 H.2.2.2.2.1 dX8_done_6 kX8_179 rfl rfl (tt_l0 H.2.2.2.2.1 (c6_isIn (y := 1) hc hc2 hy hj)) rfl rfl rfl rfl rfl rfl (Nat.zero_le _) (Nat.zero_le _) ?_
  refine ww_if_eq (tgt := 22) dX8_done_9 (by decide) (fun c9 => ?_) (fun c9 => ?_)
  · exact absurd c9 (by rw [decide_eq_true hs]; decide)
  · refine ww_iload_n dX8_done_12 rfl rfl ?_
    refine ww_iconst (v := -1) dX8_done_13 (by decide) ?_
    refine ww_icmp_lt (tgt := 22) dX8_done_14 (by decide) (fun c14 => ?_) (fun c14 => ?_)
    · exact absurd c14 (by rw [hz]; decide)
    · refine ww_iload_n dX8_done_17 rfl rfl ?_
      refine ww_iconst (v := 4) dX8_done_18 (by decide) ?_
      refine ww_icmp_lt (tgt := 24) dX8_done_19 (by decide) (fun c19 => ?_) (fun c19 => ?_)
      · refine ww_iload_n dX8_done_24 rfl rfl ?_
        refine ww_iconst (v := -1) dX8_done_25 (by decide) ?_
        refine ww_icmp_eq (tgt := 41) dX8_done_26 (by decide) (fun c26 => ?_) (fun c26 => ?_)
        · refine ww_aload_n dX8_done_41 rfl rfl ?_
          refine ww_aload_n dX8_done_42 rfl rfl ?_
          refine Wxx_geto H.1 dX8_done_43 fX8_26 rfl rfl H.2.2.2.2.2.2.2.2.2.1 ?_
          refine Wtt_getr H.2.2.2.2.1 dX8_done_46 fX8_149 rfl ?_
          refine ww_iload_n dX8_done_49 rfl rfl ?_
          refine Wtt_iald H.2.2.2.2.1 dX8_done_50 rfl hy (by omega) rfl ?_
          refine Wxx_call1 H.1 dX8_done_51 kX8_134 rfl rfl (c8_runAt H hr hr2 h1 h2 ho7) rfl rfl rfl rfl rfl rfl (Nat.zero_le _) (Nat.zero_le _) ?_
          refine ww_astore dX8_done_54 rfl rfl ?_
          refine ww_aload dX8_done_56 rfl ?_
          refine ww_ifnonnull (tgt := 63) dX8_done_58 (by decide) ?_
          refine ww_aload_n dX8_done_63 rfl rfl ?_
          refine Wxx_geto H.1 dX8_done_64 fX8_33 rfl rfl H.2.2.2.2.2.2.2.2.2.2.1 ?_
          refine ww_aload dX8_done_67 rfl ?_
          refine Wwa_call0 H.2.2.2.2.2.1 dX8_done_69 kX8_196 rfl rfl (c7_startFrom H.2.2.2.2.2.1 hU n6) rfl rfl rfl rfl rfl rfl (Nat.zero_le _) (Nat.zero_le _) ?_
          refine ww_aload_n dX8_done_72 rfl rfl ?_
          refine Wxx_geto H.1 dX8_done_73 fX8_33 rfl rfl H.2.2.2.2.2.2.2.2.2.2.1 ?_
          refine ww_iload_n dX8_done_76 rfl rfl ?_
          refine ww_iload_n dX8_done_77 rfl rfl ?_
          refine Wwa_call0 H.2.2.2.2.2.1 dX8_done_78 kX8_199 rfl rfl (wa_l0 H.2.2.2.2.2.1 (c7_put0 (by rw [hz]; rfl))) rfl rfl rfl rfl rfl rfl (Nat.zero_le _) (Nat.zero_le _) ?_
          have e9 := L8_doneF (X := X) (G := G) (h0 := h0) (sz := sz) (z := z) (v := v) (F := (va_up F 6 (wkS (F 6)))) (R := (va_up R 6 (wkW R u))) H hc hc2 hy hj hU hO hB (by rw [w_up_ne _ _ nb6]; exact hlb) hlb2 (by rw [w_up_ne _ _ nb6]; exact hcd) hcd2 hd hd2 (by rw [w_up_ne _ _ nb6]; exact hq) hq2 (by rw [w_up_ne _ _ nb6, w_up_self, w_up_self]; exact hg) hn hn2 hfull
          rw [w_up_up, w_up_up] at e9
          exact e9
        · exact absurd c26 (fun q => q hz)
      · exact absurd c19 (fun q => q (by rw [hz]; decide))
set_option maxHeartbeats 4000000 in
theorem c8_doneNK (H : hH Λ O x mr mt mp mk mw ma) {y z v : Int32} {c : Nat} (hc : F 5 0 = nI c) (hc2 : c ≤ 200){nr : Nat} (hr : F 0 5 = nI nr) (hr2 : nr ≤ 8){j : Nat} (hy : y = nI j) (hj : j < c){r : Nat} (h1 : R 5 1 j = nI r) (h2 : r < nr) (hs : R 5 6 j = 1) (hz : z = -1){u mu b mb : Nat} (hU : Lk Λ u 7 mu) (hO : O u 1 = some mb) (hB : Lk Λ b 3 mb) {lb q d cd : Nat} (hlb : F b 3 = nI lb) (hlb2 : lb ≤ 121) (hcd : F b 1 = nI cd) (hcd2 : cd ≤ 40) (hd : R 5 2 j = nI d) (hd2 : d < cd) (hq : R b 11 d = nI q) (hq2 : q < 150) {n : Nat} {Fw : Nat → Int32} {Rw : Nat → Nat → Int32} (hg : cM (R b) lb 1000 (some (q + 1)) (wkS (F 6)) (wkW R u) = some (Fw, Rw)) (hn : Fw 3 = nI n) (hn2 : n ≤ 40) (ho7 : O 7 r = some mu) {l p a : Nat} (hl : F 4 0 = nI l) (hl2 : l ≤ 8) (hp : R 5 7 j = nI p) (hpl : p < l) (ha : F 0 7 = nI a) (ha2 : a ≤ 20000) {cm du : Nat → Nat} (hcm : ∀ k, k < n → Rw 2 k = nI (cm k) ∧ cm k < cd) (hdu : ∀ d, d < cd → R b 9 d = nI (du d) ∧ 1 ≤ du d ∧ du d ≤ 99) (hov : Fw 4 = 0 ∨ Fw 4 = 1) (hroom : c + n ≤ 200) : Sat G mX8_done [.ref x, .int y, .int z, .int v] (wld Λ F O R h0, sz) (Det (some (.int (nI n))) (wld Λ (kwF (fnF (va_up F 6 Fw) u) u c n) O (kwRR (fnF (va_up F 6 Fw) u) (fnR (va_up F 6 Fw) (va_up R 6 Rw) u j p d) u b c n a cm du) h0, sz)) := by
  refine Sat.of (by decide) [some (.ref x), some (.int y), some (.int z), some (.int v), none] rfl rfl (fun X => ?_)
  have n5 : u ≠ 5 := Lk_ne hU H.2.2.2.2.1 (by decide)
  have n4 : u ≠ 4 := Lk_ne hU H.2.2.2.1 (by decide)
  have n6 : u ≠ 6 := Lk_ne hU H.2.2.2.2.2.1 (by decide)
  have n0 : u ≠ 0 := Lk_ne hU H.1 (by decide)
  have nb5 : b ≠ 5 := Lk_ne hB H.2.2.2.2.1 (by decide)
  have nb4 : b ≠ 4 := Lk_ne hB H.2.2.2.1 (by decide)
  have nb6 : b ≠ 6 := Lk_ne hB H.2.2.2.2.2.1 (by decide)
  have nbu : b ≠ u := Lk_ne hB hU (by decide)
  refine ww_aload_n dX8_done_0 rfl rfl ?_
  refine Wxx_geto H.1 dX8_done_1 fX8_26 rfl rfl H.2.2.2.2.2.2.2.2.2.1 ?_
  refine ww_iload_n dX8_done_4 rfl rfl ?_
  refine ww_iconst (v := 1) dX8_done_5 (by decide) ?_
  refine Wtt_call1 H.2.2.2.2.1 dX8_done_6 kX8_179 rfl rfl (tt_l0 H.2.2.2.2.1 (c6_isIn (y := 1) hc hc2 hy hj)) rfl rfl rfl rfl rfl rfl (Nat.zero_le _) (Nat.zero_le _) ?_
  refine ww_if_eq (tgt := 22) dX8_done_9 (by decide) (fun c9 => ?_) (fun c9 => ?_)
  · exact absurd c9 (by rw [decide_eq_true hs]; decide)
  · refine ww_iload_n dX8_done_12 rfl rfl ?_
    refine ww_iconst (v := -1) dX8_done_13 (by decide) ?_
    refine ww_icmp_lt (tgt := 22) dX8_done_14 (by decide) (fun c14 => ?_) (fun c14 => ?_)
    · exact absurd c14 (by rw [hz]; decide)
    · refine ww_iload_n dX8_done_17 rfl rfl ?_
      refine ww_iconst (v := 4) dX8_done_18 (by decide) ?_
      refine ww_icmp_lt (tgt := 24) dX8_done_19 (by decide) (fun c19 => ?_) (fun c19 => ?_)
      · refine ww_iload_n dX8_done_24 rfl rfl ?_
        refine ww_iconst (v := -1) dX8_done_25 (by decide) ?_
        refine ww_icmp_eq (tgt := 41) dX8_done_26 (by decide) (fun c26 => ?_) (fun c26 => ?_)
        · refine ww_aload_n dX8_done_41 rfl rfl ?_
          refine ww_aload_n dX8_done_42 rfl rfl ?_
          refine Wxx_geto H.1 dX8_done_43 fX8_26 rfl rfl H.2.2.2.2.2.2.2.2.2.1 ?_
          refine Wtt_getr H.2.2.2.2.1 dX8_done_46 fX8_149 rfl ?_
          refine ww_iload_n dX8_done_49 rfl rfl ?_
          refine Wtt_iald H.2.2.2.2.1 dX8_done_50 rfl hy (by omega) rfl ?_
          refine Wxx_call1 H.1 dX8_done_51 kX8_134 rfl rfl (c8_runAt H hr hr2 h1 h2 ho7) rfl rfl rfl rfl rfl rfl (Nat.zero_le _) (Nat.zero_le _) ?_
          refine ww_astore dX8_done_54 rfl rfl ?_
          refine ww_aload dX8_done_56 rfl ?_
          refine ww_ifnonnull (tgt := 63) dX8_done_58 (by decide) ?_
          refine ww_aload_n dX8_done_63 rfl rfl ?_
          refine Wxx_geto H.1 dX8_done_64 fX8_33 rfl rfl H.2.2.2.2.2.2.2.2.2.2.1 ?_
          refine ww_aload dX8_done_67 rfl ?_
          refine Wwa_call0 H.2.2.2.2.2.1 dX8_done_69 kX8_196 rfl rfl (c7_startFrom H.2.2.2.2.2.1 hU n6) rfl rfl rfl rfl rfl rfl (Nat.zero_le _) (Nat.zero_le _) ?_
          refine ww_aload_n dX8_done_72 rfl rfl ?_
          refine Wxx_geto H.1 dX8_done_73 fX8_33 rfl rfl H.2.2.2.2.2.2.2.2.2.2.1 ?_
          refine ww_iload_n dX8_done_76 rfl rfl ?_
          refine ww_iload_n dX8_done_77 rfl rfl ?_
          refine Wwa_call0 H.2.2.2.2.2.1 dX8_done_78 kX8_199 rfl rfl (wa_l0 H.2.2.2.2.2.1 (c7_put0 (by rw [hz]; rfl))) rfl rfl rfl rfl rfl rfl (Nat.zero_le _) (Nat.zero_le _) ?_
          have e9 := L8_doneK (X := X) (G := G) (h0 := h0) (sz := sz) (z := z) (v := v) (cm := cm) (du := du) (F := (va_up F 6 (wkS (F 6)))) (R := (va_up R 6 (wkW R u))) H hc hc2 hy hj hU hO hB (by rw [w_up_ne _ _ nb6]; exact hlb) hlb2 (by rw [w_up_ne _ _ nb6]; exact hcd) hcd2 hd hd2 (by rw [w_up_ne _ _ nb6]; exact hq) hq2 (by rw [w_up_ne _ _ nb6, w_up_self, w_up_self]; exact hg) hn hn2 hl hl2 hp hpl ha ha2 hcm (fun d0 hd0 => by rw [w_up_ne _ _ nb6]; exact hdu d0 hd0) hov hroom
          rw [w_up_up, w_up_up] at e9
          exact e9
        · exact absurd c26 (fun q => q hz)
      · exact absurd c19 (fun q => q (by rw [hz]; decide))
set_option maxHeartbeats 4000000 in
theorem c8_doneSF (H : hH Λ O x mr mt mp mk mw ma) {y z v : Int32} {c : Nat} (hc : F 5 0 = nI c) (hc2 : c ≤ 200){nr : Nat} (hr : F 0 5 = nI nr) (hr2 : nr ≤ 8){j : Nat} (hy : y = nI j) (hj : j < c){r : Nat} (h1 : R 5 1 j = nI r) (h2 : r < nr) (hs : R 5 6 j = 1) {f : Nat} (hz : z = nI f) (hf : f < 4) (hv : 0 ≤ v ∧ v ≤ 99){u mu b mb : Nat} (hU : Lk Λ u 7 mu) (hO : O u 1 = some mb) (hB : Lk Λ b 3 mb) {lb q d cd : Nat} (hlb : F b 3 = nI lb) (hlb2 : lb ≤ 121) (hcd : F b 1 = nI cd) (hcd2 : cd ≤ 40) (hd : R 5 2 j = nI d) (hd2 : d < cd) (hq : R b 11 d = nI q) (hq2 : q < 150) {n : Nat} {Fw : Nat → Int32} {Rw : Nat → Nat → Int32} (hg : cM (R b) lb 1000 (some (q + 1)) (wkS (F 6)) (wkV R u f v) = some (Fw, Rw)) (hn : Fw 3 = nI n) (hn2 : n ≤ 40) (ho7 : O 7 r = some mu) (hfull : 200 < c + n) : Sat G mX8_done [.ref x, .int y, .int z, .int v] (wld Λ F O R h0, sz) (Det (some (.int (-1))) (wld Λ (va_up F 6 Fw) O (va_up R 6 Rw) h0, sz)) := by
  refine Sat.of (by decide) [some (.ref x), some (.int y), some (.int z), some (.int v), none] rfl rfl (fun X => ?_)
  have n5 : u ≠ 5 := Lk_ne hU H.2.2.2.2.1 (by decide)
  have n4 : u ≠ 4 := Lk_ne hU H.2.2.2.1 (by decide)
  have n6 : u ≠ 6 := Lk_ne hU H.2.2.2.2.2.1 (by decide)
  have n0 : u ≠ 0 := Lk_ne hU H.1 (by decide)
  have nb5 : b ≠ 5 := Lk_ne hB H.2.2.2.2.1 (by decide)
  have nb4 : b ≠ 4 := Lk_ne hB H.2.2.2.1 (by decide)
  have nb6 : b ≠ 6 := Lk_ne hB H.2.2.2.2.2.1 (by decide)
  have nbu : b ≠ u := Lk_ne hB hU (by decide)
  refine ww_aload_n dX8_done_0 rfl rfl ?_
  refine Wxx_geto H.1 dX8_done_1 fX8_26 rfl rfl H.2.2.2.2.2.2.2.2.2.1 ?_
  refine ww_iload_n dX8_done_4 rfl rfl ?_
  refine ww_iconst (v := 1) dX8_done_5 (by decide) ?_
  refine Wtt_call1 H.2.2.2.2.1 dX8_done_6 kX8_179 rfl rfl (tt_l0 H.2.2.2.2.1 (c6_isIn (y := 1) hc hc2 hy hj)) rfl rfl rfl rfl rfl rfl (Nat.zero_le _) (Nat.zero_le _) ?_
  refine ww_if_eq (tgt := 22) dX8_done_9 (by decide) (fun c9 => ?_) (fun c9 => ?_)
  · exact absurd c9 (by rw [decide_eq_true hs]; decide)
  · refine ww_iload_n dX8_done_12 rfl rfl ?_
    refine ww_iconst (v := -1) dX8_done_13 (by decide) ?_
    refine ww_icmp_lt (tgt := 22) dX8_done_14 (by decide) (fun c14 => ?_) (fun c14 => ?_)
    · exact absurd c14 (by rw [hz]; exact Int32.not_lt.mpr (Int32.le_trans (by decide) (nI_le (a := 0) (Nat.zero_le f) (by omega))))
    · refine ww_iload_n dX8_done_17 rfl rfl ?_
      refine ww_iconst (v := 4) dX8_done_18 (by decide) ?_
      refine ww_icmp_lt (tgt := 24) dX8_done_19 (by decide) (fun c19 => ?_) (fun c19 => ?_)
      · refine ww_iload_n dX8_done_24 rfl rfl ?_
        refine ww_iconst (v := -1) dX8_done_25 (by decide) ?_
        refine ww_icmp_eq (tgt := 41) dX8_done_26 (by decide) (fun c26 => ?_) (fun c26 => ?_)
        · exact absurd c26 (by rw [hz]; exact onI_ne f (by omega))
        · refine ww_iload_n dX8_done_29 rfl rfl ?_
          refine ww_if_lt (tgt := 39) dX8_done_30 (by decide) (fun c30 => ?_) (fun c30 => ?_)
          · exact absurd c30 (Int32.not_lt.mpr hv.1)
          · refine ww_iload_n dX8_done_33 rfl rfl ?_
            refine ww_bipush (v := 99) dX8_done_34 (by decide) ?_
            refine ww_icmp_le (tgt := 41) dX8_done_36 (by decide) (fun c36 => ?_) (fun c36 => ?_)
            · refine ww_aload_n dX8_done_41 rfl rfl ?_
              refine ww_aload_n dX8_done_42 rfl rfl ?_
              refine Wxx_geto H.1 dX8_done_43 fX8_26 rfl rfl H.2.2.2.2.2.2.2.2.2.1 ?_
              refine Wtt_getr H.2.2.2.2.1 dX8_done_46 fX8_149 rfl ?_
              refine ww_iload_n dX8_done_49 rfl rfl ?_
              refine Wtt_iald H.2.2.2.2.1 dX8_done_50 rfl hy (by omega) rfl ?_
              refine Wxx_call1 H.1 dX8_done_51 kX8_134 rfl rfl (c8_runAt H hr hr2 h1 h2 ho7) rfl rfl rfl rfl rfl rfl (Nat.zero_le _) (Nat.zero_le _) ?_
              refine ww_astore dX8_done_54 rfl rfl ?_
              refine ww_aload dX8_done_56 rfl ?_
              refine ww_ifnonnull (tgt := 63) dX8_done_58 (by decide) ?_
              refine ww_aload_n dX8_done_63 rfl rfl ?_
              refine Wxx_geto H.1 dX8_done_64 fX8_33 rfl rfl H.2.2.2.2.2.2.2.2.2.2.1 ?_
              refine ww_aload dX8_done_67 rfl ?_
              refine Wwa_call0 H.2.2.2.2.2.1 dX8_done_69 kX8_196 rfl rfl (c7_startFrom H.2.2.2.2.2.1 hU n6) rfl rfl rfl rfl rfl rfl (Nat.zero_le _) (Nat.zero_le _) ?_
              refine ww_aload_n dX8_done_72 rfl rfl ?_
              refine Wxx_geto H.1 dX8_done_73 fX8_33 rfl rfl H.2.2.2.2.2.2.2.2.2.2.1 ?_
              refine ww_iload_n dX8_done_76 rfl rfl ?_
              refine ww_iload_n dX8_done_77 rfl rfl ?_
              refine Wwa_call0 H.2.2.2.2.2.1 dX8_done_78 kX8_199 rfl rfl (wa_lR H.2.2.2.2.2.1 (c7_put hz hf)) rfl rfl rfl rfl rfl rfl (Nat.zero_le _) (Nat.zero_le _) ?_
              have e9 := L8_doneF (X := X) (G := G) (h0 := h0) (sz := sz) (z := z) (v := v) (F := (va_up F 6 (wkS (F 6)))) (R := (va_up R 6 (wkV R u f v))) H hc hc2 hy hj hU hO hB (by rw [w_up_ne _ _ nb6]; exact hlb) hlb2 (by rw [w_up_ne _ _ nb6]; exact hcd) hcd2 hd hd2 (by rw [w_up_ne _ _ nb6]; exact hq) hq2 (by rw [w_up_ne _ _ nb6, w_up_self, w_up_self]; exact hg) hn hn2 hfull
              rw [w_up_up, w_up_up] at e9
              rw [w_up_up]
              exact e9
            · exact absurd c36 (fun q => q hv.2)
      · exact absurd c19 (fun q => q (by rw [hz]; exact nI_lt (b := 4) hf (by decide)))
set_option maxHeartbeats 4000000 in
theorem c8_doneSK (H : hH Λ O x mr mt mp mk mw ma) {y z v : Int32} {c : Nat} (hc : F 5 0 = nI c) (hc2 : c ≤ 200){nr : Nat} (hr : F 0 5 = nI nr) (hr2 : nr ≤ 8){j : Nat} (hy : y = nI j) (hj : j < c){r : Nat} (h1 : R 5 1 j = nI r) (h2 : r < nr) (hs : R 5 6 j = 1) {f : Nat} (hz : z = nI f) (hf : f < 4) (hv : 0 ≤ v ∧ v ≤ 99){u mu b mb : Nat} (hU : Lk Λ u 7 mu) (hO : O u 1 = some mb) (hB : Lk Λ b 3 mb) {lb q d cd : Nat} (hlb : F b 3 = nI lb) (hlb2 : lb ≤ 121) (hcd : F b 1 = nI cd) (hcd2 : cd ≤ 40) (hd : R 5 2 j = nI d) (hd2 : d < cd) (hq : R b 11 d = nI q) (hq2 : q < 150) {n : Nat} {Fw : Nat → Int32} {Rw : Nat → Nat → Int32} (hg : cM (R b) lb 1000 (some (q + 1)) (wkS (F 6)) (wkV R u f v) = some (Fw, Rw)) (hn : Fw 3 = nI n) (hn2 : n ≤ 40) (ho7 : O 7 r = some mu) {l p a : Nat} (hl : F 4 0 = nI l) (hl2 : l ≤ 8) (hp : R 5 7 j = nI p) (hpl : p < l) (ha : F 0 7 = nI a) (ha2 : a ≤ 20000) {cm du : Nat → Nat} (hcm : ∀ k, k < n → Rw 2 k = nI (cm k) ∧ cm k < cd) (hdu : ∀ d, d < cd → R b 9 d = nI (du d) ∧ 1 ≤ du d ∧ du d ≤ 99) (hov : Fw 4 = 0 ∨ Fw 4 = 1) (hroom : c + n ≤ 200) : Sat G mX8_done [.ref x, .int y, .int z, .int v] (wld Λ F O R h0, sz) (Det (some (.int (nI n))) (wld Λ (kwF (fnF (va_up F 6 Fw) u) u c n) O (kwRR (fnF (va_up F 6 Fw) u) (fnR (va_up F 6 Fw) (va_up R 6 Rw) u j p d) u b c n a cm du) h0, sz)) := by
  refine Sat.of (by decide) [some (.ref x), some (.int y), some (.int z), some (.int v), none] rfl rfl (fun X => ?_)
  have n5 : u ≠ 5 := Lk_ne hU H.2.2.2.2.1 (by decide)
  have n4 : u ≠ 4 := Lk_ne hU H.2.2.2.1 (by decide)
  have n6 : u ≠ 6 := Lk_ne hU H.2.2.2.2.2.1 (by decide)
  have n0 : u ≠ 0 := Lk_ne hU H.1 (by decide)
  have nb5 : b ≠ 5 := Lk_ne hB H.2.2.2.2.1 (by decide)
  have nb4 : b ≠ 4 := Lk_ne hB H.2.2.2.1 (by decide)
  have nb6 : b ≠ 6 := Lk_ne hB H.2.2.2.2.2.1 (by decide)
  have nbu : b ≠ u := Lk_ne hB hU (by decide)
  refine ww_aload_n dX8_done_0 rfl rfl ?_
  refine Wxx_geto H.1 dX8_done_1 fX8_26 rfl rfl H.2.2.2.2.2.2.2.2.2.1 ?_
  refine ww_iload_n dX8_done_4 rfl rfl ?_
  refine ww_iconst (v := 1) dX8_done_5 (by decide) ?_
  refine Wtt_call1 H.2.2.2.2.1 dX8_done_6 kX8_179 rfl rfl (tt_l0 H.2.2.2.2.1 (c6_isIn (y := 1) hc hc2 hy hj)) rfl rfl rfl rfl rfl rfl (Nat.zero_le _) (Nat.zero_le _) ?_
  refine ww_if_eq (tgt := 22) dX8_done_9 (by decide) (fun c9 => ?_) (fun c9 => ?_)
  · exact absurd c9 (by rw [decide_eq_true hs]; decide)
  · refine ww_iload_n dX8_done_12 rfl rfl ?_
    refine ww_iconst (v := -1) dX8_done_13 (by decide) ?_
    refine ww_icmp_lt (tgt := 22) dX8_done_14 (by decide) (fun c14 => ?_) (fun c14 => ?_)
    · exact absurd c14 (by rw [hz]; exact Int32.not_lt.mpr (Int32.le_trans (by decide) (nI_le (a := 0) (Nat.zero_le f) (by omega))))
    · refine ww_iload_n dX8_done_17 rfl rfl ?_
      refine ww_iconst (v := 4) dX8_done_18 (by decide) ?_
      refine ww_icmp_lt (tgt := 24) dX8_done_19 (by decide) (fun c19 => ?_) (fun c19 => ?_)
      · refine ww_iload_n dX8_done_24 rfl rfl ?_
        refine ww_iconst (v := -1) dX8_done_25 (by decide) ?_
        refine ww_icmp_eq (tgt := 41) dX8_done_26 (by decide) (fun c26 => ?_) (fun c26 => ?_)
        · exact absurd c26 (by rw [hz]; exact onI_ne f (by omega))
        · refine ww_iload_n dX8_done_29 rfl rfl ?_
          refine ww_if_lt (tgt := 39) dX8_done_30 (by decide) (fun c30 => ?_) (fun c30 => ?_)
          · exact absurd c30 (Int32.not_lt.mpr hv.1)
          · refine ww_iload_n dX8_done_33 rfl rfl ?_
            refine ww_bipush (v := 99) dX8_done_34 (by decide) ?_
            refine ww_icmp_le (tgt := 41) dX8_done_36 (by decide) (fun c36 => ?_) (fun c36 => ?_)
            · refine ww_aload_n dX8_done_41 rfl rfl ?_
              refine ww_aload_n dX8_done_42 rfl rfl ?_
              refine Wxx_geto H.1 dX8_done_43 fX8_26 rfl rfl H.2.2.2.2.2.2.2.2.2.1 ?_
              refine Wtt_getr H.2.2.2.2.1 dX8_done_46 fX8_149 rfl ?_
              refine ww_iload_n dX8_done_49 rfl rfl ?_
              refine Wtt_iald H.2.2.2.2.1 dX8_done_50 rfl hy (by omega) rfl ?_
              refine Wxx_call1 H.1 dX8_done_51 kX8_134 rfl rfl (c8_runAt H hr hr2 h1 h2 ho7) rfl rfl rfl rfl rfl rfl (Nat.zero_le _) (Nat.zero_le _) ?_
              refine ww_astore dX8_done_54 rfl rfl ?_
              refine ww_aload dX8_done_56 rfl ?_
              refine ww_ifnonnull (tgt := 63) dX8_done_58 (by decide) ?_
              refine ww_aload_n dX8_done_63 rfl rfl ?_
              refine Wxx_geto H.1 dX8_done_64 fX8_33 rfl rfl H.2.2.2.2.2.2.2.2.2.2.1 ?_
              refine ww_aload dX8_done_67 rfl ?_
              refine Wwa_call0 H.2.2.2.2.2.1 dX8_done_69 kX8_196 rfl rfl (c7_startFrom H.2.2.2.2.2.1 hU n6) rfl rfl rfl rfl rfl rfl (Nat.zero_le _) (Nat.zero_le _) ?_
              refine ww_aload_n dX8_done_72 rfl rfl ?_
              refine Wxx_geto H.1 dX8_done_73 fX8_33 rfl rfl H.2.2.2.2.2.2.2.2.2.2.1 ?_
              refine ww_iload_n dX8_done_76 rfl rfl ?_
              refine ww_iload_n dX8_done_77 rfl rfl ?_
              refine Wwa_call0 H.2.2.2.2.2.1 dX8_done_78 kX8_199 rfl rfl (wa_lR H.2.2.2.2.2.1 (c7_put hz hf)) rfl rfl rfl rfl rfl rfl (Nat.zero_le _) (Nat.zero_le _) ?_
              have e9 := L8_doneK (X := X) (G := G) (h0 := h0) (sz := sz) (z := z) (v := v) (cm := cm) (du := du) (F := (va_up F 6 (wkS (F 6)))) (R := (va_up R 6 (wkV R u f v))) H hc hc2 hy hj hU hO hB (by rw [w_up_ne _ _ nb6]; exact hlb) hlb2 (by rw [w_up_ne _ _ nb6]; exact hcd) hcd2 hd hd2 (by rw [w_up_ne _ _ nb6]; exact hq) hq2 (by rw [w_up_ne _ _ nb6, w_up_self, w_up_self]; exact hg) hn hn2 hl hl2 hp hpl ha ha2 hcm (fun d0 hd0 => by rw [w_up_ne _ _ nb6]; exact hdu d0 hd0) hov hroom
              rw [w_up_up, w_up_up] at e9
              rw [w_up_up]
              exact e9
            · exact absurd c36 (fun q => q hv.2)
      · exact absurd c19 (fun q => q (by rw [hz]; exact nI_lt (b := 4) hf (by decide)))
end X8H
