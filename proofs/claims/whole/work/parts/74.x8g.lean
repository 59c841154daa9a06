/-- behind finishTask of task j (do d) of run u, whose person is p -/
def fnF (F : Nat → Nat → Int32) (u : Nat) : Nat → Nat → Int32 := va_up F u (upd (F u) 6 (F u 6 - 1))
def fnR (F : Nat → Nat → Int32) (R : Nat → Nat → Nat → Int32) (u j p d : Nat) : Nat → Nat → Nat → Int32 := va_up (va_up (va_up R 5 (va_up (va_up (R 5) 6 (upd (R 5 6) j 2)) 8 (upd (R 5 8) j (F 0 7)))) 4 (va_up (va_up (R 4) 3 (upd (R 4 3) p (R 4 3 p - 1))) 4 (upd (R 4 4) p (R 4 4 p + 1)))) u (va_up (R u) 4 (upd (R u 4) d (R 5 7 j)))
section X8G
variable {G : wG} {Λ : wL} {x mr mt mp mk mw ma : Nat} {F : Nat → Nat → Int32} {O : Nat → Nat → Option Nat} {R : Nat → Nat → Nat → Int32} {h0 : Nat → Option wE} {sz : Nat}
set_option maxHeartbeats 4000000 in
theorem L8_doneF (H : hH Λ O x mr mt mp mk mw ma) {y z v : Int32} {c : Nat} (hc : F 5 0 = nI c) (hc2 : c ≤ 200) {j : Nat} (hy : y = nI j) (hj : j < c) {u mu b mb : Nat} (hU : Lk Λ u 7 mu) (hO : O u 1 = some mb) (hB : Lk Λ b 3 mb) {lb q d cd : Nat} (hlb : F b 3 = nI lb) (hlb2 : lb ≤ 121) (hcd : F b 1 = nI cd) (hcd2 : cd ≤ 40) (hd : R 5 2 j = nI d) (hd2 : d < cd) (hq : R b 11 d = nI q) (hq2 : q < 150) {n : Nat} {Fw : Nat → Int32} {Rw : Nat → Nat → Int32} (hg : cM (R b) lb 1000 (some (q + 1)) (F 6) (R 6) = some (Fw, Rw)) (hn : Fw 3 = nI n) (hn2 : n ≤ 40) (hfull : 200 < c + n) {X : wX} : WW G mX8_done cX8_done X (wZ G mX8_done X (Det (some (.int (-1))) (wld Λ (va_up F 6 Fw) O (va_up R 6 Rw) h0, sz))) 81 [some (.ref x), some (.int y), some (.int z), some (.int v), some (.ref mu)] [] (wld Λ F O R h0, sz) 0 0 := by
  refine ww_aload_n dX8_done_81 rfl rfl ?_
  refine Wxx_geto H.1 dX8_done_82 fX8_33 rfl rfl H.2.2.2.2.2.2.2.2.2.2.1 ?_
  refine ww_aload dX8_done_85 rfl ?_
  refine Wrr_geto hU dX8_done_87 fX8_202 rfl rfl hO ?_
  refine ww_aload dX8_done_90 rfl ?_
  refine Wrr_geto hU dX8_done_92 fX8_202 rfl rfl hO ?_
  refine ww_aload_n dX8_done_95 rfl rfl ?_
  refine Wxx_geto H.1 dX8_done_96 fX8_26 rfl rfl H.2.2.2.2.2.2.2.2.2.1 ?_
  refine Wtt_getr H.2.2.2.2.1 dX8_done_99 fX8_151 rfl ?_
  refine ww_iload_n dX8_done_102 rfl rfl ?_
  refine Wtt_iald H.2.2.2.2.1 dX8_done_103 rfl hy (by omega) rfl ?_
  refine Wbb_call1 hB dX8_done_104 kX8_205 rfl rfl (bb_l0 hB (c0_placeBehind hcd hcd2 hd hd2)) rfl rfl rfl rfl rfl rfl (Nat.zero_le _) (Nat.zero_le _) ?_
  refine Wwa_call0 H.2.2.2.2.2.1 dX8_done_107 kX8_117 rfl rfl (c7_go H.2.2.2.2.2.1 hB hlb hlb2 (show R b 11 d + 1 = nI (q + 1) by rw [hq, nI_1]) (by omega) hg) rfl rfl rfl rfl rfl rfl (Nat.zero_le _) (Nat.zero_le _) ?_
  refine ww_aload_n dX8_done_110 rfl rfl ?_
  refine Wxx_geto H.1 dX8_done_111 fX8_26 rfl rfl H.2.2.2.2.2.2.2.2.2.1 ?_
  refine ww_aload_n dX8_done_114 rfl rfl ?_
  refine Wxx_geto H.1 dX8_done_115 fX8_33 rfl rfl H.2.2.2.2.2.2.2.2.2.2.1 ?_
  refine Wwa_geti H.2.2.2.2.2.1 dX8_done_118 fX8_121 rfl rfl ?_
  refine Wtt_call1 H.2.2.2.2.1 dX8_done_121 kX8_124 rfl rfl (tt_l0 H.2.2.2.2.1 (c6_hasRoomFor (k := n) hc hc2 hn hn2)) rfl rfl rfl rfl rfl rfl (Nat.zero_le _) (Nat.zero_le _) ?_
  refine ww_if_ne (tgt := 129) dX8_done_124 (by decide) (fun c124 => ?_) (fun c124 => ?_)
  · exact absurd c124 (fun q => q (wb_eq0.mpr (decide_eq_false (by omega))))
  · refine ww_iconst (v := -1) dX8_done_127 (by decide) ?_
    exact ww_iret dX8_done_128 rfl ⟨rfl, rfl⟩ (Nat.zero_le _) (Nat.zero_le _)
set_option maxHeartbeats 4000000 in
theorem L8_doneK (H : hH Λ O x mr mt mp mk mw ma) {y z v : Int32} {c : Nat} (hc : F 5 0 = nI c) (hc2 : c ≤ 200) {j : Nat} (hy : y = nI j) (hj : j < c) {u mu b mb : Nat} (hU : Lk Λ u 7 mu) (hO : O u 1 = some mb) (hB : Lk Λ b 3 mb) {lb q d cd : Nat} (hlb : F b 3 = nI lb) (hlb2 : lb ≤ 121) (hcd : F b 1 = nI cd) (hcd2 : cd ≤ 40) (hd : R 5 2 j = nI d) (hd2 : d < cd) (hq : R b 11 d = nI q) (hq2 : q < 150) {n : Nat} {Fw : Nat → Int32} {Rw : Nat → Nat → Int32} (hg : cM (R b) lb 1000 (some (q + 1)) (F 6) (R 6) = some (Fw, Rw)) (hn : Fw 3 = nI n) (hn2 : n ≤ 40) {l p a : Nat} (hl : F 4 0 = nI l) (hl2 : l ≤ 8) (hp : R 5 7 j = nI p) (hpl : p < l) (ha : F 0 7 = nI a) (ha2 : a ≤ 20000) {cm du : Nat → Nat} (hcm : ∀ k, k < n → Rw 2 k = nI (cm k) ∧ cm k < cd) (hdu : ∀ d, d < cd → R b 9 d = nI (du d) ∧ 1 ≤ du d ∧ du d ≤ 99) (hov : Fw 4 = 0 ∨ Fw 4 = 1) (hroom : c + n ≤ 200) {X : wX} : WW G mX8_done cX8_done X (wZ G mX8_done X (Det (some (.int (nI n))) (wld Λ (kwF (fnF (va_up F 6 Fw) u) u c n) O (kwRR (fnF (va_up F 6 Fw) u) (fnR (va_up F 6 Fw) (va_up R 6 Rw) u j p d) u b c n a cm du) h0, sz))) 81 [some (.ref x), some (.int y), some (.int z), some (.int v), some (.ref mu)] [] (wld Λ F O R h0, sz) 0 0 := by
  have n5 : u ≠ 5 := Lk_ne hU H.2.2.2.2.1 (by decide)
  have n4 : u ≠ 4 := Lk_ne hU H.2.2.2.1 (by decide)
  have n6 : u ≠ 6 := Lk_ne hU H.2.2.2.2.2.1 (by decide)
  have n0 : u ≠ 0 := Lk_ne hU H.1 (by decide)
  have nb5 : b ≠ 5 := Lk_ne hB H.2.2.2.2.1 (by decide)
  have nb4 : b ≠ 4 := Lk_ne hB H.2.2.2.1 (by decide)
  have nb6 : b ≠ 6 := Lk_ne hB H.2.2.2.2.2.1 (by decide)
  have nbu : b ≠ u := Lk_ne hB hU (by decide)
  have k1 : (fnF (va_up F 6 Fw) u) b 1 = nI cd := by rw [fnF, w_up_ne _ _ nbu, w_up_ne _ _ nb6]; exact hcd
  have k2 : (fnF (va_up F 6 Fw) u) 6 3 = nI n := by rw [fnF, w_up_ne _ _ n6.symm, w_up_self]; exact hn
  have k3 : (fnF (va_up F 6 Fw) u) 0 7 = nI a := by rw [fnF, w_up_ne _ _ n0.symm]; exact ha
  have k4 : ∀ k, k < n → (fnR (va_up F 6 Fw) (va_up R 6 Rw) u j p d) 6 2 k = nI (cm k) ∧ cm k < cd := fun k hk => by rw [fnR, w_up_ne _ _ n6.symm]; exact hcm k hk
  have k5 : ∀ d0, d0 < cd → (fnR (va_up F 6 Fw) (va_up R 6 Rw) u j p d) b 9 d0 = nI (du d0) ∧ 1 ≤ du d0 ∧ du d0 ≤ 99 := fun d0 hd0 => by rw [fnR, w_up_ne _ _ nbu, w_up_ne _ _ nb4, w_up_ne _ _ nb5, w_up_ne _ _ nb6]; exact hdu d0 hd0
  have k6 : (fnF (va_up F 6 Fw) u) 5 0 = nI c := by rw [fnF, w_up_ne _ _ n5.symm]; exact hc
  have k7 : (fnF (va_up F 6 Fw) u) 6 4 = 0 ∨ (fnF (va_up F 6 Fw) u) 6 4 = 1 := by rw [fnF, w_up_ne _ _ n6.symm, w_up_self]; exact hov
  refine ww_aload_n dX8_done_81 rfl rfl ?_
  refine Wxx_geto H.1 dX8_done_82 fX8_33 rfl rfl H.2.2.2.2.2.2.2.2.2.2.1 ?_
  refine ww_aload dX8_done_85 rfl ?_
  refine Wrr_geto hU dX8_done_87 fX8_202 rfl rfl hO ?_
  refine ww_aload dX8_done_90 rfl ?_
  refine Wrr_geto hU dX8_done_92 fX8_202 rfl rfl hO ?_
  refine ww_aload_n dX8_done_95 rfl rfl ?_
  refine Wxx_geto H.1 dX8_done_96 fX8_26 rfl rfl H.2.2.2.2.2.2.2.2.2.1 ?_
  refine Wtt_getr H.2.2.2.2.1 dX8_done_99 fX8_151 rfl ?_
  refine ww_iload_n dX8_done_102 rfl rfl ?_
  refine Wtt_iald H.2.2.2.2.1 dX8_done_103 rfl hy (by omega) rfl ?_
  refine Wbb_call1 hB dX8_done_104 kX8_205 rfl rfl (bb_l0 hB (c0_placeBehind hcd hcd2 hd hd2)) rfl rfl rfl rfl rfl rfl (Nat.zero_le _) (Nat.zero_le _) ?_
  refine Wwa_call0 H.2.2.2.2.2.1 dX8_done_107 kX8_117 rfl rfl (c7_go H.2.2.2.2.2.1 hB hlb hlb2 (show R b 11 d + 1 = nI (q + 1) by rw [hq, nI_1]) (by omega) hg) rfl rfl rfl rfl rfl rfl (Nat.zero_le _) (Nat.zero_le _) ?_
  refine ww_aload_n dX8_done_110 rfl rfl ?_
  refine Wxx_geto H.1 dX8_done_111 fX8_26 rfl rfl H.2.2.2.2.2.2.2.2.2.1 ?_
  refine ww_aload_n dX8_done_114 rfl rfl ?_
  refine Wxx_geto H.1 dX8_done_115 fX8_33 rfl rfl H.2.2.2.2.2.2.2.2.2.2.1 ?_
  refine Wwa_geti H.2.2.2.2.2.1 dX8_done_118 fX8_121 rfl rfl ?_
  refine Wtt_call1 H.2.2.2.2.1 dX8_done_121 kX8_124 rfl rfl (tt_l0 H.2.2.2.2.1 (c6_hasRoomFor (k := n) hc hc2 hn hn2)) rfl rfl rfl rfl rfl rfl (Nat.zero_le _) (Nat.zero_le _) ?_
  refine ww_if_ne (tgt := 129) dX8_done_124 (by decide) (fun c124 => ?_) (fun c124 => ?_)
  · refine ww_aload_n dX8_done_129 rfl rfl ?_
    refine ww_aload dX8_done_130 rfl ?_
    refine ww_iload_n dX8_done_132 rfl rfl ?_
    refine Wxx_call0 H.1 dX8_done_133 kX8_208 rfl rfl (c8_finishTask (F := (va_up F 6 Fw)) (R := (va_up R 6 Rw)) H hU hl hl2 hc hc2 hy hj hp hpl hd (by omega) n4 n5) rfl rfl rfl rfl rfl rfl (Nat.zero_le _) (Nat.zero_le _) ?_
    refine ww_aload_n dX8_done_136 rfl rfl ?_
    refine ww_aload dX8_done_137 rfl ?_
    refine Wxx_call0 H.1 dX8_done_139 kX8_130 rfl rfl (c8_keepWalk (F := (fnF (va_up F 6 Fw) u)) (R := (fnR (va_up F 6 Fw) (va_up R 6 Rw) u j p d)) (cm := cm) (du := du) (n := n) (a := a) (c := c) H hU hO hB k1 hcd2 k2 hn2 k3 ha2 (by omega) k4 k5 k6 k7) rfl rfl rfl rfl rfl rfl (Nat.zero_le _) (Nat.zero_le _) ?_
    refine ww_aload_n dX8_done_142 rfl rfl ?_
    refine Wxx_geto H.1 dX8_done_143 fX8_33 rfl rfl H.2.2.2.2.2.2.2.2.2.2.1 ?_
    refine Wwa_geti H.2.2.2.2.2.1 dX8_done_146 fX8_121 rfl rfl ?_
    exact ww_iret dX8_done_149 rfl ⟨congrArg (fun w => some (Value.int w)) (show kwF (fnF (va_up F 6 Fw) u) u c n 6 3 = nI n by rw [kwF, w_up_ne _ _ n6.symm, w_up_ne _ _ (by decide), tuF, w_up_ne _ _ n6.symm]; exact k2), rfl⟩ (Nat.zero_le _) (Nat.zero_le _)
  · exact absurd c124 (by rw [decide_eq_true (by omega)]; decide)
end X8G
