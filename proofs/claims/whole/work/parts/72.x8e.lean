section X8E
variable {G : wG} {Λ : wL} {x mr mt mp mk mw ma : Nat} {F : Nat → Nat → Int32} {O : Nat → Nat → Option Nat} {R : Nat → Nat → Nat → Int32} {h0 : Nat → Option wE} {sz : Nat}
set_option maxHeartbeats 4000000 in
theorem c8_finishTask (H : hH Λ O x mr mt mp mk mw ma) {y : Int32} {j p d : Nat} {u mu : Nat} (hU : Lk Λ u 7 mu){l : Nat} (hl : F 4 0 = nI l) (hl2 : l ≤ 8){c : Nat} (hc : F 5 0 = nI c) (hc2 : c ≤ 200) (hy : y = nI j) (hj : j < c) (hp : R 5 7 j = nI p) (hpl : p < l) (hd : R 5 2 j = nI d) (hd2 : d < 40) (n4 : u ≠ 4) (n5 : u ≠ 5) : Sat G mX8_finishTask [.ref x, .ref mu, .int y] (wld Λ F O R h0, sz) (Det none (wld Λ (va_up F u (upd (F u) 6 (F u 6 - 1))) O (va_up (va_up (va_up R 5 (va_up (va_up (R 5) 6 (upd (R 5 6) j 2)) 8 (upd (R 5 8) j (F 0 7)))) 4 (va_up (va_up (R 4) 3 (upd (R 4 3) p (R 4 3 p - 1))) 4 (upd (R 4 4) p (R 4 4 p + 1)))) u (va_up (R u) 4 (upd (R u 4) d (R 5 7 j)))) h0, sz)) := by
  refine Sat.of (by decide) [some (.ref x), some (.ref mu), some (.int y), none] rfl rfl (fun X => ?_)
  refine ww_aload_n dX8_finishTask_0 rfl rfl ?_
  refine Wxx_geto H.1 dX8_finishTask_1 fX8_26 rfl rfl H.2.2.2.2.2.2.2.2.2.1 ?_
  refine Wtt_getr H.2.2.2.2.1 dX8_finishTask_4 fX8_166 rfl ?_
  refine ww_iload_n dX8_finishTask_7 rfl rfl ?_
  refine Wtt_iald H.2.2.2.2.1 dX8_finishTask_8 rfl hy (by omega) rfl ?_
  refine ww_istore_n dX8_finishTask_9 rfl rfl rfl ?_
  refine ww_aload_n dX8_finishTask_10 rfl rfl ?_
  refine Wxx_geto H.1 dX8_finishTask_11 fX8_26 rfl rfl H.2.2.2.2.2.2.2.2.2.1 ?_
  refine ww_iload_n dX8_finishTask_14 rfl rfl ?_
  refine ww_aload_n dX8_finishTask_15 rfl rfl ?_
  refine Wxx_geti H.1 dX8_finishTask_16 fX8_51 rfl rfl ?_
  refine Wtt_call0 H.2.2.2.2.1 dX8_finishTask_19 kX8_242 rfl rfl (tt_lR H.2.2.2.2.1 (c6_finish hc hc2 hy hj)) rfl rfl rfl rfl rfl rfl (Nat.zero_le _) (Nat.zero_le _) ?_
  refine ww_aload_n dX8_finishTask_22 rfl rfl ?_
  refine Wxx_geto H.1 dX8_finishTask_23 fX8_19 rfl rfl H.2.2.2.2.2.2.2.2.1 ?_
  refine ww_iload_n dX8_finishTask_26 rfl rfl ?_
  refine Wpp_call0 H.2.2.2.1 dX8_finishTask_27 kX8_190 rfl rfl (pp_lR H.2.2.2.1 (c2_dropClaim hl hl2 hp hpl)) rfl rfl rfl rfl rfl rfl (Nat.zero_le _) (Nat.zero_le _) ?_
  refine ww_aload_n dX8_finishTask_30 rfl rfl ?_
  refine Wxx_geto H.1 dX8_finishTask_31 fX8_19 rfl rfl H.2.2.2.2.2.2.2.2.1 ?_
  refine ww_iload_n dX8_finishTask_34 rfl rfl ?_
  refine Wpp_call0 H.2.2.2.1 dX8_finishTask_35 kX8_245 rfl rfl (pp_lR H.2.2.2.1 (c2_countFinished hl hl2 hp hpl)) rfl rfl rfl rfl rfl rfl (Nat.zero_le _) (Nat.zero_le _) ?_
  refine ww_aload_n dX8_finishTask_38 rfl rfl ?_
  refine ww_aload_n dX8_finishTask_39 rfl rfl ?_
  refine Wxx_geto H.1 dX8_finishTask_40 fX8_26 rfl rfl H.2.2.2.2.2.2.2.2.2.1 ?_
  refine Wtt_getr H.2.2.2.2.1 dX8_finishTask_43 fX8_151 rfl ?_
  refine ww_iload_n dX8_finishTask_46 rfl rfl ?_
  refine Wtt_iald H.2.2.2.2.1 dX8_finishTask_47 rfl hy (by omega) rfl ?_
  refine ww_iload_n dX8_finishTask_48 rfl rfl ?_
  refine Wrr_call0 hU dX8_finishTask_49 kX8_248 rfl rfl (rr_lR hU (c4_noteDoer hd hd2)) rfl rfl rfl rfl rfl rfl (Nat.zero_le _) (Nat.zero_le _) ?_
  refine ww_aload_n dX8_finishTask_52 rfl rfl ?_
  refine ww_dup dX8_finishTask_53 rfl ?_
  refine Wrr_geti hU dX8_finishTask_54 fX8_145 rfl rfl ?_
  refine ww_iconst (v := 1) dX8_finishTask_57 (by decide) ?_
  refine ww_isub dX8_finishTask_58 ?_
  refine Wrr_puti hU dX8_finishTask_59 fX8_145 rfl rfl ?_
  exact ww_vret dX8_finishTask_62 rfl ⟨rfl, by rw [w_up_ne _ _ n4, w_up_ne _ _ n4, w_up_ne _ _ n5, w_up_up]; rfl⟩ (Nat.zero_le _) (Nat.zero_le _)
/-- the tasks' rows behind k of the tasks that came -/
def kwR (R5 : Nat → Nat → Int32) (c : Nat) (a rn : Int32) (cm : Nat → Nat) (ro : Nat → Int32) (dh : Nat → Int32) : Nat → Nat → Nat → Int32
  | 0 => R5
  | k + 1 => adT (kwR R5 c a rn cm ro dh k) (c + k) rn (nI (cm k)) (ro (cm k)) a (dh (cm k))
set_option maxHeartbeats 4000000 in
theorem L8_keep (H : hH Λ O x mr mt mp mk mw ma) {u mu : Nat} (hU : Lk Λ u 7 mu) {b mb : Nat} (hO : O u 1 = some mb) (hB : Lk Λ b 3 mb) {cd n a c : Nat} {cm du : Nat → Nat} (hcd : F b 1 = nI cd) (hcd2 : cd ≤ 40) (hn : F 6 3 = nI n) (hn2 : n ≤ 40) (ha : F 0 7 = nI a) (ha2 : a ≤ 20000) (hc2 : c + n ≤ 200) (hcm : ∀ k, k < n → R 6 2 k = nI (cm k) ∧ cm k < cd) (hdu : ∀ d, d < cd → R b 9 d = nI (du d) ∧ 1 ≤ du d ∧ du d ≤ 99) (n5 : u ≠ 5) (nb : b ≠ 5) {X : wX} : ∀ (f k : Nat) (x2 : Int32) (x3 x4 : Option Value), n - k < f → k ≤ n → x2 = nI k → WW G mX8_keepWalk cX8_keepWalk X (wZ G mX8_keepWalk X (Det none (wld Λ (va_up (va_up F 5 (upd (F 5) 0 (nI (c + n)))) u (upd (F u) 6 (F u 6 + nI n))) O (va_up R 5 (kwR (R 5) c (F 0 7) (F u 0) cm (R b 8) (fun d => nI (wEn (wHr a + du d - 1))) n)) h0, sz))) 10 [some (.ref x), some (.ref mu), some (.int x2), x3, x4] [] (wld Λ (va_up F 5 (upd (F 5) 0 (nI (c + k)))) O (va_up R 5 (kwR (R 5) c (F 0 7) (F u 0) cm (R b 8) (fun d => nI (wEn (wHr a + du d - 1))) k)) h0, sz) 0 0 := by
  intro f
  induction f with
  | zero => intro k x2 x3 x4 hn; exact absurd hn (by omega)
  | succ f ih =>
    intro k x2 x3 x4 hf hk i2
    refine ww_iload_n dX8_keepWalk_10 rfl rfl ?_
    refine ww_aload_n dX8_keepWalk_11 rfl rfl ?_
    refine Wxx_geto H.1 dX8_keepWalk_12 fX8_33 rfl rfl H.2.2.2.2.2.2.2.2.2.2.1 ?_
    refine Wwa_geti H.2.2.2.2.2.1 dX8_keepWalk_15 fX8_121 rfl rfl ?_
    refine ww_icmp_ge (tgt := 80) dX8_keepWalk_18 (by decide) (fun c18 => ?_) (fun c18 => ?_)
    · have e1 := (w_le hn i2 (by omega) (by omega)).mp c18
      have e2 : k = n := by omega
      subst e2
      refine ww_aload_n dX8_keepWalk_80 rfl rfl ?_
      refine ww_dup dX8_keepWalk_81 rfl ?_
      refine Wrr_geti hU dX8_keepWalk_82 fX8_145 rfl rfl ?_
      refine ww_aload_n dX8_keepWalk_85 rfl rfl ?_
      refine Wxx_geto H.1 dX8_keepWalk_86 fX8_33 rfl rfl H.2.2.2.2.2.2.2.2.2.2.1 ?_
      refine Wwa_geti H.2.2.2.2.2.1 dX8_keepWalk_89 fX8_121 rfl rfl ?_
      refine ww_iadd dX8_keepWalk_92 ?_
      refine Wrr_puti hU dX8_keepWalk_93 fX8_145 rfl rfl ?_
      exact ww_vret dX8_keepWalk_96 rfl ⟨rfl, by rw [w_up_ne _ _ n5]; show (wld Λ (va_up _ u (upd (F u) 6 (F u 6 + F 6 3))) O _ h0, sz) = _; rw [hn]⟩ (Nat.zero_le _) (Nat.zero_le _)
    · have e1 : k < n := by rcases Nat.lt_or_ge k n with q | q; exact q; exact absurd ((w_le hn i2 (by omega) (by omega)).mpr q) c18
      obtain ⟨g1, g2⟩ := hcm k e1
      obtain ⟨g3, g4, g5⟩ := hdu (cm k) g2
      refine ww_aload_n dX8_keepWalk_21 rfl rfl ?_
      refine Wxx_geto H.1 dX8_keepWalk_22 fX8_33 rfl rfl H.2.2.2.2.2.2.2.2.2.2.1 ?_
      refine Wwa_getr H.2.2.2.2.2.1 dX8_keepWalk_25 fX8_255 rfl ?_
      refine ww_iload_n dX8_keepWalk_28 rfl rfl ?_
      refine Wwa_iald H.2.2.2.2.2.1 dX8_keepWalk_29 rfl i2 (by omega) rfl ?_
      refine ww_istore_n dX8_keepWalk_30 rfl rfl rfl ?_
      refine ww_aload_n dX8_keepWalk_31 rfl rfl ?_
      refine Wxx_geti H.1 dX8_keepWalk_32 fX8_51 rfl rfl ?_
      refine ww_aload_n dX8_keepWalk_35 rfl rfl ?_
      refine Wrr_geto hU dX8_keepWalk_36 fX8_202 rfl rfl hO ?_
      refine ww_iload_n dX8_keepWalk_39 rfl rfl ?_
      refine Wbb_call1 hB dX8_keepWalk_40 kX8_258 rfl rfl (bb_l0 hB (c0_hoursOf (F := (va_up F 5 (upd (F 5) 0 (nI (c + k)))) b) (R := (va_up R 5 (kwR (R 5) c (F 0 7) (F u 0) cm (R b 8) (fun d => nI (wEn (wHr a + du d - 1))) k)) b) (by rw [w_up_ne _ _ nb]; exact hcd) hcd2 g1 g2)) rfl rfl rfl rfl rfl rfl (Nat.zero_le _) (Nat.zero_le _) ?_
      refine ww_calls1 dX8_keepWalk_43 kX8_229 (c1_end ha ha2 (by rw [w_up_ne _ _ nb]; exact g3) (by omega) (by omega)) rfl rfl rfl rfl rfl rfl (Nat.zero_le _) (Nat.zero_le _) ?_
      refine ww_istore dX8_keepWalk_46 rfl rfl ?_
      refine ww_aload_n dX8_keepWalk_48 rfl rfl ?_
      refine Wxx_geto H.1 dX8_keepWalk_49 fX8_26 rfl rfl H.2.2.2.2.2.2.2.2.2.1 ?_
      refine ww_aload_n dX8_keepWalk_52 rfl rfl ?_
      refine Wrr_geti hU dX8_keepWalk_53 fX8_261 rfl rfl ?_
      refine ww_iload_n dX8_keepWalk_56 rfl rfl ?_
      refine ww_aload_n dX8_keepWalk_57 rfl rfl ?_
      refine Wrr_geto hU dX8_keepWalk_58 fX8_202 rfl rfl hO ?_
      refine ww_iload_n dX8_keepWalk_61 rfl rfl ?_
      refine Wbb_call1 hB dX8_keepWalk_62 kX8_264 rfl rfl (bb_l0 hB (c0_roleOf (F := (va_up F 5 (upd (F 5) 0 (nI (c + k)))) b) (R := (va_up R 5 (kwR (R 5) c (F 0 7) (F u 0) cm (R b 8) (fun d => nI (wEn (wHr a + du d - 1))) k)) b) (by rw [w_up_ne _ _ nb]; exact hcd) hcd2 g1 g2)) rfl rfl rfl rfl rfl rfl (Nat.zero_le _) (Nat.zero_le _) ?_
      refine ww_aload_n dX8_keepWalk_65 rfl rfl ?_
      refine Wxx_geti H.1 dX8_keepWalk_66 fX8_51 rfl rfl ?_
      refine ww_iload dX8_keepWalk_69 rfl ?_
      refine Wtt_call0 H.2.2.2.2.1 dX8_keepWalk_71 kX8_267 rfl rfl (tt_lB H.2.2.2.2.1 (c6_add (l := c + k) rfl (by omega))) rfl rfl rfl rfl rfl rfl (Nat.zero_le _) (Nat.zero_le _) ?_
      refine ww_iinc dX8_keepWalk_74 rfl rfl rfl rfl ?_
      refine ww_goto (tgt := 10) dX8_keepWalk_77 (by decide) ?_
      rw [w_up_up, w_up_up, w_up_self, w_up_self, w_upd_upd, w_up_ne _ _ n5, w_up_ne _ _ nb]
      have e9 := ih (k + 1) (x2 + Int32.ofInt 1) (some (.int (R 6 2 k))) (some (.int (nI (wEn (wHr a + du (cm k) - 1))))) (by omega) (by omega) (w_inc i2)
      rw [kwR, ← g1] at e9
      exact e9
end X8E
