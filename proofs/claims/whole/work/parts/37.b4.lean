section B4
variable {G : wG} {m : Nat} {F : Nat → Int32} {O : Nat → Option Nat} {R : Nat → Nat → Int32} {h0 : Nat → Option wE} {sz : Nat}
set_option maxHeartbeats 4000000 in
theorem c7_forgetWhatCame  : Sat G mX7_forgetWhatCame [.ref m] (wah m F O R h0, sz) (Det none (wah m (upd (upd (upd F 3 0) 6 0) 4 0) O R h0, sz)) := by
  refine Sat.of (by decide) [some (.ref m)] rfl rfl (fun X => ?_)
  refine ww_aload_n dX7_forgetWhatCame_0 rfl rfl ?_
  refine ww_iconst (v := 0) dX7_forgetWhatCame_1 (by decide) ?_
  refine wa_puti dX7_forgetWhatCame_2 fX7_21 rfl rfl ?_
  refine ww_aload_n dX7_forgetWhatCame_5 rfl rfl ?_
  refine ww_iconst (v := 0) dX7_forgetWhatCame_6 (by decide) ?_
  refine wa_puti dX7_forgetWhatCame_7 fX7_32 rfl rfl ?_
  refine ww_aload_n dX7_forgetWhatCame_10 rfl rfl ?_
  refine ww_iconst (v := 0) dX7_forgetWhatCame_11 (by decide) ?_
  refine wa_putz dX7_forgetWhatCame_12 fX7_25 rfl rfl (Or.inl rfl) ?_
  exact ww_vret dX7_forgetWhatCame_15 rfl ⟨rfl, rfl⟩ (Nat.zero_le _) (Nat.zero_le _)
set_option maxHeartbeats 4000000 in
theorem c7_put {x y : Int32} {j : Nat} (hx : x = nI j) (hj : j < 4) : Sat G mX7_put [.ref m, .int x, .int y] (wah m F O R h0, sz) (Det none (wah m F O (va_up R 0 (upd (R 0) j y)) h0, sz)) := by
  refine Sat.of (by decide) [some (.ref m), some (.int x), some (.int y)] rfl rfl (fun X => ?_)
  refine ww_iload_n dX7_put_0 rfl rfl ?_
  refine ww_if_lt (tgt := 16) dX7_put_1 (by decide) (fun c1 => ?_) (fun c1 => ?_)
  · exact absurd c1 (by rw [hx]; exact nI_pos (by omega))
  · refine ww_iload_n dX7_put_4 rfl rfl ?_
    refine ww_iconst (v := 4) dX7_put_5 (by decide) ?_
    refine ww_icmp_ge (tgt := 16) dX7_put_6 (by decide) (fun c6 => ?_) (fun c6 => ?_)
    · exact absurd c6 (by rw [hx]; exact Int32.not_le.mpr (nI_lt (b := 4) hj (by decide)))
    · refine ww_aload_n dX7_put_9 rfl rfl ?_
      refine wa_getr dX7_put_10 fX7_9 rfl ?_
      refine ww_iload_n dX7_put_13 rfl rfl ?_
      refine ww_iload_n dX7_put_14 rfl rfl ?_
      refine wa_iast dX7_put_15 rfl hx (by omega) rfl ?_
      exact ww_vret dX7_put_16 rfl ⟨rfl, rfl⟩ (Nat.zero_le _) (Nat.zero_le _)
set_option maxHeartbeats 4000000 in
theorem c7_put0 {x y : Int32} (hno : wIn x 4 = false) : Sat G mX7_put [.ref m, .int x, .int y] (wah m F O R h0, sz) (Det none (wah m F O R h0, sz)) := by
  refine Sat.of (by decide) [some (.ref m), some (.int x), some (.int y)] rfl rfl (fun X => ?_)
  refine ww_iload_n dX7_put_0 rfl rfl ?_
  refine ww_if_lt (tgt := 16) dX7_put_1 (by decide) (fun c1 => ?_) (fun c1 => ?_)
  · exact ww_vret dX7_put_16 rfl ⟨rfl, rfl⟩ (Nat.zero_le _) (Nat.zero_le _)
  · refine ww_iload_n dX7_put_4 rfl rfl ?_
    refine ww_iconst (v := 4) dX7_put_5 (by decide) ?_
    refine ww_icmp_ge (tgt := 16) dX7_put_6 (by decide) (fun c6 => ?_) (fun c6 => ?_)
    · exact ww_vret dX7_put_16 rfl ⟨rfl, rfl⟩ (Nat.zero_le _) (Nat.zero_le _)
    · exact absurd (wIn_t (n := 4) rfl (by decide) c1 c6) (wb_nt hno)
set_option maxHeartbeats 4000000 in
theorem c7_next0 (hs : F 6 = nI 0) : Sat G mX7_nextSecondWay [.ref m] (wah m F O R h0, sz) (Det (some (.int (-1))) (wah m F O R h0, sz)) := by
  refine Sat.of (by decide) [some (.ref m)] rfl rfl (fun X => ?_)
  refine ww_aload_n dX7_nextSecondWay_0 rfl rfl ?_
  refine wa_geti dX7_nextSecondWay_1 fX7_32 rfl rfl ?_
  refine ww_if_le (tgt := 16) dX7_nextSecondWay_4 (by decide) (fun c4 => ?_) (fun c4 => ?_)
  · refine ww_iconst (v := -1) dX7_nextSecondWay_16 (by decide) ?_
    exact ww_iret dX7_nextSecondWay_17 rfl ⟨rfl, rfl⟩ (Nat.zero_le _) (Nat.zero_le _)
  · exact absurd c4 (fun q => q (by rw [hs]; decide))
set_option maxHeartbeats 4000000 in
theorem c7_next1 {s : Nat} (hs : F 6 = nI (s + 1)) (hs2 : s + 1 ≤ 40) : Sat G mX7_nextSecondWay [.ref m] (wah m F O R h0, sz) (Det (some (.int (R 5 s))) (wah m (upd F 6 (nI s)) O R h0, sz)) := by
  refine Sat.of (by decide) [some (.ref m)] rfl rfl (fun X => ?_)
  refine ww_aload_n dX7_nextSecondWay_0 rfl rfl ?_
  refine wa_geti dX7_nextSecondWay_1 fX7_32 rfl rfl ?_
  refine ww_if_le (tgt := 16) dX7_nextSecondWay_4 (by decide) (fun c4 => ?_) (fun c4 => ?_)
  · exact absurd c4 (by rw [hs]; exact Int32.not_le.mpr (nI_lt (a := 0) (by omega) (by omega)))
  · refine ww_aload_n dX7_nextSecondWay_7 rfl rfl ?_
    refine wa_geti dX7_nextSecondWay_8 fX7_32 rfl rfl ?_
    refine ww_bipush (v := 40) dX7_nextSecondWay_11 (by decide) ?_
    refine ww_icmp_le (tgt := 18) dX7_nextSecondWay_13 (by decide) (fun c13 => ?_) (fun c13 => ?_)
    · refine ww_aload_n dX7_nextSecondWay_18 rfl rfl ?_
      refine ww_dup dX7_nextSecondWay_19 rfl ?_
      refine wa_geti dX7_nextSecondWay_20 fX7_32 rfl rfl ?_
      refine ww_iconst (v := 1) dX7_nextSecondWay_23 (by decide) ?_
      refine ww_isub dX7_nextSecondWay_24 ?_
      refine wa_puti dX7_nextSecondWay_25 fX7_32 rfl rfl ?_
      refine ww_aload_n dX7_nextSecondWay_28 rfl rfl ?_
      refine wa_getr dX7_nextSecondWay_29 fX7_29 rfl ?_
      refine ww_aload_n dX7_nextSecondWay_32 rfl rfl ?_
      refine wa_geti dX7_nextSecondWay_33 fX7_32 rfl rfl ?_
      refine wa_iald dX7_nextSecondWay_36 rfl (show _ = nI s by rw [hs]; exact nI_p1 s) (by omega) rfl ?_
      exact ww_iret dX7_nextSecondWay_37 rfl ⟨rfl, by rw [hs, nI_p1]⟩ (Nat.zero_le _) (Nat.zero_le _)
    · exact absurd c13 (fun q => q (by rw [hs]; exact nI_le (b := 40) hs2 (by decide)))
set_option maxHeartbeats 4000000 in
theorem c7_comeTo {x : Int32} {c : Nat} (hc : F 3 = nI c) (hc2 : c < 40) : Sat G mX7_comeTo [.ref m, .int x] (wah m F O R h0, sz) (Det none (wah m (upd F 3 (nI (c + 1))) O (va_up R 2 (upd (R 2) c x)) h0, sz)) := by
  refine Sat.of (by decide) [some (.ref m), some (.int x)] rfl rfl (fun X => ?_)
  refine ww_aload_n dX7_comeTo_0 rfl rfl ?_
  refine wa_geti dX7_comeTo_1 fX7_21 rfl rfl ?_
  refine ww_if_lt (tgt := 36) dX7_comeTo_4 (by decide) (fun c4 => ?_) (fun c4 => ?_)
  · exact absurd c4 (by rw [hc]; exact nI_pos (by omega))
  · refine ww_aload_n dX7_comeTo_7 rfl rfl ?_
    refine wa_geti dX7_comeTo_8 fX7_21 rfl rfl ?_
    refine ww_bipush (v := 40) dX7_comeTo_11 (by decide) ?_
    refine ww_icmp_ge (tgt := 36) dX7_comeTo_13 (by decide) (fun c13 => ?_) (fun c13 => ?_)
    · exact absurd c13 (by rw [hc]; exact Int32.not_le.mpr (nI_lt (b := 40) hc2 (by decide)))
    · refine ww_aload_n dX7_comeTo_16 rfl rfl ?_
      refine wa_getr dX7_comeTo_17 fX7_18 rfl ?_
      refine ww_aload_n dX7_comeTo_20 rfl rfl ?_
      refine wa_geti dX7_comeTo_21 fX7_21 rfl rfl ?_
      refine ww_iload_n dX7_comeTo_24 rfl rfl ?_
      refine wa_iast dX7_comeTo_25 rfl hc (by omega) rfl ?_
      refine ww_aload_n dX7_comeTo_26 rfl rfl ?_
      refine ww_dup dX7_comeTo_27 rfl ?_
      refine wa_geti dX7_comeTo_28 fX7_21 rfl rfl ?_
      refine ww_iconst (v := 1) dX7_comeTo_31 (by decide) ?_
      refine ww_iadd dX7_comeTo_32 ?_
      refine wa_puti dX7_comeTo_33 fX7_21 rfl rfl ?_
      exact ww_vret dX7_comeTo_36 rfl ⟨rfl, by rw [hc, nI_1]⟩ (Nat.zero_le _) (Nat.zero_le _)
set_option maxHeartbeats 4000000 in
theorem c7_isBelow {x y : Int32} {j : Nat} (hx : x = nI j) (hj : j < 4) : Sat G mX7_isBelow [.ref m, .int x, .int y] (wah m F O R h0, sz) (Det (some (.int (wb (decide (R 0 j < y))))) (wah m F O R h0, sz)) := by
  refine Sat.of (by decide) [some (.ref m), some (.int x), some (.int y)] rfl rfl (fun X => ?_)
  refine ww_iload_n dX7_isBelow_0 rfl rfl ?_
  refine ww_if_lt (tgt := 23) dX7_isBelow_1 (by decide) (fun c1 => ?_) (fun c1 => ?_)
  · exact absurd c1 (by rw [hx]; exact nI_pos (by omega))
  · refine ww_iload_n dX7_isBelow_4 rfl rfl ?_
    refine ww_iconst (v := 4) dX7_isBelow_5 (by decide) ?_
    refine ww_icmp_ge (tgt := 23) dX7_isBelow_6 (by decide) (fun c6 => ?_) (fun c6 => ?_)
    · exact absurd c6 (by rw [hx]; exact Int32.not_le.mpr (nI_lt (b := 4) hj (by decide)))
    · refine ww_aload_n dX7_isBelow_9 rfl rfl ?_
      refine wa_getr dX7_isBelow_10 fX7_9 rfl ?_
      refine ww_iload_n dX7_isBelow_13 rfl rfl ?_
      refine wa_iald dX7_isBelow_14 rfl hx (by omega) rfl ?_
      refine ww_iload_n dX7_isBelow_15 rfl rfl ?_
      refine ww_icmp_ge (tgt := 23) dX7_isBelow_16 (by decide) (fun c16 => ?_) (fun c16 => ?_)
      · refine ww_iconst (v := 0) dX7_isBelow_23 (by decide) ?_
        exact ww_zret dX7_isBelow_24 rfl (Or.inl rfl) ⟨by rw [decide_eq_false (Int32.not_lt.mpr c16)]; rfl, rfl⟩ (Nat.zero_le _) (Nat.zero_le _)
      · refine ww_iconst (v := 1) dX7_isBelow_19 (by decide) ?_
        refine ww_goto (tgt := 24) dX7_isBelow_20 (by decide) ?_
        exact ww_zret dX7_isBelow_24 rfl (Or.inr rfl) ⟨by rw [decide_eq_true (Int32.not_le.mp c16)]; rfl, rfl⟩ (Nat.zero_le _) (Nat.zero_le _)
set_option maxHeartbeats 4000000 in
theorem c7_fork {x y : Int32} {j s : Nat} (hx : x = nI j) (hj : j < 40) (hs : F 6 = nI s) (hs2 : s < 40) : Sat G mX7_fork [.ref m, .int x, .int y] (wah m F O R h0, sz) (Det none (wah m (upd F 6 (nI (s + 1))) O (va_up (va_up R 1 (upd (R 1) j 2)) 5 (upd (R 5) s y)) h0, sz)) := by
  refine Sat.of (by decide) [some (.ref m), some (.int x), some (.int y)] rfl rfl (fun X => ?_)
  refine ww_iload_n dX7_fork_0 rfl rfl ?_
  refine ww_if_lt (tgt := 17) dX7_fork_1 (by decide) (fun c1 => ?_) (fun c1 => ?_)
  · exact absurd c1 (by rw [hx]; exact nI_pos (by omega))
  · refine ww_iload_n dX7_fork_4 rfl rfl ?_
    refine ww_bipush (v := 40) dX7_fork_5 (by decide) ?_
    refine ww_icmp_ge (tgt := 17) dX7_fork_7 (by decide) (fun c7 => ?_) (fun c7 => ?_)
    · exact absurd c7 (by rw [hx]; exact Int32.not_le.mpr (nI_lt (b := 40) hj (by decide)))
    · refine ww_aload_n dX7_fork_10 rfl rfl ?_
      refine wa_getr dX7_fork_11 fX7_15 rfl ?_
      refine ww_iload_n dX7_fork_14 rfl rfl ?_
      refine ww_iconst (v := 2) dX7_fork_15 (by decide) ?_
      refine wa_iast dX7_fork_16 rfl hx (by omega) rfl ?_
      refine ww_aload_n dX7_fork_17 rfl rfl ?_
      refine wa_geti dX7_fork_18 fX7_32 rfl rfl ?_
      refine ww_if_lt (tgt := 53) dX7_fork_21 (by decide) (fun c21 => ?_) (fun c21 => ?_)
      · exact absurd c21 (by rw [hs]; exact nI_pos (by omega))
      · refine ww_aload_n dX7_fork_24 rfl rfl ?_
        refine wa_geti dX7_fork_25 fX7_32 rfl rfl ?_
        refine ww_bipush (v := 40) dX7_fork_28 (by decide) ?_
        refine ww_icmp_ge (tgt := 53) dX7_fork_30 (by decide) (fun c30 => ?_) (fun c30 => ?_)
        · exact absurd c30 (by rw [hs]; exact Int32.not_le.mpr (nI_lt (b := 40) hs2 (by decide)))
        · refine ww_aload_n dX7_fork_33 rfl rfl ?_
          refine wa_getr dX7_fork_34 fX7_29 rfl ?_
          refine ww_aload_n dX7_fork_37 rfl rfl ?_
          refine wa_geti dX7_fork_38 fX7_32 rfl rfl ?_
          refine ww_iload_n dX7_fork_41 rfl rfl ?_
          refine wa_iast dX7_fork_42 rfl hs (by omega) rfl ?_
          refine ww_aload_n dX7_fork_43 rfl rfl ?_
          refine ww_dup dX7_fork_44 rfl ?_
          refine wa_geti dX7_fork_45 fX7_32 rfl rfl ?_
          refine ww_iconst (v := 1) dX7_fork_48 (by decide) ?_
          refine ww_iadd dX7_fork_49 ?_
          refine wa_puti dX7_fork_50 fX7_32 rfl rfl ?_
          exact ww_vret dX7_fork_53 rfl ⟨rfl, by rw [hs, nI_1]; rfl⟩ (Nat.zero_le _) (Nat.zero_le _)
set_option maxHeartbeats 4000000 in
theorem c7_endsLastWay {x : Int32} {j : Nat} (hx : x = nI j) (hj : j < 40) : Sat G mX7_endsLastWay [.ref m, .int x] (wah m F O R h0, sz) (Det (some (.int (wb (decide (R 1 j - 1 = 0))))) (wah m F O (va_up R 1 (upd (R 1) j (R 1 j - 1))) h0, sz)) := by
  refine Sat.of (by decide) [some (.ref m), some (.int x)] rfl rfl (fun X => ?_)
  refine ww_iload_n dX7_endsLastWay_0 rfl rfl ?_
  refine ww_if_lt (tgt := 10) dX7_endsLastWay_1 (by decide) (fun c1 => ?_) (fun c1 => ?_)
  · exact absurd c1 (by rw [hx]; exact nI_pos (by omega))
  · refine ww_iload_n dX7_endsLastWay_4 rfl rfl ?_
    refine ww_bipush (v := 40) dX7_endsLastWay_5 (by decide) ?_
    refine ww_icmp_lt (tgt := 12) dX7_endsLastWay_7 (by decide) (fun c7 => ?_) (fun c7 => ?_)
    · refine ww_aload_n dX7_endsLastWay_12 rfl rfl ?_
      refine wa_getr dX7_endsLastWay_13 fX7_15 rfl ?_
      refine ww_iload_n dX7_endsLastWay_16 rfl rfl ?_
      refine ww_dup2 dX7_endsLastWay_17 rfl rfl ?_
      refine wa_iald dX7_endsLastWay_18 rfl hx (by omega) rfl ?_
      refine ww_iconst (v := 1) dX7_endsLastWay_19 (by decide) ?_
      refine ww_isub dX7_endsLastWay_20 ?_
      refine wa_iast dX7_endsLastWay_21 rfl hx (by omega) rfl ?_
      refine ww_aload_n dX7_endsLastWay_22 rfl rfl ?_
      refine wa_getr dX7_endsLastWay_23 fX7_15 rfl ?_
      refine ww_iload_n dX7_endsLastWay_26 rfl rfl ?_
      refine wa_iald dX7_endsLastWay_27 rfl hx (by omega) rfl ?_
      refine ww_if_ne (tgt := 35) dX7_endsLastWay_28 (by decide) (fun c28 => ?_) (fun c28 => ?_)
      · refine ww_iconst (v := 0) dX7_endsLastWay_35 (by decide) ?_
        exact ww_zret dX7_endsLastWay_36 rfl (Or.inl rfl) ⟨by rw [w_up_self, w_upd_self] at c28; rw [decide_eq_false c28]; rfl, rfl⟩ (Nat.zero_le _) (Nat.zero_le _)
      · refine ww_iconst (v := 1) dX7_endsLastWay_31 (by decide) ?_
        refine ww_goto (tgt := 36) dX7_endsLastWay_32 (by decide) ?_
        exact ww_zret dX7_endsLastWay_36 rfl (Or.inr rfl) ⟨by rw [w_up_self, w_upd_self] at c28; rw [decide_eq_true c28]; rfl, rfl⟩ (Nat.zero_le _) (Nat.zero_le _)
    · exact absurd c7 (fun q => q (by rw [hx]; exact nI_lt (b := 40) hj (by decide)))
def zrN (t : Nat) (g : Nat → Int32) : Nat → Int32 := fun j => if j < t then 0 else g j
theorem zrN_0 (g : Nat → Int32) : zrN 0 g = g := by funext j; simp [zrN]
theorem zrN_s (t : Nat) (g : Nat → Int32) : upd (zrN t g) t 0 = zrN (t + 1) g := by
  funext j
  by_cases h : j = t
  · subst h; simp [zrN, upd]
  · simp only [zrN, upd, if_neg h, show (j < t + 1) = (j < t) from propext ⟨fun q => by omega, fun q => by omega⟩]
set_option maxHeartbeats 4000000 in
theorem L7_anew2 {X : wX} : ∀ (n t : Nat) (x1 : Int32), 40 - t < n → t ≤ 40 → x1 = nI t → WW G mX7_startAnew cX7_startAnew X (wZ G mX7_startAnew X (Det none (wah m (upd (upd (upd F 3 0) 6 0) 4 0) O (va_up (va_up R 0 (zrN 4 (R 0))) 1 (zrN 40 (R 1))) h0, sz))) 22 [some (.ref m), some (.int x1)] [] (wah m F O (va_up (va_up R 0 (zrN 4 (R 0))) 1 (zrN t (R 1))) h0, sz) 0 0 := by
  intro n
  induction n with
  | zero => intro t x1 hn; exact absurd hn (by omega)
  | succ n ih =>
    intro t x1 hn ht i1
    refine ww_iload_n dX7_startAnew_22 rfl rfl ?_
    refine ww_bipush (v := 40) dX7_startAnew_23 (by decide) ?_
    refine ww_icmp_ge (tgt := 41) dX7_startAnew_25 (by decide) (fun c25 => ?_) (fun c25 => ?_)
    · have e1 := (w_le (show (40 : Int32) = nI 40 from rfl) i1 (by decide) (by omega)).mp c25
      have e2 : t = 40 := by omega
      subst e2
      refine ww_aload_n dX7_startAnew_41 rfl rfl ?_
      refine wa_call0 dX7_startAnew_42 kX7_35 rfl rfl c7_forgetWhatCame rfl rfl rfl rfl rfl rfl (Nat.zero_le _) (Nat.zero_le _) ?_
      exact ww_vret dX7_startAnew_45 rfl ⟨rfl, rfl⟩ (Nat.zero_le _) (Nat.zero_le _)
    · have e1 : t < 40 := by rcases Nat.lt_or_ge t 40 with q | q; exact q; exact absurd ((w_le (show (40 : Int32) = nI 40 from rfl) i1 (by decide) (by omega)).mpr q) c25
      refine ww_aload_n dX7_startAnew_28 rfl rfl ?_
      refine wa_getr dX7_startAnew_29 fX7_15 rfl ?_
      refine ww_iload_n dX7_startAnew_32 rfl rfl ?_
      refine ww_iconst (v := 0) dX7_startAnew_33 (by decide) ?_
      refine wa_iast dX7_startAnew_34 rfl i1 (by omega) rfl ?_
      refine ww_iinc dX7_startAnew_35 rfl rfl rfl rfl ?_
      refine ww_goto (tgt := 22) dX7_startAnew_38 (by decide) ?_
      rw [w_up_up, w_up_self, zrN_s]
      exact ih (t + 1) _ (by omega) (by omega) (w_inc i1)
set_option maxHeartbeats 4000000 in
theorem L7_anew1 {X : wX} : ∀ (n t : Nat) (x1 : Int32), 4 - t < n → t ≤ 4 → x1 = nI t → WW G mX7_startAnew cX7_startAnew X (wZ G mX7_startAnew X (Det none (wah m (upd (upd (upd F 3 0) 6 0) 4 0) O (va_up (va_up R 0 (zrN 4 (R 0))) 1 (zrN 40 (R 1))) h0, sz))) 2 [some (.ref m), some (.int x1)] [] (wah m F O (va_up R 0 (zrN t (R 0))) h0, sz) 0 0 := by
  intro n
  induction n with
  | zero => intro t x1 hn; exact absurd hn (by omega)
  | succ n ih =>
    intro t x1 hn ht i1
    refine ww_iload_n dX7_startAnew_2 rfl rfl ?_
    refine ww_iconst (v := 4) dX7_startAnew_3 (by decide) ?_
    refine ww_icmp_ge (tgt := 20) dX7_startAnew_4 (by decide) (fun c4 => ?_) (fun c4 => ?_)
    · have e1 := (w_le (show (4 : Int32) = nI 4 from rfl) i1 (by decide) (by omega)).mp c4
      have e2 : t = 4 := by omega
      subst e2
      refine ww_iconst (v := 0) dX7_startAnew_20 (by decide) ?_
      refine ww_istore_n dX7_startAnew_21 rfl rfl rfl ?_
      have e9 := L7_anew2 (G := G) (m := m) (F := F) (O := O) (R := R) (h0 := h0) (sz := sz) (X := X) 41 0 0 (by omega) (by omega) rfl
      rw [zrN_0, show va_up (va_up R 0 (zrN 4 (R 0))) 1 (R 1) = va_up R 0 (zrN 4 (R 0)) from w_up_id (va_up R 0 (zrN 4 (R 0))) 1] at e9
      exact e9
    · have e1 : t < 4 := by rcases Nat.lt_or_ge t 4 with q | q; exact q; exact absurd ((w_le (show (4 : Int32) = nI 4 from rfl) i1 (by decide) (by omega)).mpr q) c4
      refine ww_aload_n dX7_startAnew_7 rfl rfl ?_
      refine wa_getr dX7_startAnew_8 fX7_9 rfl ?_
      refine ww_iload_n dX7_startAnew_11 rfl rfl ?_
      refine ww_iconst (v := 0) dX7_startAnew_12 (by decide) ?_
      refine wa_iast dX7_startAnew_13 rfl i1 (by omega) rfl ?_
      refine ww_iinc dX7_startAnew_14 rfl rfl rfl rfl ?_
      refine ww_goto (tgt := 2) dX7_startAnew_17 (by decide) ?_
      rw [w_up_up, w_up_self, zrN_s]
      exact ih (t + 1) _ (by omega) (by omega) (w_inc i1)
set_option maxHeartbeats 4000000 in
theorem c7_startAnew  : Sat G mX7_startAnew [.ref m] (wah m F O R h0, sz) (Det none (wah m (upd (upd (upd F 3 0) 6 0) 4 0) O (va_up (va_up R 0 (zrN 4 (R 0))) 1 (zrN 40 (R 1))) h0, sz)) := by
  refine Sat.of (by decide) [some (.ref m), none] rfl rfl (fun X => ?_)
  refine ww_iconst (v := 0) dX7_startAnew_0 (by decide) ?_
  refine ww_istore_n dX7_startAnew_1 rfl rfl rfl ?_
  have e9 := L7_anew1 (G := G) (m := m) (F := F) (O := O) (R := R) (h0 := h0) (sz := sz) (X := X) 5 0 0 (by omega) (by omega) rfl
  rw [zrN_0, w_up_id] at e9
  exact e9
end B4
theorem Lk_ne {Λ : wL} {i j κ κ2 m m2 : Nat} (h1 : Lk Λ i κ m) (h2 : Lk Λ j κ2 m2) (hk : κ ≠ κ2) : i ≠ j := by
  intro h
  subst h
  have := h1.1.symm.trans h2.1
  cases this
  exact hk rfl
theorem w_up_ne {α : Type} (f : Nat → α) {k j : Nat} (a : α) (h : j ≠ k) : va_up f k a j = f j := by simp [va_up, h]
abbrev cT : Type := (Nat → Int32) × (Nat → Nat → Int32)
def flM (B : Nat → Nat → Int32) (l k : Nat) (F : Nat → Int32) (R : Nat → Nat → Int32) : Option (Option Nat × cT) :=
  if l ≤ k then none else
  if B 4 k = nI 0 then (gI (B 5 k) 40).bind fun w => (gI (F 3) 40).bind fun c => some (none, upd F 3 (nI (c + 1)), va_up R 2 (upd (R 2) c (nI w))) else
  if B 4 k = nI 1 then (gI (B 5 k) 4).bind fun f => some (some (k + 1), F, va_up R 0 (upd (R 0) f (B 6 k))) else
  if B 4 k = nI 2 then (gI (B 5 k) 4).bind fun f => if R 0 f < B 6 k then some (some (k + 1), F, R) else (gI (B 7 k) 121).bind fun j => some (some j, F, R) else
  if B 4 k = nI 3 then (gI (B 7 k) 121).bind fun j => some (some j, F, R) else
  if B 4 k = nI 4 then (gI (B 5 k) 40).bind fun f => (gI (F 6) 40).bind fun s => some (some (k + 1), upd F 6 (nI (s + 1)), va_up (va_up R 1 (upd (R 1) f 2)) 5 (upd (R 5) s (B 7 k))) else
  if B 4 k = nI 5 then (gI (B 5 k) 40).bind fun f => if R 1 f - 1 = 0 then (gI (B 7 k) 121).bind fun j => some (some j, F, va_up R 1 (upd (R 1) f (R 1 f - 1))) else some (none, F, va_up R 1 (upd (R 1) f (R 1 f - 1))) else
  some (none, upd F 4 1, R)
def cM (B : Nat → Nat → Int32) (l : Nat) : Nat → Option Nat → (Nat → Int32) → (Nat → Nat → Int32) → Option cT
  | 0, none, F, R => some (F, R)
  | 0, some _, _, _ => none
  | _ + 1, none, F, R => some (F, R)
  | n + 1, some k, F, R => (flM B l k F R).bind fun q => match q.1 with
    | some j => cM B l n (some j) q.2.1 q.2.2
    | none => (gI (q.2.1 6) 41).bind fun s => match s with
      | 0 => cM B l n none q.2.1 q.2.2
      | s + 1 => (gI (q.2.2 5 s) 121).bind fun j => cM B l n (some j) (upd q.2.1 6 (nI s)) q.2.2
section B4W
variable {G : wG} {Λ : wL} {F : Nat → Nat → Int32} {O : Nat → Nat → Option Nat} {R : Nat → Nat → Nat → Int32} {h0 : Nat → Option wE} {sz i b m a : Nat}
theorem X7_dummy : True := trivial
set_option maxHeartbeats 4000000 in
theorem c7_follow {x : Int32} {k l : Nat} {p : Option Nat} {F2 : Nat → Int32} {R2 : Nat → Nat → Int32} (hW : Lk Λ i 6 m) (hB : Lk Λ b 3 a) (hl : F b 3 = nI l) (hl2 : l ≤ 121) (hx : x = nI k) (hf : flM (R b) l k (F i) (R i) = some (p, F2, R2)) : Sat G mX7_follow [.ref m, .ref a, .int x] (wld Λ F O R h0, sz) (Det (some (.int (onI p))) (wld Λ (va_up F i F2) O (va_up R i R2) h0, sz)) := by
  refine Sat.of (by decide) [some (.ref m), some (.ref a), some (.int x), none, none, none] rfl rfl (fun X => ?_)
  have hk2 : k < l := by rcases Nat.lt_or_ge k l with q | q; exact q; rw [flM, if_pos q] at hf; cases hf
  refine ww_aload_n dX7_follow_0 rfl rfl ?_
  refine ww_iload_n dX7_follow_1 rfl rfl ?_
  refine Wbb_call1 hB dX7_follow_2 kX7_56 rfl rfl (bb_l0 hB (c0_hasOrder hl hl2)) rfl rfl rfl rfl rfl rfl (Nat.zero_le _) (Nat.zero_le _) ?_
  refine ww_if_ne (tgt := 10) dX7_follow_5 (by decide) (fun c5 => ?_) (fun c5 => ?_)
  · refine ww_aload_n dX7_follow_10 rfl rfl ?_
    refine Wbb_getr hB dX7_follow_11 fX7_62 rfl ?_
    refine ww_iload_n dX7_follow_14 rfl rfl ?_
    refine Wbb_iald hB dX7_follow_15 rfl hx (by omega) rfl ?_
    refine ww_istore_n dX7_follow_16 rfl rfl rfl ?_
    refine ww_aload_n dX7_follow_17 rfl rfl ?_
    refine Wbb_getr hB dX7_follow_18 fX7_65 rfl ?_
    refine ww_iload_n dX7_follow_21 rfl rfl ?_
    refine Wbb_iald hB dX7_follow_22 rfl hx (by omega) rfl ?_
    refine ww_istore dX7_follow_23 rfl rfl ?_
    refine ww_aload_n dX7_follow_25 rfl rfl ?_
    refine Wbb_getr hB dX7_follow_26 fX7_68 rfl ?_
    refine ww_iload_n dX7_follow_29 rfl rfl ?_
    refine Wbb_iald hB dX7_follow_30 rfl hx (by omega) rfl ?_
    refine ww_istore dX7_follow_31 rfl rfl ?_
    refine ww_aload_n dX7_follow_33 rfl rfl ?_
    refine Wbb_getr hB dX7_follow_34 fX7_71 rfl ?_
    refine ww_iload_n dX7_follow_37 rfl rfl ?_
    refine Wbb_iald hB dX7_follow_38 rfl hx (by omega) rfl ?_
    refine ww_table [76, 83, 94, 113, 116, 127] 142 dX7_follow_39 (by decide) (by decide) (by decide) (fun j39 t39 ht39 c39 => ?_) (fun c39 => ?_)
    · rcases j39 with _ | _ | _ | _ | _ | _ | j
      · cases ht39
        have eo : R b 4 k = nI 0 := w_lit c39 (by decide)
        rw [flM, if_neg (by omega), if_pos eo] at hf
        obtain ⟨w, hw, hf⟩ := ob_some hf
        obtain ⟨hw2, hw⟩ := gI_eq (by decide) hw
        obtain ⟨c, hc, hf⟩ := ob_some hf
        obtain ⟨hc2, hc⟩ := gI_eq (by decide) hc
        cases hf
        refine ww_aload_n dX7_follow_76 rfl rfl ?_
        refine ww_iload_n dX7_follow_77 rfl rfl ?_
        refine Wwa_call0 hW dX7_follow_78 kX7_74 rfl rfl (wa_lB hW (c7_comeTo hc hc2)) rfl rfl rfl rfl rfl rfl (Nat.zero_le _) (Nat.zero_le _) ?_
        refine ww_iconst (v := -1) dX7_follow_81 (by decide) ?_
        exact ww_iret dX7_follow_82 rfl ⟨rfl, by rw [hw]⟩ (Nat.zero_le _) (Nat.zero_le _)
      · cases ht39
        have eo : R b 4 k = nI 1 := w_lit c39 (by decide)
        rw [flM, if_neg (by omega), if_neg (by rw [eo]; decide), if_pos eo] at hf
        obtain ⟨g, hg, hf⟩ := ob_some hf
        obtain ⟨hg2, hg⟩ := gI_eq (by decide) hg
        cases hf
        refine ww_aload_n dX7_follow_83 rfl rfl ?_
        refine ww_iload_n dX7_follow_84 rfl rfl ?_
        refine ww_iload dX7_follow_85 rfl ?_
        refine Wwa_call0 hW dX7_follow_87 kX7_78 rfl rfl (wa_lR hW (c7_put hg hg2)) rfl rfl rfl rfl rfl rfl (Nat.zero_le _) (Nat.zero_le _) ?_
        refine ww_iload_n dX7_follow_90 rfl rfl ?_
        refine ww_iconst (v := 1) dX7_follow_91 (by decide) ?_
        refine ww_iadd dX7_follow_92 ?_
        exact ww_iret dX7_follow_93 rfl ⟨by rw [hx, nI_1]; rfl, by rw [w_up_id]⟩ (Nat.zero_le _) (Nat.zero_le _)
      · cases ht39
        have eo : R b 4 k = nI 2 := w_lit c39 (by decide)
        rw [flM, if_neg (by omega), if_neg (by rw [eo]; decide), if_neg (by rw [eo]; decide), if_pos eo] at hf
        obtain ⟨g, hg, hf⟩ := ob_some hf
        obtain ⟨hg2, hg⟩ := gI_eq (by decide) hg
        refine ww_aload_n dX7_follow_94 rfl rfl ?_
        refine ww_iload_n dX7_follow_95 rfl rfl ?_
        refine ww_iload dX7_follow_96 rfl ?_
        refine Wwa_call1 hW dX7_follow_98 kX7_82 rfl rfl (wa_l0 hW (c7_isBelow hg hg2)) rfl rfl rfl rfl rfl rfl (Nat.zero_le _) (Nat.zero_le _) ?_
        refine ww_if_eq (tgt := 110) dX7_follow_101 (by decide) (fun c101 => ?_) (fun c101 => ?_)
        · rw [if_neg (of_decide_eq_false (wb_eq0.mp c101))] at hf
          obtain ⟨j, hj, hf⟩ := ob_some hf
          obtain ⟨hj2, hj⟩ := gI_eq (by decide) hj
          cases hf
          refine ww_iload dX7_follow_110 rfl ?_
          exact ww_iret dX7_follow_112 rfl ⟨by rw [hj]; rfl, by rw [w_up_id, w_up_id]⟩ (Nat.zero_le _) (Nat.zero_le _)
        · rw [if_pos (of_decide_eq_true (wb_ne0.mp c101))] at hf
          cases hf
          refine ww_iload_n dX7_follow_104 rfl rfl ?_
          refine ww_iconst (v := 1) dX7_follow_105 (by decide) ?_
          refine ww_iadd dX7_follow_106 ?_
          refine ww_goto (tgt := 112) dX7_follow_107 (by decide) ?_
          exact ww_iret dX7_follow_112 rfl ⟨by rw [hx, nI_1]; rfl, by rw [w_up_id, w_up_id]⟩ (Nat.zero_le _) (Nat.zero_le _)
      · cases ht39
        have eo : R b 4 k = nI 3 := w_lit c39 (by decide)
        rw [flM, if_neg (by omega), if_neg (by rw [eo]; decide), if_neg (by rw [eo]; decide), if_neg (by rw [eo]; decide), if_pos eo] at hf
        obtain ⟨j, hj, hf⟩ := ob_some hf
        obtain ⟨hj2, hj⟩ := gI_eq (by decide) hj
        cases hf
        refine ww_iload dX7_follow_113 rfl ?_
        exact ww_iret dX7_follow_115 rfl ⟨by rw [hj]; rfl, by rw [w_up_id, w_up_id]⟩ (Nat.zero_le _) (Nat.zero_le _)
      · cases ht39
        have eo : R b 4 k = nI 4 := w_lit c39 (by decide)
        rw [flM, if_neg (by omega), if_neg (by rw [eo]; decide), if_neg (by rw [eo]; decide), if_neg (by rw [eo]; decide), if_neg (by rw [eo]; decide), if_pos eo] at hf
        obtain ⟨g, hg, hf⟩ := ob_some hf
        obtain ⟨hg2, hg⟩ := gI_eq (by decide) hg
        obtain ⟨s, hs, hf⟩ := ob_some hf
        obtain ⟨hs2, hs⟩ := gI_eq (by decide) hs
        cases hf
        refine ww_aload_n dX7_follow_116 rfl rfl ?_
        refine ww_iload_n dX7_follow_117 rfl rfl ?_
        refine ww_iload dX7_follow_118 rfl ?_
        refine Wwa_call0 hW dX7_follow_120 kX7_86 rfl rfl (wa_lB hW (c7_fork hg hg2 hs hs2)) rfl rfl rfl rfl rfl rfl (Nat.zero_le _) (Nat.zero_le _) ?_
        refine ww_iload_n dX7_follow_123 rfl rfl ?_
        refine ww_iconst (v := 1) dX7_follow_124 (by decide) ?_
        refine ww_iadd dX7_follow_125 ?_
        exact ww_iret dX7_follow_126 rfl ⟨by rw [hx, nI_1]; rfl, rfl⟩ (Nat.zero_le _) (Nat.zero_le _)
      · cases ht39
        have eo : R b 4 k = nI 5 := w_lit c39 (by decide)
        rw [flM, if_neg (by omega), if_neg (by rw [eo]; decide), if_neg (by rw [eo]; decide), if_neg (by rw [eo]; decide), if_neg (by rw [eo]; decide), if_neg (by rw [eo]; decide), if_pos eo] at hf
        obtain ⟨g, hg, hf⟩ := ob_some hf
        obtain ⟨hg2, hg⟩ := gI_eq (by decide) hg
        refine ww_aload_n dX7_follow_127 rfl rfl ?_
        refine ww_iload_n dX7_follow_128 rfl rfl ?_
        refine Wwa_call1 hW dX7_follow_129 kX7_89 rfl rfl (wa_lR hW (c7_endsLastWay hg hg2)) rfl rfl rfl rfl rfl rfl (Nat.zero_le _) (Nat.zero_le _) ?_
        refine ww_if_eq (tgt := 140) dX7_follow_132 (by decide) (fun c132 => ?_) (fun c132 => ?_)
        · rw [if_neg (of_decide_eq_false (wb_eq0.mp c132))] at hf
          cases hf
          refine ww_iconst (v := -1) dX7_follow_140 (by decide) ?_
          exact ww_iret dX7_follow_141 rfl ⟨rfl, by rw [w_up_id]⟩ (Nat.zero_le _) (Nat.zero_le _)
        · rw [if_pos (of_decide_eq_true (wb_ne0.mp c132))] at hf
          obtain ⟨j, hj, hf⟩ := ob_some hf
          obtain ⟨hj2, hj⟩ := gI_eq (by decide) hj
          cases hf
          refine ww_iload dX7_follow_135 rfl ?_
          refine ww_goto (tgt := 141) dX7_follow_137 (by decide) ?_
          exact ww_iret dX7_follow_141 rfl ⟨by rw [hj]; rfl, by rw [w_up_id]⟩ (Nat.zero_le _) (Nat.zero_le _)
      · cases ht39
    · rw [flM, if_neg (by omega), if_neg (w_nlit c39 (by decide) (by decide)), if_neg (w_nlit c39 (by decide) (by decide)), if_neg (w_nlit c39 (by decide) (by decide)), if_neg (w_nlit c39 (by decide) (by decide)), if_neg (w_nlit c39 (by decide) (by decide)), if_neg (w_nlit c39 (by decide) (by decide))] at hf
      cases hf
      refine ww_aload_n dX7_follow_142 rfl rfl ?_
      refine ww_iconst (v := 1) dX7_follow_143 (by decide) ?_
      refine Wwa_putz hW dX7_follow_144 fX7_25 rfl rfl (Or.inr rfl) ?_
      refine ww_iconst (v := -1) dX7_follow_147 (by decide) ?_
      exact ww_iret dX7_follow_148 rfl ⟨rfl, by rw [w_up_id]⟩ (Nat.zero_le _) (Nat.zero_le _)
  · exact absurd c5 (by rw [hx, wIn_nI hk2 (by omega)]; decide)
theorem onI_ne (k : Nat) (h : k < 2 ^ 31) : ¬ onI (some k) = -1 := by
  intro q
  have h1 : (nI k).toInt = (-1 : Int32).toInt := congrArg Int32.toInt q
  rw [nI_toInt h] at h1
  have h2 : (-1 : Int32).toInt = -1 := rfl
  omega
theorem flM_lt {B : Nat → Nat → Int32} {l k j : Nat} {F F2 : Nat → Int32} {R R2 : Nat → Nat → Int32} (hl : l ≤ 121) (h : flM B l k F R = some (some j, F2, R2)) : j < 122 := by
  unfold flM at h
  split at h
  · cases h
  split at h
  · obtain ⟨w, h1, h⟩ := ob_some h
    obtain ⟨c, h2, h⟩ := ob_some h
    cases h
  split at h
  · obtain ⟨w, h1, h⟩ := ob_some h
    cases h
    omega
  split at h
  · obtain ⟨w, h1, h⟩ := ob_some h
    split at h
    · cases h
      omega
    · obtain ⟨c, h2, h⟩ := ob_some h
      cases h
      have := (gI_eq (by decide) h2).1
      omega
  split at h
  · obtain ⟨c, h2, h⟩ := ob_some h
    cases h
    have := (gI_eq (by decide) h2).1
    omega
  split at h
  · obtain ⟨w, h1, h⟩ := ob_some h
    obtain ⟨c, h2, h⟩ := ob_some h
    cases h
    omega
  split at h
  · obtain ⟨w, h1, h⟩ := ob_some h
    split at h
    · obtain ⟨c, h2, h⟩ := ob_some h
      cases h
      have := (gI_eq (by decide) h2).1
      omega
    · cases h
  · cases h
set_option maxHeartbeats 4000000 in
theorem L7_go {x : Int32} {l : Nat} {F2 : Nat → Int32} {R2 : Nat → Nat → Int32} {X : wX} (hW : Lk Λ i 6 m) (hB : Lk Λ b 3 a) (hl : F b 3 = nI l) (hl2 : l ≤ 121) : ∀ (n t : Nat) (p : Option Nat) (x3 x4 : Int32) (Fw : Nat → Int32) (Rw : Nat → Nat → Int32), t + n = 1000 → (∀ q, p = some q → q < 200) → x3 = onI p → x4 = nI t → cM (R b) l n p Fw Rw = some (F2, R2) → WW G mX7_go cX7_go X (wZ G mX7_go X (Det none (wld Λ (va_up F i F2) O (va_up R i R2) h0, sz))) 5 [some (.ref m), some (.ref a), some (.int x), some (.int x3), some (.int x4)] [] (wld Λ (va_up F i Fw) O (va_up R i Rw) h0, sz) 0 0 := by
  have hne : b ≠ i := Lk_ne hB hW (by decide)
  have ex : ∀ (t : Nat) (x3 x4 : Int32), x3 = -1 → WW G mX7_go cX7_go X (wZ G mX7_go X (Det none (wld Λ (va_up F i F2) O (va_up R i R2) h0, sz))) 5 [some (.ref m), some (.ref a), some (.int x), some (.int x3), some (.int x4)] [] (wld Λ (va_up F i F2) O (va_up R i R2) h0, sz) 0 0 := by
    intro t x3 x4 i3
    refine ww_iload dX7_go_5 rfl ?_
    refine ww_sipush (v := 1000) dX7_go_7 (by decide) ?_
    refine ww_icmp_ge (tgt := 41) dX7_go_10 (by decide) (fun c10 => ?_) (fun c10 => ?_)
    · exact ww_vret dX7_go_41 rfl ⟨rfl, rfl⟩ (Nat.zero_le _) (Nat.zero_le _)
    · refine ww_iload_n dX7_go_13 rfl rfl ?_
      refine ww_iconst (v := -1) dX7_go_14 (by decide) ?_
      refine ww_icmp_eq (tgt := 41) dX7_go_15 (by decide) (fun c15 => ?_) (fun c15 => ?_)
      · exact ww_vret dX7_go_41 rfl ⟨rfl, rfl⟩ (Nat.zero_le _) (Nat.zero_le _)
      · exact absurd c15 (fun q => q i3)
  intro n
  induction n with
  | zero =>
    intro t p x3 x4 Fw Rw hn hp i3 i4 hg
    cases p with
    | none =>
      rw [cM] at hg
      cases hg
      exact ex t x3 x4 i3
    | some k => rw [cM] at hg; cases hg
  | succ n ih =>
    intro t p x3 x4 Fw Rw hn hp i3 i4 hg
    cases p with
    | none =>
      rw [cM] at hg
      cases hg
      exact ex t x3 x4 i3
    | some k =>
      have hk200 := hp k rfl
      rw [cM] at hg
      refine ww_iload dX7_go_5 rfl ?_
      refine ww_sipush (v := 1000) dX7_go_7 (by decide) ?_
      refine ww_icmp_ge (tgt := 41) dX7_go_10 (by decide) (fun c10 => ?_) (fun c10 => ?_)
      · exact absurd c10 (by rw [i4]; exact Int32.not_le.mpr (nI_lt (b := 1000) (by omega) (by decide)))
      · refine ww_iload_n dX7_go_13 rfl rfl ?_
        refine ww_iconst (v := -1) dX7_go_14 (by decide) ?_
        refine ww_icmp_eq (tgt := 41) dX7_go_15 (by decide) (fun c15 => ?_) (fun c15 => ?_)
        · exact absurd c15 (by rw [i3]; exact onI_ne k (by omega))
        · refine ww_aload_n dX7_go_18 rfl rfl ?_
          refine ww_aload_n dX7_go_19 rfl rfl ?_
          refine ww_iload_n dX7_go_20 rfl rfl ?_
          obtain ⟨⟨p, F3, R3⟩, hf, hg⟩ := ob_some hg
          rcases p with _ | j
          · refine Wwa_call1 hW dX7_go_21 kX7_48 rfl rfl (c7_follow hW hB (by rw [w_up_ne _ _ hne]; exact hl) hl2 i3 (by rw [w_up_ne _ _ hne, w_up_self, w_up_self]; exact hf)) rfl rfl rfl rfl rfl rfl (Nat.zero_le _) (Nat.zero_le _) ?_
            rw [w_up_up, w_up_up]
            refine ww_istore_n dX7_go_24 rfl rfl rfl ?_
            refine ww_iload_n dX7_go_25 rfl rfl ?_
            refine ww_iconst (v := -1) dX7_go_26 (by decide) ?_
            refine ww_icmp_ne (tgt := 35) dX7_go_27 (by decide) (fun c27 => ?_) (fun c27 => ?_)
            · exact absurd c27 (fun q => q rfl)
            · refine ww_aload_n dX7_go_30 rfl rfl ?_
              obtain ⟨s, hs, hg⟩ := ob_some hg
              obtain ⟨hs2, hs⟩ := gI_eq (by decide) hs
              rcases s with _ | s
              · refine Wwa_call1 hW dX7_go_31 kX7_52 rfl rfl (wa_l0 hW (c7_next0 (by rw [w_up_self]; exact hs))) rfl rfl rfl rfl rfl rfl (Nat.zero_le _) (Nat.zero_le _) ?_
                refine ww_istore_n dX7_go_34 rfl rfl rfl ?_
                refine ww_iinc dX7_go_35 rfl rfl rfl rfl ?_
                refine ww_goto (tgt := 5) dX7_go_38 (by decide) ?_
                exact ih (t + 1) none _ _ _ _ (by omega) (fun q hq => by cases hq) rfl (w_inc i4) hg
              · refine Wwa_call1 hW dX7_go_31 kX7_52 rfl rfl (wa_lF hW (c7_next1 (s := s) (by rw [w_up_self]; exact hs) (by omega))) rfl rfl rfl rfl rfl rfl (Nat.zero_le _) (Nat.zero_le _) ?_
                rw [w_up_up, w_up_self, w_up_self]
                obtain ⟨j, hj, hg⟩ := ob_some hg
                obtain ⟨hj2, hj⟩ := gI_eq (by decide) hj
                refine ww_istore_n dX7_go_34 rfl rfl rfl ?_
                refine ww_iinc dX7_go_35 rfl rfl rfl rfl ?_
                refine ww_goto (tgt := 5) dX7_go_38 (by decide) ?_
                exact ih (t + 1) (some j) _ _ _ _ (by omega) (fun q hq => by cases hq; omega) hj (w_inc i4) hg
          · refine Wwa_call1 hW dX7_go_21 kX7_48 rfl rfl (c7_follow hW hB (by rw [w_up_ne _ _ hne]; exact hl) hl2 i3 (by rw [w_up_ne _ _ hne, w_up_self, w_up_self]; exact hf)) rfl rfl rfl rfl rfl rfl (Nat.zero_le _) (Nat.zero_le _) ?_
            rw [w_up_up, w_up_up]
            have hj4 : j < 122 := flM_lt hl2 hf
            refine ww_istore_n dX7_go_24 rfl rfl rfl ?_
            refine ww_iload_n dX7_go_25 rfl rfl ?_
            refine ww_iconst (v := -1) dX7_go_26 (by decide) ?_
            refine ww_icmp_ne (tgt := 35) dX7_go_27 (by decide) (fun c27 => ?_) (fun c27 => ?_)
            · refine ww_iinc dX7_go_35 rfl rfl rfl rfl ?_
              refine ww_goto (tgt := 5) dX7_go_38 (by decide) ?_
              exact ih (t + 1) (some j) _ _ _ _ (by omega) (fun q hq => by cases hq; omega) rfl (w_inc i4) hg
            · exact absurd c27 (onI_ne j (by omega))
set_option maxHeartbeats 4000000 in
theorem c7_go {x : Int32} {k l : Nat} {F2 : Nat → Int32} {R2 : Nat → Nat → Int32} (hW : Lk Λ i 6 m) (hB : Lk Λ b 3 a) (hl : F b 3 = nI l) (hl2 : l ≤ 121) (hx : x = nI k) (hk : k < 200) (hg : cM (R b) l 1000 (some k) (F i) (R i) = some (F2, R2)) : Sat G mX7_go [.ref m, .ref a, .int x] (wld Λ F O R h0, sz) (Det none (wld Λ (va_up F i F2) O (va_up R i R2) h0, sz)) := by
  refine Sat.of (by decide) [some (.ref m), some (.ref a), some (.int x), none, none] rfl rfl (fun X => ?_)
  refine ww_iload_n dX7_go_0 rfl rfl ?_
  refine ww_istore_n dX7_go_1 rfl rfl rfl ?_
  refine ww_iconst (v := 0) dX7_go_2 (by decide) ?_
  refine ww_istore dX7_go_3 rfl rfl ?_
  have e9 := L7_go (G := G) (Λ := Λ) (F := F) (O := O) (R := R) (h0 := h0) (sz := sz) (X := X) (x := x) hW hB hl hl2 1000 0 (some k) x 0 (F i) (R i) rfl (fun q hq => by cases hq; exact hk) hx rfl hg
  rw [w_up_id, w_up_id] at e9
  exact e9
end B4W
