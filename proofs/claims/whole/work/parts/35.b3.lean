section B3
variable {G : wG} {m : Nat} {F : Nat → Int32} {O : Nat → Option Nat} {R : Nat → Nat → Int32} {h0 : Nat → Option wE} {sz : Nat}
set_option maxHeartbeats 4000000 in
theorem c6_has {x : Int32} {l : Nat} (hl : F 0 = nI l) (hl2 : l ≤ 200) : Sat G mX6_has [.ref m, .int x] (tth m F O R h0, sz) (Det (some (.int (wb (wIn x l)))) (tth m F O R h0, sz)) := by
  refine Sat.of (by decide) [some (.ref m), some (.int x)] rfl rfl (fun X => ?_)
  refine ww_iload_n dX6_has_0 rfl rfl ?_
  refine ww_if_lt (tgt := 23) dX6_has_1 (by decide) (fun c1 => ?_) (fun c1 => ?_)
  · refine ww_iconst (v := 0) dX6_has_23 (by decide) ?_
    exact ww_zret dX6_has_24 rfl (Or.inl rfl) ⟨by rw [wIn_f1 c1]; rfl, rfl⟩ (Nat.zero_le _) (Nat.zero_le _)
  · refine ww_iload_n dX6_has_4 rfl rfl ?_
    refine ww_aload_n dX6_has_5 rfl rfl ?_
    refine tt_geti dX6_has_6 fX6_9 rfl rfl ?_
    refine ww_icmp_ge (tgt := 23) dX6_has_9 (by decide) (fun c9 => ?_) (fun c9 => ?_)
    · refine ww_iconst (v := 0) dX6_has_23 (by decide) ?_
      exact ww_zret dX6_has_24 rfl (Or.inl rfl) ⟨by rw [wIn_f2 hl (by omega) c9]; rfl, rfl⟩ (Nat.zero_le _) (Nat.zero_le _)
    · refine ww_iload_n dX6_has_12 rfl rfl ?_
      refine ww_sipush (v := 200) dX6_has_13 (by decide) ?_
      refine ww_icmp_ge (tgt := 23) dX6_has_16 (by decide) (fun c16 => ?_) (fun c16 => ?_)
      · refine ww_iconst (v := 0) dX6_has_23 (by decide) ?_
        exact ww_zret dX6_has_24 rfl (Or.inl rfl) ⟨by rw [wIn_f2 (n := l) (y := nI l) rfl (by omega) (Int32.le_trans (nI_le (b := 200) hl2 (by decide)) c16)]; rfl, rfl⟩ (Nat.zero_le _) (Nat.zero_le _)
      · refine ww_iconst (v := 1) dX6_has_19 (by decide) ?_
        refine ww_goto (tgt := 24) dX6_has_20 (by decide) ?_
        exact ww_zret dX6_has_24 rfl (Or.inr rfl) ⟨by rw [wIn_t hl (by omega) c1 c9]; rfl, rfl⟩ (Nat.zero_le _) (Nat.zero_le _)
set_option maxHeartbeats 4000000 in
theorem c6_isIn {x y : Int32} {l j : Nat} (hl : F 0 = nI l) (hl2 : l ≤ 200) (hx : x = nI j) (hj : j < l) : Sat G mX6_isIn [.ref m, .int x, .int y] (tth m F O R h0, sz) (Det (some (.int (wb (decide (R 6 j = y))))) (tth m F O R h0, sz)) := by
  refine Sat.of (by decide) [some (.ref m), some (.int x), some (.int y)] rfl rfl (fun X => ?_)
  refine ww_aload_n dX6_isIn_0 rfl rfl ?_
  refine ww_iload_n dX6_isIn_1 rfl rfl ?_
  refine tt_call1 dX6_isIn_2 kX6_43 rfl rfl (c6_has hl hl2) rfl rfl rfl rfl rfl rfl (Nat.zero_le _) (Nat.zero_le _) ?_
  refine ww_if_eq (tgt := 22) dX6_isIn_5 (by decide) (fun c5 => ?_) (fun c5 => ?_)
  · exact absurd c5 (by rw [hx, wIn_nI hj (by omega)]; decide)
  · refine ww_aload_n dX6_isIn_8 rfl rfl ?_
    refine tt_getr dX6_isIn_9 fX6_31 rfl ?_
    refine ww_iload_n dX6_isIn_12 rfl rfl ?_
    refine tt_iald dX6_isIn_13 rfl hx (by omega) rfl ?_
    refine ww_iload_n dX6_isIn_14 rfl rfl ?_
    refine ww_icmp_ne (tgt := 22) dX6_isIn_15 (by decide) (fun c15 => ?_) (fun c15 => ?_)
    · refine ww_iconst (v := 0) dX6_isIn_22 (by decide) ?_
      exact ww_zret dX6_isIn_23 rfl (Or.inl rfl) ⟨by rw [decide_eq_false c15]; rfl, rfl⟩ (Nat.zero_le _) (Nat.zero_le _)
    · refine ww_iconst (v := 1) dX6_isIn_18 (by decide) ?_
      refine ww_goto (tgt := 23) dX6_isIn_19 (by decide) ?_
      exact ww_zret dX6_isIn_23 rfl (Or.inr rfl) ⟨by rw [decide_eq_true c15]; rfl, rfl⟩ (Nat.zero_le _) (Nat.zero_le _)
set_option maxHeartbeats 4000000 in
theorem c6_isIn0 {x y : Int32} {l : Nat} (hl : F 0 = nI l) (hl2 : l ≤ 200) (hno : wIn x l = false) : Sat G mX6_isIn [.ref m, .int x, .int y] (tth m F O R h0, sz) (Det (some (.int 0)) (tth m F O R h0, sz)) := by
  refine Sat.of (by decide) [some (.ref m), some (.int x), some (.int y)] rfl rfl (fun X => ?_)
  refine ww_aload_n dX6_isIn_0 rfl rfl ?_
  refine ww_iload_n dX6_isIn_1 rfl rfl ?_
  refine tt_call1 dX6_isIn_2 kX6_43 rfl rfl (c6_has hl hl2) rfl rfl rfl rfl rfl rfl (Nat.zero_le _) (Nat.zero_le _) ?_
  refine ww_if_eq (tgt := 22) dX6_isIn_5 (by decide) (fun c5 => ?_) (fun c5 => ?_)
  · refine ww_iconst (v := 0) dX6_isIn_22 (by decide) ?_
    exact ww_zret dX6_isIn_23 rfl (Or.inl rfl) ⟨rfl, rfl⟩ (Nat.zero_le _) (Nat.zero_le _)
  · exact absurd c5 (fun q => q (wb_eq0.mpr hno))
set_option maxHeartbeats 4000000 in
theorem c6_hasRoomFor {x : Int32} {k : Nat} {l : Nat} (hl : F 0 = nI l) (hl2 : l ≤ 200) (hx : x = nI k) (hk : k ≤ 40) : Sat G mX6_hasRoomFor [.ref m, .int x] (tth m F O R h0, sz) (Det (some (.int (wb (decide (l + k ≤ 200))))) (tth m F O R h0, sz)) := by
  refine Sat.of (by decide) [some (.ref m), some (.int x)] rfl rfl (fun X => ?_)
  refine ww_aload_n dX6_hasRoomFor_0 rfl rfl ?_
  refine tt_geti dX6_hasRoomFor_1 fX6_9 rfl rfl ?_
  refine ww_iload_n dX6_hasRoomFor_4 rfl rfl ?_
  refine ww_iadd dX6_hasRoomFor_5 ?_
  refine ww_sipush (v := 200) dX6_hasRoomFor_6 (by decide) ?_
  have e1 : F 0 + x = nI (l + k) := by rw [hl, hx]; exact nI_add l k
  rw [e1]
  refine ww_icmp_gt (tgt := 16) dX6_hasRoomFor_9 (by decide) (fun c9 => ?_) (fun c9 => ?_)
  · refine ww_iconst (v := 0) dX6_hasRoomFor_16 (by decide) ?_
    exact ww_zret dX6_hasRoomFor_17 rfl (Or.inl rfl) ⟨by rw [decide_eq_false (fun q => Int32.not_lt.mpr (nI_le (b := 200) q (by decide)) c9)]; rfl, rfl⟩ (Nat.zero_le _) (Nat.zero_le _)
  · refine ww_iconst (v := 1) dX6_hasRoomFor_12 (by decide) ?_
    refine ww_goto (tgt := 17) dX6_hasRoomFor_13 (by decide) ?_
    exact ww_zret dX6_hasRoomFor_17 rfl (Or.inr rfl) ⟨by rw [decide_eq_true (by rcases Nat.lt_or_ge 200 (l + k) with q | q; exact absurd (nI_lt (a := 200) q (by omega)) c9; exact q)]; rfl, rfl⟩ (Nat.zero_le _) (Nat.zero_le _)
set_option maxHeartbeats 4000000 in
theorem c6_give {x y : Int32} {l j : Nat} (hl : F 0 = nI l) (hl2 : l ≤ 200) (hx : x = nI j) (hj : j < l) : Sat G mX6_give [.ref m, .int x, .int y] (tth m F O R h0, sz) (Det none (tth m F O (va_up (va_up R 6 (upd (R 6) j 1)) 7 (upd (R 7) j y)) h0, sz)) := by
  refine Sat.of (by decide) [some (.ref m), some (.int x), some (.int y)] rfl rfl (fun X => ?_)
  refine ww_aload_n dX6_give_0 rfl rfl ?_
  refine ww_iload_n dX6_give_1 rfl rfl ?_
  refine tt_call1 dX6_give_2 kX6_43 rfl rfl (c6_has hl hl2) rfl rfl rfl rfl rfl rfl (Nat.zero_le _) (Nat.zero_le _) ?_
  refine ww_if_eq (tgt := 22) dX6_give_5 (by decide) (fun c5 => ?_) (fun c5 => ?_)
  · exact absurd c5 (by rw [hx, wIn_nI hj (by omega)]; decide)
  · refine ww_aload_n dX6_give_8 rfl rfl ?_
    refine tt_getr dX6_give_9 fX6_31 rfl ?_
    refine ww_iload_n dX6_give_12 rfl rfl ?_
    refine ww_iconst (v := 1) dX6_give_13 (by decide) ?_
    refine tt_iast dX6_give_14 rfl hx (by omega) rfl ?_
    refine ww_aload_n dX6_give_15 rfl rfl ?_
    refine tt_getr dX6_give_16 fX6_34 rfl ?_
    refine ww_iload_n dX6_give_19 rfl rfl ?_
    refine ww_iload_n dX6_give_20 rfl rfl ?_
    refine tt_iast dX6_give_21 rfl hx (by omega) rfl ?_
    exact ww_vret dX6_give_22 rfl ⟨rfl, rfl⟩ (Nat.zero_le _) (Nat.zero_le _)
set_option maxHeartbeats 4000000 in
theorem c6_reopen {x : Int32} {l j : Nat} (hl : F 0 = nI l) (hl2 : l ≤ 200) (hx : x = nI j) (hj : j < l) : Sat G mX6_reopen [.ref m, .int x] (tth m F O R h0, sz) (Det none (tth m F O (va_up (va_up R 6 (upd (R 6) j 0)) 7 (upd (R 7) j (-1))) h0, sz)) := by
  refine Sat.of (by decide) [some (.ref m), some (.int x)] rfl rfl (fun X => ?_)
  refine ww_aload_n dX6_reopen_0 rfl rfl ?_
  refine ww_iload_n dX6_reopen_1 rfl rfl ?_
  refine tt_call1 dX6_reopen_2 kX6_43 rfl rfl (c6_has hl hl2) rfl rfl rfl rfl rfl rfl (Nat.zero_le _) (Nat.zero_le _) ?_
  refine ww_if_eq (tgt := 22) dX6_reopen_5 (by decide) (fun c5 => ?_) (fun c5 => ?_)
  · exact absurd c5 (by rw [hx, wIn_nI hj (by omega)]; decide)
  · refine ww_aload_n dX6_reopen_8 rfl rfl ?_
    refine tt_getr dX6_reopen_9 fX6_31 rfl ?_
    refine ww_iload_n dX6_reopen_12 rfl rfl ?_
    refine ww_iconst (v := 0) dX6_reopen_13 (by decide) ?_
    refine tt_iast dX6_reopen_14 rfl hx (by omega) rfl ?_
    refine ww_aload_n dX6_reopen_15 rfl rfl ?_
    refine tt_getr dX6_reopen_16 fX6_34 rfl ?_
    refine ww_iload_n dX6_reopen_19 rfl rfl ?_
    refine ww_iconst (v := -1) dX6_reopen_20 (by decide) ?_
    refine tt_iast dX6_reopen_21 rfl hx (by omega) rfl ?_
    exact ww_vret dX6_reopen_22 rfl ⟨rfl, rfl⟩ (Nat.zero_le _) (Nat.zero_le _)
set_option maxHeartbeats 4000000 in
theorem c6_finish {x y : Int32} {l j : Nat} (hl : F 0 = nI l) (hl2 : l ≤ 200) (hx : x = nI j) (hj : j < l) : Sat G mX6_finish [.ref m, .int x, .int y] (tth m F O R h0, sz) (Det none (tth m F O (va_up (va_up R 6 (upd (R 6) j 2)) 8 (upd (R 8) j y)) h0, sz)) := by
  refine Sat.of (by decide) [some (.ref m), some (.int x), some (.int y)] rfl rfl (fun X => ?_)
  refine ww_aload_n dX6_finish_0 rfl rfl ?_
  refine ww_iload_n dX6_finish_1 rfl rfl ?_
  refine tt_call1 dX6_finish_2 kX6_43 rfl rfl (c6_has hl hl2) rfl rfl rfl rfl rfl rfl (Nat.zero_le _) (Nat.zero_le _) ?_
  refine ww_if_eq (tgt := 22) dX6_finish_5 (by decide) (fun c5 => ?_) (fun c5 => ?_)
  · exact absurd c5 (by rw [hx, wIn_nI hj (by omega)]; decide)
  · refine ww_aload_n dX6_finish_8 rfl rfl ?_
    refine tt_getr dX6_finish_9 fX6_31 rfl ?_
    refine ww_iload_n dX6_finish_12 rfl rfl ?_
    refine ww_iconst (v := 2) dX6_finish_13 (by decide) ?_
    refine tt_iast dX6_finish_14 rfl hx (by omega) rfl ?_
    refine ww_aload_n dX6_finish_15 rfl rfl ?_
    refine tt_getr dX6_finish_16 fX6_37 rfl ?_
    refine ww_iload_n dX6_finish_19 rfl rfl ?_
    refine ww_iload_n dX6_finish_20 rfl rfl ?_
    refine tt_iast dX6_finish_21 rfl hx (by omega) rfl ?_
    exact ww_vret dX6_finish_22 rfl ⟨rfl, rfl⟩ (Nat.zero_le _) (Nat.zero_le _)
set_option maxHeartbeats 4000000 in
theorem c6_isDueBehind {x y : Int32} {j : Nat} {l : Nat} (hl : F 0 = nI l) (hl2 : l ≤ 200) (hy : y = nI j) (hj : j < 200) : Sat G mX6_isDueBehind [.ref m, .int x, .int y] (tth m F O R h0, sz) (Det (some (.int (wb (wIn x l && decide (R 5 j < R 5 x.toNatClampNeg))))) (tth m F O R h0, sz)) := by
  refine Sat.of (by decide) [some (.ref m), some (.int x), some (.int y)] rfl rfl (fun X => ?_)
  refine ww_aload_n dX6_isDueBehind_0 rfl rfl ?_
  refine ww_iload_n dX6_isDueBehind_1 rfl rfl ?_
  refine tt_call1 dX6_isDueBehind_2 kX6_43 rfl rfl (c6_has hl hl2) rfl rfl rfl rfl rfl rfl (Nat.zero_le _) (Nat.zero_le _) ?_
  refine ww_if_eq (tgt := 27) dX6_isDueBehind_5 (by decide) (fun c5 => ?_) (fun c5 => ?_)
  · refine ww_iconst (v := 0) dX6_isDueBehind_27 (by decide) ?_
    exact ww_zret dX6_isDueBehind_28 rfl (Or.inl rfl) ⟨by rw [wb_eq0.mp c5]; rfl, rfl⟩ (Nat.zero_le _) (Nat.zero_le _)
  · obtain ⟨i, hi, ei⟩ := (wIn_iff (x := x) (n := l) (by omega)).mp (wb_ne0.mp c5)
    refine ww_aload_n dX6_isDueBehind_8 rfl rfl ?_
    refine tt_getr dX6_isDueBehind_9 fX6_28 rfl ?_
    refine ww_iload_n dX6_isDueBehind_12 rfl rfl ?_
    refine tt_iald dX6_isDueBehind_13 rfl ei (by omega) rfl ?_
    refine ww_aload_n dX6_isDueBehind_14 rfl rfl ?_
    refine tt_getr dX6_isDueBehind_15 fX6_28 rfl ?_
    refine ww_iload_n dX6_isDueBehind_18 rfl rfl ?_
    refine tt_iald dX6_isDueBehind_19 rfl hy (by omega) rfl ?_
    refine ww_icmp_le (tgt := 27) dX6_isDueBehind_20 (by decide) (fun c20 => ?_) (fun c20 => ?_)
    · refine ww_iconst (v := 0) dX6_isDueBehind_27 (by decide) ?_
      exact ww_zret dX6_isDueBehind_28 rfl (Or.inl rfl) ⟨by rw [wb_ne0.mp c5, ei, nI_clamp (by omega), decide_eq_false (Int32.not_lt.mpr c20)]; rfl, rfl⟩ (Nat.zero_le _) (Nat.zero_le _)
    · refine ww_iconst (v := 1) dX6_isDueBehind_23 (by decide) ?_
      refine ww_goto (tgt := 28) dX6_isDueBehind_24 (by decide) ?_
      exact ww_zret dX6_isDueBehind_28 rfl (Or.inr rfl) ⟨by rw [wb_ne0.mp c5, ei, nI_clamp (by omega), decide_eq_true (Int32.not_le.mp c20)]; rfl, rfl⟩ (Nat.zero_le _) (Nat.zero_le _)
def pbD (du : Nat → Int32) (l t : Nat) : Nat → (Nat → Int32) → (Nat → Int32)
  | 0, g => upd g 0 (nI t)
  | k + 1, g => if (wIn (g k) l && decide (du t < du (g k).toNatClampNeg)) = true then pbD du l t k (upd g (k + 1) (g k)) else upd g (k + 1) (nI t)
theorem nI_p1 (k : Nat) : nI (k + 1) - 1 = nI k := by rw [← nI_1]; exact Int32.add_sub_cancel _ _
theorem nI_m1 (k : Nat) : nI (k + 1) + Int32.ofInt (-1) = nI k := by rw [show Int32.ofInt (-1) = -1 from rfl, ← Int32.sub_eq_add_neg]; exact nI_p1 k
theorem w_up2 {α : Type} (f : Nat → α) (k : Nat) (a b : α) : va_up (va_up f k a) k b = va_up f k b := by
  funext j
  by_cases h : j = k <;> simp [va_up, h]
set_option maxHeartbeats 4000000 in
theorem L6_put {x : Int32} {l j : Nat} {X : wX} (hl : F 0 = nI l) (hl2 : l ≤ 200) (hx : x = nI j) (hj : j < 200) : ∀ (k : Nat) (g : Nat → Int32) (x2 : Int32), k < 200 → x2 = nI k → pbD (R 5) l j k g = pbD (R 5) l j j (R 9) → WW G mX6_putByDue cX6_putByDue X (wZ G mX6_putByDue X (Det none (tth m F O (va_up R 9 (pbD (R 5) l j j (R 9))) h0, sz))) 2 [some (.ref m), some (.int x), some (.int x2)] [] (tth m F O (va_up R 9 g) h0, sz) 0 0 := by
  intro k
  induction k with
  | zero =>
    intro g x2 hk ix ig
    refine ww_iload_n dX6_putByDue_2 rfl rfl ?_
    refine ww_if_le (tgt := 42) dX6_putByDue_3 (by decide) (fun c3 => ?_) (fun c3 => ?_)
    · refine ww_aload_n dX6_putByDue_42 rfl rfl ?_
      refine tt_getr dX6_putByDue_43 fX6_40 rfl ?_
      refine ww_iload_n dX6_putByDue_46 rfl rfl ?_
      refine ww_iload_n dX6_putByDue_47 rfl rfl ?_
      refine tt_iast dX6_putByDue_48 rfl ix (by omega) rfl ?_
      exact ww_vret dX6_putByDue_49 rfl ⟨rfl, by have hh : pbD (R 5) l j 0 g = upd g 0 (nI j) := rfl; rw [w_up2, ← ig, hh, hx]; rfl⟩ (Nat.zero_le _) (Nat.zero_le _)
    · exact absurd c3 (fun q => q (by rw [ix]; decide))
  | succ k ih =>
    intro g x2 hk ix ig
    have ip : x2 - 1 = nI k := by rw [ix]; exact nI_p1 k
    refine ww_iload_n dX6_putByDue_2 rfl rfl ?_
    refine ww_if_le (tgt := 42) dX6_putByDue_3 (by decide) (fun c3 => ?_) (fun c3 => ?_)
    · exact absurd c3 (by rw [ix]; exact Int32.not_le.mpr (nI_lt (a := 0) (by omega) (by omega)))
    · refine ww_aload_n dX6_putByDue_6 rfl rfl ?_
      refine ww_aload_n dX6_putByDue_7 rfl rfl ?_
      refine tt_getr dX6_putByDue_8 fX6_40 rfl ?_
      refine ww_iload_n dX6_putByDue_11 rfl rfl ?_
      refine ww_iconst (v := 1) dX6_putByDue_12 (by decide) ?_
      refine ww_isub dX6_putByDue_13 ?_
      refine tt_iald dX6_putByDue_14 rfl ip (by omega) rfl ?_
      refine ww_iload_n dX6_putByDue_15 rfl rfl ?_
      refine tt_call1 dX6_putByDue_16 kX6_51 rfl rfl (c6_isDueBehind (j := j) (by exact hl) hl2 (by exact hx) hj) rfl rfl rfl rfl rfl rfl (Nat.zero_le _) (Nat.zero_le _) ?_
      refine ww_if_eq (tgt := 42) dX6_putByDue_19 (by decide) (fun c19 => ?_) (fun c19 => ?_)
      · refine ww_aload_n dX6_putByDue_42 rfl rfl ?_
        refine tt_getr dX6_putByDue_43 fX6_40 rfl ?_
        refine ww_iload_n dX6_putByDue_46 rfl rfl ?_
        refine ww_iload_n dX6_putByDue_47 rfl rfl ?_
        refine tt_iast dX6_putByDue_48 rfl ix (by omega) rfl ?_
        exact ww_vret dX6_putByDue_49 rfl ⟨rfl, by have hh : pbD (R 5) l j (k + 1) g = upd g (k + 1) (nI j) := if_neg (wb_nt (wb_eq0.mp c19)); rw [w_up2, ← ig, hh, hx]; rfl⟩ (Nat.zero_le _) (Nat.zero_le _)
      · refine ww_aload_n dX6_putByDue_22 rfl rfl ?_
        refine tt_getr dX6_putByDue_23 fX6_40 rfl ?_
        refine ww_iload_n dX6_putByDue_26 rfl rfl ?_
        refine ww_aload_n dX6_putByDue_27 rfl rfl ?_
        refine tt_getr dX6_putByDue_28 fX6_40 rfl ?_
        refine ww_iload_n dX6_putByDue_31 rfl rfl ?_
        refine ww_iconst (v := 1) dX6_putByDue_32 (by decide) ?_
        refine ww_isub dX6_putByDue_33 ?_
        refine tt_iald dX6_putByDue_34 rfl ip (by omega) rfl ?_
        refine tt_iast dX6_putByDue_35 rfl ix (by omega) rfl ?_
        refine ww_iinc dX6_putByDue_36 rfl rfl rfl rfl ?_
        refine ww_goto (tgt := 2) dX6_putByDue_39 (by decide) ?_
        rw [w_up2]
        have hh : pbD (R 5) l j (k + 1) g = pbD (R 5) l j k (upd g (k + 1) (g k)) := if_pos (wb_ne0.mp c19)
        exact ih (upd g (k + 1) (g k)) _ (by omega) (by rw [ix]; exact nI_m1 k) (hh.symm.trans ig)
set_option maxHeartbeats 4000000 in
theorem c6_putByDue {x : Int32} {j : Nat} {l : Nat} (hl : F 0 = nI l) (hl2 : l ≤ 200) (hx : x = nI j) (hj : j < 200) : Sat G mX6_putByDue [.ref m, .int x] (tth m F O R h0, sz) (Det none (tth m F O (va_up R 9 (pbD (R 5) l j j (R 9))) h0, sz)) := by
  refine Sat.of (by decide) [some (.ref m), some (.int x), none] rfl rfl (fun X => ?_)
  refine ww_iload_n dX6_putByDue_0 rfl rfl ?_
  refine ww_istore_n dX6_putByDue_1 rfl rfl rfl ?_
  have e := L6_put (G := G) (m := m) (O := O) (h0 := h0) (sz := sz) (X := X) hl hl2 hx hj j (R 9) x hj hx rfl
  rw [w_up_id] at e
  exact e
def adT (R : Nat → Nat → Int32) (l : Nat) (a b c d e : Int32) : Nat → Nat → Int32 :=
  let R1 := va_up (va_up (va_up (va_up (va_up (va_up (va_up (va_up R 1 (upd (R 1) l a)) 2 (upd (R 2) l b)) 3 (upd (R 3) l c)) 4 (upd (R 4) l d)) 5 (upd (R 5) l e)) 6 (upd (R 6) l 0)) 7 (upd (R 7) l (-1))) 8 (upd (R 8) l (-1))
  va_up R1 9 (pbD (upd (R 5) l e) l l l (R 9))
set_option maxHeartbeats 4000000 in
theorem c6_add {a b c d e : Int32} {l : Nat} (hl : F 0 = nI l) (hl2 : l < 200) : Sat G mX6_add [.ref m, .int a, .int b, .int c, .int d, .int e] (tth m F O R h0, sz) (Det none (tth m (upd F 0 (nI (l + 1))) O (adT R l a b c d e) h0, sz)) := by
  refine Sat.of (by decide) [some (.ref m), some (.int a), some (.int b), some (.int c), some (.int d), some (.int e), none] rfl rfl (fun X => ?_)
  refine ww_aload_n dX6_add_0 rfl rfl ?_
  refine tt_geti dX6_add_1 fX6_9 rfl rfl ?_
  refine ww_istore dX6_add_4 rfl rfl ?_
  refine ww_iload dX6_add_6 rfl ?_
  refine ww_if_lt (tgt := 19) dX6_add_8 (by decide) (fun c8 => ?_) (fun c8 => ?_)
  · exact absurd c8 (by rw [hl]; exact nI_pos (by omega))
  · refine ww_iload dX6_add_11 rfl ?_
    refine ww_sipush (v := 200) dX6_add_13 (by decide) ?_
    refine ww_icmp_lt (tgt := 20) dX6_add_16 (by decide) (fun c16 => ?_) (fun c16 => ?_)
    · refine ww_aload_n dX6_add_20 rfl rfl ?_
      refine tt_getr dX6_add_21 fX6_15 rfl ?_
      refine ww_iload dX6_add_24 rfl ?_
      refine ww_iload_n dX6_add_26 rfl rfl ?_
      refine tt_iast dX6_add_27 rfl hl (by omega) rfl ?_
      refine ww_aload_n dX6_add_28 rfl rfl ?_
      refine tt_getr dX6_add_29 fX6_19 rfl ?_
      refine ww_iload dX6_add_32 rfl ?_
      refine ww_iload_n dX6_add_34 rfl rfl ?_
      refine tt_iast dX6_add_35 rfl hl (by omega) rfl ?_
      refine ww_aload_n dX6_add_36 rfl rfl ?_
      refine tt_getr dX6_add_37 fX6_22 rfl ?_
      refine ww_iload dX6_add_40 rfl ?_
      refine ww_iload_n dX6_add_42 rfl rfl ?_
      refine tt_iast dX6_add_43 rfl hl (by omega) rfl ?_
      refine ww_aload_n dX6_add_44 rfl rfl ?_
      refine tt_getr dX6_add_45 fX6_25 rfl ?_
      refine ww_iload dX6_add_48 rfl ?_
      refine ww_iload dX6_add_50 rfl ?_
      refine tt_iast dX6_add_52 rfl hl (by omega) rfl ?_
      refine ww_aload_n dX6_add_53 rfl rfl ?_
      refine tt_getr dX6_add_54 fX6_28 rfl ?_
      refine ww_iload dX6_add_57 rfl ?_
      refine ww_iload dX6_add_59 rfl ?_
      refine tt_iast dX6_add_61 rfl hl (by omega) rfl ?_
      refine ww_aload_n dX6_add_62 rfl rfl ?_
      refine tt_getr dX6_add_63 fX6_31 rfl ?_
      refine ww_iload dX6_add_66 rfl ?_
      refine ww_iconst (v := 0) dX6_add_68 (by decide) ?_
      refine tt_iast dX6_add_69 rfl hl (by omega) rfl ?_
      refine ww_aload_n dX6_add_70 rfl rfl ?_
      refine tt_getr dX6_add_71 fX6_34 rfl ?_
      refine ww_iload dX6_add_74 rfl ?_
      refine ww_iconst (v := -1) dX6_add_76 (by decide) ?_
      refine tt_iast dX6_add_77 rfl hl (by omega) rfl ?_
      refine ww_aload_n dX6_add_78 rfl rfl ?_
      refine tt_getr dX6_add_79 fX6_37 rfl ?_
      refine ww_iload dX6_add_82 rfl ?_
      refine ww_iconst (v := -1) dX6_add_84 (by decide) ?_
      refine tt_iast dX6_add_85 rfl hl (by omega) rfl ?_
      refine ww_aload_n dX6_add_86 rfl rfl ?_
      refine ww_iload dX6_add_87 rfl ?_
      refine tt_call0 dX6_add_89 kX6_47 rfl rfl (c6_putByDue (l := l) (j := l) hl (by omega) hl hl2) rfl rfl rfl rfl rfl rfl (Nat.zero_le _) (Nat.zero_le _) ?_
      refine ww_aload_n dX6_add_92 rfl rfl ?_
      refine ww_dup dX6_add_93 rfl ?_
      refine tt_geti dX6_add_94 fX6_9 rfl rfl ?_
      refine ww_iconst (v := 1) dX6_add_97 (by decide) ?_
      refine ww_iadd dX6_add_98 ?_
      refine tt_puti dX6_add_99 fX6_9 rfl rfl ?_
      exact ww_vret dX6_add_102 rfl ⟨rfl, by rw [hl, nI_1]; rfl⟩ (Nat.zero_le _) (Nat.zero_le _)
    · exact absurd c16 (fun q => q (by rw [hl]; exact nI_lt (b := 200) hl2 (by decide)))
def awT (R : Nat → Nat → Int32) (x : Int32) (t : Nat) : Nat → Nat → Int32 := va_up (va_up R 6 (fun j => if j < t ∧ R 6 j = 1 ∧ R 7 j = x then 0 else R 6 j)) 7 (fun j => if j < t ∧ R 6 j = 1 ∧ R 7 j = x then -1 else R 7 j)
theorem awT_0 (x : Int32) : awT R x 0 = R := by
  funext k j
  by_cases h1 : k = 7
  · subst h1; simp [awT, va_up]
  · by_cases h2 : k = 6
    · subst h2; simp [awT, va_up]
    · simp [awT, va_up, h1, h2]
theorem awT_6 (x : Int32) (t : Nat) : awT R x t 6 t = R 6 t := by simp [awT, va_up]
theorem awT_7 (x : Int32) (t : Nat) : awT R x t 7 t = R 7 t := by simp [awT, va_up]
theorem awT_no {x : Int32} {t : Nat} (h : ¬ (R 6 t = 1 ∧ R 7 t = x)) : awT R x (t + 1) = awT R x t := by
  have e : ∀ j, (j < t + 1 ∧ R 6 j = 1 ∧ R 7 j = x) ↔ (j < t ∧ R 6 j = 1 ∧ R 7 j = x) := by
    intro j
    constructor
    · rintro ⟨h1, h2⟩
      rcases Nat.lt_or_ge j t with q | q
      · exact ⟨q, h2⟩
      · have : j = t := by omega
        subst this
        exact absurd h2 h
    · rintro ⟨h1, h2⟩
      exact ⟨by omega, h2⟩
  simp only [awT, e]
theorem awT_yes {x : Int32} {t : Nat} (h : R 6 t = 1 ∧ R 7 t = x) : va_up (va_up (awT R x t) 6 (upd (awT R x t 6) t 0)) 7 (upd (va_up (awT R x t) 6 (upd (awT R x t 6) t 0) 7) t (-1)) = awT R x (t + 1) := by
  have e : ∀ j, j ≠ t → ((j < t + 1 ∧ R 6 j = 1 ∧ R 7 j = x) ↔ (j < t ∧ R 6 j = 1 ∧ R 7 j = x)) := fun j hj => ⟨fun q => ⟨by omega, q.2⟩, fun q => ⟨by omega, q.2⟩⟩
  funext k j
  by_cases h1 : k = 7
  · subst h1
    by_cases hj : j = t
    · subst hj; simp [awT, va_up, upd, h]
    · simp [awT, va_up, upd, hj, e j hj]
  · by_cases h2 : k = 6
    · subst h2
      by_cases hj : j = t
      · subst hj; simp [awT, va_up, upd, h]
      · simp [awT, va_up, upd, hj, e j hj]
    · simp [awT, va_up, h1, h2]
set_option maxHeartbeats 4000000 in
theorem L6_reopen {x : Int32} {l : Nat} {X : wX} (hl : F 0 = nI l) (hl2 : l ≤ 200) : ∀ (n t : Nat) (x3 : Int32), l - t < n → t ≤ l → ∀ S, S = awT R x t → x3 = nI t → WW G mX6_reopenAllOf cX6_reopenAllOf X (wZ G mX6_reopenAllOf X (Det none (tth m F O (awT R x l) h0, sz))) 2 [some (.ref m), some (.int x), some (.int x3)] [] (tth m F O S h0, sz) 0 0 := by
  intro n
  induction n with
  | zero => intro t x3 hn; exact absurd hn (by omega)
  | succ n ih =>
    intro t x3 hn ht S iS i3
    subst iS
    refine ww_iload_n dX6_reopenAllOf_2 rfl rfl ?_
    refine ww_aload_n dX6_reopenAllOf_3 rfl rfl ?_
    refine tt_geti dX6_reopenAllOf_4 fX6_9 rfl rfl ?_
    refine ww_icmp_ge (tgt := 40) dX6_reopenAllOf_7 (by decide) (fun c7 => ?_) (fun c7 => ?_)
    · exact ww_vret dX6_reopenAllOf_40 rfl ⟨rfl, by have e1 := (w_le hl i3 (by omega) (by omega)).mp c7; rw [show t = l by omega]⟩ (Nat.zero_le _) (Nat.zero_le _)
    · have e1 : t < l := by rcases Nat.lt_or_ge t l with q | q; exact q; exact absurd ((w_le hl i3 (by omega) (by omega)).mpr q) c7
      refine ww_aload_n dX6_reopenAllOf_10 rfl rfl ?_
      refine ww_iload_n dX6_reopenAllOf_11 rfl rfl ?_
      refine ww_iconst (v := 1) dX6_reopenAllOf_12 (by decide) ?_
      refine tt_call1 dX6_reopenAllOf_13 kX6_55 rfl rfl (c6_isIn (j := t) hl hl2 i3 e1) rfl rfl rfl rfl rfl rfl (Nat.zero_le _) (Nat.zero_le _) ?_
      refine ww_if_eq (tgt := 34) dX6_reopenAllOf_16 (by decide) (fun c16 => ?_) (fun c16 => ?_)
      · refine ww_iinc dX6_reopenAllOf_34 rfl rfl rfl rfl ?_
        refine ww_goto (tgt := 2) dX6_reopenAllOf_37 (by decide) ?_
        exact ih (t + 1) _ (by omega) (by omega) _ (awT_no (fun q => of_decide_eq_false (wb_eq0.mp c16) (by rw [awT_6]; exact q.1))).symm (w_inc i3)
      · refine ww_aload_n dX6_reopenAllOf_19 rfl rfl ?_
        refine tt_getr dX6_reopenAllOf_20 fX6_34 rfl ?_
        refine ww_iload_n dX6_reopenAllOf_23 rfl rfl ?_
        refine tt_iald dX6_reopenAllOf_24 rfl i3 (by omega) rfl ?_
        refine ww_iload_n dX6_reopenAllOf_25 rfl rfl ?_
        refine ww_icmp_ne (tgt := 34) dX6_reopenAllOf_26 (by decide) (fun c26 => ?_) (fun c26 => ?_)
        · refine ww_iinc dX6_reopenAllOf_34 rfl rfl rfl rfl ?_
          refine ww_goto (tgt := 2) dX6_reopenAllOf_37 (by decide) ?_
          exact ih (t + 1) _ (by omega) (by omega) _ (awT_no (fun q => c26 (by rw [awT_7]; exact q.2))).symm (w_inc i3)
        · refine ww_aload_n dX6_reopenAllOf_29 rfl rfl ?_
          refine ww_iload_n dX6_reopenAllOf_30 rfl rfl ?_
          refine tt_call0 dX6_reopenAllOf_31 kX6_58 rfl rfl (c6_reopen (j := t) hl hl2 i3 e1) rfl rfl rfl rfl rfl rfl (Nat.zero_le _) (Nat.zero_le _) ?_
          refine ww_iinc dX6_reopenAllOf_34 rfl rfl rfl rfl ?_
          refine ww_goto (tgt := 2) dX6_reopenAllOf_37 (by decide) ?_
          exact ih (t + 1) _ (by omega) (by omega) _ (awT_yes ⟨(awT_6 x t).symm.trans (of_decide_eq_true (wb_ne0.mp c16)), (awT_7 x t).symm.trans c26⟩) (w_inc i3)
set_option maxHeartbeats 4000000 in
theorem c6_reopenAllOf {x : Int32} {l : Nat} (hl : F 0 = nI l) (hl2 : l ≤ 200) : Sat G mX6_reopenAllOf [.ref m, .int x] (tth m F O R h0, sz) (Det none (tth m F O (awT R x l) h0, sz)) := by
  refine Sat.of (by decide) [some (.ref m), some (.int x), none] rfl rfl (fun X => ?_)
  refine ww_iconst (v := 0) dX6_reopenAllOf_0 (by decide) ?_
  refine ww_istore_n dX6_reopenAllOf_1 rfl rfl rfl ?_
  exact L6_reopen (x := x) hl hl2 (l + 1) 0 _ (by omega) (by omega) _ (awT_0 _).symm rfl
end B3
