def tuF (F : Nat → Nat → Int32) (u : Nat) : Nat → Nat → Int32 := va_up F u (upd (F u) 5 (F 6 4))
def tuR (R : Nat → Nat → Nat → Int32) (u : Nat) : Nat → Nat → Nat → Int32 := va_up R u (va_up (va_up (R u) 2 (cpN 4 (R 6 0) (R u 2))) 3 (cpN 40 (R 6 1) (R u 3)))
/-- the fields and rows behind keepWalk of run u, whose business is b: n tasks came, the first of them is c -/
def kwF (F : Nat → Nat → Int32) (u c n : Nat) : Nat → Nat → Int32 := va_up (va_up (tuF F u) 5 (upd (tuF F u 5) 0 (nI (c + n)))) u (upd (tuF F u u) 6 (tuF F u u 6 + nI n))
def kwRR (F : Nat → Nat → Int32) (R : Nat → Nat → Nat → Int32) (u b c n a : Nat) (cm du : Nat → Nat) : Nat → Nat → Nat → Int32 := va_up (tuR R u) 5 (kwR (tuR R u 5) c (tuF F u 0 7) (tuF F u u 0) cm (tuR R u b 8) (fun d => nI (wEn (wHr a + du d - 1))) n)
section X8F
variable {G : wG} {Λ : wL} {x mr mt mp mk mw ma : Nat} {F : Nat → Nat → Int32} {O : Nat → Nat → Option Nat} {R : Nat → Nat → Nat → Int32} {h0 : Nat → Option wE} {sz : Nat}
set_option maxHeartbeats 4000000 in
theorem c8_keepWalk (H : hH Λ O x mr mt mp mk mw ma) {u mu : Nat} (hU : Lk Λ u 7 mu) {b mb : Nat} (hO : O u 1 = some mb) (hB : Lk Λ b 3 mb) {cd n a c : Nat} {cm du : Nat → Nat} (hcd : F b 1 = nI cd) (hcd2 : cd ≤ 40) (hn : F 6 3 = nI n) (hn2 : n ≤ 40) (ha : F 0 7 = nI a) (ha2 : a ≤ 20000) (hc2 : c + n ≤ 200) (hcm : ∀ k, k < n → R 6 2 k = nI (cm k) ∧ cm k < cd) (hdu : ∀ d, d < cd → R b 9 d = nI (du d) ∧ 1 ≤ du d ∧ du d ≤ 99)  (hc : F 5 0 = nI c) (hov : F 6 4 = 0 ∨ F 6 4 = 1) : Sat G mX8_keepWalk [.ref x, .ref mu] (wld Λ F O R h0, sz) (Det none (wld Λ (kwF F u c n) O (kwRR F R u b c n a cm du) h0, sz)) := by
  have n5 : u ≠ 5 := Lk_ne hU H.2.2.2.2.1 (by decide)
  have n6 : u ≠ 6 := Lk_ne hU H.2.2.2.2.2.1 (by decide)
  have n0 : u ≠ 0 := Lk_ne hU H.1 (by decide)
  have nb : b ≠ 5 := Lk_ne hB H.2.2.2.2.1 (by decide)
  have nbu : b ≠ u := Lk_ne hB hU (by decide)
  refine Sat.of (by decide) [some (.ref x), some (.ref mu), none, none, none] rfl rfl (fun X => ?_)
  refine ww_aload_n dX8_keepWalk_0 rfl rfl ?_
  refine ww_aload_n dX8_keepWalk_1 rfl rfl ?_
  refine Wxx_geto H.1 dX8_keepWalk_2 fX8_33 rfl rfl H.2.2.2.2.2.2.2.2.2.2.1 ?_
  refine Wrr_call0 hU dX8_keepWalk_5 kX8_251 rfl rfl (c4_take hU H.2.2.2.2.2.1 n6.symm hov) rfl rfl rfl rfl rfl rfl (Nat.zero_le _) (Nat.zero_le _) ?_
  refine ww_iconst (v := 0) dX8_keepWalk_8 (by decide) ?_
  refine ww_istore_n dX8_keepWalk_9 rfl rfl rfl ?_
  have e0 : tuF F u 5 0 = nI c := by rw [tuF, w_up_ne _ _ n5.symm]; exact hc
  have e9 := L8_keep (X := X) (G := G) (h0 := h0) (sz := sz) (F := tuF F u) (R := tuR R u) (cm := cm) (du := du) H hU hO hB (by rw [tuF, w_up_ne _ _ nbu]; exact hcd) hcd2 (by rw [tuF, w_up_ne _ _ n6.symm]; exact hn) hn2 (by rw [tuF, w_up_ne _ _ n0.symm]; exact ha) ha2 hc2 (fun k hk => by rw [tuR, w_up_ne _ _ n6.symm]; exact hcm k hk) (fun d hd => by rw [tuR, w_up_ne _ _ nbu]; exact hdu d hd) n5 nb (n + 1) 0 0 none none (by omega) (by omega) rfl
  have e8 : upd (tuF F u 5) 0 (nI (c + 0)) = tuF F u 5 := w_upd_id e0
  rw [e8, w_up_id] at e9
  have e7 : ∀ q : Nat → Nat → Int32, kwR q c (tuF F u 0 7) (tuF F u u 0) cm (tuR R u b 8) (fun d => nI (wEn (wHr a + du d - 1))) 0 = q := fun _ => rfl
  rw [e7, w_up_id] at e9
  exact e9
set_option maxHeartbeats 4000000 in
theorem c8_done0 (H : hH Λ O x mr mt mp mk mw ma) {y z v : Int32} {c : Nat} (hc : F 5 0 = nI c) (hc2 : c ≤ 200) (hno : wIn y c = false) : Sat G mX8_done [.ref x, .int y, .int z, .int v] (wld Λ F O R h0, sz) (Det (some (.int (-1))) (wld Λ F O R h0, sz)) := by
  refine Sat.of (by decide) [some (.ref x), some (.int y), some (.int z), some (.int v), none] rfl rfl (fun X => ?_)
  refine ww_aload_n dX8_done_0 rfl rfl ?_
  refine Wxx_geto H.1 dX8_done_1 fX8_26 rfl rfl H.2.2.2.2.2.2.2.2.2.1 ?_
  refine ww_iload_n dX8_done_4 rfl rfl ?_
  refine ww_iconst (v := 1) dX8_done_5 (by decide) ?_
  refine Wtt_call1 H.2.2.2.2.1 dX8_done_6 kX8_179 rfl rfl (tt_l0 H.2.2.2.2.1 (c6_isIn0 hc hc2 hno)) rfl rfl rfl rfl rfl rfl (Nat.zero_le _) (Nat.zero_le _) ?_
  refine ww_if_eq (tgt := 22) dX8_done_9 (by decide) (fun c9 => ?_) (fun c9 => ?_)
  · refine ww_iconst (v := -1) dX8_done_22 (by decide) ?_
    exact ww_iret dX8_done_23 rfl ⟨rfl, rfl⟩ (Nat.zero_le _) (Nat.zero_le _)
  · exact absurd c9 (fun q => q rfl)
set_option maxHeartbeats 4000000 in
theorem c8_done1 (H : hH Λ O x mr mt mp mk mw ma) {y z v : Int32} {c : Nat} (hc : F 5 0 = nI c) (hc2 : c ≤ 200){j : Nat} (hy : y = nI j) (hj : j < c) (hs : ¬ R 5 6 j = 1) : Sat G mX8_done [.ref x, .int y, .int z, .int v] (wld Λ F O R h0, sz) (Det (some (.int (-1))) (wld Λ F O R h0, sz)) := by
  refine Sat.of (by decide) [some (.ref x), some (.int y), some (.int z), some (.int v), none] rfl rfl (fun X => ?_)
  refine ww_aload_n dX8_done_0 rfl rfl ?_
  refine Wxx_geto H.1 dX8_done_1 fX8_26 rfl rfl H.2.2.2.2.2.2.2.2.2.1 ?_
  refine ww_iload_n dX8_done_4 rfl rfl ?_
  refine ww_iconst (v := 1) dX8_done_5 (by decide) ?_
  refine Wtt_call1 H.2.2.2.2.1 dX8_done_6 kX8_179 rfl rfl (tt_l0 H.2.2.2.2.1 (c6_isIn (y := 1) hc hc2 hy hj)) rfl rfl rfl rfl rfl rfl (Nat.zero_le _) (Nat.zero_le _) ?_
  refine ww_if_eq (tgt := 22) dX8_done_9 (by decide) (fun c9 => ?_) (fun c9 => ?_)
  · refine ww_iconst (v := -1) dX8_done_22 (by decide) ?_
    exact ww_iret dX8_done_23 rfl ⟨rfl, rfl⟩ (Nat.zero_le _) (Nat.zero_le _)
  · exact absurd c9 (fun q => q (wb_eq0.mpr (decide_eq_false hs)))
set_option maxHeartbeats 4000000 in
theorem c8_done2 (H : hH Λ O x mr mt mp mk mw ma) {y z v : Int32} {c : Nat} (hc : F 5 0 = nI c) (hc2 : c ≤ 200){j : Nat} (hy : y = nI j) (hj : j < c) (hs : R 5 6 j = 1) (hno : ¬ (-1 ≤ z ∧ z < 4)) : Sat G mX8_done [.ref x, .int y, .int z, .int v] (wld Λ F O R h0, sz) (Det (some (.int (-1))) (wld Λ F O R h0, sz)) := by
  refine Sat.of (by decide) [some (.ref x), some (.int y), some (.int z), some (.int v), none] rfl rfl (fun X => ?_)
  refine ww_aload_n dX8_done_0 rfl rfl ?_
  refine Wxx_geto H.1 dX8_done_1 fX8_26 rfl rfl H.2.2.2.2.2.2.2.2.2.1 ?_
  refine ww_iload_n dX8_done_4 rfl rfl ?_
  refine ww_iconst (v := 1) dX8_done_5 (by decide) ?_
  refine Wtt_call1 H.2.2.2.2.1 dX8_done_6 kX8_179 rfl rfl (tt_l0 H.2.2.2.2.1 (c6_isIn (y := 1) hc hc2 hy hj)) rfl rfl rfl rfl rfl rfl (Nat.zero_le _) (Nat.zero_le _) ?_
  refine ww_if_eq (tgt := 22) dX8_done_9 (by decide) (fun c9 => ?_) (fun c9 => ?_)
  · exact absurd c9 (by rw [decide_eq_true hs]; decide)
  · refine ww_iload_n dX8_done_12 rfl rfl ?_
    refine ww_iconst (v := -1) dX8_done_13 (by decide) ?_
    refine ww_icmp_lt (tgt := 22) dX8_done_14 (by decide) (fun c14 => ?_) (fun c14 => ?_)
    · refine ww_iconst (v := -1) dX8_done_22 (by decide) ?_
      exact ww_iret dX8_done_23 rfl ⟨rfl, rfl⟩ (Nat.zero_le _) (Nat.zero_le _)
    · refine ww_iload_n dX8_done_17 rfl rfl ?_
      refine ww_iconst (v := 4) dX8_done_18 (by decide) ?_
      refine ww_icmp_lt (tgt := 24) dX8_done_19 (by decide) (fun c19 => ?_) (fun c19 => ?_)
      · exact absurd ⟨Int32.not_lt.mp c14, c19⟩ hno
      · refine ww_iconst (v := -1) dX8_done_22 (by decide) ?_
        exact ww_iret dX8_done_23 rfl ⟨rfl, rfl⟩ (Nat.zero_le _) (Nat.zero_le _)
set_option maxHeartbeats 4000000 in
theorem c8_done3 (H : hH Λ O x mr mt mp mk mw ma) {y z v : Int32} {c : Nat} (hc : F 5 0 = nI c) (hc2 : c ≤ 200){j : Nat} (hy : y = nI j) (hj : j < c) (hs : R 5 6 j = 1) (hz : -1 ≤ z ∧ z < 4) (hz1 : ¬ z = -1) (hno : ¬ (0 ≤ v ∧ v ≤ 99)) : Sat G mX8_done [.ref x, .int y, .int z, .int v] (wld Λ F O R h0, sz) (Det (some (.int (-1))) (wld Λ F O R h0, sz)) := by
  refine Sat.of (by decide) [some (.ref x), some (.int y), some (.int z), some (.int v), none] rfl rfl (fun X => ?_)
  refine ww_aload_n dX8_done_0 rfl rfl ?_
  refine Wxx_geto H.1 dX8_done_1 fX8_26 rfl rfl H.2.2.2.2.2.2.2.2.2.1 ?_
  refine ww_iload_n dX8_done_4 rfl rfl ?_
  refine ww_iconst (v := 1) dX8_done_5 (by decide) ?_
  refine Wtt_call1 H.2.2.2.2.1 dX8_done_6 kX8_179 rfl rfl (tt_l0 H.2.2.2.2.1 (c6_isIn (y := 1) hc hc2 hy hj)) rfl rfl rfl rfl rfl rfl (Nat.zero_le _) (Nat.zero_le _) ?_
  refine ww_if_eq (tgt := 22) dX8_done_9 (by decide) (fun c9 => ?_) (fun c9 => ?_)
  · exact absurd c9 (by rw [decide_eq_true hs]; decide)
  · refine ww_iload_n dX8_done_12 rfl rfl ?_
    refine ww_iconst (v := -1) dX8_done_13 (by decide) ?_
    refine ww_icmp_lt (tgt := 22) dX8_done_14 (by decide) (fun c14 => ?_) (fun c14 => ?_)
    · exact absurd c14 (Int32.not_lt.mpr hz.1)
    · refine ww_iload_n dX8_done_17 rfl rfl ?_
      refine ww_iconst (v := 4) dX8_done_18 (by decide) ?_
      refine ww_icmp_lt (tgt := 24) dX8_done_19 (by decide) (fun c19 => ?_) (fun c19 => ?_)
      · refine ww_iload_n dX8_done_24 rfl rfl ?_
        refine ww_iconst (v := -1) dX8_done_25 (by decide) ?_
        refine ww_icmp_eq (tgt := 41) dX8_done_26 (by decide) (fun c26 => ?_) (fun c26 => ?_)
        · exact absurd c26 hz1
        · refine ww_iload_n dX8_done_29 rfl rfl ?_
          refine ww_if_lt (tgt := 39) dX8_done_30 (by decide) (fun c30 => ?_) (fun c30 => ?_)
          · refine ww_iconst (v := -1) dX8_done_39 (by decide) ?_
            exact ww_iret dX8_done_40 rfl ⟨rfl, rfl⟩ (Nat.zero_le _) (Nat.zero_le _)
          · refine ww_iload_n dX8_done_33 rfl rfl ?_
            refine ww_bipush (v := 99) dX8_done_34 (by decide) ?_
            refine ww_icmp_le (tgt := 41) dX8_done_36 (by decide) (fun c36 => ?_) (fun c36 => ?_)
            · exact absurd ⟨Int32.not_lt.mp c30, c36⟩ hno
            · refine ww_iconst (v := -1) dX8_done_39 (by decide) ?_
              exact ww_iret dX8_done_40 rfl ⟨rfl, rfl⟩ (Nat.zero_le _) (Nat.zero_le _)
      · exact absurd c19 (fun q => q hz.2)
end X8F
