section B2
variable {G : wG} {m : Nat} {F : Nat → Int32} {O : Nat → Option Nat} {R : Nat → Nat → Int32} {h0 : Nat → Option wE} {sz : Nat}
set_option maxHeartbeats 4000000 in
theorem c2_has {x : Int32} {l : Nat} (hl : F 0 = nI l) (hl2 : l ≤ 8) : Sat G mX2_has [.ref m, .int x] (pph m F O R h0, sz) (Det (some (.int (wb (wIn x l)))) (pph m F O R h0, sz)) := by
  refine Sat.of (by decide) [some (.ref m), some (.int x)] rfl rfl (fun X => ?_)
  refine ww_iload_n dX2_has_0 rfl rfl ?_
  refine ww_if_lt (tgt := 22) dX2_has_1 (by decide) (fun c1 => ?_) (fun c1 => ?_)
  · refine ww_iconst (v := 0) dX2_has_22 (by decide) ?_
    exact ww_zret dX2_has_23 rfl (Or.inl rfl) ⟨by rw [wIn_f1 c1]; rfl, rfl⟩ (Nat.zero_le _) (Nat.zero_le _)
  · refine ww_iload_n dX2_has_4 rfl rfl ?_
    refine ww_aload_n dX2_has_5 rfl rfl ?_
    refine pp_geti dX2_has_6 fX2_9 rfl rfl ?_
    refine ww_icmp_ge (tgt := 22) dX2_has_9 (by decide) (fun c9 => ?_) (fun c9 => ?_)
    · refine ww_iconst (v := 0) dX2_has_22 (by decide) ?_
      exact ww_zret dX2_has_23 rfl (Or.inl rfl) ⟨by rw [wIn_f2 hl (by omega) c9]; rfl, rfl⟩ (Nat.zero_le _) (Nat.zero_le _)
    · refine ww_iload_n dX2_has_12 rfl rfl ?_
      refine ww_bipush (v := 8) dX2_has_13 (by decide) ?_
      refine ww_icmp_ge (tgt := 22) dX2_has_15 (by decide) (fun c15 => ?_) (fun c15 => ?_)
      · refine ww_iconst (v := 0) dX2_has_22 (by decide) ?_
        exact ww_zret dX2_has_23 rfl (Or.inl rfl) ⟨by rw [wIn_f2 (n := l) (y := nI l) rfl (by omega) (Int32.le_trans (nI_le (b := 8) hl2 (by decide)) c15)]; rfl, rfl⟩ (Nat.zero_le _) (Nat.zero_le _)
      · refine ww_iconst (v := 1) dX2_has_18 (by decide) ?_
        refine ww_goto (tgt := 23) dX2_has_19 (by decide) ?_
        exact ww_zret dX2_has_23 rfl (Or.inr rfl) ⟨by rw [wIn_t hl (by omega) c1 c9]; rfl, rfl⟩ (Nat.zero_le _) (Nat.zero_le _)
set_option maxHeartbeats 4000000 in
theorem c2_hasRoom {x : Int32} {l j : Nat} (hl : F 0 = nI l) (hl2 : l ≤ 8) (hx : x = nI j) (hj : j < l) : Sat G mX2_hasRoom [.ref m, .int x] (pph m F O R h0, sz) (Det (some (.int (wb (decide (R 3 j < R 2 j))))) (pph m F O R h0, sz)) := by
  refine Sat.of (by decide) [some (.ref m), some (.int x)] rfl rfl (fun X => ?_)
  refine ww_aload_n dX2_hasRoom_0 rfl rfl ?_
  refine ww_iload_n dX2_hasRoom_1 rfl rfl ?_
  refine pp_call1 dX2_hasRoom_2 kX2_35 rfl rfl (c2_has hl hl2) rfl rfl rfl rfl rfl rfl (Nat.zero_le _) (Nat.zero_le _) ?_
  refine ww_if_eq (tgt := 27) dX2_hasRoom_5 (by decide) (fun c5 => ?_) (fun c5 => ?_)
  · exact absurd c5 (by rw [hx, wIn_nI hj (by omega)]; decide)
  · refine ww_aload_n dX2_hasRoom_8 rfl rfl ?_
    refine pp_getr dX2_hasRoom_9 fX2_22 rfl ?_
    refine ww_iload_n dX2_hasRoom_12 rfl rfl ?_
    refine pp_iald dX2_hasRoom_13 rfl hx (by omega) rfl ?_
    refine ww_aload_n dX2_hasRoom_14 rfl rfl ?_
    refine pp_getr dX2_hasRoom_15 fX2_19 rfl ?_
    refine ww_iload_n dX2_hasRoom_18 rfl rfl ?_
    refine pp_iald dX2_hasRoom_19 rfl hx (by omega) rfl ?_
    refine ww_icmp_ge (tgt := 27) dX2_hasRoom_20 (by decide) (fun c20 => ?_) (fun c20 => ?_)
    · refine ww_iconst (v := 0) dX2_hasRoom_27 (by decide) ?_
      exact ww_zret dX2_hasRoom_28 rfl (Or.inl rfl) ⟨by rw [decide_eq_false (Int32.not_lt.mpr c20)]; rfl, rfl⟩ (Nat.zero_le _) (Nat.zero_le _)
    · refine ww_iconst (v := 1) dX2_hasRoom_23 (by decide) ?_
      refine ww_goto (tgt := 28) dX2_hasRoom_24 (by decide) ?_
      exact ww_zret dX2_hasRoom_28 rfl (Or.inr rfl) ⟨by rw [decide_eq_true (Int32.not_le.mp c20)]; rfl, rfl⟩ (Nat.zero_le _) (Nat.zero_le _)
set_option maxHeartbeats 4000000 in
theorem c2_dropClaim {x : Int32} {l j : Nat} (hl : F 0 = nI l) (hl2 : l ≤ 8) (hx : x = nI j) (hj : j < l) : Sat G mX2_dropClaim [.ref m, .int x] (pph m F O R h0, sz) (Det none (pph m F O (va_up R 3 (upd (R 3) j (R 3 j - 1))) h0, sz)) := by
  refine Sat.of (by decide) [some (.ref m), some (.int x)] rfl rfl (fun X => ?_)
  refine ww_aload_n dX2_dropClaim_0 rfl rfl ?_
  refine ww_iload_n dX2_dropClaim_1 rfl rfl ?_
  refine pp_call1 dX2_dropClaim_2 kX2_35 rfl rfl (c2_has hl hl2) rfl rfl rfl rfl rfl rfl (Nat.zero_le _) (Nat.zero_le _) ?_
  refine ww_if_eq (tgt := 18) dX2_dropClaim_5 (by decide) (fun c5 => ?_) (fun c5 => ?_)
  · exact absurd c5 (by rw [hx, wIn_nI hj (by omega)]; decide)
  · refine ww_aload_n dX2_dropClaim_8 rfl rfl ?_
    refine pp_getr dX2_dropClaim_9 fX2_22 rfl ?_
    refine ww_iload_n dX2_dropClaim_12 rfl rfl ?_
    refine ww_dup2 dX2_dropClaim_13 rfl rfl ?_
    refine pp_iald dX2_dropClaim_14 rfl hx (by omega) rfl ?_
    refine ww_iconst (v := 1) dX2_dropClaim_15 (by decide) ?_
    refine ww_isub dX2_dropClaim_16 ?_
    refine pp_iast dX2_dropClaim_17 rfl hx (by omega) rfl ?_
    exact ww_vret dX2_dropClaim_18 rfl ⟨rfl, rfl⟩ (Nat.zero_le _) (Nat.zero_le _)
set_option maxHeartbeats 4000000 in
theorem c2_countFinished {x : Int32} {l j : Nat} (hl : F 0 = nI l) (hl2 : l ≤ 8) (hx : x = nI j) (hj : j < l) : Sat G mX2_countFinished [.ref m, .int x] (pph m F O R h0, sz) (Det none (pph m F O (va_up R 4 (upd (R 4) j (R 4 j + 1))) h0, sz)) := by
  refine Sat.of (by decide) [some (.ref m), some (.int x)] rfl rfl (fun X => ?_)
  refine ww_aload_n dX2_countFinished_0 rfl rfl ?_
  refine ww_iload_n dX2_countFinished_1 rfl rfl ?_
  refine pp_call1 dX2_countFinished_2 kX2_35 rfl rfl (c2_has hl hl2) rfl rfl rfl rfl rfl rfl (Nat.zero_le _) (Nat.zero_le _) ?_
  refine ww_if_eq (tgt := 18) dX2_countFinished_5 (by decide) (fun c5 => ?_) (fun c5 => ?_)
  · exact absurd c5 (by rw [hx, wIn_nI hj (by omega)]; decide)
  · refine ww_aload_n dX2_countFinished_8 rfl rfl ?_
    refine pp_getr dX2_countFinished_9 fX2_25 rfl ?_
    refine ww_iload_n dX2_countFinished_12 rfl rfl ?_
    refine ww_dup2 dX2_countFinished_13 rfl rfl ?_
    refine pp_iald dX2_countFinished_14 rfl hx (by omega) rfl ?_
    refine ww_iconst (v := 1) dX2_countFinished_15 (by decide) ?_
    refine ww_iadd dX2_countFinished_16 ?_
    refine pp_iast dX2_countFinished_17 rfl hx (by omega) rfl ?_
    exact ww_vret dX2_countFinished_18 rfl ⟨rfl, rfl⟩ (Nat.zero_le _) (Nat.zero_le _)
set_option maxHeartbeats 4000000 in
theorem c2_add {x y : Int32} {l : Nat} (hl : F 0 = nI l) (hl2 : l < 8) : Sat G mX2_add [.ref m, .int x, .int y] (pph m F O R h0, sz) (Det (some (.int (nI l))) (pph m (upd F 0 (nI (l + 1))) O (va_up (va_up (va_up (va_up (va_up (va_up R 1 (upd (R 1) l x)) 2 (upd (R 2) l y)) 3 (upd (R 3) l 0)) 4 (upd (R 4) l 0)) 5 (upd (R 5) l (-1))) 6 (upd (R 6) l 0)) h0, sz)) := by
  refine Sat.of (by decide) [some (.ref m), some (.int x), some (.int y), none] rfl rfl (fun X => ?_)
  refine ww_aload_n dX2_add_0 rfl rfl ?_
  refine pp_geti dX2_add_1 fX2_9 rfl rfl ?_
  refine ww_istore_n dX2_add_4 rfl rfl rfl ?_
  refine ww_iload_n dX2_add_5 rfl rfl ?_
  refine ww_if_lt (tgt := 15) dX2_add_6 (by decide) (fun c6 => ?_) (fun c6 => ?_)
  · exact absurd c6 (by rw [hl]; exact nI_pos (by omega))
  · refine ww_iload_n dX2_add_9 rfl rfl ?_
    refine ww_bipush (v := 8) dX2_add_10 (by decide) ?_
    refine ww_icmp_lt (tgt := 17) dX2_add_12 (by decide) (fun c12 => ?_) (fun c12 => ?_)
    · refine ww_aload_n dX2_add_17 rfl rfl ?_
      refine pp_getr dX2_add_18 fX2_15 rfl ?_
      refine ww_iload_n dX2_add_21 rfl rfl ?_
      refine ww_iload_n dX2_add_22 rfl rfl ?_
      refine pp_iast dX2_add_23 rfl hl (by omega) rfl ?_
      refine ww_aload_n dX2_add_24 rfl rfl ?_
      refine pp_getr dX2_add_25 fX2_19 rfl ?_
      refine ww_iload_n dX2_add_28 rfl rfl ?_
      refine ww_iload_n dX2_add_29 rfl rfl ?_
      refine pp_iast dX2_add_30 rfl hl (by omega) rfl ?_
      refine ww_aload_n dX2_add_31 rfl rfl ?_
      refine pp_getr dX2_add_32 fX2_22 rfl ?_
      refine ww_iload_n dX2_add_35 rfl rfl ?_
      refine ww_iconst (v := 0) dX2_add_36 (by decide) ?_
      refine pp_iast dX2_add_37 rfl hl (by omega) rfl ?_
      refine ww_aload_n dX2_add_38 rfl rfl ?_
      refine pp_getr dX2_add_39 fX2_25 rfl ?_
      refine ww_iload_n dX2_add_42 rfl rfl ?_
      refine ww_iconst (v := 0) dX2_add_43 (by decide) ?_
      refine pp_iast dX2_add_44 rfl hl (by omega) rfl ?_
      refine ww_aload_n dX2_add_45 rfl rfl ?_
      refine pp_getr dX2_add_46 fX2_28 rfl ?_
      refine ww_iload_n dX2_add_49 rfl rfl ?_
      refine ww_iconst (v := -1) dX2_add_50 (by decide) ?_
      refine pp_iast dX2_add_51 rfl hl (by omega) rfl ?_
      refine ww_aload_n dX2_add_52 rfl rfl ?_
      refine pp_getr dX2_add_53 fX2_31 rfl ?_
      refine ww_iload_n dX2_add_56 rfl rfl ?_
      refine ww_iconst (v := 0) dX2_add_57 (by decide) ?_
      refine pp_zast dX2_add_58 rfl hl (by omega) rfl ?_
      refine ww_aload_n dX2_add_59 rfl rfl ?_
      refine ww_dup dX2_add_60 rfl ?_
      refine pp_geti dX2_add_61 fX2_9 rfl rfl ?_
      refine ww_iconst (v := 1) dX2_add_64 (by decide) ?_
      refine ww_iadd dX2_add_65 ?_
      refine pp_puti dX2_add_66 fX2_9 rfl rfl ?_
      refine ww_iload_n dX2_add_69 rfl rfl ?_
      exact ww_iret dX2_add_70 rfl ⟨by rw [hl], by rw [hl, nI_1]; rfl⟩ (Nat.zero_le _) (Nat.zero_le _)
    · exact absurd c12 (fun q => q (by rw [hl]; exact nI_lt (b := 8) hl2 (by decide)))
def stC (gn dp : Nat → Int32) (l : Nat) : Nat → Int32 → Int32
  | 0, _ => -1
  | n + 1, x => if wIn x l = true then (if gn x.toNatClampNeg = 0 then x else stC gn dp l n (dp x.toNatClampNeg)) else -1
set_option maxHeartbeats 4000000 in
theorem L2_stand {x : Int32} {l : Nat} {X : wX} (hl : F 0 = nI l) (hl2 : l ≤ 8) : ∀ (n k : Nat) (x2 x3 : Int32), 8 - k < n → k ≤ 8 → x3 = nI k → stC (R 6) (R 5) l (8 - k) x2 = stC (R 6) (R 5) l 8 x → WW G mX2_standInFor cX2_standInFor X (wZ G mX2_standInFor X (Det (some (.int (stC (R 6) (R 5) l 8 x))) (pph m F O R h0, sz))) 4 [some (.ref m), some (.int x), some (.int x2), some (.int x3)] [] (pph m F O R h0, sz) 0 0 := by
  intro n
  induction n with
  | zero => intro k x2 x3 hn; exact absurd hn (by omega)
  | succ n ih =>
    intro k x2 x3 hn hk i3 i4
    refine ww_iload_n dX2_standInFor_4 rfl rfl ?_
    refine ww_bipush (v := 8) dX2_standInFor_5 (by decide) ?_
    refine ww_icmp_ge (tgt := 42) dX2_standInFor_7 (by decide) (fun c7 => ?_) (fun c7 => ?_)
    · refine ww_iconst (v := -1) dX2_standInFor_42 (by decide) ?_
      exact ww_iret dX2_standInFor_43 rfl ⟨by rw [← i4, show 8 - k = 0 by have := (w_le (show (8 : Int32) = nI 8 from rfl) i3 (by decide) (by omega)).mp c7; omega]; rfl, rfl⟩ (Nat.zero_le _) (Nat.zero_le _)
    · have hk8 : k < 8 := by rcases Nat.lt_or_ge k 8 with q | q; exact q; exact absurd ((w_le (show (8 : Int32) = nI 8 from rfl) i3 (by decide) (by omega)).mpr q) c7
      refine ww_aload_n dX2_standInFor_10 rfl rfl ?_
      refine ww_iload_n dX2_standInFor_11 rfl rfl ?_
      refine pp_call1 dX2_standInFor_12 kX2_35 rfl rfl (c2_has hl hl2) rfl rfl rfl rfl rfl rfl (Nat.zero_le _) (Nat.zero_le _) ?_
      refine ww_if_eq (tgt := 42) dX2_standInFor_15 (by decide) (fun c15 => ?_) (fun c15 => ?_)
      · refine ww_iconst (v := -1) dX2_standInFor_42 (by decide) ?_
        exact ww_iret dX2_standInFor_43 rfl ⟨by rw [← i4, show 8 - k = 8 - (k + 1) + 1 by omega, stC, if_neg (wb_nt (wb_eq0.mp c15))], rfl⟩ (Nat.zero_le _) (Nat.zero_le _)
      · obtain ⟨j, hj, ej⟩ := (wIn_iff (x := x2) (n := l) (by omega)).mp (wb_ne0.mp c15)
        refine ww_aload_n dX2_standInFor_18 rfl rfl ?_
        refine pp_getr dX2_standInFor_19 fX2_31 rfl ?_
        refine ww_iload_n dX2_standInFor_22 rfl rfl ?_
        refine pp_zald dX2_standInFor_23 rfl ej (by omega) rfl ?_
        refine ww_if_ne (tgt := 29) dX2_standInFor_24 (by decide) (fun c24 => ?_) (fun c24 => ?_)
        · refine ww_aload_n dX2_standInFor_29 rfl rfl ?_
          refine pp_getr dX2_standInFor_30 fX2_28 rfl ?_
          refine ww_iload_n dX2_standInFor_33 rfl rfl ?_
          refine pp_iald dX2_standInFor_34 rfl ej (by omega) rfl ?_
          refine ww_istore_n dX2_standInFor_35 rfl rfl rfl ?_
          refine ww_iinc dX2_standInFor_36 rfl rfl rfl rfl ?_
          refine ww_goto (tgt := 4) dX2_standInFor_39 (by decide) ?_
          exact ih (k + 1) _ _ (by omega) (by omega) (w_inc i3) (by rw [← i4, show 8 - k = 8 - (k + 1) + 1 by omega, stC, if_pos (wb_ne0.mp c15), ej, nI_clamp (by omega), if_neg c24])
        · refine ww_iload_n dX2_standInFor_27 rfl rfl ?_
          exact ww_iret dX2_standInFor_28 rfl ⟨by rw [← i4, show 8 - k = 8 - (k + 1) + 1 by omega, stC, if_pos (wb_ne0.mp c15), ej, nI_clamp (by omega), if_pos c24], rfl⟩ (Nat.zero_le _) (Nat.zero_le _)
set_option maxHeartbeats 4000000 in
theorem c2_standInFor {x : Int32} {l : Nat} (hl : F 0 = nI l) (hl2 : l ≤ 8) : Sat G mX2_standInFor [.ref m, .int x] (pph m F O R h0, sz) (Det (some (.int (stC (R 6) (R 5) l 8 x))) (pph m F O R h0, sz)) := by
  refine Sat.of (by decide) [some (.ref m), some (.int x), none, none] rfl rfl (fun X => ?_)
  refine ww_iload_n dX2_standInFor_0 rfl rfl ?_
  refine ww_istore_n dX2_standInFor_1 rfl rfl rfl ?_
  refine ww_iconst (v := 0) dX2_standInFor_2 (by decide) ?_
  refine ww_istore_n dX2_standInFor_3 rfl rfl rfl ?_
  exact L2_stand hl hl2 9 0 _ _ (by omega) (by omega) rfl rfl
def rsC (R : Nat → Nat → Int32) (l : Nat) (x : Int32) (r0 : Int32) : Nat → Int32
  | 0 => r0
  | q + 1 => if stC (R 6) (R 5) l 8 (nI q) = x then rsC R l x r0 q ||| R 1 q else rsC R l x r0 q
set_option maxHeartbeats 4000000 in
theorem L2_roles {x : Int32} {l j : Nat} {X : wX} (hl : F 0 = nI l) (hl2 : l ≤ 8) : ∀ (n t : Nat) (x2 x3 : Int32), l - t < n → t ≤ l → x2 = rsC R l x (R 1 j) t → x3 = nI t → WW G mX2_rolesServed cX2_rolesServed X (wZ G mX2_rolesServed X (Det (some (.int (rsC R l x (R 1 j) l))) (pph m F O R h0, sz))) 28 [some (.ref m), some (.int x), some (.int x2), some (.int x3)] [] (pph m F O R h0, sz) 0 0 := by
  intro n
  induction n with
  | zero => intro t x2 x3 hn; exact absurd hn (by omega)
  | succ n ih =>
    intro t x2 x3 hn ht i2 i3
    refine ww_iload_n dX2_rolesServed_28 rfl rfl ?_
    refine ww_aload_n dX2_rolesServed_29 rfl rfl ?_
    refine pp_geti dX2_rolesServed_30 fX2_9 rfl rfl ?_
    refine ww_icmp_ge (tgt := 60) dX2_rolesServed_33 (by decide) (fun c33 => ?_) (fun c33 => ?_)
    · have e1 := (w_le hl i3 (by omega) (by omega)).mp c33
      have e2 : t = l := by omega
      refine ww_iload_n dX2_rolesServed_60 rfl rfl ?_
      exact ww_iret dX2_rolesServed_61 rfl ⟨by rw [i2, e2], rfl⟩ (Nat.zero_le _) (Nat.zero_le _)
    · have e1 : t < l := by rcases Nat.lt_or_ge t l with q | q; exact q; exact absurd ((w_le hl i3 (by omega) (by omega)).mpr q) c33
      refine ww_aload_n dX2_rolesServed_36 rfl rfl ?_
      refine ww_iload_n dX2_rolesServed_37 rfl rfl ?_
      refine pp_call1 dX2_rolesServed_38 kX2_39 rfl rfl (c2_standInFor hl hl2) rfl rfl rfl rfl rfl rfl (Nat.zero_le _) (Nat.zero_le _) ?_
      refine ww_iload_n dX2_rolesServed_41 rfl rfl ?_
      refine ww_icmp_ne (tgt := 54) dX2_rolesServed_42 (by decide) (fun c42 => ?_) (fun c42 => ?_)
      · refine ww_iinc dX2_rolesServed_54 rfl rfl rfl rfl ?_
        refine ww_goto (tgt := 28) dX2_rolesServed_57 (by decide) ?_
        exact ih (t + 1) _ _ (by omega) (by omega) (by rw [rsC, if_neg (by rw [← i3]; exact c42)]; exact i2) (w_inc i3)
      · refine ww_iload_n dX2_rolesServed_45 rfl rfl ?_
        refine ww_aload_n dX2_rolesServed_46 rfl rfl ?_
        refine pp_getr dX2_rolesServed_47 fX2_15 rfl ?_
        refine ww_iload_n dX2_rolesServed_50 rfl rfl ?_
        refine pp_iald dX2_rolesServed_51 rfl i3 (by omega) rfl ?_
        refine ww_ior dX2_rolesServed_52 ?_
        refine ww_istore_n dX2_rolesServed_53 rfl rfl rfl ?_
        refine ww_iinc dX2_rolesServed_54 rfl rfl rfl rfl ?_
        refine ww_goto (tgt := 28) dX2_rolesServed_57 (by decide) ?_
        exact ih (t + 1) _ _ (by omega) (by omega) (by rw [rsC, if_pos (by rw [← i3]; exact c42), i2]) (w_inc i3)
set_option maxHeartbeats 4000000 in
theorem c2_rolesServed {x : Int32} {l j : Nat} (hl : F 0 = nI l) (hl2 : l ≤ 8) (hx : x = nI j) (hj : j < l) (hg : R 6 j = 0) : Sat G mX2_rolesServed [.ref m, .int x] (pph m F O R h0, sz) (Det (some (.int (rsC R l x (R 1 j) l))) (pph m F O R h0, sz)) := by
  refine Sat.of (by decide) [some (.ref m), some (.int x), none, none] rfl rfl (fun X => ?_)
  refine ww_aload_n dX2_rolesServed_0 rfl rfl ?_
  refine ww_iload_n dX2_rolesServed_1 rfl rfl ?_
  refine pp_call1 dX2_rolesServed_2 kX2_35 rfl rfl (c2_has hl hl2) rfl rfl rfl rfl rfl rfl (Nat.zero_le _) (Nat.zero_le _) ?_
  refine ww_if_eq (tgt := 17) dX2_rolesServed_5 (by decide) (fun c5 => ?_) (fun c5 => ?_)
  · exact absurd c5 (by rw [hx, wIn_nI hj (by omega)]; decide)
  · refine ww_aload_n dX2_rolesServed_8 rfl rfl ?_
    refine pp_getr dX2_rolesServed_9 fX2_31 rfl ?_
    refine ww_iload_n dX2_rolesServed_12 rfl rfl ?_
    refine pp_zald dX2_rolesServed_13 rfl hx (by omega) rfl ?_
    refine ww_if_eq (tgt := 19) dX2_rolesServed_14 (by decide) (fun c14 => ?_) (fun c14 => ?_)
    · refine ww_aload_n dX2_rolesServed_19 rfl rfl ?_
      refine pp_getr dX2_rolesServed_20 fX2_15 rfl ?_
      refine ww_iload_n dX2_rolesServed_23 rfl rfl ?_
      refine pp_iald dX2_rolesServed_24 rfl hx (by omega) rfl ?_
      refine ww_istore_n dX2_rolesServed_25 rfl rfl rfl ?_
      refine ww_iconst (v := 0) dX2_rolesServed_26 (by decide) ?_
      refine ww_istore_n dX2_rolesServed_27 rfl rfl rfl ?_
      exact L2_roles hl hl2 (l + 1) 0 _ _ (by omega) (by omega) rfl rfl
    · exact absurd c14 (fun q => q hg)
set_option maxHeartbeats 4000000 in
theorem c2_rolesServed0 {x : Int32} {l j : Nat} (hl : F 0 = nI l) (hl2 : l ≤ 8) (hx : x = nI j) (hj : j < l) (hg : ¬ R 6 j = 0) : Sat G mX2_rolesServed [.ref m, .int x] (pph m F O R h0, sz) (Det (some (.int 0)) (pph m F O R h0, sz)) := by
  refine Sat.of (by decide) [some (.ref m), some (.int x), none, none] rfl rfl (fun X => ?_)
  refine ww_aload_n dX2_rolesServed_0 rfl rfl ?_
  refine ww_iload_n dX2_rolesServed_1 rfl rfl ?_
  refine pp_call1 dX2_rolesServed_2 kX2_35 rfl rfl (c2_has hl hl2) rfl rfl rfl rfl rfl rfl (Nat.zero_le _) (Nat.zero_le _) ?_
  refine ww_if_eq (tgt := 17) dX2_rolesServed_5 (by decide) (fun c5 => ?_) (fun c5 => ?_)
  · exact absurd c5 (by rw [hx, wIn_nI hj (by omega)]; decide)
  · refine ww_aload_n dX2_rolesServed_8 rfl rfl ?_
    refine pp_getr dX2_rolesServed_9 fX2_31 rfl ?_
    refine ww_iload_n dX2_rolesServed_12 rfl rfl ?_
    refine pp_zald dX2_rolesServed_13 rfl hx (by omega) rfl ?_
    refine ww_if_eq (tgt := 19) dX2_rolesServed_14 (by decide) (fun c14 => ?_) (fun c14 => ?_)
    · exact absurd c14 hg
    · refine ww_iconst (v := 0) dX2_rolesServed_17 (by decide) ?_
      exact ww_iret dX2_rolesServed_18 rfl ⟨rfl, rfl⟩ (Nat.zero_le _) (Nat.zero_le _)
end B2
