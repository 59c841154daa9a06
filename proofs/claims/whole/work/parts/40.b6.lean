section B6
variable {G : wG} {m : Nat} {F : Nat → Int32} {O : Nat → Option Nat} {R : Nat → Nat → Int32} {h0 : Nat → Option wE} {sz : Nat}
set_option maxHeartbeats 4000000 in
theorem c4_lastDoerOf {x : Int32} {j : Nat} (hx : x = nI j) (hj : j < 40) : Sat G mX4_lastDoerOf [.ref m, .int x] (rrh m F O R h0, sz) (Det (some (.int (R 4 j))) (rrh m F O R h0, sz)) := by
  refine Sat.of (by decide) [some (.ref m), some (.int x)] rfl rfl (fun X => ?_)
  refine ww_iload_n dX4_lastDoerOf_0 rfl rfl ?_
  refine ww_if_lt (tgt := 19) dX4_lastDoerOf_1 (by decide) (fun c1 => ?_) (fun c1 => ?_)
  · exact absurd c1 (by rw [hx]; exact nI_pos (by omega))
  · refine ww_iload_n dX4_lastDoerOf_4 rfl rfl ?_
    refine ww_bipush (v := 40) dX4_lastDoerOf_5 (by decide) ?_
    refine ww_icmp_ge (tgt := 19) dX4_lastDoerOf_7 (by decide) (fun c7 => ?_) (fun c7 => ?_)
    · exact absurd c7 (by rw [hx]; exact Int32.not_le.mpr (nI_lt (b := 40) hj (by decide)))
    · refine ww_aload_n dX4_lastDoerOf_10 rfl rfl ?_
      refine rr_getr dX4_lastDoerOf_11 fX4_26 rfl ?_
      refine ww_iload_n dX4_lastDoerOf_14 rfl rfl ?_
      refine rr_iald dX4_lastDoerOf_15 rfl hx hj rfl ?_
      refine ww_goto (tgt := 20) dX4_lastDoerOf_16 (by decide) ?_
      exact ww_iret dX4_lastDoerOf_20 rfl ⟨rfl, rfl⟩ (Nat.zero_le _) (Nat.zero_le _)
set_option maxHeartbeats 4000000 in
theorem c4_lastDoerOf0 {x : Int32} (hno : wIn x 40 = false) : Sat G mX4_lastDoerOf [.ref m, .int x] (rrh m F O R h0, sz) (Det (some (.int (-1))) (rrh m F O R h0, sz)) := by
  refine Sat.of (by decide) [some (.ref m), some (.int x)] rfl rfl (fun X => ?_)
  refine ww_iload_n dX4_lastDoerOf_0 rfl rfl ?_
  refine ww_if_lt (tgt := 19) dX4_lastDoerOf_1 (by decide) (fun c1 => ?_) (fun c1 => ?_)
  · refine ww_iconst (v := -1) dX4_lastDoerOf_19 (by decide) ?_
    exact ww_iret dX4_lastDoerOf_20 rfl ⟨rfl, rfl⟩ (Nat.zero_le _) (Nat.zero_le _)
  · refine ww_iload_n dX4_lastDoerOf_4 rfl rfl ?_
    refine ww_bipush (v := 40) dX4_lastDoerOf_5 (by decide) ?_
    refine ww_icmp_ge (tgt := 19) dX4_lastDoerOf_7 (by decide) (fun c7 => ?_) (fun c7 => ?_)
    · refine ww_iconst (v := -1) dX4_lastDoerOf_19 (by decide) ?_
      exact ww_iret dX4_lastDoerOf_20 rfl ⟨rfl, rfl⟩ (Nat.zero_le _) (Nat.zero_le _)
    · exact absurd (wIn_t (n := 40) rfl (by decide) c1 c7) (wb_nt hno)
set_option maxHeartbeats 4000000 in
theorem c4_noteDoer {x y : Int32} {j : Nat} (hx : x = nI j) (hj : j < 40) : Sat G mX4_noteDoer [.ref m, .int x, .int y] (rrh m F O R h0, sz) (Det none (rrh m F O (va_up R 4 (upd (R 4) j y)) h0, sz)) := by
  refine Sat.of (by decide) [some (.ref m), some (.int x), some (.int y)] rfl rfl (fun X => ?_)
  refine ww_iload_n dX4_noteDoer_0 rfl rfl ?_
  refine ww_if_lt (tgt := 17) dX4_noteDoer_1 (by decide) (fun c1 => ?_) (fun c1 => ?_)
  · exact absurd c1 (by rw [hx]; exact nI_pos (by omega))
  · refine ww_iload_n dX4_noteDoer_4 rfl rfl ?_
    refine ww_bipush (v := 40) dX4_noteDoer_5 (by decide) ?_
    refine ww_icmp_ge (tgt := 17) dX4_noteDoer_7 (by decide) (fun c7 => ?_) (fun c7 => ?_)
    · exact absurd c7 (by rw [hx]; exact Int32.not_le.mpr (nI_lt (b := 40) hj (by decide)))
    · refine ww_aload_n dX4_noteDoer_10 rfl rfl ?_
      refine rr_getr dX4_noteDoer_11 fX4_26 rfl ?_
      refine ww_iload_n dX4_noteDoer_14 rfl rfl ?_
      refine ww_iload_n dX4_noteDoer_15 rfl rfl ?_
      refine rr_iast dX4_noteDoer_16 rfl hx hj rfl ?_
      exact ww_vret dX4_noteDoer_17 rfl ⟨rfl, rfl⟩ (Nat.zero_le _) (Nat.zero_le _)
end B6
section B6W
variable {G : wG} {Λ : wL} {F : Nat → Nat → Int32} {O : Nat → Nat → Option Nat} {R : Nat → Nat → Nat → Int32} {h0 : Nat → Option wE} {sz i b m a : Nat}
theorem wa_wa {kf : Nat} {q : Nat × Nat × FieldType} (hk : Lk Λ i 6 m) (h : waPos kf = some q) : wld Λ F O R h0 (waAd m kf) = some (.inl (q.2.2, q.2.1, .inl (R i kf))) := by
  rw [← wa_wg hk]; exact wah_arr h
theorem wa_wu {kf : Nat} {q : Nat × Nat × FieldType} (hk : Lk Λ i 6 m) (h : waPos kf = some q) (g : Nat → Int32) : va_up (wld Λ F O R h0) (waAd m kf) (some (.inl (q.2.2, q.2.1, .inl g))) = wld Λ F O (va_up R i (va_up (R i) kf g)) h0 := by
  have e := wah_puta (m := m) (F := F i) (O := O i) (R := R i) (h0 := wld Λ F O R h0) h g
  rw [wa_wg hk, wa_wp hk, w_up_id, w_up_id] at e
  exact e
theorem rr_wa {kf : Nat} {q : Nat × Nat × FieldType} (hk : Lk Λ i 7 m) (h : rrPos kf = some q) : wld Λ F O R h0 (rrAd m kf) = some (.inl (q.2.2, q.2.1, .inl (R i kf))) := by
  rw [← rr_wg hk]; exact rrh_arr h
theorem rr_wu {kf : Nat} {q : Nat × Nat × FieldType} (hk : Lk Λ i 7 m) (h : rrPos kf = some q) (g : Nat → Int32) : va_up (wld Λ F O R h0) (rrAd m kf) (some (.inl (q.2.2, q.2.1, .inl g))) = wld Λ F O (va_up R i (va_up (R i) kf g)) h0 := by
  have e := rrh_puta (m := m) (F := F i) (O := O i) (R := R i) (h0 := wld Λ F O R h0) h g
  rw [rr_wg hk, rr_wp hk, w_up_id, w_up_id] at e
  exact e
theorem Wcp_warr {M : wM} {cc : ByteArray} {X : wX} {Z : State → Prop} {pc : Nat} {lv : List (Option Value)} {st : List Value} {k n index j kf0 kf1 p0 p1 t : Nat} {x : Int32} (h0k : Lk Λ j 6 a) (h1k : Lk Λ i 7 m) (hd : decode cc pc = .ok (.invokestatic index, 3)) (L : Cond.methodLink M.1.cls index arraycopyName ∈ wTb ∧ Cond.native arraycopyName ∈ wTb ∧ Cond.static arraycopyName ∈ wTb ∧ Cond.initialized "java/lang/System" ∈ wTb) (h0p : waPos kf0 = some (p0, t, .int)) (h1p : rrPos kf1 = some (p1, t, .int)) (ht : x = nI t) (htb : t < 2 ^ 31) (hlev : Nat.ble 1 M.2.2.2.2.1 = true) (hro : Nat.ble (st.map fun v => v.category).sum 8 = true) (kk : WW G M cc X Z (pc + 3) lv st (wld Λ F O (va_up R i (va_up (R i) kf1 (cpN t (R j kf0) (R i kf1)))) h0, sz) k n) : WW G M cc X Z pc lv (.int x :: .int 0 :: .ref (rrAd m kf1) :: .int 0 :: .ref (waAd a kf0) :: st) (wld Λ F O R h0, sz) k n := by
  refine ww_copyi (t := t) (f := R j kf0) (g := R i kf1) (n0 := t) (n1 := t) hd L (wa_wa h0k h0p) (rr_wa h1k h1p) ht (Nat.le_refl _) (Nat.le_refl _) htb hlev hro ?_
  have e := rr_wu (F := F) (O := O) (R := R) (h0 := h0) h1k h1p (cpN t (R j kf0) (R i kf1))
  dsimp only at e ⊢
  rw [e]
  exact kk
theorem Wcp_rrwa {M : wM} {cc : ByteArray} {X : wX} {Z : State → Prop} {pc : Nat} {lv : List (Option Value)} {st : List Value} {k n index j kf0 kf1 p0 p1 t : Nat} {x : Int32} (h0k : Lk Λ j 7 a) (h1k : Lk Λ i 6 m) (hd : decode cc pc = .ok (.invokestatic index, 3)) (L : Cond.methodLink M.1.cls index arraycopyName ∈ wTb ∧ Cond.native arraycopyName ∈ wTb ∧ Cond.static arraycopyName ∈ wTb ∧ Cond.initialized "java/lang/System" ∈ wTb) (h0p : rrPos kf0 = some (p0, t, .int)) (h1p : waPos kf1 = some (p1, t, .int)) (ht : x = nI t) (htb : t < 2 ^ 31) (hlev : Nat.ble 1 M.2.2.2.2.1 = true) (hro : Nat.ble (st.map fun v => v.category).sum 8 = true) (kk : WW G M cc X Z (pc + 3) lv st (wld Λ F O (va_up R i (va_up (R i) kf1 (cpN t (R j kf0) (R i kf1)))) h0, sz) k n) : WW G M cc X Z pc lv (.int x :: .int 0 :: .ref (waAd m kf1) :: .int 0 :: .ref (rrAd a kf0) :: st) (wld Λ F O R h0, sz) k n := by
  refine ww_copyi (t := t) (f := R j kf0) (g := R i kf1) (n0 := t) (n1 := t) hd L (rr_wa h0k h0p) (wa_wa h1k h1p) ht (Nat.le_refl _) (Nat.le_refl _) htb hlev hro ?_
  have e := wa_wu (F := F) (O := O) (R := R) (h0 := h0) h1k h1p (cpN t (R j kf0) (R i kf1))
  dsimp only at e ⊢
  rw [e]
  exact kk
set_option maxHeartbeats 4000000 in
theorem c4_take {w : Nat} (hR : Lk Λ i 7 m) (hW : Lk Λ w 6 a) (hne : w ≠ i) (hov : F w 4 = 0 ∨ F w 4 = 1) : Sat G mX4_take [.ref m, .ref a] (wld Λ F O R h0, sz) (Det none (wld Λ (va_up F i (upd (F i) 5 (F w 4))) O (va_up R i (va_up (va_up (R i) 2 (cpN 4 (R w 0) (R i 2))) 3 (cpN 40 (R w 1) (R i 3)))) h0, sz)) := by
  refine Sat.of (by decide) [some (.ref m), some (.ref a)] rfl rfl (fun X => ?_)
  refine ww_aload_n dX4_take_0 rfl rfl ?_
  refine Wwa_getr hW dX4_take_1 fX4_36 rfl ?_
  refine ww_iconst (v := 0) dX4_take_4 (by decide) ?_
  refine ww_aload_n dX4_take_5 rfl rfl ?_
  refine Wrr_getr hR dX4_take_6 fX4_19 rfl ?_
  refine ww_iconst (v := 0) dX4_take_9 (by decide) ?_
  refine ww_iconst (v := 4) dX4_take_10 (by decide) ?_
  refine Wcp_warr hW hR dX4_take_11 jX4_39 (kf0 := 0) (kf1 := 2) rfl rfl rfl (by decide) rfl rfl ?_
  refine ww_aload_n dX4_take_14 rfl rfl ?_
  refine Wwa_getr hW dX4_take_15 fX4_45 rfl ?_
  refine ww_iconst (v := 0) dX4_take_18 (by decide) ?_
  refine ww_aload_n dX4_take_19 rfl rfl ?_
  refine Wrr_getr hR dX4_take_20 fX4_23 rfl ?_
  refine ww_iconst (v := 0) dX4_take_23 (by decide) ?_
  refine ww_bipush (v := 40) dX4_take_24 (by decide) ?_
  refine Wcp_warr hW hR dX4_take_26 jX4_39 (kf0 := 1) (kf1 := 3) rfl rfl rfl (by decide) rfl rfl ?_
  refine ww_aload_n dX4_take_29 rfl rfl ?_
  refine ww_aload_n dX4_take_30 rfl rfl ?_
  refine Wwa_geti hW dX4_take_31 fX4_46 rfl rfl ?_
  refine Wrr_putz hR dX4_take_34 fX4_29 rfl rfl hov ?_
  exact ww_vret dX4_take_37 rfl ⟨rfl, by rw [w_up_up, w_up_self, w_up_ne _ _ hne]; rfl⟩ (Nat.zero_le _) (Nat.zero_le _)
set_option maxHeartbeats 4000000 in
theorem c7_startFrom {r : Nat} (hW : Lk Λ i 6 m) (hR : Lk Λ r 7 a) (hne : r ≠ i) : Sat G mX7_startFrom [.ref m, .ref a] (wld Λ F O R h0, sz) (Det none (wld Λ (va_up F i (upd (upd (upd (F i) 3 0) 6 0) 4 0)) O (va_up R i (va_up (va_up (R i) 0 (cpN 4 (R r 2) (R i 0))) 1 (cpN 40 (R r 3) (R i 1)))) h0, sz)) := by
  refine Sat.of (by decide) [some (.ref m), some (.ref a)] rfl rfl (fun X => ?_)
  refine ww_aload_n dX7_startFrom_0 rfl rfl ?_
  refine Wrr_getr hR dX7_startFrom_1 fX7_38 rfl ?_
  refine ww_iconst (v := 0) dX7_startFrom_4 (by decide) ?_
  refine ww_aload_n dX7_startFrom_5 rfl rfl ?_
  refine Wwa_getr hW dX7_startFrom_6 fX7_9 rfl ?_
  refine ww_iconst (v := 0) dX7_startFrom_9 (by decide) ?_
  refine ww_iconst (v := 4) dX7_startFrom_10 (by decide) ?_
  refine Wcp_rrwa hR hW dX7_startFrom_11 jX7_41 (kf0 := 2) (kf1 := 0) rfl rfl rfl (by decide) rfl rfl ?_
  refine ww_aload_n dX7_startFrom_14 rfl rfl ?_
  refine Wrr_getr hR dX7_startFrom_15 fX7_47 rfl ?_
  refine ww_iconst (v := 0) dX7_startFrom_18 (by decide) ?_
  refine ww_aload_n dX7_startFrom_19 rfl rfl ?_
  refine Wwa_getr hW dX7_startFrom_20 fX7_15 rfl ?_
  refine ww_iconst (v := 0) dX7_startFrom_23 (by decide) ?_
  refine ww_bipush (v := 40) dX7_startFrom_24 (by decide) ?_
  refine Wcp_rrwa hR hW dX7_startFrom_26 jX7_41 (kf0 := 3) (kf1 := 1) rfl rfl rfl (by decide) rfl rfl ?_
  refine ww_aload_n dX7_startFrom_29 rfl rfl ?_
  refine Wwa_call0 hW dX7_startFrom_30 kX7_35 rfl rfl (wa_lF hW c7_forgetWhatCame) rfl rfl rfl rfl rfl rfl (Nat.zero_le _) (Nat.zero_le _) ?_
  exact ww_vret dX7_startFrom_33 rfl ⟨rfl, by rw [w_up_up, w_up_self, w_up_ne _ _ hne]; rfl⟩ (Nat.zero_le _) (Nat.zero_le _)
end B6W
theorem cal_od (u : Nat) (hu : u < 24) : (if (8 : Int32) < (if nI u - 9 < 0 then 0 else nI u - 9) then (8 : Int32) else (if nI u - 9 < 0 then 0 else nI u - 9)) = nI (if u < 9 then 0 else if u < 17 then u - 9 else 8) := by
  have h : ∀ u, u < 24 → (if (8 : Int32) < (if nI u - 9 < 0 then 0 else nI u - 9) then (8 : Int32) else (if nI u - 9 < 0 then 0 else nI u - 9)) = nI (if u < 9 then 0 else if u < 17 then u - 9 else 8) := by decide
  exact h u hu
section CAL
variable {G : wG}
set_option maxHeartbeats 4000000 in
theorem c1_before {x : Int32} {q : Nat} {h : wH} (hx : x = nI q) (hq : q ≤ 20000) : Sat G mX1_workingHoursBefore [.int x] h (Det (some (.int (nI (wHr q)))) h) := by
  refine Sat.of (by decide) [some (.int x), none, none, none, none] rfl rfl (fun X => ?_)
  refine ww_iload_n dX1_workingHoursBefore_0 rfl rfl ?_
  refine ww_sipush (v := 168) dX1_workingHoursBefore_1 (by decide) ?_
  refine ww_irem dX1_workingHoursBefore_4 (by decide) ?_
  rw [show x - x / 168 * 168 = nI (q % 168) from w_rm hx (by omega) (by decide) (by decide)]
  refine ww_istore_n dX1_workingHoursBefore_5 rfl rfl rfl ?_
  refine ww_iload_n dX1_workingHoursBefore_6 rfl rfl ?_
  refine ww_bipush (v := 24) dX1_workingHoursBefore_7 (by decide) ?_
  refine ww_idiv dX1_workingHoursBefore_9 (by decide) ?_
  rw [show nI (q % 168) / 24 = nI (q % 168 / 24) from w_dv rfl (by omega) (by decide) (by decide)]
  refine ww_istore_n dX1_workingHoursBefore_10 rfl rfl rfl ?_
  refine ww_iload_n dX1_workingHoursBefore_11 rfl rfl ?_
  refine ww_bipush (v := 24) dX1_workingHoursBefore_12 (by decide) ?_
  refine ww_irem dX1_workingHoursBefore_14 (by decide) ?_
  rw [show nI (q % 168) - nI (q % 168) / 24 * 24 = nI (q % 168 % 24) from w_rm rfl (by omega) (by decide) (by decide)]
  rw [show q % 168 % 24 = q % 24 by omega]
  refine ww_bipush (v := 9) dX1_workingHoursBefore_15 (by decide) ?_
  refine ww_isub dX1_workingHoursBefore_17 ?_
  refine ww_iconst (v := 0) dX1_workingHoursBefore_18 (by decide) ?_
  refine ww_max dX1_workingHoursBefore_19 jX1_13 rfl rfl (Nat.zero_le _) (Nat.zero_le _) ?_
  refine ww_bipush (v := 8) dX1_workingHoursBefore_22 (by decide) ?_
  refine ww_min dX1_workingHoursBefore_24 jX1_19 rfl rfl (Nat.zero_le _) (Nat.zero_le _) ?_
  rw [cal_od (q % 24) (by omega)]
  refine ww_istore_n dX1_workingHoursBefore_27 rfl rfl rfl ?_
  refine ww_iload_n dX1_workingHoursBefore_28 rfl rfl ?_
  refine ww_iconst (v := 5) dX1_workingHoursBefore_29 (by decide) ?_
  refine ww_icmp_ge (tgt := 42) dX1_workingHoursBefore_30 (by decide) (fun c30 => ?_) (fun c30 => ?_)
  · refine ww_bipush (v := 40) dX1_workingHoursBefore_42 (by decide) ?_
    refine ww_istore dX1_workingHoursBefore_44 rfl rfl ?_
    refine ww_iload_n dX1_workingHoursBefore_46 rfl rfl ?_
    refine ww_sipush (v := 168) dX1_workingHoursBefore_47 (by decide) ?_
    refine ww_idiv dX1_workingHoursBefore_50 (by decide) ?_
    refine ww_bipush (v := 40) dX1_workingHoursBefore_51 (by decide) ?_
    refine ww_imul dX1_workingHoursBefore_53 ?_
    refine ww_iload dX1_workingHoursBefore_54 rfl ?_
    refine ww_iadd dX1_workingHoursBefore_56 ?_
    exact ww_iret dX1_workingHoursBefore_57 rfl ⟨by rw [show x / 168 = nI (q / 168) from w_dv hx (by omega) (by decide) (by decide), wHr, if_neg (by have := (w_le (a := 5) (b := q % 168 / 24) rfl rfl (by decide) (by omega)).mp c30; omega), ← nI_add, ← pk_mul]; rfl, rfl⟩ (Nat.zero_le _) (Nat.zero_le _)
  · refine ww_iload_n dX1_workingHoursBefore_33 rfl rfl ?_
    refine ww_bipush (v := 8) dX1_workingHoursBefore_34 (by decide) ?_
    refine ww_imul dX1_workingHoursBefore_36 ?_
    refine ww_iload_n dX1_workingHoursBefore_37 rfl rfl ?_
    refine ww_iadd dX1_workingHoursBefore_38 ?_
    refine ww_goto (tgt := 44) dX1_workingHoursBefore_39 (by decide) ?_
    refine ww_istore dX1_workingHoursBefore_44 rfl rfl ?_
    refine ww_iload_n dX1_workingHoursBefore_46 rfl rfl ?_
    refine ww_sipush (v := 168) dX1_workingHoursBefore_47 (by decide) ?_
    refine ww_idiv dX1_workingHoursBefore_50 (by decide) ?_
    refine ww_bipush (v := 40) dX1_workingHoursBefore_51 (by decide) ?_
    refine ww_imul dX1_workingHoursBefore_53 ?_
    refine ww_iload dX1_workingHoursBefore_54 rfl ?_
    refine ww_iadd dX1_workingHoursBefore_56 ?_
    exact ww_iret dX1_workingHoursBefore_57 rfl ⟨by rw [show x / 168 = nI (q / 168) from w_dv hx (by omega) (by decide) (by decide), wHr, if_pos (show q % 168 / 24 < 5 by rcases Nat.lt_or_ge (q % 168 / 24) 5 with z | z; exact z; exact absurd ((w_le (a := 5) (b := q % 168 / 24) rfl rfl (by decide) (by omega)).mpr z) c30), ← nI_add, ← nI_add, ← pk_mul, ← pk_mul]; rfl, rfl⟩ (Nat.zero_le _) (Nat.zero_le _)
theorem wHr_le (q : Nat) : wHr q ≤ q := by
  unfold wHr
  (repeat' split) <;> omega
set_option maxHeartbeats 4000000 in
theorem c1_end {x y : Int32} {q l : Nat} {h : wH} (hx : x = nI q) (hq : q ≤ 20000) (hy : y = nI l) (hl : 0 < l) (hl2 : l ≤ 100) : Sat G mX1_endOfWorkingHour [.int x, .int y] h (Det (some (.int (nI (wEn (wHr q + l - 1))))) h) := by
  refine Sat.of (by decide) [some (.int x), some (.int y), none, none, none] rfl rfl (fun X => ?_)
  refine ww_iload_n dX1_endOfWorkingHour_0 rfl rfl ?_
  refine ww_calls1 dX1_endOfWorkingHour_1 kX1_9 (c1_before hx hq) rfl rfl rfl rfl rfl rfl (Nat.zero_le _) (Nat.zero_le _) ?_
  refine ww_iload_n dX1_endOfWorkingHour_4 rfl rfl ?_
  refine ww_iadd dX1_endOfWorkingHour_5 ?_
  refine ww_iconst (v := 1) dX1_endOfWorkingHour_6 (by decide) ?_
  refine ww_isub dX1_endOfWorkingHour_7 ?_
  rw [show nI (wHr q) + y - 1 = nI (wHr q + l - 1) by rw [hy, nI_add, show wHr q + l = wHr q + l - 1 + 1 by omega, nI_p1]; rfl]
  have hb := wHr_le q
  generalize hg : wHr q + l - 1 = g
  have hg2 : g < 21000 := by omega
  refine ww_istore_n dX1_endOfWorkingHour_8 rfl rfl rfl ?_
  refine ww_iload_n dX1_endOfWorkingHour_9 rfl rfl ?_
  refine ww_bipush (v := 40) dX1_endOfWorkingHour_10 (by decide) ?_
  refine ww_irem dX1_endOfWorkingHour_12 (by decide) ?_
  rw [show nI g - nI g / 40 * 40 = nI (g % 40) from w_rm rfl (by omega) (by decide) (by decide)]
  refine ww_istore_n dX1_endOfWorkingHour_13 rfl rfl rfl ?_
  refine ww_iload_n dX1_endOfWorkingHour_14 rfl rfl ?_
  refine ww_bipush (v := 40) dX1_endOfWorkingHour_15 (by decide) ?_
  refine ww_idiv dX1_endOfWorkingHour_17 (by decide) ?_
  refine ww_sipush (v := 168) dX1_endOfWorkingHour_18 (by decide) ?_
  refine ww_imul dX1_endOfWorkingHour_21 ?_
  refine ww_iload_n dX1_endOfWorkingHour_22 rfl rfl ?_
  refine ww_bipush (v := 8) dX1_endOfWorkingHour_23 (by decide) ?_
  refine ww_idiv dX1_endOfWorkingHour_25 (by decide) ?_
  refine ww_bipush (v := 24) dX1_endOfWorkingHour_26 (by decide) ?_
  refine ww_imul dX1_endOfWorkingHour_28 ?_
  refine ww_iadd dX1_endOfWorkingHour_29 ?_
  refine ww_bipush (v := 9) dX1_endOfWorkingHour_30 (by decide) ?_
  refine ww_iadd dX1_endOfWorkingHour_32 ?_
  refine ww_iload_n dX1_endOfWorkingHour_33 rfl rfl ?_
  refine ww_bipush (v := 8) dX1_endOfWorkingHour_34 (by decide) ?_
  refine ww_irem dX1_endOfWorkingHour_36 (by decide) ?_
  refine ww_iadd dX1_endOfWorkingHour_37 ?_
  refine ww_istore dX1_endOfWorkingHour_38 rfl rfl ?_
  refine ww_iload dX1_endOfWorkingHour_40 rfl ?_
  refine ww_iconst (v := 1) dX1_endOfWorkingHour_42 (by decide) ?_
  refine ww_iadd dX1_endOfWorkingHour_43 ?_
  exact ww_iret dX1_endOfWorkingHour_44 rfl ⟨by rw [show nI g / 40 = nI (g / 40) from w_dv rfl (by omega) (by decide) (by decide), show nI (g % 40) / 8 = nI (g % 40 / 8) from w_dv rfl (by omega) (by decide) (by decide), show nI (g % 40) - nI (g % 40 / 8) * 8 = nI (g % 8) from ((congrArg (fun z => nI (g % 40) - z * 8) (w_dv (x := nI (g % 40)) (a := g % 40) (d := 8) rfl (by omega) (by decide) (by decide)).symm).trans (w_rm rfl (by omega) (by decide) (by decide))).trans (by rw [show g % 40 % 8 = g % 8 by omega]), wEn, ← nI_add, ← nI_add, ← nI_add, ← nI_add, ← pk_mul, ← pk_mul]; rfl, rfl⟩ (Nat.zero_le _) (Nat.zero_le _)
end CAL
