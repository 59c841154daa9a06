def bbq (m : Nat) (V : Nat → Value) (j : Nat) (h0 : Nat → Option wE) : Nat → Option wE := fun a => if a = m then some (.inr (0, V)) else if m < a ∧ a < m + 1 + j then bbE (bbFl.getD (a - m - 1) 0) (fun _ _ => 0) else h0 a
section Qbb
variable {G : wG} {M : wM} {cc : ByteArray} {X : wX} {Z : State → Prop} {pc : Nat} {lv : List (Option Value)} {st : List Value} {m k n index : Nat} {h0 : Nat → Option wE} {V : Nat → Value}
theorem bbq_obj {j : Nat} : bbq m V j h0 m = some (.inr (0, V)) := by simp [bbq]
theorem bbq_puto {j : Nat} (V2 : Nat → Value) : va_up (bbq m V j h0) m (some (.inr (0, V2))) = bbq m V2 j h0 := by
  funext a
  by_cases ha : a = m
  · subst ha; simp [va_up, bbq]
  · simp [va_up, bbq, ha]
theorem bbq_push {j : Nat} {e : wE} (hE : bbE (bbFl.getD j 0) (fun _ _ => 0) = some e) : va_up (bbq m V j h0) (m + 1 + j) (some e) = bbq m V (j + 1) h0 := by
  funext a
  by_cases ha : a = m + 1 + j
  · subst ha
    simp only [va_up, bbq]
    rw [if_pos trivial, if_neg (by omega), if_pos (by omega), show m + 1 + j - m - 1 = j by omega, hE]
  · by_cases hm : a = m
    · subst hm; simp [va_up, bbq]; omega
    · simp only [va_up, bbq, if_neg ha, if_neg hm]
      by_cases hb : m < a ∧ a < m + 1 + j
      · rw [if_pos hb, if_pos (by omega)]
      · rw [if_neg hb, if_neg (by omega)]
theorem bbq_new {j : Nat} {atype : ArrayType} {ty : FieldType} {len : Int32} {N' : Nat} {a0 : vp_A} (hd : decode cc pc = .ok (.newarray atype, 2)) (hty : newarray.typeOf atype = ty) (hty2 : ∀ Cn, ty ≠ .object Cn) (hw : Cond.arrayClass ty ∈ wTb) (ha : ∀ cA : ClassId, vp_cell cA a0 = arrV cA N' (fun _ => defaultValue ty)) (hn0 : ¬ len < 0) (hN : len.toNatClampNeg = N') (hbytes : N' * componentBytes ty ≤ 536870912) (hk : k + 1 ≤ M.2.2.2.2.2.1) (hns : n + N' ≤ M.2.2.2.2.2.2) (hE : bbE (bbFl.getD j 0) (fun _ _ => 0) = some (.inl (ty, a0))) (kk : WW G M cc X Z (pc + 2) lv (.ref (m + 1 + j) :: st) (bbq m V (j + 1) h0, m + 1 + (j + 1)) (k + 1) (n + N')) : WW G M cc X Z pc lv (.int len :: st) (bbq m V j h0, m + 1 + j) k n :=
  ww_newa hd hty hty2 hw ha hn0 hN hbytes hk hns (by dsimp only; rw [bbq_push hE]; exact kk)
theorem bbq_put {j kf : Nat} {ty : FieldType} {v : Value} (hd : decode cc pc = .ok (.putfield index, 3)) (L : wFl M.1.cls index 0 kf ty false) (hn : narrow ty v = v) (hfit : fits ty v = true) (kk : WW G M cc X Z (pc + 3) lv st (bbq m (updV V kf v) j h0, m + 1 + j) k n) : WW G M cc X Z pc lv (v :: .ref m :: st) (bbq m V j h0, m + 1 + j) k n :=
  ww_put hd L hn hfit bbq_obj (by dsimp only; rw [bbq_puto]; exact kk)
theorem bbq_putF {j kf : Nat} {ty : FieldType} {v : Value} (hd : decode cc pc = .ok (.putfield index, 3)) (hCo : RX0 = M.1.cls) (L : wFl M.1.cls index 0 kf ty true) (hin2 : M.1.name = "<init>") (hn : narrow ty v = v) (hfit : fits ty v = true) (kk : WW G M cc X Z (pc + 3) lv st (bbq m (updV V kf v) j h0, m + 1 + j) k n) : WW G M cc X Z pc lv (v :: .ref m :: st) (bbq m V j h0, m + 1 + j) k n :=
  ww_putF (C := RX0) (T := TX0) (N := 12) hd rfl hCo L hin2 hn hfit bbq_obj (by dsimp only; rw [bbq_puto]; exact kk)
theorem bbq_0 : va_up h0 m (some (.inr (0, V))) = bbq m V 0 h0 := by
  funext a
  by_cases ha : a = m
  · subst ha; simp [va_up, bbq]
  · simp only [va_up, bbq, if_neg ha]
    rw [if_neg (by omega)]
theorem bbq_h {F : Nat → Int32} {O : Nat → Option Nat} : bbq m (bbV m F O) 8 h0 = bbh m F O (fun _ _ => 0) h0 := by
  funext a
  simp only [bbq, bbh]
end Qbb
theorem bb0_V {m : Nat} : (updV (updV (updV (updV (updV (updV (updV (updV (updV (updV (updV (updV (fun j => defaultValue (tyX0 j)) 0 (.int (0))) 1 (.int (0))) 2 (.int (0))) 3 (.int (0))) 4 (.ref (m + 1 + 0))) 5 (.ref (m + 1 + 1))) 6 (.ref (m + 1 + 2))) 7 (.ref (m + 1 + 3))) 8 (.ref (m + 1 + 4))) 9 (.ref (m + 1 + 5))) 10 (.ref (m + 1 + 6))) 11 (.ref (m + 1 + 7))) = bbV m (fun _ => 0) (fun _ => none) := by
  funext k
  match k with
  | 0 => rfl
  | 1 => rfl
  | 2 => rfl
  | 3 => rfl
  | 4 => rfl
  | 5 => rfl
  | 6 => rfl
  | 7 => rfl
  | 8 => rfl
  | 9 => rfl
  | 10 => rfl
  | 11 => rfl
  | k + 12 =>
    have e1 : bbPos (k + 12) = none := rfl
    have e2 : bbOb (k + 12) = true := by simp [bbOb]
    simp [updV, bbV, e1, e2]
    rfl
set_option maxHeartbeats 4000000 in
theorem c0_init {G : wG} {m : Nat} {h0 : Nat → Option wE} : Sat G mX0_init [.ref m] (va_up h0 m (some (.inr (0, fun j => defaultValue (tyX0 j)))), m + 1) (Det none (bbh m (fun _ => 0) (fun _ => none) (fun _ _ => 0) h0, m + 9)) := by
  rw [bbq_0]
  show Sat G mX0_init [.ref m] (bbq m (fun j => defaultValue (tyX0 j)) 0 h0, m + 1 + 0) _
  refine Sat.of (by decide) [some (.ref m)] rfl rfl (fun X => ?_)
  refine ww_aload_n dX0_init_0 rfl rfl ?_
  refine ww_objInit dX0_init_1 oX0_3 rfl rfl ?_
  refine ww_aload_n dX0_init_4 rfl rfl ?_
  refine ww_iconst (v := 0) dX0_init_5 (by decide) ?_
  refine bbq_put dX0_init_6 fX0_9 rfl rfl ?_
  refine ww_aload_n dX0_init_9 rfl rfl ?_
  refine ww_iconst (v := 0) dX0_init_10 (by decide) ?_
  refine bbq_put dX0_init_11 fX0_15 rfl rfl ?_
  refine ww_aload_n dX0_init_14 rfl rfl ?_
  refine ww_iconst (v := 0) dX0_init_15 (by decide) ?_
  refine bbq_put dX0_init_16 fX0_18 rfl rfl ?_
  refine ww_aload_n dX0_init_19 rfl rfl ?_
  refine ww_iconst (v := 0) dX0_init_20 (by decide) ?_
  refine bbq_put dX0_init_21 fX0_21 rfl rfl ?_
  refine ww_aload_n dX0_init_24 rfl rfl ?_
  refine ww_bipush (v := 121) dX0_init_25 (by decide) ?_
  refine bbq_new (ty := .int) (N' := 121) (a0 := (121, .inl (fun _ => 0))) dX0_init_27 rfl (fun _ q => by cases q) ac_int (fun _ => rfl) (by decide) (by decide) (by decide) (by decide) (by decide) rfl ?_
  refine bbq_putF dX0_init_29 rfl fX0_24 rfl rfl rfl ?_
  refine ww_aload_n dX0_init_32 rfl rfl ?_
  refine ww_bipush (v := 121) dX0_init_33 (by decide) ?_
  refine bbq_new (ty := .int) (N' := 121) (a0 := (121, .inl (fun _ => 0))) dX0_init_35 rfl (fun _ q => by cases q) ac_int (fun _ => rfl) (by decide) (by decide) (by decide) (by decide) (by decide) rfl ?_
  refine bbq_putF dX0_init_37 rfl fX0_28 rfl rfl rfl ?_
  refine ww_aload_n dX0_init_40 rfl rfl ?_
  refine ww_bipush (v := 121) dX0_init_41 (by decide) ?_
  refine bbq_new (ty := .int) (N' := 121) (a0 := (121, .inl (fun _ => 0))) dX0_init_43 rfl (fun _ q => by cases q) ac_int (fun _ => rfl) (by decide) (by decide) (by decide) (by decide) (by decide) rfl ?_
  refine bbq_putF dX0_init_45 rfl fX0_31 rfl rfl rfl ?_
  refine ww_aload_n dX0_init_48 rfl rfl ?_
  refine ww_bipush (v := 121) dX0_init_49 (by decide) ?_
  refine bbq_new (ty := .int) (N' := 121) (a0 := (121, .inl (fun _ => 0))) dX0_init_51 rfl (fun _ q => by cases q) ac_int (fun _ => rfl) (by decide) (by decide) (by decide) (by decide) (by decide) rfl ?_
  refine bbq_putF dX0_init_53 rfl fX0_34 rfl rfl rfl ?_
  refine ww_aload_n dX0_init_56 rfl rfl ?_
  refine ww_bipush (v := 40) dX0_init_57 (by decide) ?_
  refine bbq_new (ty := .int) (N' := 40) (a0 := (40, .inl (fun _ => 0))) dX0_init_59 rfl (fun _ q => by cases q) ac_int (fun _ => rfl) (by decide) (by decide) (by decide) (by decide) (by decide) rfl ?_
  refine bbq_putF dX0_init_61 rfl fX0_37 rfl rfl rfl ?_
  refine ww_aload_n dX0_init_64 rfl rfl ?_
  refine ww_bipush (v := 40) dX0_init_65 (by decide) ?_
  refine bbq_new (ty := .int) (N' := 40) (a0 := (40, .inl (fun _ => 0))) dX0_init_67 rfl (fun _ q => by cases q) ac_int (fun _ => rfl) (by decide) (by decide) (by decide) (by decide) (by decide) rfl ?_
  refine bbq_putF dX0_init_69 rfl fX0_40 rfl rfl rfl ?_
  refine ww_aload_n dX0_init_72 rfl rfl ?_
  refine ww_bipush (v := 40) dX0_init_73 (by decide) ?_
  refine bbq_new (ty := .int) (N' := 40) (a0 := (40, .inl (fun _ => 0))) dX0_init_75 rfl (fun _ q => by cases q) ac_int (fun _ => rfl) (by decide) (by decide) (by decide) (by decide) (by decide) rfl ?_
  refine bbq_putF dX0_init_77 rfl fX0_43 rfl rfl rfl ?_
  refine ww_aload_n dX0_init_80 rfl rfl ?_
  refine ww_bipush (v := 40) dX0_init_81 (by decide) ?_
  refine bbq_new (ty := .int) (N' := 40) (a0 := (40, .inl (fun _ => 0))) dX0_init_83 rfl (fun _ q => by cases q) ac_int (fun _ => rfl) (by decide) (by decide) (by decide) (by decide) (by decide) rfl ?_
  refine bbq_putF dX0_init_85 rfl fX0_46 rfl rfl rfl ?_
  exact ww_vret dX0_init_88 rfl ⟨rfl, by rw [bb0_V, bbq_h]⟩ (by decide) (by decide)
def ppq (m : Nat) (V : Nat → Value) (j : Nat) (h0 : Nat → Option wE) : Nat → Option wE := fun a => if a = m then some (.inr (1, V)) else if m < a ∧ a < m + 1 + j then ppE (ppFl.getD (a - m - 1) 0) (fun _ _ => 0) else h0 a
section Qpp
variable {G : wG} {M : wM} {cc : ByteArray} {X : wX} {Z : State → Prop} {pc : Nat} {lv : List (Option Value)} {st : List Value} {m k n index : Nat} {h0 : Nat → Option wE} {V : Nat → Value}
theorem ppq_obj {j : Nat} : ppq m V j h0 m = some (.inr (1, V)) := by simp [ppq]
theorem ppq_puto {j : Nat} (V2 : Nat → Value) : va_up (ppq m V j h0) m (some (.inr (1, V2))) = ppq m V2 j h0 := by
  funext a
  by_cases ha : a = m
  · subst ha; simp [va_up, ppq]
  · simp [va_up, ppq, ha]
theorem ppq_push {j : Nat} {e : wE} (hE : ppE (ppFl.getD j 0) (fun _ _ => 0) = some e) : va_up (ppq m V j h0) (m + 1 + j) (some e) = ppq m V (j + 1) h0 := by
  funext a
  by_cases ha : a = m + 1 + j
  · subst ha
    simp only [va_up, ppq]
    rw [if_pos trivial, if_neg (by omega), if_pos (by omega), show m + 1 + j - m - 1 = j by omega, hE]
  · by_cases hm : a = m
    · subst hm; simp [va_up, ppq]; omega
    · simp only [va_up, ppq, if_neg ha, if_neg hm]
      by_cases hb : m < a ∧ a < m + 1 + j
      · rw [if_pos hb, if_pos (by omega)]
      · rw [if_neg hb, if_neg (by omega)]
theorem ppq_new {j : Nat} {atype : ArrayType} {ty : FieldType} {len : Int32} {N' : Nat} {a0 : vp_A} (hd : decode cc pc = .ok (.newarray atype, 2)) (hty : newarray.typeOf atype = ty) (hty2 : ∀ Cn, ty ≠ .object Cn) (hw : Cond.arrayClass ty ∈ wTb) (ha : ∀ cA : ClassId, vp_cell cA a0 = arrV cA N' (fun _ => defaultValue ty)) (hn0 : ¬ len < 0) (hN : len.toNatClampNeg = N') (hbytes : N' * componentBytes ty ≤ 536870912) (hk : k + 1 ≤ M.2.2.2.2.2.1) (hns : n + N' ≤ M.2.2.2.2.2.2) (hE : ppE (ppFl.getD j 0) (fun _ _ => 0) = some (.inl (ty, a0))) (kk : WW G M cc X Z (pc + 2) lv (.ref (m + 1 + j) :: st) (ppq m V (j + 1) h0, m + 1 + (j + 1)) (k + 1) (n + N')) : WW G M cc X Z pc lv (.int len :: st) (ppq m V j h0, m + 1 + j) k n :=
  ww_newa hd hty hty2 hw ha hn0 hN hbytes hk hns (by dsimp only; rw [ppq_push hE]; exact kk)
theorem ppq_put {j kf : Nat} {ty : FieldType} {v : Value} (hd : decode cc pc = .ok (.putfield index, 3)) (L : wFl M.1.cls index 1 kf ty false) (hn : narrow ty v = v) (hfit : fits ty v = true) (kk : WW G M cc X Z (pc + 3) lv st (ppq m (updV V kf v) j h0, m + 1 + j) k n) : WW G M cc X Z pc lv (v :: .ref m :: st) (ppq m V j h0, m + 1 + j) k n :=
  ww_put hd L hn hfit ppq_obj (by dsimp only; rw [ppq_puto]; exact kk)
theorem ppq_putF {j kf : Nat} {ty : FieldType} {v : Value} (hd : decode cc pc = .ok (.putfield index, 3)) (hCo : RX2 = M.1.cls) (L : wFl M.1.cls index 1 kf ty true) (hin2 : M.1.name = "<init>") (hn : narrow ty v = v) (hfit : fits ty v = true) (kk : WW G M cc X Z (pc + 3) lv st (ppq m (updV V kf v) j h0, m + 1 + j) k n) : WW G M cc X Z pc lv (v :: .ref m :: st) (ppq m V j h0, m + 1 + j) k n :=
  ww_putF (C := RX2) (T := TX2) (N := 7) hd rfl hCo L hin2 hn hfit ppq_obj (by dsimp only; rw [ppq_puto]; exact kk)
theorem ppq_0 : va_up h0 m (some (.inr (1, V))) = ppq m V 0 h0 := by
  funext a
  by_cases ha : a = m
  · subst ha; simp [va_up, ppq]
  · simp only [va_up, ppq, if_neg ha]
    rw [if_neg (by omega)]
theorem ppq_h {F : Nat → Int32} {O : Nat → Option Nat} : ppq m (ppV m F O) 6 h0 = pph m F O (fun _ _ => 0) h0 := by
  funext a
  simp only [ppq, pph]
end Qpp
theorem pp0_V {m : Nat} : (updV (updV (updV (updV (updV (updV (updV (fun j => defaultValue (tyX2 j)) 0 (.int (0))) 1 (.ref (m + 1 + 0))) 2 (.ref (m + 1 + 1))) 3 (.ref (m + 1 + 2))) 4 (.ref (m + 1 + 3))) 5 (.ref (m + 1 + 4))) 6 (.ref (m + 1 + 5))) = ppV m (fun _ => 0) (fun _ => none) := by
  funext k
  match k with
  | 0 => rfl
  | 1 => rfl
  | 2 => rfl
  | 3 => rfl
  | 4 => rfl
  | 5 => rfl
  | 6 => rfl
  | k + 7 =>
    have e1 : ppPos (k + 7) = none := rfl
    have e2 : ppOb (k + 7) = true := by simp [ppOb]
    simp [updV, ppV, e1, e2]
    rfl
set_option maxHeartbeats 4000000 in
theorem c2_init {G : wG} {m : Nat} {h0 : Nat → Option wE} : Sat G mX2_init [.ref m] (va_up h0 m (some (.inr (1, fun j => defaultValue (tyX2 j)))), m + 1) (Det none (pph m (fun _ => 0) (fun _ => none) (fun _ _ => 0) h0, m + 7)) := by
  rw [ppq_0]
  show Sat G mX2_init [.ref m] (ppq m (fun j => defaultValue (tyX2 j)) 0 h0, m + 1 + 0) _
  refine Sat.of (by decide) [some (.ref m)] rfl rfl (fun X => ?_)
  refine ww_aload_n dX2_init_0 rfl rfl ?_
  refine ww_objInit dX2_init_1 oX2_3 rfl rfl ?_
  refine ww_aload_n dX2_init_4 rfl rfl ?_
  refine ww_iconst (v := 0) dX2_init_5 (by decide) ?_
  refine ppq_put dX2_init_6 fX2_9 rfl rfl ?_
  refine ww_aload_n dX2_init_9 rfl rfl ?_
  refine ww_bipush (v := 8) dX2_init_10 (by decide) ?_
  refine ppq_new (ty := .int) (N' := 8) (a0 := (8, .inl (fun _ => 0))) dX2_init_12 rfl (fun _ q => by cases q) ac_int (fun _ => rfl) (by decide) (by decide) (by decide) (by decide) (by decide) rfl ?_
  refine ppq_putF dX2_init_14 rfl fX2_15 rfl rfl rfl ?_
  refine ww_aload_n dX2_init_17 rfl rfl ?_
  refine ww_bipush (v := 8) dX2_init_18 (by decide) ?_
  refine ppq_new (ty := .int) (N' := 8) (a0 := (8, .inl (fun _ => 0))) dX2_init_20 rfl (fun _ q => by cases q) ac_int (fun _ => rfl) (by decide) (by decide) (by decide) (by decide) (by decide) rfl ?_
  refine ppq_putF dX2_init_22 rfl fX2_19 rfl rfl rfl ?_
  refine ww_aload_n dX2_init_25 rfl rfl ?_
  refine ww_bipush (v := 8) dX2_init_26 (by decide) ?_
  refine ppq_new (ty := .int) (N' := 8) (a0 := (8, .inl (fun _ => 0))) dX2_init_28 rfl (fun _ q => by cases q) ac_int (fun _ => rfl) (by decide) (by decide) (by decide) (by decide) (by decide) rfl ?_
  refine ppq_putF dX2_init_30 rfl fX2_22 rfl rfl rfl ?_
  refine ww_aload_n dX2_init_33 rfl rfl ?_
  refine ww_bipush (v := 8) dX2_init_34 (by decide) ?_
  refine ppq_new (ty := .int) (N' := 8) (a0 := (8, .inl (fun _ => 0))) dX2_init_36 rfl (fun _ q => by cases q) ac_int (fun _ => rfl) (by decide) (by decide) (by decide) (by decide) (by decide) rfl ?_
  refine ppq_putF dX2_init_38 rfl fX2_25 rfl rfl rfl ?_
  refine ww_aload_n dX2_init_41 rfl rfl ?_
  refine ww_bipush (v := 8) dX2_init_42 (by decide) ?_
  refine ppq_new (ty := .int) (N' := 8) (a0 := (8, .inl (fun _ => 0))) dX2_init_44 rfl (fun _ q => by cases q) ac_int (fun _ => rfl) (by decide) (by decide) (by decide) (by decide) (by decide) rfl ?_
  refine ppq_putF dX2_init_46 rfl fX2_28 rfl rfl rfl ?_
  refine ww_aload_n dX2_init_49 rfl rfl ?_
  refine ww_bipush (v := 8) dX2_init_50 (by decide) ?_
  refine ppq_new (ty := .boolean) (N' := 8) (a0 := (8, .inl (fun _ => 0))) dX2_init_52 rfl (fun _ q => by cases q) ac_boolean (fun _ => rfl) (by decide) (by decide) (by decide) (by decide) (by decide) rfl ?_
  refine ppq_putF dX2_init_54 rfl fX2_31 rfl rfl rfl ?_
  exact ww_vret dX2_init_57 rfl ⟨rfl, by rw [pp0_V, ppq_h]⟩ (by decide) (by decide)
def ttq (m : Nat) (V : Nat → Value) (j : Nat) (h0 : Nat → Option wE) : Nat → Option wE := fun a => if a = m then some (.inr (5, V)) else if m < a ∧ a < m + 1 + j then ttE (ttFl.getD (a - m - 1) 0) (fun _ _ => 0) else h0 a
section Qtt
variable {G : wG} {M : wM} {cc : ByteArray} {X : wX} {Z : State → Prop} {pc : Nat} {lv : List (Option Value)} {st : List Value} {m k n index : Nat} {h0 : Nat → Option wE} {V : Nat → Value}
theorem ttq_obj {j : Nat} : ttq m V j h0 m = some (.inr (5, V)) := by simp [ttq]
theorem ttq_puto {j : Nat} (V2 : Nat → Value) : va_up (ttq m V j h0) m (some (.inr (5, V2))) = ttq m V2 j h0 := by
  funext a
  by_cases ha : a = m
  · subst ha; simp [va_up, ttq]
  · simp [va_up, ttq, ha]
theorem ttq_push {j : Nat} {e : wE} (hE : ttE (ttFl.getD j 0) (fun _ _ => 0) = some e) : va_up (ttq m V j h0) (m + 1 + j) (some e) = ttq m V (j + 1) h0 := by
  funext a
  by_cases ha : a = m + 1 + j
  · subst ha
    simp only [va_up, ttq]
    rw [if_pos trivial, if_neg (by omega), if_pos (by omega), show m + 1 + j - m - 1 = j by omega, hE]
  · by_cases hm : a = m
    · subst hm; simp [va_up, ttq]; omega
    · simp only [va_up, ttq, if_neg ha, if_neg hm]
      by_cases hb : m < a ∧ a < m + 1 + j
      · rw [if_pos hb, if_pos (by omega)]
      · rw [if_neg hb, if_neg (by omega)]
theorem ttq_new {j : Nat} {atype : ArrayType} {ty : FieldType} {len : Int32} {N' : Nat} {a0 : vp_A} (hd : decode cc pc = .ok (.newarray atype, 2)) (hty : newarray.typeOf atype = ty) (hty2 : ∀ Cn, ty ≠ .object Cn) (hw : Cond.arrayClass ty ∈ wTb) (ha : ∀ cA : ClassId, vp_cell cA a0 = arrV cA N' (fun _ => defaultValue ty)) (hn0 : ¬ len < 0) (hN : len.toNatClampNeg = N') (hbytes : N' * componentBytes ty ≤ 536870912) (hk : k + 1 ≤ M.2.2.2.2.2.1) (hns : n + N' ≤ M.2.2.2.2.2.2) (hE : ttE (ttFl.getD j 0) (fun _ _ => 0) = some (.inl (ty, a0))) (kk : WW G M cc X Z (pc + 2) lv (.ref (m + 1 + j) :: st) (ttq m V (j + 1) h0, m + 1 + (j + 1)) (k + 1) (n + N')) : WW G M cc X Z pc lv (.int len :: st) (ttq m V j h0, m + 1 + j) k n :=
  ww_newa hd hty hty2 hw ha hn0 hN hbytes hk hns (by dsimp only; rw [ttq_push hE]; exact kk)
theorem ttq_put {j kf : Nat} {ty : FieldType} {v : Value} (hd : decode cc pc = .ok (.putfield index, 3)) (L : wFl M.1.cls index 5 kf ty false) (hn : narrow ty v = v) (hfit : fits ty v = true) (kk : WW G M cc X Z (pc + 3) lv st (ttq m (updV V kf v) j h0, m + 1 + j) k n) : WW G M cc X Z pc lv (v :: .ref m :: st) (ttq m V j h0, m + 1 + j) k n :=
  ww_put hd L hn hfit ttq_obj (by dsimp only; rw [ttq_puto]; exact kk)
theorem ttq_putF {j kf : Nat} {ty : FieldType} {v : Value} (hd : decode cc pc = .ok (.putfield index, 3)) (hCo : RX6 = M.1.cls) (L : wFl M.1.cls index 5 kf ty true) (hin2 : M.1.name = "<init>") (hn : narrow ty v = v) (hfit : fits ty v = true) (kk : WW G M cc X Z (pc + 3) lv st (ttq m (updV V kf v) j h0, m + 1 + j) k n) : WW G M cc X Z pc lv (v :: .ref m :: st) (ttq m V j h0, m + 1 + j) k n :=
  ww_putF (C := RX6) (T := TX6) (N := 10) hd rfl hCo L hin2 hn hfit ttq_obj (by dsimp only; rw [ttq_puto]; exact kk)
theorem ttq_0 : va_up h0 m (some (.inr (5, V))) = ttq m V 0 h0 := by
  funext a
  by_cases ha : a = m
  · subst ha; simp [va_up, ttq]
  · simp only [va_up, ttq, if_neg ha]
    rw [if_neg (by omega)]
theorem ttq_h {F : Nat → Int32} {O : Nat → Option Nat} : ttq m (ttV m F O) 9 h0 = tth m F O (fun _ _ => 0) h0 := by
  funext a
  simp only [ttq, tth]
end Qtt
theorem tt0_V {m : Nat} : (updV (updV (updV (updV (updV (updV (updV (updV (updV (updV (fun j => defaultValue (tyX6 j)) 0 (.int (0))) 1 (.ref (m + 1 + 0))) 2 (.ref (m + 1 + 1))) 3 (.ref (m + 1 + 2))) 4 (.ref (m + 1 + 3))) 5 (.ref (m + 1 + 4))) 6 (.ref (m + 1 + 5))) 7 (.ref (m + 1 + 6))) 8 (.ref (m + 1 + 7))) 9 (.ref (m + 1 + 8))) = ttV m (fun _ => 0) (fun _ => none) := by
  funext k
  match k with
  | 0 => rfl
  | 1 => rfl
  | 2 => rfl
  | 3 => rfl
  | 4 => rfl
  | 5 => rfl
  | 6 => rfl
  | 7 => rfl
  | 8 => rfl
  | 9 => rfl
  | k + 10 =>
    have e1 : ttPos (k + 10) = none := rfl
    have e2 : ttOb (k + 10) = true := by simp [ttOb]
    simp [updV, ttV, e1, e2]
    rfl
set_option maxHeartbeats 4000000 in
theorem c6_init {G : wG} {m : Nat} {h0 : Nat → Option wE} : Sat G mX6_init [.ref m] (va_up h0 m (some (.inr (5, fun j => defaultValue (tyX6 j)))), m + 1) (Det none (tth m (fun _ => 0) (fun _ => none) (fun _ _ => 0) h0, m + 10)) := by
  rw [ttq_0]
  show Sat G mX6_init [.ref m] (ttq m (fun j => defaultValue (tyX6 j)) 0 h0, m + 1 + 0) _
  refine Sat.of (by decide) [some (.ref m)] rfl rfl (fun X => ?_)
  refine ww_aload_n dX6_init_0 rfl rfl ?_
  refine ww_objInit dX6_init_1 oX6_3 rfl rfl ?_
  refine ww_aload_n dX6_init_4 rfl rfl ?_
  refine ww_iconst (v := 0) dX6_init_5 (by decide) ?_
  refine ttq_put dX6_init_6 fX6_9 rfl rfl ?_
  refine ww_aload_n dX6_init_9 rfl rfl ?_
  refine ww_sipush (v := 200) dX6_init_10 (by decide) ?_
  refine ttq_new (ty := .int) (N' := 200) (a0 := (200, .inl (fun _ => 0))) dX6_init_13 rfl (fun _ q => by cases q) ac_int (fun _ => rfl) (by decide) (by decide) (by decide) (by decide) (by decide) rfl ?_
  refine ttq_putF dX6_init_15 rfl fX6_15 rfl rfl rfl ?_
  refine ww_aload_n dX6_init_18 rfl rfl ?_
  refine ww_sipush (v := 200) dX6_init_19 (by decide) ?_
  refine ttq_new (ty := .int) (N' := 200) (a0 := (200, .inl (fun _ => 0))) dX6_init_22 rfl (fun _ q => by cases q) ac_int (fun _ => rfl) (by decide) (by decide) (by decide) (by decide) (by decide) rfl ?_
  refine ttq_putF dX6_init_24 rfl fX6_19 rfl rfl rfl ?_
  refine ww_aload_n dX6_init_27 rfl rfl ?_
  refine ww_sipush (v := 200) dX6_init_28 (by decide) ?_
  refine ttq_new (ty := .int) (N' := 200) (a0 := (200, .inl (fun _ => 0))) dX6_init_31 rfl (fun _ q => by cases q) ac_int (fun _ => rfl) (by decide) (by decide) (by decide) (by decide) (by decide) rfl ?_
  refine ttq_putF dX6_init_33 rfl fX6_22 rfl rfl rfl ?_
  refine ww_aload_n dX6_init_36 rfl rfl ?_
  refine ww_sipush (v := 200) dX6_init_37 (by decide) ?_
  refine ttq_new (ty := .int) (N' := 200) (a0 := (200, .inl (fun _ => 0))) dX6_init_40 rfl (fun _ q => by cases q) ac_int (fun _ => rfl) (by decide) (by decide) (by decide) (by decide) (by decide) rfl ?_
  refine ttq_putF dX6_init_42 rfl fX6_25 rfl rfl rfl ?_
  refine ww_aload_n dX6_init_45 rfl rfl ?_
  refine ww_sipush (v := 200) dX6_init_46 (by decide) ?_
  refine ttq_new (ty := .int) (N' := 200) (a0 := (200, .inl (fun _ => 0))) dX6_init_49 rfl (fun _ q => by cases q) ac_int (fun _ => rfl) (by decide) (by decide) (by decide) (by decide) (by decide) rfl ?_
  refine ttq_putF dX6_init_51 rfl fX6_28 rfl rfl rfl ?_
  refine ww_aload_n dX6_init_54 rfl rfl ?_
  refine ww_sipush (v := 200) dX6_init_55 (by decide) ?_
  refine ttq_new (ty := .int) (N' := 200) (a0 := (200, .inl (fun _ => 0))) dX6_init_58 rfl (fun _ q => by cases q) ac_int (fun _ => rfl) (by decide) (by decide) (by decide) (by decide) (by decide) rfl ?_
  refine ttq_putF dX6_init_60 rfl fX6_31 rfl rfl rfl ?_
  refine ww_aload_n dX6_init_63 rfl rfl ?_
  refine ww_sipush (v := 200) dX6_init_64 (by decide) ?_
  refine ttq_new (ty := .int) (N' := 200) (a0 := (200, .inl (fun _ => 0))) dX6_init_67 rfl (fun _ q => by cases q) ac_int (fun _ => rfl) (by decide) (by decide) (by decide) (by decide) (by decide) rfl ?_
  refine ttq_putF dX6_init_69 rfl fX6_34 rfl rfl rfl ?_
  refine ww_aload_n dX6_init_72 rfl rfl ?_
  refine ww_sipush (v := 200) dX6_init_73 (by decide) ?_
  refine ttq_new (ty := .int) (N' := 200) (a0 := (200, .inl (fun _ => 0))) dX6_init_76 rfl (fun _ q => by cases q) ac_int (fun _ => rfl) (by decide) (by decide) (by decide) (by decide) (by decide) rfl ?_
  refine ttq_putF dX6_init_78 rfl fX6_37 rfl rfl rfl ?_
  refine ww_aload_n dX6_init_81 rfl rfl ?_
  refine ww_sipush (v := 200) dX6_init_82 (by decide) ?_
  refine ttq_new (ty := .int) (N' := 200) (a0 := (200, .inl (fun _ => 0))) dX6_init_85 rfl (fun _ q => by cases q) ac_int (fun _ => rfl) (by decide) (by decide) (by decide) (by decide) (by decide) rfl ?_
  refine ttq_putF dX6_init_87 rfl fX6_40 rfl rfl rfl ?_
  exact ww_vret dX6_init_90 rfl ⟨rfl, by rw [tt0_V, ttq_h]⟩ (by decide) (by decide)
def waq (m : Nat) (V : Nat → Value) (j : Nat) (h0 : Nat → Option wE) : Nat → Option wE := fun a => if a = m then some (.inr (6, V)) else if m < a ∧ a < m + 1 + j then waE (waFl.getD (a - m - 1) 0) (fun _ _ => 0) else h0 a
section Qwa
variable {G : wG} {M : wM} {cc : ByteArray} {X : wX} {Z : State → Prop} {pc : Nat} {lv : List (Option Value)} {st : List Value} {m k n index : Nat} {h0 : Nat → Option wE} {V : Nat → Value}
theorem waq_obj {j : Nat} : waq m V j h0 m = some (.inr (6, V)) := by simp [waq]
theorem waq_puto {j : Nat} (V2 : Nat → Value) : va_up (waq m V j h0) m (some (.inr (6, V2))) = waq m V2 j h0 := by
  funext a
  by_cases ha : a = m
  · subst ha; simp [va_up, waq]
  · simp [va_up, waq, ha]
theorem waq_push {j : Nat} {e : wE} (hE : waE (waFl.getD j 0) (fun _ _ => 0) = some e) : va_up (waq m V j h0) (m + 1 + j) (some e) = waq m V (j + 1) h0 := by
  funext a
  by_cases ha : a = m + 1 + j
  · subst ha
    simp only [va_up, waq]
    rw [if_pos trivial, if_neg (by omega), if_pos (by omega), show m + 1 + j - m - 1 = j by omega, hE]
  · by_cases hm : a = m
    · subst hm; simp [va_up, waq]; omega
    · simp only [va_up, waq, if_neg ha, if_neg hm]
      by_cases hb : m < a ∧ a < m + 1 + j
      · rw [if_pos hb, if_pos (by omega)]
      · rw [if_neg hb, if_neg (by omega)]
theorem waq_new {j : Nat} {atype : ArrayType} {ty : FieldType} {len : Int32} {N' : Nat} {a0 : vp_A} (hd : decode cc pc = .ok (.newarray atype, 2)) (hty : newarray.typeOf atype = ty) (hty2 : ∀ Cn, ty ≠ .object Cn) (hw : Cond.arrayClass ty ∈ wTb) (ha : ∀ cA : ClassId, vp_cell cA a0 = arrV cA N' (fun _ => defaultValue ty)) (hn0 : ¬ len < 0) (hN : len.toNatClampNeg = N') (hbytes : N' * componentBytes ty ≤ 536870912) (hk : k + 1 ≤ M.2.2.2.2.2.1) (hns : n + N' ≤ M.2.2.2.2.2.2) (hE : waE (waFl.getD j 0) (fun _ _ => 0) = some (.inl (ty, a0))) (kk : WW G M cc X Z (pc + 2) lv (.ref (m + 1 + j) :: st) (waq m V (j + 1) h0, m + 1 + (j + 1)) (k + 1) (n + N')) : WW G M cc X Z pc lv (.int len :: st) (waq m V j h0, m + 1 + j) k n :=
  ww_newa hd hty hty2 hw ha hn0 hN hbytes hk hns (by dsimp only; rw [waq_push hE]; exact kk)
theorem waq_put {j kf : Nat} {ty : FieldType} {v : Value} (hd : decode cc pc = .ok (.putfield index, 3)) (L : wFl M.1.cls index 6 kf ty false) (hn : narrow ty v = v) (hfit : fits ty v = true) (kk : WW G M cc X Z (pc + 3) lv st (waq m (updV V kf v) j h0, m + 1 + j) k n) : WW G M cc X Z pc lv (v :: .ref m :: st) (waq m V j h0, m + 1 + j) k n :=
  ww_put hd L hn hfit waq_obj (by dsimp only; rw [waq_puto]; exact kk)
theorem waq_putF {j kf : Nat} {ty : FieldType} {v : Value} (hd : decode cc pc = .ok (.putfield index, 3)) (hCo : RX7 = M.1.cls) (L : wFl M.1.cls index 6 kf ty true) (hin2 : M.1.name = "<init>") (hn : narrow ty v = v) (hfit : fits ty v = true) (kk : WW G M cc X Z (pc + 3) lv st (waq m (updV V kf v) j h0, m + 1 + j) k n) : WW G M cc X Z pc lv (v :: .ref m :: st) (waq m V j h0, m + 1 + j) k n :=
  ww_putF (C := RX7) (T := TX7) (N := 7) hd rfl hCo L hin2 hn hfit waq_obj (by dsimp only; rw [waq_puto]; exact kk)
theorem waq_0 : va_up h0 m (some (.inr (6, V))) = waq m V 0 h0 := by
  funext a
  by_cases ha : a = m
  · subst ha; simp [va_up, waq]
  · simp only [va_up, waq, if_neg ha]
    rw [if_neg (by omega)]
theorem waq_h {F : Nat → Int32} {O : Nat → Option Nat} : waq m (waV m F O) 4 h0 = wah m F O (fun _ _ => 0) h0 := by
  funext a
  simp only [waq, wah]
end Qwa
theorem wa0_V {m : Nat} : (updV (updV (updV (updV (updV (updV (updV (fun j => defaultValue (tyX7 j)) 0 (.ref (m + 1 + 0))) 1 (.ref (m + 1 + 1))) 2 (.ref (m + 1 + 2))) 3 (.int (0))) 4 (.int (0))) 5 (.ref (m + 1 + 3))) 6 (.int (0))) = waV m (fun _ => 0) (fun _ => none) := by
  funext k
  match k with
  | 0 => rfl
  | 1 => rfl
  | 2 => rfl
  | 3 => rfl
  | 4 => rfl
  | 5 => rfl
  | 6 => rfl
  | k + 7 =>
    have e1 : waPos (k + 7) = none := rfl
    have e2 : waOb (k + 7) = false := by simp [waOb]
    simp [updV, waV, e1, e2]
    rfl
set_option maxHeartbeats 4000000 in
theorem c7_init {G : wG} {m : Nat} {h0 : Nat → Option wE} : Sat G mX7_init [.ref m] (va_up h0 m (some (.inr (6, fun j => defaultValue (tyX7 j)))), m + 1) (Det none (wah m (fun _ => 0) (fun _ => none) (fun _ _ => 0) h0, m + 5)) := by
  rw [waq_0]
  show Sat G mX7_init [.ref m] (waq m (fun j => defaultValue (tyX7 j)) 0 h0, m + 1 + 0) _
  refine Sat.of (by decide) [some (.ref m)] rfl rfl (fun X => ?_)
  refine ww_aload_n dX7_init_0 rfl rfl ?_
  refine ww_objInit dX7_init_1 oX7_3 rfl rfl ?_
  refine ww_aload_n dX7_init_4 rfl rfl ?_
  refine ww_iconst (v := 4) dX7_init_5 (by decide) ?_
  refine waq_new (ty := .int) (N' := 4) (a0 := (4, .inl (fun _ => 0))) dX7_init_6 rfl (fun _ q => by cases q) ac_int (fun _ => rfl) (by decide) (by decide) (by decide) (by decide) (by decide) rfl ?_
  refine waq_putF dX7_init_8 rfl fX7_9 rfl rfl rfl ?_
  refine ww_aload_n dX7_init_11 rfl rfl ?_
  refine ww_bipush (v := 40) dX7_init_12 (by decide) ?_
  refine waq_new (ty := .int) (N' := 40) (a0 := (40, .inl (fun _ => 0))) dX7_init_14 rfl (fun _ q => by cases q) ac_int (fun _ => rfl) (by decide) (by decide) (by decide) (by decide) (by decide) rfl ?_
  refine waq_putF dX7_init_16 rfl fX7_15 rfl rfl rfl ?_
  refine ww_aload_n dX7_init_19 rfl rfl ?_
  refine ww_bipush (v := 40) dX7_init_20 (by decide) ?_
  refine waq_new (ty := .int) (N' := 40) (a0 := (40, .inl (fun _ => 0))) dX7_init_22 rfl (fun _ q => by cases q) ac_int (fun _ => rfl) (by decide) (by decide) (by decide) (by decide) (by decide) rfl ?_
  refine waq_putF dX7_init_24 rfl fX7_18 rfl rfl rfl ?_
  refine ww_aload_n dX7_init_27 rfl rfl ?_
  refine ww_iconst (v := 0) dX7_init_28 (by decide) ?_
  refine waq_put dX7_init_29 fX7_21 rfl rfl ?_
  refine ww_aload_n dX7_init_32 rfl rfl ?_
  refine ww_iconst (v := 0) dX7_init_33 (by decide) ?_
  refine waq_put dX7_init_34 fX7_25 rfl rfl ?_
  refine ww_aload_n dX7_init_37 rfl rfl ?_
  refine ww_bipush (v := 40) dX7_init_38 (by decide) ?_
  refine waq_new (ty := .int) (N' := 40) (a0 := (40, .inl (fun _ => 0))) dX7_init_40 rfl (fun _ q => by cases q) ac_int (fun _ => rfl) (by decide) (by decide) (by decide) (by decide) (by decide) rfl ?_
  refine waq_putF dX7_init_42 rfl fX7_29 rfl rfl rfl ?_
  refine ww_aload_n dX7_init_45 rfl rfl ?_
  refine ww_iconst (v := 0) dX7_init_46 (by decide) ?_
  refine waq_put dX7_init_47 fX7_32 rfl rfl ?_
  exact ww_vret dX7_init_50 rfl ⟨rfl, by rw [wa0_V, waq_h]⟩ (by decide) (by decide)
def rrq (m : Nat) (V : Nat → Value) (j : Nat) (h0 : Nat → Option wE) : Nat → Option wE := fun a => if a = m then some (.inr (3, V)) else if m < a ∧ a < m + 1 + j then rrE (rrFl.getD (a - m - 1) 0) (fun _ _ => 0) else h0 a
section Qrr
variable {G : wG} {M : wM} {cc : ByteArray} {X : wX} {Z : State → Prop} {pc : Nat} {lv : List (Option Value)} {st : List Value} {m k n index : Nat} {h0 : Nat → Option wE} {V : Nat → Value}
theorem rrq_obj {j : Nat} : rrq m V j h0 m = some (.inr (3, V)) := by simp [rrq]
theorem rrq_puto {j : Nat} (V2 : Nat → Value) : va_up (rrq m V j h0) m (some (.inr (3, V2))) = rrq m V2 j h0 := by
  funext a
  by_cases ha : a = m
  · subst ha; simp [va_up, rrq]
  · simp [va_up, rrq, ha]
theorem rrq_push {j : Nat} {e : wE} (hE : rrE (rrFl.getD j 0) (fun _ _ => 0) = some e) : va_up (rrq m V j h0) (m + 1 + j) (some e) = rrq m V (j + 1) h0 := by
  funext a
  by_cases ha : a = m + 1 + j
  · subst ha
    simp only [va_up, rrq]
    rw [if_pos trivial, if_neg (by omega), if_pos (by omega), show m + 1 + j - m - 1 = j by omega, hE]
  · by_cases hm : a = m
    · subst hm; simp [va_up, rrq]; omega
    · simp only [va_up, rrq, if_neg ha, if_neg hm]
      by_cases hb : m < a ∧ a < m + 1 + j
      · rw [if_pos hb, if_pos (by omega)]
      · rw [if_neg hb, if_neg (by omega)]
theorem rrq_new {j : Nat} {atype : ArrayType} {ty : FieldType} {len : Int32} {N' : Nat} {a0 : vp_A} (hd : decode cc pc = .ok (.newarray atype, 2)) (hty : newarray.typeOf atype = ty) (hty2 : ∀ Cn, ty ≠ .object Cn) (hw : Cond.arrayClass ty ∈ wTb) (ha : ∀ cA : ClassId, vp_cell cA a0 = arrV cA N' (fun _ => defaultValue ty)) (hn0 : ¬ len < 0) (hN : len.toNatClampNeg = N') (hbytes : N' * componentBytes ty ≤ 536870912) (hk : k + 1 ≤ M.2.2.2.2.2.1) (hns : n + N' ≤ M.2.2.2.2.2.2) (hE : rrE (rrFl.getD j 0) (fun _ _ => 0) = some (.inl (ty, a0))) (kk : WW G M cc X Z (pc + 2) lv (.ref (m + 1 + j) :: st) (rrq m V (j + 1) h0, m + 1 + (j + 1)) (k + 1) (n + N')) : WW G M cc X Z pc lv (.int len :: st) (rrq m V j h0, m + 1 + j) k n :=
  ww_newa hd hty hty2 hw ha hn0 hN hbytes hk hns (by dsimp only; rw [rrq_push hE]; exact kk)
theorem rrq_put {j kf : Nat} {ty : FieldType} {v : Value} (hd : decode cc pc = .ok (.putfield index, 3)) (L : wFl M.1.cls index 3 kf ty false) (hn : narrow ty v = v) (hfit : fits ty v = true) (kk : WW G M cc X Z (pc + 3) lv st (rrq m (updV V kf v) j h0, m + 1 + j) k n) : WW G M cc X Z pc lv (v :: .ref m :: st) (rrq m V j h0, m + 1 + j) k n :=
  ww_put hd L hn hfit rrq_obj (by dsimp only; rw [rrq_puto]; exact kk)
theorem rrq_putF {j kf : Nat} {ty : FieldType} {v : Value} (hd : decode cc pc = .ok (.putfield index, 3)) (hCo : RX4 = M.1.cls) (L : wFl M.1.cls index 3 kf ty true) (hin2 : M.1.name = "<init>") (hn : narrow ty v = v) (hfit : fits ty v = true) (kk : WW G M cc X Z (pc + 3) lv st (rrq m (updV V kf v) j h0, m + 1 + j) k n) : WW G M cc X Z pc lv (v :: .ref m :: st) (rrq m V j h0, m + 1 + j) k n :=
  ww_putF (C := RX4) (T := TX4) (N := 7) hd rfl hCo L hin2 hn hfit rrq_obj (by dsimp only; rw [rrq_puto]; exact kk)
theorem rrq_0 : va_up h0 m (some (.inr (3, V))) = rrq m V 0 h0 := by
  funext a
  by_cases ha : a = m
  · subst ha; simp [va_up, rrq]
  · simp only [va_up, rrq, if_neg ha]
    rw [if_neg (by omega)]
theorem rrq_h {F : Nat → Int32} {O : Nat → Option Nat} : rrq m (rrV m F O) 3 h0 = rrh m F O (fun _ _ => 0) h0 := by
  funext a
  simp only [rrq, rrh]
end Qrr
def rF0 (x : Int32) : Nat → Int32 := fun k => if k = 0 then x else 0
def rO0 (a : Nat) : Nat → Option Nat := fun k => if k = 1 then some a else none
def mnN (t : Nat) (g : Nat → Int32) : Nat → Int32 := fun j => if j < t then -1 else g j
theorem mnN_0 (g : Nat → Int32) : mnN 0 g = g := by funext j; simp [mnN]
theorem mnN_s (t : Nat) (g : Nat → Int32) : upd (mnN t g) t (-1) = mnN (t + 1) g := by
  funext j
  by_cases h : j = t
  · subst h; simp [mnN, upd]
  · simp only [mnN, upd, if_neg h, show (j < t + 1) = (j < t) from propext ⟨fun q => by omega, fun q => by omega⟩]
theorem rr0_V {m a : Nat} {x : Int32} : (updV (updV (updV (updV (updV (fun j => defaultValue (tyX4 j)) 0 (.int x)) 1 (.ref a)) 2 (.ref (m + 1 + 0))) 3 (.ref (m + 1 + 1))) 4 (.ref (m + 1 + 2))) = rrV m (rF0 x) (rO0 a) := by
  funext k
  match k with
  | 0 => rfl
  | 1 => rfl
  | 2 => rfl
  | 3 => rfl
  | 4 => rfl
  | 5 => rfl
  | 6 => rfl
  | k + 7 =>
    have e1 : rrPos (k + 7) = none := rfl
    have e2 : rrOb (k + 7) = false := rfl
    simp [updV, rrV, rF0, e1, e2]
    rfl
set_option maxHeartbeats 4000000 in
theorem L4_init {G : wG} {m a : Nat} {x : Int32} {h0 : Nat → Option wE} {X : wX} : ∀ (n t : Nat) (x3 : Int32), 40 - t < n → t ≤ 40 → x3 = nI t → WW G mX4_init cX4_init X (wZ G mX4_init X (Det none (rrh m (upd (upd (rF0 x) 5 0) 6 0) (rO0 a) (va_up (fun _ _ => 0) 4 (mnN 40 (fun _ => 0))) h0, m + 4))) 39 [some (.ref m), some (.int x), some (.ref a), some (.int x3)] [] (rrh m (rF0 x) (rO0 a) (va_up (fun _ _ => 0) 4 (mnN t (fun _ => 0))) h0, m + 4) 3 84 := by
  intro n
  induction n with
  | zero => intro t x3 hn; exact absurd hn (by omega)
  | succ n ih =>
    intro t x3 hn ht i3
    refine ww_iload_n dX4_init_39 rfl rfl ?_
    refine ww_bipush (v := 40) dX4_init_40 (by decide) ?_
    refine ww_icmp_ge (tgt := 58) dX4_init_42 (by decide) (fun c42 => ?_) (fun c42 => ?_)
    · have e1 := (w_le (show (40 : Int32) = nI 40 from rfl) i3 (by decide) (by omega)).mp c42
      have e2 : t = 40 := by omega
      subst e2
      refine ww_aload_n dX4_init_58 rfl rfl ?_
      refine ww_iconst (v := 0) dX4_init_59 (by decide) ?_
      refine rr_putz dX4_init_60 fX4_29 rfl rfl (Or.inl rfl) ?_
      refine ww_aload_n dX4_init_63 rfl rfl ?_
      refine ww_iconst (v := 0) dX4_init_64 (by decide) ?_
      refine rr_puti dX4_init_65 fX4_33 rfl rfl ?_
      exact ww_vret dX4_init_68 rfl ⟨rfl, rfl⟩ (by decide) (by decide)
    · have e1 : t < 40 := by rcases Nat.lt_or_ge t 40 with q | q; exact q; exact absurd ((w_le (show (40 : Int32) = nI 40 from rfl) i3 (by decide) (by omega)).mpr q) c42
      refine ww_aload_n dX4_init_45 rfl rfl ?_
      refine rr_getr dX4_init_46 fX4_26 rfl ?_
      refine ww_iload_n dX4_init_49 rfl rfl ?_
      refine ww_iconst (v := -1) dX4_init_50 (by decide) ?_
      refine rr_iast dX4_init_51 rfl i3 e1 rfl ?_
      refine ww_iinc dX4_init_52 rfl rfl rfl rfl ?_
      refine ww_goto (tgt := 39) dX4_init_55 (by decide) ?_
      rw [w_up_up, w_up_self, mnN_s]
      exact ih (t + 1) _ (by omega) (by omega) (w_inc i3)
set_option maxHeartbeats 4000000 in
theorem c4_init {G : wG} {m a : Nat} {x : Int32} {h0 : Nat → Option wE} : Sat G mX4_init [.ref m, .int x, .ref a] (va_up h0 m (some (.inr (3, fun j => defaultValue (tyX4 j)))), m + 1) (Det none (rrh m (upd (upd (rF0 x) 5 0) 6 0) (rO0 a) (va_up (fun _ _ => 0) 4 (mnN 40 (fun _ => 0))) h0, m + 4)) := by
  rw [rrq_0]
  show Sat G mX4_init [.ref m, .int x, .ref a] (rrq m (fun j => defaultValue (tyX4 j)) 0 h0, m + 1 + 0) _
  refine Sat.of (by decide) [some (.ref m), some (.int x), some (.ref a), none] rfl rfl (fun X => ?_)
  refine ww_aload_n dX4_init_0 rfl rfl ?_
  refine ww_objInit dX4_init_1 oX4_3 rfl rfl ?_
  refine ww_aload_n dX4_init_4 rfl rfl ?_
  refine ww_iload_n dX4_init_5 rfl rfl ?_
  refine rrq_putF dX4_init_6 rfl fX4_9 rfl rfl rfl ?_
  refine ww_aload_n dX4_init_9 rfl rfl ?_
  refine ww_aload_n dX4_init_10 rfl rfl ?_
  refine rrq_putF dX4_init_11 rfl fX4_15 rfl rfl rfl ?_
  refine ww_aload_n dX4_init_14 rfl rfl ?_
  refine ww_iconst (v := 4) dX4_init_15 (by decide) ?_
  refine rrq_new (ty := .int) (N' := 4) (a0 := (4, .inl (fun _ => 0))) dX4_init_16 rfl (fun _ q => by cases q) ac_int (fun _ => rfl) (by decide) (by decide) (by decide) (by decide) (by decide) rfl ?_
  refine rrq_putF dX4_init_18 rfl fX4_19 rfl rfl rfl ?_
  refine ww_aload_n dX4_init_21 rfl rfl ?_
  refine ww_bipush (v := 40) dX4_init_22 (by decide) ?_
  refine rrq_new (ty := .int) (N' := 40) (a0 := (40, .inl (fun _ => 0))) dX4_init_24 rfl (fun _ q => by cases q) ac_int (fun _ => rfl) (by decide) (by decide) (by decide) (by decide) (by decide) rfl ?_
  refine rrq_putF dX4_init_26 rfl fX4_23 rfl rfl rfl ?_
  refine ww_aload_n dX4_init_29 rfl rfl ?_
  refine ww_bipush (v := 40) dX4_init_30 (by decide) ?_
  refine rrq_new (ty := .int) (N' := 40) (a0 := (40, .inl (fun _ => 0))) dX4_init_32 rfl (fun _ q => by cases q) ac_int (fun _ => rfl) (by decide) (by decide) (by decide) (by decide) (by decide) rfl ?_
  refine rrq_putF dX4_init_34 rfl fX4_26 rfl rfl rfl ?_
  refine ww_iconst (v := 0) dX4_init_37 (by decide) ?_
  refine ww_istore_n dX4_init_38 rfl rfl rfl ?_
  rw [rr0_V, rrq_h]
  have e9 := L4_init (G := G) (m := m) (a := a) (x := x) (h0 := h0) (X := X) 41 0 0 (by omega) (by omega) rfl
  rw [mnN_0, show va_up (fun _ _ => 0 : Nat → Nat → Int32) 4 (fun _ => 0) = fun _ _ => 0 from w_up_id (α := Nat → Int32) (fun _ _ => 0) 4] at e9
  exact e9
