/-! the reference's constructor -/
def mq (m : Nat) (V : Nat → Value) (j : Nat) (h0 : Nat → Option wE) : Nat → Option wE := fun a => if a = m then some (.inr (8, V)) else if m < a ∧ a < m + 1 + j then mE (mFl.getD (a - m - 1) 0) (fun _ _ => 0) (fun _ => 0) else h0 a
section M10
variable {G : wG} {M : wM} {cc : ByteArray} {X : wX} {Z : State → Prop} {pc : Nat} {lv : List (Option Value)} {st : List Value} {m k n index : Nat} {h0 : Nat → Option wE} {V : Nat → Value}
theorem mq_obj {j : Nat} : mq m V j h0 m = some (.inr (8, V)) := by simp [mq]
theorem mq_puto {j : Nat} (V2 : Nat → Value) : va_up (mq m V j h0) m (some (.inr (8, V2))) = mq m V2 j h0 := by
  funext a
  by_cases ha : a = m
  · subst ha; simp [va_up, mq]
  · simp [va_up, mq, ha]
theorem mq_push {j : Nat} {e : wE} (hE : mE (mFl.getD j 0) (fun _ _ => 0) (fun _ => 0) = some e) : va_up (mq m V j h0) (m + 1 + j) (some e) = mq m V (j + 1) h0 := by
  funext a
  by_cases ha : a = m + 1 + j
  · subst ha
    simp only [va_up, mq]
    rw [if_pos trivial, if_neg (by omega), if_pos (by omega), show m + 1 + j - m - 1 = j by omega, hE]
  · by_cases hm : a = m
    · subst hm; simp [va_up, mq]; omega
    · simp only [va_up, mq, if_neg ha, if_neg hm]
      by_cases hb : m < a ∧ a < m + 1 + j
      · rw [if_pos hb, if_pos (by omega)]
      · rw [if_neg hb, if_neg (by omega)]
theorem mq_new {j : Nat} {atype : ArrayType} {ty : FieldType} {len : Int32} {N' : Nat} {a0 : vp_A} (hd : decode cc pc = .ok (.newarray atype, 2)) (hty : newarray.typeOf atype = ty) (hty2 : ∀ Cn, ty ≠ .object Cn) (hw : Cond.arrayClass ty ∈ wTb) (ha : ∀ cA : ClassId, vp_cell cA a0 = arrV cA N' (fun _ => defaultValue ty)) (hn0 : ¬ len < 0) (hN : len.toNatClampNeg = N') (hbytes : N' * componentBytes ty ≤ 536870912) (hk : k + 1 ≤ M.2.2.2.2.2.1) (hns : n + N' ≤ M.2.2.2.2.2.2) (hE : mE (mFl.getD j 0) (fun _ _ => 0) (fun _ => 0) = some (.inl (ty, a0))) (kk : WW G M cc X Z (pc + 2) lv (.ref (m + 1 + j) :: st) (mq m V (j + 1) h0, m + 1 + (j + 1)) (k + 1) (n + N')) : WW G M cc X Z pc lv (.int len :: st) (mq m V j h0, m + 1 + j) k n :=
  ww_newa hd hty hty2 hw ha hn0 hN hbytes hk hns (by dsimp only; rw [mq_push hE]; exact kk)
theorem mq_put {j kf : Nat} {ty : FieldType} {v : Value} (hd : decode cc pc = .ok (.putfield index, 3)) (L : wFl M.1.cls index 8 kf ty false) (hn : narrow ty v = v) (hfit : fits ty v = true) (kk : WW G M cc X Z (pc + 3) lv st (mq m (updV V kf v) j h0, m + 1 + j) k n) : WW G M cc X Z pc lv (v :: .ref m :: st) (mq m V j h0, m + 1 + j) k n :=
  ww_put hd L hn hfit mq_obj (by dsimp only; rw [mq_puto]; exact kk)
theorem mq_putF {j kf : Nat} {ty : FieldType} {v : Value} (hd : decode cc pc = .ok (.putfield index, 3)) (hCo : RX9 = M.1.cls) (L : wFl M.1.cls index 8 kf ty true) (hin2 : M.1.name = "<init>") (hn : narrow ty v = v) (hfit : fits ty v = true) (kk : WW G M cc X Z (pc + 3) lv st (mq m (updV V kf v) j h0, m + 1 + j) k n) : WW G M cc X Z pc lv (v :: .ref m :: st) (mq m V j h0, m + 1 + j) k n :=
  ww_putF (C := RX9) (T := TX9) (N := 72) hd rfl hCo L hin2 hn hfit mq_obj (by dsimp only; rw [mq_puto]; exact kk)
end M10
def mF0 : Nat → Int32 := fun k => if k = 9 ∨ k = 10 ∨ k = 23 then -1 else 0

section M10b
variable {G : wG} {m : Nat} {h0 : Nat → Option wE}
theorem m0_V : (updV (updV (updV (updV (updV (updV (updV (updV (updV (updV (updV (updV (updV (updV (updV (updV (updV (updV (updV (updV (updV (updV (updV (updV (updV (updV (updV (updV (updV (updV (updV (updV (updV (updV (updV (updV (updV (updV (updV (updV (updV (updV (updV (updV (updV (updV (updV (updV (updV (updV (updV (updV (fun j => defaultValue (tyX9 j)) 0 (.ref (m + 1 + 0))) 9 (.int (-1))) 10 (.int (-1))) 15 (.ref (m + 1 + 1))) 16 (.ref (m + 1 + 2))) 17 (.ref (m + 1 + 3))) 18 (.ref (m + 1 + 4))) 19 (.ref (m + 1 + 5))) 20 (.ref (m + 1 + 6))) 21 (.ref (m + 1 + 7))) 22 (.ref (m + 1 + 8))) 23 (.int (-1))) 26 (.ref (m + 1 + 9))) 27 (.ref (m + 1 + 10))) 28 (.ref (m + 1 + 11))) 29 (.ref (m + 1 + 12))) 30 (.ref (m + 1 + 13))) 31 (.ref (m + 1 + 14))) 32 (.ref (m + 1 + 15))) 34 (.ref (m + 1 + 16))) 35 (.ref (m + 1 + 17))) 36 (.ref (m + 1 + 18))) 37 (.ref (m + 1 + 19))) 38 (.ref (m + 1 + 20))) 39 (.ref (m + 1 + 21))) 41 (.ref (m + 1 + 22))) 42 (.ref (m + 1 + 23))) 43 (.ref (m + 1 + 24))) 44 (.ref (m + 1 + 25))) 45 (.ref (m + 1 + 26))) 46 (.ref (m + 1 + 27))) 47 (.ref (m + 1 + 28))) 48 (.ref (m + 1 + 29))) 49 (.ref (m + 1 + 30))) 50 (.ref (m + 1 + 31))) 51 (.ref (m + 1 + 32))) 52 (.ref (m + 1 + 33))) 53 (.ref (m + 1 + 34))) 56 (.ref (m + 1 + 35))) 57 (.ref (m + 1 + 36))) 58 (.ref (m + 1 + 37))) 59 (.ref (m + 1 + 38))) 60 (.ref (m + 1 + 39))) 61 (.ref (m + 1 + 40))) 62 (.ref (m + 1 + 41))) 63 (.ref (m + 1 + 42))) 65 (.ref (m + 1 + 43))) 66 (.ref (m + 1 + 44))) 67 (.ref (m + 1 + 45))) 68 (.ref (m + 1 + 46))) 69 (.ref (m + 1 + 47))) 70 (.ref (m + 1 + 48))) = mV m mF0 0 := by
  funext k
  match k with
  | 0 => rfl
  | 1 => rfl
  | 2 => rfl
  | 3 => rfl
  | 4 => rfl
  | 5 => rfl
  | 6 => rfl
  | 7 => rfl
  | 8 => rfl
  | 9 => rfl
  | 10 => rfl
  | 11 => rfl
  | 12 => rfl
  | 13 => rfl
  | 14 => rfl
  | 15 => rfl
  | 16 => rfl
  | 17 => rfl
  | 18 => rfl
  | 19 => rfl
  | 20 => rfl
  | 21 => rfl
  | 22 => rfl
  | 23 => rfl
  | 24 => rfl
  | 25 => rfl
  | 26 => rfl
  | 27 => rfl
  | 28 => rfl
  | 29 => rfl
  | 30 => rfl
  | 31 => rfl
  | 32 => rfl
  | 33 => rfl
  | 34 => rfl
  | 35 => rfl
  | 36 => rfl
  | 37 => rfl
  | 38 => rfl
  | 39 => rfl
  | 40 => rfl
  | 41 => rfl
  | 42 => rfl
  | 43 => rfl
  | 44 => rfl
  | 45 => rfl
  | 46 => rfl
  | 47 => rfl
  | 48 => rfl
  | 49 => rfl
  | 50 => rfl
  | 51 => rfl
  | 52 => rfl
  | 53 => rfl
  | 54 => rfl
  | 55 => rfl
  | 56 => rfl
  | 57 => rfl
  | 58 => rfl
  | 59 => rfl
  | 60 => rfl
  | 61 => rfl
  | 62 => rfl
  | 63 => rfl
  | 64 => rfl
  | 65 => rfl
  | 66 => rfl
  | 67 => rfl
  | 68 => rfl
  | 69 => rfl
  | 70 => rfl
  | 71 => rfl
  | k + 72 =>
    have e1 : mPos (k + 72) = none := rfl
    simp [updV, mV, mF0, e1]
    rfl
theorem m0_h : mq m (mV m mF0 0) 49 h0 = mh m mF0 0 (fun _ _ => 0) (fun _ => 0) h0 := by
  funext a
  simp only [mq, mh]
theorem m0_0 : va_up h0 m (some (.inr (8, fun j => defaultValue (tyX9 j)))) = mq m (fun j => defaultValue (tyX9 j)) 0 h0 := by
  funext a
  by_cases ha : a = m
  · subst ha; simp [va_up, mq]
  · simp only [va_up, mq, if_neg ha]
    rw [if_neg (by omega)]
set_option maxHeartbeats 8000000 in
set_option maxRecDepth 8000 in
set_option maxHeartbeats 4000000 in
theorem c9_init0  : Sat G mX9_init [.ref m] (mq m (fun j => defaultValue (tyX9 j)) 0 h0, m + 1 + 0) (Det none (mh m mF0 0 (fun _ _ => 0) (fun _ => 0) h0, m + 50)) := by
  refine Sat.of (by decide) [some (.ref m)] rfl rfl (fun X => ?_)
  refine ww_aload_n dX9_init_0 rfl rfl ?_
  refine ww_objInit dX9_init_1 oX9_1 rfl rfl ?_
  refine ww_aload_n dX9_init_4 rfl rfl ?_
  refine ww_sipush (v := 300) dX9_init_5 (by decide) ?_
  refine mq_new (ty := .byte) (N' := 300) (a0 := (300, .inl (fun _ => 0))) dX9_init_8 rfl (fun _ q => by cases q) ac_byte (fun _ => rfl) (by decide) (by decide) (by decide) (by decide) (by decide) rfl ?_
  refine mq_putF dX9_init_10 rfl fX9_7 rfl rfl rfl ?_
  refine ww_aload_n dX9_init_13 rfl rfl ?_
  refine ww_iconst (v := -1) dX9_init_14 (by decide) ?_
  refine mq_put dX9_init_15 fX9_13 rfl rfl ?_
  refine ww_aload_n dX9_init_18 rfl rfl ?_
  refine ww_iconst (v := -1) dX9_init_19 (by decide) ?_
  refine mq_put dX9_init_20 fX9_17 rfl rfl ?_
  refine ww_aload_n dX9_init_23 rfl rfl ?_
  refine ww_sipush (v := 200) dX9_init_24 (by decide) ?_
  refine mq_new (ty := .int) (N' := 200) (a0 := (200, .inl (fun _ => 0))) dX9_init_27 rfl (fun _ q => by cases q) ac_int (fun _ => rfl) (by decide) (by decide) (by decide) (by decide) (by decide) rfl ?_
  refine mq_putF dX9_init_29 rfl fX9_20 rfl rfl rfl ?_
  refine ww_aload_n dX9_init_32 rfl rfl ?_
  refine ww_sipush (v := 200) dX9_init_33 (by decide) ?_
  refine mq_new (ty := .int) (N' := 200) (a0 := (200, .inl (fun _ => 0))) dX9_init_36 rfl (fun _ q => by cases q) ac_int (fun _ => rfl) (by decide) (by decide) (by decide) (by decide) (by decide) rfl ?_
  refine mq_putF dX9_init_38 rfl fX9_24 rfl rfl rfl ?_
  refine ww_aload_n dX9_init_41 rfl rfl ?_
  refine ww_sipush (v := 200) dX9_init_42 (by decide) ?_
  refine mq_new (ty := .int) (N' := 200) (a0 := (200, .inl (fun _ => 0))) dX9_init_45 rfl (fun _ q => by cases q) ac_int (fun _ => rfl) (by decide) (by decide) (by decide) (by decide) (by decide) rfl ?_
  refine mq_putF dX9_init_47 rfl fX9_27 rfl rfl rfl ?_
  refine ww_aload_n dX9_init_50 rfl rfl ?_
  refine ww_sipush (v := 200) dX9_init_51 (by decide) ?_
  refine mq_new (ty := .int) (N' := 200) (a0 := (200, .inl (fun _ => 0))) dX9_init_54 rfl (fun _ q => by cases q) ac_int (fun _ => rfl) (by decide) (by decide) (by decide) (by decide) (by decide) rfl ?_
  refine mq_putF dX9_init_56 rfl fX9_30 rfl rfl rfl ?_
  refine ww_aload_n dX9_init_59 rfl rfl ?_
  refine ww_bipush (v := 40) dX9_init_60 (by decide) ?_
  refine mq_new (ty := .long) (N' := 40) (a0 := (40, .inr (.inl (fun _ => 0)))) dX9_init_62 rfl (fun _ q => by cases q) ac_long (fun _ => rfl) (by decide) (by decide) (by decide) (by decide) (by decide) rfl ?_
  refine mq_putF dX9_init_64 rfl fX9_33 rfl rfl rfl ?_
  refine ww_aload_n dX9_init_67 rfl rfl ?_
  refine ww_bipush (v := 40) dX9_init_68 (by decide) ?_
  refine mq_new (ty := .int) (N' := 40) (a0 := (40, .inl (fun _ => 0))) dX9_init_70 rfl (fun _ q => by cases q) ac_int (fun _ => rfl) (by decide) (by decide) (by decide) (by decide) (by decide) rfl ?_
  refine mq_putF dX9_init_72 rfl fX9_37 rfl rfl rfl ?_
  refine ww_aload_n dX9_init_75 rfl rfl ?_
  refine ww_bipush (v := 40) dX9_init_76 (by decide) ?_
  refine mq_new (ty := .int) (N' := 40) (a0 := (40, .inl (fun _ => 0))) dX9_init_78 rfl (fun _ q => by cases q) ac_int (fun _ => rfl) (by decide) (by decide) (by decide) (by decide) (by decide) rfl ?_
  refine mq_putF dX9_init_80 rfl fX9_40 rfl rfl rfl ?_
  refine ww_aload_n dX9_init_83 rfl rfl ?_
  refine ww_bipush (v := 40) dX9_init_84 (by decide) ?_
  refine mq_new (ty := .int) (N' := 40) (a0 := (40, .inl (fun _ => 0))) dX9_init_86 rfl (fun _ q => by cases q) ac_int (fun _ => rfl) (by decide) (by decide) (by decide) (by decide) (by decide) rfl ?_
  refine mq_putF dX9_init_88 rfl fX9_43 rfl rfl rfl ?_
  refine ww_aload_n dX9_init_91 rfl rfl ?_
  refine ww_iconst (v := -1) dX9_init_92 (by decide) ?_
  refine mq_put dX9_init_93 fX9_46 rfl rfl ?_
  refine ww_aload_n dX9_init_96 rfl rfl ?_
  refine ww_sipush (v := 200) dX9_init_97 (by decide) ?_
  refine mq_new (ty := .int) (N' := 200) (a0 := (200, .inl (fun _ => 0))) dX9_init_100 rfl (fun _ q => by cases q) ac_int (fun _ => rfl) (by decide) (by decide) (by decide) (by decide) (by decide) rfl ?_
  refine mq_putF dX9_init_102 rfl fX9_49 rfl rfl rfl ?_
  refine ww_aload_n dX9_init_105 rfl rfl ?_
  refine ww_sipush (v := 200) dX9_init_106 (by decide) ?_
  refine mq_new (ty := .int) (N' := 200) (a0 := (200, .inl (fun _ => 0))) dX9_init_109 rfl (fun _ q => by cases q) ac_int (fun _ => rfl) (by decide) (by decide) (by decide) (by decide) (by decide) rfl ?_
  refine mq_putF dX9_init_111 rfl fX9_52 rfl rfl rfl ?_
  refine ww_aload_n dX9_init_114 rfl rfl ?_
  refine ww_sipush (v := 200) dX9_init_115 (by decide) ?_
  refine mq_new (ty := .int) (N' := 200) (a0 := (200, .inl (fun _ => 0))) dX9_init_118 rfl (fun _ q => by cases q) ac_int (fun _ => rfl) (by decide) (by decide) (by decide) (by decide) (by decide) rfl ?_
  refine mq_putF dX9_init_120 rfl fX9_55 rfl rfl rfl ?_
  refine ww_aload_n dX9_init_123 rfl rfl ?_
  refine ww_sipush (v := 200) dX9_init_124 (by decide) ?_
  refine mq_new (ty := .int) (N' := 200) (a0 := (200, .inl (fun _ => 0))) dX9_init_127 rfl (fun _ q => by cases q) ac_int (fun _ => rfl) (by decide) (by decide) (by decide) (by decide) (by decide) rfl ?_
  refine mq_putF dX9_init_129 rfl fX9_58 rfl rfl rfl ?_
  refine ww_aload_n dX9_init_132 rfl rfl ?_
  refine ww_bipush (v := 40) dX9_init_133 (by decide) ?_
  refine mq_new (ty := .int) (N' := 40) (a0 := (40, .inl (fun _ => 0))) dX9_init_135 rfl (fun _ q => by cases q) ac_int (fun _ => rfl) (by decide) (by decide) (by decide) (by decide) (by decide) rfl ?_
  refine mq_putF dX9_init_137 rfl fX9_61 rfl rfl rfl ?_
  refine ww_aload_n dX9_init_140 rfl rfl ?_
  refine ww_bipush (v := 40) dX9_init_141 (by decide) ?_
  refine mq_new (ty := .int) (N' := 40) (a0 := (40, .inl (fun _ => 0))) dX9_init_143 rfl (fun _ q => by cases q) ac_int (fun _ => rfl) (by decide) (by decide) (by decide) (by decide) (by decide) rfl ?_
  refine mq_putF dX9_init_145 rfl fX9_64 rfl rfl rfl ?_
  refine ww_aload_n dX9_init_148 rfl rfl ?_
  refine ww_bipush (v := 40) dX9_init_149 (by decide) ?_
  refine mq_new (ty := .int) (N' := 40) (a0 := (40, .inl (fun _ => 0))) dX9_init_151 rfl (fun _ q => by cases q) ac_int (fun _ => rfl) (by decide) (by decide) (by decide) (by decide) (by decide) rfl ?_
  refine mq_putF dX9_init_153 rfl fX9_67 rfl rfl rfl ?_
  refine ww_aload_n dX9_init_156 rfl rfl ?_
  refine ww_bipush (v := 6) dX9_init_157 (by decide) ?_
  refine mq_new (ty := .int) (N' := 6) (a0 := (6, .inl (fun _ => 0))) dX9_init_159 rfl (fun _ q => by cases q) ac_int (fun _ => rfl) (by decide) (by decide) (by decide) (by decide) (by decide) rfl ?_
  refine mq_putF dX9_init_161 rfl fX9_70 rfl rfl rfl ?_
  refine ww_aload_n dX9_init_164 rfl rfl ?_
  refine ww_bipush (v := 6) dX9_init_165 (by decide) ?_
  refine mq_new (ty := .int) (N' := 6) (a0 := (6, .inl (fun _ => 0))) dX9_init_167 rfl (fun _ q => by cases q) ac_int (fun _ => rfl) (by decide) (by decide) (by decide) (by decide) (by decide) rfl ?_
  refine mq_putF dX9_init_169 rfl fX9_73 rfl rfl rfl ?_
  refine ww_aload_n dX9_init_172 rfl rfl ?_
  refine ww_bipush (v := 6) dX9_init_173 (by decide) ?_
  refine mq_new (ty := .int) (N' := 6) (a0 := (6, .inl (fun _ => 0))) dX9_init_175 rfl (fun _ q => by cases q) ac_int (fun _ => rfl) (by decide) (by decide) (by decide) (by decide) (by decide) rfl ?_
  refine mq_putF dX9_init_177 rfl fX9_76 rfl rfl rfl ?_
  refine ww_aload_n dX9_init_180 rfl rfl ?_
  refine ww_bipush (v := 6) dX9_init_181 (by decide) ?_
  refine mq_new (ty := .int) (N' := 6) (a0 := (6, .inl (fun _ => 0))) dX9_init_183 rfl (fun _ q => by cases q) ac_int (fun _ => rfl) (by decide) (by decide) (by decide) (by decide) (by decide) rfl ?_
  refine mq_putF dX9_init_185 rfl fX9_79 rfl rfl rfl ?_
  refine ww_aload_n dX9_init_188 rfl rfl ?_
  refine ww_bipush (v := 6) dX9_init_189 (by decide) ?_
  refine mq_new (ty := .boolean) (N' := 6) (a0 := (6, .inl (fun _ => 0))) dX9_init_191 rfl (fun _ q => by cases q) ac_boolean (fun _ => rfl) (by decide) (by decide) (by decide) (by decide) (by decide) rfl ?_
  refine mq_putF dX9_init_193 rfl fX9_82 rfl rfl rfl ?_
  refine ww_aload_n dX9_init_196 rfl rfl ?_
  refine ww_bipush (v := 6) dX9_init_197 (by decide) ?_
  refine mq_new (ty := .boolean) (N' := 6) (a0 := (6, .inl (fun _ => 0))) dX9_init_199 rfl (fun _ q => by cases q) ac_boolean (fun _ => rfl) (by decide) (by decide) (by decide) (by decide) (by decide) rfl ?_
  refine mq_putF dX9_init_201 rfl fX9_86 rfl rfl rfl ?_
  refine ww_aload_n dX9_init_204 rfl rfl ?_
  refine ww_bipush (v := 8) dX9_init_205 (by decide) ?_
  refine mq_new (ty := .int) (N' := 8) (a0 := (8, .inl (fun _ => 0))) dX9_init_207 rfl (fun _ q => by cases q) ac_int (fun _ => rfl) (by decide) (by decide) (by decide) (by decide) (by decide) rfl ?_
  refine mq_putF dX9_init_209 rfl fX9_89 rfl rfl rfl ?_
  refine ww_aload_n dX9_init_212 rfl rfl ?_
  refine ww_sipush (v := 1600) dX9_init_213 (by decide) ?_
  refine mq_new (ty := .int) (N' := 1600) (a0 := (1600, .inl (fun _ => 0))) dX9_init_216 rfl (fun _ q => by cases q) ac_int (fun _ => rfl) (by decide) (by decide) (by decide) (by decide) (by decide) rfl ?_
  refine mq_putF dX9_init_218 rfl fX9_92 rfl rfl rfl ?_
  refine ww_aload_n dX9_init_221 rfl rfl ?_
  refine ww_sipush (v := 1600) dX9_init_222 (by decide) ?_
  refine mq_new (ty := .int) (N' := 1600) (a0 := (1600, .inl (fun _ => 0))) dX9_init_225 rfl (fun _ q => by cases q) ac_int (fun _ => rfl) (by decide) (by decide) (by decide) (by decide) (by decide) rfl ?_
  refine mq_putF dX9_init_227 rfl fX9_95 rfl rfl rfl ?_
  refine ww_aload_n dX9_init_230 rfl rfl ?_
  refine ww_sipush (v := 1600) dX9_init_231 (by decide) ?_
  refine mq_new (ty := .int) (N' := 1600) (a0 := (1600, .inl (fun _ => 0))) dX9_init_234 rfl (fun _ q => by cases q) ac_int (fun _ => rfl) (by decide) (by decide) (by decide) (by decide) (by decide) rfl ?_
  refine mq_putF dX9_init_236 rfl fX9_98 rfl rfl rfl ?_
  refine ww_aload_n dX9_init_239 rfl rfl ?_
  refine ww_sipush (v := 1600) dX9_init_240 (by decide) ?_
  refine mq_new (ty := .int) (N' := 1600) (a0 := (1600, .inl (fun _ => 0))) dX9_init_243 rfl (fun _ q => by cases q) ac_int (fun _ => rfl) (by decide) (by decide) (by decide) (by decide) (by decide) rfl ?_
  refine mq_putF dX9_init_245 rfl fX9_101 rfl rfl rfl ?_
  refine ww_aload_n dX9_init_248 rfl rfl ?_
  refine ww_sipush (v := 320) dX9_init_249 (by decide) ?_
  refine mq_new (ty := .int) (N' := 320) (a0 := (320, .inl (fun _ => 0))) dX9_init_252 rfl (fun _ q => by cases q) ac_int (fun _ => rfl) (by decide) (by decide) (by decide) (by decide) (by decide) rfl ?_
  refine mq_putF dX9_init_254 rfl fX9_104 rfl rfl rfl ?_
  refine ww_aload_n dX9_init_257 rfl rfl ?_
  refine ww_sipush (v := 320) dX9_init_258 (by decide) ?_
  refine mq_new (ty := .int) (N' := 320) (a0 := (320, .inl (fun _ => 0))) dX9_init_261 rfl (fun _ q => by cases q) ac_int (fun _ => rfl) (by decide) (by decide) (by decide) (by decide) (by decide) rfl ?_
  refine mq_putF dX9_init_263 rfl fX9_107 rfl rfl rfl ?_
  refine ww_aload_n dX9_init_266 rfl rfl ?_
  refine ww_sipush (v := 320) dX9_init_267 (by decide) ?_
  refine mq_new (ty := .int) (N' := 320) (a0 := (320, .inl (fun _ => 0))) dX9_init_270 rfl (fun _ q => by cases q) ac_int (fun _ => rfl) (by decide) (by decide) (by decide) (by decide) (by decide) rfl ?_
  refine mq_putF dX9_init_272 rfl fX9_110 rfl rfl rfl ?_
  refine ww_aload_n dX9_init_275 rfl rfl ?_
  refine ww_bipush (v := 32) dX9_init_276 (by decide) ?_
  refine mq_new (ty := .int) (N' := 32) (a0 := (32, .inl (fun _ => 0))) dX9_init_278 rfl (fun _ q => by cases q) ac_int (fun _ => rfl) (by decide) (by decide) (by decide) (by decide) (by decide) rfl ?_
  refine mq_putF dX9_init_280 rfl fX9_113 rfl rfl rfl ?_
  refine ww_aload_n dX9_init_283 rfl rfl ?_
  refine ww_sipush (v := 320) dX9_init_284 (by decide) ?_
  refine mq_new (ty := .int) (N' := 320) (a0 := (320, .inl (fun _ => 0))) dX9_init_287 rfl (fun _ q => by cases q) ac_int (fun _ => rfl) (by decide) (by decide) (by decide) (by decide) (by decide) rfl ?_
  refine mq_putF dX9_init_289 rfl fX9_116 rfl rfl rfl ?_
  refine ww_aload_n dX9_init_292 rfl rfl ?_
  refine ww_bipush (v := 8) dX9_init_293 (by decide) ?_
  refine mq_new (ty := .boolean) (N' := 8) (a0 := (8, .inl (fun _ => 0))) dX9_init_295 rfl (fun _ q => by cases q) ac_boolean (fun _ => rfl) (by decide) (by decide) (by decide) (by decide) (by decide) rfl ?_
  refine mq_putF dX9_init_297 rfl fX9_119 rfl rfl rfl ?_
  refine ww_aload_n dX9_init_300 rfl rfl ?_
  refine ww_iconst (v := 4) dX9_init_301 (by decide) ?_
  refine mq_new (ty := .int) (N' := 4) (a0 := (4, .inl (fun _ => 0))) dX9_init_302 rfl (fun _ q => by cases q) ac_int (fun _ => rfl) (by decide) (by decide) (by decide) (by decide) (by decide) rfl ?_
  refine mq_putF dX9_init_304 rfl fX9_122 rfl rfl rfl ?_
  refine ww_aload_n dX9_init_307 rfl rfl ?_
  refine ww_bipush (v := 40) dX9_init_308 (by decide) ?_
  refine mq_new (ty := .int) (N' := 40) (a0 := (40, .inl (fun _ => 0))) dX9_init_310 rfl (fun _ q => by cases q) ac_int (fun _ => rfl) (by decide) (by decide) (by decide) (by decide) (by decide) rfl ?_
  refine mq_putF dX9_init_312 rfl fX9_125 rfl rfl rfl ?_
  refine ww_aload_n dX9_init_315 rfl rfl ?_
  refine ww_sipush (v := 200) dX9_init_316 (by decide) ?_
  refine mq_new (ty := .int) (N' := 200) (a0 := (200, .inl (fun _ => 0))) dX9_init_319 rfl (fun _ q => by cases q) ac_int (fun _ => rfl) (by decide) (by decide) (by decide) (by decide) (by decide) rfl ?_
  refine mq_putF dX9_init_321 rfl fX9_128 rfl rfl rfl ?_
  refine ww_aload_n dX9_init_324 rfl rfl ?_
  refine ww_sipush (v := 200) dX9_init_325 (by decide) ?_
  refine mq_new (ty := .int) (N' := 200) (a0 := (200, .inl (fun _ => 0))) dX9_init_328 rfl (fun _ q => by cases q) ac_int (fun _ => rfl) (by decide) (by decide) (by decide) (by decide) (by decide) rfl ?_
  refine mq_putF dX9_init_330 rfl fX9_131 rfl rfl rfl ?_
  refine ww_aload_n dX9_init_333 rfl rfl ?_
  refine ww_sipush (v := 200) dX9_init_334 (by decide) ?_
  refine mq_new (ty := .int) (N' := 200) (a0 := (200, .inl (fun _ => 0))) dX9_init_337 rfl (fun _ q => by cases q) ac_int (fun _ => rfl) (by decide) (by decide) (by decide) (by decide) (by decide) rfl ?_
  refine mq_putF dX9_init_339 rfl fX9_134 rfl rfl rfl ?_
  refine ww_aload_n dX9_init_342 rfl rfl ?_
  refine ww_sipush (v := 200) dX9_init_343 (by decide) ?_
  refine mq_new (ty := .int) (N' := 200) (a0 := (200, .inl (fun _ => 0))) dX9_init_346 rfl (fun _ q => by cases q) ac_int (fun _ => rfl) (by decide) (by decide) (by decide) (by decide) (by decide) rfl ?_
  refine mq_putF dX9_init_348 rfl fX9_137 rfl rfl rfl ?_
  refine ww_aload_n dX9_init_351 rfl rfl ?_
  refine ww_sipush (v := 200) dX9_init_352 (by decide) ?_
  refine mq_new (ty := .int) (N' := 200) (a0 := (200, .inl (fun _ => 0))) dX9_init_355 rfl (fun _ q => by cases q) ac_int (fun _ => rfl) (by decide) (by decide) (by decide) (by decide) (by decide) rfl ?_
  refine mq_putF dX9_init_357 rfl fX9_140 rfl rfl rfl ?_
  refine ww_aload_n dX9_init_360 rfl rfl ?_
  refine ww_sipush (v := 200) dX9_init_361 (by decide) ?_
  refine mq_new (ty := .int) (N' := 200) (a0 := (200, .inl (fun _ => 0))) dX9_init_364 rfl (fun _ q => by cases q) ac_int (fun _ => rfl) (by decide) (by decide) (by decide) (by decide) (by decide) rfl ?_
  refine mq_putF dX9_init_366 rfl fX9_143 rfl rfl rfl ?_
  refine ww_aload_n dX9_init_369 rfl rfl ?_
  refine ww_sipush (v := 200) dX9_init_370 (by decide) ?_
  refine mq_new (ty := .int) (N' := 200) (a0 := (200, .inl (fun _ => 0))) dX9_init_373 rfl (fun _ q => by cases q) ac_int (fun _ => rfl) (by decide) (by decide) (by decide) (by decide) (by decide) rfl ?_
  refine mq_putF dX9_init_375 rfl fX9_146 rfl rfl rfl ?_
  refine ww_aload_n dX9_init_378 rfl rfl ?_
  refine ww_sipush (v := 200) dX9_init_379 (by decide) ?_
  refine mq_new (ty := .int) (N' := 200) (a0 := (200, .inl (fun _ => 0))) dX9_init_382 rfl (fun _ q => by cases q) ac_int (fun _ => rfl) (by decide) (by decide) (by decide) (by decide) (by decide) rfl ?_
  refine mq_putF dX9_init_384 rfl fX9_149 rfl rfl rfl ?_
  refine ww_aload_n dX9_init_387 rfl rfl ?_
  refine ww_bipush (v := 8) dX9_init_388 (by decide) ?_
  refine mq_new (ty := .int) (N' := 8) (a0 := (8, .inl (fun _ => 0))) dX9_init_390 rfl (fun _ q => by cases q) ac_int (fun _ => rfl) (by decide) (by decide) (by decide) (by decide) (by decide) rfl ?_
  refine mq_putF dX9_init_392 rfl fX9_152 rfl rfl rfl ?_
  refine ww_aload_n dX9_init_395 rfl rfl ?_
  refine ww_bipush (v := 8) dX9_init_396 (by decide) ?_
  refine mq_new (ty := .int) (N' := 8) (a0 := (8, .inl (fun _ => 0))) dX9_init_398 rfl (fun _ q => by cases q) ac_int (fun _ => rfl) (by decide) (by decide) (by decide) (by decide) (by decide) rfl ?_
  refine mq_putF dX9_init_400 rfl fX9_155 rfl rfl rfl ?_
  refine ww_aload_n dX9_init_403 rfl rfl ?_
  refine ww_bipush (v := 8) dX9_init_404 (by decide) ?_
  refine mq_new (ty := .int) (N' := 8) (a0 := (8, .inl (fun _ => 0))) dX9_init_406 rfl (fun _ q => by cases q) ac_int (fun _ => rfl) (by decide) (by decide) (by decide) (by decide) (by decide) rfl ?_
  refine mq_putF dX9_init_408 rfl fX9_158 rfl rfl rfl ?_
  refine ww_aload_n dX9_init_411 rfl rfl ?_
  refine ww_bipush (v := 8) dX9_init_412 (by decide) ?_
  refine mq_new (ty := .boolean) (N' := 8) (a0 := (8, .inl (fun _ => 0))) dX9_init_414 rfl (fun _ q => by cases q) ac_boolean (fun _ => rfl) (by decide) (by decide) (by decide) (by decide) (by decide) rfl ?_
  refine mq_putF dX9_init_416 rfl fX9_161 rfl rfl rfl ?_
  refine ww_aload_n dX9_init_419 rfl rfl ?_
  refine ww_bipush (v := 64) dX9_init_420 (by decide) ?_
  refine mq_new (ty := .int) (N' := 64) (a0 := (64, .inl (fun _ => 0))) dX9_init_422 rfl (fun _ q => by cases q) ac_int (fun _ => rfl) (by decide) (by decide) (by decide) (by decide) (by decide) rfl ?_
  refine mq_putF dX9_init_424 rfl fX9_164 rfl rfl rfl ?_
  refine ww_aload_n dX9_init_427 rfl rfl ?_
  refine ww_sipush (v := 200) dX9_init_428 (by decide) ?_
  refine mq_new (ty := .int) (N' := 200) (a0 := (200, .inl (fun _ => 0))) dX9_init_431 rfl (fun _ q => by cases q) ac_int (fun _ => rfl) (by decide) (by decide) (by decide) (by decide) (by decide) rfl ?_
  refine mq_putF dX9_init_433 rfl fX9_167 rfl rfl rfl ?_
  exact ww_vret dX9_init_436 rfl ⟨rfl, by rw [m0_V, m0_h]⟩ (by decide) (by decide)
theorem c9_init : Sat G mX9_init [.ref m] (va_up h0 m (some (.inr (8, fun j => defaultValue (tyX9 j)))), m + 1) (Det none (mh m mF0 0 (fun _ _ => 0) (fun _ => 0) h0, m + 50)) := by
  rw [m0_0]
  exact c9_init0
end M10b
