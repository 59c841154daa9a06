def taq (m : Nat) (V : Nat → Value) (j : Nat) (h0 : Nat → Option wE) : Nat → Option wE := fun a => if a = m then some (.inr (4, V)) else if m < a ∧ a < m + 1 + j then taE (taFl.getD (a - m - 1) 0) (fun _ _ => 0) else h0 a
section Qta
variable {G : wG} {M : wM} {cc : ByteArray} {X : wX} {Z : State → Prop} {pc : Nat} {lv : List (Option Value)} {st : List Value} {m k n index : Nat} {h0 : Nat → Option wE} {V : Nat → Value}
theorem taq_obj {j : Nat} : taq m V j h0 m = some (.inr (4, V)) := by simp [taq]
theorem taq_puto {j : Nat} (V2 : Nat → Value) : va_up (taq m V j h0) m (some (.inr (4, V2))) = taq m V2 j h0 := by
  funext a
  by_cases ha : a = m
  · subst ha; simp [va_up, taq]
  · simp [va_up, taq, ha]
theorem taq_push {j : Nat} {e : wE} (hE : taE (taFl.getD j 0) (fun _ _ => 0) = some e) : va_up (taq m V j h0) (m + 1 + j) (some e) = taq m V (j + 1) h0 := by
  funext a
  by_cases ha : a = m + 1 + j
  · subst ha
    simp only [va_up, taq]
    rw [if_pos trivial, if_neg (by omega), if_pos (by omega), show m + 1 + j - m - 1 = j by omega, hE]
  · by_cases hm : a = m
    · subst hm; simp [va_up, taq]; omega
    · simp only [va_up, taq, if_neg ha, if_neg hm]
      by_cases hb : m < a ∧ a < m + 1 + j
      · rw [if_pos hb, if_pos (by omega)]
      · rw [if_neg hb, if_neg (by omega)]
theorem taq_new {j : Nat} {atype : ArrayType} {ty : FieldType} {len : Int32} {N' : Nat} {a0 : vp_A} (hd : decode cc pc = .ok (.newarray atype, 2)) (hty : newarray.typeOf atype = ty) (hty2 : ∀ Cn, ty ≠ .object Cn) (hw : Cond.arrayClass ty ∈ wTb) (ha : ∀ cA : ClassId, vp_cell cA a0 = arrV cA N' (fun _ => defaultValue ty)) (hn0 : ¬ len < 0) (hN : len.toNatClampNeg = N') (hbytes : N' * componentBytes ty ≤ 536870912) (hk : k + 1 ≤ M.2.2.2.2.2.1) (hns : n + N' ≤ M.2.2.2.2.2.2) (hE : taE (taFl.getD j 0) (fun _ _ => 0) = some (.inl (ty, a0))) (kk : WW G M cc X Z (pc + 2) lv (.ref (m + 1 + j) :: st) (taq m V (j + 1) h0, m + 1 + (j + 1)) (k + 1) (n + N')) : WW G M cc X Z pc lv (.int len :: st) (taq m V j h0, m + 1 + j) k n :=
  ww_newa hd hty hty2 hw ha hn0 hN hbytes hk hns (by dsimp only; rw [taq_push hE]; exact kk)
theorem taq_put {j kf : Nat} {ty : FieldType} {v : Value} (hd : decode cc pc = .ok (.putfield index, 3)) (L : wFl M.1.cls index 4 kf ty false) (hn : narrow ty v = v) (hfit : fits ty v = true) (kk : WW G M cc X Z (pc + 3) lv st (taq m (updV V kf v) j h0, m + 1 + j) k n) : WW G M cc X Z pc lv (v :: .ref m :: st) (taq m V j h0, m + 1 + j) k n :=
  ww_put hd L hn hfit taq_obj (by dsimp only; rw [taq_puto]; exact kk)
theorem taq_putF {j kf : Nat} {ty : FieldType} {v : Value} (hd : decode cc pc = .ok (.putfield index, 3)) (hCo : RX5 = M.1.cls) (L : wFl M.1.cls index 4 kf ty true) (hin2 : M.1.name = "<init>") (hn : narrow ty v = v) (hfit : fits ty v = true) (kk : WW G M cc X Z (pc + 3) lv st (taq m (updV V kf v) j h0, m + 1 + j) k n) : WW G M cc X Z pc lv (v :: .ref m :: st) (taq m V j h0, m + 1 + j) k n :=
  ww_putF (C := RX5) (T := TX5) (N := 7) hd rfl hCo L hin2 hn hfit taq_obj (by dsimp only; rw [taq_puto]; exact kk)
theorem taq_0 : va_up h0 m (some (.inr (4, V))) = taq m V 0 h0 := by
  funext a
  by_cases ha : a = m
  · subst ha; simp [va_up, taq]
  · simp only [va_up, taq, if_neg ha]
    rw [if_neg (by omega)]
theorem taq_h {F : Nat → Int32} {O : Nat → Option Nat} : taq m (taV m F O) 2 h0 = tah m F O (fun _ _ => 0) h0 := by
  funext a
  simp only [taq, tah]
end Qta
def tF0 : Nat → Int32 := fun k => if k = 2 then 15 else 0
theorem ta0_V {m : Nat} : (updV (updV (updV (updV (updV (updV (updV (fun j => defaultValue (tyX5 j)) 0 (.ref (m + 1 + 0))) 1 (.int (0))) 2 (.int (15))) 3 (.int (0))) 4 (.int (0))) 5 (.int (0))) 6 (.ref (m + 1 + 1))) = taV m tF0 (fun _ => none) := by
  funext k
  match k with
  | 0 => rfl
  | 1 => rfl
  | 2 => rfl
  | 3 => rfl
  | 4 => rfl
  | 5 => rfl
  | 6 => rfl
  | k + 7 =>
    have e1 : taPos (k + 7) = none := rfl
    have e2 : taOb (k + 7) = true := by simp [taOb]
    simp [updV, taV, tF0, e1, e2]
    rfl
def wkR : Nat → Nat → Int32 := va_up (fun _ _ => 0) 6 (upd (upd (upd (upd (upd (upd (upd (upd (upd (fun _ => 0) 0 (nI (wkN 0))) 1 (nI (wkN 1))) 2 (nI (wkN 2))) 3 (nI (wkN 3))) 4 (nI (wkN 4))) 5 (nI (wkN 5))) 6 (nI (wkN 6))) 7 (nI (wkN 7))) 8 (nI (wkN 8)))
theorem wkR_6 : ∀ t, t < 9 → wkR 6 t = nI (wkN t) := by decide
set_option maxHeartbeats 4000000 in
theorem c5_init {G : wG} {adK adV : Nat → Nat} {zz : Option Nat} (hE : ∀ U, G.2.2.2 U → sE G.2.2.1 adK adV zz U) {m : Nat} {h0 : Nat → Option wE} : Sat G mX5_init [.ref m] (va_up h0 m (some (.inr (4, fun j => defaultValue (tyX5 j)))), m + 1) (Det none (tah m tF0 (fun _ => none) wkR h0, m + 3)) := by
  rw [taq_0]
  show Sat G mX5_init [.ref m] (taq m (fun j => defaultValue (tyX5 j)) 0 h0, m + 1 + 0) _
  refine Sat.of (by decide) [some (.ref m)] rfl rfl (fun X => ?_)
  refine ww_aload_n dX5_init_0 rfl rfl ?_
  refine ww_objInit dX5_init_1 oX5_3 rfl rfl ?_
  refine ww_aload_n dX5_init_4 rfl rfl ?_
  refine ww_sipush (v := 300) dX5_init_5 (by decide) ?_
  refine taq_new (ty := .byte) (N' := 300) (a0 := (300, .inl (fun _ => 0))) dX5_init_8 rfl (fun _ q => by cases q) ac_byte (fun _ => rfl) (by decide) (by decide) (by decide) (by decide) (by decide) rfl ?_
  refine taq_putF dX5_init_10 rfl fX5_9 rfl rfl rfl ?_
  refine ww_aload_n dX5_init_13 rfl rfl ?_
  refine ww_iconst (v := 0) dX5_init_14 (by decide) ?_
  refine taq_put dX5_init_15 fX5_15 rfl rfl ?_
  refine ww_aload_n dX5_init_18 rfl rfl ?_
  refine ww_bipush (v := 15) dX5_init_19 (by decide) ?_
  refine taq_put dX5_init_21 fX5_19 rfl rfl ?_
  refine ww_aload_n dX5_init_24 rfl rfl ?_
  refine ww_iconst (v := 0) dX5_init_25 (by decide) ?_
  refine taq_put dX5_init_26 fX5_22 rfl rfl ?_
  refine ww_aload_n dX5_init_29 rfl rfl ?_
  refine ww_iconst (v := 0) dX5_init_30 (by decide) ?_
  refine taq_put dX5_init_31 fX5_25 rfl rfl ?_
  refine ww_aload_n dX5_init_34 rfl rfl ?_
  refine ww_iconst (v := 0) dX5_init_35 (by decide) ?_
  refine taq_put dX5_init_36 fX5_28 rfl rfl ?_
  refine ww_aload_n dX5_init_39 rfl rfl ?_
  refine ww_bipush (v := 9) dX5_init_40 (by decide) ?_
  refine taq_new (ty := .int) (N' := 9) (a0 := (9, .inl (fun _ => 0))) dX5_init_42 rfl (fun _ q => by cases q) ac_int (fun _ => rfl) (by decide) (by decide) (by decide) (by decide) (by decide) rfl ?_
  refine taq_putF dX5_init_44 rfl fX5_31 rfl rfl rfl ?_
  rw [ta0_V, taq_h]
  refine ww_aload_n dX5_init_47 rfl rfl ?_
  refine ta_getr dX5_init_48 fX5_31 rfl ?_
  refine ww_iconst (v := 0) dX5_init_51 (by decide) ?_
  refine ww_ldcS (q := adK 0) dX5_init_52 (fun U q => (hE U q).2.1 0 (by decide)) ?_
  refine ww_callS (As := [.ref (adK 0)]) dX5_init_54 kX5_37 (c5_keyOf hE (i := 0) (by decide)) rfl rfl rfl rfl rfl (by decide) (by decide) ?_
  rintro v h' ⟨rfl, rfl⟩
  refine ta_iast dX5_init_57 rfl (show (0 : Int32) = nI 0 from rfl) (by decide) rfl ?_
  refine ww_aload_n dX5_init_58 rfl rfl ?_
  refine ta_getr dX5_init_59 fX5_31 rfl ?_
  refine ww_iconst (v := 1) dX5_init_62 (by decide) ?_
  refine ww_ldcS (q := adK 1) dX5_init_63 (fun U q => (hE U q).2.1 1 (by decide)) ?_
  refine ww_callS (As := [.ref (adK 1)]) dX5_init_65 kX5_37 (c5_keyOf hE (i := 1) (by decide)) rfl rfl rfl rfl rfl (by decide) (by decide) ?_
  rintro v h' ⟨rfl, rfl⟩
  refine ta_iast dX5_init_68 rfl (show (1 : Int32) = nI 1 from rfl) (by decide) rfl ?_
  refine ww_aload_n dX5_init_69 rfl rfl ?_
  refine ta_getr dX5_init_70 fX5_31 rfl ?_
  refine ww_iconst (v := 2) dX5_init_73 (by decide) ?_
  refine ww_ldcS (q := adK 2) dX5_init_74 (fun U q => (hE U q).2.1 2 (by decide)) ?_
  refine ww_callS (As := [.ref (adK 2)]) dX5_init_76 kX5_37 (c5_keyOf hE (i := 2) (by decide)) rfl rfl rfl rfl rfl (by decide) (by decide) ?_
  rintro v h' ⟨rfl, rfl⟩
  refine ta_iast dX5_init_79 rfl (show (2 : Int32) = nI 2 from rfl) (by decide) rfl ?_
  refine ww_aload_n dX5_init_80 rfl rfl ?_
  refine ta_getr dX5_init_81 fX5_31 rfl ?_
  refine ww_iconst (v := 3) dX5_init_84 (by decide) ?_
  refine ww_ldcS (q := adK 3) dX5_init_85 (fun U q => (hE U q).2.1 3 (by decide)) ?_
  refine ww_callS (As := [.ref (adK 3)]) dX5_init_87 kX5_37 (c5_keyOf hE (i := 3) (by decide)) rfl rfl rfl rfl rfl (by decide) (by decide) ?_
  rintro v h' ⟨rfl, rfl⟩
  refine ta_iast dX5_init_90 rfl (show (3 : Int32) = nI 3 from rfl) (by decide) rfl ?_
  refine ww_aload_n dX5_init_91 rfl rfl ?_
  refine ta_getr dX5_init_92 fX5_31 rfl ?_
  refine ww_iconst (v := 4) dX5_init_95 (by decide) ?_
  refine ww_ldcS (q := adK 4) dX5_init_96 (fun U q => (hE U q).2.1 4 (by decide)) ?_
  refine ww_callS (As := [.ref (adK 4)]) dX5_init_98 kX5_37 (c5_keyOf hE (i := 4) (by decide)) rfl rfl rfl rfl rfl (by decide) (by decide) ?_
  rintro v h' ⟨rfl, rfl⟩
  refine ta_iast dX5_init_101 rfl (show (4 : Int32) = nI 4 from rfl) (by decide) rfl ?_
  refine ww_aload_n dX5_init_102 rfl rfl ?_
  refine ta_getr dX5_init_103 fX5_31 rfl ?_
  refine ww_iconst (v := 5) dX5_init_106 (by decide) ?_
  refine ww_ldcS (q := adK 5) dX5_init_107 (fun U q => (hE U q).2.1 5 (by decide)) ?_
  refine ww_callS (As := [.ref (adK 5)]) dX5_init_109 kX5_37 (c5_keyOf hE (i := 5) (by decide)) rfl rfl rfl rfl rfl (by decide) (by decide) ?_
  rintro v h' ⟨rfl, rfl⟩
  refine ta_iast dX5_init_112 rfl (show (5 : Int32) = nI 5 from rfl) (by decide) rfl ?_
  refine ww_aload_n dX5_init_113 rfl rfl ?_
  refine ta_getr dX5_init_114 fX5_31 rfl ?_
  refine ww_bipush (v := 6) dX5_init_117 (by decide) ?_
  refine ww_ldcS (q := adK 6) dX5_init_119 (fun U q => (hE U q).2.1 6 (by decide)) ?_
  refine ww_callS (As := [.ref (adK 6)]) dX5_init_121 kX5_37 (c5_keyOf hE (i := 6) (by decide)) rfl rfl rfl rfl rfl (by decide) (by decide) ?_
  rintro v h' ⟨rfl, rfl⟩
  refine ta_iast dX5_init_124 rfl (show (6 : Int32) = nI 6 from rfl) (by decide) rfl ?_
  refine ww_aload_n dX5_init_125 rfl rfl ?_
  refine ta_getr dX5_init_126 fX5_31 rfl ?_
  refine ww_bipush (v := 7) dX5_init_129 (by decide) ?_
  refine ww_ldcS (q := adK 7) dX5_init_131 (fun U q => (hE U q).2.1 7 (by decide)) ?_
  refine ww_callS (As := [.ref (adK 7)]) dX5_init_133 kX5_37 (c5_keyOf hE (i := 7) (by decide)) rfl rfl rfl rfl rfl (by decide) (by decide) ?_
  rintro v h' ⟨rfl, rfl⟩
  refine ta_iast dX5_init_136 rfl (show (7 : Int32) = nI 7 from rfl) (by decide) rfl ?_
  refine ww_aload_n dX5_init_137 rfl rfl ?_
  refine ta_getr dX5_init_138 fX5_31 rfl ?_
  refine ww_bipush (v := 8) dX5_init_141 (by decide) ?_
  refine ww_ldcS (q := adK 8) dX5_init_143 (fun U q => (hE U q).2.1 8 (by decide)) ?_
  refine ww_callS (As := [.ref (adK 8)]) dX5_init_145 kX5_37 (c5_keyOf hE (i := 8) (by decide)) rfl rfl rfl rfl rfl (by decide) (by decide) ?_
  rintro v h' ⟨rfl, rfl⟩
  refine ta_iast dX5_init_148 rfl (show (8 : Int32) = nI 8 from rfl) (by decide) rfl ?_
  exact ww_vret dX5_init_149 rfl ⟨rfl, by simp only [w_up_up, w_up_self]; rfl⟩ (by decide) (by decide)
