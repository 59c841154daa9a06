/-! constructors of Reader and TaskHouse -/
theorem kb_sw {κ m y : Nat} {F : Nat → Int32} {O : Nat → Option Nat} {R : Nat → Nat → Int32} {h0 : Nat → Option wE} {e : Option wE} (h : ¬ inK κ m y) : kb κ m F O R (va_up h0 y e) = va_up (kb κ m F O R h0) y e := by
  funext a
  by_cases hy : a = y
  · subst hy
    rw [kb_out _ h, w_up_self, w_up_self]
  · rw [w_up_ne _ _ hy]
    by_cases hi : inK κ m a
    · exact kb_in _ _ hi
    · rw [kb_out _ hi, kb_out _ hi, w_up_ne _ _ hy]
def rdq (m : Nat) (V : Nat → Value) (j : Nat) (h0 : Nat → Option wE) : Nat → Option wE := fun a => if a = m then some (.inr (2, V)) else if m + 12 < a ∧ a < m + 13 + j then rdE (rdFl.getD (a - m - 13) 0) (fun _ _ => 0) else h0 a
section Qrd
variable {G : wG} {M : wM} {cc : ByteArray} {X : wX} {Z : State → Prop} {pc : Nat} {lv : List (Option Value)} {st : List Value} {m k n index sz : Nat} {h0 : Nat → Option wE} {V : Nat → Value}
theorem rdq_obj {j : Nat} : rdq m V j h0 m = some (.inr (2, V)) := by simp [rdq]
theorem rdq_puto {j : Nat} (V2 : Nat → Value) : va_up (rdq m V j h0) m (some (.inr (2, V2))) = rdq m V2 j h0 := by
  funext a
  by_cases ha : a = m
  · subst ha; simp [va_up, rdq]
  · simp [va_up, rdq, ha]
theorem rdq_push {j : Nat} {e : wE} (hE : rdE (rdFl.getD j 0) (fun _ _ => 0) = some e) : va_up (rdq m V j h0) (m + 13 + j) (some e) = rdq m V (j + 1) h0 := by
  funext a
  by_cases ha : a = m + 13 + j
  · subst ha
    simp only [va_up, rdq]
    rw [if_pos trivial, if_neg (by omega), if_pos (by omega), show m + 13 + j - m - 13 = j by omega, hE]
  · by_cases hm : a = m
    · subst hm; simp [va_up, rdq]; omega
    · simp only [va_up, rdq, if_neg ha, if_neg hm]
      by_cases hb : m + 12 < a ∧ a < m + 13 + j
      · rw [if_pos hb, if_pos (by omega)]
      · rw [if_neg hb, if_neg (by omega)]
theorem rdq_new {j : Nat} {atype : ArrayType} {ty : FieldType} {len : Int32} {N' : Nat} {a0 : vp_A} (hd : decode cc pc = .ok (.newarray atype, 2)) (hty : newarray.typeOf atype = ty) (hty2 : ∀ Cn, ty ≠ .object Cn) (hw : Cond.arrayClass ty ∈ wTb) (ha : ∀ cA : ClassId, vp_cell cA a0 = arrV cA N' (fun _ => defaultValue ty)) (hn0 : ¬ len < 0) (hN : len.toNatClampNeg = N') (hbytes : N' * componentBytes ty ≤ 536870912) (hk : k + 1 ≤ M.2.2.2.2.2.1) (hns : n + N' ≤ M.2.2.2.2.2.2) (hE : rdE (rdFl.getD j 0) (fun _ _ => 0) = some (.inl (ty, a0))) (kk : WW G M cc X Z (pc + 2) lv (.ref (m + 13 + j) :: st) (rdq m V (j + 1) h0, m + 13 + (j + 1)) (k + 1) (n + N')) : WW G M cc X Z pc lv (.int len :: st) (rdq m V j h0, m + 13 + j) k n :=
  ww_newa hd hty hty2 hw ha hn0 hN hbytes hk hns (by dsimp only; rw [rdq_push hE]; exact kk)
theorem rdq_put {j kf : Nat} {ty : FieldType} {v : Value} (hd : decode cc pc = .ok (.putfield index, 3)) (L : wFl M.1.cls index 2 kf ty false) (hn : narrow ty v = v) (hfit : fits ty v = true) (kk : WW G M cc X Z (pc + 3) lv st (rdq m (updV V kf v) j h0, sz) k n) : WW G M cc X Z pc lv (v :: .ref m :: st) (rdq m V j h0, sz) k n :=
  ww_put hd L hn hfit rdq_obj (by dsimp only; rw [rdq_puto]; exact kk)
theorem rdq_putF {j kf : Nat} {ty : FieldType} {v : Value} (hd : decode cc pc = .ok (.putfield index, 3)) (hCo : RX3 = M.1.cls) (L : wFl M.1.cls index 2 kf ty true) (hin2 : M.1.name = "<init>") (hn : narrow ty v = v) (hfit : fits ty v = true) (kk : WW G M cc X Z (pc + 3) lv st (rdq m (updV V kf v) j h0, sz) k n) : WW G M cc X Z pc lv (v :: .ref m :: st) (rdq m V j h0, sz) k n :=
  ww_putF (C := RX3) (T := TX3) (N := 14) hd rfl hCo L hin2 hn hfit rdq_obj (by dsimp only; rw [rdq_puto]; exact kk)
theorem rdq_0 : va_up h0 m (some (.inr (2, V))) = rdq m V 0 h0 := by
  funext a
  by_cases ha : a = m
  · subst ha; simp [va_up, rdq]
  · simp only [va_up, rdq, if_neg ha]
    rw [if_neg (by omega)]
theorem rdq_h {F : Nat → Int32} {O : Nat → Option Nat} : rdq m (rdV m F O) 7 h0 = rdh m F O (fun _ _ => 0) h0 := by
  funext a
  simp only [rdq, rdh]
theorem rdq_kb {κ m2 : Nat} {F : Nat → Int32} {O : Nat → Option Nat} {R : Nat → Nat → Int32} (h : ¬ inK κ m2 m) : kb κ m2 F O R (rdq m V 0 h0) = rdq m V 0 (kb κ m2 F O R h0) := by
  rw [← rdq_0, ← rdq_0, kb_sw h]
theorem ww_anew {N' : Nat} {len : Int32} {C : String} (hd : decode cc pc = .ok (.anewarray index, 3)) (L : Cond.classLink M.1.cls index C ∈ wTb) (hO : ∀ U, G.2.2.2 U → va_AO C U) (hn0 : ¬ len < 0) (hN : len.toNatClampNeg = N') (hbytes : N' * 4 ≤ 536870912) {h : wH} (hk : k + 1 ≤ M.2.2.2.2.2.1) (hns : n + N' ≤ M.2.2.2.2.2.2) (kk : WW G M cc X Z (pc + 3) lv (.ref h.2 :: st) (va_up h.1 h.2 (some (.inl (.object C, N', .inr (.inr (.inr (.inr (fun _ => none))))))), h.2 + 1) (k + 1) (n + N')) : WW G M cc X Z pc lv (.int len :: st) h k n := by
  obtain ⟨p, e, R, s, m, args, below, meth, c⟩ := X
  intro O H locs ls hR hS hl
  have O' := O
  obtain ⟨hx, hb, hml, hr, hown, hts, hlk, hnm, hK, ⟨hf, hlo, hrc, hrs⟩, hB, hE, hSt⟩ := O
  subst hN
  refine W.anew hx hb hown (hts _ L) (va_AO.use (hO s hE)) rfl hd rfl hn0 hbytes (by rw [hrc]; exact hk) (by rw [hrs]; exact hns) fun cA kA comp f1 f2 f3 f4 => ?_
  generalize hH1 : H.push ({ cls := cA, slots := Array.replicate len.toNatClampNeg .null, vm := .none } : Cell) = H1
  have z1 : H1.size = h.2 + 1 := by rw [← hH1, Array.size_push, hR.1]
  have e1 : H1[h.2]? = some (arrV cA len.toNatClampNeg (fun _ => .null)) := by rw [← hR.1, ← hH1, Array.getElem?_push_size, ← arrV_new]
  have o1 : ∀ q : Nat, q < h.2 → H1[q]? = H[q]? := fun q hq => by rw [← hH1, Array.getElem?_push, if_neg (by have := hR.1; omega)]
  have hAr : ArrOfT s cA (.object C) := fun N z => ⟨(fun k h => by cases h), kA, f2, comp, f3⟩
  have K := kk O' H1 locs ls (hR.push z1 o1 ⟨cA, by rw [e1, vp_cell_q]; rfl, hAr, kA, comp, f2, f3, f4, f1⟩) ⟨Nat.le_trans hS.1 (by rw [hR.1, z1]; omega), fun q h1 h2 => (o1 q (by rw [← hR.1]; exact Nat.lt_of_lt_of_le h1 hS.1)).trans (hS.2.1 q h1 h2), hS.2.2⟩ hl
  rw [← hR.1] at K
  exact K
end Qrd
def rdF0 : Nat → Int32 := fun k => if k = 2 then -1 else 0
def rdO0 (m : Nat) : Nat → Option Nat := fun k => if k = 0 then some (m + 1) else if k = 3 then some (m + 1 + 3) else none
theorem rd0_V {m : Nat} : (updV (updV (updV (updV (updV (updV (updV (updV (updV (updV (updV (updV (updV (updV (fun j => defaultValue (tyX3 j)) 0 (.ref (m + 1))) 1 (.int (0))) 2 (.int (-1))) 3 (.ref (m + 1 + 3))) 4 (.int (0))) 5 (.int (0))) 6 (.ref (m + 13 + 0))) 7 (.int (0))) 8 (.ref (m + 13 + 1))) 9 (.ref (m + 13 + 2))) 10 (.ref (m + 13 + 3))) 11 (.ref (m + 13 + 4))) 12 (.ref (m + 13 + 5))) 13 (.ref (m + 13 + 6))) = rdV m rdF0 (rdO0 m) := by
  funext k
  match k with
  | 0 => rfl
  | 1 => rfl
  | 2 => rfl
  | 3 => rfl
  | 4 => rfl
  | 5 => rfl
  | 6 => rfl
  | 7 => rfl
  | 8 => rfl
  | 9 => rfl
  | 10 => rfl
  | 11 => rfl
  | 12 => rfl
  | 13 => rfl
  | k + 14 =>
    have e1 : rdPos (k + 14) = none := rfl
    have e2 : rdOb (k + 14) = true := by simp [rdOb]
    simp [updV, rdV, rdO0, e1, e2]
    rfl
set_option maxHeartbeats 4000000 in
theorem c3_init {G : wG} {adK adV : Nat → Nat} {zz : Option Nat} (hE : ∀ U, G.2.2.2 U → sE G.2.2.1 adK adV zz U) {m : Nat} {h0 : Nat → Option wE} : Sat G mX3_init [.ref m] (va_up h0 m (some (.inr (2, fun j => defaultValue (tyX3 j)))), m + 1) (Det none (rdh m rdF0 (rdO0 m) (fun _ _ => 0) (bbh (m + 1 + 3) (fun _ => 0) (fun _ => none) (fun _ _ => 0) (tah (m + 1) tF0 (fun _ => none) wkR h0)), m + 20)) := by
  rw [rdq_0]
  refine Sat.of (by decide) [some (.ref m)] rfl rfl (fun X => ?_)
  refine ww_aload_n dX3_init_0 rfl rfl ?_
  refine ww_objInit dX3_init_1 oX3_3 rfl rfl ?_
  refine ww_aload_n dX3_init_4 rfl rfl ?_
  refine ww_new dX3_init_5 nX3_9 (by decide) (by decide) ?_
  refine ww_dup dX3_init_8 rfl ?_
  refine ww_callI (b := m + 1) (As := []) dX3_init_9 kX3_11 (c5_init hE (m := m + 1) (h0 := rdq m (fun j => defaultValue (tyX3 j)) 0 h0)) rfl rfl rfl rfl rfl (by decide) (by decide) (fun v h2 q => ?_)
  obtain ⟨rfl, rfl⟩ := q
  rw [show tah (m + 1) tF0 (fun _ => none) wkR (rdq m (fun j => defaultValue (tyX3 j)) 0 h0) = rdq m (fun j => defaultValue (tyX3 j)) 0 (tah (m + 1) tF0 (fun _ => none) wkR h0) from rdq_kb (κ := 2) (by rintro (q | q); omega; have e1 : kLo 2 = 1 := rfl; omega)]
  refine rdq_putF dX3_init_12 rfl fX3_12 rfl rfl rfl ?_
  refine ww_aload_n dX3_init_15 rfl rfl ?_
  refine ww_iconst (v := 0) dX3_init_16 (by decide) ?_
  refine rdq_put dX3_init_17 fX3_18 rfl rfl ?_
  refine ww_aload_n dX3_init_20 rfl rfl ?_
  refine ww_iconst (v := -1) dX3_init_21 (by decide) ?_
  refine rdq_put dX3_init_22 fX3_22 rfl rfl ?_
  refine ww_aload_n dX3_init_25 rfl rfl ?_
  refine ww_new dX3_init_26 nX3_25 (by decide) (by decide) ?_
  refine ww_dup dX3_init_29 rfl ?_
  refine ww_callI (b := m + 1 + 3) (As := []) dX3_init_30 kX3_27 (c0_init (m := m + 1 + 3) (h0 := rdq m (updV (updV (updV (fun j => defaultValue (tyX3 j)) 0 (.ref (m + 1))) 1 (.int (0))) 2 (.int (-1))) 0 (tah (m + 1) tF0 (fun _ => none) wkR h0))) rfl rfl rfl rfl rfl (by decide) (by decide) (fun v h2 q => ?_)
  obtain ⟨rfl, rfl⟩ := q
  rw [show bbh (m + 1 + 3) (fun _ => 0) (fun _ => none) (fun _ _ => 0) (rdq m (updV (updV (updV (fun j => defaultValue (tyX3 j)) 0 (.ref (m + 1))) 1 (.int (0))) 2 (.int (-1))) 0 (tah (m + 1) tF0 (fun _ => none) wkR h0)) = rdq m (updV (updV (updV (fun j => defaultValue (tyX3 j)) 0 (.ref (m + 1))) 1 (.int (0))) 2 (.int (-1))) 0 (bbh (m + 1 + 3) (fun _ => 0) (fun _ => none) (fun _ _ => 0) (tah (m + 1) tF0 (fun _ => none) wkR h0)) from rdq_kb (κ := 3) (by rintro (q | q); omega; have e1 : kLo 3 = 1 := rfl; omega)]
  refine rdq_put dX3_init_33 fX3_28 rfl rfl ?_
  refine ww_aload_n dX3_init_36 rfl rfl ?_
  refine ww_iconst (v := 0) dX3_init_37 (by decide) ?_
  refine rdq_put dX3_init_38 fX3_32 rfl rfl ?_
  refine ww_aload_n dX3_init_41 rfl rfl ?_
  refine ww_iconst (v := 0) dX3_init_42 (by decide) ?_
  refine rdq_put dX3_init_43 fX3_36 rfl rfl ?_
  refine ww_aload_n dX3_init_46 rfl rfl ?_
  refine ww_bipush (v := 40) dX3_init_47 (by decide) ?_
  rw [show m + 1 + 3 + 9 = m + 13 + 0 by omega]
  refine rdq_new (ty := .int) (N' := 40) (a0 := (40, .inl (fun _ => 0))) dX3_init_49 rfl (fun _ q => by cases q) ac_int (fun _ => rfl) (by decide) (by decide) (by decide) (by decide) (by decide) rfl ?_
  refine rdq_putF dX3_init_51 rfl fX3_39 rfl rfl rfl ?_
  refine ww_aload_n dX3_init_54 rfl rfl ?_
  refine ww_iconst (v := 0) dX3_init_55 (by decide) ?_
  refine rdq_put dX3_init_56 fX3_43 rfl rfl ?_
  refine ww_aload_n dX3_init_59 rfl rfl ?_
  refine ww_iconst (v := 4) dX3_init_60 (by decide) ?_
  refine rdq_new (ty := .int) (N' := 4) (a0 := (4, .inl (fun _ => 0))) dX3_init_61 rfl (fun _ q => by cases q) ac_int (fun _ => rfl) (by decide) (by decide) (by decide) (by decide) (by decide) rfl ?_
  refine rdq_putF dX3_init_63 rfl fX3_46 rfl rfl rfl ?_
  refine ww_aload_n dX3_init_66 rfl rfl ?_
  refine ww_iconst (v := 4) dX3_init_67 (by decide) ?_
  refine rdq_new (ty := .int) (N' := 4) (a0 := (4, .inl (fun _ => 0))) dX3_init_68 rfl (fun _ q => by cases q) ac_int (fun _ => rfl) (by decide) (by decide) (by decide) (by decide) (by decide) rfl ?_
  refine rdq_putF dX3_init_70 rfl fX3_49 rfl rfl rfl ?_
  refine ww_aload_n dX3_init_73 rfl rfl ?_
  refine ww_iconst (v := 4) dX3_init_74 (by decide) ?_
  refine rdq_new (ty := .int) (N' := 4) (a0 := (4, .inl (fun _ => 0))) dX3_init_75 rfl (fun _ q => by cases q) ac_int (fun _ => rfl) (by decide) (by decide) (by decide) (by decide) (by decide) rfl ?_
  refine rdq_putF dX3_init_77 rfl fX3_52 rfl rfl rfl ?_
  refine ww_aload_n dX3_init_80 rfl rfl ?_
  refine ww_iconst (v := 4) dX3_init_81 (by decide) ?_
  refine rdq_new (ty := .boolean) (N' := 4) (a0 := (4, .inl (fun _ => 0))) dX3_init_82 rfl (fun _ q => by cases q) ac_boolean (fun _ => rfl) (by decide) (by decide) (by decide) (by decide) (by decide) rfl ?_
  refine rdq_putF dX3_init_84 rfl fX3_55 rfl rfl rfl ?_
  refine ww_aload_n dX3_init_87 rfl rfl ?_
  refine ww_iconst (v := 4) dX3_init_88 (by decide) ?_
  refine rdq_new (ty := .boolean) (N' := 4) (a0 := (4, .inl (fun _ => 0))) dX3_init_89 rfl (fun _ q => by cases q) ac_boolean (fun _ => rfl) (by decide) (by decide) (by decide) (by decide) (by decide) rfl ?_
  refine rdq_putF dX3_init_91 rfl fX3_59 rfl rfl rfl ?_
  refine ww_aload_n dX3_init_94 rfl rfl ?_
  refine ww_iconst (v := 5) dX3_init_95 (by decide) ?_
  refine rdq_new (ty := .boolean) (N' := 5) (a0 := (5, .inl (fun _ => 0))) dX3_init_96 rfl (fun _ q => by cases q) ac_boolean (fun _ => rfl) (by decide) (by decide) (by decide) (by decide) (by decide) rfl ?_
  refine rdq_putF dX3_init_98 rfl fX3_62 rfl rfl rfl ?_
  exact ww_vret dX3_init_101 rfl ⟨rfl, by rw [rd0_V, rdq_h]⟩ (by decide) (by decide)
