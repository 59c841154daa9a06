section STR
variable {G : wG} {M Mc : wM} {cc : ByteArray} {X : wX} {Z : State → Prop} {Q : Option Value → wH → Prop} {pc : Nat} {lv : List (Option Value)} {st st0 As : List Value} {h : wH} {k n index na : Nat}
theorem ww_ldcS {tx : String} {q : Nat} (hd : decode cc pc = .ok (.ldc index, 2)) (hZ : ∀ U, G.2.2.2 U → vk_R M.1.cls index tx q U) (kk : WW G M cc X Z (pc + 2) lv (.ref q :: st) h k n) : WW G M cc X Z pc lv st h k n := by
  obtain ⟨p, e, R, s, m, args, below, meth, c⟩ := X
  intro O H locs ls hR hS hl
  have O' := O
  obtain ⟨hx, hb, hml, hr, hown, hts, hlk, hnm, hK, hroom, hB, hE, hSt⟩ := O
  exact va_ldcS hx hb hown (hZ s hE) hd (kk O' H locs ls hR hS hl)
theorem ww_getS {o nm d : String} {q : Nat} {v : Value} (hd : decode cc pc = .ok (.getfield index, 3)) (L : Cond.fieldLink M.1.cls index o nm d ∈ wTb) (hF : ∀ U, G.2.2.2 U → va_OF o nm d v q (wA G) U U.heap) (kk : WW G M cc X Z (pc + 3) lv (v :: st) h k n) : WW G M cc X Z pc lv (.ref q :: st) h k n := by
  obtain ⟨p, e, R, s, m, args, below, meth, c⟩ := X
  intro O H locs ls hR hS hl
  have O' := O
  obtain ⟨hx, hb, hml, hr, hown, hts, hlk, hnm, hK, hroom, hB, hE, hSt⟩ := O
  exact vk_getf hx hb (hF s hE) hS hown (hts _ L) (fun _ q => q) hd (kk O' H locs ls hR hS hl)
theorem ww_getZ {o nm d : String} {v : Value} (hd : decode cc pc = .ok (.getstatic index, 3)) (L : Cond.fieldLink M.1.cls index o nm d ∈ wTb) (hF : ∀ U, G.2.2.2 U → va_Z o nm d v (wA G) U U.heap) (kk : WW G M cc X Z (pc + 3) lv (v :: st) h k n) : WW G M cc X Z pc lv st h k n := by
  obtain ⟨p, e, R, s, m, args, below, meth, c⟩ := X
  intro O H locs ls hR hS hl
  have O' := O
  obtain ⟨hx, hb, hml, hr, hown, hts, hlk, hnm, hK, hroom, hB, hE, hSt⟩ := O
  exact va_gets hx hb (hF s hE) hS hown (hts _ L) (fun _ q => q) hd (kk O' H locs ls hR hS hl)
theorem ww_lenT {ty : FieldType} {t N : Nat} {f : Nat → Value} {v : Int32} (hd : decode cc pc = .ok (.arraylength, 1)) (hF : ∀ U, G.2.2.2 U → va_T ty t N f (wA G) U U.heap) (hv : Int32.ofNat N = v) (kk : WW G M cc X Z (pc + 1) lv (.int v :: st) h k n) : WW G M cc X Z pc lv (.ref t :: st) h k n := by
  obtain ⟨p, e, R, s, m, args, below, meth, c⟩ := X
  intro O H locs ls hR hS hl
  have O' := O
  obtain ⟨hx, hb, hml, hr, hown, hts, hlk, hnm, hK, hroom, hB, hE, hSt⟩ := O
  exact va_tlen hx hb (hF s hE) hS hv hd (kk O' H locs ls hR hS hl)
theorem ww_baldT {t N : Nat} {f : Nat → Value} {i : Int32} {v : Value} (hd : decode cc pc = .ok (.baload, 1)) (hF : ∀ U, G.2.2.2 U → va_T .byte t N f (wA G) U U.heap) (hin : vp_in i N) (hv : f i.toNatClampNeg = v) (kk : WW G M cc X Z (pc + 1) lv (v :: st) h k n) : WW G M cc X Z pc lv (.int i :: .ref t :: st) h k n := by
  obtain ⟨p, e, R, s, m, args, below, meth, c⟩ := X
  intro O H locs ls hR hS hl
  have O' := O
  obtain ⟨hx, hb, hml, hr, hown, hts, hlk, hnm, hK, hroom, hB, hE, hSt⟩ := O
  exact va_tb hx hb (hF s hE) hS hin hv hd (kk O' H locs ls hR hS hl)
theorem ww_callO {b : Nat} (hd : decode cc pc = .ok (.invokevirtual index, 3)) (L : wCv M.1.cls index Mc na) (hF : ∀ U, G.2.2.2 U → va_O Mc.1.cls b (wA G) U U.heap) (hs : Sat G Mc (.ref b :: As) h Q) (hst : st0 = As.reverse ++ .ref b :: st) (hna : As.length = na) (hlev : Nat.ble (Mc.2.2.2.2.1 + 1) M.2.2.2.2.1 = true) (hmx : Nat.ble Mc.2.2.1 15 = true) (hro : Nat.ble (st.map fun v => v.category).sum 8 = true) (hk : k + Mc.2.2.2.2.2.1 ≤ M.2.2.2.2.2.1) (hn : n + Mc.2.2.2.2.2.2 ≤ M.2.2.2.2.2.2)
    (kk : ∀ v h', Q v h' → WW G M cc X Z (pc + 3) lv (v.toList ++ st) h' (k + Mc.2.2.2.2.2.1) (n + Mc.2.2.2.2.2.2)) : WW G M cc X Z pc lv st0 h k n := by
  obtain ⟨p, e, R, s, m, args, below, meth, c⟩ := X
  intro O H locs ls hR hS hl
  have O' := O
  obtain ⟨hx, hb, hml, hr, hown, hts, hlk, hnm, hK, ⟨hf, hlo, hrc, hrs⟩, hB, hE, hSt⟩ := O
  obtain ⟨cell, q1, q2, q3, -⟩ := (hF s hE).kept hS.2.1
  refine w_after O' hR hS hl (va_runV (As := As) (rest := st) (nL := M.2.2.1) (own := M.1.cls) (Ts := wTb) (C := Mc.1.cls) (index := index) (n := na) ⟨hx, hb, hml, hown, hts⟩ hs ⟨w_callB (G := G) (M := M) hts L.1 (Nat.le_of_ble_eq_true hlev) (Nat.le_of_ble_eq_true hmx) hf hlo, hts _ L.2.1, hts _ L.2.2⟩ ⟨w_blind, ⟨cell, q1, q2, q3⟩, fun U hU hW => ⟨rfl, by rw [hU]; exact hR.moved hW.alike, va_K.moved hW.alike hK, w_keep hSt hE hB hS hU hW, hSt⟩⟩ rfl hna hl.1 hst (lv_room (Nat.le_of_ble_eq_true hro)) hd ⟨by rw [hrc]; exact hk, by rw [hrs]; exact hn⟩) kk
end STR
