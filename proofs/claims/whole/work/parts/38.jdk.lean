theorem jX5_85 : Cond.methodLink RX5 85 Lib.Math.min.name ∈ wTb ∧ Cond.static Lib.Math.min.name ∈ wTb ∧ Cond.initialized "java/lang/Math" ∈ wTb ∧ Cond.code Lib.Math.min.name Lib.Math.min.code 2 (some .int) ∈ wTb := ⟨(wTb_mem 492 (by decide +kernel) rfl), (wTb_mem 493 (by decide +kernel) rfl), (wTb_mem 74 (by decide +kernel) rfl), (wTb_mem 494 (by decide +kernel) rfl)⟩
theorem jX1_13 : Cond.methodLink RX1 13 Lib.Math.max.name ∈ wTb ∧ Cond.static Lib.Math.max.name ∈ wTb ∧ Cond.initialized "java/lang/Math" ∈ wTb ∧ Cond.code Lib.Math.max.name Lib.Math.max.code 2 (some .int) ∈ wTb := ⟨(wTb_mem 757 (by decide +kernel) rfl), (wTb_mem 758 (by decide +kernel) rfl), (wTb_mem 74 (by decide +kernel) rfl), (wTb_mem 759 (by decide +kernel) rfl)⟩
theorem jX1_19 : Cond.methodLink RX1 19 Lib.Math.min.name ∈ wTb ∧ Cond.static Lib.Math.min.name ∈ wTb ∧ Cond.initialized "java/lang/Math" ∈ wTb ∧ Cond.code Lib.Math.min.name Lib.Math.min.code 2 (some .int) ∈ wTb := ⟨(wTb_mem 760 (by decide +kernel) rfl), (wTb_mem 493 (by decide +kernel) rfl), (wTb_mem 74 (by decide +kernel) rfl), (wTb_mem 494 (by decide +kernel) rfl)⟩
theorem jX4_39 : Cond.methodLink RX4 39 arraycopyName ∈ wTb ∧ Cond.native arraycopyName ∈ wTb ∧ Cond.static arraycopyName ∈ wTb ∧ Cond.initialized "java/lang/System" ∈ wTb := ⟨(wTb_mem 740 (by decide +kernel) rfl), (wTb_mem 742 (by decide +kernel) rfl), (wTb_mem 741 (by decide +kernel) rfl), (wTb_mem 76 (by decide +kernel) rfl)⟩
theorem jX7_41 : Cond.methodLink RX7 41 arraycopyName ∈ wTb ∧ Cond.native arraycopyName ∈ wTb ∧ Cond.static arraycopyName ∈ wTb ∧ Cond.initialized "java/lang/System" ∈ wTb := ⟨(wTb_mem 841 (by decide +kernel) rfl), (wTb_mem 742 (by decide +kernel) rfl), (wTb_mem 741 (by decide +kernel) rfl), (wTb_mem 76 (by decide +kernel) rfl)⟩
section SJ
variable {G : wG} {M : wM} {cc : ByteArray} {X : wX} {Z : State → Prop} {pc : Nat} {lv : List (Option Value)} {st : List Value} {h : wH} {k n index : Nat}
theorem ww_max {x y : Int32} (hd : decode cc pc = .ok (.invokestatic index, 3)) (L : Cond.methodLink M.1.cls index Lib.Math.max.name ∈ wTb ∧ Cond.static Lib.Math.max.name ∈ wTb ∧ Cond.initialized "java/lang/Math" ∈ wTb ∧ Cond.code Lib.Math.max.name Lib.Math.max.code 2 (some .int) ∈ wTb) (hlev : Nat.ble 1 M.2.2.2.2.1 = true) (hro : Nat.ble (st.map fun v => v.category).sum 8 = true) (hk : k ≤ M.2.2.2.2.2.1) (hn : n ≤ M.2.2.2.2.2.2) (kk : WW G M cc X Z (pc + 3) lv (.int (if x < y then y else x) :: st) h k n) : WW G M cc X Z pc lv (.int y :: .int x :: st) h k n := by
  obtain ⟨p, e, R, s, m, args, below, meth, c⟩ := X
  intro O H locs ls hR hS hl
  have O' := O
  obtain ⟨hx, hb, hml, hr, hown, hts, hlk, hnm, hK, ⟨hf, hlo, hrc, hrs⟩, hB, hE, hSt⟩ := O
  have hlev := Nat.le_of_ble_eq_true hlev
  have hro := Nat.le_of_ble_eq_true hro
  exact va_mmax hx hb (by rw [hml]; exact hl.1.symm) hown (hts _ L.1) (hts _ L.2.1) (hts _ L.2.2.1) (hts _ L.2.2.2) (by omega) (by omega) (by rw [hrc]; exact hk) (by rw [hrs]; exact hn) hd (kk O' H locs ls hR hS hl)
theorem ww_min {x y : Int32} (hd : decode cc pc = .ok (.invokestatic index, 3)) (L : Cond.methodLink M.1.cls index Lib.Math.min.name ∈ wTb ∧ Cond.static Lib.Math.min.name ∈ wTb ∧ Cond.initialized "java/lang/Math" ∈ wTb ∧ Cond.code Lib.Math.min.name Lib.Math.min.code 2 (some .int) ∈ wTb) (hlev : Nat.ble 1 M.2.2.2.2.1 = true) (hro : Nat.ble (st.map fun v => v.category).sum 8 = true) (hk : k ≤ M.2.2.2.2.2.1) (hn : n ≤ M.2.2.2.2.2.2) (kk : WW G M cc X Z (pc + 3) lv (.int (if y < x then y else x) :: st) h k n) : WW G M cc X Z pc lv (.int y :: .int x :: st) h k n := by
  obtain ⟨p, e, R, s, m, args, below, meth, c⟩ := X
  intro O H locs ls hR hS hl
  have O' := O
  obtain ⟨hx, hb, hml, hr, hown, hts, hlk, hnm, hK, ⟨hf, hlo, hrc, hrs⟩, hB, hE, hSt⟩ := O
  have hlev := Nat.le_of_ble_eq_true hlev
  have hro := Nat.le_of_ble_eq_true hro
  exact va_mmin hx hb (by rw [hml]; exact hl.1.symm) hown (hts _ L.1) (hts _ L.2.1) (hts _ L.2.2.1) (hts _ L.2.2.2) (by omega) (by omega) (by rw [hrc]; exact hk) (by rw [hrs]; exact hn) hd (kk O' H locs ls hR hS hl)
def cpN (t : Nat) (f g : Nat → Int32) : Nat → Int32 := fun j => if j < t then f j else g j
theorem ww_copyi {a0 a n0 n1 t : Nat} {x : Int32} {f g : Nat → Int32} (hd : decode cc pc = .ok (.invokestatic index, 3)) (L : Cond.methodLink M.1.cls index arraycopyName ∈ wTb ∧ Cond.native arraycopyName ∈ wTb ∧ Cond.static arraycopyName ∈ wTb ∧ Cond.initialized "java/lang/System" ∈ wTb) (h0 : h.1 a0 = some (.inl (.int, n0, .inl f))) (h1 : h.1 a = some (.inl (.int, n1, .inl g))) (ht : x = nI t) (ht0 : t ≤ n0) (ht1 : t ≤ n1) (htb : t < 2 ^ 31) (hlev : Nat.ble 1 M.2.2.2.2.1 = true) (hro : Nat.ble (st.map fun v => v.category).sum 8 = true) (kk : WW G M cc X Z (pc + 3) lv st (va_up h.1 a (some (.inl (.int, n1, .inl (cpN t f g)))), h.2) k n) : WW G M cc X Z pc lv (.int x :: .int 0 :: .ref a :: .int 0 :: .ref a0 :: st) h k n := by
  obtain ⟨p, e, R, s, m, args, below, meth, c⟩ := X
  intro O H locs ls hR hS hl
  have O' := O
  obtain ⟨hx, hb, hml, hr, hown, hts, hlk, hnm, hK, ⟨hf, hlo, hrc, hrs⟩, hB, hE, hSt⟩ := O
  have hlev := Nat.le_of_ble_eq_true hlev
  have hro := Nat.le_of_ble_eq_true hro
  obtain ⟨-, c0, hc0, q02, -⟩ := hR.2.2 a0 _ h0
  obtain ⟨hBa, c1, hc1, q12, q13⟩ := hR.2.2 a _ h1
  obtain ⟨-, k0, hk0, cm0, hkk0⟩ := q02 n0 (fun j => .int (f j))
  obtain ⟨-, k1, hk1, cm1, hkk1⟩ := q12 n1 (fun j => .int (g j))
  have hxc : x.toNatClampNeg = t := by rw [ht]; exact nI_clamp htb
  have hxn : ¬ x < 0 := by rw [ht]; exact nI_pos htb
  have hxi : x.toInt = (t : Int) := by rw [ht]; exact nI_toInt htb
  have z0 : (0 : Int32).toInt = 0 := rfl
  have zc : (0 : Int32).toNatClampNeg = 0 := rfl
  intro T hT X
  obtain ⟨vm', X', step⟩ := X.arraycopy hx hown (hts _ L.1) (hts _ L.2.1) (hts _ L.2.2.1) (hts _ L.2.2.2) (src := a0) (dst := a) (cs := vp_cell c0 (n0, .inl f)) (cd := vp_cell c1 (n1, .inl g)) (srcPos := 0) (destPos := 0) (n := x) (by rw [hT]; exact hc0) (by rw [hT]; exact hc1)
    (fun _ h => by cases h) (fun _ h => by cases h) (fun h => by cases h) (fun h => by cases h) hk0 hk1 hkk0 hkk1 (by decide) (by decide) (by decide) hxn
    (by rw [z0, hxi]; show ¬ _ > ((arrV c0 n0 (fun j => .int (f j))).slots.size : Int); rw [arrV_size]; omega)
    (by rw [z0, hxi]; show ¬ _ > ((arrV c1 n1 (fun j => .int (g j))).slots.size : Int); rw [arrV_size]; omega)
    (fun vm₁ _ i hi => by
      rw [hxc] at hi
      have e : (vp_cell c0 (n0, .inl f)).slots.getD ((0 : Int32).toNatClampNeg + i) .null = .int (f i) := by
        show (arrV c0 n0 (fun j => .int (f j))).slots.getD _ _ = _
        rw [Array.getD_eq_getD_getElem?, zc, Nat.zero_add, arrV_read _ _ (by omega)]
        rfl
      exact ⟨by rw [e]; rfl, by rw [e]; exact trivial⟩)
    (g := F0 m pc ls (.int x :: .int 0 :: .ref a :: .int 0 :: .ref a0 :: st)) rfl (by rw [hml]; exact hl.1) (rest := st) rfl (by rw [hb]; exact hd) (by omega) (by
      have e9 : nativeFrameWords "java/lang/System" "arraycopy" 5 ≤ 10 := by decide
      show 2 * 0 + _ + _ ≤ _
      omega)
  have e1 : copied (vp_cell c0 (n0, .inl f)) (vp_cell c1 (n1, .inl g)) 0 0 x = vp_cell c1 (n1, .inl (cpN t f g)) := by
    refine (va_copied (fun z => .int z) c0 c1 f g (by rw [hxc, zc]; omega)).trans ?_
    show (arrV c1 n1 fun j => Value.int (va_cpy f g (Int32.toNatClampNeg 0) (Int32.toNatClampNeg 0) x.toNatClampNeg j)) = arrV c1 n1 (fun j => Value.int (cpN t f g j))
    congr 1
    funext j
    simp [va_cpy, cpN, hxc, zc]
  rw [e1] at X' step
  have hl2 : a < H.size := (Array.getElem?_eq_some_iff.mp hc1).1
  have hheap : ((T.setVm vm').setCell a (vp_cell c1 (n1, .inl (cpN t f g)))).heap = H.setIfInBounds a (vp_cell c1 (n1, .inl (cpN t f g))) := by rw [← hT]; rfl
  have oq : ∀ q : Nat, q ≠ a → (H.setIfInBounds a (vp_cell c1 (n1, .inl (cpN t f g))))[q]? = H[q]? := fun q hq => by simp [Array.getElem?_setIfInBounds, Ne.symm hq]
  obtain ⟨t2, a1, b1⟩ := kk O' _ _ ls (hR.put (e := .inl (.int, n1, .inl (cpN t f g))) hBa (by simp) oq ⟨c1, by simp [Array.getElem?_setIfInBounds, hl2], q12, q13⟩) ⟨by simp; exact hS.1, fun q g1 g2 => by
      rw [oq q (fun e => g2 (by rw [e]; exact hBa))]
      exact hS.2.1 q g1 g2, fun q hq => by
      rcases List.mem_append.mp hq with h | h
      · exact hS.2.2 q h
      · obtain ⟨z, -, hz⟩ := List.mem_map.mp h
        rw [← hz]
        exact hBa⟩ hl _ hheap X'
  exact ⟨t2, step t2 a1, b1⟩
end SJ
