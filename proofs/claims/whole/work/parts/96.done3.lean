section DP
variable {G : wG} {B : Nat} {Λ : wL} {F : Nat → Nat → Int32} {O : Nat → Nat → Option Nat} {R : Nat → Nat → Nat → Int32} {sz : Nat} {F9 : Nat → Int32} {tl : Int64} {R9 : Nat → Nat → Int32} {NL : Nat → Int64}
theorem pr_done (I : Inv B Λ F O R sz F9 R9) (x1 x2 x3 : Int32) : Pair G B mX8_done mX9_done [.int x1, .int x2, .int x3] (hp B Λ F O R sz F9 tl R9 NL) := by
  have I0 := I
  obtain ⟨nb, d, md, L, a, np, c, nr, dm, cu, q, bd, J⟩ := I
  have J0 := J
  obtain ⟨⟨H, l2, l3, l4, hD, ho3, l7, l8⟩, ⟨s1, s2, s3, s4, s5, s6, s7, s8, s9⟩, ⟨p1, p2, p3, p4, p5, p6, p7, p8, p9⟩, ⟨m1, m2, m3, m4, m5, m6, m7, m8⟩, I5, I6, I7, I8⟩ := J
  by_cases h : wIn x1 c = true
  · obtain ⟨t, h1, h2⟩ := (wIn_iff (by omega)).mp h
    obtain ⟨⟨t1, t2, t3, t4, t5, t6, t7⟩, ⟨r, i, y1, y2, y3, y4, y5, y6⟩, t9, t10⟩ := I7 t h1
    by_cases hs : R9 61 t = 1
    · have hs5 : R 5 6 t = 1 := by rw [t5]; exact hs
      have hin : inR x2 (-1) 3 = true ↔ (-1 ≤ x2 ∧ x2 < 4) := by
        unfold inR
        rw [decide_eq_true_iff, Int32.le_iff_toInt_le, Int32.lt_iff_toInt_lt]
        have z1 : (-1 : Int32).toInt = -1 := rfl
        have z2 : (4 : Int32).toInt = 4 := rfl
        rw [z1, z2]
        constructor <;> intro z <;> omega
      by_cases hz : -1 ≤ x2 ∧ x2 < 4
      · have hpp : ∃ p, p < np ∧ R9 62 t = nI p := by
          rcases t9 with z | ⟨-, z⟩
          · rw [hs] at z; exact absurd z (by decide)
          · exact z
        obtain ⟨p, hp1, hp2⟩ := hpp
        rcases hqr : q r with ⟨⟨T, cd, ro, du, ey⟩, ⟨u, mu, b, mb⟩, σ, ov⟩
        have I6r := I6 r y1
        rw [hqr] at I6r y2 y5
        obtain ⟨g1, ⟨C1, C2, C3, C4, C5, C6, C7, C8, C9⟩, ⟨r1, r2, r3, r4, r5, r6⟩, -⟩ := I6r
        obtain ⟨⟨⟨o1, o1a, o1l⟩, o2, o3, o4, o5, o6, o7, o8, o9⟩, -⟩ := g1
        obtain ⟨hB, b2, b3, b4, b5, b6⟩ := C1
        dsimp only at y2 y5 C2 C3 C4 C5 C6 C7 C8 C9 r1 r2 r3 r4 r5 r6 o1 o1a o1l o2 o3 o4 o5 o6 o7 o8 o9 hB b2 b3 b4 b5 b6
        have hid : i ∈ dsT T := by rw [o3]; exact List.mem_range.mpr y2
        have hpc : R b 11 i = nI (psC T 0 i) := ps_C T o1 0 b5 i hid
        obtain ⟨lc, lr⟩ := ps_lt T o1 i hid
        have lc0 := lc 0
        have lr0 := lr 0
        have h51 : R 5 1 t = nI r := by rw [t1]; exact y3
        have h52 : R 5 2 t = nI i := by rw [t2]; exact y4
        have h57 : R 5 7 t = nI p := by rw [t6]; exact hp2
        have hdu : ∀ e, e < cd → R b 9 e = nI (du e) ∧ 1 ≤ du e ∧ du e ≤ 99 := fun e he => ⟨(b6 e he).2.1, (o9 e he).2.1⟩
        by_cases hx2 : x2 = -1
        · obtain ⟨fuel, n, gb, gc, gR, Fw, Rw, cm, k1, k2, k3, k4, k5, k6, k7⟩ := done_core J0 h1 hs y1 y3 y4 hqr y2 y5 hp1 hp2 (fl := σ.1) (R0 := dnS x2 x3 (F9 54) r t R9) (fun k z1 z2 z3 z4 z5 => dS_o z1 z2 z3 z4 z5) dS_61 (by rw [dS_63, s6]) (fun j hj => by rw [dS_49N hx2]; exact r5 j hj) (fun j _ => by rw [dS_49N hx2]) (fun j hj => dS_52 hj) (fun j hj => dS_53 hj) (Rs := wkW R u) (fun j hj => by
              show (if j < 4 then R u 2 j else R 6 0 j) = _
              rw [if_pos hj]; exact C8 j hj) (fun f hf => by
              show (if f < 40 then R u 3 f else R 6 1 f) = _
              rw [if_pos hf])
          have c2 := fun (h1' : Nat → Option wE) => c9_doneN (G := G) (m := B + 44) (tl := tl) (NL := NL) (h0 := h1') (sz := sz) (z := x3) m2 m3 h2 h1 hs y3 (by omega) s6 s7 y5 (by omega) hx2 k1
          rcases k7 with ⟨z1, rfl, rfl, z4⟩ | ⟨z1, rfl, z4⟩
          · simp only [if_pos] at c2
            exact pair_of (c8_doneNK H m1 m3 m4 m6 h2 h1 h51 y1 hs5 hx2 C3 C5 hB b3 o8 b2 o4 h52 y2 hpc (by omega) k2 k3 k4 C4 p1 p3 h57 hp1 s5 s7 k5 hdu k6 z1) I0.lay (Det_eq (c2 _) (by rw [nI_si]) rfl) z4
          · have c2' := c2 (wld Λ (va_up F 6 Fw) O (va_up R 6 Rw) (fun _ => none))
            rw [if_neg (by decide), if_neg (by decide)] at c2'
            exact pair_of (c8_doneNF H m1 m3 m4 m6 h2 h1 h51 y1 hs5 hx2 C3 C5 hB b3 o8 b2 o4 h52 y2 hpc (by omega) k2 k3 k4 C4 z1) I0.lay c2' z4
        · have hf4 : wIn x2 4 = true := by
            have z1 := Int32.le_iff_toInt_le.mp hz.1
            have z2 := Int32.lt_iff_toInt_lt.mp hz.2
            have z3 : (-1 : Int32).toInt = -1 := rfl
            have z4 : (4 : Int32).toInt = 4 := rfl
            have z5 : ¬ x2.toInt = -1 := fun z => hx2 (Int32.toInt_inj.mp (by rw [z, z3]))
            exact decide_eq_true ⟨by omega, by omega⟩
          obtain ⟨f, hf, hf2⟩ := (wIn_iff (by omega)).mp hf4
          have hcl : x2.toNatClampNeg = f := by rw [hf2, nI_clamp (by omega)]
          have hvn : inR x3 0 99 = true ↔ (0 ≤ x3 ∧ x3 ≤ 99) := by
            unfold inR
            rw [decide_eq_true_iff, Int32.le_iff_toInt_le, Int32.le_iff_toInt_le]
            exact Iff.rfl
          by_cases hv : 0 ≤ x3 ∧ x3 ≤ 99
          · obtain ⟨fuel, n, gb, gc, gR, Fw, Rw, cm, k1, k2, k3, k4, k5, k6, k7⟩ := done_core J0 h1 hs y1 y3 y4 hqr y2 y5 hp1 hp2 (fl := upd σ.1 f x3) (R0 := dnS x2 x3 (F9 54) r t R9) (fun k z1 z2 z3 z4 z5 => dS_o z1 z2 z3 z4 z5) dS_61 (by rw [dS_63, s6]) (fun j hj => by
                rw [dS_49F hx2, hcl]
                by_cases e : j = f
                · rw [e, w_upd_self, w_upd_self]
                · rw [upd_ne (by omega), upd_ne e]; exact r5 j hj) (fun j hj => by rw [dS_49F hx2, hcl, upd_ne (by omega)]) (fun j hj => dS_52 hj) (fun j hj => dS_53 hj) (Rs := wkV R u f x3) (fun j hj => by
                show upd (cpN 4 (R u 2) (R 6 0)) f x3 j = _
                by_cases e : j = f
                · rw [e, w_upd_self, w_upd_self]
                · rw [upd_ne e, upd_ne e]
                  show (if j < 4 then R u 2 j else R 6 0 j) = _
                  rw [if_pos hj]; exact C8 j hj) (fun f' hf' => by
                show (if f' < 40 then R u 3 f' else R 6 1 f') = _
                rw [if_pos hf'])
            have c2 := fun (h1' : Nat → Option wE) => c9_doneF (G := G) (m := B + 44) (tl := tl) (NL := NL) (h0 := h1') (sz := sz) m2 m3 h2 h1 hs y3 (by omega) s6 s7 y5 (by omega) hf2 hf (hvn.mpr hv) k1
            rcases k7 with ⟨z1, rfl, rfl, z4⟩ | ⟨z1, rfl, z4⟩
            · simp only [if_pos] at c2
              exact pair_of (c8_doneSK H m1 m3 m4 m6 h2 h1 h51 y1 hs5 hf2 hf hv C3 C5 hB b3 o8 b2 o4 h52 y2 hpc (by omega) k2 k3 k4 C4 p1 p3 h57 hp1 s5 s7 k5 hdu k6 z1) I0.lay (Det_eq (c2 _) (by rw [nI_si]) rfl) z4
            · have c2' := c2 (wld Λ (va_up F 6 Fw) O (va_up R 6 Rw) (fun _ => none))
              rw [if_neg (by decide), if_neg (by decide)] at c2'
              exact pair_of (c8_doneSF H m1 m3 m4 m6 h2 h1 h51 y1 hs5 hf2 hf hv C3 C5 hB b3 o8 b2 o4 h52 y2 hpc (by omega) k2 k3 k4 C4 z1) I0.lay c2' z4
          · exact pair_same I0 (c8_done3 H m1 m3 h2 h1 hs5 hz hx2 hv) (c9_done1 m2 m3 h2 h1 (by rw [decide_eq_false hx2, bf (fun z => hv (hvn.mp z))]; simp))
      · exact pair_same I0 (c8_done2 H m1 m3 h2 h1 hs5 hz) (c9_done1 m2 m3 h2 h1 (by rw [bf (fun z => hz (hin.mp z))]; simp))
    · exact pair_same I0 (c8_done1 H m1 m3 h2 h1 (by rw [t5]; exact hs)) (c9_done1 m2 m3 h2 h1 (by rw [decide_eq_false hs]; rfl))
  · exact pair_same I0 (c8_done0 H m1 m3 (bf h)) (c9_done0 m2 m3 (bf h))
end DP
