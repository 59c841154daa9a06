theorem Dd_rw {e : Nat × Nat} {k j : Nat} {v : Int32} {Y : cX} (hd : Dd e Y) : Dd e (rwX k j v Y) := ⟨hd.1, hd.2⟩
theorem Dd_am {e : Nat × Nat} {j : Nat} {v : Int32} {Y : cX} (hd : Dd e Y) : Dd e (amX j v Y) := ⟨hd.1, hd.2⟩
theorem wb_n0 {b : Bool} (h : wb b = 0) : b = false := wb_eq0.mp h
theorem ic_c5 {L p s c f x : Nat} {ns ro du : Nat → Nat} {cur out fst : tT} {Γ : List aFr} {ey : Nat → Int32} {X : cX} {q k0 l : Nat} (hw : wfA L (p, s, c, f, ns, cur, (5, x, out, fst) :: Γ, ro, du, ey)) (hI : IC (p, s, c, f, ns, cur, (5, x, out, fst) :: Γ, ro, du, ey) X) (hk : k0 = kC Γ + szC out) (hl : l = k0 + 2 + szC cur) : IC (q, s, c, f, ns, tSeq out (tAg x cur), Γ, ro, du, ey) (hdX Γ.length (opeX (nI Γ.length) (amX (k0 + 1) (nI (l + 1)) (adX 3 0 0 (nI (k0 + 1)) (q, X.2))))) := by
  have hcl := (code_le hw).2
  obtain ⟨w1, w2, w3, w4, w5, w6, w7, w8, w9, w10, w11, w12⟩ := hw
  obtain ⟨v1, v2, v3, v4, v5, v6⟩ := w5
  obtain ⟨h1, h2, h3, h4, h5, h6, h7, h8, h9, h10, h11, h12, h13, h14, h15, h16⟩ := hI
  obtain ⟨f1, f2, f3, f4, f5, f6, f7⟩ := h13
  obtain ⟨s1, s2, s3, s4, s5, s6⟩ := h15
  obtain ⟨⟨q1, q2⟩, q3, q4, q5⟩ := f7 rfl
  have hz : kC ((5, x, out, fst) :: Γ) = kC Γ + szC out + 2 := rfl
  rw [hz] at hcl h10 h14
  dsimp only [List.length_cons] at hcl
  have hlN : lnN ((q, X.2) : cX) = l := by
    show (X.2.2.1 3).toNatClampNeg = _
    rw [h10, nI_clamp (by omega)]; omega
  unfold adX
  rw [hlN]
  rw [← hk] at q1 q2 q3 q4 q5 h14
  have hcg : ∀ i, i < l → i ≠ k0 + 1 → upd (X.2.2.2.2 4) l 3 i = X.2.2.2.2 4 i ∧ upd (X.2.2.2.2 5) l 0 i = X.2.2.2.2 5 i ∧ upd (X.2.2.2.2 6) l 0 i = X.2.2.2.2 6 i ∧ upd (upd (X.2.2.2.2 7) l (nI (k0 + 1))) (k0 + 1) (nI (l + 1)) i = X.2.2.2.2 7 i := fun i h1 h2 => ⟨upd_lt h1, upd_lt h1, upd_lt h1, (upd_gt h2).trans (upd_lt h1)⟩
  refine ⟨rfl, h2, h3, h4, h5, rfl, h7, h8, h9, ?_, h11, h12, ?_, ⟨?_, ⟨?_, ?_⟩, ⟨?_, ?_, ?_, ?_⟩, ?_, ?_, ?_⟩, ?_, ?_⟩
  · show nI (l + 1) = nI (kC Γ + (szC out + (szC cur + 3)))
    congr 1; omega
  · exact frC_cg v1 (fun j hj => hcg j (by omega) (by omega)) (fun _ _ => rfl) f1
  · exact iC_cg out v3.1 _ (fun j a1 a2 => hcg j (by omega) (by omega)) (fun _ _ => rfl) f2
  · rw [← hk]; exact (upd_lt (g := X.2.2.2.2 4) (by omega)).trans q1
  · rw [← hk]; exact ((hcg k0 (by omega) (by omega)).2.2.2).trans q2
  · rw [← hk]; exact (upd_lt (g := X.2.2.2.2 4) (by omega)).trans q3
  · rw [← hk]; exact (upd_lt (g := X.2.2.2.2 5) (by omega)).trans q4
  · rw [← hk]; exact (upd_lt (g := X.2.2.2.2 6) (by omega)).trans q5
  · rw [← hk]
    exact (w_upd_self _ _ _).trans (congrArg nI (by omega))
  · rw [← hk]
    exact iC_cg cur w4.1 _ (fun j a1 a2 => hcg j (by omega) (by omega)) (fun _ _ => rfl) h14
  · rw [← hk, show k0 + szC cur + 2 = l by omega]; exact w_upd_self _ _ _
  · rw [← hk, show k0 + szC cur + 2 = l by omega]
    exact (upd_gt (by omega)).trans (w_upd_self _ _ _)
  · exact stkC_cg (R := X.2.2.2.1) (fun j hj => ⟨rfl, rfl, rfl, rfl, rfl, upd_lt (g := X.2.2.2.1 13) hj⟩) s1
  · show upd (X.2.2.2.1 13) Γ.length 1 Γ.length = wb (hdT out || true)
    rw [w_upd_self, wb_or]
theorem ic_c1 {L p s c f x : Nat} {ns ro du : Nat → Nat} {cur out fst : tT} {Γ : List aFr} {ey : Nat → Int32} {X : cX} {q q0 k0 l : Nat} (hw : wfA L (p, s, c, f, ns, cur, (1, x, out, fst) :: Γ, ro, du, ey)) (hI : IC (p, s, c, f, ns, cur, (1, x, out, fst) :: Γ, ro, du, ey) X) (hk : k0 = kC Γ + szC out) (hl : l = k0 + 1 + szC cur) : IC (q, s, c, f, ns, tSkip, (2, x, out, cur) :: Γ, ro, du, ey) (rwX 13 (Γ.length + 1) 0 (rwX 11 Γ.length 1 (rwX 12 Γ.length (vp_nar .boolean (X.2.2.2.1 13 (Γ.length + 1))) (amX k0 (nI (l + 1)) (q, (rwX 10 Γ.length (nI l) (adX 5 (X.2.2.2.2 5 k0) 0 0 (q0, X.2))).2))))) := by
  have hcl := (code_le hw).2
  obtain ⟨w1, w2, w3, w4, w5, w6, w7, w8, w9, w10, w11, w12⟩ := hw
  obtain ⟨v1, v2, v3, v4, v5, v6⟩ := w5
  obtain ⟨h1, h2, h3, h4, h5, h6, h7, h8, h9, h10, h11, h12, h13, h14, h15, h16⟩ := hI
  obtain ⟨f1, f2, f3, f4, f5, f6, f7⟩ := h13
  obtain ⟨s1, s2, s3, s4, s5, s6⟩ := h15
  obtain ⟨q1, q2⟩ := f3 rfl
  have hz : kC ((1, x, out, fst) :: Γ) = kC Γ + szC out + 1 := rfl
  rw [hz] at hcl h10 h14
  dsimp only [List.length_cons] at hcl
  have hlN : lnN ((q0, X.2) : cX) = l := by
    show (X.2.2.1 3).toNatClampNeg = _
    rw [h10, nI_clamp (by omega)]; omega
  unfold adX
  rw [hlN]
  rw [← hk] at q1 q2 h14
  have hcg : ∀ i, i < l → i ≠ k0 → upd (X.2.2.2.2 4) l 5 i = X.2.2.2.2 4 i ∧ upd (X.2.2.2.2 5) l (X.2.2.2.2 5 k0) i = X.2.2.2.2 5 i ∧ upd (X.2.2.2.2 6) l 0 i = X.2.2.2.2 6 i ∧ upd (upd (X.2.2.2.2 7) l 0) k0 (nI (l + 1)) i = X.2.2.2.2 7 i := fun i h1 h2 => ⟨upd_lt h1, upd_lt h1, upd_lt h1, (upd_gt h2).trans (upd_lt h1)⟩
  have h16' : X.2.2.2.1 13 (Γ.length + 1) = wb (hdT cur) := h16
  refine ⟨rfl, h2, h3, h4, h5, h6, h7, h8, h9, ?_, h11, h12, ⟨?_, ?_, fun z => by omega, fun _ => ⟨⟨?_, ?_, ?_⟩, ?_, ?_, ?_⟩, fun z => by omega, fun z => by omega, fun z => by omega⟩, trivial, ⟨?_, ?_, ?_, w_upd_self _ _ _, ?_, fun _ => ⟨w_upd_self _ _ _ |>.trans ?_, ?_⟩⟩, w_upd_self _ _ _⟩
  · show nI (l + 1) = nI (kC Γ + szC out + (szC cur + 2) + 0)
    congr 1; omega
  · exact frC_cg v1 (fun j hj => hcg j (by omega) (by omega)) (fun _ _ => rfl) f1
  · exact iC_cg out v3.1 _ (fun j a1 a2 => hcg j (by omega) (by omega)) (fun _ _ => rfl) f2
  · rw [← hk]; exact (upd_lt (g := X.2.2.2.2 4) (by omega)).trans q1
  · rw [← hk]; exact (upd_lt (g := X.2.2.2.2 5) (by omega)).trans q2
  · rw [← hk]; exact (w_upd_self _ _ _).trans (congrArg nI (by omega))
  · rw [← hk]
    exact iC_cg cur w4.1 _ (fun j a1 a2 => hcg j (by omega) (by omega)) (fun _ _ => rfl) h14
  · rw [← hk, show k0 + szC cur + 1 = l by omega]; exact w_upd_self _ _ _
  · rw [← hk, show k0 + szC cur + 1 = l by omega]; exact (w_upd_self _ _ _).trans q2
  · exact stkC_cg (R := X.2.2.2.1) (fun j hj => ⟨rfl, rfl, upd_lt (g := X.2.2.2.1 10) hj, upd_lt (g := X.2.2.2.1 11) hj, upd_lt (g := X.2.2.2.1 12) hj, upd_lt (g := X.2.2.2.1 13) (by omega)⟩) s1
  · exact s2
  · exact s3
  · exact (upd_lt (g := X.2.2.2.1 13) (by omega)).trans s5
  · rw [← hk]; congr 1; omega
  · refine (w_upd_self _ _ _).trans ?_
    rw [h16', nar_wb]
theorem ic_c3 {L p s c f x : Nat} {ns ro du : Nat → Nat} {cur out fst : tT} {Γ : List aFr} {ey : Nat → Int32} {X : cX} {q q0 k0 l : Nat} (hw : wfA L (p, s, c, f, ns, cur, (3, x, out, fst) :: Γ, ro, du, ey)) (hI : IC (p, s, c, f, ns, cur, (3, x, out, fst) :: Γ, ro, du, ey) X) (hk : k0 = kC Γ + szC out) (hl : l = k0 + 1 + szC cur) : IC (q, s, c, f, ns, tSkip, (4, x, out, cur) :: Γ, ro, du, ey) (rwX 13 (Γ.length + 1) 0 (rwX 11 Γ.length 1 (rwX 12 Γ.length (vp_nar .boolean (X.2.2.2.1 13 (Γ.length + 1))) (amX k0 (nI (l + 1)) (q, (rwX 10 Γ.length (nI l) (adX 3 0 0 0 (q0, X.2))).2))))) := by
  have hcl := (code_le hw).2
  obtain ⟨w1, w2, w3, w4, w5, w6, w7, w8, w9, w10, w11, w12⟩ := hw
  obtain ⟨v1, v2, v3, v4, v5, v6⟩ := w5
  obtain ⟨h1, h2, h3, h4, h5, h6, h7, h8, h9, h10, h11, h12, h13, h14, h15, h16⟩ := hI
  obtain ⟨f1, f2, f3, f4, f5, f6, f7⟩ := h13
  obtain ⟨s1, s2, s3, s4, s5, s6⟩ := h15
  obtain ⟨q1, q2, q3⟩ := f5 rfl
  have hz : kC ((3, x, out, fst) :: Γ) = kC Γ + szC out + 1 := rfl
  rw [hz] at hcl h10 h14
  dsimp only [List.length_cons] at hcl
  have hlN : lnN ((q0, X.2) : cX) = l := by
    show (X.2.2.1 3).toNatClampNeg = _
    rw [h10, nI_clamp (by omega)]; omega
  unfold adX
  rw [hlN]
  rw [← hk] at q1 q2 q3 h14
  have hcg : ∀ i, i < l → i ≠ k0 → upd (X.2.2.2.2 4) l 3 i = X.2.2.2.2 4 i ∧ upd (X.2.2.2.2 5) l 0 i = X.2.2.2.2 5 i ∧ upd (X.2.2.2.2 6) l 0 i = X.2.2.2.2 6 i ∧ upd (upd (X.2.2.2.2 7) l 0) k0 (nI (l + 1)) i = X.2.2.2.2 7 i := fun i h1 h2 => ⟨upd_lt h1, upd_lt h1, upd_lt h1, (upd_gt h2).trans (upd_lt h1)⟩
  have h16' : X.2.2.2.1 13 (Γ.length + 1) = wb (hdT cur) := h16
  refine ⟨rfl, h2, h3, h4, h5, h6, h7, h8, h9, ?_, h11, h12, ⟨?_, ?_, fun z => by omega, fun z => by omega, fun z => by omega, fun _ => ⟨⟨?_, ?_, ?_, ?_⟩, ?_, ?_⟩, fun z => by omega⟩, trivial, ⟨?_, ?_, ?_, w_upd_self _ _ _, ?_, fun _ => ⟨w_upd_self _ _ _ |>.trans ?_, ?_⟩⟩, w_upd_self _ _ _⟩
  · show nI (l + 1) = nI (kC Γ + szC out + (szC cur + 2) + 0)
    congr 1; omega
  · exact frC_cg v1 (fun j hj => hcg j (by omega) (by omega)) (fun _ _ => rfl) f1
  · exact iC_cg out v3.1 _ (fun j a1 a2 => hcg j (by omega) (by omega)) (fun _ _ => rfl) f2
  · rw [← hk]; exact (upd_lt (g := X.2.2.2.2 4) (by omega)).trans q1
  · rw [← hk]; exact (upd_lt (g := X.2.2.2.2 5) (by omega)).trans q2
  · rw [← hk]; exact (upd_lt (g := X.2.2.2.2 6) (by omega)).trans q3
  · rw [← hk]; exact (w_upd_self _ _ _).trans (congrArg nI (by omega))
  · rw [← hk]
    exact iC_cg cur w4.1 _ (fun j a1 a2 => hcg j (by omega) (by omega)) (fun _ _ => rfl) h14
  · rw [← hk, show k0 + szC cur + 1 = l by omega]; exact w_upd_self _ _ _
  · exact stkC_cg (R := X.2.2.2.1) (fun j hj => ⟨rfl, rfl, upd_lt (g := X.2.2.2.1 10) hj, upd_lt (g := X.2.2.2.1 11) hj, upd_lt (g := X.2.2.2.1 12) hj, upd_lt (g := X.2.2.2.1 13) (by omega)⟩) s1
  · exact s2
  · exact s3
  · exact (upd_lt (g := X.2.2.2.1 13) (by omega)).trans s5
  · rw [← hk]; congr 1; omega
  · refine (w_upd_self _ _ _).trans ?_
    rw [h16', nar_wb]
theorem ic_c2 {L p s c f x : Nat} {ns ro du : Nat → Nat} {cur out fst : tT} {Γ : List aFr} {ey : Nat → Int32} {X Y : cX} {q k0 j l : Nat} (hw : wfA L (p, s, c, f, ns, cur, (2, x, out, fst) :: Γ, ro, du, ey)) (hI : IC (p, s, c, f, ns, cur, (2, x, out, fst) :: Γ, ro, du, ey) X) (hk : k0 = kC Γ + szC out) (hj : j = k0 + szC fst + 1) (hl : l = j + 1 + szC cur) (hY : Y = (if (hdT fst || hdT cur) = true then hdX Γ.length (adX 5 (X.2.2.2.2 5 k0) 0 (nI (l + 1)) (opeX (nI Γ.length) (q, X.2))) else (adX 5 (X.2.2.2.2 5 k0) 0 (nI (l + 1)) (opeX (nI Γ.length) (q, X.2))))) : IC (q, s, c, f, ns, tSeq out (tBo x fst cur), Γ, ro, du, ey) (amX j (nI (l + 1)) Y) := by
  have hcl := (code_le hw).2
  obtain ⟨w1, w2, w3, w4, w5, w6, w7, w8, w9, w10, w11, w12⟩ := hw
  obtain ⟨v1, v2, v3, v4, v5, v6⟩ := w5
  obtain ⟨h1, h2, h3, h4, h5, h6, h7, h8, h9, h10, h11, h12, h13, h14, h15, h16⟩ := hI
  obtain ⟨f1, f2, f3, f4, f5, f6, f7⟩ := h13
  obtain ⟨s1, s2, s3, s4, s5, s6⟩ := h15
  obtain ⟨⟨q1, q2, q3⟩, q4, q5, q6⟩ := f4 rfl
  have hz : kC ((2, x, out, fst) :: Γ) = kC Γ + szC out + (szC fst + 2) := rfl
  rw [hz] at hcl h10 h14
  dsimp only [List.length_cons] at hcl
  have hlN : lnN (opeX (nI Γ.length) ((q, X.2) : cX)) = l := by
    show (X.2.2.1 3).toNatClampNeg = _
    rw [h10, nI_clamp (by omega)]; omega
  rw [← hk] at q1 q2 q3 q4 q5 q6 h14
  unfold adX at hY
  rw [hlN] at hY
  have hcg : ∀ i, i < l → i ≠ j → upd (X.2.2.2.2 4) l 5 i = X.2.2.2.2 4 i ∧ upd (X.2.2.2.2 5) l (X.2.2.2.2 5 k0) i = X.2.2.2.2 5 i ∧ upd (X.2.2.2.2 6) l 0 i = X.2.2.2.2 6 i ∧ upd (upd (X.2.2.2.2 7) l (nI (l + 1))) j (nI (l + 1)) i = X.2.2.2.2 7 i := fun i h1 h2 => ⟨upd_lt h1, upd_lt h1, upd_lt h1, (upd_gt h2).trans (upd_lt h1)⟩
  have hYF : Y.1 = q ∧ Y.2.1 = upd X.2.1 7 (nI Γ.length) ∧ Y.2.2.1 = upd X.2.2.1 3 (nI (l + 1)) ∧ Y.2.2.2.2 = adB X.2.2.2.2 l 5 (X.2.2.2.2 5 k0) 0 (nI (l + 1)) ∧ (∀ k, k ≠ 13 → Y.2.2.2.1 k = X.2.2.2.1 k) ∧ Y.2.2.2.1 13 = (if (hdT fst || hdT cur) = true then upd (X.2.2.2.1 13) Γ.length 1 else X.2.2.2.1 13) := by
    rw [hY]
    split
    · exact ⟨rfl, rfl, rfl, rfl, fun k hk => by simp [hdX, opeX, va_up, hk], by simp [hdX, opeX, va_up]⟩
    · exact ⟨rfl, rfl, rfl, rfl, fun k hk => rfl, rfl⟩
  clear hY
  obtain ⟨y1, yr, yd, Yr, Yd⟩ := Y
  obtain ⟨e1, e2, e3, e4, e5, e6⟩ := hYF
  dsimp only at e1 e2 e3 e4 e5 e6
  subst e1 e2 e3 e4
  have e13 : Yr 13 Γ.length = wb (hdT out || (hdT fst || hdT cur)) := by
    rw [e6]
    split
    · rename_i hh
      rw [w_upd_self, hh, wb_or]
    · rename_i hh
      rw [s5, show (hdT fst || hdT cur) = false by cases hb : (hdT fst || hdT cur) with | false => rfl | true => exact absurd hb hh, Bool.or_false]
  have e13b : ∀ i, i < Γ.length → Yr 13 i = X.2.2.2.1 13 i := by
    intro i hi
    rw [e6]
    split
    · exact upd_lt hi
    · rfl
  refine ⟨rfl, h2, h3, h4, h5, rfl, h7, h8, h9, ?_, fun i hi => by show Yr 6 i = _; rw [e5 6 (by decide)]; exact h11 i hi, h12, ?_, ⟨?_, ⟨?_, ?_, ?_⟩, ?_, ⟨?_, ?_, ?_⟩, ?_, ?_, ?_, ?_⟩, ?_, e13⟩
  · show nI (l + 1) = nI (kC Γ + (szC out + (szC fst + szC cur + 3)))
    congr 1; omega
  · exact frC_cg v1 (fun i hi => hcg i (by omega) (by omega)) (fun _ _ => rfl) f1
  · exact iC_cg out v3.1 _ (fun i a1 a2 => hcg i (by omega) (by omega)) (fun _ _ => rfl) f2
  · rw [← hk]; exact (upd_lt (g := X.2.2.2.2 4) (by omega)).trans q1
  · rw [← hk]; exact (upd_lt (g := X.2.2.2.2 5) (by omega)).trans q2
  · rw [← hk]; exact ((hcg k0 (by omega) (by omega)).2.2.2).trans q3
  · rw [← hk]; exact iC_cg fst v4.1 _ (fun i a1 a2 => hcg i (by omega) (by omega)) (fun _ _ => rfl) q4
  · rw [← hk, ← hj]; rw [← hj] at q5; exact (upd_lt (g := X.2.2.2.2 4) (by omega)).trans q5
  · rw [← hk, ← hj]; rw [← hj] at q6; exact (upd_lt (g := X.2.2.2.2 5) (by omega)).trans q6
  · rw [← hk, ← hj]
    exact (w_upd_self _ _ _).trans (congrArg nI (by omega))
  · rw [← hk]
    refine iC_cg cur w4.1 _ (fun i a1 a2 => hcg i (by omega) (by omega)) (fun _ _ => rfl) ?_
    rw [show k0 + szC fst + 2 = k0 + (szC fst + 2) by omega]
    exact h14
  · rw [← hk, show k0 + szC fst + szC cur + 2 = l by omega]; exact w_upd_self _ _ _
  · rw [← hk, show k0 + szC fst + szC cur + 2 = l by omega]; exact (w_upd_self _ _ _).trans q2
  · rw [← hk, show k0 + szC fst + szC cur + 2 = l by omega]
    exact (upd_gt (by omega)).trans ((w_upd_self _ _ _).trans (congrArg nI (by omega)))
  · exact stkC_cg (R := X.2.2.2.1) (fun i hi => ⟨congrFun (e5 8 (by decide)) i, congrFun (e5 9 (by decide)) i, congrFun (e5 10 (by decide)) i, congrFun (e5 11 (by decide)) i, congrFun (e5 12 (by decide)) i, e13b i hi⟩) s1
theorem ic_c4 {L p s c f x : Nat} {ns ro du : Nat → Nat} {cur out fst : tT} {Γ : List aFr} {ey : Nat → Int32} {X Y : cX} {q k0 j l : Nat} (hw : wfA L (p, s, c, f, ns, cur, (4, x, out, fst) :: Γ, ro, du, ey)) (hI : IC (p, s, c, f, ns, cur, (4, x, out, fst) :: Γ, ro, du, ey) X) (hk : k0 = kC Γ + szC out) (hj : j = k0 + szC fst + 1) (hl : l = j + 1 + szC cur) (hY : Y = (if (hdT fst && hdT cur) = true then hdX Γ.length (opeX (nI Γ.length) (q, X.2)) else (opeX (nI Γ.length) (q, X.2)))) : IC (q, s, c, f, ns, tSeq out (tIf x fst cur), Γ, ro, du, ey) (amX j (nI (l)) Y) := by
  have hcl := (code_le hw).2
  obtain ⟨w1, w2, w3, w4, w5, w6, w7, w8, w9, w10, w11, w12⟩ := hw
  obtain ⟨v1, v2, v3, v4, v5, v6⟩ := w5
  obtain ⟨h1, h2, h3, h4, h5, h6, h7, h8, h9, h10, h11, h12, h13, h14, h15, h16⟩ := hI
  obtain ⟨f1, f2, f3, f4, f5, f6, f7⟩ := h13
  obtain ⟨s1, s2, s3, s4, s5, s6⟩ := h15
  obtain ⟨⟨q1, q2, q3, q3b⟩, q4, q5⟩ := f6 rfl
  have hz : kC ((4, x, out, fst) :: Γ) = kC Γ + szC out + (szC fst + 2) := rfl
  rw [hz] at hcl h10 h14
  dsimp only [List.length_cons] at hcl
  have hlN : lnN (opeX (nI Γ.length) ((q, X.2) : cX)) = l := by
    show (X.2.2.1 3).toNatClampNeg = _
    rw [h10, nI_clamp (by omega)]; omega
  rw [← hk] at q1 q2 q3 q3b q4 q5 h14
  have hcg : ∀ i, i ≠ j → X.2.2.2.2 4 i = X.2.2.2.2 4 i ∧ X.2.2.2.2 5 i = X.2.2.2.2 5 i ∧ X.2.2.2.2 6 i = X.2.2.2.2 6 i ∧ upd (X.2.2.2.2 7) j (nI l) i = X.2.2.2.2 7 i := fun i h2 => ⟨rfl, rfl, rfl, upd_gt h2⟩
  have hYF : Y.1 = q ∧ Y.2.1 = upd X.2.1 7 (nI Γ.length) ∧ Y.2.2.1 = X.2.2.1 ∧ Y.2.2.2.2 = X.2.2.2.2 ∧ (∀ k, k ≠ 13 → Y.2.2.2.1 k = X.2.2.2.1 k) ∧ Y.2.2.2.1 13 = (if (hdT fst && hdT cur) = true then upd (X.2.2.2.1 13) Γ.length 1 else X.2.2.2.1 13) := by
    rw [hY]
    split
    · exact ⟨rfl, rfl, rfl, rfl, fun k hk => by simp [hdX, opeX, va_up, hk], by simp [hdX, opeX, va_up]⟩
    · exact ⟨rfl, rfl, rfl, rfl, fun k hk => rfl, rfl⟩
  clear hY
  obtain ⟨y1, yr, yd, Yr, Yd⟩ := Y
  obtain ⟨e1, e2, e3, e4, e5, e6⟩ := hYF
  dsimp only at e1 e2 e3 e4 e5 e6
  subst e1 e2 e3 e4
  have e13 : Yr 13 Γ.length = wb (hdT out || (hdT fst && hdT cur)) := by
    rw [e6]
    split
    · rename_i hh
      rw [w_upd_self, hh, wb_or]
    · rename_i hh
      rw [s5, show (hdT fst && hdT cur) = false by cases hb : (hdT fst && hdT cur) with | false => rfl | true => exact absurd hb hh, Bool.or_false]
  have e13b : ∀ i, i < Γ.length → Yr 13 i = X.2.2.2.1 13 i := by
    intro i hi
    rw [e6]
    split
    · exact upd_lt hi
    · rfl
  refine ⟨rfl, h2, h3, h4, h5, rfl, h7, h8, h9, ?_, fun i hi => by show Yr 6 i = _; rw [e5 6 (by decide)]; exact h11 i hi, h12, ?_, ⟨?_, ⟨?_, ?_, ?_, ?_⟩, ?_, ⟨?_, ?_⟩, ?_⟩, ?_, e13⟩
  · refine h10.trans (congrArg nI ?_)
    show kC Γ + szC out + (szC fst + 2) + szC cur = kC Γ + (szC out + (szC fst + szC cur + 2))
    omega
  · exact frC_cg v1 (fun i hi => hcg i (by omega)) (fun _ _ => rfl) f1
  · exact iC_cg out v3.1 _ (fun i a1 a2 => hcg i (by omega)) (fun _ _ => rfl) f2
  · rw [← hk]; exact q1
  · rw [← hk]; exact q2
  · rw [← hk]; exact q3
  · rw [← hk]; exact (upd_gt (by omega)).trans q3b
  · rw [← hk]; exact iC_cg fst v4.1 _ (fun i a1 a2 => hcg i (by omega)) (fun _ _ => rfl) q4
  · rw [← hk]; exact q5
  · rw [← hk, ← hj]
    exact (w_upd_self _ _ _).trans (congrArg nI (by omega))
  · rw [← hk]
    refine iC_cg cur w4.1 _ (fun i a1 a2 => hcg i (by omega)) (fun _ _ => rfl) ?_
    rw [show k0 + szC fst + 2 = k0 + (szC fst + 2) by omega]
    exact h14
  · exact stkC_cg (R := X.2.2.2.1) (fun i hi => ⟨congrFun (e5 8 (by decide)) i, congrFun (e5 9 (by decide)) i, congrFun (e5 10 (by decide)) i, congrFun (e5 11 (by decide)) i, congrFun (e5 12 (by decide)) i, e13b i hi⟩) s1
