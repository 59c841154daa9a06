theorem ap_c1 {b : Nat → Int32} {L p s c f x : Nat} {ns ro du : Nat → Nat} {cur out fst : tT} {Γ : List aFr} {ey : Nat → Int32} (h : wfA L (p, s, c, f, ns, cur, (1, x, out, fst) :: Γ, ro, du, ey)) {q : Nat} (hq : q ≤ L) : wfA L (q, s, c, f, ns, tSkip, (2, x, out, cur) :: Γ, ro, du, ey) := by
  obtain ⟨h1, h2, h3, h4, h5, h6, h7, h8, h9, h10, h11, h12⟩ := h
  obtain ⟨g1, g2, g3, g4, g5, g6⟩ := h5
  have e := g6 (Or.inl rfl)
  subst e
  refine ⟨hq, ?_, h3, gd_skip, ⟨g1, by omega, g3, h4, by omega, fun q => by omega⟩, h6, ?_, ?_, h9, h10, h11, h12⟩
  · rw [h2]
    show nsG Γ + nsT out + 0 + 1 + nsT cur = nsG Γ + nsT out + nsT cur + 1 + 0
    omega
  · rw [← h7]
    show (dsG Γ ++ (dsT out ++ dsT cur)) ++ [] = (dsG Γ ++ (dsT out ++ [])) ++ dsT cur
    simp
  · rw [← h8]
    show (fkG Γ ++ (fkT out ++ ([x] ++ fkT cur))) ++ [] = (fkG Γ ++ (fkT out ++ ([x] ++ []))) ++ fkT cur
    simp
theorem ap_c3 {b : Nat → Int32} {L p s c f x : Nat} {ns ro du : Nat → Nat} {cur out fst : tT} {Γ : List aFr} {ey : Nat → Int32} (h : wfA L (p, s, c, f, ns, cur, (3, x, out, fst) :: Γ, ro, du, ey)) {q : Nat} (hq : q ≤ L) : wfA L (q, s, c, f, ns, tSkip, (4, x, out, cur) :: Γ, ro, du, ey) := by
  obtain ⟨h1, h2, h3, h4, h5, h6, h7, h8, h9, h10, h11, h12⟩ := h
  obtain ⟨g1, g2, g3, g4, g5, g6⟩ := h5
  have e := g6 (Or.inr (Or.inl rfl))
  subst e
  refine ⟨hq, ?_, h3, gd_skip, ⟨g1, by omega, g3, h4, fun _ => g5 (by omega), fun q => by omega⟩, h6, ?_, ?_, h9, h10, h11, h12⟩
  · rw [h2]
    show nsG Γ + nsT out + 0 + 1 + nsT cur = nsG Γ + nsT out + nsT cur + 1 + 0
    omega
  · rw [← h7]
    show (dsG Γ ++ (dsT out ++ dsT cur)) ++ [] = (dsG Γ ++ (dsT out ++ [])) ++ dsT cur
    simp
  · rw [← h8]
    show (fkG Γ ++ (fkT out ++ ([] ++ fkT cur))) ++ [] = (fkG Γ ++ (fkT out ++ ([] ++ []))) ++ fkT cur
    simp
theorem ap_c2 {L p s c f x : Nat} {ns ro du : Nat → Nat} {cur out fst : tT} {Γ : List aFr} {ey : Nat → Int32} (h : wfA L (p, s, c, f, ns, cur, (2, x, out, fst) :: Γ, ro, du, ey)) {q : Nat} (hq : q ≤ L) : wfA L (q, s, c, f, ns, tSeq out (tBo x fst cur), Γ, ro, du, ey) := by
  obtain ⟨h1, h2, h3, h4, h5, h6, h7, h8, h9, h10, h11, h12⟩ := h
  obtain ⟨g1, g2, g3, g4, g5, g6⟩ := h5
  refine ⟨hq, ?_, h3, gd_seq g3 ⟨?_, ?_, ?_⟩, g1, ?_, ?_, ?_, h9, h10, h11, h12⟩
  · rw [h2]
    show nsG Γ + nsT out + nsT fst + 1 + nsT cur = nsG Γ + (nsT out + (nsT fst + nsT cur + 1))
    omega
  · rw [okT, g4.1, h4.1]; rfl
  · rw [agT, g4.2.1, h4.2.1]; rfl
  · rw [lbT, g4.2.2, h4.2.2]; rfl
  · have : Γ.length + 1 ≤ 4 := h6
    omega
  · rw [← h7]
    show dsG Γ ++ (dsT out ++ (dsT fst ++ dsT cur)) = (dsG Γ ++ (dsT out ++ dsT fst)) ++ dsT cur
    simp
  · rw [← h8]
    show fkG Γ ++ (fkT out ++ (x :: (fkT fst ++ fkT cur))) = (fkG Γ ++ (fkT out ++ ([x] ++ fkT fst))) ++ fkT cur
    simp
theorem ap_c4 {L p s c f x : Nat} {ns ro du : Nat → Nat} {cur out fst : tT} {Γ : List aFr} {ey : Nat → Int32} (h : wfA L (p, s, c, f, ns, cur, (4, x, out, fst) :: Γ, ro, du, ey)) {q : Nat} (hq : q ≤ L) : wfA L (q, s, c, f, ns, tSeq out (tIf x fst cur), Γ, ro, du, ey) := by
  obtain ⟨h1, h2, h3, h4, h5, h6, h7, h8, h9, h10, h11, h12⟩ := h
  obtain ⟨g1, g2, g3, g4, g5, g6⟩ := h5
  refine ⟨hq, ?_, h3, gd_seq g3 ⟨?_, ?_, ?_⟩, g1, ?_, ?_, ?_, h9, h10, h11, h12⟩
  · rw [h2]
    show nsG Γ + nsT out + nsT fst + 1 + nsT cur = nsG Γ + (nsT out + (nsT fst + nsT cur + 1))
    omega
  · rw [okT, g4.1, h4.1]; rfl
  · rw [agT, g4.2.1, h4.2.1]; rfl
  · rw [lbT, g4.2.2, h4.2.2, decide_eq_true (g5 (by omega))]; rfl
  · have : Γ.length + 1 ≤ 4 := h6
    omega
  · rw [← h7]
    show dsG Γ ++ (dsT out ++ (dsT fst ++ dsT cur)) = (dsG Γ ++ (dsT out ++ dsT fst)) ++ dsT cur
    simp
  · rw [← h8]
    show fkG Γ ++ (fkT out ++ (fkT fst ++ fkT cur)) = (fkG Γ ++ (fkT out ++ ([] ++ fkT fst))) ++ fkT cur
    simp
theorem ap_c5 {L p s c f x : Nat} {ns ro du : Nat → Nat} {cur out fst : tT} {Γ : List aFr} {ey : Nat → Int32} (h : wfA L (p, s, c, f, ns, cur, (5, x, out, fst) :: Γ, ro, du, ey)) (hh : hdT cur = true) {q : Nat} (hq : q ≤ L) : wfA L (q, s, c, f, ns, tSeq out (tAg x cur), Γ, ro, du, ey) := by
  obtain ⟨h1, h2, h3, h4, h5, h6, h7, h8, h9, h10, h11, h12⟩ := h
  obtain ⟨g1, g2, g3, g4, g5, g6⟩ := h5
  have e := g6 (Or.inr (Or.inr rfl))
  subst e
  refine ⟨hq, ?_, h3, gd_seq g3 ⟨?_, ?_, ?_⟩, g1, ?_, ?_, ?_, h9, h10, h11, h12⟩
  · rw [h2]
    show nsG Γ + nsT out + 0 + 1 + nsT cur = nsG Γ + (nsT out + (nsT cur + 1))
    omega
  · rw [okT]; exact h4.1
  · rw [agT, h4.2.1, hh]; rfl
  · rw [lbT, h4.2.2, decide_eq_true (g5 (by omega))]; rfl
  · have : Γ.length + 1 ≤ 4 := h6
    omega
  · rw [← h7]
    show dsG Γ ++ (dsT out ++ dsT cur) = (dsG Γ ++ (dsT out ++ [])) ++ dsT cur
    simp
  · rw [← h8]
    show fkG Γ ++ (fkT out ++ fkT cur) = (fkG Γ ++ (fkT out ++ ([] ++ []))) ++ fkT cur
    simp
/-! places: where the steps of the innermost level begin -/
def kR : List aFr → Nat
  | [] => 0
  | (κ, _, out, fst) :: Γ => kR Γ + szR out + (if κ = 1 ∨ κ = 3 then 1 else if κ = 2 ∨ κ = 4 then szR fst + 2 else 0)
def kC : List aFr → Nat
  | [] => 0
  | (κ, _, out, fst) :: Γ => kC Γ + szC out + (if κ = 1 ∨ κ = 3 then 1 else if κ = 2 ∨ κ = 4 then szC fst + 2 else 2)
theorem sz_le {t : tT} : okT t = true → szR t ≤ 3 * nsT t ∧ szC t ≤ 3 * nsT t ∧ szR t ≤ szC t := by
  apply T_ind (P := fun t => szR t ≤ 3 * nsT t ∧ szC t ≤ 3 * nsT t ∧ szR t ≤ szC t) <;> intros <;> simp only [szR, szC, nsT] at * <;> omega
theorem k_le : ∀ {Γ : List aFr}, okG Γ → kR Γ + Γ.length ≤ 3 * nsG Γ ∧ kC Γ + Γ.length ≤ 3 * nsG Γ ∧ kR Γ ≤ kC Γ
  | [], _ => by simp [kR, kC, nsG]
  | (κ, x, out, fst) :: Γ, h => by
    obtain ⟨g1, g2, g3, g4, g5, g6⟩ := h
    have i := k_le g1
    have z1 := sz_le g3.1
    have z2 := sz_le g4.1
    simp only [kR, kC, nsG, List.length_cons]
    refine ⟨?_, ?_, ?_⟩ <;> (repeat' split) <;> omega
theorem code_le {L : Nat} {A : aT} (h : wfA L A) : kR A.2.2.2.2.2.2.1 + szR A.2.2.2.2.2.1 + A.2.2.2.2.2.2.1.length ≤ 3 * A.2.1 ∧ kC A.2.2.2.2.2.2.1 + szC A.2.2.2.2.2.1 + A.2.2.2.2.2.2.1.length ≤ 3 * A.2.1 := by
  obtain ⟨p, s, c, f, ns, cur, Γ, ro, du, ey⟩ := A
  obtain ⟨h1, h2, h3, h4, h5, h6, h7, h8, h9, h10, h11, h12⟩ := h
  have i := k_le h5
  have z := sz_le h4.1
  dsimp only
  omega
