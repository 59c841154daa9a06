/-! the reference's rows hold what the abstract parser has read -/
def frR (o a b t : Nat → Int32) : List aFr → Prop
  | [] => True
  | (κ, x, out, fst) :: Γ => frR o a b t Γ ∧ iR o a b t out (kR Γ) ∧
    (κ = 1 → o (kR Γ + szR out) = 5 ∧ a (kR Γ + szR out) = nI x) ∧
    (κ = 2 → (o (kR Γ + szR out) = 5 ∧ a (kR Γ + szR out) = nI x ∧ t (kR Γ + szR out) = nI (kR Γ + szR out + szR fst + 2) ∧ b (kR Γ + szR out) = nI (kR Γ + szR out + szR fst + 1)) ∧ iR o a b t fst (kR Γ + szR out + 1) ∧ o (kR Γ + szR out + szR fst + 1) = 6 ∧ a (kR Γ + szR out + szR fst + 1) = nI x) ∧
    (κ = 3 → o (kR Γ + szR out) = 2 ∧ a (kR Γ + szR out) = nI (x / 100) ∧ b (kR Γ + szR out) = nI (x % 100)) ∧
    (κ = 4 → (o (kR Γ + szR out) = 2 ∧ a (kR Γ + szR out) = nI (x / 100) ∧ b (kR Γ + szR out) = nI (x % 100) ∧ t (kR Γ + szR out) = nI (kR Γ + szR out + szR fst + 2)) ∧ iR o a b t fst (kR Γ + szR out + 1) ∧ o (kR Γ + szR out + szR fst + 1) = 3)
theorem frR_cg {o a b t o2 a2 b2 t2 : Nat → Int32} : ∀ {Γ : List aFr}, okG Γ → (∀ j, j < kR Γ → o2 j = o j ∧ a2 j = a j ∧ b2 j = b j ∧ t2 j = t j) → frR o a b t Γ → frR o2 a2 b2 t2 Γ
  | [], _, _, _ => trivial
  | (κ, x, out, fst) :: Γ, hg, h, hi => by
    obtain ⟨g1, g2, g3, g4, g5, g6⟩ := hg
    obtain ⟨i1, i2, i3, i4, i5, i6⟩ := hi
    have hk : kR Γ + szR out ≤ kR ((κ, x, out, fst) :: Γ) := by simp only [kR]; omega
    refine ⟨frR_cg g1 (fun j hj => h j (by omega)) i1, iR_cg out g3.1 _ (fun j a1 a2 => h j (by omega)) i2, ?_, ?_, ?_, ?_⟩
    · intro e
      subst e
      have hz : kR ((1, x, out, fst) :: Γ) = kR Γ + szR out + 1 := rfl
      have e1 := h (kR Γ + szR out) (by omega)
      exact ⟨e1.1.trans (i3 rfl).1, e1.2.1.trans (i3 rfl).2⟩
    · intro e
      subst e
      have hz : kR ((2, x, out, fst) :: Γ) = kR Γ + szR out + (szR fst + 2) := rfl
      have e1 := h (kR Γ + szR out) (by omega)
      have e2 := h (kR Γ + szR out + szR fst + 1) (by omega)
      obtain ⟨⟨q1, q2, q3, q4⟩, q5, q6, q7⟩ := i4 rfl
      exact ⟨⟨e1.1.trans q1, e1.2.1.trans q2, e1.2.2.2.trans q3, e1.2.2.1.trans q4⟩, iR_cg fst g4.1 _ (fun j a1 a2 => h j (by omega)) q5, e2.1.trans q6, e2.2.1.trans q7⟩
    · intro e
      subst e
      have hz : kR ((3, x, out, fst) :: Γ) = kR Γ + szR out + 1 := rfl
      have e1 := h (kR Γ + szR out) (by omega)
      obtain ⟨q1, q2, q3⟩ := i5 rfl
      exact ⟨e1.1.trans q1, e1.2.1.trans q2, e1.2.2.1.trans q3⟩
    · intro e
      subst e
      have hz : kR ((4, x, out, fst) :: Γ) = kR Γ + szR out + (szR fst + 2) := rfl
      have e1 := h (kR Γ + szR out) (by omega)
      have e2 := h (kR Γ + szR out + szR fst + 1) (by omega)
      obtain ⟨⟨q1, q2, q3, q4⟩, q5, q6⟩ := i6 rfl
      exact ⟨⟨e1.1.trans q1, e1.2.1.trans q2, e1.2.2.1.trans q3, e1.2.2.2.trans q4⟩, iR_cg fst g4.1 _ (fun j a1 a2 => h j (by omega)) q5, e2.1.trans q6⟩
def stkR (R : Nat → Nat → Int32) : List aFr → Prop
  | [] => True
  | (κ, x, out, fst) :: Γ => stkR R Γ ∧ R 34 (Γ.length + 1) = nI κ ∧ R 35 (Γ.length + 1) = nI (if κ = 4 then kR Γ + szR out + szR fst + 1 else kR Γ + szR out) ∧ (κ = 5 → R 36 (Γ.length + 1) = nI (x / 100) ∧ R 37 (Γ.length + 1) = nI (x % 100)) ∧ R 38 Γ.length = wb (hdT out) ∧ (κ = 2 ∨ κ = 4 → R 39 (Γ.length + 1) = wb (hdT fst))
theorem stkR_cg {R R2 : Nat → Nat → Int32} : ∀ {Γ : List aFr}, (∀ j, j ≤ Γ.length → R2 34 j = R 34 j ∧ R2 35 j = R 35 j ∧ R2 36 j = R 36 j ∧ R2 37 j = R 37 j ∧ R2 39 j = R 39 j) → (∀ j, j < Γ.length → R2 38 j = R 38 j) → stkR R Γ → stkR R2 Γ
  | [], _, _, _ => trivial
  | (κ, x, out, fst) :: Γ, h, h38, hi => by
    obtain ⟨i1, i2, i3, i4, i5, i6⟩ := hi
    have hl : ((κ, x, out, fst) :: Γ).length = Γ.length + 1 := rfl
    have e := h (Γ.length + 1) (by omega)
    exact ⟨stkR_cg (fun j hj => h j (by omega)) (fun j hj => h38 j (by omega)) i1, e.1.trans i2, e.2.1.trans i3, fun q => ⟨e.2.2.1.trans (i4 q).1, e.2.2.2.1.trans (i4 q).2⟩, (h38 Γ.length (by omega)).trans i5, fun q => e.2.2.2.2.trans (i6 q)⟩
def IR (b : Nat → Int32) (L : Nat) : aT → (Nat → Int32) → Int64 → (Nat → Nat → Int32) → (Nat → Int64) → Prop := fun A F tl R NL => match A with
  | (p, s, c, f, ns, cur, Γ, ro, du, ey) => R 0 = b ∧ tokS b L p F tl ∧ F 7 = 0 ∧ F 11 = nI s ∧ F 12 = nI c ∧ F 13 = nI f ∧ F 14 = nI (kR Γ + szR cur) ∧ F 33 = nI Γ.length ∧ (∀ i, i < c → NL i = lN (ns i)) ∧ (∀ i, i < c → R 20 i = nI (ro i) ∧ R 21 i = nI (du i) ∧ R 22 i = ey i) ∧ frR (R 15) (R 16) (R 17) (R 18) Γ ∧ iR (R 15) (R 16) (R 17) (R 18) cur (kR Γ) ∧ stkR R Γ ∧ R 38 Γ.length = wb (hdT cur)
theorem upd_lt {g : Nat → Int32} {k j : Nat} {v : Int32} (h : j < k) : upd g k v j = g j := by simp [upd, Nat.ne_of_lt h]
theorem upd_gt {g : Nat → Int32} {k j : Nat} {v : Int32} (h : j ≠ k) : upd g k v j = g j := by simp [upd, h]
theorem frR_e {o a b t : Nat → Int32} {Γ : List aFr} {k : Nat} {x y z w : Int32} (hg : okG Γ) (hk : kR Γ ≤ k) (h : frR o a b t Γ) : frR (upd o k x) (upd a k y) (upd b k z) (upd t k w) Γ := frR_cg hg (fun j hj => ⟨upd_lt (by omega), upd_lt (by omega), upd_lt (by omega), upd_lt (by omega)⟩) h
theorem iR_e {o a b t : Nat → Int32} {cur : tT} {k0 k : Nat} {x y z w : Int32} (hg : okT cur = true) (hk : k0 + szR cur ≤ k) (h : iR o a b t cur k0) : iR (upd o k x) (upd a k y) (upd b k z) (upd t k w) cur k0 := iR_cg cur hg k0 (fun j h1 h2 => ⟨upd_lt (by omega), upd_lt (by omega), upd_lt (by omega), upd_lt (by omega)⟩) h
theorem wb_or (a : Bool) : wb (a || true) = 1 := by cases a <;> rfl
theorem ir_step {b : Nat → Int32} {L : Nat} {A : aT} {F F2 : Nat → Int32} {tl tl2 : Int64} {R R2 : Nat → Nat → Int32} {NL NL2 : Nat → Int64} {r : Nat × Nat × Nat × Int32 × Nat} (hw : wfA L A) (hI : IR b L A F tl R NL) (hr : pStep b L A.2.2.2.2.1 A.2.2.1 A.2.1 A.2.2.2.2.2.2.1.length A.1 = .inr r) (hO : stepO b L A.2.2.2.2.1 A.2.2.1 A.2.1 A.2.2.2.2.2.2.1.length A.1 (kR A.2.2.2.2.2.2.1 + szR A.2.2.2.2.2.1) F R NL F2 tl2 R2 NL2) : IR b L (apS b L A r) F2 tl2 R2 NL2 := by
  obtain ⟨p, s, c, f, ns, cur, Γ, ro, du, ey⟩ := A
  obtain ⟨w1, w2, w3, w4, w5, w6, w7, w8, w9, w10, w11, w12⟩ := hw
  obtain ⟨h1, h2, h3, h4, h5, h6, h7, h8, h9, h10, h11, h12, h13, h14⟩ := hI
  obtain ⟨g1, g2, g3, g4⟩ := pStep_inv hr w1
  obtain ⟨-, k2, hO⟩ := hO
  rw [hr] at hO
  dsimp only at g1 g2 g3 g4 hO
  obtain ⟨o1, o2, o3, o4, o5, hW⟩ := hO
  have hR0 : R2 0 = b := ((k2 0).resolve_left (by omega)).trans h1
  have hkb : kR Γ ≤ kR Γ + szR cur := by omega
  rcases g4 with ⟨q, q1, q2, q3, q4, q5, q6⟩ | ⟨q, q1, q2⟩ | ⟨q, q1⟩ | ⟨q, q1, q2, q3⟩
  · have e : apS b L (p, s, c, f, ns, cur, Γ, ro, du, ey) r = (r.2.2.2.2, s + 1, c + 1, f, va_up ns c (kv b L (ad b L p)), tSeq cur (tDo c), Γ, va_up ro c r.2.1, va_up du c r.2.2.1, va_up ey c r.2.2.2.1) := if_pos q
    rw [e]
    unfold stW at hW
    rw [if_pos q] at hW
    obtain ⟨a1, a2, a3, a4, a5, a6⟩ := hW
    subst a6
    refine ⟨hR0, o3, o1, o5, a1, a2.trans h6, a3, a4.trans h8, ?_, ?_, ?_, ?_, ?_, ?_⟩
    · intro i hi
      rw [a5]
      by_cases ei : i = c
      · subst ei; simp [vp_updL, va_up]
      · simp only [vp_updL, va_up, if_neg ei]
        exact h9 i (by omega)
    · intro i hi
      by_cases ei : i = c
      · subst ei
        refine ⟨?_, ?_, ?_⟩ <;> simp [doR, emR, va_up, upd]
      · have := h10 i (by omega)
        simp only [va_up, if_neg ei]
        refine ⟨?_, ?_, ?_⟩
        · rw [← this.1]; exact upd_gt (g := R 20) ei
        · rw [← this.2.1]; exact upd_gt (g := R 21) ei
        · rw [← this.2.2]; exact upd_gt (g := R 22) ei
    · exact frR_e w5 hkb h11
    · refine ⟨iR_e w4.1 (Nat.le_refl _) h12, ?_, ?_⟩
      · exact w_upd_self _ _ _
      · exact w_upd_self _ _ _
    · exact stkR_cg (R := R) (fun j _ => ⟨rfl, rfl, rfl, rfl, rfl⟩) (fun j hj => upd_lt (g := R 38) (by omega)) h13
    · show upd (R 38) Γ.length 1 Γ.length = _
      rw [w_upd_self]
      show _ = wb (hdT cur || true)
      rw [wb_or]
  · have e : apS b L (p, s, c, f, ns, cur, Γ, ro, du, ey) r = (r.2.2.2.2, s + 1, c, f, ns, tSeq cur (tSet (100 * r.2.1 + r.2.2.1)), Γ, ro, du, ey) := by
      show (if r.1 = 0 then _ else _) = _
      rw [if_neg (by omega), if_pos q]
    rw [e]
    unfold stW at hW
    rw [if_neg (by omega), if_pos q] at hW
    obtain ⟨a1, a2, a3, a4, a5, a6⟩ := hW
    subst a6
    refine ⟨hR0, o3, o1, o5, a1.trans h5, a3.trans h6, a4, a5.trans h8, fun i hi => by rw [a2]; exact h9 i hi, h10, frR_e w5 hkb h11, ⟨iR_e w4.1 (Nat.le_refl _) h12, w_upd_self _ _ _, ?_, ?_⟩, stkR_cg (R := R) (fun j _ => ⟨rfl, rfl, rfl, rfl, rfl⟩) (fun j hj => rfl) h13, ?_⟩
    · rw [show (100 * r.2.1 + r.2.2.1) / 100 = r.2.1 by omega]; exact w_upd_self _ _ _
    · rw [show (100 * r.2.1 + r.2.2.1) % 100 = r.2.2.1 by omega]; exact w_upd_self _ _ _
    · refine h14.trans ?_
      show wb (hdT cur) = wb (hdT cur || false)
      rw [Bool.or_false]
  · have e : apS b L (p, s, c, f, ns, cur, Γ, ro, du, ey) r = (r.2.2.2.2, s + 1, c, f + 1, ns, tSkip, (1, f, cur, tSkip) :: Γ, ro, du, ey) := by
      show (if r.1 = 0 then _ else _) = _
      rw [if_neg (by omega), if_neg (by omega), if_pos q]
    rw [e]
    unfold stW at hW
    rw [if_neg (by omega), if_neg (by omega), if_pos q] at hW
    obtain ⟨a1, a2, a3, a4, a5, a6⟩ := hW
    subst a6
    refine ⟨hR0, o3, o1, o5, a1.trans h5, by rw [a4, h6, nI_1], a5, a3, fun i hi => by rw [a2]; exact h9 i hi, h10, ⟨frR_e w5 hkb h11, iR_e w4.1 (Nat.le_refl _) h12, fun _ => ⟨w_upd_self _ _ _, ?_⟩, fun z => by omega, fun z => by omega, fun z => by omega⟩, trivial, ⟨stkR_cg (fun j hj => ⟨upd_lt (g := R 34) (by omega), upd_lt (g := R 35) (by omega), upd_lt (g := R 36) (by omega), upd_lt (g := R 37) (by omega), rfl⟩) (fun j hj => upd_lt (g := R 38) (by omega)) h13, w_upd_self _ _ _, w_upd_self _ _ _, fun z => by omega, ?_, fun z => by omega⟩, ?_⟩
    · exact (w_upd_self _ _ _).trans h6
    · exact (upd_lt (g := R 38) (by omega)).trans h14
    · exact w_upd_self _ _ _
  · by_cases q5 : r.1 = 5
    · have e : apS b L (p, s, c, f, ns, cur, Γ, ro, du, ey) r = (r.2.2.2.2, s + 1, c, f, ns, tSkip, (3, 100 * r.2.1 + r.2.2.1, cur, tSkip) :: Γ, ro, du, ey) := by
        show (if r.1 = 0 then _ else _) = _
        rw [if_neg (by omega), if_neg (by omega), if_neg (by omega), if_pos q5]
      rw [e]
      unfold stW at hW
      rw [if_neg (by omega), if_neg (by omega), if_neg (by omega), if_pos q5] at hW
      obtain ⟨a1, a2, a3, a4, a5, a6⟩ := hW
      subst a6
      refine ⟨hR0, o3, o1, o5, a1.trans h5, a4.trans h6, a5, a3, fun i hi => by rw [a2]; exact h9 i hi, h10, ⟨frR_e w5 hkb h11, iR_e w4.1 (Nat.le_refl _) h12, fun z => by omega, fun z => by omega, fun _ => ⟨w_upd_self _ _ _, ?_, ?_⟩, fun z => by omega⟩, trivial, ⟨stkR_cg (fun j hj => ⟨upd_lt (g := R 34) (by omega), upd_lt (g := R 35) (by omega), upd_lt (g := R 36) (by omega), upd_lt (g := R 37) (by omega), rfl⟩) (fun j hj => upd_lt (g := R 38) (by omega)) h13, w_upd_self _ _ _, w_upd_self _ _ _, fun z => by omega, ?_, fun z => by omega⟩, ?_⟩
      · rw [show (100 * r.2.1 + r.2.2.1) / 100 = r.2.1 by omega]; exact w_upd_self _ _ _
      · rw [show (100 * r.2.1 + r.2.2.1) % 100 = r.2.2.1 by omega]; exact w_upd_self _ _ _
      · exact (upd_lt (g := R 38) (by omega)).trans h14
      · exact w_upd_self _ _ _
    · have e : apS b L (p, s, c, f, ns, cur, Γ, ro, du, ey) r = (r.2.2.2.2, s + 1, c, f, ns, tSkip, (5, 100 * r.2.1 + r.2.2.1, cur, tSkip) :: Γ, ro, du, ey) := by
        show (if r.1 = 0 then _ else _) = _
        rw [if_neg (by omega), if_neg (by omega), if_neg (by omega), if_neg q5]
      rw [e]
      unfold stW at hW
      rw [if_neg (by omega), if_neg (by omega), if_neg (by omega), if_neg q5] at hW
      obtain ⟨a1, a2, a3, a4, a5, a6⟩ := hW
      subst a6
      refine ⟨hR0, o3, o1, o5, a1.trans h5, a4.trans h6, a5.trans h7, a3, fun i hi => by rw [a2]; exact h9 i hi, h10, ⟨h11, h12, fun z => by omega, fun z => by omega, fun z => by omega, fun z => by omega⟩, trivial, ⟨stkR_cg (fun j hj => ⟨upd_lt (g := R 34) (by omega), upd_lt (g := R 35) (by omega), upd_lt (g := R 36) (by omega), upd_lt (g := R 37) (by omega), rfl⟩) (fun j hj => upd_lt (g := R 38) (by omega)) h13, w_upd_self _ _ _, (w_upd_self _ _ _).trans h7, fun _ => ⟨?_, ?_⟩, ?_, fun z => by omega⟩, ?_⟩
      · rw [show (100 * r.2.1 + r.2.2.1) / 100 = r.2.1 by omega]; exact w_upd_self _ _ _
      · rw [show (100 * r.2.1 + r.2.2.1) % 100 = r.2.2.1 by omega]; exact w_upd_self _ _ _
      · exact (upd_lt (g := R 38) (by omega)).trans h14
      · exact w_upd_self _ _ _
