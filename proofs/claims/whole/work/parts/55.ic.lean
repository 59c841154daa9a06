/-! the class's rows hold what the abstract parser has read -/
def frC (o a n t pl : Nat → Int32) : List aFr → Prop
  | [] => True
  | (κ, x, out, fst) :: Γ => frC o a n t pl Γ ∧ iC o a n t pl out (kC Γ) ∧
    (κ = 1 → o (kC Γ + szC out) = 4 ∧ a (kC Γ + szC out) = nI x) ∧
    (κ = 2 → (o (kC Γ + szC out) = 4 ∧ a (kC Γ + szC out) = nI x ∧ t (kC Γ + szC out) = nI (kC Γ + szC out + szC fst + 2)) ∧ iC o a n t pl fst (kC Γ + szC out + 1) ∧ o (kC Γ + szC out + szC fst + 1) = 5 ∧ a (kC Γ + szC out + szC fst + 1) = nI x) ∧
    (κ = 3 → o (kC Γ + szC out) = 2 ∧ a (kC Γ + szC out) = nI (x / 100) ∧ n (kC Γ + szC out) = nI (x % 100)) ∧
    (κ = 4 → (o (kC Γ + szC out) = 2 ∧ a (kC Γ + szC out) = nI (x / 100) ∧ n (kC Γ + szC out) = nI (x % 100) ∧ t (kC Γ + szC out) = nI (kC Γ + szC out + szC fst + 2)) ∧ iC o a n t pl fst (kC Γ + szC out + 1) ∧ o (kC Γ + szC out + szC fst + 1) = 3) ∧
    (κ = 5 → (o (kC Γ + szC out) = 3 ∧ t (kC Γ + szC out) = nI (kC Γ + szC out + 2)) ∧ o (kC Γ + szC out + 1) = 2 ∧ a (kC Γ + szC out + 1) = nI (x / 100) ∧ n (kC Γ + szC out + 1) = nI (x % 100))
theorem frC_cg {o a n t pl o2 a2 n2 t2 pl2 : Nat → Int32} : ∀ {Γ : List aFr}, okG Γ → (∀ j, j < kC Γ → o2 j = o j ∧ a2 j = a j ∧ n2 j = n j ∧ t2 j = t j) → (∀ d, d ∈ dsG Γ → pl2 d = pl d) → frC o a n t pl Γ → frC o2 a2 n2 t2 pl2 Γ
  | [], _, _, _, _ => trivial
  | (κ, x, out, fst) :: Γ, hg, h, hd, hi => by
    obtain ⟨g1, g2, g3, g4, g5, g6⟩ := hg
    obtain ⟨i1, i2, i3, i4, i5, i6, i7⟩ := hi
    have hk : kC Γ + szC out ≤ kC ((κ, x, out, fst) :: Γ) := by simp only [kC]; omega
    have d1 : ∀ d, d ∈ dsG Γ → pl2 d = pl d := fun d m => hd d (List.mem_append.mpr (Or.inl m))
    have d2 : ∀ d, d ∈ dsT out → pl2 d = pl d := fun d m => hd d (List.mem_append.mpr (Or.inr (List.mem_append.mpr (Or.inl m))))
    have d3 : ∀ d, d ∈ dsT fst → pl2 d = pl d := fun d m => hd d (List.mem_append.mpr (Or.inr (List.mem_append.mpr (Or.inr m))))
    refine ⟨frC_cg g1 (fun j hj => h j (by omega)) d1 i1, iC_cg out g3.1 _ (fun j a1 a2 => h j (by omega)) d2 i2, ?_, ?_, ?_, ?_, ?_⟩
    · intro e
      subst e
      have hz : kC ((1, x, out, fst) :: Γ) = kC Γ + szC out + 1 := rfl
      have e1 := h (kC Γ + szC out) (by omega)
      exact ⟨e1.1.trans (i3 rfl).1, e1.2.1.trans (i3 rfl).2⟩
    · intro e
      subst e
      have hz : kC ((2, x, out, fst) :: Γ) = kC Γ + szC out + (szC fst + 2) := rfl
      have e1 := h (kC Γ + szC out) (by omega)
      have e2 := h (kC Γ + szC out + szC fst + 1) (by omega)
      obtain ⟨⟨q1, q2, q3⟩, q5, q6, q7⟩ := i4 rfl
      exact ⟨⟨e1.1.trans q1, e1.2.1.trans q2, e1.2.2.2.trans q3⟩, iC_cg fst g4.1 _ (fun j a1 a2 => h j (by omega)) d3 q5, e2.1.trans q6, e2.2.1.trans q7⟩
    · intro e
      subst e
      have hz : kC ((3, x, out, fst) :: Γ) = kC Γ + szC out + 1 := rfl
      have e1 := h (kC Γ + szC out) (by omega)
      obtain ⟨q1, q2, q3⟩ := i5 rfl
      exact ⟨e1.1.trans q1, e1.2.1.trans q2, e1.2.2.1.trans q3⟩
    · intro e
      subst e
      have hz : kC ((4, x, out, fst) :: Γ) = kC Γ + szC out + (szC fst + 2) := rfl
      have e1 := h (kC Γ + szC out) (by omega)
      have e2 := h (kC Γ + szC out + szC fst + 1) (by omega)
      obtain ⟨⟨q1, q2, q3, q4⟩, q5, q6⟩ := i6 rfl
      exact ⟨⟨e1.1.trans q1, e1.2.1.trans q2, e1.2.2.1.trans q3, e1.2.2.2.trans q4⟩, iC_cg fst g4.1 _ (fun j a1 a2 => h j (by omega)) d3 q5, e2.1.trans q6⟩
    · intro e
      subst e
      have hz : kC ((5, x, out, fst) :: Γ) = kC Γ + szC out + 2 := rfl
      have e1 := h (kC Γ + szC out) (by omega)
      have e2 := h (kC Γ + szC out + 1) (by omega)
      obtain ⟨⟨q1, q2⟩, q3, q4, q5⟩ := i7 rfl
      exact ⟨⟨e1.1.trans q1, e1.2.2.2.trans q2⟩, e2.1.trans q3, e2.2.1.trans q4, e2.2.2.1.trans q5⟩
def stkC (R : Nat → Nat → Int32) : List aFr → Prop
  | [] => True
  | (κ, x, out, fst) :: Γ => stkC R Γ ∧ R 8 Γ.length = (if κ = 5 then 7 else if κ = 1 ∨ κ = 2 then 4 else 5) ∧ R 9 Γ.length = nI (if κ = 5 then kC Γ + szC out + 1 else kC Γ + szC out) ∧ R 11 Γ.length = (if κ = 2 ∨ κ = 4 then 1 else 0) ∧ R 13 Γ.length = wb (hdT out) ∧ (κ = 2 ∨ κ = 4 → R 10 Γ.length = nI (kC Γ + szC out + szC fst + 1) ∧ R 12 Γ.length = wb (hdT fst))
theorem stkC_cg {R R2 : Nat → Nat → Int32} : ∀ {Γ : List aFr}, (∀ j, j < Γ.length → R2 8 j = R 8 j ∧ R2 9 j = R 9 j ∧ R2 10 j = R 10 j ∧ R2 11 j = R 11 j ∧ R2 12 j = R 12 j ∧ R2 13 j = R 13 j) → stkC R Γ → stkC R2 Γ
  | [], _, _ => trivial
  | (κ, x, out, fst) :: Γ, h, hi => by
    obtain ⟨i1, i2, i3, i4, i5, i6⟩ := hi
    have hl : ((κ, x, out, fst) :: Γ).length = Γ.length + 1 := rfl
    have e := h Γ.length (by omega)
    exact ⟨stkC_cg (fun j hj => h j (by omega)) i1, e.1.trans i2, e.2.1.trans i3, e.2.2.2.1.trans i4, e.2.2.2.2.2.trans i5, fun q => ⟨e.2.2.1.trans (i6 q).1, e.2.2.2.2.1.trans (i6 q).2⟩⟩
def IC : aT → cX → Prop := fun A X => match A with
  | (p, s, c, f, ns, cur, Γ, ro, du, ey) => X.1 = p ∧ X.2.1 1 = 0 ∧ X.2.1 2 = -1 ∧ X.2.1 4 = 0 ∧ X.2.1 5 = nI c ∧ X.2.1 7 = nI Γ.length ∧ X.2.2.1 0 = nI s ∧ X.2.2.1 1 = nI c ∧ X.2.2.1 2 = nI f ∧ X.2.2.1 3 = nI (kC Γ + szC cur) ∧ (∀ i, i < c → X.2.2.2.1 6 i = nI (ns i)) ∧ (∀ i, i < c → X.2.2.2.2 8 i = nI (ro i) ∧ X.2.2.2.2 9 i = nI (du i) ∧ X.2.2.2.2 10 i = ey i) ∧ frC (X.2.2.2.2 4) (X.2.2.2.2 5) (X.2.2.2.2 6) (X.2.2.2.2 7) (X.2.2.2.2 11) Γ ∧ iC (X.2.2.2.2 4) (X.2.2.2.2 5) (X.2.2.2.2 6) (X.2.2.2.2 7) (X.2.2.2.2 11) cur (kC Γ) ∧ stkC X.2.2.2.1 Γ ∧ X.2.2.2.1 13 Γ.length = wb (hdT cur)
theorem frC_e {o a n t pl : Nat → Int32} {Γ : List aFr} {k : Nat} {x y z w : Int32} (hg : okG Γ) (hk : kC Γ ≤ k) (h : frC o a n t pl Γ) : frC (upd o k x) (upd a k y) (upd n k z) (upd t k w) pl Γ := frC_cg hg (fun j hj => ⟨upd_lt (by omega), upd_lt (by omega), upd_lt (by omega), upd_lt (by omega)⟩) (fun _ _ => rfl) h
theorem iC_e {o a n t pl : Nat → Int32} {cur : tT} {k0 k : Nat} {x y z w : Int32} (hg : okT cur = true) (hk : k0 + szC cur ≤ k) (h : iC o a n t pl cur k0) : iC (upd o k x) (upd a k y) (upd n k z) (upd t k w) pl cur k0 := iC_cg cur hg k0 (fun j h1 h2 => ⟨upd_lt (by omega), upd_lt (by omega), upd_lt (by omega), upd_lt (by omega)⟩) (fun _ _ => rfl) h
theorem ic_step {b : Nat → Int32} {L : Nat} {A : aT} {X : cX} (hw : wfA L A) (hI : IC A X) : (∀ e, apStep b L A = .inl e → Dd e (stepX b L X)) ∧ (∀ A2, apStep b L A = .inr A2 → IC A2 (stepX b L X)) := by
  obtain ⟨p, s, c, f, ns, cur, Γ, ro, du, ey⟩ := A
  have hcl := (code_le hw).2
  obtain ⟨w1, w2, w3, w4, w5, w6, w7, w8, w9, w10, w11, w12⟩ := hw
  obtain ⟨h1, h2, h3, h4, h5, h6, h7, h8, h9, h10, h11, h12, h13, h14, h15, h16⟩ := hI
  dsimp only at hcl
  have hsN : stpN X = s := by rw [stpN, h7, nI_clamp (by omega)]
  have hlN : lnN X = kC Γ + szC cur := by rw [lnN, h10, nI_clamp (by omega)]
  have hoN : opN X = Γ.length := by rw [opN, h6, nI_clamp (by omega)]
  have hkb : kC Γ ≤ kC Γ + szC cur := by omega
  subst h1
  have a1 := (ad_le (b := b) w1).2
  unfold apStep stepX
  dsimp only
  unfold pStep
  rw [hsN, hoN, hlN]
  have fl : ∀ k : Nat, ∀ x : Int32, x = nI k → (∀ e, (Sum.inl (k, nS b L X.1) : (Nat × Nat) ⊕ aT) = .inl e → Dd e (flX b L x X)) ∧ (∀ A2, (Sum.inl (k, nS b L X.1) : (Nat × Nat) ⊕ aT) = .inr A2 → IC A2 (flX b L x X)) := by
    intro k x hx
    exact ⟨fun e he => by cases he; exact fl_Dd h2 hx, fun A2 he => by cases he⟩
  by_cases k1 : kd b L X.1 = 0 ∨ kd b L X.1 = 8
  · rw [if_pos k1, if_pos k1]
    by_cases k2 : s = 40
    · rw [if_pos k2, if_pos k2]
      exact fl 4 4 rfl
    · rw [if_neg k2, if_neg k2]
      by_cases k3 : kd b L X.1 = 0
      · rw [if_pos k3, if_pos k3]
        have sp := do_spec (b := b) (L := L) (c := c) (ns := ns) (X := spX X b L s) a1 h2 h5 (by omega) (fun i hi => ⟨h11 i hi, (w11 i hi).1⟩) w12
        have e1 : (spX X b L s).1 = ad b L X.1 := rfl
        rw [e1] at sp
        cases hd : pDo b L ns c (ad b L X.1) with
        | inl e => exact ⟨fun e2 he => by cases he; exact sp.1 e hd, fun A2 he => by cases he⟩
        | inr r =>
          refine ⟨fun e2 he => (by cases he), fun A2 he => ?_⟩
          rw [sp.2 r hd]
          have he2 : apS b L (X.1, s, c, f, ns, cur, Γ, ro, du, ey) (0, r.1, r.2.1, r.2.2.1, r.2.2.2) = A2 := Sum.inr.inj he
          rw [← he2]
          have hlS : lnN ((r.2.2.2, upd (spX X b L s).2.1 5 (nI (c + 1)), (spX X b L s).2.2.1, va_up (spX X b L s).2.2.2.1 6 (upd ((spX X b L s).2.2.2.1 6) c (nI (kv b L (ad b L X.1)))), (spX X b L s).2.2.2.2) : cX) = kC Γ + szC cur := hlN
          have hdS : dsN ((r.2.2.2, upd (spX X b L s).2.1 5 (nI (c + 1)), (spX X b L s).2.2.1, va_up (spX X b L s).2.2.2.1 6 (upd ((spX X b L s).2.2.2.1 6) c (nI (kv b L (ad b L X.1)))), (spX X b L s).2.2.2.2) : cX) = c := by
            show (X.2.2.1 1).toNatClampNeg = c
            rw [h8, nI_clamp (by omega)]
          unfold dX
          rw [hlS, hdS, show opN (spX X b L s) = Γ.length from hoN]
          refine ⟨rfl, h2, h3, h4, rfl, h6, rfl, rfl, h9, ?_, ?_, ?_, ?_, ⟨?_, ?_, ?_, ?_⟩, ?_, ?_⟩
          · show nI (kC Γ + szC cur + 1) = nI (kC Γ + (szC cur + 1))
            congr 1
          · intro i hi
            show upd (X.2.2.2.1 6) c (nI (kv b L (ad b L X.1))) i = nI (va_up ns c (kv b L (ad b L X.1)) i)
            by_cases ei : i = c
            · rw [ei, w_upd_self, w_up_self]
            · rw [upd_gt ei, w_up_ne _ _ ei]
              exact h11 i (by omega)
          · intro i hi
            show upd (X.2.2.2.2 8) c (nI r.1) i = _ ∧ upd (X.2.2.2.2 9) c (nI r.2.1) i = _ ∧ upd (X.2.2.2.2 10) c r.2.2.1 i = _
            by_cases ei : i = c
            · rw [ei, w_upd_self, w_upd_self, w_upd_self, w_up_self, w_up_self, w_up_self]
              exact ⟨rfl, rfl, rfl⟩
            · rw [upd_gt ei, upd_gt ei, upd_gt ei, w_up_ne _ _ ei, w_up_ne _ _ ei, w_up_ne _ _ ei]
              exact h12 i (by omega)
          · refine frC_cg w5 (fun j hj => ⟨upd_lt (by omega), upd_lt (by omega), upd_lt (by omega), upd_lt (by omega)⟩) (fun d m => ?_) h13
            have : d < c := List.mem_range.mp (by rw [← w7]; exact List.mem_append.mpr (Or.inl m))
            exact upd_lt (g := X.2.2.2.2 11) this
          · refine iC_cg cur w4.1 _ (fun j b1 b2 => ⟨upd_lt (by omega), upd_lt (by omega), upd_lt (by omega), upd_lt (by omega)⟩) (fun d m => ?_) h14
            have : d < c := List.mem_range.mp (by rw [← w7]; exact List.mem_append.mpr (Or.inr m))
            exact upd_lt (g := X.2.2.2.2 11) this
          · exact w_upd_self _ _ _
          · exact w_upd_self _ _ _
          · exact w_upd_self _ _ _
          · exact stkC_cg (R := X.2.2.2.1) (fun j hj => ⟨rfl, rfl, rfl, rfl, rfl, upd_lt (g := X.2.2.2.1 13) hj⟩) h15
          · show upd (X.2.2.2.1 13) Γ.length 1 Γ.length = wb (hdT cur || true)
            rw [w_upd_self, wb_or]
      · rw [if_neg k3, if_neg k3]
        have sp := set_spec (b := b) (L := L) (X := spX X b L s) a1 h2
        have e1 : (spX X b L s).1 = ad b L X.1 := rfl
        rw [e1] at sp
        cases hd : pSet b L (ad b L X.1) with
        | inl e => exact ⟨fun e2 he => by cases he; exact sp.1 e hd, fun A2 he => by cases he⟩
        | inr r =>
          refine ⟨fun e2 he => (by cases he), fun A2 he => ?_⟩
          rw [sp.2 r hd]
          have he2 : apS b L (X.1, s, c, f, ns, cur, Γ, ro, du, ey) (8, r.1, r.2.1, 0, r.2.2) = A2 := Sum.inr.inj he
          rw [← he2]
          have sv := pSet_inv hd a1
          have hlS : lnN ((r.2.2, (spX X b L s).2) : cX) = kC Γ + szC cur := hlN
          unfold adX
          rw [hlS]
          refine ⟨rfl, h2, h3, h4, h5, h6, rfl, h8, h9, ?_, h11, h12, frC_e w5 hkb h13, ⟨iC_e w4.1 (Nat.le_refl _) h14, w_upd_self _ _ _, ?_, ?_⟩, h15, ?_⟩
          · show nI (kC Γ + szC cur + 1) = nI (kC Γ + (szC cur + 1))
            congr 1
          · rw [show (100 * r.1 + r.2.1) / 100 = r.1 by omega]; exact w_upd_self _ _ _
          · rw [show (100 * r.1 + r.2.1) % 100 = r.2.1 by omega]; exact w_upd_self _ _ _
          · refine h16.trans ?_
            show wb (hdT cur) = wb (hdT cur || false)
            rw [Bool.or_false]
  · rw [if_neg k1, if_neg k1]
    by_cases k4 : kd b L X.1 = 4 ∨ kd b L X.1 = 5 ∨ kd b L X.1 = 7
    · rw [if_pos k4, if_pos k4]
      by_cases k2 : s = 40 ∨ Γ.length = 4
      · rw [if_pos k2, if_pos k2]
        exact fl 4 4 rfl
      · rw [if_neg k2, if_neg k2]
        by_cases k5 : kd b L X.1 = 4
        · rw [if_pos k5, if_pos k5]
          have hlS : lnN (spX X b L s) = kC Γ + szC cur := hlN
          cases hd : nd b L 11 (ad b L X.1) with
          | inl e =>
            refine ⟨fun e2 he => ?_, fun A2 he => by cases he⟩
            cases he
            exact Dd_op (ndX_l (X := fkX (spX X b L s)) h2 hd)
          | inr q =>
            refine ⟨fun e2 he => (by cases he), fun A2 he => ?_⟩
            have he2 : apS b L (X.1, s, c, f, ns, cur, Γ, ro, du, ey) (4, 0, 0, 0, q) = A2 := Sum.inr.inj he
            rw [← he2]
            unfold opX
            rw [ndX_r (X := fkX (spX X b L s)) hd, show opN (fkX (spX X b L s)) = Γ.length from hoN]
            unfold fkX
            rw [hlS]
            refine ⟨rfl, h2, h3, h4, h5, rfl, rfl, h8, ?_, rfl, h11, h12, ⟨frC_e w5 hkb h13, iC_e w4.1 (Nat.le_refl _) h14, fun _ => ⟨w_upd_self _ _ _, ?_⟩, fun z => by omega, fun z => by omega, fun z => by omega, fun z => by omega⟩, trivial, ⟨?_, w_upd_self _ _ _, w_upd_self _ _ _, w_upd_self _ _ _, ?_, fun z => by omega⟩, w_upd_self _ _ _⟩
            · show X.2.2.1 2 + 1 = nI (f + 1)
              rw [h9, nI_1]
            · exact (w_upd_self _ _ _).trans h9
            · exact stkC_cg (R := X.2.2.2.1) (fun j hj => ⟨upd_lt (g := X.2.2.2.1 8) hj, upd_lt (g := X.2.2.2.1 9) hj, rfl, upd_lt (g := X.2.2.2.1 11) hj, rfl, upd_lt (g := X.2.2.2.1 13) (by omega)⟩) h15
            · exact (upd_lt (g := X.2.2.2.1 13) (by omega)).trans h16
        · rw [if_neg k5, if_neg k5]
          by_cases k6 : kd b L X.1 = 5
          · rw [if_pos k6]
            have sp := tst_spec (b := b) (L := L) (w := 5) (h := nI (kC Γ + szC cur)) (X := spX X b L s) a1 h2
            have e1 : (spX X b L s).1 = ad b L X.1 := rfl
            rw [e1] at sp
            cases hd : pTst b L (ad b L X.1) with
            | inl e => exact ⟨fun e2 he => by cases he; exact sp.1 e hd, fun A2 he => by cases he⟩
            | inr r =>
              refine ⟨fun e2 he => (by cases he), fun A2 he => ?_⟩
              have he2 : apS b L (X.1, s, c, f, ns, cur, Γ, ro, du, ey) (kd b L X.1, r.1, r.2.1, 0, r.2.2) = A2 := Sum.inr.inj he
              rw [k6] at he2
              rw [← he2]
              have sv := pTst_inv hd a1
              have hlS : lnN ((r.2.2, (spX X b L s).2) : cX) = kC Γ + szC cur := hlN
              have hoT : opN (tstX b L (spX X b L s)) = Γ.length := by
                show ((tstX b L (spX X b L s)).2.1 7).toNatClampNeg = _
                rw [(tstX_P (b := b) (X := spX X b L s) a1).2 7 (by decide) (by decide)]
                exact hoN
              unfold opX
              rw [sp.2 r hd, hoT]
              unfold adX
              rw [hlS]
              refine ⟨rfl, h2, h3, h4, h5, rfl, rfl, h8, h9, rfl, h11, h12, ⟨frC_e w5 hkb h13, iC_e w4.1 (Nat.le_refl _) h14, fun z => by omega, fun z => by omega, fun _ => ⟨w_upd_self _ _ _, ?_, ?_⟩, fun z => by omega, fun z => by omega⟩, trivial, ⟨?_, w_upd_self _ _ _, w_upd_self _ _ _, w_upd_self _ _ _, ?_, fun z => by omega⟩, w_upd_self _ _ _⟩
              · rw [show (100 * r.1 + r.2.1) / 100 = r.1 by omega]; exact w_upd_self _ _ _
              · rw [show (100 * r.1 + r.2.1) % 100 = r.2.1 by omega]; exact w_upd_self _ _ _
              · exact stkC_cg (R := X.2.2.2.1) (fun j hj => ⟨upd_lt (g := X.2.2.2.1 8) hj, upd_lt (g := X.2.2.2.1 9) hj, rfl, upd_lt (g := X.2.2.2.1 11) hj, rfl, upd_lt (g := X.2.2.2.1 13) (by omega)⟩) h15
              · exact (upd_lt (g := X.2.2.2.1 13) (by omega)).trans h16
          · rw [if_neg k6]
            have k7 : kd b L X.1 = 7 := by omega
            have sp := tst_spec (b := b) (L := L) (w := 7) (h := nI (kC Γ + szC cur + 1)) (X := adX 3 0 0 (nI (kC Γ + szC cur + 2)) (spX X b L s)) a1 h2
            have e1 : (adX 3 0 0 (nI (kC Γ + szC cur + 2)) (spX X b L s)).1 = ad b L X.1 := rfl
            rw [e1] at sp
            cases hd : pTst b L (ad b L X.1) with
            | inl e => exact ⟨fun e2 he => by cases he; exact sp.1 e hd, fun A2 he => by cases he⟩
            | inr r =>
              refine ⟨fun e2 he => (by cases he), fun A2 he => ?_⟩
              have he2 : apS b L (X.1, s, c, f, ns, cur, Γ, ro, du, ey) (kd b L X.1, r.1, r.2.1, 0, r.2.2) = A2 := Sum.inr.inj he
              rw [k7] at he2
              rw [← he2]
              have sv := pTst_inv hd a1
              have hlS : lnN (spX X b L s) = kC Γ + szC cur := hlN
              have hlT : lnN ((r.2.2, (adX 3 0 0 (nI (kC Γ + szC cur + 2)) (spX X b L s)).2) : cX) = kC Γ + szC cur + 1 := by
                show (nI (lnN (spX X b L s) + 1)).toNatClampNeg = _
                rw [hlS, nI_clamp (by omega)]
              have hoT : opN (tstX b L (adX 3 0 0 (nI (kC Γ + szC cur + 2)) (spX X b L s))) = Γ.length := by
                show ((tstX b L (adX 3 0 0 (nI (kC Γ + szC cur + 2)) (spX X b L s))).2.1 7).toNatClampNeg = _
                rw [(tstX_P (b := b) (X := adX 3 0 0 (nI (kC Γ + szC cur + 2)) (spX X b L s)) a1).2 7 (by decide) (by decide)]
                exact hoN
              unfold opX
              rw [sp.2 r hd, hoT]
              rw [show adX 2 (nI r.1) (nI r.2.1) 0 (r.2.2, (adX 3 0 0 (nI (kC Γ + szC cur + 2)) (spX X b L s)).2) = (r.2.2, (spX X b L s).2.1, upd (upd (spX X b L s).2.2.1 3 (nI (kC Γ + szC cur + 1))) 3 (nI (kC Γ + szC cur + 1 + 1)), (spX X b L s).2.2.2.1, adB (adB (spX X b L s).2.2.2.2 (kC Γ + szC cur) 3 0 0 (nI (kC Γ + szC cur + 2))) (kC Γ + szC cur + 1) 2 (nI r.1) (nI r.2.1) 0) by unfold adX at hlT ⊢; rw [hlT, hlS]]
              have hne : kC Γ + szC cur ≠ kC Γ + szC cur + 1 := by omega
              refine ⟨rfl, h2, h3, h4, h5, rfl, rfl, h8, h9, rfl, h11, h12, ⟨frC_e w5 (by omega) (frC_e w5 hkb h13), iC_e w4.1 (by omega) (iC_e w4.1 (Nat.le_refl _) h14), fun z => by omega, fun z => by omega, fun z => by omega, fun z => by omega, fun _ => ⟨⟨?_, ?_⟩, w_upd_self _ _ _, ?_, ?_⟩⟩, trivial, ⟨?_, w_upd_self _ _ _, w_upd_self _ _ _, w_upd_self _ _ _, ?_, fun z => by omega⟩, w_upd_self _ _ _⟩
              · exact (upd_gt hne).trans (w_upd_self _ _ _)
              · exact (upd_gt hne).trans (w_upd_self _ _ _)
              · rw [show (100 * r.1 + r.2.1) / 100 = r.1 by omega]; exact w_upd_self _ _ _
              · rw [show (100 * r.1 + r.2.1) % 100 = r.2.1 by omega]; exact w_upd_self _ _ _
              · exact stkC_cg (R := X.2.2.2.1) (fun j hj => ⟨upd_lt (g := X.2.2.2.1 8) hj, upd_lt (g := X.2.2.2.1 9) hj, rfl, upd_lt (g := X.2.2.2.1 11) hj, rfl, upd_lt (g := X.2.2.2.1 13) (by omega)⟩) h15
              · exact (upd_lt (g := X.2.2.2.1 13) (by omega)).trans h16
    · rw [if_neg k4, if_neg k4]
      exact fl 1 1 rfl
