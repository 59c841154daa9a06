/-! the parser, abstract: place, steps, dos, boths, names, the steps of this level, the open ones (kind, label, the steps before it, its first way), roles, hours, eyes -/
theorem sb_inv {α β : Type} {x : (Nat × Nat) ⊕ α} {f : α → (Nat × Nat) ⊕ β} {z : β} (h : sb x f = .inr z) : ∃ a, x = .inr a ∧ f a = .inr z := by
  cases x with
  | inl e => cases h
  | inr a => exact ⟨a, rfl, h⟩
theorem nd_inv {b : Nat → Int32} {L k p q : Nat} (h : nd b L k p = .inr q) : kd b L p = k ∧ q = ad b L p := by
  unfold nd at h
  split at h
  · cases h; exact ⟨by assumption, rfl⟩
  · cases h
theorem nm_inv {b : Nat → Int32} {L lo hi p : Nat} {q : Nat × Nat} (h : nm b L lo hi p = .inr q) : q.2 = ad b L p ∧ lo ≤ q.1 ∧ q.1 ≤ hi ∧ kd b L p = 10 ∧ q.1 = nu b L p := by
  unfold nm at h
  split at h
  · split at h
    · rename_i h1 h2
      cases h; exact ⟨rfl, h2.1, h2.2, h1, rfl⟩
    · cases h
  · cases h
theorem fd_inv {b : Nat → Int32} {L p : Nat} {q : Nat × Nat} (h : fd b L p = .inr q) : q.2 = ad b L p ∧ q.1 ≤ 3 ∧ kd b L p = 9 ∧ kv b L p ≤ 4 ∧ q.1 = kv b L p - 1 := by
  unfold fd at h
  split at h
  · rename_i h1
    cases h
    exact ⟨rfl, by show kv b L p - 1 ≤ 3; omega, h1.1, h1.2, rfl⟩
  · cases h
def eyOK (c : Nat) (e : Int32) : Prop := e = -1 ∨ ∃ i, i < c ∧ e = nI i
theorem ey_inv {b : Nat → Int32} {L : Nat} {ns : Nat → Nat} {c p : Nat} {q : Int32 × Nat} (h : eyP b L ns c p = .inr q) (hp : p ≤ L) : p ≤ q.2 ∧ q.2 ≤ L ∧ eyOK c q.1 := by
  have h1 := ad_le (b := b) hp
  have h2 := ad_le (b := b) h1.2
  unfold eyP at h
  split at h
  · split at h
    · split at h
      · cases h
      · rename_i i hi
        cases h
        exact ⟨by show p ≤ ad b L (ad b L p); omega, h2.2, Or.inr ⟨i, (fnd_lt hi).1, rfl⟩⟩
    · cases h
  · cases h
    exact ⟨Nat.le_refl _, hp, Or.inl rfl⟩
theorem pDo_inv {b : Nat → Int32} {L : Nat} {ns : Nat → Nat} {c p : Nat} {r : Nat × Nat × Int32 × Nat} (h : pDo b L ns c p = .inr r) (hp : p ≤ L) : p ≤ r.2.2.2 ∧ r.2.2.2 ≤ L ∧ r.1 ≤ 5 ∧ 1 ≤ r.2.1 ∧ r.2.1 ≤ 99 ∧ eyOK (c + 1) r.2.2.1 ∧ kd b L p = 9 ∧ 2 ≤ kl b L p ∧ fnd ns (kv b L p) c = none := by
  unfold pDo at h
  split at h
  · rename_i h1
    cases hf : fnd ns (kv b L p) c with
    | some i => rw [hf] at h; cases h
    | none =>
      rw [hf] at h
      obtain ⟨p2, e2, h⟩ := sb_inv h
      obtain ⟨r1, e3, h⟩ := sb_inv h
      obtain ⟨p4, e4, h⟩ := sb_inv h
      obtain ⟨d1, e5, h⟩ := sb_inv h
      obtain ⟨y1, e6, h⟩ := sb_inv h
      obtain ⟨p7, e7, h⟩ := sb_inv h
      cases h
      have a1 := ad_le (b := b) hp
      have n2 := nd_inv e2
      have a2 := ad_le (b := b) a1.2
      rw [n2.2] at e3
      have n3 := nm_inv e3
      have a3 := ad_le (b := b) a2.2
      rw [n3.1] at e4
      have n4 := nd_inv e4
      have a4 := ad_le (b := b) a3.2
      rw [n4.2] at e5
      have n5 := nm_inv e5
      have a5 := ad_le (b := b) a4.2
      rw [n5.1] at e6
      have n6 := ey_inv e6 a5.2
      have n7 := nd_inv e7
      have a7 := ad_le (b := b) n6.2.1
      rw [← n7.2] at a7
      exact ⟨by show p ≤ p7; omega, a7.2, n3.2.2.1, n5.2.1, n5.2.2.1, n6.2.2, h1.1, h1.2, rfl⟩
  · cases h
theorem pSet_inv {b : Nat → Int32} {L p : Nat} {r : Nat × Nat × Nat} (h : pSet b L p = .inr r) (hp : p ≤ L) : p ≤ r.2.2 ∧ r.2.2 ≤ L ∧ r.1 ≤ 3 ∧ r.2.1 ≤ 99 := by
  unfold pSet at h
  obtain ⟨f, e1, h⟩ := sb_inv h
  obtain ⟨n, e2, h⟩ := sb_inv h
  obtain ⟨q, e3, h⟩ := sb_inv h
  cases h
  have n1 := fd_inv e1
  have a1 := ad_le (b := b) hp
  rw [← n1.1] at a1
  have n2 := nm_inv e2
  have a2 := ad_le (b := b) a1.2
  rw [← n2.1] at a2
  have n3 := nd_inv e3
  have a3 := ad_le (b := b) a2.2
  rw [← n3.2] at a3
  exact ⟨by show p ≤ q; omega, a3.2, n1.2.1, n2.2.2.1⟩
theorem pTst_inv {b : Nat → Int32} {L p : Nat} {r : Nat × Nat × Nat} (h : pTst b L p = .inr r) (hp : p ≤ L) : p ≤ r.2.2 ∧ r.2.2 ≤ L ∧ r.1 ≤ 3 ∧ r.2.1 ≤ 99 := by
  unfold pTst at h
  obtain ⟨f, e1, h⟩ := sb_inv h
  obtain ⟨q, e2, h⟩ := sb_inv h
  obtain ⟨n, e3, h⟩ := sb_inv h
  obtain ⟨z, e4, h⟩ := sb_inv h
  cases h
  have n1 := fd_inv e1
  have a1 := ad_le (b := b) hp
  rw [← n1.1] at a1
  have n2 := nd_inv e2
  have a2 := ad_le (b := b) a1.2
  rw [← n2.2] at a2
  have n3 := nm_inv e3
  have a3 := ad_le (b := b) a2.2
  rw [← n3.1] at a3
  have n4 := nd_inv e4
  have a4 := ad_le (b := b) a3.2
  rw [← n4.2] at a4
  exact ⟨by show p ≤ z; omega, a4.2, n1.2.1, n3.2.2.1⟩
theorem pStep_inv {b : Nat → Int32} {L : Nat} {ns : Nat → Nat} {c s d p : Nat} {r : Nat × Nat × Nat × Int32 × Nat} (h : pStep b L ns c s d p = .inr r) (hp : p ≤ L) : p < r.2.2.2.2 ∧ r.2.2.2.2 ≤ L ∧ s ≠ 40 ∧
    ((r.1 = 0 ∧ r.2.1 ≤ 5 ∧ 1 ≤ r.2.2.1 ∧ r.2.2.1 ≤ 99 ∧ eyOK (c + 1) r.2.2.2.1 ∧ kd b L (ad b L p) = 9 ∧ fnd ns (kv b L (ad b L p)) c = none) ∨ (r.1 = 8 ∧ r.2.1 ≤ 3 ∧ r.2.2.1 ≤ 99) ∨ (r.1 = 4 ∧ d ≠ 4) ∨ ((r.1 = 5 ∨ r.1 = 7) ∧ d ≠ 4 ∧ r.2.1 ≤ 3 ∧ r.2.2.1 ≤ 99)) := by
  have ha := ad_le (b := b) hp
  unfold pStep at h
  split at h
  · rename_i h1
    have hl := ad_lt (b := b) hp (by omega)
    split at h
    · cases h
    · rename_i h2
      split at h
      · obtain ⟨q, e, h⟩ := sb_inv h
        cases h
        have n := pDo_inv e ha.2
        exact ⟨by show p < q.2.2.2; omega, n.2.1, h2, Or.inl ⟨rfl, n.2.2.1, n.2.2.2.1, n.2.2.2.2.1, n.2.2.2.2.2.1, n.2.2.2.2.2.2.1, n.2.2.2.2.2.2.2.2⟩⟩
      · obtain ⟨q, e, h⟩ := sb_inv h
        cases h
        have n := pSet_inv e ha.2
        exact ⟨by show p < q.2.2; omega, n.2.1, h2, Or.inr (Or.inl ⟨rfl, n.2.2.1, n.2.2.2⟩)⟩
  · split at h
    · rename_i h0 h1
      have hl := ad_lt (b := b) hp (by omega)
      split at h
      · cases h
      · rename_i h2
        split at h
        · obtain ⟨q, e, h⟩ := sb_inv h
          cases h
          have n := nd_inv e
          have a2 := ad_le (b := b) ha.2
          rw [← n.2] at a2
          exact ⟨by show p < q; omega, a2.2, by omega, Or.inr (Or.inr (Or.inl ⟨rfl, by omega⟩))⟩
        · rename_i h3
          obtain ⟨q, e, h⟩ := sb_inv h
          cases h
          have n := pTst_inv e ha.2
          exact ⟨by show p < q.2.2; omega, n.2.1, by omega, Or.inr (Or.inr (Or.inr ⟨h1.resolve_left h3, by omega, n.2.2.1, n.2.2.2⟩))⟩
    · cases h
abbrev aFr : Type := Nat × Nat × tT × tT
abbrev aT : Type := Nat × Nat × Nat × Nat × (Nat → Nat) × tT × List aFr × (Nat → Nat) × (Nat → Nat) × (Nat → Int32)
def apS (b : Nat → Int32) (L : Nat) : aT → Nat × Nat × Nat × Int32 × Nat → aT := fun A r => match A with
  | (p, s, c, f, ns, cur, Γ, ro, du, ey) =>
    if r.1 = 0 then (r.2.2.2.2, s + 1, c + 1, f, va_up ns c (kv b L (ad b L p)), tSeq cur (tDo c), Γ, va_up ro c r.2.1, va_up du c r.2.2.1, va_up ey c r.2.2.2.1)
    else if r.1 = 8 then (r.2.2.2.2, s + 1, c, f, ns, tSeq cur (tSet (100 * r.2.1 + r.2.2.1)), Γ, ro, du, ey)
    else if r.1 = 4 then (r.2.2.2.2, s + 1, c, f + 1, ns, tSkip, (1, f, cur, tSkip) :: Γ, ro, du, ey)
    else if r.1 = 5 then (r.2.2.2.2, s + 1, c, f, ns, tSkip, (3, 100 * r.2.1 + r.2.2.1, cur, tSkip) :: Γ, ro, du, ey)
    else (r.2.2.2.2, s + 1, c, f, ns, tSkip, (5, 100 * r.2.1 + r.2.2.1, cur, tSkip) :: Γ, ro, du, ey)
def apStep (b : Nat → Int32) (L : Nat) (A : aT) : (Nat × Nat) ⊕ aT := sb (pStep b L A.2.2.2.2.1 A.2.2.1 A.2.1 A.2.2.2.2.2.2.1.length A.1) fun r => .inr (apS b L A r)
def apClose (b : Nat → Int32) (L : Nat) : aT → (Nat × Nat) ⊕ aT
  | (_, _, _, _, _, _, [], _, _, _) => .inl (1, 0)
  | (p, s, c, f, ns, cur, (κ, x, out, fst) :: Γ, ro, du, ey) =>
    if κ = 1 then sb (nd b L 11 (ad b L p)) fun q => .inr (q, s, c, f, ns, tSkip, (2, x, out, cur) :: Γ, ro, du, ey)
    else if κ = 2 then .inr (ad b L p, s, c, f, ns, tSeq out (tBo x fst cur), Γ, ro, du, ey)
    else if κ = 3 then sb (nd b L 6 (ad b L p)) fun q1 => sb (nd b L 11 q1) fun q => .inr (q, s, c, f, ns, tSkip, (4, x, out, cur) :: Γ, ro, du, ey)
    else if κ = 4 then .inr (ad b L p, s, c, f, ns, tSeq out (tIf x fst cur), Γ, ro, du, ey)
    else if hdT cur = true then .inr (ad b L p, s, c, f, ns, tSeq out (tAg x cur), Γ, ro, du, ey) else .inl (5, nS b L p)
def apL (b : Nat → Int32) (L : Nat) : Nat → aT → (Nat × Nat) ⊕ aT
  | 0, _ => .inl (0, 0)
  | n + 1, A => if kd b L A.1 = 15 ∧ A.2.2.2.2.2.2.1 = [] then .inr A else if kd b L A.1 = 12 ∧ A.2.2.2.2.2.2.1 ≠ [] then sb (apClose b L A) (apL b L n) else sb (apStep b L A) (apL b L n)
def aT0 : aT := (0, 0, 0, 0, fun _ => 0, tSkip, [], fun _ => 0, fun _ => 0, fun _ => 0)
/-- how many steps -/
def nsT : tT → Nat
  | .natCast _ => 1
  | .var _ => 1
  | .add a b => nsT a + nsT b
  | .pow a _ => nsT a + 1
  | .sub (.pow a _) b => nsT a + nsT b + 1
  | .mul (.pow a _) b => nsT a + nsT b + 1
  | _ => 0
def gdT (t : tT) : Prop := okT t = true ∧ agT t = true ∧ lbT t = true
def nsG : List aFr → Nat
  | [] => 0
  | (_, _, out, fst) :: Γ => nsG Γ + nsT out + nsT fst + 1
def dsG : List aFr → List Nat
  | [] => []
  | (_, _, out, fst) :: Γ => dsG Γ ++ (dsT out ++ dsT fst)
def fkG : List aFr → List Nat
  | [] => []
  | (κ, x, out, fst) :: Γ => fkG Γ ++ (fkT out ++ ((if κ = 1 ∨ κ = 2 then [x] else []) ++ fkT fst))
def okG : List aFr → Prop
  | [] => True
  | (κ, x, out, fst) :: Γ => okG Γ ∧ (1 ≤ κ ∧ κ ≤ 5) ∧ gdT out ∧ gdT fst ∧ (3 ≤ κ → x < 400) ∧ (κ = 1 ∨ κ = 3 ∨ κ = 5 → fst = tSkip)
def wfA (L : Nat) : aT → Prop
  | (p, s, c, f, ns, cur, Γ, ro, du, ey) => p ≤ L ∧ s = nsG Γ + nsT cur ∧ s ≤ 40 ∧ gdT cur ∧ okG Γ ∧ Γ.length ≤ 4 ∧ dsG Γ ++ dsT cur = List.range c ∧ fkG Γ ++ fkT cur = List.range f ∧ c ≤ s ∧ f ≤ s ∧ (∀ i, i < c → ns i < 2 ^ 30 ∧ ro i ≤ 5 ∧ 1 ≤ du i ∧ du i ≤ 99 ∧ eyOK c (ey i)) ∧ (∀ i j, i < c → j < c → ns i = ns j → i = j)
theorem gd_seq {a b : tT} (h1 : gdT a) (h2 : gdT b) : gdT (tSeq a b) := ⟨by rw [okT, h1.1, h2.1]; rfl, by rw [agT, h1.2.1, h2.2.1]; rfl, by rw [lbT, h1.2.2, h2.2.2]; rfl⟩
theorem gd_skip : gdT tSkip := ⟨rfl, rfl, rfl⟩
theorem nsT_c {t : tT} : okT t = true → (dsT t).length ≤ nsT t ∧ (fkT t).length ≤ nsT t ∧ (dsT t).length + (fkT t).length ≤ nsT t := by
  apply T_ind (P := fun t => (dsT t).length ≤ nsT t ∧ (fkT t).length ≤ nsT t ∧ (dsT t).length + (fkT t).length ≤ nsT t) <;> intros <;> simp [dsT, fkT, nsT] at * <;> omega
theorem eyOK_s {c : Nat} {e : Int32} (h : eyOK c e) : eyOK (c + 1) e := h.elim Or.inl (fun ⟨i, h1, h2⟩ => Or.inr ⟨i, by omega, h2⟩)
theorem wfA_step {b : Nat → Int32} {L : Nat} {A : aT} {r : Nat × Nat × Nat × Int32 × Nat} (h : wfA L A) (hr : pStep b L A.2.2.2.2.1 A.2.2.1 A.2.1 A.2.2.2.2.2.2.1.length A.1 = .inr r) : wfA L (apS b L A r) := by
  obtain ⟨p, s, c, f, ns, cur, Γ, ro, du, ey⟩ := A
  obtain ⟨h1, h2, h3, h4, h5, h6, h7, h8, h9, h10, h11, h12⟩ := h
  obtain ⟨g1, g2, g3, g4⟩ := pStep_inv hr h1
  dsimp only at g1 g2 g3 g4
  rcases g4 with ⟨q, q1, q2, q3, q4, q5, q6⟩ | ⟨q, q1, q2⟩ | ⟨q, q1⟩ | ⟨q, q1, q2, q3⟩
  · have e : apS b L (p, s, c, f, ns, cur, Γ, ro, du, ey) r = (r.2.2.2.2, s + 1, c + 1, f, va_up ns c (kv b L (ad b L p)), tSeq cur (tDo c), Γ, va_up ro c r.2.1, va_up du c r.2.2.1, va_up ey c r.2.2.2.1) := if_pos q
    rw [e]
    refine ⟨g2, by rw [h2]; rfl, by omega, gd_seq h4 ⟨rfl, rfl, rfl⟩, h5, h6, ?_, ?_, by omega, by omega, ?_, ?_⟩
    · show dsG Γ ++ (dsT cur ++ [c]) = _
      rw [← List.append_assoc, h7, List.range_succ]
    · show fkG Γ ++ (fkT cur ++ []) = _
      rw [List.append_nil, h8]
    · intro i hi
      by_cases e1 : i = c
      · subst e1
        simp only [va_up, if_true]
        exact ⟨(tv_9 q5 (ad_le h1).2).2.2, q1, q2, q3, q4⟩
      · simp only [va_up, if_neg e1]
        have := h11 i (by omega)
        exact ⟨this.1, this.2.1, this.2.2.1, this.2.2.2.1, eyOK_s this.2.2.2.2⟩
    · intro i j hi hj hij
      by_cases e1 : i = c
      · by_cases e2 : j = c
        · omega
        · simp only [va_up, if_neg e2, if_pos e1] at hij
          exact absurd hij.symm (fnd_none q6 j (by omega))
      · by_cases e2 : j = c
        · simp only [va_up, if_neg e1, if_pos e2] at hij
          exact absurd hij (fnd_none q6 i (by omega))
        · simp only [va_up, if_neg e1, if_neg e2] at hij
          exact h12 i j (by omega) (by omega) hij
  · have e : apS b L (p, s, c, f, ns, cur, Γ, ro, du, ey) r = (r.2.2.2.2, s + 1, c, f, ns, tSeq cur (tSet (100 * r.2.1 + r.2.2.1)), Γ, ro, du, ey) := by
      show (if r.1 = 0 then _ else _) = _
      rw [if_neg (by omega), if_pos q]
    rw [e]
    refine ⟨g2, by rw [h2]; rfl, by omega, gd_seq h4 ⟨rfl, rfl, by show decide (100 * r.2.1 + r.2.2.1 < 400) = true; exact decide_eq_true (by omega)⟩, h5, h6, ?_, ?_, by omega, by omega, h11, h12⟩
    · show dsG Γ ++ (dsT cur ++ []) = _
      rw [List.append_nil, h7]
    · show fkG Γ ++ (fkT cur ++ []) = _
      rw [List.append_nil, h8]
  · have e : apS b L (p, s, c, f, ns, cur, Γ, ro, du, ey) r = (r.2.2.2.2, s + 1, c, f + 1, ns, tSkip, (1, f, cur, tSkip) :: Γ, ro, du, ey) := by
      show (if r.1 = 0 then _ else _) = _
      rw [if_neg (by omega), if_neg (by omega), if_pos q]
    rw [e]
    refine ⟨g2, by rw [h2]; rfl, by omega, gd_skip, ⟨h5, by omega, h4, gd_skip, by omega, fun _ => rfl⟩, by show Γ.length + 1 ≤ 4; omega, ?_, ?_, by omega, by omega, h11, h12⟩
    · show (dsG Γ ++ (dsT cur ++ [])) ++ [] = _
      rw [List.append_nil, List.append_nil, h7]
    · show (fkG Γ ++ (fkT cur ++ ([f] ++ []))) ++ [] = _
      rw [List.append_nil, List.append_nil, ← List.append_assoc, h8, List.range_succ]
  · by_cases q5 : r.1 = 5
    · have e : apS b L (p, s, c, f, ns, cur, Γ, ro, du, ey) r = (r.2.2.2.2, s + 1, c, f, ns, tSkip, (3, 100 * r.2.1 + r.2.2.1, cur, tSkip) :: Γ, ro, du, ey) := by
        show (if r.1 = 0 then _ else _) = _
        rw [if_neg (by omega), if_neg (by omega), if_neg (by omega), if_pos q5]
      rw [e]
      refine ⟨g2, by rw [h2]; rfl, by omega, gd_skip, ⟨h5, by omega, h4, gd_skip, fun _ => by omega, fun _ => rfl⟩, by show Γ.length + 1 ≤ 4; omega, ?_, ?_, by omega, by omega, h11, h12⟩
      · show (dsG Γ ++ (dsT cur ++ [])) ++ [] = _
        rw [List.append_nil, List.append_nil, h7]
      · show (fkG Γ ++ (fkT cur ++ ([] ++ []))) ++ [] = _
        rw [List.append_nil, List.append_nil, List.append_nil, h8]
    · have e : apS b L (p, s, c, f, ns, cur, Γ, ro, du, ey) r = (r.2.2.2.2, s + 1, c, f, ns, tSkip, (5, 100 * r.2.1 + r.2.2.1, cur, tSkip) :: Γ, ro, du, ey) := by
        show (if r.1 = 0 then _ else _) = _
        rw [if_neg (by omega), if_neg (by omega), if_neg (by omega), if_neg q5]
      rw [e]
      refine ⟨g2, by rw [h2]; rfl, by omega, gd_skip, ⟨h5, by omega, h4, gd_skip, fun _ => by omega, fun _ => rfl⟩, by show Γ.length + 1 ≤ 4; omega, ?_, ?_, by omega, by omega, h11, h12⟩
      · show (dsG Γ ++ (dsT cur ++ [])) ++ [] = _
        rw [List.append_nil, List.append_nil, h7]
      · show (fkG Γ ++ (fkT cur ++ ([] ++ []))) ++ [] = _
        rw [List.append_nil, List.append_nil, List.append_nil, h8]
