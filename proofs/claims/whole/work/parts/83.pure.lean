/-! counts, drawers (fb_ rows: the kit's text to paste), chains of deputies, bits: no machine in here -/
theorem cntB_cg {P Q : Nat → Bool} : ∀ {n : Nat}, (∀ k, k < n → P k = Q k) → cntB P n = cntB Q n
  | 0, _ => rfl
  | n + 1, h => by
    simp only [cntB]
    rw [cntB_cg (n := n) (fun k hk => h k (by omega)), h n (by omega)]
theorem cntB_up {P Q : Nat → Bool} {i : Nat} : ∀ {n : Nat}, i < n → (∀ k, k < n → k ≠ i → P k = Q k) → P i = false → Q i = true → cntB Q n = cntB P n + 1
  | 0, h, _, _, _ => by omega
  | n + 1, h, he, hp, hq => by
    simp only [cntB]
    by_cases hi : i = n
    · subst hi
      rw [cntB_cg (P := Q) (Q := P) (fun k hk => (he k (by omega) (by omega)).symm), hp, hq]
      simp
    · rw [cntB_up (n := n) (by omega) (fun k hk hk2 => he k (by omega) hk2) hp hq, he n (by omega) (fun q => hi q.symm)]
      split <;> omega
theorem cntB_app (P : Nat → Bool) (m : Nat) : ∀ n, cntB P (m + n) = cntB P m + cntB (fun k => P (m + k)) n
  | 0 => rfl
  | n + 1 => by
    rw [← Nat.add_assoc]
    simp only [cntB]
    rw [cntB_app P m n]
    split <;> omega
theorem cntB_0 {P : Nat → Bool} : ∀ {n : Nat}, (∀ k, k < n → P k = false) → cntB P n = 0
  | 0, _ => rfl
  | n + 1, h => by
    simp only [cntB]
    rw [cntB_0 (n := n) (fun k hk => h k (by omega)), h n (by omega)]
    rfl
theorem cntB_n {P : Nat → Bool} : ∀ {n : Nat}, (∀ k, k < n → P k = true) → cntB P n = n
  | 0, _ => rfl
  | n + 1, h => by
    simp only [cntB]
    rw [cntB_n (n := n) (fun k hk => h k (by omega)), h n (by omega)]
    rfl
theorem cntB_mo (P : Nat → Bool) (m : Nat) : ∀ n, cntB P m ≤ cntB P (m + n) := fun n => by rw [cntB_app]; omega
theorem cntB_pos {P : Nat → Bool} {n i : Nat} (hi : i < n) (h : P i = true) : 0 < cntB P n := by
  have h1 := cntB_mo P (i + 1) (n - (i + 1))
  rw [show i + 1 + (n - (i + 1)) = n by omega, cntB_t h] at h1
  omega
theorem anyB_iff {P : Nat → Bool} : ∀ {n : Nat}, anyB P n = true ↔ ∃ k, k < n ∧ P k = true
  | 0 => ⟨fun h => (by cases h), fun ⟨k, hk, _⟩ => by omega⟩
  | n + 1 => by
    rw [anyB, Bool.or_eq_true, anyB_iff (n := n)]
    constructor
    · rintro (⟨k, h1, h2⟩ | h)
      · exact ⟨k, by omega, h2⟩
      · exact ⟨n, by omega, h⟩
    · rintro ⟨k, h1, h2⟩
      by_cases hk : k = n
      · subst hk; exact Or.inr h2
      · exact Or.inl ⟨k, by omega, h2⟩
theorem fb_holes : ∀ (m n : Nat) (f : Nat → Nat), (∀ i, i < n → f i < m) → (∀ i j, i < j → j < n → f i ≠ f j) → n ≤ m := by
  intro m
  induction m with
  | zero =>
    intro n f h1 _
    rcases Nat.eq_zero_or_pos n with h | h
    · omega
    · exact absurd (h1 0 h) (Nat.not_lt_zero _)
  | succ m ih =>
    intro n f h1 h2
    by_cases hx : ∃ i, i < n ∧ f i = m
    · obtain ⟨a, ha, hfa⟩ := hx
      have hg := ih (n - 1) (fun i => if i < a then f i else f (i + 1)) (by
        intro i hi
        by_cases q : i < a
        · simp only [if_pos q]
          have b1 := h1 i (by omega)
          have b2 := h2 i a q ha
          omega
        · simp only [if_neg q]
          have b1 := h1 (i + 1) (by omega)
          have b2 := h2 a (i + 1) (by omega) (by omega)
          omega) (by
        intro i j hij hj
        by_cases q : i < a
        · by_cases r : j < a
          · simp only [if_pos q, if_pos r]
            exact h2 i j hij (by omega)
          · simp only [if_pos q, if_neg r]
            exact h2 i (j + 1) (by omega) (by omega)
        · have r : ¬ j < a := by omega
          simp only [if_neg q, if_neg r]
          exact h2 (i + 1) (j + 1) (by omega) (by omega))
      omega
    · have hg := ih n f (fun i hi => by
        have b1 := h1 i hi
        have b2 : f i ≠ m := fun e => hx ⟨i, hi, e⟩
        omega) h2
      omega
/-- two of them in one place -/
theorem fb_twice {m n : Nat} {f : Nat → Nat} (h : ∀ i, i < n → f i < m) (hm : m < n) : ∃ i j, i < j ∧ j < n ∧ f i = f j := by
  refine Classical.byContradiction fun hx => ?_
  have := fb_holes m n f h (fun i j hij hj e => hx ⟨i, j, hij, hj, e⟩)
  omega
/-- as many as places, none twice: each place is taken -/
theorem fb_onto {n : Nat} {f : Nat → Nat} (h : ∀ i, i < n → f i < n) (h2 : ∀ i j, i < j → j < n → f i ≠ f j) {y : Nat} (hy : y < n) : ∃ i, i < n ∧ f i = y := by
  refine Classical.byContradiction fun hx => ?_
  have hne : ∀ i, i < n → f i ≠ y := fun i hi e => hx ⟨i, hi, e⟩
  have := fb_holes (n - 1) n (fun i => if f i < y then f i else f i - 1) (by
    intro i hi
    have b1 := h i hi
    have b2 := hne i hi
    by_cases q : f i < y
    · simp only [if_pos q]; omega
    · simp only [if_neg q]; omega) (by
    intro i j hij hj
    have b1 := hne i (by omega)
    have b2 := hne j hj
    have b3 := h2 i j hij hj
    by_cases q : f i < y
    · by_cases r : f j < y
      · simp only [if_pos q, if_pos r]; exact b3
      · simp only [if_pos q, if_neg r]; omega
    · by_cases r : f j < y
      · simp only [if_neg q, if_pos r]; omega
      · simp only [if_neg q, if_neg r]; omega)
  omega
/-! chains of deputies -/
def chN (dp : Nat → Int32) : Nat → Int32 → Int32
  | 0, x => x
  | n + 1, x => chN dp n (dp x.toNatClampNeg)
theorem chN_add (dp : Nat → Int32) : ∀ (a b : Nat) (x : Int32), chN dp (a + b) x = chN dp b (chN dp a x)
  | 0, b, x => by rw [Nat.zero_add]; rfl
  | a + 1, b, x => by
    rw [show a + 1 + b = (a + b) + 1 by omega]
    exact chN_add dp a b _
theorem nI_nn {j : Nat} (h : j < 2 ^ 31) : ¬ nI j < 0 := fun q => by
  have := Int32.lt_iff_toInt_lt.mp q
  rw [nI_toInt h] at this
  have z : (0 : Int32).toInt = 0 := rfl
  omega
theorem nI_m1n {j : Nat} (h : j < 2 ^ 31) : ¬ nI j = -1 := fun q => by
  have := congrArg Int32.toInt q
  rw [nI_toInt h] at this
  have z : (-1 : Int32).toInt = -1 := rfl
  omega
section ST
variable {aw dp : Nat → Int32} {np : Nat}
theorem st_1 (hn : np ≤ 8) (hok : ∀ q, q < np → okP np (dp q)) : ∀ (n : Nat) (x : Int32), okP np x → stE aw (stM aw dp n x) = stC aw dp np (n + 1) x := by
  have base : ∀ x, okP np x → ∀ y : Int32, (if wIn x np = true then (if aw x.toNatClampNeg = 0 then x else y) else -1) = if x < 0 then x else if aw x.toNatClampNeg = 0 then x else y := by
    intro x hx y
    rcases hx with h | ⟨j, h1, h2⟩
    · subst h
      rw [if_pos (show (-1 : Int32) < 0 by decide), if_neg (by rw [wIn_f1 (by decide)]; decide)]
    · subst h2
      rw [if_neg (nI_nn (by omega)), if_pos (wIn_nI h1 (by omega))]
  intro n
  induction n with
  | zero =>
    intro x hx
    rw [stC, base x hx]
    rfl
  | succ n ih =>
    intro x hx
    rw [stC, base x hx, stM]
    rcases hx with h | ⟨j, h1, h2⟩
    · subst h
      rw [if_pos (show (-1 : Int32) < 0 by decide), if_pos (show (-1 : Int32) < 0 by decide)]
      rfl
    · subst h2
      rw [if_neg (nI_nn (by omega)), if_neg (nI_nn (by omega)), nI_clamp (by omega)]
      by_cases ha : aw j = 0
      · rw [if_pos ha, if_pos ha, stE, if_neg (nI_nn (by omega)), nI_clamp (by omega), if_pos ha]
      · rw [if_neg ha, if_neg ha]
        exact ih _ (hok j h1)
theorem st_2 (hn : np ≤ 8) (hok : ∀ q, q < np → okP np (dp q)) : ∀ (n : Nat) (x : Int32), okP np x → stC aw dp np (n + 1) x = stC aw dp np n x ∨ ((∀ i, i < n → ∃ j, j < np ∧ chN dp i x = nI j ∧ ¬ aw j = 0) ∧ ∃ j, j < np ∧ chN dp n x = nI j ∧ aw j = 0) := by
  intro n
  induction n with
  | zero =>
    intro x hx
    rcases hx with h | ⟨j, h1, h2⟩
    · subst h
      left
      rw [stC, stC, if_neg (by rw [wIn_f1 (by decide)]; decide)]
    · by_cases ha : aw j = 0
      · exact Or.inr ⟨fun i hi => by omega, j, h1, h2, ha⟩
      · left
        subst h2
        rw [stC, stC, if_pos (wIn_nI h1 (by omega)), nI_clamp (by omega), if_neg ha, stC]
  | succ n ih =>
    intro x hx
    rcases hx with h | ⟨j, h1, h2⟩
    · subst h
      left
      rw [stC, if_neg (by rw [wIn_f1 (by decide)]; decide), stC, if_neg (by rw [wIn_f1 (by decide)]; decide)]
    · subst h2
      by_cases ha : aw j = 0
      · left
        rw [stC, if_pos (wIn_nI h1 (by omega)), nI_clamp (by omega), if_pos ha, stC, if_pos (wIn_nI h1 (by omega)), nI_clamp (by omega), if_pos ha]
      · have e1 : ∀ k, stC aw dp np (k + 1) (nI j) = stC aw dp np k (dp j) := fun k => by rw [stC, if_pos (wIn_nI h1 (by omega)), nI_clamp (by omega), if_neg ha]
        rw [e1, e1]
        rcases ih (dp j) (hok j h1) with h | ⟨h3, h4⟩
        · exact Or.inl h
        · right
          have e2 : ∀ k, chN dp (k + 1) (nI j) = chN dp k (dp j) := fun k => by rw [chN, nI_clamp (by omega)]
          refine ⟨fun i hi => ?_, by rw [e2]; exact h4⟩
          cases i with
          | zero => exact ⟨j, h1, rfl, ha⟩
          | succ i => rw [e2]; exact h3 i (by omega)
/-- the reference's and the class's stand-in are one -/
theorem st_eq (hn : np ≤ 8) (hok : ∀ q, q < np → okP np (dp q)) {p : Nat} (hp : p < np) : stR aw dp (nI p) = stC aw dp np 8 (nI p) := by
  have hx : okP np (nI p) := Or.inr ⟨p, hp, rfl⟩
  rw [stR, st_1 hn hok 8 _ hx]
  rcases st_2 (aw := aw) hn hok 8 _ hx with h | ⟨h1, j8, h2, h3, h4⟩
  · exact h
  · exfalso
    have hf : ∀ i, i < 9 → ∃ j, j < np ∧ chN dp i (nI p) = nI j := fun i hi => by
      by_cases q : i = 8
      · subst q; exact ⟨j8, h2, h3⟩
      · obtain ⟨j, a1, a2, a3⟩ := h1 i (by omega)
        exact ⟨j, a1, a2⟩
    obtain ⟨i, j, hij, hj, he⟩ := fb_twice (m := 8) (n := 9) (f := fun i => (chN dp i (nI p)).toNatClampNeg) (fun i hi => by
      obtain ⟨j, a1, a2⟩ := hf i hi
      show (chN dp i (nI p)).toNatClampNeg < 8
      rw [a2, nI_clamp (by omega)]
      omega) (by omega)
    obtain ⟨j1, b1, b2⟩ := hf i (by omega)
    obtain ⟨j2, d1, d2⟩ := hf j hj
    have he' : (chN dp i (nI p)).toNatClampNeg = (chN dp j (nI p)).toNatClampNeg := he
    rw [b2, d2, nI_clamp (by omega), nI_clamp (by omega)] at he'
    have e1 : chN dp i (nI p) = chN dp j (nI p) := by rw [b2, d2, he']
    have e2 : chN dp (i + (8 - j)) (nI p) = chN dp 8 (nI p) := by
      rw [chN_add, e1, ← chN_add, show j + (8 - j) = 8 by omega]
    obtain ⟨j3, c1, c2, c3⟩ := h1 (i + (8 - j)) (by omega)
    rw [c2, h3] at e2
    have := (nI_eq (by omega) (by omega)).mp e2
    subst this
    exact c3 h4
theorem st_self {p : Nat} (hn : np ≤ 8) (hp : p < np) (h : aw p = 0) : stC aw dp np 8 (nI p) = nI p := by
  rw [stC, if_pos (wIn_nI hp (by omega)), nI_clamp (by omega), if_pos h]
end ST
/-! a bit -/
def btW (s w : Int32) : Bool := (s >>> w).toBitVec.getLsbD 0
theorem and1_bt (x : Int32) : x &&& 1 = if x.toBitVec.getLsbD 0 = true then 1 else 0 := by
  rw [← Int32.toBitVec_inj, Int32.toBitVec_and]
  show x.toBitVec &&& 1#32 = _
  rw [BitVec.and_one_eq_setWidth_ofBool_getLsbD]
  cases h : x.toBitVec.getLsbD 0 <;> rfl
theorem bt_0 {s w : Int32} : (s >>> w) &&& 1 = 0 ↔ btW s w = false := by
  rw [and1_bt]
  unfold btW
  cases h : (s >>> w).toBitVec.getLsbD 0 <;> simp
theorem bt_1 {s w : Int32} : (s >>> w) &&& 1 = 1 ↔ btW s w = true := by
  rw [and1_bt]
  unfold btW
  cases h : (s >>> w).toBitVec.getLsbD 0 <;> simp
theorem bt_or (a b w : Int32) : btW (a ||| b) w = (btW a w || btW b w) := by
  unfold btW
  rw [Int32.shiftRight_or, Int32.toBitVec_or, BitVec.getLsbD_or]
theorem bt_z (w : Int32) : btW 0 w = false := bt_0.mp (by rw [Int32.zero_shiftRight]; rfl)
theorem rs_bt {R : Nat → Nat → Int32} {l : Nat} {x r0 w : Int32} : ∀ n, btW (rsC R l x r0 n) w = (btW r0 w || anyB (fun q => decide (stC (R 6) (R 5) l 8 (nI q) = x) && btW (R 1 q) w) n)
  | 0 => by rw [rsC, anyB, Bool.or_false]
  | n + 1 => by
    rw [rsC, anyB]
    by_cases h : stC (R 6) (R 5) l 8 (nI n) = x
    · rw [if_pos h, bt_or, rs_bt n, decide_eq_true h, Bool.true_and, Bool.or_assoc]
    · rw [if_neg h, rs_bt n, decide_eq_false h, Bool.false_and, Bool.or_false]
/-- may: the reference's answer is the class's -/
theorem may_eq {R : Nat → Nat → Nat → Int32} {Q : Nat → Nat → Int32} {np c p t r d : Nat} {e : Int32} (h6 : R 4 6 = Q 68) (h5 : R 4 5 = Q 67) (h1 : R 4 1 = Q 65) (hn : np ≤ 8) (hok : ∀ q, q < np → okP np (Q 67 q)) (hp : p < np) (h56 : Q 56 t = nI r) (hr : r < 8) (h57 : Q 57 t = nI d) (hd : d < 40) (hro : R 5 3 t = Q 46 (40 * r + d)) (he : (Q 48 (40 * r + d) = -1 ∧ e = -1) ∨ ∃ i, i < 40 ∧ Q 48 (40 * r + d) = nI i ∧ e = (dlM Q (nI r) (nI i) c).1) : mayT Q np c p t = alC R (nI p) (rsV R np p) t e := by
  unfold mayT mayM alC
  rw [h56, h57, nI_clamp (by omega), nI_clamp (by omega)]
  have e1 : (decide (Q 48 (40 * r + d) < 0) || !decide ((dlM Q (nI r) (Q 48 (40 * r + d)) c).1 = nI p)) = !decide (e = nI p) := by
    rcases he with ⟨a1, a2⟩ | ⟨i, a1, a2, a3⟩
    · rw [a1, a2, decide_eq_true (show (-1 : Int32) < 0 by decide), Bool.true_or, decide_eq_false (fun q => nI_m1n (by omega) q.symm)]
      rfl
    · rw [a2, a3, decide_eq_false (nI_nn (by omega)), Bool.false_or]
  rw [e1]
  congr 1
  rw [hro]
  have e2 : ∀ s : Int32, (!decide ((s >>> (Q 46 (40 * r + d) &&& 31)) &&& 1 = 0)) = btW s (Q 46 (40 * r + d) &&& 31) := fun s => by
    cases hb : btW s (Q 46 (40 * r + d) &&& 31) with
    | false => rw [decide_eq_true (bt_0.mpr hb)]; rfl
    | true => rw [decide_eq_false (fun q => by rw [bt_0.mp q] at hb; cases hb)]; rfl
  rw [e2]
  have e3 : anyB (Pms Q (nI p) (Q 46 (40 * r + d))) np = anyB (fun q => decide (stC (R 4 6) (R 4 5) np 8 (nI q) = nI p) && btW (R 4 1 q) (Q 46 (40 * r + d) &&& 31)) np := by
    have : ∀ q, q < np → Pms Q (nI p) (Q 46 (40 * r + d)) q = (decide (stC (R 4 6) (R 4 5) np 8 (nI q) = nI p) && btW (R 4 1 q) (Q 46 (40 * r + d) &&& 31)) := fun q hq => by
      unfold Pms
      rw [st_eq hn hok hq, h6, h5, h1]
      congr 1
      cases hb : btW (Q 65 q) (Q 46 (40 * r + d) &&& 31) with
      | true => exact decide_eq_true (bt_1.mpr hb)
      | false => exact decide_eq_false (fun z => by rw [bt_1.mp z] at hb; cases hb)
    rw [Bool.eq_iff_iff, anyB_iff, anyB_iff]
    constructor
    · rintro ⟨k, a1, a2⟩; exact ⟨k, a1, by rw [this k a1] at a2; exact a2⟩
    · rintro ⟨k, a1, a2⟩; exact ⟨k, a1, by rw [this k a1]; exact a2⟩
  rw [e3]
  unfold rsV
  rw [h6]
  by_cases h0 : Q 68 p = 0
  · rw [if_pos h0, decide_eq_true h0, Bool.true_and, rs_bt]
    rw [h6, h5]
    cases hb : btW (R 4 1 p) (Q 46 (40 * r + d) &&& 31) with
    | false => rw [Bool.false_or]
    | true =>
      rw [Bool.true_or, anyB_iff]
      exact ⟨p, hp, by rw [st_self hn hp h0, decide_eq_true rfl, hb]; rfl⟩
  · rw [if_neg h0, decide_eq_false h0, Bool.false_and, bt_z]
