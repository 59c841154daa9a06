/-! Tokens, for both sides: kd the kind of the token from p on (0 .. 8 the words, 9 a name, 10 a number, 11 .. 14 the signs, 15 the end, 16 bad), kv a name's key, kl its letters, nu a number's value (at most 1000), ad the place behind it -/
def ky (b : Nat → Int32) (s : Nat) : Nat → Nat
  | 0 => 0
  | i + 1 => 32 * ky b s i + ((b (s + i)).toInt - 96).toNat
def nvf (b : Nat → Int32) (s : Nat) : Nat → Nat
  | 0 => 0
  | i + 1 => min (10 * nvf b s i + ((b (s + i)).toInt - 48).toNat) 1000
def wdN (k : Nat) : Nat := if k = 143 then 0 else if k = 605573 then 1 else if k = 4773 then 2 else if k = 189619 then 3 else if k = 81544 then 4 else if k = 294 then 5 else if k = 176741 then 6 else if k = 1279278 then 7 else if k = 19636 then 8 else 9
def sgN (x : Int32) : Nat := if x = 123 then 11 else if x = 125 then 12 else if x = 59 then 13 else if x = 60 then 14 else 16
def kl (b : Nat → Int32) (L p : Nat) : Nat := nE b L (nS b L p) - nS b L p
def kv (b : Nat → Int32) (L p : Nat) : Nat := ky b (nS b L p) (kl b L p)
def nu (b : Nat → Int32) (L p : Nat) : Nat := nvf b (nS b L p) (kl b L p)
def ad (b : Nat → Int32) (L p : Nat) : Nat := nE b L (nS b L p)
def kd (b : Nat → Int32) (L p : Nat) : Nat := if nS b L p = L then 15 else if isLt (b (nS b L p)) = true then (if kl b L p ≤ 6 then wdN (kv b L p) else 16) else if isDg (b (nS b L p)) = true then 10 else sgN (b (nS b L p))
theorem scn_all {P : Int32 → Bool} {b : Nat → Int32} {L : Nat} : ∀ n p j, p ≤ j → j < scn P b L n p → P (b j) = true
  | 0, p, j, h1, h2 => by rw [scn] at h2; omega
  | n + 1, p, j, h1, h2 => by
    rw [scn] at h2
    by_cases q : p < L ∧ P (b p) = true
    · rw [if_pos q] at h2
      rcases Nat.lt_or_ge p j with r | r
      · exact scn_all n (p + 1) j (by omega) h2
      · have : p = j := by omega
        rw [← this]; exact q.2
    · rw [if_neg q] at h2; omega
theorem nS_le {b : Nat → Int32} {L p : Nat} (h : p ≤ L) : p ≤ nS b L p ∧ nS b L p ≤ L := scn_le _ _ h
theorem nE_le {b : Nat → Int32} {L s : Nat} (h : s ≤ L) : s ≤ nE b L s ∧ nE b L s ≤ L := by
  unfold nE
  by_cases e : s = L
  · rw [if_pos e]; omega
  · rw [if_neg e]
    by_cases e2 : isLt (b s) = true
    · rw [if_pos e2]; exact scn_le _ _ h
    · rw [if_neg e2]
      by_cases e3 : isDg (b s) = true
      · rw [if_pos e3]; exact scn_le _ _ h
      · rw [if_neg e3]; omega
theorem ad_le {b : Nat → Int32} {L p : Nat} (h : p ≤ L) : p ≤ ad b L p ∧ ad b L p ≤ L := by
  have h1 := nS_le (b := b) h
  have h2 := nE_le (b := b) (s := nS b L p) h1.2
  unfold ad
  omega
theorem nE_lt {b : Nat → Int32} {L s : Nat} (h : s < L) : s < nE b L s := by
  unfold nE
  rw [if_neg (by omega)]
  by_cases e2 : isLt (b s) = true
  · rw [if_pos e2, scn_go h e2]; exact (scn_le (P := isLt) (b := b) (L := L) (L - (s + 1)) (s + 1) (by omega)).1
  · rw [if_neg e2]
    by_cases e3 : isDg (b s) = true
    · rw [if_pos e3, scn_go h e3]; exact (scn_le (P := isDg) (b := b) (L := L) (L - (s + 1)) (s + 1) (by omega)).1
    · rw [if_neg e3]; omega
theorem ad_lt {b : Nat → Int32} {L p : Nat} (h : p ≤ L) (hk : kd b L p ≠ 15) : p < ad b L p := by
  have h1 := nS_le (b := b) h
  have : nS b L p ≠ L := fun e => hk (by unfold kd; rw [if_pos e])
  have := nE_lt (b := b) (s := nS b L p) (L := L) (by omega)
  unfold ad
  omega
theorem let_all {b : Nat → Int32} {L s : Nat} (hsl : ¬ s = L) (hlt : isLt (b s) = true) : ∀ i, s + i < nE b L s → isLt (b (s + i)) = true := by
  intro i hi
  rw [← nE_let hsl hlt] at hi
  exact scn_all _ _ _ (by omega) hi
theorem dig_all {b : Nat → Int32} {L s : Nat} (hsl : ¬ s = L) (hlt : isLt (b s) = false) (hdg : isDg (b s) = true) : ∀ i, s + i < nE b L s → isDg (b (s + i)) = true := by
  intro i hi
  rw [← nE_dig hsl hlt hdg] at hi
  exact scn_all _ _ _ (by omega) hi
theorem inR_d {x : Int32} {a c : Nat} (h : inR x a c = true) (ha : a < 1000) : ∃ d, d ≤ c - a ∧ x.toInt = (a + d : Nat) ∧ (x.toInt - a).toNat = d := by
  have h' := of_decide_eq_true h
  exact ⟨(x.toInt - a).toNat, by omega, by omega, rfl⟩
theorem l64_of {x : Int32} {n : Nat} (h : x.toInt = (n : Nat)) (hn : n < 2 ^ 31) : x.toInt64 = lN n := by
  have : x = nI n := Int32.toInt_inj.mp (by rw [h, nI_toInt hn])
  rw [this, nI_l hn]
theorem ky_lt {b : Nat → Int32} {s : Nat} : ∀ i, (∀ j, j < i → isLt (b (s + j)) = true) → ky b s i < 32 ^ i
  | 0, _ => by simp [ky]
  | i + 1, h => by
    have h1 := ky_lt i (fun j hj => h j (by omega))
    obtain ⟨d, h2, -, h4⟩ := inR_d (a := 97) (c := 122) (h i (by omega)) (by decide)
    have h' := of_decide_eq_true (h i (by omega))
    rw [ky, Nat.pow_succ]
    omega
theorem ky_ge {b : Nat → Int32} {s : Nat} : ∀ i, (∀ j, j < i + 1 → isLt (b (s + j)) = true) → 32 ^ i ≤ ky b s (i + 1)
  | 0, h => by
    have h' := of_decide_eq_true (h 0 (by omega))
    simp only [ky]
    omega
  | i + 1, h => by
    have h1 := ky_ge i (fun j hj => h j (by omega))
    rw [ky, Nat.pow_succ]
    omega
theorem tlf_ky {b : Nat → Int32} {s : Nat} : ∀ i, i ≤ 6 → (∀ j, j < i → isLt (b (s + j)) = true) → tlf b s i = lN (ky b s i)
  | 0, _, _ => rfl
  | i + 1, hi, h => by
    have h1 := tlf_ky i (by omega) (fun j hj => h j (by omega))
    have h' := of_decide_eq_true (h i (by omega))
    have h3 : (b (s + i)).toInt64 = lN (96 + ((b (s + i)).toInt - 96).toNat) := l64_of (by omega) (by omega)
    rw [tlf, if_pos (by omega), h1, h3, ky, show (32 : Int64) = lN 32 from rfl, show (96 : Int64) = lN 96 from rfl, lN_mul, lN_add, lN_sub (by omega)]
    congr 1
    omega
theorem wdM_nI {k : Nat} (h : k < 2 ^ 31) : wdM (nI k) = if wdN k = 9 then -1 else nI (wdN k) := by
  by_cases h0 : k = 143
  · subst h0; decide
  by_cases h1 : k = 605573
  · subst h1; decide
  by_cases h2 : k = 4773
  · subst h2; decide
  by_cases h3 : k = 189619
  · subst h3; decide
  by_cases h4 : k = 81544
  · subst h4; decide
  by_cases h5 : k = 294
  · subst h5; decide
  by_cases h6 : k = 176741
  · subst h6; decide
  by_cases h7 : k = 1279278
  · subst h7; decide
  by_cases h8 : k = 19636
  · subst h8; decide
  have e : ∀ a : Nat, a < 2 ^ 31 → ¬ k = a → ¬ nI k = nI a := fun a ha q z => q ((nI_eq h ha).mp z)
  have eN : wdN k = 9 := by simp [wdN, h0, h1, h2, h3, h4, h5, h6, h7, h8]
  rw [eN, if_pos rfl]
  unfold wdM
  rw [if_neg (show ¬ nI k = (143 : Int32) from e 143 (by decide) h0), if_neg (show ¬ nI k = (294 : Int32) from e 294 (by decide) h5), if_neg (show ¬ nI k = (4773 : Int32) from e 4773 (by decide) h2), if_neg (show ¬ nI k = (19636 : Int32) from e 19636 (by decide) h8), if_neg (show ¬ nI k = (81544 : Int32) from e 81544 (by decide) h4), if_neg (show ¬ nI k = (176741 : Int32) from e 176741 (by decide) h6), if_neg (show ¬ nI k = (189619 : Int32) from e 189619 (by decide) h3), if_neg (show ¬ nI k = (605573 : Int32) from e 605573 (by decide) h1), if_neg (show ¬ nI k = (1279278 : Int32) from e 1279278 (by decide) h7)]
theorem wdN_le (k : Nat) : wdN k ≤ 9 := by
  unfold wdN
  (repeat' split) <;> omega
theorem wdN_big {k : Nat} (h : 1279278 < k) : wdN k = 9 := by
  unfold wdN
  (repeat' split) <;> omega
theorem lN_32 (n : Nat) : (lN n).toInt32 = nI n := lN_i n
/-- the word that the reference finds in k letters -/
theorem wdK_eq {b : Nat → Int32} {s k : Nat} (h : ∀ j, j < k → isLt (b (s + j)) = true) (hk : k ≤ 6) : wdK b s k = if wdN (ky b s k) = 9 then -1 else nI (wdN (ky b s k)) := by
  unfold wdK
  have h1 := ky_lt k h
  by_cases h5 : k ≤ 5
  · rw [if_pos h5, tlf_ky k hk h, lN_32, wdM_nI (Nat.lt_of_lt_of_le h1 (Nat.le_trans (Nat.pow_le_pow_right (by decide) h5) (by decide)))]
  · have e6 : k = 6 := by omega
    subst e6
    have h7 : 32 ^ 5 ≤ ky b s 6 := ky_ge 5 h
    rw [if_neg h5, wdN_big (k := ky b s 6) (by omega), if_pos rfl]
/-! what the reference's sort and told say of the token -/
section TK
variable {b : Nat → Int32} {L p : Nat}
theorem tk_w (w : Nat) (hw : w < 9) : (tSo b L (nS b L p) = 2 ∧ tTo b L (nS b L p) = (nI w).toInt64) ↔ kd b L p = w := by
  unfold kd
  by_cases hsl : nS b L p = L
  · rw [if_pos hsl]
    constructor
    · intro h; have := h.1; unfold tSo at this; rw [if_pos hsl] at this; exact absurd this (by decide)
    · intro h; omega
  · rw [if_neg hsl]
    cases hlt : isLt (b (nS b L p)) with
    | true =>
      rw [if_pos rfl]
      have hi : nE b L (nS b L p) = nS b L p + kl b L p := by
        have := nE_lt (b := b) (s := nS b L p) (L := L)
        unfold kl
        have h3 : nS b L p ≤ nE b L (nS b L p) := by
          rcases Nat.lt_or_ge (nS b L p) L with q | q
          · exact Nat.le_of_lt (nE_lt q)
          · rw [← nE_let hsl hlt]
            exact Nat.le_of_eq (scn_stop (fun z => absurd z.1 (by omega)) _).symm
        omega
      have hall := let_all hsl hlt
      have hall2 : ∀ j, j < kl b L p → isLt (b (nS b L p + j)) = true := fun j hj => hall j (by omega)
      obtain ⟨t1, t2, -⟩ := tk_let (x := 0) hsl hlt hi
      rw [t1, t2]
      by_cases h6 : kl b L p ≤ 6
      · simp only [if_pos h6]
        rw [wdK_eq hall2 h6]
        have e : ky b (nS b L p) (kl b L p) = kv b L p := rfl
        rw [e]
        by_cases h9 : wdN (kv b L p) = 9
        · rw [if_pos h9, if_pos (by decide)]
          constructor
          · intro h; exact absurd h.1 (by decide)
          · intro h; omega
        · have h8 := wdN_le (kv b L p)
          rw [if_neg h9, if_neg (nI_pos (by omega)), if_neg (nI_pos (by omega))]
          constructor
          · intro h
            have := h.2
            rw [nI_l (by omega), nI_l (by omega)] at this
            exact (lN_eq (by omega) (by omega)).mp this
          · intro h; rw [h]; exact ⟨rfl, rfl⟩
      · simp only [if_neg h6]
        have : wdK b (nS b L p) (kl b L p) = -1 := by unfold wdK; rw [if_neg (by omega)]
        rw [this, if_pos (by decide)]
        constructor
        · intro h; exact absurd h.1 (by decide)
        · intro h; omega
    | false =>
      rw [if_neg (by decide)]
      cases hdg : isDg (b (nS b L p)) with
      | true =>
        rw [if_pos rfl]
        constructor
        · intro h; have := h.1; unfold tSo at this; rw [if_neg hsl, if_neg (wb_nt hlt), if_pos hdg] at this; exact absurd this (by decide)
        · intro h; omega
      | false =>
        rw [if_neg (by decide)]
        obtain ⟨-, t1, -, -⟩ := tk_sgn (x := 0) hsl hlt hdg
        rw [t1]
        constructor
        · intro h; have := h.1; split at this <;> exact absurd this (by decide)
        · intro h; unfold sgN at h; exfalso; (repeat' split at h) <;> omega
end TK
