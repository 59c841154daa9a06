/-! the token of the reference, all cases; the primitives of the parser for both sides -/
theorem tdf_nv {b : Nat → Int32} {s : Nat} : ∀ i, (∀ j, j < i → isDg (b (s + j)) = true) → ∃ v, tdf b s i = lN v ∧ v ≤ 99999 ∧ ((v < 1000 ∧ nvf b s i = v) ∨ (1000 ≤ v ∧ nvf b s i = 1000))
  | 0, _ => ⟨0, rfl, by decide, Or.inl ⟨by decide, rfl⟩⟩
  | i + 1, h => by
    obtain ⟨v, h1, h2, h3⟩ := tdf_nv i (fun j hj => h j (by omega))
    have h' := of_decide_eq_true (h i (by omega))
    have h4 : (b (s + i)).toInt64 = lN (48 + ((b (s + i)).toInt - 48).toNat) := l64_of (by omega) (by omega)
    have e9 : (9999 : Int64) < lN v ↔ 9999 < v := lN_lt (a := 9999) (b := v) (by decide) (by omega)
    by_cases h9 : 9999 < v
    · refine ⟨10000, ?_, by decide, Or.inr ⟨by decide, ?_⟩⟩
      · rw [tdf, h1, if_pos (e9.mpr h9)]; rfl
      · simp only [nvf]
        omega
    · refine ⟨10 * v + ((b (s + i)).toInt - 48).toNat, ?_, by omega, ?_⟩
      · rw [tdf, h1, if_neg (fun q => h9 (e9.mp q)), h4, show (10 : Int64) = lN 10 from rfl, show (48 : Int64) = lN 48 from rfl, lN_mul, lN_add, lN_sub (by omega)]
        congr 1
        omega
      · simp only [nvf]
        omega
section TA
variable {b : Nat → Int32} {L p : Nat}
/-- what the reference holds of the token from p on -/
theorem tk_all (hp : p ≤ L) : (kd b L p = 15 ∧ tSo b L (nS b L p) = 0) ∨ (∃ w, w < 9 ∧ kd b L p = w ∧ tSo b L (nS b L p) = 2 ∧ tTo b L (nS b L p) = lN w) ∨ (kd b L p = 9 ∧ tSo b L (nS b L p) = 1 ∧ tTo b L (nS b L p) = lN (kv b L p) ∧ (∀ x, tLe b L (nS b L p) x = nI (kl b L p)) ∧ 1 ≤ kl b L p ∧ kl b L p ≤ 6 ∧ kv b L p < 32 ^ kl b L p ∧ 32 ^ (kl b L p - 1) ≤ kv b L p) ∨
    (kd b L p = 10 ∧ tSo b L (nS b L p) = 3 ∧ ∃ v, tTo b L (nS b L p) = lN v ∧ v ≤ 99999 ∧ ((v < 1000 ∧ nu b L p = v) ∨ (1000 ≤ v ∧ nu b L p = 1000))) ∨ (∃ c : Nat, (c = 123 ∧ kd b L p = 11 ∨ c = 125 ∧ kd b L p = 12 ∨ c = 59 ∧ kd b L p = 13 ∨ c = 60 ∧ kd b L p = 14) ∧ tSo b L (nS b L p) = 4 ∧ tTo b L (nS b L p) = lN c) ∨ (kd b L p = 16 ∧ tSo b L (nS b L p) = 5) := by
  unfold kd
  by_cases hsl : nS b L p = L
  · left
    rw [if_pos hsl]
    exact ⟨rfl, by unfold tSo; rw [if_pos hsl]⟩
  · simp only [if_neg hsl]
    cases hlt : isLt (b (nS b L p)) with
    | true =>
      simp only [if_pos]
      have hle : nS b L p + 1 ≤ nE b L (nS b L p) ∨ L ≤ nS b L p := by
        rcases Nat.lt_or_ge (nS b L p) L with q | q
        · exact Or.inl (nE_lt q)
        · exact Or.inr q
      have hge : nS b L p ≤ nE b L (nS b L p) := by
        rcases hle with q | q
        · omega
        · rw [← nE_let hsl hlt]
          exact Nat.le_of_eq (scn_stop (fun z => absurd z.1 (by omega)) _).symm
      have hi : nE b L (nS b L p) = nS b L p + kl b L p := by unfold kl; omega
      have hall := let_all hsl hlt
      have hall2 : ∀ j, j < kl b L p → isLt (b (nS b L p + j)) = true := fun j hj => hall j (by omega)
      obtain ⟨t1, t2, -⟩ := tk_let (x := 0) hsl hlt hi
      by_cases h6 : kl b L p ≤ 6
      · simp only [if_pos h6] at t1 ⊢
        have e : ky b (nS b L p) (kl b L p) = kv b L p := rfl
        rw [wdK_eq hall2 h6, e] at t1 t2
        by_cases h9 : wdN (kv b L p) = 9
        · right; right; left
          rw [if_pos h9, if_pos (by decide)] at t1 t2
          have k1 : 1 ≤ kl b L p := by
            have := nE_lt (b := b) (s := nS b L p) (L := L) (by have := nS_le (b := b) hp; omega)
            omega
          refine ⟨h9, t1, ?_, fun x => (tk_let hsl hlt hi).2.2, k1, h6, ky_lt _ hall2, ?_⟩
          · rw [t2, tlf_ky _ h6 hall2]; rfl
          · have := ky_ge (b := b) (s := nS b L p) (kl b L p - 1) (fun j hj => hall2 j (by omega))
            rw [show kl b L p - 1 + 1 = kl b L p by omega] at this
            exact this
        · right; left
          have h8 := wdN_le (kv b L p)
          rw [if_neg h9, if_neg (nI_pos (by omega))] at t1 t2
          exact ⟨wdN (kv b L p), by omega, rfl, t1, by rw [t2, nI_l (by omega)]⟩
      · right; right; right; right; right
        simp only [if_neg h6] at t1 ⊢
        have : wdK b (nS b L p) (kl b L p) = -1 := by unfold wdK; rw [if_neg (by omega)]
        rw [this, if_pos (by decide)] at t1
        refine ⟨?_, t1⟩
        first | rfl | trivial
    | false =>
      cases hdg : isDg (b (nS b L p)) with
      | true =>
        right; right; right; left
        refine ⟨by simp, by unfold tSo; rw [if_neg hsl, if_neg (wb_nt hlt), if_pos hdg], ?_⟩
        have hall := dig_all hsl hlt hdg
        have hge : nS b L p ≤ nE b L (nS b L p) := by
          rw [← nE_dig hsl hlt hdg]
          rcases Nat.lt_or_ge (nS b L p) L with q | q
          · exact (scn_le (P := isDg) (b := b) _ _ (by omega)).1
          · exact Nat.le_of_eq (scn_stop (fun z => absurd z.1 (by omega)) _).symm
        have hi : nE b L (nS b L p) = nS b L p + kl b L p := by unfold kl; omega
        obtain ⟨v, h1, h2, h3⟩ := tdf_nv (b := b) (s := nS b L p) (kl b L p) (fun j hj => hall j (by omega))
        exact ⟨v, by rw [(tk_dig (x := 0) hsl hlt hdg hi).2.1, h1], h2, h3⟩
      | false =>
        simp only [if_neg (show ¬ (false = true) by decide)]
        obtain ⟨-, t1, t2, -⟩ := tk_sgn (x := 0) hsl hlt hdg
        by_cases s1 : b (nS b L p) = 123
        · right; right; right; right; left
          exact ⟨123, Or.inl ⟨rfl, by rw [sgN, if_pos s1]⟩, by rw [t1, show isSg (b (nS b L p)) = true by simp [isSg, s1], if_pos rfl], by rw [t2, s1]; rfl⟩
        · by_cases s2 : b (nS b L p) = 125
          · right; right; right; right; left
            exact ⟨125, Or.inr (Or.inl ⟨rfl, by rw [sgN, if_neg s1, if_pos s2]⟩), by rw [t1, show isSg (b (nS b L p)) = true by simp [isSg, s2], if_pos rfl], by rw [t2, s2]; rfl⟩
          · by_cases s3 : b (nS b L p) = 59
            · right; right; right; right; left
              exact ⟨59, Or.inr (Or.inr (Or.inl ⟨rfl, by rw [sgN, if_neg s1, if_neg s2, if_pos s3]⟩)), by rw [t1, show isSg (b (nS b L p)) = true by simp [isSg, s3], if_pos rfl], by rw [t2, s3]; rfl⟩
            · by_cases s4 : b (nS b L p) = 60
              · right; right; right; right; left
                exact ⟨60, Or.inr (Or.inr (Or.inr ⟨rfl, by rw [sgN, if_neg s1, if_neg s2, if_neg s3, if_pos s4]⟩)), by rw [t1, show isSg (b (nS b L p)) = true by simp [isSg, s4], if_pos rfl], by rw [t2, s4]; rfl⟩
              · right; right; right; right; right
                exact ⟨by rw [sgN, if_neg s1, if_neg s2, if_neg s3, if_neg s4], by rw [t1, show isSg (b (nS b L p)) = false by simp [isSg, s1, s2, s3, s4], if_neg (by decide)]⟩
end TA
/-- the state's token is the one from p on -/
def tokS (b : Nat → Int32) (L p : Nat) (F : Nat → Int32) (tl : Int64) : Prop := F 2 = nI (ad b L p) ∧ F 3 = nI (nS b L p) ∧ F 4 = tSo b L (nS b L p) ∧ tl = tTo b L (nS b L p) ∧ (kd b L p = 9 → F 6 = nI (kl b L p))
theorem tokS_nx {b : Nat → Int32} {L p : Nat} {F : Nat → Int32} (hp : p ≤ L) : tokS b L p (nxF b L p F) (nxT b L p) := by
  refine ⟨rfl, rfl, rfl, rfl, fun h => ?_⟩
  show tLe b L (nS b L p) (F 6) = _
  rcases tk_all (b := b) (L := L) (p := p) hp with ⟨h1, -⟩ | ⟨w, h1, h2, -⟩ | ⟨-, -, -, h3, -⟩ | ⟨h1, -⟩ | ⟨c, h1, -⟩ | ⟨h1, -⟩
  · omega
  · omega
  · exact h3 _
  · omega
  · omega
  · omega
