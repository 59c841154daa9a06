/-! done: both go on alike -/
section DS
variable {f v ck : Int32} {r t : Nat} {R : Nat → Nat → Int32}
theorem dS_o {k : Nat} (h49 : k ≠ 49) (h52 : k ≠ 52) (h53 : k ≠ 53) (h61 : k ≠ 61) (h63 : k ≠ 63) : dnS f v ck r t R k = R k := by
  have e : dn2 r 40 (dn1 r 4 R) k = R k := by
    simp only [dn2, dn1]
    rw [if_neg h53, if_neg h52]
  simp only [dnS]
  rw [w_up_ne _ _ h63, w_up_ne _ _ h61]
  by_cases hf : f = -1
  · rw [if_pos hf]; exact e
  · rw [if_neg hf, w_up_ne _ _ h49]; exact e
theorem dS_61 : dnS f v ck r t R 61 = upd (R 61) t 2 := by
  simp only [dnS]
  by_cases hf : f = -1
  · rw [if_pos hf]; rfl
  · rw [if_neg hf]; rfl
theorem dS_63 : dnS f v ck r t R 63 = upd (R 63) t ck := by
  simp only [dnS]
  by_cases hf : f = -1
  · rw [if_pos hf]; rfl
  · rw [if_neg hf]; rfl
theorem dS_52 {j : Nat} (hj : j < 4) : dnS f v ck r t R 52 j = R 49 (4 * r + j) := by
  have e : dn2 r 40 (dn1 r 4 R) 52 j = R 49 (4 * r + j) := by
    show (if j < 4 then R 49 (4 * r + (j - 0)) else R 52 j) = _
    rw [if_pos hj]; rfl
  simp only [dnS]
  by_cases hf : f = -1
  · rw [if_pos hf]; exact e
  · rw [if_neg hf]; exact e
theorem dS_53 {j : Nat} (hj : j < 40) : dnS f v ck r t R 53 j = R 50 (40 * r + j) := by
  have e : dn2 r 40 (dn1 r 4 R) 53 j = R 50 (40 * r + j) := by
    show (if j < 40 then R 50 (40 * r + (j - 0)) else R 53 j) = _
    rw [if_pos hj]; rfl
  simp only [dnS]
  by_cases hf : f = -1
  · rw [if_pos hf]; exact e
  · rw [if_neg hf]; exact e
theorem dS_49N (hf : f = -1) : dnS f v ck r t R 49 = R 49 := by
  simp only [dnS]
  rw [if_pos hf]; rfl
theorem dS_49F (hf : ¬ f = -1) : dnS f v ck r t R 49 = upd (R 49) (4 * r + f.toNatClampNeg) v := by
  simp only [dnS]
  rw [if_neg hf]; rfl
theorem dB_o {k : Nat} (h49 : k ≠ 49) (h50 : k ≠ 50) (h51 : k ≠ 51) (h61 : k ≠ 61) (h63 : k ≠ 63) : dnB r t R k = R k := by
  simp only [dnB, dn4, dn3]
  rw [if_neg h50, if_neg h49, w_up_ne _ _ h51, w_up_ne _ _ h63, w_up_ne _ _ h61]
theorem dB_61 : dnB r t R 61 = upd (R 61) t 1 := rfl
theorem dB_63 : dnB r t R 63 = upd (R 63) t (-1) := rfl
theorem dB_51 : dnB r t R 51 = upd (R 51) r 0 := rfl
theorem dB_49 (j : Nat) : dnB r t R 49 j = if 4 * r ≤ j ∧ j < 4 * r + 4 then R 52 (0 + (j - 4 * r)) else R 49 j := rfl
theorem dB_50 (j : Nat) : dnB r t R 50 j = if 40 * r ≤ j ∧ j < 40 * r + 40 then R 53 (0 + (j - 40 * r)) else R 50 j := rfl
end DS
theorem bz_le : ∀ t : tT, okT t = true → ∀ σ : wS, bzT t σ ∨ idW t σ → ∀ e, e ∈ dsT t → σ.2.2.2.1 e ≤ 1 := by
  apply T_ind2
  · intro v σ h e he; cases he
  · intro d σ h e he
    have : e = d := List.mem_singleton.mp he
    subst this
    rcases h with h | h
    · have h' : σ.2.2.2.1 e = 1 := h
      omega
    · rw [h.2 e he]; omega
  · intro x σ h e he; cases he
  · intro a b oa ob ia ib σ h e he
    have ha : bzT a σ ∨ idW a σ := by
      rcases h with (h | h) | h
      · exact Or.inl h.1
      · exact Or.inr h.1
      · exact Or.inr (id_mo apl apl h)
    have hb : bzT b σ ∨ idW b σ := by
      rcases h with (h | h) | h
      · exact Or.inr h.2
      · exact Or.inl h.2
      · exact Or.inr (id_mo apr apr h)
    exact (List.mem_append.mp he).elim (ia σ ha e) (ib σ hb e)
  · intro x a oa ia σ h e he; exact ia σ h e he
  · intro f a b oa ob ia ib σ h e he
    have ha : bzT a σ ∨ idW a σ := by
      rcases h with ⟨-, ⟨-, h1, h2⟩ | ⟨-, ⟨h1, h2⟩ | ⟨h1, h2⟩⟩⟩ | h
      · exact Or.inl h1
      · exact Or.inl h1
      · exact Or.inr h1
      · exact Or.inr (id_mo cpl apl h)
    have hb : bzT b σ ∨ idW b σ := by
      rcases h with ⟨-, ⟨-, h1, h2⟩ | ⟨-, ⟨h1, h2⟩ | ⟨h1, h2⟩⟩⟩ | h
      · exact Or.inl h2
      · exact Or.inr h2
      · exact Or.inl h2
      · exact Or.inr (id_mo cpr apr h)
    exact (List.mem_append.mp he).elim (ia σ ha e) (ib σ hb e)
  · intro x a b oa ob ia ib σ h e he
    have ha : bzT a σ ∨ idW a σ := by
      rcases h with (h | h) | h
      · exact Or.inl h.1
      · exact Or.inr h.1
      · exact Or.inr (id_mo apl apl h)
    have hb : bzT b σ ∨ idW b σ := by
      rcases h with (h | h) | h
      · exact Or.inr h.2
      · exact Or.inl h.2
      · exact Or.inr (id_mo apr apr h)
    exact (List.mem_append.mp he).elim (ia σ ha e) (ib σ hb e)
theorem ps_lt : ∀ t : tT, okT t = true → ∀ e, e ∈ dsT t → (∀ k, psC t k e < k + szC t) ∧ ∀ k, psR t k e < k + szR t := by
  apply T_ind2
  · intro v e he; cases he
  · intro d e he; exact ⟨fun k => Nat.lt_succ_self k, fun k => Nat.lt_succ_self k⟩
  · intro x e he; cases he
  · intro a b oa ob ia ib e he
    refine ⟨fun k => ?_, fun k => ?_⟩
    · show (if e ∈ dsT a then psC a k e else psC b (k + szC a) e) < k + (szC a + szC b)
      by_cases h : e ∈ dsT a
      · rw [if_pos h]; have := (ia e h).1 k; omega
      · rw [if_neg h]; have := (ib e ((List.mem_append.mp he).resolve_left h)).1 (k + szC a); omega
    · show (if e ∈ dsT a then psR a k e else psR b (k + szR a) e) < k + (szR a + szR b)
      by_cases h : e ∈ dsT a
      · rw [if_pos h]; have := (ia e h).2 k; omega
      · rw [if_neg h]; have := (ib e ((List.mem_append.mp he).resolve_left h)).2 (k + szR a); omega
  · intro x a oa ia e he
    refine ⟨fun k => ?_, fun k => ?_⟩
    · show psC a (k + 2) e < k + (szC a + 3)
      have := (ia e he).1 (k + 2); omega
    · show psR a k e < k + (szR a + 1)
      have := (ia e he).2 k; omega
  · intro f a b oa ob ia ib e he
    refine ⟨fun k => ?_, fun k => ?_⟩
    · show (if e ∈ dsT a then psC a (k + 1) e else psC b (k + szC a + 2) e) < k + (szC a + szC b + 3)
      by_cases h : e ∈ dsT a
      · rw [if_pos h]; have := (ia e h).1 (k + 1); omega
      · rw [if_neg h]; have := (ib e ((List.mem_append.mp he).resolve_left h)).1 (k + szC a + 2); omega
    · show (if e ∈ dsT a then psR a (k + 1) e else psR b (k + szR a + 2) e) < k + (szR a + szR b + 3)
      by_cases h : e ∈ dsT a
      · rw [if_pos h]; have := (ia e h).2 (k + 1); omega
      · rw [if_neg h]; have := (ib e ((List.mem_append.mp he).resolve_left h)).2 (k + szR a + 2); omega
  · intro x a b oa ob ia ib e he
    refine ⟨fun k => ?_, fun k => ?_⟩
    · show (if e ∈ dsT a then psC a (k + 1) e else psC b (k + szC a + 2) e) < k + (szC a + szC b + 2)
      by_cases h : e ∈ dsT a
      · rw [if_pos h]; have := (ia e h).1 (k + 1); omega
      · rw [if_neg h]; have := (ib e ((List.mem_append.mp he).resolve_left h)).1 (k + szC a + 2); omega
    · show (if e ∈ dsT a then psR a (k + 1) e else psR b (k + szR a + 2) e) < k + (szR a + szR b + 2)
      by_cases h : e ∈ dsT a
      · rw [if_pos h]; have := (ia e h).2 (k + 1); omega
      · rw [if_neg h]; have := (ib e ((List.mem_append.mp he).resolve_left h)).2 (k + szR a + 2); omega
section DL
variable {R9 R92 : Nat → Nat → Int32} {w v : Int32} {c dm t : Nat}
theorem dlM_lt (h : ∀ t, t < c → R9 61 t = 2 → ∃ k, k < dm ∧ R9 70 t = nI k) : ∀ n, n ≤ c → (dlM R9 w v n).2 = -1 ∨ ∃ k, k < dm ∧ (dlM R9 w v n).2 = nI k
  | 0, _ => Or.inl rfl
  | n + 1, hn => by
    rw [dlM]
    by_cases hc : R9 56 n = w ∧ R9 57 n = v ∧ R9 61 n = 2 ∧ (dlM R9 w v n).2 < R9 70 n
    · rw [if_pos hc]; exact Or.inr (h n (by omega) hc.2.2.1)
    · rw [if_neg hc]; exact dlM_lt h n (by omega)
theorem dlM_s1 (e56 : R92 56 = R9 56) (e57 : R92 57 = R9 57) (e62 : R92 62 = R9 62) (e61 : R92 61 = upd (R9 61) t 2) (e70 : R92 70 = upd (R9 70) t (nI dm)) (hst : ¬ R9 61 t = 2) (hno : ¬ (R9 56 t = w ∧ R9 57 t = v)) : ∀ n, dlM R92 w v n = dlM R9 w v n
  | 0 => rfl
  | n + 1 => by
    rw [dlM, dlM, dlM_s1 e56 e57 e62 e61 e70 hst hno n, e56, e57, e62, e61, e70]
    by_cases e : n = t
    · subst e
      rw [if_neg (fun z => hno ⟨z.1, z.2.1⟩), if_neg (fun z => hno ⟨z.1, z.2.1⟩)]
    · rw [upd_ne e, upd_ne e]
theorem dlM_s2 (e56 : R92 56 = R9 56) (e57 : R92 57 = R9 57) (e62 : R92 62 = R9 62) (e61 : R92 61 = upd (R9 61) t 2) (e70 : R92 70 = upd (R9 70) t (nI dm)) (hst : ¬ R9 61 t = 2) (hw : R9 56 t = w) (hv : R9 57 t = v) (hdm : dm < 2 ^ 31) (h : ∀ t, t < c → R9 61 t = 2 → ∃ k, k < dm ∧ R9 70 t = nI k) : ∀ n, n ≤ c → (n ≤ t → dlM R92 w v n = dlM R9 w v n) ∧ (t < n → dlM R92 w v n = (R9 62 t, nI dm))
  | 0, _ => ⟨fun _ => rfl, fun z => by omega⟩
  | n + 1, hn => by
    obtain ⟨i1, i2⟩ := dlM_s2 e56 e57 e62 e61 e70 hst hw hv hdm h n (by omega)
    refine ⟨fun z => ?_, fun z => ?_⟩
    · rw [dlM, dlM, i1 (by omega), e56, e57, e62, e61, e70, upd_ne (by omega), upd_ne (by omega)]
    · rw [dlM]
      by_cases e : n = t
      · subst e
        have hlt : (dlM R9 w v n).2 < nI dm := by
          rcases dlM_lt (w := w) (v := v) h n (by omega) with q | ⟨k, q1, q2⟩
          · rw [q]
            rw [Int32.lt_iff_toInt_lt, nI_toInt hdm]
            have z : (-1 : Int32).toInt = -1 := rfl
            omega
          · rw [q2]; exact nI_lt q1 hdm
        rw [i1 (Nat.le_refl _), e56, e57, e62, e61, e70, w_upd_self, w_upd_self, if_pos ⟨hw, hv, rfl, hlt⟩]
      · have i3 := i2 (by omega)
        rw [if_neg ?_]
        · exact i3
        · intro y
          have y3 := y.2.2.1
          have y4 := y.2.2.2
          rw [e61, upd_ne e] at y3
          rw [i3, e70, upd_ne e] at y4
          obtain ⟨k, q1, q2⟩ := h n (by omega) y3
          rw [q2] at y4
          have y5 : nI dm < nI k := y4
          rw [Int32.lt_iff_toInt_lt, nI_toInt hdm, nI_toInt (by omega)] at y5
          omega
end DL
theorem kpR_cv {a r c t : Nat} {du ps : Nat → Nat} {x : wS × Bool} {R0 Rm gR : Nat → Nat → Int32} {g : Nat → Int32} (K : kpR a r c du ps x R0 gR) (h1 : ∀ k, k ≠ 49 → k ≠ 70 → Rm k = R0 k) (h2 : ∀ j, ¬ (4 * r ≤ j ∧ j < 4 * r + 4) → Rm 49 j = R0 49 j) (h3 : Rm 70 = g) : kpR a r c du ps x Rm (va_up gR 70 g) := by
  obtain ⟨K1, K2, K3, K4, K5, ⟨K6, K6'⟩, K7, K8⟩ := K
  refine ⟨fun k k1 k2 k3 k4 k5 => ?_, K2, fun j hj => ?_, K4, fun j hj => ?_, ⟨K6, fun j hj => ?_⟩, fun k hk j hj => ?_, K8⟩
  · by_cases e : k = 70
    · subst e; rw [w_up_self, h3]
    · rw [w_up_ne _ _ e, h1 k k1 e]; exact K1 k k1 k2 k3 k4 k5
  · rw [h2 j hj]; exact K3 j hj
  · rw [h1 50 (by decide) (by decide)]; exact K5 j hj
  · rw [h1 51 (by decide) (by decide)]; exact K6' j hj
  · rw [w_up_ne _ _ (by omega), h1 k (by omega) (by omega)]; exact K7 k hk j hj
