/-! what comes, counted; tasks kept by due -/
def ctL (e : Nat) (N : List Nat) : Nat := cntB (fun i => decide (N[i]? = some e)) N.length
theorem ctL_nil (e : Nat) : ctL e [] = 0 := rfl
theorem ctL_snoc (e d : Nat) (N : List Nat) : ctL e (N ++ [d]) = ctL e N + (if d = e then 1 else 0) := by
  unfold ctL
  rw [List.length_append]
  show cntB (fun i => decide ((N ++ [d])[i]? = some e)) (N.length + 1) = _
  rw [cntB]
  congr 1
  · exact cntB_cg (fun k hk => by show decide ((N ++ [d])[k]? = some e) = _; rw [List.getElem?_append_left hk])
  · have e1 : (N ++ [d])[N.length]? = some d := by rw [List.getElem?_append_right (Nat.le_refl _), Nat.sub_self]; rfl
    rw [e1]
    by_cases h : d = e
    · rw [if_pos h, if_pos (by rw [h]; exact decide_eq_true rfl)]
    · rw [if_neg h, if_neg (by rw [decide_eq_false (fun z => h (Option.some.inj z))]; decide)]
/-- each do that came is counted -/
def ctE (σ2 σ : wS) : Prop := ∀ e, σ2.2.2.2.1 e + ctL e σ.2.2.2.2 = σ.2.2.2.1 e + ctL e σ2.2.2.2.2
theorem ctE_rf (σ : wS) : ctE σ σ := fun _ => rfl
theorem ctE_tr {σ3 σ2 σ : wS} (h1 : ctE σ3 σ2) (h2 : ctE σ2 σ) : ctE σ3 σ := fun e => by have a := h1 e; have b := h2 e; omega
theorem ctE_eq {σ2 σ : wS} (h : σ2.2.2.2 = σ.2.2.2) : ctE σ2 σ := fun e => by rw [h]
theorem ctE_jn (f : Nat) (σ : wS) : ctE (jn f σ).1 σ := ctE_eq (jn_cm f σ).1
theorem ctE_cm (d : Nat) (σ : wS) : ctE (cmS d σ) σ := fun e => by
  show va_up σ.2.2.2.1 d (σ.2.2.2.1 d + 1) e + ctL e σ.2.2.2.2 = σ.2.2.2.1 e + ctL e (σ.2.2.2.2 ++ [d])
  rw [ctL_snoc]
  by_cases h : e = d
  · rw [h, w_up_self, if_pos rfl]; omega
  · rw [w_up_ne _ _ h, if_neg (fun z => h z.symm)]; omega
theorem en_ct : ∀ t : tT, okT t = true → ∀ σ : wS, ctE (enT t σ).1 σ := by
  apply T_ind2
  · intro v σ; exact ctE_rf _
  · intro d σ; exact ctE_cm d σ
  · intro x σ; exact ctE_eq rfl
  · intro a b oa ob ia ib σ
    rw [en_seq]
    split
    · exact ctE_tr (ib _) (ia σ)
    · exact ia σ
  · intro x a oa ia σ; exact ia σ
  · intro f a b oa ob ia ib σ
    have h1 : ctE (en1 f a σ) σ := by
      unfold en1
      split
      · exact ctE_tr (ctE_jn f _) (ctE_tr (ia _) (ctE_eq rfl))
      · exact ctE_tr (ia _) (ctE_eq rfl)
    rw [en_bo]
    split
    · exact ctE_tr (ctE_jn f _) (ctE_tr (ib _) h1)
    · exact ctE_tr (ib _) h1
  · intro x a b oa ob ia ib σ
    rw [en_if]
    split
    · exact ia σ
    · exact ib σ
theorem re_ct (d : Nat) : ∀ t : tT, okT t = true → ∀ σ : wS, ctE (reT d t σ).1 σ := by
  apply T_ind2
  · intro v σ; exact ctE_rf _
  · intro e σ; exact ctE_rf _
  · intro x σ; exact ctE_rf _
  · intro a b oa ob ia ib σ
    rw [re_seq]
    split
    · split
      · exact ctE_tr (en_ct b ob _) (ia σ)
      · exact ia σ
    · exact ib σ
  · intro x a oa ia σ
    rw [re_ag]
    split
    · split
      · exact ctE_tr (en_ct a oa _) (ia σ)
      · exact ia σ
    · exact ia σ
  · intro f a b oa ob ia ib σ
    rw [re_bo]
    split
    · split
      · exact ctE_tr (ctE_jn f _) (ia σ)
      · exact ia σ
    · split
      · exact ctE_tr (ctE_jn f _) (ib σ)
      · exact ib σ
  · intro x a b oa ob ia ib σ
    rw [re_if]
    split
    · exact ia σ
    · exact ib σ
/-! by due -/
theorem pb_1 {du : Nat → Int32} {l t : Nat} {bd : Nat → Nat} (hl : l < 2 ^ 31) : ∀ (k : Nat) (g : Nat → Int32), (∀ j, j < k → g j = nI (bd j) ∧ bd j < l) → ∃ p, p ≤ k ∧ (∀ j, p ≤ j → j < k → du t < du (bd j)) ∧ (p = 0 ∨ ¬ du t < du (bd (p - 1))) ∧ ∀ j, pbD du l t k g j = if j = p then nI t else if p < j ∧ j ≤ k then g (j - 1) else g j := by
  intro k
  induction k with
  | zero =>
    intro g h
    refine ⟨0, Nat.le_refl _, fun j h1 h2 => by omega, Or.inl rfl, fun j => ?_⟩
    rw [pbD]
    by_cases e : j = 0
    · rw [if_pos e, e, w_upd_self]
    · rw [if_neg e, if_neg (by omega), upd_ne e]
  | succ k ih =>
    intro g h
    obtain ⟨e1, e2⟩ := h k (by omega)
    have e3 : (g k).toNatClampNeg = bd k := by rw [e1, nI_clamp (by omega)]
    rw [pbD, e3]
    by_cases hc : du t < du (bd k)
    · rw [if_pos (by rw [e1, wIn_nI e2 hl, decide_eq_true hc]; rfl)]
      obtain ⟨p, p1, p2, p3, p4⟩ := ih (upd g (k + 1) (g k)) (fun j hj => by rw [upd_ne (by omega)]; exact h j (by omega))
      refine ⟨p, by omega, fun j h1 h2 => ?_, p3, fun j => ?_⟩
      · by_cases e : j = k
        · rw [e]; exact hc
        · exact p2 j h1 (by omega)
      · rw [p4 j]
        by_cases e : j = p
        · rw [if_pos e, if_pos e]
        · rw [if_neg e, if_neg e]
          by_cases e4 : p < j ∧ j ≤ k
          · rw [if_pos e4, if_pos (by omega), upd_ne (by omega)]
          · rw [if_neg e4]
            by_cases e5 : j = k + 1
            · rw [if_pos (by omega), e5, w_upd_self]; rfl
            · rw [if_neg (by omega), upd_ne e5]
    · rw [if_neg (by rw [decide_eq_false hc, Bool.and_false]; decide)]
      refine ⟨k + 1, Nat.le_refl _, fun j h1 h2 => by omega, Or.inr hc, fun j => ?_⟩
      by_cases e : j = k + 1
      · rw [if_pos e, e, w_upd_self]
      · rw [if_neg e, if_neg (by omega), upd_ne e]
def srt (du : Nat → Int32) (g : Nat → Int32) (c : Nat) (bd : Nat → Nat) : Prop := (∀ k, k < c → g k = nI (bd k) ∧ bd k < c) ∧ ∀ i j, i < j → j < c → du (bd i) < du (bd j) ∨ (du (bd i) = du (bd j) ∧ bd i < bd j)
theorem pb_srt {du du0 : Nat → Int32} {t : Nat} {g : Nat → Int32} {bd : Nat → Nat} (ht : t < 2 ^ 31) (h : srt du0 g t bd) (hd : ∀ j, j < t → du j = du0 j) : ∃ bd', srt du (pbD du t t t g) (t + 1) bd' := by
  obtain ⟨p, p1, p2, p3, p4⟩ := pb_1 (du := du) (t := t) (bd := bd) ht t g h.1
  have hs : ∀ i j, i < j → j < t → du (bd i) < du (bd j) ∨ (du (bd i) = du (bd j) ∧ bd i < bd j) := fun i j h1 h2 => by
    rw [hd _ (h.1 i (by omega)).2, hd _ (h.1 j h2).2]; exact h.2 i j h1 h2
  have hbt : ∀ j, j < t → bd j < t := fun j hj => (h.1 j hj).2
  refine ⟨fun j => if j = p then t else if p < j then bd (j - 1) else bd j, fun k hk => ?_, fun i j h1 h2 => ?_⟩
  · show pbD du t t t g k = nI (if k = p then t else if p < k then bd (k - 1) else bd k) ∧ (if k = p then t else if p < k then bd (k - 1) else bd k) < t + 1
    rw [p4 k]
    by_cases e : k = p
    · rw [if_pos e, if_pos e]; exact ⟨rfl, by omega⟩
    · rw [if_neg e, if_neg e]
      by_cases e2 : p < k
      · rw [if_pos ⟨e2, by omega⟩, if_pos e2]
        have := h.1 (k - 1) (by omega)
        exact ⟨this.1, by omega⟩
      · rw [if_neg (by omega), if_neg e2]
        have := h.1 k (by omega)
        exact ⟨this.1, by omega⟩
  · show du (if i = p then t else if p < i then bd (i - 1) else bd i) < du (if j = p then t else if p < j then bd (j - 1) else bd j) ∨ (du (if i = p then t else if p < i then bd (i - 1) else bd i) = du (if j = p then t else if p < j then bd (j - 1) else bd j) ∧ (if i = p then t else if p < i then bd (i - 1) else bd i) < (if j = p then t else if p < j then bd (j - 1) else bd j))
    by_cases ei : i = p
    · rw [if_pos ei, if_neg (by omega), if_pos (by omega)]
      exact Or.inl (p2 (j - 1) (by omega) (by omega))
    · rw [if_neg ei]
      by_cases ei2 : p < i
      · rw [if_pos ei2, if_neg (by omega), if_pos (by omega)]
        exact hs (i - 1) (j - 1) (by omega) (by omega)
      · rw [if_neg ei2]
        by_cases ej : j = p
        · rw [if_pos ej]
          have hb := hbt i (by omega)
          have hle : du (bd i) ≤ du t := by
            have h0 : ¬ du t < du (bd (p - 1)) := p3.resolve_left (by omega)
            have h1' := Int32.not_lt.mp h0
            by_cases e3 : i = p - 1
            · rw [e3]; exact h1'
            · rcases hs i (p - 1) (by omega) (by omega) with z | ⟨z, -⟩
              · exact Int32.le_trans (Int32.le_of_lt z) h1'
              · rw [z]; exact h1'
          by_cases e4 : du (bd i) = du t
          · exact Or.inr ⟨e4, hb⟩
          · exact Or.inl (Int32.lt_of_le_of_ne hle e4)
        · rw [if_neg ej]
          by_cases ej2 : p < j
          · rw [if_pos ej2]
            by_cases e5 : i = j - 1
            · omega
            · exact hs i (j - 1) (by omega) (by omega)
          · rw [if_neg ej2]
            exact hs i j h1 (by omega)
section KW
variable {R5 : Nat → Nat → Int32} {c : Nat} {a' rn : Int32} {cm : Nat → Nat} {ro dh : Nat → Int32}
theorem kw_old : ∀ (k r j : Nat), 1 ≤ r → r ≤ 8 → j < c → kwR R5 c a' rn cm ro dh k r j = R5 r j
  | 0, r, j, _, _, _ => rfl
  | k + 1, r, j, h1, h2, h3 => by
    have ih := kw_old k r j h1 h2 h3
    have : r = 1 ∨ r = 2 ∨ r = 3 ∨ r = 4 ∨ r = 5 ∨ r = 6 ∨ r = 7 ∨ r = 8 := by omega
    rw [← ih]
    rcases this with rfl | rfl | rfl | rfl | rfl | rfl | rfl | rfl <;> exact upd_ne (by omega)
theorem kw_new : ∀ (k i : Nat), i < k → kwR R5 c a' rn cm ro dh k 1 (c + i) = rn ∧ kwR R5 c a' rn cm ro dh k 2 (c + i) = nI (cm i) ∧ kwR R5 c a' rn cm ro dh k 3 (c + i) = ro (cm i) ∧ kwR R5 c a' rn cm ro dh k 4 (c + i) = a' ∧ kwR R5 c a' rn cm ro dh k 5 (c + i) = dh (cm i) ∧ kwR R5 c a' rn cm ro dh k 6 (c + i) = 0 ∧ kwR R5 c a' rn cm ro dh k 7 (c + i) = -1 ∧ kwR R5 c a' rn cm ro dh k 8 (c + i) = -1
  | 0, i, h => by omega
  | k + 1, i, h => by
    by_cases e : i = k
    · subst e
      exact ⟨w_upd_self _ _ _, w_upd_self _ _ _, w_upd_self _ _ _, w_upd_self _ _ _, w_upd_self _ _ _, w_upd_self _ _ _, w_upd_self _ _ _, w_upd_self _ _ _⟩
    · obtain ⟨h1, h2, h3, h4, h5, h6, h7, h8⟩ := kw_new k i (by omega)
      have ne : c + i ≠ c + k := by omega
      exact ⟨(upd_ne ne).trans h1, (upd_ne ne).trans h2, (upd_ne ne).trans h3, (upd_ne ne).trans h4, (upd_ne ne).trans h5, (upd_ne ne).trans h6, (upd_ne ne).trans h7, (upd_ne ne).trans h8⟩
theorem kw_srt {bd : Nat → Nat} : ∀ (k : Nat), c + k < 2 ^ 31 → srt (R5 5) (R5 9) c bd → ∃ bd', srt (kwR R5 c a' rn cm ro dh k 5) (kwR R5 c a' rn cm ro dh k 9) (c + k) bd'
  | 0, _, h => ⟨bd, h⟩
  | k + 1, hk, h => by
    obtain ⟨bd1, h1⟩ := kw_srt k (by omega) h
    exact pb_srt (du := upd (kwR R5 c a' rn cm ro dh k 5) (c + k) (dh (cm k))) (by omega) h1 (fun j hj => upd_ne (by omega))
end KW
