/-! the reference's walk is the abstract one -/
def psR : tT → Nat → Nat → Nat
  | .add a b, k, d => if d ∈ dsT a then psR a k d else psR b (k + szR a) d
  | .pow a _, k, d => psR a k d
  | .sub (.pow a _) b, k, d => if d ∈ dsT a then psR a (k + 1) d else psR b (k + szR a + 2) d
  | .mul (.pow a _) b, k, d => if d ∈ dsT a then psR a (k + 1) d else psR b (k + szR a + 2) d
  | _, k, _ => k
section GR
variable {a r c0 l : Nat} {du ps : Nat → Nat} {R0 : Nat → Nat → Int32}
def SR (a r c0 : Nat) (du ps : Nat → Nat) (R0 : Nat → Nat → Int32) (σ : wS) (R : Nat → Nat → Int32) : Prop :=
  (∀ k, k ≠ 49 → k ≠ 50 → ¬ (56 ≤ k ∧ k ≤ 63) → k ≠ 69 → R k = R0 k) ∧ (∀ i, i < 4 → R 49 (4 * r + i) = σ.1 i) ∧ (∀ j, ¬ (4 * r ≤ j ∧ j < 4 * r + 4) → R 49 j = R0 49 j) ∧ (∀ f, f < 40 → R 50 (40 * r + f) = nI (σ.2.1 f)) ∧ (∀ j, ¬ (40 * r ≤ j ∧ j < 40 * r + 40) → R 50 j = R0 50 j) ∧ (∀ k, 56 ≤ k ∧ k ≤ 63 → ∀ j, j < c0 → R k j = R0 k j) ∧
  ∀ i d, σ.2.2.2.2[i]? = some d → R 56 (c0 + i) = nI r ∧ R 57 (c0 + i) = nI d ∧ R 58 (c0 + i) = nI (ps d) ∧ R 59 (c0 + i) = nI a ∧ R 60 (c0 + i) = nI (wEn (wHr a + du d - 1)) ∧ R 61 (c0 + i) = 0 ∧ R 62 (c0 + i) = -1 ∧ R 63 (c0 + i) = -1
def RG (a r : Nat) (p : Option Nat) (hg c : Nat) (R : Nat → Nat → Int32) (Fin : gT → Prop) : Prop := ∃ n x, gM a r n p hg c R = some x ∧ Fin x
def HR (r l : Nat) (du ps : Nat → Nat) (R0 : Nat → Nat → Int32) (t : tT) (k : Nat) : Prop := iR (fun j => R0 42 (200 * r + j)) (fun j => R0 43 (200 * r + j)) (fun j => R0 44 (200 * r + j)) (fun j => R0 45 (200 * r + j)) t k ∧ k + szR t ≤ l ∧ (∀ d, d ∈ dsT t → d < 40 ∧ R0 47 (40 * r + d) = nI (du d) ∧ 1 ≤ du d ∧ du d ≤ 99 ∧ ps d = psR t k d + 1) ∧ (∀ f, f ∈ fkT t → f < 40) ∧ lbT t = true
variable {Fin : gT → Prop}
/-- how many boths stand open at once at most -/
theorem SR_code {σ : wS} {R : Nat → Nat → Int32} (h : SR a r c0 du ps R0 σ R) : R 41 = R0 41 ∧ R 42 = R0 42 ∧ R 43 = R0 43 ∧ R 44 = R0 44 ∧ R 45 = R0 45 ∧ R 47 = R0 47 := ⟨h.1 41 (by decide) (by decide) (by decide) (by decide), h.1 42 (by decide) (by decide) (by decide) (by decide), h.1 43 (by decide) (by decide) (by decide) (by decide), h.1 44 (by decide) (by decide) (by decide) (by decide), h.1 45 (by decide) (by decide) (by decide) (by decide), h.1 47 (by decide) (by decide) (by decide) (by decide)⟩
theorem SR_pile {σ : wS} {R : Nat → Nat → Int32} {g : Nat → Int32} (h : SR a r c0 du ps R0 σ R) : SR a r c0 du ps R0 σ (va_up R 69 g) := by
  obtain ⟨h1, h2, h3, h4, h5, h6, h7⟩ := h
  refine ⟨fun k k1 k2 k3 k4 => ?_, h2, h3, h4, h5, fun k hk j hj => ?_, h7⟩
  · rw [w_up_ne _ _ k4]; exact h1 k k1 k2 k3 k4
  · rw [w_up_ne _ _ (by omega)]; exact h6 k hk j hj
theorem SR_same {σ σ2 : wS} {R : Nat → Nat → Int32} (h : SR a r c0 du ps R0 σ R) (e1 : σ2.1 = σ.1) (e2 : ∀ f, f < 40 → σ2.2.1 f = σ.2.1 f) (e3 : σ2.2.2.2.2 = σ.2.2.2.2) : SR a r c0 du ps R0 σ2 R := by
  obtain ⟨h1, h2, h3, h4, h5, h6, h7⟩ := h
  exact ⟨h1, fun i hi => by rw [e1]; exact h2 i hi, h3, fun f hf => by rw [e2 f hf]; exact h4 f hf, h5, h6, fun i d hd => h7 i d (by rw [← e3]; exact hd)⟩
theorem SR_set {σ : wS} {R : Nat → Nat → Int32} {f : Nat} {v : Int32} (hf : f < 4) (h : SR a r c0 du ps R0 σ R) : SR a r c0 du ps R0 (upd σ.1 f v, σ.2) (va_up R 49 (upd (R 49) (4 * r + f) v)) := by
  obtain ⟨h1, h2, h3, h4, h5, h6, h7⟩ := h
  refine ⟨fun k k1 k2 k3 k4 => ?_, fun i hi => ?_, fun j hj => ?_, h4, h5, fun k hk j hj => ?_, h7⟩
  · rw [w_up_ne _ _ k1]; exact h1 k k1 k2 k3 k4
  · rw [w_up_self]
    show upd (R 49) (4 * r + f) v (4 * r + i) = upd σ.1 f v i
    by_cases e : i = f
    · rw [e, w_upd_self, w_upd_self]
    · rw [upd_gt (by omega), upd_gt e]; exact h2 i hi
  · rw [w_up_self, upd_gt (by omega)]; exact h3 j hj
  · rw [w_up_ne _ _ (by omega)]; exact h6 k hk j hj
theorem SR_en {σ : wS} {R : Nat → Nat → Int32} {f v : Nat} {ac : Nat → Bool} (hf : f < 40) (h : SR a r c0 du ps R0 σ R) : SR a r c0 du ps R0 (σ.1, va_up σ.2.1 f v, ac, σ.2.2.2) (va_up R 50 (upd (R 50) (40 * r + f) (nI v))) := by
  obtain ⟨h1, h2, h3, h4, h5, h6, h7⟩ := h
  refine ⟨fun k k1 k2 k3 k4 => ?_, h2, h3, fun g hg => ?_, fun j hj => ?_, fun k hk j hj => ?_, h7⟩
  · rw [w_up_ne _ _ k2]; exact h1 k k1 k2 k3 k4
  · rw [w_up_self]
    show upd (R 50) (40 * r + f) (nI v) (40 * r + g) = nI (va_up σ.2.1 f v g)
    by_cases e : g = f
    · rw [e, w_upd_self, w_up_self]
    · rw [upd_gt (by omega), w_up_ne _ _ e]; exact h4 g hg
  · rw [w_up_self, upd_gt (by omega)]; exact h5 j hj
  · rw [w_up_ne _ _ (by omega)]; exact h6 k hk j hj
theorem SR_com {σ : wS} {R : Nat → Nat → Int32} {d p : Nat} (hp : ps d = p) (h : SR a r c0 du ps R0 σ R) : SR a r c0 du ps R0 (cmS d σ) (comR R a r d (du d) (nI p) (c0 + σ.2.2.2.2.length)) := by
  obtain ⟨h1, h2, h3, h4, h5, h6, h7⟩ := h
  have hk : ∀ k, ¬ (56 ≤ k ∧ k ≤ 63) → comR R a r d (du d) (nI p) (c0 + σ.2.2.2.2.length) k = R k := by
    intro k hk
    unfold comR
    rw [w_up_ne _ _ (by omega), w_up_ne _ _ (by omega), w_up_ne _ _ (by omega), w_up_ne _ _ (by omega), w_up_ne _ _ (by omega), w_up_ne _ _ (by omega), w_up_ne _ _ (by omega), w_up_ne _ _ (by omega)]
  have hv : ∀ k, 56 ≤ k ∧ k ≤ 63 → ∃ v, comR R a r d (du d) (nI p) (c0 + σ.2.2.2.2.length) k = upd (R k) (c0 + σ.2.2.2.2.length) v := by
    intro k hk
    have : k = 56 ∨ k = 57 ∨ k = 58 ∨ k = 59 ∨ k = 60 ∨ k = 61 ∨ k = 62 ∨ k = 63 := by omega
    rcases this with rfl | rfl | rfl | rfl | rfl | rfl | rfl | rfl <;> exact ⟨_, rfl⟩
  refine ⟨fun k k1 k2 k3 k4 => by rw [hk k k3]; exact h1 k k1 k2 k3 k4, fun i hi => by rw [hk 49 (by decide)]; exact h2 i hi, fun j hj => by rw [hk 49 (by decide)]; exact h3 j hj, fun f hf => by rw [hk 50 (by decide)]; exact h4 f hf, fun j hj => by rw [hk 50 (by decide)]; exact h5 j hj, fun k k1 j hj => ?_, fun i e he => ?_⟩
  · obtain ⟨v, hv⟩ := hv k k1
    rw [hv, upd_gt (by omega)]; exact h6 k k1 j hj
  · have he2 : (σ.2.2.2.2 ++ [d])[i]? = some e := he
    by_cases hi : i < σ.2.2.2.2.length
    · rw [List.getElem?_append_left hi] at he2
      obtain ⟨q1, q2, q3, q4, q5, q6, q7, q8⟩ := h7 i e he2
      have hne : c0 + i ≠ c0 + σ.2.2.2.2.length := by omega
      exact ⟨(upd_gt (g := R 56) hne).trans q1, (upd_gt (g := R 57) hne).trans q2, (upd_gt (g := R 58) hne).trans q3, (upd_gt (g := R 59) hne).trans q4, (upd_gt (g := R 60) hne).trans q5, (upd_gt (g := R 61) hne).trans q6, (upd_gt (g := R 62) hne).trans q7, (upd_gt (g := R 63) hne).trans q8⟩
    · have hlt := (List.getElem?_eq_some_iff.mp he2).1
      rw [List.length_append] at hlt
      have hi2 : i = σ.2.2.2.2.length := by simp at hlt; omega
      subst hi2
      rw [List.getElem?_append_right (Nat.le_refl _), Nat.sub_self] at he2
      have : d = e := Option.some.inj he2
      subst this
      rw [hp]
      exact ⟨w_upd_self _ _ _, w_upd_self _ _ _, w_upd_self _ _ _, w_upd_self _ _ _, w_upd_self _ _ _, w_upd_self _ _ _, w_upd_self _ _ _, w_upd_self _ _ _⟩
/-! a turn each -/
theorem rg_step {p p2 : Option Nat} {hg hg2 c c2 : Nat} {R R2 : Nat → Nat → Int32} (e : ∀ n, gM a r (n + 1) p hg c R = gM a r n p2 hg2 c2 R2) (h : RG a r p2 hg2 c2 R2 Fin) : RG a r p hg c R Fin := by
  obtain ⟨n, x, h1, h2⟩ := h
  exact ⟨n + 1, x, by rw [e]; exact h1, h2⟩
variable {k hg c : Nat} {R : Nat → Nat → Int32}
theorem nI_nl {k l : Nat} (h : k < l) (hl : l ≤ 200) : ¬ nI k = nI l := fun q => by have := (nI_eq (by omega) (by omega)).mp q; omega
theorem rg_do {d : Nat} (hl : R 41 r = nI l) (hk : k < l) (hl2 : l ≤ 200) (ho : R 42 (200 * r + k) = 0) (ha : R 43 (200 * r + k) = nI d) (hd : d < 40) (hu : R 47 (40 * r + d) = nI (du d)) (hu1 : 1 ≤ du d) (hu2 : du d ≤ 99) (hc : c < 200) (h : RG a r none hg (c + 1) (comR R a r d (du d) (nI (k + 1)) c) Fin) : RG a r (some k) hg c R Fin := by
  refine rg_step (fun n => ?_) h
  rw [gM, hl, if_neg (nI_nl hk hl2), if_neg (by omega), if_pos (show R 42 (200 * r + k) = nI 0 from ho), if_neg (by omega), ha, gI_nI (by decide) hd]
  show (gI (R 47 (40 * r + d)) 100).bind _ = _
  rw [hu, gI_nI (by decide) (by omega)]
  show (if du d = 0 then none else _) = _
  rw [if_neg (by omega)]
theorem rg_do0 (hl : R 41 r = nI l) (hk : k < l) (hl2 : l ≤ 200) (ho : R 42 (200 * r + k) = 0) (hc : c = 200) (h : Fin (false, c, R)) : RG a r (some k) hg c R Fin := by
  refine ⟨1, _, ?_, h⟩
  rw [gM, hl, if_neg (nI_nl hk hl2), if_neg (by omega), if_pos (show R 42 (200 * r + k) = nI 0 from ho), if_pos hc]
theorem rg_set {f : Nat} (hl : R 41 r = nI l) (hk : k < l) (hl2 : l ≤ 200) (ho : R 42 (200 * r + k) = 1) (ha : R 43 (200 * r + k) = nI f) (hf : f < 4) (h : RG a r (some (k + 1)) hg c (va_up R 49 (upd (R 49) (4 * r + f) (R 44 (200 * r + k)))) Fin) : RG a r (some k) hg c R Fin := by
  refine rg_step (fun n => ?_) h
  rw [gM, hl, if_neg (nI_nl hk hl2), if_neg (by omega), if_neg (by rw [ho]; decide), if_pos (show R 42 (200 * r + k) = nI 1 from ho), ha, gI_nI (by decide) hf]
  rfl
theorem rg_test {f j : Nat} (hl : R 41 r = nI l) (hk : k < l) (hl2 : l ≤ 200) (ho : R 42 (200 * r + k) = 2) (ha : R 43 (200 * r + k) = nI f) (hf : f < 4) (ht : R 45 (200 * r + k) = nI j) (hj : j < 200) (h : RG a r (some (if R 49 (4 * r + f) < R 44 (200 * r + k) then k + 1 else j)) hg c R Fin) : RG a r (some k) hg c R Fin := by
  refine rg_step (fun n => ?_) h
  rw [gM, hl, if_neg (nI_nl hk hl2), if_neg (by omega), if_neg (by rw [ho]; decide), if_neg (by rw [ho]; decide), if_pos (show R 42 (200 * r + k) = nI 2 from ho), ha, gI_nI (by decide) hf]
  show (if R 49 (4 * r + f) < R 44 (200 * r + k) then _ else _) = _
  split
  · rfl
  · rw [ht, gI_nI (by decide) hj]; rfl
theorem rg_jump {j : Nat} (hl : R 41 r = nI l) (hk : k < l) (hl2 : l ≤ 200) (ho : R 42 (200 * r + k) = 3) (ht : R 45 (200 * r + k) = nI j) (hj : j < 200) (h : RG a r (some j) hg c R Fin) : RG a r (some k) hg c R Fin := by
  refine rg_step (fun n => ?_) h
  rw [gM, hl, if_neg (nI_nl hk hl2), if_neg (by omega), if_neg (by rw [ho]; decide), if_neg (by rw [ho]; decide), if_neg (by rw [ho]; decide), if_pos (show R 42 (200 * r + k) = nI 3 from ho), ht, gI_nI (by decide) hj]
  rfl
theorem rg_again {f j : Nat} (hl : R 41 r = nI l) (hk : k < l) (hl2 : l ≤ 200) (ho : R 42 (200 * r + k) = 4) (ha : R 43 (200 * r + k) = nI f) (hf : f < 4) (ht : R 45 (200 * r + k) = nI j) (hj : j < 200) (h : RG a r (some (if R 49 (4 * r + f) < R 44 (200 * r + k) then j else k + 1)) hg c R Fin) : RG a r (some k) hg c R Fin := by
  refine rg_step (fun n => ?_) h
  rw [gM, hl, if_neg (nI_nl hk hl2), if_neg (by omega), if_neg (by rw [ho]; decide), if_neg (by rw [ho]; decide), if_neg (by rw [ho]; decide), if_neg (by rw [ho]; decide), if_pos (show R 42 (200 * r + k) = nI 4 from ho), ha, gI_nI (by decide) hf]
  show (if R 49 (4 * r + f) < R 44 (200 * r + k) then _ else _) = _
  split
  · rw [ht, gI_nI (by decide) hj]; rfl
  · rfl
theorem rg_fork (hl : R 41 r = nI l) (hk : k < l) (hl2 : l ≤ 200) (ho : R 42 (200 * r + k) = 5) (hh : hg < 63) (h : RG a r (some (k + 1)) (hg + 1) c (va_up R 69 (upd (R 69) hg (R 45 (200 * r + k)))) Fin) : RG a r (some k) hg c R Fin := by
  refine rg_step (fun n => ?_) h
  rw [gM, hl, if_neg (nI_nl hk hl2), if_neg (by omega), if_neg (by rw [ho]; decide), if_neg (by rw [ho]; decide), if_neg (by rw [ho]; decide), if_neg (by rw [ho]; decide), if_neg (by rw [ho]; decide), if_pos (show R 42 (200 * r + k) = nI 5 from ho), if_neg (by omega)]
theorem rg_join {e j : Nat} (hl : R 41 r = nI l) (hk : k < l) (hl2 : l ≤ 200) (ho : R 42 (200 * r + k) = 6) (ha : R 43 (200 * r + k) = nI e) (he : e < 40) (ht : R 45 (200 * r + k) = nI j) (hj : j < 200) (h : if R 50 (40 * r + e) + 1 = 2 then RG a r (some j) hg c (va_up R 50 (upd (R 50) (40 * r + e) 0)) Fin else RG a r none hg c (va_up R 50 (upd (R 50) (40 * r + e) (R 50 (40 * r + e) + 1))) Fin) : RG a r (some k) hg c R Fin := by
  by_cases hq : R 50 (40 * r + e) + 1 = 2
  · rw [if_pos hq] at h
    refine rg_step (fun n => ?_) h
    rw [gM, hl, if_neg (nI_nl hk hl2), if_neg (by omega), if_neg (by rw [ho]; decide), if_neg (by rw [ho]; decide), if_neg (by rw [ho]; decide), if_neg (by rw [ho]; decide), if_neg (by rw [ho]; decide), if_neg (by rw [ho]; decide), ha, gI_nI (by decide) he]
    show (if R 50 (40 * r + e) + 1 = 2 then _ else _) = _
    rw [if_pos hq, ht, gI_nI (by decide) hj]
    rfl
  · rw [if_neg hq] at h
    refine rg_step (fun n => ?_) h
    rw [gM, hl, if_neg (nI_nl hk hl2), if_neg (by omega), if_neg (by rw [ho]; decide), if_neg (by rw [ho]; decide), if_neg (by rw [ho]; decide), if_neg (by rw [ho]; decide), if_neg (by rw [ho]; decide), if_neg (by rw [ho]; decide), ha, gI_nI (by decide) he]
    show (if R 50 (40 * r + e) + 1 = 2 then _ else _) = _
    rw [if_neg hq]
theorem rg_pop {j : Nat} (hj : R 69 hg = nI j) (hj2 : j < 200) (h : RG a r (some j) hg c R Fin) : RG a r none (hg + 1) c R Fin := by
  refine rg_step (fun n => ?_) h
  rw [gM, hj, gI_nI (by decide) hj2]
  rfl
end GR
