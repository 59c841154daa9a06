/-! the class's walk is the abstract one -/
def wy (σ : wS) (f : Nat) : Nat := if σ.2.2.1 f = true then 2 - σ.2.1 f else 0
def SC (σ : wS) (sc : Nat) (F : Nat → Int32) (R : Nat → Nat → Int32) : Prop := F 3 = nI (ln σ) ∧ F 6 = nI sc ∧ F 4 = 0 ∧ (∀ i, i < 4 → R 0 i = σ.1 i) ∧ (∀ f, f < 40 → R 1 f = nI (wy σ f)) ∧ ∀ i d, σ.2.2.2.2[i]? = some d → R 2 i = nI d
def cP (B : Nat → Nat → Int32) (l n : Nat) (F : Nat → Int32) (R : Nat → Nat → Int32) : Option cT := (gI (F 6) 41).bind fun s => match s with
  | 0 => cM B l n none F R
  | s + 1 => (gI (R 5 s) 121).bind fun j => cM B l n (some j) (upd F 6 (nI s)) R
def cK (B : Nat → Nat → Int32) (l n : Nat) (p : Option Nat) (F : Nat → Int32) (R : Nat → Nat → Int32) : Option cT := match p with
  | some k => cM B l n (some k) F R
  | none => cP B l n F R
def RC (B : Nat → Nat → Int32) (l n : Nat) (p : Option Nat) (F : Nat → Int32) (R : Nat → Nat → Int32) (Fin : cT → Prop) : Prop := ∃ x, cK B l n p F R = some x ∧ Fin x
def HC (l : Nat) (B : Nat → Nat → Int32) (t : tT) (k : Nat) : Prop := iC (B 4) (B 5) (B 6) (B 7) (B 11) t k ∧ k + szC t < l ∧ (∀ d, d ∈ dsT t → d < 40) ∧ (∀ f, f ∈ fkT t → f < 40) ∧ lbT t = true
theorem wy_t {σ : wS} {f : Nat} (h : σ.2.2.1 f = true) : wy σ f = 2 - σ.2.1 f := if_pos h
theorem wy_f {σ : wS} {f : Nat} (h : σ.2.2.1 f = false) : wy σ f = 0 := if_neg (by rw [h]; decide)
theorem wy_cg {σ τ : wS} {f : Nat} (h1 : σ.2.1 f = τ.2.1 f) (h2 : σ.2.2.1 f = τ.2.2.1 f) : wy σ f = wy τ f := by simp [wy, h1, h2]
section GC
variable {B : Nat → Nat → Int32} {l : Nat} {Fin : cT → Prop}
theorem cM_s (n k : Nat) (F : Nat → Int32) (R : Nat → Nat → Int32) : cM B l (n + 1) (some k) F R = (flM B l k F R).bind fun q => cK B l n q.1 q.2.1 q.2.2 := by
  rw [cM]
  cases h : flM B l k F R with
  | none => rfl
  | some q =>
    obtain ⟨p, F2, R2⟩ := q
    cases p with
    | none => rfl
    | some j => rfl
theorem rc_step {n k : Nat} {p : Option Nat} {F F2 : Nat → Int32} {R R2 : Nat → Nat → Int32} (e : flM B l k F R = some (p, F2, R2)) (h : RC B l n p F2 R2 Fin) : RC B l (n + 1) (some k) F R Fin := by
  obtain ⟨x, h1, h2⟩ := h
  refine ⟨x, ?_, h2⟩
  show cM B l (n + 1) (some k) F R = some x
  rw [cM_s, e]
  exact h1
variable {k sc : Nat} {σ : wS} {F : Nat → Int32} {R : Nat → Nat → Int32}
theorem fl_do {d c : Nat} (hk : k < l) (ho : B 4 k = 0) (ha : B 5 k = nI d) (hd : d < 40) (hc : F 3 = nI c) (hc2 : c < 40) : flM B l k F R = some (none, upd F 3 (nI (c + 1)), va_up R 2 (upd (R 2) c (nI d))) := by
  rw [flM, if_neg (by omega), if_pos (show B 4 k = nI 0 from ho), ha, gI_nI (by decide) hd, hc]
  show (gI (nI c) 40).bind _ = _
  rw [gI_nI (by decide) hc2]
  rfl
theorem fl_set {f : Nat} (hk : k < l) (ho : B 4 k = 1) (ha : B 5 k = nI f) (hf : f < 4) : flM B l k F R = some (some (k + 1), F, va_up R 0 (upd (R 0) f (B 6 k))) := by
  rw [flM, if_neg (by omega), if_neg (by rw [ho]; decide), if_pos (show B 4 k = nI 1 from ho), ha, gI_nI (by decide) hf]
  rfl
theorem fl_if {f j : Nat} (hk : k < l) (ho : B 4 k = 2) (ha : B 5 k = nI f) (hf : f < 4) (ht : B 7 k = nI j) (hj : j < 121) : flM B l k F R = some (some (if R 0 f < B 6 k then k + 1 else j), F, R) := by
  rw [flM, if_neg (by omega), if_neg (by rw [ho]; decide), if_neg (by rw [ho]; decide), if_pos (show B 4 k = nI 2 from ho), ha, gI_nI (by decide) hf]
  show (if R 0 f < B 6 k then _ else _) = _
  split
  · rfl
  · rw [ht, gI_nI (by decide) hj]; rfl
theorem fl_jump {j : Nat} (hk : k < l) (ho : B 4 k = 3) (ht : B 7 k = nI j) (hj : j < 121) : flM B l k F R = some (some j, F, R) := by
  rw [flM, if_neg (by omega), if_neg (by rw [ho]; decide), if_neg (by rw [ho]; decide), if_neg (by rw [ho]; decide), if_pos (show B 4 k = nI 3 from ho), ht, gI_nI (by decide) hj]
  rfl
theorem fl_fork {f s : Nat} (hk : k < l) (ho : B 4 k = 4) (ha : B 5 k = nI f) (hf : f < 40) (hs : F 6 = nI s) (hs2 : s < 40) : flM B l k F R = some (some (k + 1), upd F 6 (nI (s + 1)), va_up (va_up R 1 (upd (R 1) f 2)) 5 (upd (R 5) s (B 7 k))) := by
  rw [flM, if_neg (by omega), if_neg (by rw [ho]; decide), if_neg (by rw [ho]; decide), if_neg (by rw [ho]; decide), if_neg (by rw [ho]; decide), if_pos (show B 4 k = nI 4 from ho), ha, gI_nI (by decide) hf]
  show (gI (F 6) 40).bind _ = _
  rw [hs, gI_nI (by decide) hs2]
  rfl
theorem fl_join {f j : Nat} (hk : k < l) (ho : B 4 k = 5) (ha : B 5 k = nI f) (hf : f < 40) (ht : B 7 k = nI j) (hj : j < 121) : flM B l k F R = some (if R 1 f - 1 = 0 then some j else none, F, va_up R 1 (upd (R 1) f (R 1 f - 1))) := by
  rw [flM, if_neg (by omega), if_neg (by rw [ho]; decide), if_neg (by rw [ho]; decide), if_neg (by rw [ho]; decide), if_neg (by rw [ho]; decide), if_neg (by rw [ho]; decide), if_pos (show B 4 k = nI 5 from ho), ha, gI_nI (by decide) hf]
  show (if R 1 f - 1 = 0 then _ else _) = _
  split
  · rw [ht, gI_nI (by decide) hj]; rfl
  · rfl
theorem rc_pop {n j : Nat} (hs : F 6 = nI (sc + 1)) (hsc : sc + 1 ≤ 40) (hj : R 5 sc = nI j) (hj2 : j < 121) (h : RC B l n (some j) (upd F 6 (nI sc)) R Fin) : RC B l n none F R Fin := by
  obtain ⟨x, h1, h2⟩ := h
  refine ⟨x, ?_, h2⟩
  show (gI (F 6) 41).bind _ = _
  rw [hs, gI_nI (by decide) (by omega)]
  show (gI (R 5 sc) 121).bind _ = _
  rw [hj, gI_nI (by decide) hj2]
  exact h1
theorem SC_pop (h : SC σ (sc + 1) F R) : SC σ sc (upd F 6 (nI sc)) R := ⟨h.1, rfl, h.2.2.1, h.2.2.2⟩
theorem SC_set {f : Nat} {v : Int32} (hf : f < 4) (h : SC σ sc F R) : SC (upd σ.1 f v, σ.2) sc F (va_up R 0 (upd (R 0) f v)) := by
  obtain ⟨h1, h2, h3, h4, h5, h6⟩ := h
  refine ⟨h1, h2, h3, fun i hi => ?_, h5, h6⟩
  rw [w_up_self]
  show upd (R 0) f v i = upd σ.1 f v i
  by_cases e : i = f
  · rw [e, w_upd_self, w_upd_self]
  · rw [upd_gt e, upd_gt e]; exact h4 i hi
theorem SC_com {d : Nat} (h : SC σ sc F R) : SC (cmS d σ) sc (upd F 3 (nI (ln σ + 1))) (va_up R 2 (upd (R 2) (ln σ) (nI d))) := by
  obtain ⟨h1, h2, h3, h4, h5, h6⟩ := h
  refine ⟨?_, h2, h3, h4, h5, fun i e he => ?_⟩
  · show nI (ln σ + 1) = nI (σ.2.2.2.2 ++ [d]).length
    rw [List.length_append]; rfl
  · have he2 : (σ.2.2.2.2 ++ [d])[i]? = some e := he
    rw [w_up_self]
    by_cases hi : i < σ.2.2.2.2.length
    · rw [List.getElem?_append_left hi] at he2
      rw [upd_lt hi]; exact h6 i e he2
    · have hlt := (List.getElem?_eq_some_iff.mp he2).1
      rw [List.length_append] at hlt
      have hi2 : i = σ.2.2.2.2.length := by simp at hlt; omega
      subst hi2
      rw [List.getElem?_append_right (Nat.le_refl _), Nat.sub_self] at he2
      have : d = e := Option.some.inj he2
      subst this
      exact w_upd_self _ _ _
theorem SC_fork {f : Nat} {v : Int32} (hf : f < 40) (h0 : σ.2.1 f = 0) (h : SC σ sc F R) : SC (acS f σ) (sc + 1) (upd F 6 (nI (sc + 1))) (va_up (va_up R 1 (upd (R 1) f 2)) 5 (upd (R 5) sc v)) := by
  obtain ⟨h1, h2, h3, h4, h5, h6⟩ := h
  refine ⟨h1, rfl, h3, h4, fun g hg => ?_, h6⟩
  show upd (R 1) f 2 g = nI (wy (acS f σ) g)
  by_cases e : g = f
  · subst e
    have : wy (acS g σ) g = 2 := (wy_t (w_up_self _ _ _)).trans (by show 2 - σ.2.1 g = 2; rw [h0])
    rw [w_upd_self, this]; rfl
  · have : wy (acS f σ) g = wy σ g := wy_cg rfl (w_up_ne _ _ e)
    rw [upd_gt e, this]; exact h5 g hg
theorem jnC {n f e : Nat} (hf : f < 40) (hk : k < l) (hl : l ≤ 121) (he : e < l) (ho : B 4 k = 5) (ha : B 5 k = nI f) (ht : B 7 k = nI e) (hs : SC σ sc F R) (hac : σ.2.2.1 f = true) (h01 : σ.2.1 f = 0 ∨ σ.2.1 f = 1) (hc : ∀ F' R', SC (jn f σ).1 sc F' R' → (∀ j, j < sc → R' 5 j = R 5 j) → RC B l n (if (jn f σ).2 = true then some e else none) F' R' Fin) : RC B l (n + 1) (some k) F R Fin := by
  have h1 := hs.2.2.2.2.1 f hf
  refine rc_step (fl_join hk ho ha hf ht (by omega)) ?_
  have hw : ∀ (en2 : Nat → Nat) (ac2 : Nat → Bool) (v : Nat), (∀ g, g ≠ f → en2 g = σ.2.1 g ∧ ac2 g = σ.2.2.1 g) → wy (σ.1, en2, ac2, σ.2.2.2) f = v → R 1 f - 1 = nI v → SC (σ.1, en2, ac2, σ.2.2.2) sc F (va_up R 1 (upd (R 1) f (R 1 f - 1))) := by
    intro en2 ac2 v hg hv hr
    obtain ⟨q1, q2, q3, q4, q5, q6⟩ := hs
    refine ⟨q1, q2, q3, q4, fun g hg2 => ?_, q6⟩
    rw [w_up_self]
    by_cases eg : g = f
    · subst eg; rw [w_upd_self, hr, hv]
    · rw [upd_gt eg, q5 g hg2]
      exact congrArg nI (wy_cg (hg g eg).1.symm (hg g eg).2.symm)
  rcases h01 with h | h
  · have hr : R 1 f = nI 2 := by
      rw [h1, wy_t hac, h]
    rw [jn_0 h] at hc
    have hr2 : R 1 f - 1 = nI 1 := by rw [hr]; rfl
    have hs2 := hw (va_up σ.2.1 f 1) σ.2.2.1 1 (fun g hg => ⟨w_up_ne _ _ hg, rfl⟩) ((wy_t (σ := (σ.1, va_up σ.2.1 f 1, σ.2.2.1, σ.2.2.2)) hac).trans (by show 2 - va_up σ.2.1 f 1 f = 1; rw [w_up_self])) hr2
    have := hc F _ hs2 (fun _ _ => rfl)
    rw [if_neg (show ¬ R 1 f - 1 = 0 by rw [hr2]; decide)]
    exact this
  · have hr : R 1 f = nI 1 := by
      rw [h1, wy_t hac, h]
    rw [jn_1 h] at hc
    have hr2 : R 1 f - 1 = nI 0 := by rw [hr]; rfl
    have hs2 := hw (va_up σ.2.1 f 0) (va_up σ.2.2.1 f false) 0 (fun g hg => ⟨w_up_ne _ _ hg, w_up_ne _ _ hg⟩) (wy_f (w_up_self _ _ _)) hr2
    have := hc F _ hs2 (fun _ _ => rfl)
    rw [if_pos (show R 1 f - 1 = 0 by rw [hr2]; rfl)]
    exact this
/-- from k on with N turns left behind it, x is what the tree's walk leaves, e the place behind the tree -/
def CnC (B : Nat → Nat → Int32) (l N : Nat) (x : wS × Bool) (e sc : Nat) (R : Nat → Nat → Int32) (Fin : cT → Prop) : Prop := ∀ F' R', SC x.1 sc F' R' → (∀ j, j < sc → R' 5 j = R 5 j) → ∀ m, N ≤ m → RC B l m (if x.2 = true then some e else none) F' R' Fin
def EnC (B : Nat → Nat → Int32) (l : Nat) (t : tT) : Prop := ndT t → agT t = true → ∀ (k sc : Nat) (σ : wS) (F : Nat → Int32) (R : Nat → Nat → Int32) (Fin : cT → Prop) (N : Nat), HC l B t k → SC σ sc F R → idW t σ → sc + (fkT t).length ≤ 40 → ln σ + (dsT t).length ≤ 40 → CnC B l N (enT t σ) (k + szC t) sc R Fin → ∀ m, N + szC t ≤ m → RC B l m (some k) F R Fin
theorem cm_up {t : tT} {x : wS × Bool} (h : cmW t x σ) : ln x.1 ≤ ln σ + (dsT t).length := by
  obtain ⟨N, h1, h2, -⟩ := h
  show x.1.2.2.2.2.length ≤ _
  rw [h1, List.length_append]
  show σ.2.2.2.2.length + N.length ≤ σ.2.2.2.2.length + (dsT t).length
  omega
theorem cm_tr {t : tT} {x : wS × Bool} (h : cmW t x σ) (ht : x.2 = true) : ln x.1 = ln σ := by
  obtain ⟨N, h1, h2, h3, h4⟩ := h
  show x.1.2.2.2.2.length = _
  rw [h1, h4 ht, List.append_nil]
theorem HC_sq {p q : tT} (h : HC l B (tSeq p q) k) : HC l B p k ∧ HC l B q (k + szC p) := by
  obtain ⟨h1, h2, h3, h4, h5⟩ := h
  have hz : szC (tSeq p q) = szC p + szC q := rfl
  rw [lbT, Bool.and_eq_true] at h5
  exact ⟨⟨h1.1, by omega, fun d hd => h3 d (apl d hd), fun f hf => h4 f (apl f hf), h5.1⟩, ⟨h1.2, by omega, fun d hd => h3 d (apr d hd), fun f hf => h4 f (apr f hf), h5.2⟩⟩
theorem HC_ag {p : tT} {x : Nat} (h : HC l B (tAg x p) k) : HC l B p (k + 2) := by
  obtain ⟨h1, h2, h3, h4, h5⟩ := h
  have hz : szC (tAg x p) = szC p + 3 := rfl
  rw [lbT, Bool.and_eq_true] at h5
  exact ⟨h1.2.2.1, by omega, h3, h4, h5.1⟩
theorem HC_bo {p q : tT} {f : Nat} (h : HC l B (tBo f p q) k) : HC l B p (k + 1) ∧ HC l B q (k + szC p + 2) := by
  obtain ⟨h1, h2, h3, h4, h5⟩ := h
  have hz : szC (tBo f p q) = szC p + szC q + 3 := rfl
  rw [lbT, Bool.and_eq_true] at h5
  exact ⟨⟨h1.2.1, by omega, fun d hd => h3 d (apl d hd), fun f hf => h4 f (cpl f hf), h5.1⟩, ⟨h1.2.2.2.1, by omega, fun d hd => h3 d (apr d hd), fun f hf => h4 f (cpr f hf), h5.2⟩⟩
theorem HC_if {p q : tT} {x : Nat} (h : HC l B (tIf x p q) k) : HC l B p (k + 1) ∧ HC l B q (k + szC p + 2) := by
  obtain ⟨h1, h2, h3, h4, h5⟩ := h
  have hz : szC (tIf x p q) = szC p + szC q + 2 := rfl
  rw [lbT, Bool.and_eq_true, Bool.and_eq_true] at h5
  exact ⟨⟨h1.2.1, by omega, fun d hd => h3 d (apl d hd), fun f hf => h4 f (apl f hf), h5.1.1⟩, ⟨h1.2.2.2, by omega, fun d hd => h3 d (apr d hd), fun f hf => h4 f (apr f hf), h5.1.2⟩⟩
end GC
