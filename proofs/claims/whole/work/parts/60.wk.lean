/-! a walk, abstract: fields, ended ways by both, whether a both goes on, tasks that wait by do, what came -/
abbrev wS : Type := (Nat → Int32) × (Nat → Nat) × (Nat → Bool) × (Nat → Nat) × List Nat
def jn (f : Nat) (σ : wS) : wS × Bool := if σ.2.1 f + 1 = 2 then ((σ.1, va_up σ.2.1 f 0, va_up σ.2.2.1 f false, σ.2.2.2), true) else ((σ.1, va_up σ.2.1 f (σ.2.1 f + 1), σ.2.2), false)
def acS (f : Nat) (σ : wS) : wS := (σ.1, σ.2.1, va_up σ.2.2.1 f true, σ.2.2.2)
def cmS (d : Nat) (σ : wS) : wS := (σ.1, σ.2.1, σ.2.2.1, va_up σ.2.2.2.1 d (σ.2.2.2.1 d + 1), σ.2.2.2.2 ++ [d])
def ltS (x : Nat) (σ : wS) : Prop := σ.1 (x / 100) < nI (x % 100)
theorem ltS_dec (x : Nat) (σ : wS) : ltS x σ ∨ ¬ ltS x σ := Classical.em _
def ltB (x : Nat) (σ : wS) : Bool := decide (σ.1 (x / 100) < nI (x % 100))
def enT : tT → wS → wS × Bool
  | .natCast d, σ => (cmS d σ, false)
  | .var x, σ => ((upd σ.1 (x / 100) (nI (x % 100)), σ.2), true)
  | .add a b, σ => if (enT a σ).2 = true then enT b (enT a σ).1 else ((enT a σ).1, false)
  | .pow a _, σ => enT a σ
  | .sub (.pow a f) b, σ => if (enT b (if (enT a (acS f σ)).2 = true then (jn f (enT a (acS f σ)).1).1 else (enT a (acS f σ)).1)).2 = true then jn f (enT b (if (enT a (acS f σ)).2 = true then (jn f (enT a (acS f σ)).1).1 else (enT a (acS f σ)).1)).1 else ((enT b (if (enT a (acS f σ)).2 = true then (jn f (enT a (acS f σ)).1).1 else (enT a (acS f σ)).1)).1, false)
  | .mul (.pow a x) b, σ => if ltB x σ = true then enT a σ else enT b σ
  | _, σ => (σ, true)
def reT (d : Nat) : tT → wS → wS × Bool
  | .add a b, σ => if d ∈ dsT a then (if (reT d a σ).2 = true then enT b (reT d a σ).1 else ((reT d a σ).1, false)) else reT d b σ
  | .pow a x, σ => if (reT d a σ).2 = true then (if ltB x (reT d a σ).1 = true then ((enT a (reT d a σ).1).1, false) else ((reT d a σ).1, true)) else ((reT d a σ).1, false)
  | .sub (.pow a f) b, σ => if d ∈ dsT a then (if (reT d a σ).2 = true then jn f (reT d a σ).1 else ((reT d a σ).1, false)) else (if (reT d b σ).2 = true then jn f (reT d b σ).1 else ((reT d b σ).1, false))
  | .mul (.pow a _) b, σ => if d ∈ dsT a then reT d a σ else reT d b σ
  | _, σ => (σ, true)
theorem en_seq (a b : tT) (σ : wS) : enT (tSeq a b) σ = if (enT a σ).2 = true then enT b (enT a σ).1 else ((enT a σ).1, false) := rfl
theorem en_if (x : Nat) (a b : tT) (σ : wS) : enT (tIf x a b) σ = if ltB x σ = true then enT a σ else enT b σ := rfl
/-- the first way of a both, and what it leaves -/
def en1 (f : Nat) (a : tT) (σ : wS) : wS := if (enT a (acS f σ)).2 = true then (jn f (enT a (acS f σ)).1).1 else (enT a (acS f σ)).1
theorem en_bo (f : Nat) (a b : tT) (σ : wS) : enT (tBo f a b) σ = if (enT b (en1 f a σ)).2 = true then jn f (enT b (en1 f a σ)).1 else ((enT b (en1 f a σ)).1, false) := rfl
theorem re_seq (d : Nat) (a b : tT) (σ : wS) : reT d (tSeq a b) σ = if d ∈ dsT a then (if (reT d a σ).2 = true then enT b (reT d a σ).1 else ((reT d a σ).1, false)) else reT d b σ := rfl
theorem re_ag (d x : Nat) (a : tT) (σ : wS) : reT d (tAg x a) σ = if (reT d a σ).2 = true then (if ltB x (reT d a σ).1 = true then ((enT a (reT d a σ).1).1, false) else ((reT d a σ).1, true)) else ((reT d a σ).1, false) := rfl
theorem re_bo (d f : Nat) (a b : tT) (σ : wS) : reT d (tBo f a b) σ = if d ∈ dsT a then (if (reT d a σ).2 = true then jn f (reT d a σ).1 else ((reT d a σ).1, false)) else (if (reT d b σ).2 = true then jn f (reT d b σ).1 else ((reT d b σ).1, false)) := rfl
theorem re_if (d x : Nat) (a b : tT) (σ : wS) : reT d (tIf x a b) σ = if d ∈ dsT a then reT d a σ else reT d b σ := rfl
/-- what a walk through t may change -/
def frW (t : tT) (σ2 σ : wS) : Prop := (∀ f, f ∉ fkT t → σ2.2.1 f = σ.2.1 f ∧ σ2.2.2.1 f = σ.2.2.1 f) ∧ (∀ d, d ∉ dsT t → σ2.2.2.2.1 d = σ.2.2.2.1 d)
theorem frW_rf {t : tT} {σ : wS} : frW t σ σ := ⟨fun _ _ => ⟨rfl, rfl⟩, fun _ _ => rfl⟩
theorem frW_tr {t : tT} {σ3 σ2 σ : wS} (h1 : frW t σ3 σ2) (h2 : frW t σ2 σ) : frW t σ3 σ := ⟨fun f hf => ⟨(h1.1 f hf).1.trans (h2.1 f hf).1, (h1.1 f hf).2.trans (h2.1 f hf).2⟩, fun d hd => (h1.2 d hd).trans (h2.2 d hd)⟩
theorem frW_mo {t u : tT} {σ2 σ : wS} (hf : ∀ f, f ∈ fkT t → f ∈ fkT u) (hd : ∀ d, d ∈ dsT t → d ∈ dsT u) (h : frW t σ2 σ) : frW u σ2 σ := ⟨fun f q => h.1 f (fun z => q (hf f z)), fun d q => h.2 d (fun z => q (hd d z))⟩
theorem frW_jn {t : tT} {f : Nat} {σ : wS} (hf : f ∈ fkT t) : frW t (jn f σ).1 σ := by
  unfold jn
  split
  · exact ⟨fun g hg => by have : g ≠ f := fun q => hg (q ▸ hf); simp [va_up, this], fun _ _ => rfl⟩
  · exact ⟨fun g hg => by have : g ≠ f := fun q => hg (q ▸ hf); simp [va_up, this], fun _ _ => rfl⟩
theorem frW_ac {t : tT} {f : Nat} {σ : wS} (hf : f ∈ fkT t) : frW t (acS f σ) σ := ⟨fun g hg => by have : g ≠ f := fun q => hg (q ▸ hf); simp [acS, va_up, this], fun _ _ => rfl⟩
theorem jn_cm (f : Nat) (σ : wS) : (jn f σ).1.2.2.2 = σ.2.2.2 ∧ (jn f σ).1.1 = σ.1 := by
  unfold jn
  split <;> exact ⟨rfl, rfl⟩
theorem en_fr : ∀ t : tT, okT t = true → ∀ σ : wS, frW t (enT t σ).1 σ := by
  apply T_ind
  · intro v σ; exact frW_rf
  · intro d σ
    exact ⟨fun _ _ => ⟨rfl, rfl⟩, fun e he => by have : e ≠ d := fun q => he (by rw [q]; exact List.mem_singleton.mpr rfl); simp [enT, cmS, va_up, this]⟩
  · intro x σ; exact frW_rf
  · intro a b ia ib σ
    have ha := frW_mo (u := tSeq a b) (fun f q => List.mem_append.mpr (Or.inl q)) (fun d q => List.mem_append.mpr (Or.inl q)) (ia σ)
    rw [en_seq]
    split
    · exact frW_tr (frW_mo (fun f q => List.mem_append.mpr (Or.inr q)) (fun d q => List.mem_append.mpr (Or.inr q)) (ib _)) ha
    · exact ha
  · intro x a ia σ; exact ia σ
  · intro f a b ia ib σ
    have mf : f ∈ fkT (tBo f a b) := List.mem_cons_self
    have ma : ∀ g, g ∈ fkT a → g ∈ fkT (tBo f a b) := fun g q => List.mem_cons_of_mem _ (List.mem_append.mpr (Or.inl q))
    have mb : ∀ g, g ∈ fkT b → g ∈ fkT (tBo f a b) := fun g q => List.mem_cons_of_mem _ (List.mem_append.mpr (Or.inr q))
    have h1 : frW (tBo f a b) (enT a (acS f σ)).1 σ := frW_tr (frW_mo ma (fun d q => List.mem_append.mpr (Or.inl q)) (ia _)) (frW_ac mf)
    have h2 : frW (tBo f a b) (en1 f a σ) σ := by
      unfold en1
      split
      · exact frW_tr (frW_jn mf) h1
      · exact h1
    have h3 : frW (tBo f a b) (enT b (en1 f a σ)).1 σ := frW_tr (frW_mo mb (fun d q => List.mem_append.mpr (Or.inr q)) (ib _)) h2
    rw [en_bo]
    split
    · exact frW_tr (frW_jn mf) h3
    · exact h3
  · intro x a b ia ib σ
    rw [en_if]
    split
    · exact frW_mo (fun f q => List.mem_append.mpr (Or.inl q)) (fun d q => List.mem_append.mpr (Or.inl q)) (ia _)
    · exact frW_mo (fun f q => List.mem_append.mpr (Or.inr q)) (fun d q => List.mem_append.mpr (Or.inr q)) (ib _)
theorem ok_seq {a b : tT} (h : okT (tSeq a b) = true) : okT a = true ∧ okT b = true := by rw [okT, Bool.and_eq_true] at h; exact h
theorem ok_bo {f : Nat} {a b : tT} (h : okT (tBo f a b) = true) : okT a = true ∧ okT b = true := by rw [okT, Bool.and_eq_true] at h; exact h
theorem ok_if {x : Nat} {a b : tT} (h : okT (tIf x a b) = true) : okT a = true ∧ okT b = true := by rw [okT, Bool.and_eq_true] at h; exact h
theorem ok_ag {x : Nat} {a : tT} (h : okT (tAg x a) = true) : okT a = true := by rw [okT] at h; exact h
/-- induction with the tree's soundness at hand -/
theorem T_ind2 {P : tT → Prop} (h0 : ∀ v, P (.num v)) (h1 : ∀ d, P (tDo d)) (h2 : ∀ x, P (tSet x)) (h3 : ∀ a b, okT a = true → okT b = true → P a → P b → P (tSeq a b)) (h4 : ∀ x a, okT a = true → P a → P (tAg x a)) (h5 : ∀ f a b, okT a = true → okT b = true → P a → P b → P (tBo f a b)) (h6 : ∀ x a b, okT a = true → okT b = true → P a → P b → P (tIf x a b)) : ∀ t : tT, okT t = true → P t := by
  intro t ht
  refine (T_ind (P := fun t => okT t = true ∧ P t) (fun v => ⟨rfl, h0 v⟩) (fun d => ⟨rfl, h1 d⟩) (fun x => ⟨rfl, h2 x⟩) (fun a b ia ib => ⟨?_, h3 a b ia.1 ib.1 ia.2 ib.2⟩) (fun x a ia => ⟨?_, h4 x a ia.1 ia.2⟩) (fun f a b ia ib => ⟨?_, h5 f a b ia.1 ib.1 ia.2 ib.2⟩) (fun x a b ia ib => ⟨?_, h6 x a b ia.1 ib.1 ia.2 ib.2⟩) t ht).2
  · rw [okT, ia.1, ib.1]; rfl
  · rw [okT]; exact ia.1
  · rw [okT, ia.1, ib.1]; rfl
  · rw [okT, ia.1, ib.1]; rfl
theorem re_fr (d0 : Nat) : ∀ t : tT, okT t = true → ∀ σ : wS, frW t (reT d0 t σ).1 σ := by
  apply T_ind2
  · intro v σ; exact frW_rf
  · intro d σ; exact frW_rf
  · intro x σ; exact frW_rf
  · intro a b oa ob ia ib σ
    have ha := frW_mo (u := tSeq a b) (fun f q => List.mem_append.mpr (Or.inl q)) (fun d q => List.mem_append.mpr (Or.inl q)) (ia σ)
    rw [re_seq]
    split
    · split
      · exact frW_tr (frW_mo (fun f q => List.mem_append.mpr (Or.inr q)) (fun d q => List.mem_append.mpr (Or.inr q)) (en_fr b ob _)) ha
      · exact ha
    · exact frW_mo (fun f q => List.mem_append.mpr (Or.inr q)) (fun d q => List.mem_append.mpr (Or.inr q)) (ib σ)
  · intro x a oa ia σ
    have ha : frW (tAg x a) (reT d0 a σ).1 σ := ia σ
    rw [re_ag]
    split
    · split
      · exact frW_tr (show frW (tAg x a) (enT a (reT d0 a σ).1).1 (reT d0 a σ).1 from en_fr a oa _) ha
      · exact ha
    · exact ha
  · intro f a b oa ob ia ib σ
    have mf : f ∈ fkT (tBo f a b) := List.mem_cons_self
    have h1 : frW (tBo f a b) (reT d0 a σ).1 σ := frW_mo (fun g q => List.mem_cons_of_mem _ (List.mem_append.mpr (Or.inl q))) (fun d q => List.mem_append.mpr (Or.inl q)) (ia σ)
    have h2 : frW (tBo f a b) (reT d0 b σ).1 σ := frW_mo (fun g q => List.mem_cons_of_mem _ (List.mem_append.mpr (Or.inr q))) (fun d q => List.mem_append.mpr (Or.inr q)) (ib σ)
    rw [re_bo]
    split
    · split
      · exact frW_tr (frW_jn mf) h1
      · exact h1
    · split
      · exact frW_tr (frW_jn mf) h2
      · exact h2
  · intro x a b oa ob ia ib σ
    rw [re_if]
    split
    · exact frW_mo (fun f q => List.mem_append.mpr (Or.inl q)) (fun d q => List.mem_append.mpr (Or.inl q)) (ia _)
    · exact frW_mo (fun f q => List.mem_append.mpr (Or.inr q)) (fun d q => List.mem_append.mpr (Or.inr q)) (ib _)
/-- nothing goes on in t -/
def idW (t : tT) (σ : wS) : Prop := (∀ f, f ∈ fkT t → σ.2.1 f = 0 ∧ σ.2.2.1 f = false) ∧ (∀ d, d ∈ dsT t → σ.2.2.2.1 d = 0)
/-- a way goes on in t -/
def bzT : tT → wS → Prop
  | .natCast d, σ => σ.2.2.2.1 d = 1
  | .add a b, σ => (bzT a σ ∧ idW b σ) ∨ (idW a σ ∧ bzT b σ)
  | .pow a _, σ => bzT a σ
  | .sub (.pow a f) b, σ => σ.2.2.1 f = true ∧ ((σ.2.1 f = 0 ∧ bzT a σ ∧ bzT b σ) ∨ (σ.2.1 f = 1 ∧ ((bzT a σ ∧ idW b σ) ∨ (idW a σ ∧ bzT b σ))))
  | .mul (.pow a _) b, σ => (bzT a σ ∧ idW b σ) ∨ (idW a σ ∧ bzT b σ)
  | _, _ => False
/-- σ2 and σ say the same of t -/
def eqW (t : tT) (σ2 σ : wS) : Prop := (∀ f, f ∈ fkT t → σ2.2.1 f = σ.2.1 f ∧ σ2.2.2.1 f = σ.2.2.1 f) ∧ (∀ d, d ∈ dsT t → σ2.2.2.2.1 d = σ.2.2.2.1 d)
theorem id_eq {t : tT} {σ2 σ : wS} (e : eqW t σ2 σ) (h : idW t σ) : idW t σ2 := ⟨fun f q => ⟨(e.1 f q).1.trans (h.1 f q).1, (e.1 f q).2.trans (h.1 f q).2⟩, fun d q => (e.2 d q).trans (h.2 d q)⟩
theorem eqW_mo {t u : tT} {σ2 σ : wS} (hf : ∀ f, f ∈ fkT t → f ∈ fkT u) (hd : ∀ d, d ∈ dsT t → d ∈ dsT u) (h : eqW u σ2 σ) : eqW t σ2 σ := ⟨fun f q => h.1 f (hf f q), fun d q => h.2 d (hd d q)⟩
theorem id_mo {t u : tT} {σ : wS} (hf : ∀ f, f ∈ fkT t → f ∈ fkT u) (hd : ∀ d, d ∈ dsT t → d ∈ dsT u) (h : idW u σ) : idW t σ := ⟨fun f q => h.1 f (hf f q), fun d q => h.2 d (hd d q)⟩
theorem apl {α : Type} {a b : List α} : ∀ x, x ∈ a → x ∈ a ++ b := fun _ q => List.mem_append.mpr (Or.inl q)
theorem apr {α : Type} {a b : List α} : ∀ x, x ∈ b → x ∈ a ++ b := fun _ q => List.mem_append.mpr (Or.inr q)
theorem cpl {f : Nat} {a b : List Nat} : ∀ x, x ∈ a → x ∈ f :: (a ++ b) := fun _ q => List.mem_cons_of_mem _ (List.mem_append.mpr (Or.inl q))
theorem cpr {f : Nat} {a b : List Nat} : ∀ x, x ∈ b → x ∈ f :: (a ++ b) := fun _ q => List.mem_cons_of_mem _ (List.mem_append.mpr (Or.inr q))
theorem bz_eq : ∀ t : tT, okT t = true → ∀ σ2 σ : wS, eqW t σ2 σ → bzT t σ → bzT t σ2 := by
  apply T_ind2
  · intro v σ2 σ e h; exact h
  · intro d σ2 σ e h; exact (e.2 d (List.mem_singleton.mpr rfl)).trans h
  · intro x σ2 σ e h; exact h
  · intro a b oa ob ia ib σ2 σ e h
    have ea : eqW a σ2 σ := eqW_mo apl apl e
    have eb : eqW b σ2 σ := eqW_mo apr apr e
    rcases h with ⟨h1, h2⟩ | ⟨h1, h2⟩
    · exact Or.inl ⟨ia _ _ ea h1, id_eq eb h2⟩
    · exact Or.inr ⟨id_eq ea h1, ib _ _ eb h2⟩
  · intro x a oa ia σ2 σ e h; exact ia σ2 σ e h
  · intro f a b oa ob ia ib σ2 σ e h
    have ea : eqW a σ2 σ := eqW_mo cpl apl e
    have eb : eqW b σ2 σ := eqW_mo cpr apr e
    have ef := e.1 f List.mem_cons_self
    obtain ⟨h0, h⟩ := h
    refine ⟨ef.2.trans h0, ?_⟩
    rcases h with ⟨h1, h2, h3⟩ | ⟨h1, ⟨h2, h3⟩ | ⟨h2, h3⟩⟩
    · exact Or.inl ⟨ef.1.trans h1, ia _ _ ea h2, ib _ _ eb h3⟩
    · exact Or.inr ⟨ef.1.trans h1, Or.inl ⟨ia _ _ ea h2, id_eq eb h3⟩⟩
    · exact Or.inr ⟨ef.1.trans h1, Or.inr ⟨id_eq ea h2, ib _ _ eb h3⟩⟩
  · intro x a b oa ob ia ib σ2 σ e h
    have ea : eqW a σ2 σ := eqW_mo apl apl e
    have eb : eqW b σ2 σ := eqW_mo apr apr e
    rcases h with ⟨h1, h2⟩ | ⟨h1, h2⟩
    · exact Or.inl ⟨ia _ _ ea h1, id_eq eb h2⟩
    · exact Or.inr ⟨id_eq ea h1, ib _ _ eb h2⟩
/-- numbers are given once -/
def ndT (t : tT) : Prop := (fkT t).Nodup ∧ (dsT t).Nodup
theorem nd_app {a b : List Nat} (h : (a ++ b).Nodup) : a.Nodup ∧ b.Nodup ∧ ∀ x, x ∈ a → x ∉ b := by
  have h' := List.nodup_append.mp h
  exact ⟨h'.1, h'.2.1, fun x hx hb => h'.2.2 x hx x hb rfl⟩
/-- where two ways have no number in common, a walk in one leaves the other -/
theorem eq_fr {t u : tT} {σ2 σ : wS} (hf : ∀ f, f ∈ fkT u → f ∉ fkT t) (hd : ∀ d, d ∈ dsT u → d ∉ dsT t) (h : frW t σ2 σ) : eqW u σ2 σ := ⟨fun f q => h.1 f (hf f q), fun d q => h.2 d (hd d q)⟩
theorem eqW_tr {t : tT} {σ3 σ2 σ : wS} (h1 : eqW t σ3 σ2) (h2 : eqW t σ2 σ) : eqW t σ3 σ := ⟨fun f q => ⟨(h1.1 f q).1.trans (h2.1 f q).1, (h1.1 f q).2.trans (h2.1 f q).2⟩, fun d q => (h1.2 d q).trans (h2.2 d q)⟩
theorem eqW_jn {t : tT} {f : Nat} {σ : wS} (hf : f ∉ fkT t) : eqW t (jn f σ).1 σ := by
  have h : ∀ g, g ∈ fkT t → g ≠ f := fun g hg q => hf (q ▸ hg)
  unfold jn
  split
  · exact ⟨fun g hg => by simp [va_up, h g hg], fun _ _ => rfl⟩
  · exact ⟨fun g hg => by simp [va_up, h g hg], fun _ _ => rfl⟩
theorem eqW_ac {t : tT} {f : Nat} {σ : wS} (hf : f ∉ fkT t) : eqW t (acS f σ) σ := ⟨fun g hg => by have : g ≠ f := fun q => hf (q ▸ hg); simp [acS, va_up, this], fun _ _ => rfl⟩
/-- what comes: at most each do once; nothing where the walk gets through -/
def cmW (t : tT) (σ2 : wS × Bool) (σ : wS) : Prop := ∃ N : List Nat, σ2.1.2.2.2.2 = σ.2.2.2.2 ++ N ∧ N.length ≤ (dsT t).length ∧ (∀ d, d ∈ N → d ∈ dsT t) ∧ (σ2.2 = true → N = [])
theorem cmW_0 {t : tT} {σ2 : wS × Bool} {σ : wS} (h : σ2.1.2.2.2.2 = σ.2.2.2.2) : cmW t σ2 σ := ⟨[], (by rw [h, List.append_nil]), Nat.zero_le _, (fun d q => by cases q), fun _ => rfl⟩
theorem jn_0 {f : Nat} {σ : wS} (h : σ.2.1 f = 0) : jn f σ = ((σ.1, va_up σ.2.1 f 1, σ.2.2), false) := by unfold jn; rw [if_neg (by omega), h]
theorem jn_1 {f : Nat} {σ : wS} (h : σ.2.1 f = 1) : jn f σ = ((σ.1, va_up σ.2.1 f 0, va_up σ.2.2.1 f false, σ.2.2.2), true) := by unfold jn; rw [if_pos (by omega)]
theorem en_mk : ∀ t : tT, okT t = true → ndT t → ∀ σ : wS, idW t σ → cmW t (enT t σ) σ ∧ ((enT t σ).2 = true → idW t (enT t σ).1) ∧ ((enT t σ).2 = false → bzT t (enT t σ).1) := by
  apply T_ind2
  · intro v hn σ hi; exact ⟨cmW_0 rfl, fun _ => hi, fun q => by cases q⟩
  · intro d hn σ hi
    refine ⟨⟨[d], rfl, Nat.le_refl _, fun e q => q, fun q => by cases q⟩, fun q => (by cases q), fun _ => ?_⟩
    show va_up σ.2.2.2.1 d (σ.2.2.2.1 d + 1) d = 1
    rw [w_up_self, hi.2 d (List.mem_singleton.mpr rfl)]
  · intro x hn σ hi; exact ⟨cmW_0 rfl, fun _ => hi, fun q => by cases q⟩
  · intro a b oa ob ia ib hn σ hi
    obtain ⟨f1, f2, f3⟩ := nd_app hn.1
    obtain ⟨d1, d2, d3⟩ := nd_app hn.2
    have hia : idW a σ := id_mo apl apl hi
    have hib : idW b σ := id_mo apr apr hi
    obtain ⟨⟨N, c1, c2, c3, c4⟩, g1, g2⟩ := ia ⟨f1, d1⟩ σ hia
    have hl : (dsT (tSeq a b)).length = (dsT a).length + (dsT b).length := List.length_append
    have eb : eqW b (enT a σ).1 σ := eq_fr (fun f q z => f3 f z q) (fun d q z => d3 d z q) (en_fr a oa σ)
    rw [en_seq]
    split
    · rename_i hh
      obtain ⟨⟨M, e1, e2, e3, e4⟩, k1, k2⟩ := ib ⟨f2, d2⟩ (enT a σ).1 (id_eq eb hib)
      have ea : eqW a (enT b (enT a σ).1).1 (enT a σ).1 := eq_fr f3 d3 (en_fr b ob _)
      rw [c4 hh, List.append_nil] at c1
      have hia2 := id_eq ea (g1 hh)
      refine ⟨⟨M, by rw [e1, c1], by omega, fun d q => apr d (e3 d q), e4⟩, fun q => ?_, fun q => Or.inr ⟨hia2, k2 q⟩⟩
      have hib2 := k1 q
      exact ⟨fun f z => (List.mem_append.mp z).elim (hia2.1 f) (hib2.1 f), fun d z => (List.mem_append.mp z).elim (hia2.2 d) (hib2.2 d)⟩
    · rename_i hh
      have hf : (enT a σ).2 = false := by cases q : (enT a σ).2 with | false => rfl | true => exact absurd q hh
      exact ⟨⟨N, c1, by omega, fun d q => apl d (c3 d q), fun q => by cases q⟩, fun q => (by cases q), fun _ => Or.inl ⟨g2 hf, id_eq eb hib⟩⟩
  · intro x a oa ia hn σ hi; exact ia hn σ hi
  · intro f a b oa ob ia ib hn σ hi
    obtain ⟨n1, n2⟩ := List.nodup_cons.mp hn.1
    obtain ⟨f1, f2, f3⟩ := nd_app n2
    obtain ⟨d1, d2, d3⟩ := nd_app hn.2
    have nfa : f ∉ fkT a := fun q => n1 (apl f q)
    have nfb : f ∉ fkT b := fun q => n1 (apr f q)
    have hl : (dsT (tBo f a b)).length = (dsT a).length + (dsT b).length := List.length_append
    have hia : idW a (acS f σ) := id_eq (eqW_ac nfa) (id_mo cpl apl hi)
    have hf0 := hi.1 f List.mem_cons_self
    obtain ⟨⟨N, c1, c2, c3, c4⟩, g1, g2⟩ := ia ⟨f1, d1⟩ (acS f σ) hia
    have hfa := (en_fr a oa (acS f σ)).1 f nfa
    have hac : (acS f σ).2.2.1 f = true := w_up_self _ _ _
    have hen : (acS f σ).2.1 f = 0 := hf0.1
    have ebA : eqW b (enT a (acS f σ)).1 σ := eqW_tr (eq_fr (fun g q z => f3 g z q) (fun d q z => d3 d z q) (en_fr a oa _)) (eqW_ac nfb)
    -- behind the first way
    have h1c : (en1 f a σ).2.2.2.2 = σ.2.2.2.2 ++ N := by
      unfold en1
      split
      · rw [(jn_cm f _).1]; exact c1
      · exact c1
    have h1a : (en1 f a σ).2.2.1 f = true := by
      unfold en1
      split
      · rw [jn_0 (hfa.1.trans hen)]; exact hfa.2.trans hac
      · exact hfa.2.trans hac
    have h1e : (en1 f a σ).2.1 f = (if (enT a (acS f σ)).2 = true then 1 else 0) := by
      unfold en1
      split
      · rw [jn_0 (hfa.1.trans hen)]; exact w_up_self _ _ _
      · exact hfa.1.trans hen
    have h1q : eqW a (en1 f a σ) (enT a (acS f σ)).1 := by
      unfold en1
      split
      · exact eqW_jn nfa
      · exact ⟨fun _ _ => ⟨rfl, rfl⟩, fun _ _ => rfl⟩
    have h1b : eqW b (en1 f a σ) σ := by
      refine eqW_tr ?_ ebA
      unfold en1
      split
      · exact eqW_jn nfb
      · exact ⟨fun _ _ => ⟨rfl, rfl⟩, fun _ _ => rfl⟩
    have hib : idW b (en1 f a σ) := id_eq h1b (id_mo cpr apr hi)
    obtain ⟨⟨M, e1, e2, e3, e4⟩, k1, k2⟩ := ib ⟨f2, d2⟩ (en1 f a σ) hib
    have hfb := (en_fr b ob (en1 f a σ)).1 f nfb
    have ea2 : eqW a (enT b (en1 f a σ)).1 (enT a (acS f σ)).1 := eqW_tr (eq_fr f3 d3 (en_fr b ob _)) h1q
    rw [h1c, List.append_assoc] at e1
    have hm : ∀ d, d ∈ N ++ M → d ∈ dsT (tBo f a b) := fun d q => (List.mem_append.mp q).elim (fun z => apl d (c3 d z)) (fun z => apr d (e3 d z))
    have hacT : (enT b (en1 f a σ)).1.2.2.1 f = true := hfb.2.trans h1a
    have heT : (enT b (en1 f a σ)).1.2.1 f = (if (enT a (acS f σ)).2 = true then 1 else 0) := hfb.1.trans h1e
    rw [en_bo]
    cases hA : (enT a (acS f σ)).2 with
    | true =>
      rw [hA, if_pos rfl] at heT
      have ida : idW a (enT b (en1 f a σ)).1 := id_eq ea2 (g1 hA)
      have hN := c4 hA
      subst hN
      cases hB : (enT b (en1 f a σ)).2 with
      | true =>
        rw [if_pos rfl, jn_1 heT]
        have hM := e4 hB
        subst hM
        refine ⟨⟨[], e1, Nat.zero_le _, fun d q => (by cases q), fun _ => rfl⟩, fun _ => ?_, fun q => by cases q⟩
        have idb := k1 hB
        refine ⟨fun g hg => ?_, fun d hd => ?_⟩
        · by_cases gf : g = f
          · subst gf; exact ⟨w_up_self _ _ _, w_up_self _ _ _⟩
          · show va_up _ f 0 g = 0 ∧ va_up _ f false g = false
            rw [w_up_ne _ _ gf, w_up_ne _ _ gf]
            rcases List.mem_cons.mp hg with q | q
            · exact absurd q gf
            · exact (List.mem_append.mp q).elim (ida.1 g) (idb.1 g)
        · exact (List.mem_append.mp hd).elim (ida.2 d) (idb.2 d)
      | false =>
        rw [if_neg (by decide)]
        refine ⟨⟨[] ++ M, e1, by rw [List.nil_append]; omega, hm, fun q => by cases q⟩, fun q => (by cases q), fun _ => ?_⟩
        exact ⟨hacT, Or.inr ⟨heT, Or.inr ⟨ida, k2 hB⟩⟩⟩
    | false =>
      rw [hA, if_neg (by decide)] at heT
      have bza : bzT a (enT b (en1 f a σ)).1 := bz_eq a oa _ _ ea2 (g2 hA)
      cases hB : (enT b (en1 f a σ)).2 with
      | true =>
        rw [if_pos rfl, jn_0 heT]
        have idb := k1 hB
        refine ⟨⟨N ++ M, e1, by rw [List.length_append]; omega, hm, fun q => by cases q⟩, fun q => (by cases q), fun _ => ?_⟩
        have z : ∀ u : tT, f ∉ fkT u → eqW u ((enT b (en1 f a σ)).1.1, va_up (enT b (en1 f a σ)).1.2.1 f 1, (enT b (en1 f a σ)).1.2.2) (enT b (en1 f a σ)).1 := fun u hu => ⟨fun g hg => ⟨w_up_ne _ _ (fun q => hu (q ▸ hg)), rfl⟩, fun _ _ => rfl⟩
        exact ⟨hacT, Or.inr ⟨w_up_self _ _ _, Or.inl ⟨bz_eq a oa _ _ (z a nfa) bza, id_eq (z b nfb) idb⟩⟩⟩
      | false =>
        rw [if_neg (by decide)]
        exact ⟨⟨N ++ M, e1, by rw [List.length_append]; omega, hm, fun q => by cases q⟩, fun q => (by cases q), fun _ => ⟨hacT, Or.inl ⟨heT, bza, k2 hB⟩⟩⟩
  · intro x a b oa ob ia ib hn σ hi
    obtain ⟨f1, f2, f3⟩ := nd_app hn.1
    obtain ⟨d1, d2, d3⟩ := nd_app hn.2
    have hia : idW a σ := id_mo apl apl hi
    have hib : idW b σ := id_mo apr apr hi
    have hl : (dsT (tIf x a b)).length = (dsT a).length + (dsT b).length := List.length_append
    rw [en_if]
    split
    · obtain ⟨⟨N, c1, c2, c3, c4⟩, g1, g2⟩ := ia ⟨f1, d1⟩ σ hia
      have eb : eqW b (enT a σ).1 σ := eq_fr (fun f q z => f3 f z q) (fun d q z => d3 d z q) (en_fr a oa σ)
      have hib2 := id_eq eb hib
      exact ⟨⟨N, c1, by omega, fun d q => apl d (c3 d q), c4⟩, fun q => ⟨fun f z => (List.mem_append.mp z).elim ((g1 q).1 f) (hib2.1 f), fun d z => (List.mem_append.mp z).elim ((g1 q).2 d) (hib2.2 d)⟩, fun q => Or.inl ⟨g2 q, hib2⟩⟩
    · obtain ⟨⟨N, c1, c2, c3, c4⟩, g1, g2⟩ := ib ⟨f2, d2⟩ σ hib
      have ea : eqW a (enT b σ).1 σ := eq_fr f3 d3 (en_fr b ob σ)
      have hia2 := id_eq ea hia
      exact ⟨⟨N, c1, by omega, fun d q => apr d (c3 d q), c4⟩, fun q => ⟨fun f z => (List.mem_append.mp z).elim (hia2.1 f) ((g1 q).1 f), fun d z => (List.mem_append.mp z).elim (hia2.2 d) ((g1 q).2 d)⟩, fun q => Or.inr ⟨hia2, g2 q⟩⟩
theorem bt_f {b : Bool} (h : ¬ b = true) : b = false := by cases b with | false => rfl | true => exact absurd rfl h
/-- behind the first way of a both -/
theorem en1_f {f : Nat} {a : tT} {σ : wS} (oa : okT a = true) (nfa : f ∉ fkT a) (h0 : σ.2.1 f = 0) : (en1 f a σ).2.1 f = (if (enT a (acS f σ)).2 = true then 1 else 0) ∧ (en1 f a σ).2.2.1 f = true := by
  have hfa := (en_fr a oa (acS f σ)).1 f nfa
  have hen : (acS f σ).2.1 f = 0 := h0
  have hac : (acS f σ).2.2.1 f = true := w_up_self _ _ _
  unfold en1
  split
  · rw [jn_0 (hfa.1.trans hen)]
    exact ⟨w_up_self _ _ _, hfa.2.trans hac⟩
  · exact ⟨hfa.1.trans hen, hfa.2.trans hac⟩
theorem en1_b {f : Nat} {a b : tT} {σ : wS} (oa : okT a = true) (nfb : f ∉ fkT b) (hf : ∀ g, g ∈ fkT b → g ∉ fkT a) (hd : ∀ d, d ∈ dsT b → d ∉ dsT a) : eqW b (en1 f a σ) σ := by
  refine eqW_tr ?_ (eqW_tr (eq_fr hf hd (en_fr a oa (acS f σ))) (eqW_ac nfb))
  unfold en1
  split
  · exact eqW_jn nfb
  · exact ⟨fun _ _ => ⟨rfl, rfl⟩, fun _ _ => rfl⟩
theorem en_hd : ∀ t : tT, okT t = true → ndT t → agT t = true → hdT t = true → ∀ σ : wS, idW t σ → (enT t σ).2 = false := by
  apply T_ind2
  · intro v hn ha hh; cases hh
  · intro d hn ha hh σ hi; rfl
  · intro x hn ha hh; cases hh
  · intro a b oa ob ia ib hn ha hh σ hi
    obtain ⟨f1, f2, f3⟩ := nd_app hn.1
    obtain ⟨d1, d2, d3⟩ := nd_app hn.2
    rw [agT, Bool.and_eq_true] at ha
    rw [en_seq]
    split
    · rename_i q
      rw [hdT, Bool.or_eq_true] at hh
      rcases hh with hh | hh
      · rw [ia ⟨f1, d1⟩ ha.1 hh σ (id_mo apl apl hi)] at q; cases q
      · exact ib ⟨f2, d2⟩ ha.2 hh _ (id_eq (eq_fr (fun f q z => f3 f z q) (fun d q z => d3 d z q) (en_fr a oa σ)) (id_mo apr apr hi))
    · rfl
  · intro x a oa ia hn ha hh σ hi
    rw [agT, Bool.and_eq_true] at ha
    exact ia hn ha.1 ha.2 σ hi
  · intro f a b oa ob ia ib hn ha hh σ hi
    obtain ⟨n1, n2⟩ := List.nodup_cons.mp hn.1
    obtain ⟨f1, f2, f3⟩ := nd_app n2
    obtain ⟨d1, d2, d3⟩ := nd_app hn.2
    have nfa : f ∉ fkT a := fun q => n1 (apl f q)
    have nfb : f ∉ fkT b := fun q => n1 (apr f q)
    rw [agT, Bool.and_eq_true] at ha
    rw [hdT, Bool.or_eq_true] at hh
    have hf0 := (hi.1 f List.mem_cons_self).1
    have h1 := en1_f (σ := σ) oa nfa hf0
    have hb1 : idW b (en1 f a σ) := id_eq (en1_b oa nfb (fun g q z => f3 g z q) (fun d q z => d3 d z q)) (id_mo cpr apr hi)
    rw [en_bo]
    split
    · rename_i q
      have hfb := (en_fr b ob (en1 f a σ)).1 f nfb
      rcases hh with hh | hh
      · have hA := ia ⟨f1, d1⟩ ha.1 hh (acS f σ) (id_eq (eqW_ac nfa) (id_mo cpl apl hi))
        rw [hA, if_neg (by decide)] at h1
        rw [jn_0 (hfb.1.trans h1.1)]
      · rw [ib ⟨f2, d2⟩ ha.2 hh _ hb1] at q; cases q
    · rfl
  · intro x a b oa ob ia ib hn ha hh σ hi
    obtain ⟨f1, f2, f3⟩ := nd_app hn.1
    obtain ⟨d1, d2, d3⟩ := nd_app hn.2
    rw [agT, Bool.and_eq_true] at ha
    rw [hdT, Bool.and_eq_true] at hh
    rw [en_if]
    split
    · exact ia ⟨f1, d1⟩ ha.1 hh.1 σ (id_mo apl apl hi)
    · exact ib ⟨f2, d2⟩ ha.2 hh.2 σ (id_mo apr apr hi)
/-- the task of do d still waits -/
def inS (d : Nat) (σ : wS) : wS := (σ.1, σ.2.1, σ.2.2.1, va_up σ.2.2.2.1 d 1, σ.2.2.2.2)
theorem eqW_in {t : tT} {d : Nat} {σ : wS} (hd : d ∉ dsT t) : eqW t (inS d σ) σ := ⟨fun _ _ => ⟨rfl, rfl⟩, fun e he => w_up_ne _ _ (fun q => hd (q ▸ he))⟩
theorem eqW_in2 {t : tT} {d : Nat} {σ : wS} (hd : d ∉ dsT t) : eqW t σ (inS d σ) := ⟨fun _ _ => ⟨rfl, rfl⟩, fun e he => (w_up_ne _ _ (fun (q : e = d) => hd (q ▸ he))).symm⟩
theorem not_id {t : tT} {d : Nat} {σ : wS} (hd : d ∈ dsT t) : ¬ idW t (inS d σ) := fun h => by
  have := h.2 d hd
  have e : (inS d σ).2.2.2.1 d = 1 := w_up_self _ _ _
  omega
theorem re_mk (d : Nat) : ∀ t : tT, okT t = true → ndT t → agT t = true → d ∈ dsT t → ∀ σ : wS, σ.2.2.2.1 d = 0 → bzT t (inS d σ) → cmW t (reT d t σ) σ ∧ ((reT d t σ).2 = true → idW t (reT d t σ).1) ∧ ((reT d t σ).2 = false → bzT t (reT d t σ).1) := by
  apply T_ind2
  · intro v hn ha hd; cases hd
  · intro e hn ha hd σ h0 hb
    have : d = e := List.mem_singleton.mp hd
    subst this
    exact ⟨cmW_0 rfl, fun _ => ⟨fun f q => (by cases q), fun g q => (by rw [show g = d from List.mem_singleton.mp q]; exact h0)⟩, fun q => by cases q⟩
  · intro x hn ha hd; cases hd
  · intro a b oa ob ia ib hn ha hd σ h0 hb
    obtain ⟨f1, f2, f3⟩ := nd_app hn.1
    obtain ⟨d1, d2, d3⟩ := nd_app hn.2
    rw [agT, Bool.and_eq_true] at ha
    have hl : (dsT (tSeq a b)).length = (dsT a).length + (dsT b).length := List.length_append
    rw [re_seq]
    by_cases hda : d ∈ dsT a
    · rw [if_pos hda]
      have hdb := d3 d hda
      rcases hb with ⟨hb1, hb2⟩ | ⟨hb1, hb2⟩
      · obtain ⟨⟨N, c1, c2, c3, c4⟩, g1, g2⟩ := ia ⟨f1, d1⟩ ha.1 hda σ h0 hb1
        have eb : eqW b (reT d a σ).1 σ := eq_fr (fun f q z => f3 f z q) (fun d q z => d3 d z q) (re_fr d a oa σ)
        have hib := id_eq eb (id_eq (eqW_in2 hdb) hb2)
        split
        · rename_i hh
          obtain ⟨⟨M, e1, e2, e3, e4⟩, k1, k2⟩ := en_mk b ob ⟨f2, d2⟩ (reT d a σ).1 hib
          have ea : eqW a (enT b (reT d a σ).1).1 (reT d a σ).1 := eq_fr f3 d3 (en_fr b ob _)
          rw [c4 hh, List.append_nil] at c1
          have hia2 := id_eq ea (g1 hh)
          exact ⟨⟨M, by rw [e1, c1], by omega, fun d q => apr d (e3 d q), e4⟩, fun q => ⟨fun f z => (List.mem_append.mp z).elim (hia2.1 f) ((k1 q).1 f), fun d z => (List.mem_append.mp z).elim (hia2.2 d) ((k1 q).2 d)⟩, fun q => Or.inr ⟨hia2, k2 q⟩⟩
        · rename_i hh
          exact ⟨⟨N, c1, by omega, fun d q => apl d (c3 d q), fun q => by cases q⟩, fun q => (by cases q), fun _ => Or.inl ⟨g2 (bt_f hh), hib⟩⟩
      · exact absurd hb1 (not_id hda)
    · rw [if_neg hda]
      have hdb : d ∈ dsT b := (List.mem_append.mp hd).resolve_left hda
      rcases hb with ⟨hb1, hb2⟩ | ⟨hb1, hb2⟩
      · exact absurd hb2 (not_id hdb)
      · obtain ⟨⟨N, c1, c2, c3, c4⟩, g1, g2⟩ := ib ⟨f2, d2⟩ ha.2 hdb σ h0 hb2
        have ea : eqW a (reT d b σ).1 σ := eq_fr f3 d3 (re_fr d b ob σ)
        have hia := id_eq ea (id_eq (eqW_in2 hda) hb1)
        exact ⟨⟨N, c1, by omega, fun d q => apr d (c3 d q), c4⟩, fun q => ⟨fun f z => (List.mem_append.mp z).elim (hia.1 f) ((g1 q).1 f), fun d z => (List.mem_append.mp z).elim (hia.2 d) ((g1 q).2 d)⟩, fun q => Or.inr ⟨hia, g2 q⟩⟩
  · intro x a oa ia hn ha hd σ h0 hb
    rw [agT, Bool.and_eq_true] at ha
    obtain ⟨⟨N, c1, c2, c3, c4⟩, g1, g2⟩ := ia hn ha.1 hd σ h0 hb
    rw [re_ag]
    split
    · rename_i hh
      rw [c4 hh, List.append_nil] at c1
      split
      · obtain ⟨⟨M, e1, e2, e3, e4⟩, k1, k2⟩ := en_mk a oa hn (reT d a σ).1 (g1 hh)
        exact ⟨⟨M, by rw [← c1]; exact e1, e2, e3, fun q => by cases q⟩, fun q => (by cases q), fun _ => k2 (en_hd a oa hn ha.1 ha.2 _ (g1 hh))⟩
      · exact ⟨cmW_0 c1, fun _ => g1 hh, fun q => by cases q⟩
    · rename_i hh
      exact ⟨⟨N, c1, c2, c3, fun q => by cases q⟩, fun q => (by cases q), fun _ => g2 (bt_f hh)⟩
  · intro f a b oa ob ia ib hn ha hd σ h0 hb
    obtain ⟨n1, n2⟩ := List.nodup_cons.mp hn.1
    obtain ⟨f1, f2, f3⟩ := nd_app n2
    obtain ⟨d1, d2, d3⟩ := nd_app hn.2
    have nfa : f ∉ fkT a := fun q => n1 (apl f q)
    have nfb : f ∉ fkT b := fun q => n1 (apr f q)
    have hl : (dsT (tBo f a b)).length = (dsT a).length + (dsT b).length := List.length_append
    rw [agT, Bool.and_eq_true] at ha
    obtain ⟨hac, hb⟩ := hb
    have hac : σ.2.2.1 f = true := hac
    have z : ∀ (u : tT) (τ : wS), f ∉ fkT u → eqW u (τ.1, va_up τ.2.1 f 1, τ.2.2) τ := fun u τ hu => ⟨fun g hg => ⟨w_up_ne _ _ (fun q => hu (q ▸ hg)), rfl⟩, fun _ _ => rfl⟩
    -- a way w of the two comes to its end or not; o is the other one
    have side : ∀ (w u : tT) (τ : wS × Bool), okT w = true → okT u = true → (∀ e, e ∈ dsT w → e ∈ dsT (tBo f a b)) → f ∉ fkT w → f ∉ fkT u → frW w τ.1 σ → eqW u τ.1 σ → (dsT w).length ≤ (dsT (tBo f a b)).length → cmW w τ σ → (τ.2 = true → idW w τ.1) → (τ.2 = false → bzT w τ.1) → ((σ.2.1 f = 0 ∧ bzT u σ) ∨ (σ.2.1 f = 1 ∧ idW u σ)) →
        (∀ τ2 : wS, idW w τ2 → idW u τ2 → τ2.2.1 f = 0 → τ2.2.2.1 f = false → idW (tBo f a b) τ2) → (∀ τ2 : wS, τ2.2.2.1 f = true → ((τ2.2.1 f = 0 ∧ bzT w τ2 ∧ bzT u τ2) ∨ (τ2.2.1 f = 1 ∧ ((bzT w τ2 ∧ idW u τ2) ∨ (idW w τ2 ∧ bzT u τ2)))) → bzT (tBo f a b) τ2) →
        cmW (tBo f a b) (if τ.2 = true then jn f τ.1 else (τ.1, false)) σ ∧ ((if τ.2 = true then jn f τ.1 else (τ.1, false)).2 = true → idW (tBo f a b) (if τ.2 = true then jn f τ.1 else (τ.1, false)).1) ∧ ((if τ.2 = true then jn f τ.1 else (τ.1, false)).2 = false → bzT (tBo f a b) (if τ.2 = true then jn f τ.1 else (τ.1, false)).1) := by
      intro w u τ ow ou hsub nw nu hfr hequ hlen hcm g1 g2 hcase hid hbz
      obtain ⟨N, c1, c2, c3, c4⟩ := hcm
      have hff := hfr.1 f nw
      have hacT : τ.1.2.2.1 f = true := hff.2.trans hac
      by_cases hh : τ.2 = true
      · rw [if_pos hh]
        have hN := c4 hh
        subst hN
        rw [List.append_nil] at c1
        have idw := g1 hh
        rcases hcase with ⟨h1, h2⟩ | ⟨h1, h2⟩
        · have bzu := bz_eq u ou _ _ hequ h2
          rw [jn_0 (hff.1.trans h1)]
          exact ⟨cmW_0 c1, fun q => (by cases q), fun _ => hbz _ hacT (Or.inr ⟨w_up_self _ _ _, Or.inr ⟨id_eq (z w τ.1 nw) idw, bz_eq u ou _ _ (z u τ.1 nu) bzu⟩⟩)⟩
        · have idu := id_eq hequ h2
          rw [jn_1 (hff.1.trans h1)]
          have z2 : ∀ v : tT, f ∉ fkT v → eqW v (τ.1.1, va_up τ.1.2.1 f 0, va_up τ.1.2.2.1 f false, τ.1.2.2.2) τ.1 := fun v hv => ⟨fun g hg => ⟨w_up_ne _ _ (fun q => hv (q ▸ hg)), w_up_ne _ _ (fun q => hv (q ▸ hg))⟩, fun _ _ => rfl⟩
          exact ⟨cmW_0 c1, fun _ => hid _ (id_eq (z2 w nw) idw) (id_eq (z2 u nu) idu) (w_up_self _ _ _) (w_up_self _ _ _), fun q => by cases q⟩
      · rw [if_neg hh]
        have bzw := g2 (bt_f hh)
        refine ⟨⟨N, c1, by omega, fun e q => hsub e (c3 e q), fun q => by cases q⟩, fun q => (by cases q), fun _ => ?_⟩
        rcases hcase with ⟨h1, h2⟩ | ⟨h1, h2⟩
        · exact hbz _ hacT (Or.inl ⟨hff.1.trans h1, bzw, bz_eq u ou _ _ hequ h2⟩)
        · exact hbz _ hacT (Or.inr ⟨hff.1.trans h1, Or.inl ⟨bzw, id_eq hequ h2⟩⟩)
    rw [re_bo]
    by_cases hda : d ∈ dsT a
    · rw [if_pos hda]
      have hdb := d3 d hda
      have hca : bzT a (inS d σ) ∧ ((σ.2.1 f = 0 ∧ bzT b σ) ∨ (σ.2.1 f = 1 ∧ idW b σ)) := by
        rcases hb with ⟨h1, h2, h3⟩ | ⟨h1, ⟨h2, h3⟩ | ⟨h2, h3⟩⟩
        · exact ⟨h2, Or.inl ⟨h1, bz_eq b ob _ _ (eqW_in2 hdb) h3⟩⟩
        · exact ⟨h2, Or.inr ⟨h1, id_eq (eqW_in2 hdb) h3⟩⟩
        · exact absurd h2 (not_id hda)
      obtain ⟨hcm, g1, g2⟩ := ia ⟨f1, d1⟩ ha.1 hda σ h0 hca.1
      exact side a b _ oa ob apl nfa nfb (re_fr d a oa σ) (eq_fr (fun g q y => f3 g y q) (fun e q y => d3 e y q) (re_fr d a oa σ)) (by omega) hcm g1 g2 hca.2 (fun τ2 i1 i2 i3 i4 => ⟨fun g hg => by
        rcases List.mem_cons.mp hg with q | q
        · rw [q]; exact ⟨i3, i4⟩
        · exact (List.mem_append.mp q).elim (i1.1 g) (i2.1 g), fun e he => (List.mem_append.mp he).elim (i1.2 e) (i2.2 e)⟩) (fun τ2 i1 i2 => ⟨i1, i2⟩)
    · rw [if_neg hda]
      have hdb : d ∈ dsT b := (List.mem_append.mp hd).resolve_left hda
      have hca : bzT b (inS d σ) ∧ ((σ.2.1 f = 0 ∧ bzT a σ) ∨ (σ.2.1 f = 1 ∧ idW a σ)) := by
        rcases hb with ⟨h1, h2, h3⟩ | ⟨h1, ⟨h2, h3⟩ | ⟨h2, h3⟩⟩
        · exact ⟨h3, Or.inl ⟨h1, bz_eq a oa _ _ (eqW_in2 hda) h2⟩⟩
        · exact absurd h3 (not_id hdb)
        · exact ⟨h3, Or.inr ⟨h1, id_eq (eqW_in2 hda) h2⟩⟩
      obtain ⟨hcm, g1, g2⟩ := ib ⟨f2, d2⟩ ha.2 hdb σ h0 hca.1
      exact side b a _ ob oa apr nfb nfa (re_fr d b ob σ) (eq_fr f3 d3 (re_fr d b ob σ)) (by omega) hcm g1 g2 hca.2 (fun τ2 i1 i2 i3 i4 => ⟨fun g hg => by
        rcases List.mem_cons.mp hg with q | q
        · rw [q]; exact ⟨i3, i4⟩
        · exact (List.mem_append.mp q).elim (i2.1 g) (i1.1 g), fun e he => (List.mem_append.mp he).elim (i2.2 e) (i1.2 e)⟩) (fun τ2 i1 i2 => ⟨i1, by
        rcases i2 with ⟨k1, k2, k3⟩ | ⟨k1, ⟨k2, k3⟩ | ⟨k2, k3⟩⟩
        · exact Or.inl ⟨k1, k3, k2⟩
        · exact Or.inr ⟨k1, Or.inr ⟨k3, k2⟩⟩
        · exact Or.inr ⟨k1, Or.inl ⟨k3, k2⟩⟩⟩)
  · intro x a b oa ob ia ib hn ha hd σ h0 hb
    obtain ⟨f1, f2, f3⟩ := nd_app hn.1
    obtain ⟨d1, d2, d3⟩ := nd_app hn.2
    rw [agT, Bool.and_eq_true] at ha
    have hl : (dsT (tIf x a b)).length = (dsT a).length + (dsT b).length := List.length_append
    rw [re_if]
    by_cases hda : d ∈ dsT a
    · rw [if_pos hda]
      rcases hb with ⟨hb1, hb2⟩ | ⟨hb1, hb2⟩
      · obtain ⟨⟨N, c1, c2, c3, c4⟩, g1, g2⟩ := ia ⟨f1, d1⟩ ha.1 hda σ h0 hb1
        have eb : eqW b (reT d a σ).1 σ := eq_fr (fun f q z => f3 f z q) (fun d q z => d3 d z q) (re_fr d a oa σ)
        have hib := id_eq eb (id_eq (eqW_in2 (d3 d hda)) hb2)
        exact ⟨⟨N, c1, by omega, fun d q => apl d (c3 d q), c4⟩, fun q => ⟨fun f z => (List.mem_append.mp z).elim ((g1 q).1 f) (hib.1 f), fun d z => (List.mem_append.mp z).elim ((g1 q).2 d) (hib.2 d)⟩, fun q => Or.inl ⟨g2 q, hib⟩⟩
      · exact absurd hb1 (not_id hda)
    · rw [if_neg hda]
      have hdb : d ∈ dsT b := (List.mem_append.mp hd).resolve_left hda
      rcases hb with ⟨hb1, hb2⟩ | ⟨hb1, hb2⟩
      · exact absurd hb2 (not_id hdb)
      · obtain ⟨⟨N, c1, c2, c3, c4⟩, g1, g2⟩ := ib ⟨f2, d2⟩ ha.2 hdb σ h0 hb2
        have ea : eqW a (reT d b σ).1 σ := eq_fr f3 d3 (re_fr d b ob σ)
        have hia := id_eq ea (id_eq (eqW_in2 hda) hb1)
        exact ⟨⟨N, c1, by omega, fun d q => apr d (c3 d q), c4⟩, fun q => ⟨fun f z => (List.mem_append.mp z).elim (hia.1 f) ((g1 q).1 f), fun d z => (List.mem_append.mp z).elim (hia.2 d) ((g1 q).2 d)⟩, fun q => Or.inr ⟨hia, g2 q⟩⟩
