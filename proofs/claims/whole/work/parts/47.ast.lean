/-! what a business says, as a tree: nothing, do d, set x (field x / 100 to x % 100), one behind the other, again x, both f, if x -/
abbrev tT : Type := Lean.Grind.CommRing.Expr
abbrev tSkip : tT := .num 0
abbrev tDo (d : Nat) : tT := .natCast d
abbrev tSet (x : Nat) : tT := .var x
abbrev tSeq (a b : tT) : tT := .add a b
abbrev tAg (x : Nat) (a : tT) : tT := .pow a x
abbrev tBo (f : Nat) (a b : tT) : tT := .sub (.pow a f) b
abbrev tIf (x : Nat) (a b : tT) : tT := .mul (.pow a x) b
def okT : tT → Bool
  | .num _ => true
  | .natCast _ => true
  | .var _ => true
  | .add a b => okT a && okT b
  | .pow a _ => okT a
  | .sub (.pow a _) b => okT a && okT b
  | .mul (.pow a _) b => okT a && okT b
  | _ => false
theorem T_ind {P : tT → Prop} (h0 : ∀ v, P (.num v)) (h1 : ∀ d, P (tDo d)) (h2 : ∀ x, P (tSet x)) (h3 : ∀ a b, P a → P b → P (tSeq a b)) (h4 : ∀ x a, P a → P (tAg x a)) (h5 : ∀ f a b, P a → P b → P (tBo f a b)) (h6 : ∀ x a b, P a → P b → P (tIf x a b)) : ∀ t : tT, okT t = true → P t
  | .num v, _ => h0 v
  | .natCast d, _ => h1 d
  | .var x, _ => h2 x
  | .add a b, h => by
    rw [okT, Bool.and_eq_true] at h
    exact h3 a b (T_ind h0 h1 h2 h3 h4 h5 h6 a h.1) (T_ind h0 h1 h2 h3 h4 h5 h6 b h.2)
  | .pow a x, h => by
    rw [okT] at h
    exact h4 x a (T_ind h0 h1 h2 h3 h4 h5 h6 a h)
  | .sub (.pow a f) b, h => by
    rw [okT, Bool.and_eq_true] at h
    exact h5 f a b (T_ind h0 h1 h2 h3 h4 h5 h6 a h.1) (T_ind h0 h1 h2 h3 h4 h5 h6 b h.2)
  | .mul (.pow a x) b, h => by
    rw [okT, Bool.and_eq_true] at h
    exact h6 x a b (T_ind h0 h1 h2 h3 h4 h5 h6 a h.1) (T_ind h0 h1 h2 h3 h4 h5 h6 b h.2)
  | .intCast _, h => by cases h
  | .neg _, h => by cases h
  | .sub (.num _) _, h => by cases h
  | .sub (.natCast _) _, h => by cases h
  | .sub (.intCast _) _, h => by cases h
  | .sub (.var _) _, h => by cases h
  | .sub (.neg _) _, h => by cases h
  | .sub (.add _ _) _, h => by cases h
  | .sub (.sub _ _) _, h => by cases h
  | .sub (.mul _ _) _, h => by cases h
  | .mul (.num _) _, h => by cases h
  | .mul (.natCast _) _, h => by cases h
  | .mul (.intCast _) _, h => by cases h
  | .mul (.var _) _, h => by cases h
  | .mul (.neg _) _, h => by cases h
  | .mul (.add _ _) _, h => by cases h
  | .mul (.sub _ _) _, h => by cases h
  | .mul (.mul _ _) _, h => by cases h
/-- how many orders: of the reference, of the class -/
def szR : tT → Nat
  | .natCast _ => 1
  | .var _ => 1
  | .add a b => szR a + szR b
  | .pow a _ => szR a + 1
  | .sub (.pow a _) b => szR a + szR b + 3
  | .mul (.pow a _) b => szR a + szR b + 2
  | _ => 0
def szC : tT → Nat
  | .natCast _ => 1
  | .var _ => 1
  | .add a b => szC a + szC b
  | .pow a _ => szC a + 3
  | .sub (.pow a _) b => szC a + szC b + 3
  | .mul (.pow a _) b => szC a + szC b + 2
  | _ => 0
/-- whether no way leads through without a do -/
def hdT : tT → Bool
  | .natCast _ => true
  | .add a b => hdT a || hdT b
  | .pow _ _ => true
  | .sub (.pow a _) b => hdT a || hdT b
  | .mul (.pow a _) b => hdT a && hdT b
  | _ => false
/-- each again holds a do -/
def agT : tT → Bool
  | .add a b => agT a && agT b
  | .pow a _ => agT a && hdT a
  | .sub (.pow a _) b => agT a && agT b
  | .mul (.pow a _) b => agT a && agT b
  | _ => true
/-- the numbers of its dos, of its boths, of its labels -/
def dsT : tT → List Nat
  | .natCast d => [d]
  | .add a b => dsT a ++ dsT b
  | .pow a _ => dsT a
  | .sub (.pow a _) b => dsT a ++ dsT b
  | .mul (.pow a _) b => dsT a ++ dsT b
  | _ => []
def fkT : tT → List Nat
  | .add a b => fkT a ++ fkT b
  | .pow a _ => fkT a
  | .sub (.pow a f) b => f :: (fkT a ++ fkT b)
  | .mul (.pow a _) b => fkT a ++ fkT b
  | _ => []
def lbT : tT → Bool
  | .var x => decide (x < 400)
  | .add a b => lbT a && lbT b
  | .pow a x => lbT a && decide (x < 400)
  | .sub (.pow a _) b => lbT a && lbT b
  | .mul (.pow a x) b => lbT a && lbT b && decide (x < 400)
  | _ => true
/-- the reference's rows o a b t hold the tree's orders from k on -/
def iR (o a b t : Nat → Int32) : tT → Nat → Prop
  | .natCast d, k => o k = 0 ∧ a k = nI d
  | .var x, k => o k = 1 ∧ a k = nI (x / 100) ∧ b k = nI (x % 100)
  | .add p q, k => iR o a b t p k ∧ iR o a b t q (k + szR p)
  | .pow p x, k => iR o a b t p k ∧ o (k + szR p) = 4 ∧ a (k + szR p) = nI (x / 100) ∧ b (k + szR p) = nI (x % 100) ∧ t (k + szR p) = nI k
  | .sub (.pow p f) q, k => (o k = 5 ∧ a k = nI f ∧ t k = nI (k + szR p + 2)) ∧ iR o a b t p (k + 1) ∧ (o (k + szR p + 1) = 6 ∧ a (k + szR p + 1) = nI f ∧ t (k + szR p + 1) = nI (k + szR p + szR q + 3)) ∧ iR o a b t q (k + szR p + 2) ∧ o (k + szR p + szR q + 2) = 6 ∧ a (k + szR p + szR q + 2) = nI f ∧ t (k + szR p + szR q + 2) = nI (k + szR p + szR q + 3)
  | .mul (.pow p x) q, k => (o k = 2 ∧ a k = nI (x / 100) ∧ b k = nI (x % 100) ∧ t k = nI (k + szR p + 2)) ∧ iR o a b t p (k + 1) ∧ (o (k + szR p + 1) = 3 ∧ t (k + szR p + 1) = nI (k + szR p + szR q + 2)) ∧ iR o a b t q (k + szR p + 2)
  | _, _ => True
/-- the class's rows o a n t hold the tree's orders from k on; pl says where each do stands -/
def iC (o a n t pl : Nat → Int32) : tT → Nat → Prop
  | .natCast d, k => o k = 0 ∧ a k = nI d ∧ pl d = nI k
  | .var x, k => o k = 1 ∧ a k = nI (x / 100) ∧ n k = nI (x % 100)
  | .add p q, k => iC o a n t pl p k ∧ iC o a n t pl q (k + szC p)
  | .pow p x, k => (o k = 3 ∧ t k = nI (k + 2)) ∧ (o (k + 1) = 2 ∧ a (k + 1) = nI (x / 100) ∧ n (k + 1) = nI (x % 100) ∧ t (k + 1) = nI (k + szC p + 3)) ∧ iC o a n t pl p (k + 2) ∧ o (k + szC p + 2) = 3 ∧ t (k + szC p + 2) = nI (k + 1)
  | .sub (.pow p f) q, k => (o k = 4 ∧ a k = nI f ∧ t k = nI (k + szC p + 2)) ∧ iC o a n t pl p (k + 1) ∧ (o (k + szC p + 1) = 5 ∧ a (k + szC p + 1) = nI f ∧ t (k + szC p + 1) = nI (k + szC p + szC q + 3)) ∧ iC o a n t pl q (k + szC p + 2) ∧ o (k + szC p + szC q + 2) = 5 ∧ a (k + szC p + szC q + 2) = nI f ∧ t (k + szC p + szC q + 2) = nI (k + szC p + szC q + 3)
  | .mul (.pow p x) q, k => (o k = 2 ∧ a k = nI (x / 100) ∧ n k = nI (x % 100) ∧ t k = nI (k + szC p + 2)) ∧ iC o a n t pl p (k + 1) ∧ (o (k + szC p + 1) = 3 ∧ t (k + szC p + 1) = nI (k + szC p + szC q + 2)) ∧ iC o a n t pl q (k + szC p + 2)
  | _, _ => True
theorem iR_cg {o a b t o2 a2 b2 t2 : Nat → Int32} : ∀ p : tT, okT p = true → ∀ k, (∀ j, k ≤ j → j < k + szR p → o2 j = o j ∧ a2 j = a j ∧ b2 j = b j ∧ t2 j = t j) → iR o a b t p k → iR o2 a2 b2 t2 p k := by
  apply T_ind
  · intro v k h hi; exact hi
  · intro d k h hi
    have e := h k (Nat.le_refl _) (by show k < k + 1; omega)
    exact ⟨e.1.trans hi.1, e.2.1.trans hi.2⟩
  · intro x k h hi
    have e := h k (Nat.le_refl _) (by show k < k + 1; omega)
    exact ⟨e.1.trans hi.1, e.2.1.trans hi.2.1, e.2.2.1.trans hi.2.2⟩
  · intro p q ip iq k h hi
    have hz : szR (tSeq p q) = szR p + szR q := rfl
    exact ⟨ip k (fun j a1 a2 => h j a1 (by omega)) hi.1, iq _ (fun j a1 a2 => h j (by omega) (by omega)) hi.2⟩
  · intro x p ip k h hi
    have hz : szR (tAg x p) = szR p + 1 := rfl
    have e := h (k + szR p) (by omega) (by omega)
    exact ⟨ip k (fun j a1 a2 => h j a1 (by omega)) hi.1, e.1.trans hi.2.1, e.2.1.trans hi.2.2.1, e.2.2.1.trans hi.2.2.2.1, e.2.2.2.trans hi.2.2.2.2⟩
  · intro f p q ip iq k h hi
    have hz : szR (tBo f p q) = szR p + szR q + 3 := rfl
    obtain ⟨⟨a1, a2, a3⟩, a4, ⟨a5, a6, a7⟩, a8, a9, a10, a11⟩ := hi
    have e1 := h k (by omega) (by omega)
    have e2 := h (k + szR p + 1) (by omega) (by omega)
    have e3 := h (k + szR p + szR q + 2) (by omega) (by omega)
    exact ⟨⟨e1.1.trans a1, e1.2.1.trans a2, e1.2.2.2.trans a3⟩, ip _ (fun j b1 b2 => h j (by omega) (by omega)) a4, ⟨e2.1.trans a5, e2.2.1.trans a6, e2.2.2.2.trans a7⟩, iq _ (fun j b1 b2 => h j (by omega) (by omega)) a8, e3.1.trans a9, e3.2.1.trans a10, e3.2.2.2.trans a11⟩
  · intro x p q ip iq k h hi
    have hz : szR (tIf x p q) = szR p + szR q + 2 := rfl
    obtain ⟨⟨a1, a2, a3, a3b⟩, a4, ⟨a5, a6⟩, a8⟩ := hi
    have e1 := h k (by omega) (by omega)
    have e2 := h (k + szR p + 1) (by omega) (by omega)
    exact ⟨⟨e1.1.trans a1, e1.2.1.trans a2, e1.2.2.1.trans a3, e1.2.2.2.trans a3b⟩, ip _ (fun j b1 b2 => h j (by omega) (by omega)) a4, ⟨e2.1.trans a5, e2.2.2.2.trans a6⟩, iq _ (fun j b1 b2 => h j (by omega) (by omega)) a8⟩
theorem iC_cg {o a b t pl o2 a2 b2 t2 pl2 : Nat → Int32} : ∀ p : tT, okT p = true → ∀ k, (∀ j, k ≤ j → j < k + szC p → o2 j = o j ∧ a2 j = a j ∧ b2 j = b j ∧ t2 j = t j) → (∀ d, d ∈ dsT p → pl2 d = pl d) → iC o a b t pl p k → iC o2 a2 b2 t2 pl2 p k := by
  apply T_ind
  · intro v k h hd hi; exact hi
  · intro d k h hd hi
    have e := h k (Nat.le_refl _) (by show k < k + 1; omega)
    exact ⟨e.1.trans hi.1, e.2.1.trans hi.2.1, (hd d (List.mem_singleton.mpr rfl)).trans hi.2.2⟩
  · intro x k h hd hi
    have e := h k (Nat.le_refl _) (by show k < k + 1; omega)
    exact ⟨e.1.trans hi.1, e.2.1.trans hi.2.1, e.2.2.1.trans hi.2.2⟩
  · intro p q ip iq k h hd hi
    have hz : szC (tSeq p q) = szC p + szC q := rfl
    exact ⟨ip k (fun j a1 a2 => h j a1 (by omega)) (fun d m => hd d (List.mem_append.mpr (Or.inl m))) hi.1, iq _ (fun j a1 a2 => h j (by omega) (by omega)) (fun d m => hd d (List.mem_append.mpr (Or.inr m))) hi.2⟩
  · intro x p ip k h hd hi
    have hz : szC (tAg x p) = szC p + 3 := rfl
    obtain ⟨⟨a1, a2⟩, ⟨a3, a4, a5, a6⟩, a7, a8, a9⟩ := hi
    have e1 := h k (by omega) (by omega)
    have e2 := h (k + 1) (by omega) (by omega)
    have e3 := h (k + szC p + 2) (by omega) (by omega)
    exact ⟨⟨e1.1.trans a1, e1.2.2.2.trans a2⟩, ⟨e2.1.trans a3, e2.2.1.trans a4, e2.2.2.1.trans a5, e2.2.2.2.trans a6⟩, ip _ (fun j b1 b2 => h j (by omega) (by omega)) hd a7, e3.1.trans a8, e3.2.2.2.trans a9⟩
  · intro f p q ip iq k h hd hi
    have hz : szC (tBo f p q) = szC p + szC q + 3 := rfl
    obtain ⟨⟨a1, a2, a3⟩, a4, ⟨a5, a6, a7⟩, a8, a9, a10, a11⟩ := hi
    have e1 := h k (by omega) (by omega)
    have e2 := h (k + szC p + 1) (by omega) (by omega)
    have e3 := h (k + szC p + szC q + 2) (by omega) (by omega)
    exact ⟨⟨e1.1.trans a1, e1.2.1.trans a2, e1.2.2.2.trans a3⟩, ip _ (fun j b1 b2 => h j (by omega) (by omega)) (fun d m => hd d (List.mem_append.mpr (Or.inl m))) a4, ⟨e2.1.trans a5, e2.2.1.trans a6, e2.2.2.2.trans a7⟩, iq _ (fun j b1 b2 => h j (by omega) (by omega)) (fun d m => hd d (List.mem_append.mpr (Or.inr m))) a8, e3.1.trans a9, e3.2.1.trans a10, e3.2.2.2.trans a11⟩
  · intro x p q ip iq k h hd hi
    have hz : szC (tIf x p q) = szC p + szC q + 2 := rfl
    obtain ⟨⟨a1, a2, a3, a3b⟩, a4, ⟨a5, a6⟩, a8⟩ := hi
    have e1 := h k (by omega) (by omega)
    have e2 := h (k + szC p + 1) (by omega) (by omega)
    exact ⟨⟨e1.1.trans a1, e1.2.1.trans a2, e1.2.2.1.trans a3, e1.2.2.2.trans a3b⟩, ip _ (fun j b1 b2 => h j (by omega) (by omega)) (fun d m => hd d (List.mem_append.mpr (Or.inl m))) a4, ⟨e2.1.trans a5, e2.2.2.2.trans a6⟩, iq _ (fun j b1 b2 => h j (by omega) (by omega)) (fun d m => hd d (List.mem_append.mpr (Or.inr m))) a8⟩
