/-! THE INVARIANT between the class's world and the reference's, and what a pair of calls must do -/
abbrev bG : Type := tT × Nat × (Nat → Nat) × (Nat → Nat) × (Nat → Int32)
/-- a business: its tree, how many dos, their roles, hours, eyes -/
def okB (g : bG) : Prop := gdT g.1 ∧ ndT g.1 ∧ dsT g.1 = List.range g.2.1 ∧ g.2.1 ≤ 40 ∧ (∀ f, f ∈ fkT g.1 → f < 40) ∧ (fkT g.1).length ≤ 40 ∧ szR g.1 < 200 ∧ szC g.1 + 1 ≤ 121 ∧ ∀ i, i < g.2.1 → g.2.2.1 i ≤ 5 ∧ (1 ≤ g.2.2.2.1 i ∧ g.2.2.2.1 i ≤ 99) ∧ eyOK g.2.1 (g.2.2.2.2 i)
/-- the class's block b holds it -/
def bzC (Λ : wL) (F : Nat → Nat → Int32) (R : Nat → Nat → Nat → Int32) (b mb : Nat) (g : bG) : Prop := Lk Λ b 3 mb ∧ F b 1 = nI g.2.1 ∧ F b 3 = nI (szC g.1 + 1) ∧ R b 4 (szC g.1) = 6 ∧ iC (R b 4) (R b 5) (R b 6) (R b 7) (R b 11) g.1 0 ∧ ∀ i, i < g.2.1 → R b 8 i = nI (g.2.2.1 i) ∧ R b 9 i = nI (g.2.2.2.1 i) ∧ R b 10 i = g.2.2.2.2 i
/-- the current business -/
def curI (Λ : wL) (F : Nat → Nat → Int32) (O : Nat → Nat → Option Nat) (R : Nat → Nat → Nat → Int32) (F9 : Nat → Int32) (R9 : Nat → Nat → Int32) (d : Nat) (q : Option (Nat × Nat × Nat × bG)) : Prop := match q with
  | none => O 0 6 = none ∧ F9 23 = -1
  | some (b, mb, s, g) => O 0 6 = some mb ∧ b ≠ d ∧ s ≤ 40 ∧ okB g ∧ bzC Λ F R b mb g ∧ F b 0 = nI s ∧ F9 23 = nI s ∧ F9 24 = nI g.2.1 ∧ F9 25 = nI (szR g.1) ∧ iR (R9 26) (R9 27) (R9 28) (R9 29) g.1 0 ∧ ∀ i, i < g.2.1 → R9 30 i = nI (g.2.2.1 i) ∧ R9 31 i = nI (g.2.2.2.1 i) ∧ R9 32 i = g.2.2.2.2 i
/-- a run: its business; the numbers and places of its block and its business's; the walk's marks; whether it is over -/
abbrev rG : Type := bG × (Nat × Nat × Nat × Nat) × wS × Bool
def rnC (Λ : wL) (F : Nat → Nat → Int32) (O : Nat → Nat → Option Nat) (R : Nat → Nat → Nat → Int32) (d r : Nat) (q : rG) : Prop := bzC Λ F R q.2.1.2.2.1 q.2.1.2.2.2 q.1 ∧ q.2.1.2.2.1 ≠ d ∧ Lk Λ q.2.1.1 7 q.2.1.2.1 ∧ O 7 r = some q.2.1.2.1 ∧ O q.2.1.1 1 = some q.2.1.2.2.2 ∧ F q.2.1.1 0 = nI r ∧ F q.2.1.1 5 = wb q.2.2.2 ∧ (∀ i, i < 4 → R q.2.1.1 2 i = q.2.2.1.1 i) ∧ (∀ f, f < 40 → R q.2.1.1 3 f = nI (wy q.2.2.1 f))
def rn9 (R9 : Nat → Nat → Int32) (r : Nat) (q : rG) : Prop := R9 41 r = nI (szR q.1.1) ∧ iR (fun j => R9 42 (200 * r + j)) (fun j => R9 43 (200 * r + j)) (fun j => R9 44 (200 * r + j)) (fun j => R9 45 (200 * r + j)) q.1.1 0 ∧ (∀ i, i < q.1.2.1 → R9 46 (40 * r + i) = nI (q.1.2.2.1 i) ∧ R9 47 (40 * r + i) = nI (q.1.2.2.2.1 i) ∧ R9 48 (40 * r + i) = q.1.2.2.2.2 i) ∧ R9 51 r = wb q.2.2.2 ∧ (∀ i, i < 4 → R9 49 (4 * r + i) = q.2.2.1.1 i) ∧ (∀ f, f < 40 → R9 50 (40 * r + f) = nI (q.2.2.1.2.1 f))
def rnG (q : rG) : Prop := okB q.1 ∧ q.2.2.1.2.2.2.2 = [] ∧ (q.2.2.2 = true → idW q.1.1 q.2.2.1) ∧ (q.2.2.2 = false → bzT q.1.1 q.2.2.1)
/-- the tasks of do d of run r that aren't done -/
def Ptd (R9 : Nat → Nat → Int32) (r d : Nat) : Nat → Bool := fun t => decide (R9 56 t = nI r) && decide (R9 57 t = nI d) && !decide (R9 61 t = 2)
def rnT (F : Nat → Nat → Int32) (R : Nat → Nat → Nat → Int32) (R9 : Nat → Nat → Int32) (c r : Nat) (q : rG) : Prop := F q.2.1.1 6 = nI (cntB (Prn R9 (nI r)) c) ∧ (∀ i, i < 40 → R q.2.1.1 4 i = (dlM R9 (nI r) (nI i) c).1) ∧ (∀ i, i < q.1.2.1 → q.2.2.1.2.2.2.1 i = cntB (Ptd R9 r i) c)
def runI (Λ : wL) (F : Nat → Nat → Int32) (O : Nat → Nat → Option Nat) (R : Nat → Nat → Nat → Int32) (R9 : Nat → Nat → Int32) (d c r : Nat) (q : rG) : Prop := rnG q ∧ rnC Λ F O R d r q ∧ rn9 R9 r q ∧ rnT F R R9 c r q
/-- a task -/
def tkS (R9 : Nat → Nat → Int32) (np dm t : Nat) : Prop := R9 61 t = 0 ∨ ((R9 61 t = 1 ∨ (R9 61 t = 2 ∧ ∃ k, k < dm ∧ R9 70 t = nI k)) ∧ ∃ p, p < np ∧ R9 62 t = nI p)
def tkQ (R : Nat → Nat → Nat → Int32) (R9 : Nat → Nat → Int32) (t : Nat) : Prop := R 5 1 t = R9 56 t ∧ R 5 2 t = R9 57 t ∧ R 5 4 t = R9 59 t ∧ R 5 5 t = R9 60 t ∧ R 5 6 t = R9 61 t ∧ R 5 7 t = R9 62 t ∧ R 5 8 t = R9 63 t
def tkR (R : Nat → Nat → Nat → Int32) (R9 : Nat → Nat → Int32) (nr : Nat) (q : Nat → rG) (t : Nat) : Prop := ∃ r d, r < nr ∧ d < (q r).1.2.1 ∧ R9 56 t = nI r ∧ R9 57 t = nI d ∧ R9 58 t = nI (psR (q r).1.1 0 d + 1) ∧ R 5 3 t = nI ((q r).1.2.2.1 d)
/-- no hour of doing before it is done -/
def tkD (R9 : Nat → Nat → Int32) (t : Nat) : Prop := ¬ R9 61 t = 2 → R9 63 t = -1
def tkI (R : Nat → Nat → Nat → Int32) (R9 : Nat → Nat → Int32) (np dm nr : Nat) (q : Nat → rG) (t : Nat) : Prop := tkQ R R9 t ∧ tkR R R9 nr q t ∧ tkS R9 np dm t ∧ tkD R9 t
/-- the tasks by due -/
def bdI (R : Nat → Nat → Nat → Int32) (R9 : Nat → Nat → Int32) (c : Nat) (bd : Nat → Nat) : Prop := (∀ k, k < c → R 5 9 k = nI (bd k) ∧ bd k < c) ∧ ∀ i j, i < j → j < c → R9 60 (bd i) < R9 60 (bd j) ∨ (R9 60 (bd i) = R9 60 (bd j) ∧ bd i < bd j)
def layI (B : Nat) (Λ : wL) (O : Nat → Nat → Option Nat) (R : Nat → Nat → Nat → Int32) (sz nb d md : Nat) : Prop := hH Λ O B (B + 1) (B + 2) (B + 21) (B + 28) (B + 38) (B + 43) ∧ (∀ y, sz ≤ y → Λ.1 y = none) ∧ (∀ y, B + 44 ≤ y → y < B + 94 → Λ.1 y = none) ∧ (∀ k, nb ≤ k → ∀ y, Λ.1 y ≠ some k) ∧ Lk Λ d 3 md ∧ O 1 3 = some md ∧ B + 94 ≤ sz ∧ ∀ j, j < 9 → R 2 6 j = nI (wkN j)
def scI (F : Nat → Nat → Int32) (R : Nat → Nat → Nat → Int32) (F9 : Nat → Int32) (R9 : Nat → Nat → Int32) (L a : Nat) : Prop := F 2 1 = nI L ∧ F9 1 = nI L ∧ L ≤ 300 ∧ R 2 0 = R9 0 ∧ F 0 7 = nI a ∧ F9 54 = nI a ∧ a ≤ 20000 ∧ F 0 8 = F9 9 ∧ F 0 9 = F9 10
def psI (F : Nat → Nat → Int32) (R : Nat → Nat → Nat → Int32) (F9 : Nat → Int32) (R9 : Nat → Nat → Int32) (np c : Nat) : Prop := F 4 0 = nI np ∧ F9 64 = nI np ∧ np ≤ 8 ∧ R 4 1 = R9 65 ∧ R 4 2 = R9 66 ∧ R 4 5 = R9 67 ∧ R 4 6 = R9 68 ∧ (∀ p, p < np → okP np (R9 67 p)) ∧ ∀ p, p < np → R 4 3 p = nI (cntB (Pcl R9 (nI p)) c) ∧ R 4 4 p = nI (cntB (Pdn R9 (nI p)) c)
def nmI (F : Nat → Nat → Int32) (F9 : Nat → Int32) (R9 : Nat → Nat → Int32) (c nr dm : Nat) : Prop := F 5 0 = nI c ∧ F9 55 = nI c ∧ c ≤ 200 ∧ F 0 5 = nI nr ∧ F9 40 = nI nr ∧ nr ≤ 8 ∧ F9 71 = nI dm ∧ dm = cntB (fun t => decide (R9 61 t = 2)) c
def invG (B : Nat) (Λ : wL) (F : Nat → Nat → Int32) (O : Nat → Nat → Option Nat) (R : Nat → Nat → Nat → Int32) (sz : Nat) (F9 : Nat → Int32) (R9 : Nat → Nat → Int32) (nb d md L a np c nr dm : Nat) (cu : Option (Nat × Nat × Nat × bG)) (q : Nat → rG) (bd : Nat → Nat) : Prop :=
  layI B Λ O R sz nb d md ∧ scI F R F9 R9 L a ∧ psI F R F9 R9 np c ∧ nmI F F9 R9 c nr dm ∧ curI Λ F O R F9 R9 d cu ∧ (∀ r, r < nr → runI Λ F O R R9 d c r (q r)) ∧ (∀ t, t < c → tkI R R9 np dm nr q t) ∧ bdI R R9 c bd
def Inv (B : Nat) (Λ : wL) (F : Nat → Nat → Int32) (O : Nat → Nat → Option Nat) (R : Nat → Nat → Nat → Int32) (sz : Nat) (F9 : Nat → Int32) (R9 : Nat → Nat → Int32) : Prop := ∃ (nb d md L a np c nr dm : Nat) (cu : Option (Nat × Nat × Nat × bG)) (q : Nat → rG) (bd : Nat → Nat), invG B Λ F O R sz F9 R9 nb d md L a np c nr dm cu q bd
/-! the heap of both -/
def hp (B : Nat) (Λ : wL) (F : Nat → Nat → Int32) (O : Nat → Nat → Option Nat) (R : Nat → Nat → Nat → Int32) (sz : Nat) (F9 : Nat → Int32) (tl : Int64) (R9 : Nat → Nat → Int32) (NL : Nat → Int64) : wH := (wld Λ F O R (mh (B + 44) F9 tl R9 NL (fun _ => none)), sz)
theorem hp_sw {m : Nat} {Λ : wL} {F : Nat → Nat → Int32} {O : Nat → Nat → Option Nat} {R : Nat → Nat → Nat → Int32} {F9 : Nat → Int32} {tl : Int64} {R9 : Nat → Nat → Int32} {NL : Nat → Int64} {h0 : Nat → Option wE} (hL : ∀ y, m ≤ y → y < m + 50 → Λ.1 y = none) : wld Λ F O R (mh m F9 tl R9 NL h0) = mh m F9 tl R9 NL (wld Λ F O R h0) := by
  funext y
  by_cases hy : m ≤ y ∧ y < m + 50
  · have e := hL y hy.1 hy.2
    simp only [wld, e, mh]
  · have e1 : ∀ h : Nat → Option wE, mh m F9 tl R9 NL h y = h y := fun h => by
      simp only [mh]
      rw [if_neg (by omega), if_neg (by omega)]
    rw [e1]
    cases hl : Λ.1 y with
    | none => simp only [wld, hl]; exact e1 _
    | some i =>
      simp only [wld, hl]
      by_cases hk : inK (Λ.2 i).1 (Λ.2 i).2 y
      · exact kb_in _ _ hk
      · rw [kb_out _ hk, kb_out _ hk, e1]
/-- both are called, they answer alike, and the invariant holds again -/
def Pair (G : wG) (B : Nat) (Mc M9 : wM) (as : List Value) (h : wH) : Prop := ∃ v : Int32, Sat G Mc (.ref B :: as) h (fun a h1 => a = some (.int v) ∧ (∃ V, h1.1 (B + 44) = some (.inr (8, V))) ∧ Sat G M9 (.ref (B + 44) :: as) h1 (fun b h2 => b = some (.int v) ∧ ∃ (Λ : wL) (F : Nat → Nat → Int32) (O : Nat → Nat → Option Nat) (R : Nat → Nat → Nat → Int32) (sz : Nat) (F9 : Nat → Int32) (tl : Int64) (R9 : Nat → Nat → Int32) (NL : Nat → Int64), h2 = hp B Λ F O R sz F9 tl R9 NL ∧ Inv B Λ F O R sz F9 R9))
section PAIR
variable {G : wG} {B : Nat} {Mc M9 : wM} {as : List Value} {Λ Λ2 : wL} {F F2 : Nat → Nat → Int32} {O O2 : Nat → Nat → Option Nat} {R R2 : Nat → Nat → Nat → Int32} {sz sz2 : Nat} {F9 F92 : Nat → Int32} {tl tl2 : Int64} {R9 R92 : Nat → Nat → Int32} {NL NL2 : Nat → Int64} {v : Int32}
theorem Inv.lay (I : Inv B Λ F O R sz F9 R9) : ∀ y, B + 44 ≤ y → y < B + 44 + 50 → Λ.1 y = none := by
  obtain ⟨nb, d, md, L, a, np, c, nr, dm, cu, q, bd, I1, -⟩ := I
  exact fun y h1 h2 => I1.2.2.1 y h1 (by omega)
theorem pair_of (c1 : Sat G Mc (.ref B :: as) (wld Λ F O R (mh (B + 44) F9 tl R9 NL (fun _ => none)), sz) (Det (some (.int v)) (wld Λ2 F2 O2 R2 (mh (B + 44) F9 tl R9 NL (fun _ => none)), sz2))) (hL2 : ∀ y, B + 44 ≤ y → y < B + 44 + 50 → Λ2.1 y = none) (c2 : Sat G M9 (.ref (B + 44) :: as) (mh (B + 44) F9 tl R9 NL (wld Λ2 F2 O2 R2 (fun _ => none)), sz2) (Det (some (.int v)) (mh (B + 44) F92 tl2 R92 NL2 (wld Λ2 F2 O2 R2 (fun _ => none)), sz2))) (I : Inv B Λ2 F2 O2 R2 sz2 F92 R92) : Pair G B Mc M9 as (hp B Λ F O R sz F9 tl R9 NL) := by
  refine ⟨v, Sat.mono c1 ?_⟩
  rintro a h1 ⟨rfl, rfl⟩
  rw [hp_sw hL2]
  refine ⟨rfl, ⟨_, mh_obj⟩, Sat.mono c2 ?_⟩
  rintro b h2 ⟨rfl, rfl⟩
  exact ⟨rfl, Λ2, F2, O2, R2, sz2, F92, tl2, R92, NL2, by rw [hp, hp_sw hL2], I⟩
/-- nothing changes -/
theorem pair_same (I : Inv B Λ F O R sz F9 R9) (c1 : Sat G Mc (.ref B :: as) (wld Λ F O R (mh (B + 44) F9 tl R9 NL (fun _ => none)), sz) (Det (some (.int v)) (wld Λ F O R (mh (B + 44) F9 tl R9 NL (fun _ => none)), sz))) (c2 : Sat G M9 (.ref (B + 44) :: as) (mh (B + 44) F9 tl R9 NL (wld Λ F O R (fun _ => none)), sz) (Det (some (.int v)) (mh (B + 44) F9 tl R9 NL (wld Λ F O R (fun _ => none)), sz))) : Pair G B Mc M9 as (hp B Λ F O R sz F9 tl R9 NL) := pair_of c1 I.lay c2 I
theorem Det_eq {M : wM} {av : List Value} {h h2 h2' : wH} {w w' : Option Value} (hs : Sat G M av h (Det w h2)) (e1 : w = w') (e2 : h2 = h2') : Sat G M av h (Det w' h2') := by subst e1; subst e2; exact hs
end PAIR
