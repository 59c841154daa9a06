/-! steps that make no task and no run -/
def dynB (Λ : wL) (d i : Nat) : Prop := ∃ m, (Lk Λ i 3 m ∧ i ≠ d) ∨ Lk Λ i 7 m
def sdB (Λ : wL) (F : Nat → Nat → Int32) (O : Nat → Nat → Option Nat) (R : Nat → Nat → Nat → Int32) (d : Nat) (F2 : Nat → Nat → Int32) (O2 : Nat → Nat → Option Nat) (R2 : Nat → Nat → Nat → Int32) : Prop := ∀ i, dynB Λ d i → F2 i = F i ∧ R2 i = R i ∧ O2 i = O i
section QUIET
variable {G : wG} {B : Nat} {Λ : wL} {F F2 : Nat → Nat → Int32} {O O2 : Nat → Nat → Option Nat} {R R2 : Nat → Nat → Nat → Int32} {sz : Nat} {F9 F92 : Nat → Int32} {R9 R92 : Nat → Nat → Int32} {nb d md L a np c nr dm : Nat} {cu : Option (Nat × Nat × Nat × bG)} {q : Nat → rG} {bd : Nat → Nat}
theorem dyn_ne {x mr mt mp mk mw ma i : Nat} (H : hH Λ O x mr mt mp mk mw ma) (h : dynB Λ d i) : i ≠ 0 ∧ i ≠ 1 ∧ i ≠ 2 ∧ i ≠ 4 ∧ i ≠ 5 ∧ i ≠ 6 ∧ i ≠ 7 := by
  obtain ⟨m, ⟨h, -⟩ | h⟩ := h
  · exact ⟨Lk_ne h H.1 (by decide), Lk_ne h H.2.1 (by decide), Lk_ne h H.2.2.1 (by decide), Lk_ne h H.2.2.2.1 (by decide), Lk_ne h H.2.2.2.2.1 (by decide), Lk_ne h H.2.2.2.2.2.1 (by decide), Lk_ne h H.2.2.2.2.2.2.1 (by decide)⟩
  · exact ⟨Lk_ne h H.1 (by decide), Lk_ne h H.2.1 (by decide), Lk_ne h H.2.2.1 (by decide), Lk_ne h H.2.2.2.1 (by decide), Lk_ne h H.2.2.2.2.1 (by decide), Lk_ne h H.2.2.2.2.2.1 (by decide), Lk_ne h H.2.2.2.2.2.2.1 (by decide)⟩
theorem bzC_cg {b mb : Nat} {g : bG} (hs : sdB Λ F O R d F2 O2 R2) (hd : b ≠ d) (h : bzC Λ F R b mb g) : bzC Λ F2 R2 b mb g := by
  obtain ⟨e1, e2, -⟩ := hs b ⟨mb, Or.inl ⟨h.1, hd⟩⟩
  unfold bzC
  rw [e1, e2]
  exact h
theorem rnC_cg {r : Nat} {q : rG} (hs : sdB Λ F O R d F2 O2 R2) (h7 : O2 7 = O 7) (h : rnC Λ F O R d r q) : rnC Λ F2 O2 R2 d r q := by
  obtain ⟨h1, h2, h3, h4, h5, h6, h8, h9, h10⟩ := h
  obtain ⟨e1, e2, e3⟩ := hs q.2.1.1 ⟨_, Or.inr h3⟩
  exact ⟨bzC_cg hs h2 h1, h2, h3, by rw [h7]; exact h4, by rw [e3]; exact h5, by rw [e1]; exact h6, by rw [e1]; exact h8, by rw [e2]; exact h9, by rw [e2]; exact h10⟩
theorem rn9_cg {r : Nat} {q : rG} (hr : ∀ k, 41 ≤ k → k ≤ 51 → R92 k = R9 k) (h : rn9 R9 r q) : rn9 R92 r q := by
  unfold rn9
  rw [hr 41 (by decide) (by decide), hr 42 (by decide) (by decide), hr 43 (by decide) (by decide), hr 44 (by decide) (by decide), hr 45 (by decide) (by decide), hr 46 (by decide) (by decide), hr 47 (by decide) (by decide), hr 48 (by decide) (by decide), hr 49 (by decide) (by decide), hr 50 (by decide) (by decide), hr 51 (by decide) (by decide)]
  exact h
/-- what the runs' counts see of a task -/
def tkE (R92 R9 : Nat → Nat → Int32) (t : Nat) : Prop := R92 56 t = R9 56 t ∧ R92 57 t = R9 57 t ∧ (R92 61 t = 2 ↔ R9 61 t = 2) ∧ (R9 61 t = 2 → R92 62 t = R9 62 t ∧ R92 70 t = R9 70 t)
theorem tkE_of {t : Nat} (h : ∀ k, 56 ≤ k → k ≤ 63 → R92 k = R9 k) (h70 : R92 70 = R9 70) : tkE R92 R9 t := ⟨by rw [h 56 (by decide) (by decide)], by rw [h 57 (by decide) (by decide)], by rw [h 61 (by decide) (by decide)], fun _ => ⟨by rw [h 62 (by decide) (by decide)], by rw [h70]⟩⟩
theorem dec_iff {p q : Prop} [Decidable p] [Decidable q] (h : p ↔ q) : decide p = decide q := by
  by_cases hp : p
  · rw [decide_eq_true hp, decide_eq_true (h.mp hp)]
  · rw [decide_eq_false hp, decide_eq_false (fun z => hp (h.mpr z))]
theorem dlM_cg {r w : Int32} : ∀ {c : Nat}, (∀ t, t < c → tkE R92 R9 t) → dlM R92 r w c = dlM R9 r w c
  | 0, _ => rfl
  | c + 1, h => by
    have ih := dlM_cg (r := r) (w := w) (c := c) (fun t ht => h t (by omega))
    obtain ⟨e1, e2, e3, e4⟩ := h c (by omega)
    rw [dlM, dlM, ih, e1, e2]
    by_cases h2 : R9 61 c = 2
    · obtain ⟨e5, e6⟩ := e4 h2
      rw [e5, e6, e3.mpr h2, h2]
    · rw [if_neg (fun z => h2 (e3.mp z.2.2.1)), if_neg (fun z => h2 z.2.2.1)]
theorem rnT_cg {r : Nat} {q : rG} (hs : sdB Λ F O R d F2 O2 R2) (hU : Lk Λ q.2.1.1 7 q.2.1.2.1) (ht : ∀ t, t < c → tkE R92 R9 t) (h : rnT F R R9 c r q) : rnT F2 R2 R92 c r q := by
  obtain ⟨h1, h2, h3⟩ := h
  obtain ⟨e1, e2, -⟩ := hs q.2.1.1 ⟨_, Or.inr hU⟩
  refine ⟨?_, fun i hi => ?_, fun i hi => ?_⟩
  · rw [e1, h1]
    congr 1
    refine cntB_cg (fun t h4 => ?_)
    obtain ⟨a1, a2, a3, a4⟩ := ht t h4
    simp only [Prn, a1, dec_iff a3]
  · rw [e2, h2 i hi, dlM_cg ht]
  · rw [h3 i hi]
    refine cntB_cg (fun t h4 => ?_)
    obtain ⟨a1, a2, a3, a4⟩ := ht t h4
    simp only [Ptd, a1, a2, dec_iff a3]
theorem curI_cg (hs : sdB Λ F O R d F2 O2 R2) (h0 : O2 0 6 = O 0 6) (hf : ∀ k, 23 ≤ k → k ≤ 25 → F92 k = F9 k) (hr : ∀ k, 26 ≤ k → k ≤ 32 → R92 k = R9 k) (h : curI Λ F O R F9 R9 d cu) : curI Λ F2 O2 R2 F92 R92 d cu := by
  match cu, h with
  | none, h => exact ⟨by rw [h0]; exact h.1, by rw [hf 23 (by decide) (by decide)]; exact h.2⟩
  | some (b, mb, s, g), h =>
    obtain ⟨h1, h2, h3, h4, h5, h6, h7, h8, h9, h10, h11⟩ := h
    obtain ⟨e1, e2, -⟩ := hs b ⟨mb, Or.inl ⟨h5.1, h2⟩⟩
    refine ⟨by rw [h0]; exact h1, h2, h3, h4, bzC_cg hs h2 h5, by rw [e1]; exact h6, by rw [hf 23 (by decide) (by decide)]; exact h7, by rw [hf 24 (by decide) (by decide)]; exact h8, by rw [hf 25 (by decide) (by decide)]; exact h9, ?_, ?_⟩
    · rw [hr 26 (by decide) (by decide), hr 27 (by decide) (by decide), hr 28 (by decide) (by decide), hr 29 (by decide) (by decide)]; exact h10
    · rw [hr 30 (by decide) (by decide), hr 31 (by decide) (by decide), hr 32 (by decide) (by decide)]; exact h11
/-- a quiet step -/
theorem inv_q {L' a' np' : Nat} (I : invG B Λ F O R sz F9 R9 nb d md L a np c nr dm cu q bd) (hs : sdB Λ F O R d F2 O2 R2) (hO0 : O2 0 = O 0) (hO1 : O2 1 = O 1) (hO7 : O2 7 = O 7) (hwk : R2 2 6 = R 2 6) (h59 : R2 5 9 = R 5 9) (sc : scI F2 R2 F92 R92 L' a') (ps : psI F2 R2 F92 R92 np' c) (nm : nmI F2 F92 R92 c nr dm) (hf : ∀ k, 23 ≤ k → k ≤ 25 → F92 k = F9 k) (hr : ∀ k, 26 ≤ k → k ≤ 32 ∨ 41 ≤ k ∧ k ≤ 51 → R92 k = R9 k) (h60 : R92 60 = R9 60) (ht : ∀ t, t < c → tkE R92 R9 t) (tk : ∀ t, t < c → tkI R2 R92 np' dm nr q t) : Inv B Λ F2 O2 R2 sz F92 R92 := by
  obtain ⟨I1, I2, I3, I4, I5, I6, I7, I8⟩ := I
  refine ⟨nb, d, md, L', a', np', c, nr, dm, cu, q, bd, ?_, sc, ps, nm, ?_, ?_, tk, ?_⟩
  · obtain ⟨⟨k1, k2, k3, k4, k5, k6, k7, k8, k9, k10, k11, k12, k13⟩, l2, l3, l4, l5, l6, l7, l8⟩ := I1
    exact ⟨⟨k1, k2, k3, k4, k5, k6, k7, by rw [hO0]; exact k8, by rw [hO0]; exact k9, by rw [hO0]; exact k10, by rw [hO0]; exact k11, by rw [hO0]; exact k12, by rw [hO1]; exact k13⟩, l2, l3, l4, l5, by rw [hO1]; exact l6, l7, by rw [hwk]; exact l8⟩
  · exact curI_cg hs (by rw [hO0]) hf (fun k h1 h2 => hr k (by omega) (Or.inl h2)) I5
  · intro r hr'
    obtain ⟨g1, g2, g3, g4⟩ := I6 r hr'
    exact ⟨g1, rnC_cg hs hO7 g2, rn9_cg (fun k h1 h2 => hr k (by omega) (Or.inr ⟨h1, h2⟩)) g3, rnT_cg hs g2.2.2.1 ht g4⟩
  · unfold bdI
    rw [h59, h60]
    exact I8
/-- the tasks where their rows stay -/
theorem tkI_cg {np' t : Nat} (h5 : R2 5 = R 5) (hr : ∀ k, 56 ≤ k → k ≤ 63 → R92 k = R9 k) (h70 : R92 70 = R9 70) (hn : np ≤ np') (h : tkI R R9 np dm nr q t) : tkI R2 R92 np' dm nr q t := by
  unfold tkI tkQ tkR tkS tkD at *
  rw [h5, hr 56 (by decide) (by decide), hr 57 (by decide) (by decide), hr 58 (by decide) (by decide), hr 59 (by decide) (by decide), hr 60 (by decide) (by decide), hr 61 (by decide) (by decide), hr 62 (by decide) (by decide), hr 63 (by decide) (by decide), h70]
  refine ⟨h.1, h.2.1, ?_, h.2.2.2⟩
  rcases h.2.2.1 with z | ⟨z1, p, z2, z3⟩
  · exact Or.inl z
  · exact Or.inr ⟨z1, p, by omega, z3⟩
/-- a quiet step that leaves the tasks -/
theorem inv_q2 {L' a' np' : Nat} (I : invG B Λ F O R sz F9 R9 nb d md L a np c nr dm cu q bd) (hs : sdB Λ F O R d F2 O2 R2) (hO0 : O2 0 = O 0) (hO1 : O2 1 = O 1) (hO7 : O2 7 = O 7) (hwk : R2 2 6 = R 2 6) (h5 : R2 5 = R 5) (sc : scI F2 R2 F92 R92 L' a') (ps : psI F2 R2 F92 R92 np' c) (nm : nmI F2 F92 R92 c nr dm) (hf : ∀ k, 23 ≤ k → k ≤ 25 → F92 k = F9 k) (hr : ∀ k, 26 ≤ k ∧ k ≤ 32 ∨ 41 ≤ k ∧ k ≤ 51 ∨ 56 ≤ k ∧ k ≤ 63 ∨ k = 70 → R92 k = R9 k) (hn : np ≤ np') : Inv B Λ F2 O2 R2 sz F92 R92 :=
  inv_q I hs hO0 hO1 hO7 hwk (by rw [h5]) sc ps nm hf (fun k h1 h2 => hr k (by omega)) (hr 60 (by omega)) (fun t _ => tkE_of (fun k h1 h2 => hr k (by omega)) (hr 70 (by omega))) (fun t h => tkI_cg h5 (fun k h1 h2 => hr k (by omega)) (hr 70 (by omega)) hn (I.2.2.2.2.2.2.1 t h))
theorem psI_cg (h4 : F2 4 0 = F 4 0) (hR : R2 4 = R 4) (h64 : F92 64 = F9 64) (hr : ∀ k, 56 ≤ k ∧ k ≤ 63 ∨ 65 ≤ k ∧ k ≤ 68 → R92 k = R9 k) (h : psI F R F9 R9 np c) : psI F2 R2 F92 R92 np c := by
  unfold psI Pcl Pdn at *
  rw [h4, hR, h64, hr 65 (by omega), hr 66 (by omega), hr 67 (by omega), hr 68 (by omega), hr 61 (by omega), hr 62 (by omega)]
  exact h
theorem nmI_cg (h1 : F2 5 0 = F 5 0) (h2 : F92 55 = F9 55) (h3 : F2 0 5 = F 0 5) (h4 : F92 40 = F9 40) (h5 : F92 71 = F9 71) (h61 : R92 61 = R9 61) (h : nmI F F9 R9 c nr dm) : nmI F2 F92 R92 c nr dm := by
  unfold nmI at *
  rw [h1, h2, h3, h4, h5, h61]
  exact h
end QUIET
section PR1
variable {G : wG} {B : Nat} {Λ : wL} {F : Nat → Nat → Int32} {O : Nat → Nat → Option Nat} {R : Nat → Nat → Nat → Int32} {sz : Nat} {F9 : Nat → Int32} {tl : Int64} {R9 : Nat → Nat → Int32} {NL : Nat → Int64}
theorem upd_ne {f : Nat → Int32} {k j : Nat} {v : Int32} (h : j ≠ k) : upd f k v j = f j := by simp [upd, h]
theorem pr_feed (I : Inv B Λ F O R sz F9 R9) (x1 x2 x3 x4 x5 : Int32) : Pair G B mX8_feed mX9_feed [.int x1, .int x2, .int x3, .int x4, .int x5] (hp B Λ F O R sz F9 tl R9 NL) := by
  have I0 := I
  obtain ⟨nb, d, md, L, a, np, c, nr, dm, cu, q, bd, J⟩ := I
  have J0 := J
  obtain ⟨I1, ⟨s1, s2, s3, s4, s5, s6, s7, s8, s9⟩, I3, I4, I5, I6, I7, I8⟩ := J
  by_cases h : L + 20 ≤ 300
  · refine pair_of (c8_feed I1.1 s1 h) I0.lay (c9_feed s2 h) ?_
    refine inv_q2 (L' := L + 20) (a' := a) (np' := np) J0 (fun i hi => ?_) rfl rfl rfl rfl rfl ?_ ?_ ?_ (fun k h1 h2 => upd_ne (by omega)) (fun k h1 => w_up_ne _ _ (by omega)) (Nat.le_refl _)
    · obtain ⟨n0, n1, n2, n4, n5, n6, n7⟩ := dyn_ne I1.1 hi
      exact ⟨w_up_ne _ _ n2, w_up_ne _ _ n2, rfl⟩
    · exact ⟨rfl, rfl, h, by show fed (R 2 0) L _ _ _ _ _ = fed (R9 0) L _ _ _ _ _; rw [s4], s5, s6, s7, s8, s9⟩
    · exact psI_cg rfl rfl rfl (fun k h1 => w_up_ne _ _ (by omega)) I3
    · exact nmI_cg rfl rfl rfl rfl rfl rfl I4
  · exact pair_same I0 (c8_feed0 I1.1 s1 s3 (by omega)) (c9_feed0 s2 (by omega) s3)
theorem pr_end (I : Inv B Λ F O R sz F9 R9) (x1 : Int32) : Pair G B mX8_end mX9_end [.int x1] (hp B Λ F O R sz F9 tl R9 NL) := by
  have I0 := I
  obtain ⟨nb, d, md, L, a, np, c, nr, dm, cu, q, bd, J⟩ := I
  have J0 := J
  obtain ⟨I1, ⟨s1, s2, s3, s4, s5, s6, s7, s8, s9⟩, I3, I4, I5, I6, I7, I8⟩ := J
  by_cases h : wIn x1 (L + 1) = true
  · obtain ⟨j, h1, h2⟩ := (wIn_iff (by omega)).mp h
    have c2 := c9_end (G := G) (m := B + 44) (tl := tl) (R := R9) (NL := NL) (h0 := wld Λ (va_up F 2 (upd (F 2) 1 x1)) O R (fun _ => none)) (sz := sz) (x := x1) s2 s3
    rw [if_pos h, if_pos h] at c2
    refine pair_of (c8_end I1.1 s1 s3 h2 (by omega)) I0.lay c2 ?_
    refine inv_q2 (L' := j) (a' := a) (np' := np) J0 (fun i hi => ?_) rfl rfl rfl rfl rfl ?_ ?_ ?_ (fun k h1 h2 => upd_ne (by omega)) (fun k h1 => rfl) (Nat.le_refl _)
    · obtain ⟨n0, n1, n2, n4, n5, n6, n7⟩ := dyn_ne I1.1 hi
      exact ⟨w_up_ne _ _ n2, rfl, rfl⟩
    · exact ⟨h2, h2, by omega, s4, s5, s6, s7, s8, s9⟩
    · exact psI_cg rfl rfl rfl (fun k h1 => rfl) I3
    · exact nmI_cg rfl rfl rfl rfl rfl rfl I4
  · have h' : wIn x1 (L + 1) = false := by cases hh : wIn x1 (L + 1) with | true => exact absurd hh h | false => rfl
    have c2 := c9_end (G := G) (m := B + 44) (tl := tl) (R := R9) (NL := NL) (h0 := wld Λ F O R (fun _ => none)) (sz := sz) (x := x1) s2 s3
    rw [if_neg h, if_neg h] at c2
    exact pair_same I0 (c8_end0 I1.1 s1 s3 h') c2
theorem pr_fault (I : Inv B Λ F O R sz F9 R9) (x1 : Int32) : Pair G B mX8_fault mX9_fault [.int x1] (hp B Λ F O R sz F9 tl R9 NL) := by
  have I0 := I
  obtain ⟨nb, d, md, L, a, np, c, nr, dm, cu, q, bd, I1, ⟨s1, s2, s3, s4, s5, s6, s7, s8, s9⟩, I3, I4, I5, I6, I7, I8⟩ := I
  exact pair_same I0 (c8_fault I1.1) (Det_eq c9_fault (by rw [s8, s9]) rfl)
theorem pr_hour (I : Inv B Λ F O R sz F9 R9) (x1 : Int32) : Pair G B mX8_hour mX9_hour [.int x1] (hp B Λ F O R sz F9 tl R9 NL) := by
  have I0 := I
  obtain ⟨nb, d, md, L, a, np, c, nr, dm, cu, q, bd, J⟩ := I
  have J0 := J
  obtain ⟨I1, ⟨s1, s2, s3, s4, s5, s6, s7, s8, s9⟩, I3, I4, I5, I6, I7, I8⟩ := J
  have e : decide ((F9 54).toInt ≤ x1.toInt ∧ x1.toInt ≤ 20000) = true ↔ (F 0 7 ≤ x1 ∧ x1 ≤ 20000) := by
    rw [decide_eq_true_iff, s5, s6, Int32.le_iff_toInt_le, Int32.le_iff_toInt_le]
    rfl
  by_cases h : F 0 7 ≤ x1 ∧ x1 ≤ 20000
  · have hx : ∃ j, j ≤ 20000 ∧ x1 = nI j := by
      have h1 := Int32.le_iff_toInt_le.mp h.1
      have h2 := Int32.le_iff_toInt_le.mp h.2
      rw [s5, nI_toInt (by omega)] at h1
      have z : (20000 : Int32).toInt = 20000 := rfl
      obtain ⟨j, hj, hj2⟩ := (wIn_iff (x := x1) (n := 20001) (by decide)).mp (decide_eq_true ⟨by omega, by omega⟩)
      exact ⟨j, by omega, hj2⟩
    obtain ⟨j, hj, hj2⟩ := hx
    have c2 := c9_hour (G := G) (m := B + 44) (F := F9) (tl := tl) (R := R9) (NL := NL) (h0 := wld Λ (va_up F 0 (upd (F 0) 7 x1)) O R (fun _ => none)) (sz := sz) (x := x1)
    rw [if_pos (e.mpr h), if_pos (e.mpr h)] at c2
    refine pair_of (c8_hour I1.1 h) I0.lay c2 ?_
    refine inv_q2 (L' := L) (a' := j) (np' := np) J0 (fun i hi => ?_) rfl rfl rfl rfl rfl ?_ ?_ ?_ (fun k h1 h2 => upd_ne (by omega)) (fun k h1 => rfl) (Nat.le_refl _)
    · obtain ⟨n0, n1, n2, n4, n5, n6, n7⟩ := dyn_ne I1.1 hi
      exact ⟨w_up_ne _ _ n0, rfl, rfl⟩
    · exact ⟨s1, s2, s3, s4, hj2, hj2, hj, s8, s9⟩
    · exact psI_cg rfl rfl rfl (fun k h1 => rfl) I3
    · exact nmI_cg rfl rfl rfl rfl rfl rfl I4
  · have c2 := c9_hour (G := G) (m := B + 44) (F := F9) (tl := tl) (R := R9) (NL := NL) (h0 := wld Λ F O R (fun _ => none)) (sz := sz) (x := x1)
    rw [if_neg (fun z => h (e.mp z)), if_neg (fun z => h (e.mp z))] at c2
    exact pair_same I0 (c8_hour0 I1.1 h) c2
theorem pr_stands (I : Inv B Λ F O R sz F9 R9) (x1 : Int32) : Pair G B mX8_stands mX9_stands [.int x1] (hp B Λ F O R sz F9 tl R9 NL) := by
  have I0 := I
  obtain ⟨nb, d, md, L, a, np, c, nr, dm, cu, q, bd, I1, I2, ⟨p1, p2, p3, p4, p5, p6, p7, p8, p9⟩, I4, I5, I6, I7, I8⟩ := I
  by_cases h : wIn x1 np = true
  · obtain ⟨j, h1, h2⟩ := (wIn_iff (by omega)).mp h
    refine pair_same I0 (c8_stands I1.1 p1 p3) (Det_eq (c9_stands p2 p3 p8 h2 h1) ?_ rfl)
    rw [h2, st_eq p3 p8 h1, p6, p7]
  · have h' : wIn x1 np = false := by cases hh : wIn x1 np with | true => exact absurd hh h | false => rfl
    refine pair_same I0 (Det_eq (c8_stands I1.1 p1 p3) ?_ rfl) (c9_stands0 p2 p3 h')
    rw [stC, if_neg h]
theorem inR_nat {x : Int32} {lo hi : Nat} (hh : hi + 1 < 2 ^ 31) (h : inR x lo hi = true) : ∃ j, lo ≤ j ∧ j ≤ hi ∧ x = nI j := by
  have h2 := of_decide_eq_true h
  obtain ⟨j, hj, hj2⟩ := (wIn_iff (x := x) (n := hi + 1) (by omega)).mp (decide_eq_true ⟨by omega, by omega⟩)
  subst hj2
  rw [nI_toInt (by omega)] at h2
  exact ⟨j, by omega, by omega, rfl⟩
theorem pr_due (I : Inv B Λ F O R sz F9 R9) (x1 x2 : Int32) : Pair G B mX8_due mX9_due [.int x1, .int x2] (hp B Λ F O R sz F9 tl R9 NL) := by
  have I0 := I
  obtain ⟨nb, d, md, L, a, np, c, nr, dm, cu, q, bd, I1, -⟩ := I
  cases h : (inR x1 0 20000 && inR x2 1 99) with
  | false => exact pair_same I0 (c8_due0 I1.1 h) (c9_due0 h)
  | true =>
    rw [Bool.and_eq_true] at h
    obtain ⟨j, -, h2, h3⟩ := inR_nat (lo := 0) (hi := 20000) (by decide) h.1
    obtain ⟨l, k1, k2, k3⟩ := inR_nat (lo := 1) (hi := 99) (by decide) h.2
    exact pair_same I0 (c8_due I1.1 h3 h2 k3 k1 k2) (c9_due h3 k3 h2 k1 k2)
theorem pr_about (I : Inv B Λ F O R sz F9 R9) (x1 : Int32) : Pair G B mX8_about mX9_about [.int x1] (hp B Λ F O R sz F9 tl R9 NL) := by
  have I0 := I
  obtain ⟨nb, d, md, L, a, np, c, nr, dm, cu, q, bd, I1, ⟨s1, s2, s3, s4, s5, s6, s7, s8, s9⟩, ⟨p1, p2, -⟩, ⟨m1, m2, m3, m4, m5, m6, -⟩, I5, I6, I7, I8⟩ := I
  match cu, I5 with
  | none, I5 =>
    refine pair_same I0 (c8_aboutN I1.1 I5.1) (Det_eq c9_about ?_ rfl)
    unfold aboutM abC
    rw [I5.2, p1, p2, s5, s6, m4, m5, m1, m2, s1, s2]
    congr 2
  | some (b, mb, s, g), I5 =>
    obtain ⟨h1, h2, h3, h4, h5, h6, h7, h8, h9, h10, h11⟩ := I5
    refine pair_same I0 (c8_aboutS I1.1 h1 h5.1) (Det_eq c9_about ?_ rfl)
    unfold aboutM abC
    rw [h7, h8, h6, h5.2.1, p1, p2, s5, s6, m4, m5, m1, m2, s1, s2, if_neg (nI_nn (by omega))]
theorem pr_late (I : Inv B Λ F O R sz F9 R9) : Pair G B mX8_late mX9_late [] (hp B Λ F O R sz F9 tl R9 NL) := by
  have I0 := I
  obtain ⟨nb, d, md, L, a, np, c, nr, dm, cu, q, bd, I1, ⟨s1, s2, s3, s4, s5, s6, s7, s8, s9⟩, I3, ⟨m1, m2, m3, m4, m5, m6, -⟩, I5, I6, I7, I8⟩ := I
  refine pair_same I0 (c8_late I1.1 m1 m3) (Det_eq (c9_late m2 m3) ?_ rfl)
  rw [cntB_cg (P := Plt F9 R9) (Q := PltC F R) (fun t ht => ?_)]
  obtain ⟨⟨t1, t2, t3, t4, t5, t6, t7⟩, -⟩ := I7 t ht
  simp only [Plt, PltC, t4, t5, s5, s6]
theorem pr_personOf (I : Inv B Λ F O R sz F9 R9) (x1 x2 : Int32) : Pair G B mX8_personOf mX9_personOf [.int x1, .int x2] (hp B Λ F O R sz F9 tl R9 NL) := by
  have I0 := I
  obtain ⟨nb, d, md, L, a, np, c, nr, dm, cu, q, bd, I1, I2, ⟨p1, p2, p3, p4, p5, p6, p7, p8, p9⟩, ⟨m1, m2, m3, m4, m5, m6, -⟩, I5, I6, I7, I8⟩ := I
  by_cases h : wIn x1 np = true
  · obtain ⟨j, h1, h2⟩ := (wIn_iff (by omega)).mp h
    refine pair_same I0 (c8_personOf I1.1 p1 p3 h2 h1) (Det_eq (c9_personOf p2 p3 m2 m3 h2 h1) ?_ rfl)
    unfold psnM psnC
    rw [p4, p5, p6, p7, (p9 j h1).1, (p9 j h1).2]
  · have h' : wIn x1 np = false := by cases hh : wIn x1 np with | true => exact absurd hh h | false => rfl
    exact pair_same I0 (c8_personOf0 I1.1 p1 p3 h') (c9_personOf0 p2 p3 h')
theorem pr_runOf (I : Inv B Λ F O R sz F9 R9) (x1 x2 : Int32) : Pair G B mX8_runOf mX9_runOf [.int x1, .int x2] (hp B Λ F O R sz F9 tl R9 NL) := by
  have I0 := I
  obtain ⟨nb, d, md, L, a, np, c, nr, dm, cu, q, bd, I1, I2, I3, ⟨m1, m2, m3, m4, m5, m6, -⟩, I5, I6, I7, I8⟩ := I
  by_cases h : wIn x1 nr = true
  · obtain ⟨j, h1, h2⟩ := (wIn_iff (by omega)).mp h
    obtain ⟨g1, ⟨k1, k2, k3, k4, k5, k6, k7, k8, k9⟩, ⟨r1, r2, r3, r4, r5, r6⟩, ⟨w1, w2, w3⟩⟩ := I6 j h1
    refine pair_same I0 (c8_runOf I1.1 m4 m6 h2 h1 k4 k3) (Det_eq (c9_runOf m5 m6 m2 m3 h2 h1) ?_ rfl)
    unfold runM rofC
    have e : inR x2 0 3 = wIn x2 4 := by
      unfold inR wIn
      congr 1
      apply propext
      constructor <;> intro z <;> omega
    rw [e]
    by_cases hx : wIn x2 4 = true
    · obtain ⟨i, i1, i2⟩ := (wIn_iff (by omega)).mp hx
      rw [if_pos hx, if_pos hx, i2, nI_clamp (by omega), k8 i i1, r5 i i1]
    · rw [if_neg hx, if_neg hx, k7, r4, w1]
  · have h' : wIn x1 nr = false := by cases hh : wIn x1 nr with | true => exact absurd hh h | false => rfl
    exact pair_same I0 (c8_runOf0 I1.1 m4 m6 h') (c9_runOf0 m5 m6 h')
end PR1
