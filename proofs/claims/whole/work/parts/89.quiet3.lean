/-! persons, deputies, away, claims, giving back -/
section Q3
variable {G : wG} {B : Nat} {Λ : wL} {F : Nat → Nat → Int32} {O : Nat → Nat → Option Nat} {R R2 : Nat → Nat → Nat → Int32} {sz : Nat} {F9 : Nat → Int32} {tl : Int64} {R9 R92 : Nat → Nat → Int32} {NL : Nat → Int64} {nb d md L a np c nr dm : Nat} {cu : Option (Nat × Nat × Nat × bG)} {q : Nat → rG} {bd : Nat → Nat}
theorem okP_s {x : Int32} (h : okP np x) : okP (np + 1) x := h.elim Or.inl (fun ⟨j, h1, h2⟩ => Or.inr ⟨j, by omega, h2⟩)
/-- nobody holds what the next person would -/
theorem own_0 (I7 : ∀ t, t < c → tkI R R9 np dm nr q t) (hn : np ≤ 8) : cntB (Pcl R9 (nI np)) c = 0 ∧ cntB (Pdn R9 (nI np)) c = 0 := by
  have h : ∀ t, t < c → ¬ R9 61 t = 0 → ¬ R9 62 t = nI np := fun t ht h0 e => by
    rcases (I7 t ht).2.2.1 with z | ⟨-, p, z2, z3⟩
    · exact h0 z
    · rw [z3] at e
      have := (nI_eq (by omega) (by omega)).mp e
      omega
  refine ⟨cntB_0 (fun t ht => ?_), cntB_0 (fun t ht => ?_)⟩
  · unfold Pcl
    by_cases h1 : R9 61 t = 1
    · rw [decide_eq_false (h t ht (by rw [h1]; decide)), Bool.and_false]
    · rw [decide_eq_false h1, Bool.false_and]
  · unfold Pdn
    by_cases h1 : R9 61 t = 2
    · rw [decide_eq_false (h t ht (by rw [h1]; decide)), Bool.and_false]
    · rw [decide_eq_false h1, Bool.false_and]
theorem pr_person (I : Inv B Λ F O R sz F9 R9) (x1 x2 : Int32) : Pair G B mX8_person mX9_person [.int x1, .int x2] (hp B Λ F O R sz F9 tl R9 NL) := by
  have I0 := I
  obtain ⟨nb, d, md, L, a, np, c, nr, dm, cu, q, bd, J⟩ := I
  have J0 := J
  obtain ⟨I1, I2, ⟨p1, p2, p3, p4, p5, p6, p7, p8, p9⟩, I4, I5, I6, I7, I8⟩ := J
  cases h : (inR x1 0 63 && inR x2 1 9) with
  | false => exact pair_same I0 (c8_person0 I1.1 h) (c9_person0 p2 p3 (by rw [h, Bool.false_and]))
  | true =>
    have h' := h
    rw [Bool.and_eq_true] at h
    by_cases h8 : np = 8
    · subst h8
      exact pair_same I0 (c8_personF I1.1 p1 h.1 h.2) (c9_person0 p2 p3 (by rw [h']; decide))
    · obtain ⟨o1, o2⟩ := own_0 I7 p3
      refine pair_of (c8_person I1.1 p1 (by omega) h.1 h.2) I0.lay (c9_person p2 (by omega) h.1 h.2) ?_
      refine inv_q2 (L' := L) (a' := a) (np' := np + 1) J0 (fun i hi => ?_) rfl rfl rfl rfl rfl ?_ ?_ ?_ (fun k h1 h2 => upd_ne (by omega)) (fun k h1 => by rw [w_up_ne _ _ (by omega), w_up_ne _ _ (by omega), w_up_ne _ _ (by omega), w_up_ne _ _ (by omega)]) (by omega)
      · obtain ⟨n0, n1, n2, n4, n5, n6, n7⟩ := dyn_ne I1.1 hi
        exact ⟨w_up_ne _ _ n4, w_up_ne _ _ n4, rfl⟩
      · exact I2
      · refine ⟨rfl, rfl, by omega, ?_, ?_, ?_, ?_, fun p hp => ?_, fun p hp => ?_⟩
        · show upd (R 4 1) np x1 = upd (R9 65) np x1
          rw [p4]
        · show upd (R 4 2) np x2 = upd (R9 66) np x2
          rw [p5]
        · show upd (R 4 5) np (-1) = upd (R9 67) np (-1)
          rw [p6]
        · show upd (R 4 6) np 0 = upd (R9 68) np 0
          rw [p7]
        · show okP (np + 1) (upd (R9 67) np (-1) p)
          by_cases e : p = np
          · rw [e, w_upd_self]; exact Or.inl rfl
          · rw [upd_ne e]; exact okP_s (p8 p (by omega))
        · show upd (R 4 3) np 0 p = nI (cntB (Pcl R9 (nI p)) c) ∧ upd (R 4 4) np 0 p = nI (cntB (Pdn R9 (nI p)) c)
          by_cases e : p = np
          · rw [e, w_upd_self, w_upd_self, o1, o2]; exact ⟨rfl, rfl⟩
          · rw [upd_ne e, upd_ne e]; exact p9 p (by omega)
      · exact nmI_cg rfl rfl rfl rfl rfl rfl I4
theorem pr_deputy (I : Inv B Λ F O R sz F9 R9) (x1 x2 : Int32) : Pair G B mX8_deputy mX9_deputy [.int x1, .int x2] (hp B Λ F O R sz F9 tl R9 NL) := by
  have I0 := I
  obtain ⟨nb, d, md, L, a, np, c, nr, dm, cu, q, bd, J⟩ := I
  have J0 := J
  obtain ⟨I1, I2, ⟨p1, p2, p3, p4, p5, p6, p7, p8, p9⟩, I4, I5, I6, I7, I8⟩ := J
  by_cases hx : wIn x1 np = true
  · obtain ⟨p, h1, h2⟩ := (wIn_iff (by omega)).mp hx
    by_cases hc : ¬ x2 = x1 ∧ (x2 = -1 ∨ wIn x2 np = true)
    · have c2 := c9_deputy (G := G) (m := B + 44) (tl := tl) (R := R9) (NL := NL) (h0 := wld Λ F O (va_up R 4 (va_up (R 4) 5 (upd (R 4 5) p x2))) (fun _ => none)) (sz := sz) (y := x2) p2 p3 h2 h1
      rw [if_pos hc, if_pos hc] at c2
      have c1 : Sat G mX8_deputy [.ref B, .int x1, .int x2] (wld Λ F O R (mh (B + 44) F9 tl R9 NL (fun _ => none)), sz) (Det (some (.int 1)) (wld Λ F O (va_up R 4 (va_up (R 4) 5 (upd (R 4 5) p x2))) (mh (B + 44) F9 tl R9 NL (fun _ => none)), sz)) := by
        by_cases hm : x2 = -1
        · exact c8_deputy3 I1.1 p1 p3 h2 h1 hc.1 hm
        · exact c8_deputy4 I1.1 p1 p3 h2 h1 hc.1 hm (hc.2.resolve_left hm)
      refine pair_of c1 I0.lay c2 ?_
      refine inv_q2 (L' := L) (a' := a) (np' := np) J0 (fun i hi => ?_) rfl rfl rfl rfl rfl ?_ ?_ ?_ (fun k h1 h2 => rfl) (fun k h1 => w_up_ne _ _ (by omega)) (Nat.le_refl _)
      · obtain ⟨n0, n1, n2, n4, n5, n6, n7⟩ := dyn_ne I1.1 hi
        exact ⟨rfl, w_up_ne _ _ n4, rfl⟩
      · exact I2
      · refine ⟨p1, p2, p3, p4, p5, ?_, p7, fun r hr => ?_, p9⟩
        · show upd (R 4 5) p x2 = upd (R9 67) p x2
          rw [p6]
        · show okP np (upd (R9 67) p x2 r)
          by_cases e : r = p
          · rw [e, w_upd_self]
            rcases hc.2 with z | z
            · exact Or.inl z
            · exact Or.inr ((wIn_iff (by omega)).mp z)
          · rw [upd_ne e]; exact p8 r hr
      · exact nmI_cg rfl rfl rfl rfl rfl rfl I4
    · have c2 := c9_deputy (G := G) (m := B + 44) (tl := tl) (R := R9) (NL := NL) (h0 := wld Λ F O R (fun _ => none)) (sz := sz) (y := x2) p2 p3 h2 h1
      rw [if_neg hc, if_neg hc] at c2
      refine pair_same I0 ?_ c2
      by_cases he : x2 = x1
      · exact c8_deputy1 I1.1 p1 p3 h2 h1 he
      · by_cases hm : x2 = -1
        · exact absurd ⟨he, Or.inl hm⟩ hc
        · exact c8_deputy2 I1.1 p1 p3 h2 h1 he hm (bf (fun z => hc ⟨he, Or.inr z⟩))
  · exact pair_same I0 (c8_deputy0 I1.1 p1 p3 (bf hx)) (c9_deputy0 p2 p3 (bf hx))
/-- tasks whose state and owner alone changed -/
theorem tkI_st {t : Nat} (h5 : ∀ k, k ≠ 6 → k ≠ 7 → R2 5 k = R 5 k) (h9 : ∀ k, 56 ≤ k → k ≤ 63 → k ≠ 61 → k ≠ 62 → R92 k = R9 k) (h6 : R2 5 6 t = R92 61 t) (h7 : R2 5 7 t = R92 62 t) (hS : tkS R92 np dm t) (h61 : R92 61 t = 2 ↔ R9 61 t = 2) (h : tkI R R9 np dm nr q t) : tkI R2 R92 np dm nr q t := by
  obtain ⟨⟨t1, t2, t3, t4, t5, t6, t7⟩, ⟨r, i, r1, r2, r3, r4, r5, r6⟩, -, hD⟩ := h
  refine ⟨⟨?_, ?_, ?_, ?_, h6, h7, ?_⟩, ⟨r, i, r1, r2, ?_, ?_, ?_, ?_⟩, hS, fun z => by rw [h9 63 (by decide) (by decide) (by decide) (by decide)]; exact hD (fun y => z (h61.mpr y))⟩
  · rw [h5 1 (by decide) (by decide), h9 56 (by decide) (by decide) (by decide) (by decide)]; exact t1
  · rw [h5 2 (by decide) (by decide), h9 57 (by decide) (by decide) (by decide) (by decide)]; exact t2
  · rw [h5 4 (by decide) (by decide), h9 59 (by decide) (by decide) (by decide) (by decide)]; exact t3
  · rw [h5 5 (by decide) (by decide), h9 60 (by decide) (by decide) (by decide) (by decide)]; exact t4
  · rw [h5 8 (by decide) (by decide), h9 63 (by decide) (by decide) (by decide) (by decide)]; exact t7
  · rw [h9 56 (by decide) (by decide) (by decide) (by decide)]; exact r3
  · rw [h9 57 (by decide) (by decide) (by decide) (by decide)]; exact r4
  · rw [h9 58 (by decide) (by decide) (by decide) (by decide)]; exact r5
  · rw [h5 3 (by decide) (by decide)]; exact r6
theorem nmI_st (h61 : ∀ t, t < c → (R92 61 t = 2 ↔ R9 61 t = 2)) (h : nmI F F9 R9 c nr dm) : nmI F F9 R92 c nr dm := by
  obtain ⟨m1, m2, m3, m4, m5, m6, m7, m8⟩ := h
  exact ⟨m1, m2, m3, m4, m5, m6, m7, by rw [m8]; exact cntB_cg (fun t ht => (dec_iff (h61 t ht)).symm)⟩
/-- the row R with another state and owner of task t -/
theorem pr_claim (I : Inv B Λ F O R sz F9 R9) (x1 x2 : Int32) : Pair G B mX8_claim mX9_claim [.int x1, .int x2] (hp B Λ F O R sz F9 tl R9 NL) := by
  have I0 := I
  obtain ⟨nb, d, md, L, a, np, c, nr, dm, cu, q, bd, J⟩ := I
  have J0 := J
  obtain ⟨I1, I2, ⟨p1, p2, p3, p4, p5, p6, p7, p8, p9⟩, I4, I5, I6, I7, I8⟩ := J
  have I4' := I4
  obtain ⟨m1, m2, m3, m4, m5, m6, m7, m8⟩ := I4'
  by_cases hp : wIn x1 np = true
  · obtain ⟨p, hp1, hp2⟩ := (wIn_iff (by omega)).mp hp
    subst hp2
    by_cases h : wIn x2 c = true
    · obtain ⟨t, h1, h2⟩ := (wIn_iff (by omega)).mp h
      obtain ⟨a1, a2, a3⟩ := tkA J0 h1
      have hst := (I7 t h1).1.2.2.2.2.1
      by_cases hs : R9 61 t = 0
      · by_cases hm : R 4 3 p < R 4 2 p
        · cases ha : alC R (nI p) (rsV R np p) t (eyT R9 q c t) with
          | false =>
            have c2 := c9_claim (G := G) (m := B + 44) (tl := tl) (NL := NL) (h0 := wld Λ F O R (fun _ => none)) (sz := sz) p2 p3 m2 m3 p8 (rfl : nI p = nI p) hp1 h2 h1 a1
            have hno : ¬ (R9 61 t = 0 ∧ mayT R9 np c p t = true ∧ nI (cntB (Pcl R9 (nI p)) c) < R9 66 p) := fun z => by
              have := z.2.1
              rw [a3 p hp1, ha] at this
              cases this
            rw [if_neg hno, if_neg hno] at c2
            exact pair_same I0 (c8_claim4 I1.1 p1 p3 rfl hp1 m1 m3 m4 m6 h2 h1 a2 (by rw [hst]; exact hs) hm ha) c2
          | true =>
            have hyes : R9 61 t = 0 ∧ mayT R9 np c p t = true ∧ nI (cntB (Pcl R9 (nI p)) c) < R9 66 p := ⟨hs, by rw [a3 p hp1]; exact ha, by rw [← (p9 p hp1).1, ← p5]; exact hm⟩
            have c2 := c9_claim (G := G) (m := B + 44) (tl := tl) (NL := NL) (h0 := wld Λ F O (va_up (va_up R 5 (va_up (va_up (R 5) 6 (upd (R 5 6) t 1)) 7 (upd (R 5 7) t (nI p)))) 4 (va_up (R 4) 3 (upd (R 4 3) p (R 4 3 p + 1)))) (fun _ => none)) (sz := sz) p2 p3 m2 m3 p8 (rfl : nI p = nI p) hp1 h2 h1 a1
            rw [if_pos hyes, if_pos hyes] at c2
            have e1 : cntB (Pcl (va_up (va_up R9 61 (upd (R9 61) t 1)) 62 (upd (R9 62) t (nI p))) (nI p)) c = cntB (Pcl R9 (nI p)) c + 1 := by
              refine cntB_up h1 (fun k hk hk2 => ?_) ?_ ?_
              · show (decide (R9 61 k = 1) && decide (R9 62 k = nI p)) = (decide (upd (R9 61) t 1 k = 1) && decide (upd (R9 62) t (nI p) k = nI p))
                rw [upd_ne hk2, upd_ne hk2]
              · show (decide (R9 61 t = 1) && decide (R9 62 t = nI p)) = false
                rw [hs]; rfl
              · show (decide (upd (R9 61) t 1 t = 1) && decide (upd (R9 62) t (nI p) t = nI p)) = true
                rw [w_upd_self, w_upd_self, decide_eq_true rfl, decide_eq_true rfl]; rfl
            have e2 : R 4 3 p + 1 = nI (cntB (Pcl R9 (nI p)) c + 1) := by rw [(p9 p hp1).1]; exact nI_1 _
            rw [e1, ← e2] at c2
            refine pair_of (c8_claim I1.1 p1 p3 rfl hp1 m1 m3 m4 m6 h2 h1 a2 (by rw [hst]; exact hs) hm ha) I0.lay c2 ?_
            have hne : ∀ k, k ≠ 61 → k ≠ 62 → (va_up (va_up R9 61 (upd (R9 61) t 1)) 62 (upd (R9 62) t (nI p))) k = R9 k := fun k k1 k2 => by rw [w_up_ne _ _ k2, w_up_ne _ _ k1]
            have h61 : ∀ u, ((va_up (va_up R9 61 (upd (R9 61) t 1)) 62 (upd (R9 62) t (nI p))) 61 u = 2 ↔ R9 61 u = 2) := fun u => by
              show upd (R9 61) t 1 u = 2 ↔ _
              by_cases e : u = t
              · rw [e, w_upd_self, hs]; exact ⟨fun z => absurd z (by decide), fun z => absurd z (by decide)⟩
              · rw [upd_ne e]
            refine inv_q (L' := L) (a' := a) (np' := np) J0 (fun i hi => ?_) rfl rfl rfl rfl rfl I2 ?_ (nmI_st (fun u _ => h61 u) I4) (fun k h1 h2 => rfl) (fun k k1 k2 => hne k (by omega) (by omega)) rfl (fun u hu => ⟨rfl, rfl, h61 u, fun z => ⟨?_, rfl⟩⟩) (fun u hu => ?_)
            · obtain ⟨n0, n1, n2, n4, n5, n6, n7⟩ := dyn_ne I1.1 hi
              exact ⟨rfl, by rw [w_up_ne _ _ n4, w_up_ne _ _ n5], rfl⟩
            · refine ⟨p1, p2, p3, p4, p5, p6, p7, p8, fun r hr => ⟨?_, ?_⟩⟩
              · show upd (R 4 3) p (R 4 3 p + 1) r = _
                by_cases e : r = p
                · rw [e, w_upd_self, e1, e2]
                · rw [upd_ne e, (p9 r hr).1]
                  congr 1
                  refine cntB_cg (fun u hu => ?_)
                  show (decide (R9 61 u = 1) && decide (R9 62 u = nI r)) = (decide (upd (R9 61) t 1 u = 1) && decide (upd (R9 62) t (nI p) u = nI r))
                  by_cases e3 : u = t
                  · rw [e3, w_upd_self, w_upd_self, hs, decide_eq_false (show ¬ (0 : Int32) = 1 by decide), decide_eq_false (show ¬ nI p = nI r from fun z => e ((nI_eq (by omega) (by omega)).mp z).symm), Bool.false_and, Bool.and_false]
                  · rw [upd_ne e3, upd_ne e3]
              · show R 4 4 r = _
                rw [(p9 r hr).2]
                congr 1
                refine cntB_cg (fun u hu => ?_)
                show (decide (R9 61 u = 2) && decide (R9 62 u = nI r)) = (decide (upd (R9 61) t 1 u = 2) && decide (upd (R9 62) t (nI p) u = nI r))
                by_cases e3 : u = t
                · rw [e3, w_upd_self, hs, decide_eq_false (show ¬ (0 : Int32) = 2 by decide), decide_eq_false (show ¬ (1 : Int32) = 2 by decide), Bool.false_and, Bool.false_and]
                · rw [upd_ne e3, upd_ne e3]
            · show upd (R9 62) t (nI p) u = R9 62 u
              refine upd_ne (fun e => ?_)
              rw [e, hs] at z
              exact absurd z (by decide)
            · refine tkI_st (fun k k1 k2 => ?_) (fun k k1 k2 k3 k4 => hne k k3 k4) ?_ ?_ ?_ (h61 u) (I7 u hu)
              · show va_up (va_up (R 5) 6 _) 7 _ k = R 5 k
                rw [w_up_ne _ _ k2, w_up_ne _ _ k1]
              · show upd (R 5 6) t 1 u = upd (R9 61) t 1 u
                by_cases e : u = t
                · rw [e, w_upd_self, w_upd_self]
                · rw [upd_ne e, upd_ne e]; exact (I7 u hu).1.2.2.2.2.1
              · show upd (R 5 7) t (nI p) u = upd (R9 62) t (nI p) u
                by_cases e : u = t
                · rw [e, w_upd_self, w_upd_self]
                · rw [upd_ne e, upd_ne e]; exact (I7 u hu).1.2.2.2.2.2.1
              · show upd (R9 61) t 1 u = 0 ∨ ((upd (R9 61) t 1 u = 1 ∨ (upd (R9 61) t 1 u = 2 ∧ ∃ k, k < dm ∧ R9 70 u = nI k)) ∧ ∃ r, r < np ∧ upd (R9 62) t (nI p) u = nI r)
                by_cases e : u = t
                · rw [e, w_upd_self, w_upd_self]; exact Or.inr ⟨Or.inl rfl, p, hp1, rfl⟩
                · rw [upd_ne e, upd_ne e]; exact (I7 u hu).2.2.1
        · have c2 := c9_claim (G := G) (m := B + 44) (tl := tl) (NL := NL) (h0 := wld Λ F O R (fun _ => none)) (sz := sz) p2 p3 m2 m3 p8 (rfl : nI p = nI p) hp1 h2 h1 a1
          have hno : ¬ (R9 61 t = 0 ∧ mayT R9 np c p t = true ∧ nI (cntB (Pcl R9 (nI p)) c) < R9 66 p) := fun z => hm (by rw [(p9 p hp1).1, p5]; exact z.2.2)
          rw [if_neg hno, if_neg hno] at c2
          exact pair_same I0 (c8_claim3 I1.1 p1 p3 rfl hp1 m1 m3 h2 h1 (by rw [hst]; exact hs) hm) c2
      · have c2 := c9_claim (G := G) (m := B + 44) (tl := tl) (NL := NL) (h0 := wld Λ F O R (fun _ => none)) (sz := sz) p2 p3 m2 m3 p8 (rfl : nI p = nI p) hp1 h2 h1 a1
        rw [if_neg (fun z => hs z.1), if_neg (fun z => hs z.1)] at c2
        exact pair_same I0 (c8_claim2 I1.1 p1 p3 rfl hp1 m1 m3 h2 h1 (by rw [hst]; exact hs)) c2
    · exact pair_same I0 (c8_claim1 I1.1 p1 p3 rfl hp1 m1 m3 (bf h)) (c9_claim0 p2 p3 m2 m3 (by rw [bf h, Bool.and_false]))
  · exact pair_same I0 (c8_claim0 I1.1 p1 p3 (bf hp)) (c9_claim0 p2 p3 m2 m3 (by rw [bf hp, Bool.false_and]))
theorem pr_giveBack (I : Inv B Λ F O R sz F9 R9) (x1 : Int32) : Pair G B mX8_giveBack mX9_giveBack [.int x1] (hp B Λ F O R sz F9 tl R9 NL) := by
  have I0 := I
  obtain ⟨nb, d, md, L, a, np, c, nr, dm, cu, q, bd, J⟩ := I
  have J0 := J
  obtain ⟨I1, I2, ⟨p1, p2, p3, p4, p5, p6, p7, p8, p9⟩, I4, I5, I6, I7, I8⟩ := J
  have I4' := I4
  obtain ⟨m1, m2, m3, m4, m5, m6, m7, m8⟩ := I4'
  by_cases h : wIn x1 c = true
  · obtain ⟨t, h1, h2⟩ := (wIn_iff (by omega)).mp h
    have hst := (I7 t h1).1.2.2.2.2.1
    have how := (I7 t h1).1.2.2.2.2.2.1
    by_cases hs : R9 61 t = 1
    · have hpp : ∃ p, p < np ∧ R9 62 t = nI p := by
        rcases (I7 t h1).2.2.1 with z | ⟨-, z⟩
        · rw [hs] at z; exact absurd z (by decide)
        · exact z
      obtain ⟨p, hp1, hp2⟩ := hpp
      have c2 := c9_giveBack (G := G) (m := B + 44) (tl := tl) (R := R9) (NL := NL) (h0 := wld Λ F O (va_up (va_up R 4 (va_up (R 4) 3 (upd (R 4 3) p (R 4 3 p - 1)))) 5 (va_up (va_up (R 5) 6 (upd (R 5 6) t 0)) 7 (upd (R 5 7) t (-1)))) (fun _ => none)) (sz := sz) m2 m3 h2 h1
      rw [if_pos hs, if_pos hs] at c2
      have e1 : cntB (Pcl R9 (nI p)) c = cntB (Pcl (va_up (va_up R9 61 (upd (R9 61) t 0)) 62 (upd (R9 62) t (-1))) (nI p)) c + 1 := by
        refine cntB_up h1 (fun k hk hk2 => ?_) ?_ ?_
        · show (decide (upd (R9 61) t 0 k = 1) && decide (upd (R9 62) t (-1) k = nI p)) = (decide (R9 61 k = 1) && decide (R9 62 k = nI p))
          rw [upd_ne hk2, upd_ne hk2]
        · show (decide (upd (R9 61) t 0 t = 1) && decide (upd (R9 62) t (-1) t = nI p)) = false
          rw [w_upd_self]; rfl
        · show (decide (R9 61 t = 1) && decide (R9 62 t = nI p)) = true
          rw [decide_eq_true hs, decide_eq_true hp2]; rfl
      refine pair_of (c8_giveBack I1.1 p1 p3 m1 m3 h2 h1 (by rw [hst]; exact hs) (by rw [how]; exact hp2) hp1) I0.lay c2 ?_
      have hne : ∀ k, k ≠ 61 → k ≠ 62 → (va_up (va_up R9 61 (upd (R9 61) t 0)) 62 (upd (R9 62) t (-1))) k = R9 k := fun k k1 k2 => by rw [w_up_ne _ _ k2, w_up_ne _ _ k1]
      have h61 : ∀ u, ((va_up (va_up R9 61 (upd (R9 61) t 0)) 62 (upd (R9 62) t (-1))) 61 u = 2 ↔ R9 61 u = 2) := fun u => by
        show upd (R9 61) t 0 u = 2 ↔ _
        by_cases e : u = t
        · rw [e, w_upd_self, hs]; exact ⟨fun z => absurd z (by decide), fun z => absurd z (by decide)⟩
        · rw [upd_ne e]
      refine inv_q (L' := L) (a' := a) (np' := np) J0 (fun i hi => ?_) rfl rfl rfl rfl rfl I2 ?_ (nmI_st (fun u _ => h61 u) I4) (fun k h1 h2 => rfl) (fun k k1 k2 => hne k (by omega) (by omega)) rfl (fun u hu => ⟨rfl, rfl, h61 u, fun z => ⟨?_, rfl⟩⟩) (fun u hu => ?_)
      · obtain ⟨n0, n1, n2, n4, n5, n6, n7⟩ := dyn_ne I1.1 hi
        exact ⟨rfl, by rw [w_up_ne _ _ n5, w_up_ne _ _ n4], rfl⟩
      · refine ⟨p1, p2, p3, p4, p5, p6, p7, p8, fun r hr => ⟨?_, ?_⟩⟩
        · show upd (R 4 3) p (R 4 3 p - 1) r = _
          by_cases e : r = p
          · rw [e, w_upd_self, (p9 p hp1).1, e1]
            exact nI_p1 _
          · rw [upd_ne e, (p9 r hr).1]
            congr 1
            refine cntB_cg (fun u hu => ?_)
            show (decide (R9 61 u = 1) && decide (R9 62 u = nI r)) = (decide (upd (R9 61) t 0 u = 1) && decide (upd (R9 62) t (-1) u = nI r))
            by_cases e3 : u = t
            · rw [e3, w_upd_self, hp2, decide_eq_false (show ¬ (0 : Int32) = 1 by decide), decide_eq_false (show ¬ nI p = nI r from fun z => e ((nI_eq (by omega) (by omega)).mp z).symm), Bool.false_and, Bool.and_false]
            · rw [upd_ne e3, upd_ne e3]
        · show R 4 4 r = _
          rw [(p9 r hr).2]
          congr 1
          refine cntB_cg (fun u hu => ?_)
          show (decide (R9 61 u = 2) && decide (R9 62 u = nI r)) = (decide (upd (R9 61) t 0 u = 2) && decide (upd (R9 62) t (-1) u = nI r))
          by_cases e3 : u = t
          · rw [e3, w_upd_self, hs, decide_eq_false (show ¬ (0 : Int32) = 2 by decide), decide_eq_false (show ¬ (1 : Int32) = 2 by decide), Bool.false_and, Bool.false_and]
          · rw [upd_ne e3, upd_ne e3]
      · show upd (R9 62) t (-1) u = R9 62 u
        refine upd_ne (fun e => ?_)
        rw [e, hs] at z
        exact absurd z (by decide)
      · refine tkI_st (fun k k1 k2 => ?_) (fun k k1 k2 k3 k4 => hne k k3 k4) ?_ ?_ ?_ (h61 u) (I7 u hu)
        · show va_up (va_up (R 5) 6 _) 7 _ k = R 5 k
          rw [w_up_ne _ _ k2, w_up_ne _ _ k1]
        · show upd (R 5 6) t 0 u = upd (R9 61) t 0 u
          by_cases e : u = t
          · rw [e, w_upd_self, w_upd_self]
          · rw [upd_ne e, upd_ne e]; exact (I7 u hu).1.2.2.2.2.1
        · show upd (R 5 7) t (-1) u = upd (R9 62) t (-1) u
          by_cases e : u = t
          · rw [e, w_upd_self, w_upd_self]
          · rw [upd_ne e, upd_ne e]; exact (I7 u hu).1.2.2.2.2.2.1
        · show upd (R9 61) t 0 u = 0 ∨ ((upd (R9 61) t 0 u = 1 ∨ (upd (R9 61) t 0 u = 2 ∧ ∃ k, k < dm ∧ R9 70 u = nI k)) ∧ ∃ r, r < np ∧ upd (R9 62) t (-1) u = nI r)
          by_cases e : u = t
          · rw [e, w_upd_self]; exact Or.inl rfl
          · rw [upd_ne e, upd_ne e]; exact (I7 u hu).2.2.1
    · have c2 := c9_giveBack (G := G) (m := B + 44) (tl := tl) (R := R9) (NL := NL) (h0 := wld Λ F O R (fun _ => none)) (sz := sz) m2 m3 h2 h1
      rw [if_neg hs, if_neg hs] at c2
      exact pair_same I0 (c8_giveBack1 I1.1 m1 m3 h2 h1 (by rw [hst]; exact hs)) c2
  · exact pair_same I0 (c8_giveBack0 I1.1 m1 m3 (bf h)) (c9_giveBack0 m2 m3 (bf h))
theorem pr_away (I : Inv B Λ F O R sz F9 R9) (x1 x2 : Int32) (hx2 : x2 = 0 ∨ x2 = 1) : Pair G B mX8_away mX9_away [.int x1, .int x2] (hp B Λ F O R sz F9 tl R9 NL) := by
  have I0 := I
  obtain ⟨nb, d, md, L, a, np, c, nr, dm, cu, q, bd, J⟩ := I
  have J0 := J
  obtain ⟨I1, I2, ⟨p1, p2, p3, p4, p5, p6, p7, p8, p9⟩, I4, I5, I6, I7, I8⟩ := J
  have I4' := I4
  obtain ⟨m1, m2, m3, m4, m5, m6, m7, m8⟩ := I4'
  by_cases hp : wIn x1 np = true
  · obtain ⟨p, hp1, hp2⟩ := (wIn_iff (by omega)).mp hp
    subst hp2
    rcases hx2 with rfl | rfl
    · refine pair_of (c8_awayF I1.1 p1 p3 rfl hp1) I0.lay (c9_awayF p2 p3 rfl hp1) ?_
      refine inv_q2 (L' := L) (a' := a) (np' := np) J0 (fun i hi => ?_) rfl rfl rfl rfl rfl I2 ?_ ?_ (fun k h1 h2 => rfl) (fun k h1 => w_up_ne _ _ (by omega)) (Nat.le_refl _)
      · obtain ⟨n0, n1, n2, n4, n5, n6, n7⟩ := dyn_ne I1.1 hi
        exact ⟨rfl, w_up_ne _ _ n4, rfl⟩
      · refine ⟨p1, p2, p3, p4, p5, p6, ?_, p8, p9⟩
        show upd (R 4 6) p 0 = upd (R9 68) p 0
        rw [p7]
      · exact nmI_cg rfl rfl rfl rfl rfl rfl I4
    · refine pair_of (c8_awayT I1.1 p1 p3 rfl hp1 m1 m3) I0.lay (c9_awayT p2 p3 m2 m3 rfl hp1) ?_
      have hne : ∀ k, k ≠ 61 → k ≠ 62 → k ≠ 68 → (awR (va_up R9 68 (upd (R9 68) p 1)) (nI p) c) k = R9 k := fun k k1 k2 k3 => by
        show va_up (va_up (va_up R9 68 _) 61 _) 62 _ k = R9 k
        rw [w_up_ne _ _ k2, w_up_ne _ _ k1, w_up_ne _ _ k3]
      have e61 : ∀ u, u < c → (awR (va_up R9 68 (upd (R9 68) p 1)) (nI p) c) 61 u = if R9 61 u = 1 ∧ R9 62 u = nI p then 0 else R9 61 u := fun u hu => by
        show (if u < c ∧ R9 61 u = 1 ∧ R9 62 u = nI p then (0 : Int32) else R9 61 u) = _
        simp only [hu, true_and]
      have e62 : ∀ u, u < c → (awR (va_up R9 68 (upd (R9 68) p 1)) (nI p) c) 62 u = if R9 61 u = 1 ∧ R9 62 u = nI p then -1 else R9 62 u := fun u hu => by
        show (if u < c ∧ R9 61 u = 1 ∧ R9 62 u = nI p then (-1 : Int32) else R9 62 u) = _
        simp only [hu, true_and]
      have h61 : ∀ u, u < c → ((awR (va_up R9 68 (upd (R9 68) p 1)) (nI p) c) 61 u = 2 ↔ R9 61 u = 2) := fun u hu => by
        rw [e61 u hu]
        by_cases e : R9 61 u = 1 ∧ R9 62 u = nI p
        · rw [if_pos e, e.1]; exact ⟨fun z => absurd z (by decide), fun z => absurd z (by decide)⟩
        · rw [if_neg e]
      refine inv_q (L' := L) (a' := a) (np' := np) J0 (fun i hi => ?_) rfl rfl rfl rfl rfl I2 ?_ (nmI_st h61 I4) (fun k h1 h2 => rfl) (fun k k1 k2 => hne k (by omega) (by omega) (by omega)) rfl (fun u hu => ⟨rfl, rfl, h61 u hu, fun z => ⟨?_, rfl⟩⟩) (fun u hu => ?_)
      · obtain ⟨n0, n1, n2, n4, n5, n6, n7⟩ := dyn_ne I1.1 hi
        exact ⟨rfl, by rw [w_up_ne _ _ n4, w_up_ne _ _ n5, w_up_ne _ _ n4], rfl⟩
      · refine ⟨p1, p2, p3, p4, p5, p6, ?_, p8, fun r hr => ⟨?_, ?_⟩⟩
        · show upd (R 4 6) p 1 = upd (R9 68) p 1
          rw [p7]
        · show upd (R 4 3) p 0 r = _
          by_cases e : r = p
          · rw [e, w_upd_self, cntB_0 (fun u hu => ?_)]
            · rfl
            · unfold Pcl
              rw [e61 u hu, e62 u hu]
              by_cases e2 : R9 61 u = 1 ∧ R9 62 u = nI p
              · rw [if_pos e2]; rfl
              · rw [if_neg e2, if_neg e2]
                by_cases e3 : R9 61 u = 1
                · rw [decide_eq_false (fun z => e2 ⟨e3, z⟩), Bool.and_false]
                · rw [decide_eq_false e3, Bool.false_and]
          · rw [upd_ne e, (p9 r hr).1]
            congr 1
            refine cntB_cg (fun u hu => ?_)
            unfold Pcl
            rw [e61 u hu, e62 u hu]
            by_cases e2 : R9 61 u = 1 ∧ R9 62 u = nI p
            · rw [if_pos e2, e2.2, decide_eq_false (show ¬ nI p = nI r from fun z => e ((nI_eq (by omega) (by omega)).mp z).symm), Bool.and_false, decide_eq_false (show ¬ (0 : Int32) = 1 by decide), Bool.false_and]
            · rw [if_neg e2, if_neg e2]
        · show R 4 4 r = _
          rw [(p9 r hr).2]
          congr 1
          refine cntB_cg (fun u hu => ?_)
          unfold Pdn
          rw [e61 u hu, e62 u hu]
          by_cases e2 : R9 61 u = 1 ∧ R9 62 u = nI p
          · rw [if_pos e2, e2.1, decide_eq_false (show ¬ (1 : Int32) = 2 by decide), decide_eq_false (show ¬ (0 : Int32) = 2 by decide), Bool.false_and, Bool.false_and]
          · rw [if_neg e2, if_neg e2]
      · rw [e62 u hu, if_neg (fun e => by rw [e.1] at z; exact absurd z (by decide))]
      · refine tkI_st (fun k k1 k2 => ?_) (fun k k1 k2 k3 k4 => hne k k3 k4 (by omega)) ?_ ?_ ?_ (h61 u hu) (I7 u hu)
        · show va_up (va_up (R 5) 6 _) 7 _ k = R 5 k
          rw [w_up_ne _ _ k2, w_up_ne _ _ k1]
        · rw [e61 u hu]
          show (if u < c ∧ R 5 6 u = 1 ∧ R 5 7 u = nI p then (0 : Int32) else R 5 6 u) = _
          rw [(I7 u hu).1.2.2.2.2.1, (I7 u hu).1.2.2.2.2.2.1]
          simp only [hu, true_and]
        · rw [e62 u hu]
          show (if u < c ∧ R 5 6 u = 1 ∧ R 5 7 u = nI p then (-1 : Int32) else R 5 7 u) = _
          rw [(I7 u hu).1.2.2.2.2.1, (I7 u hu).1.2.2.2.2.2.1]
          simp only [hu, true_and]
        · unfold tkS
          rw [e61 u hu, e62 u hu]
          by_cases e2 : R9 61 u = 1 ∧ R9 62 u = nI p
          · rw [if_pos e2]; exact Or.inl rfl
          · rw [if_neg e2, if_neg e2]; exact (I7 u hu).2.2.1
  · exact pair_same I0 (c8_away0 I1.1 p1 p3 (bf hp)) (c9_away0 p2 p3 (bf hp))
end Q3
