/-! tasks: what both see of them; lists, offers, claims -/
theorem cntB_ch {P Q : Nat → Bool} {i : Nat} : ∀ {n : Nat}, i < n → (∀ k, k < n → k ≠ i → P k = Q k) → cntB P n + (if Q i = true then 1 else 0) = cntB Q n + (if P i = true then 1 else 0)
  | 0, h, _ => by omega
  | n + 1, h, he => by
    simp only [cntB]
    by_cases hi : i = n
    · subst hi
      rw [cntB_cg (P := P) (Q := Q) (fun k hk => he k (by omega) (by omega))]
      omega
    · have ih := cntB_ch (n := n) (i := i) (by omega) (fun k hk hk2 => he k (by omega) hk2)
      rw [he n (by omega) (fun z => hi z.symm)]
      omega
theorem cntB_perm {Q : Nat → Bool} : ∀ {c : Nat} {bd : Nat → Nat}, (∀ k, k < c → bd k < c) → (∀ i j, i < j → j < c → bd i ≠ bd j) → cntB (fun j => Q (bd j)) c = cntB Q c
  | 0, _, _, _ => rfl
  | c + 1, bd, h1, h2 => by
    obtain ⟨k, hk, hkc⟩ := fb_onto h1 h2 (y := c) (by omega)
    by_cases hk2 : k = c
    · subst hk2
      show cntB (fun j => Q (bd j)) k + (if Q (bd k) = true then 1 else 0) = cntB Q k + (if Q k = true then 1 else 0)
      rw [cntB_perm (Q := Q) (c := k) (bd := bd) (fun j hj => by have b1 := h1 j (by omega); have b2 := h2 j k hj (by omega); omega) (fun i j a1 a2 => h2 i j a1 (by omega)), hkc]
    · have hb : ∀ j, j < c → (if j = k then bd c else bd j) < c := fun j hj => by
        by_cases e : j = k
        · rw [if_pos e]
          have b1 := h1 c (by omega)
          have b2 := h2 k c (by omega) (by omega)
          omega
        · rw [if_neg e]
          have b1 := h1 j (by omega)
          rcases Nat.lt_or_gt_of_ne e with e2 | e2
          · have b2 := h2 j k e2 (by omega); omega
          · have b2 := h2 k j e2 (by omega); omega
      have ih := cntB_perm (Q := Q) (c := c) (bd := fun j => if j = k then bd c else bd j) hb (fun i j a1 a2 => by
        show (if i = k then bd c else bd i) ≠ (if j = k then bd c else bd j)
        by_cases e1 : i = k
        · rw [if_pos e1, if_neg (by omega)]
          exact fun z => h2 j c (by omega) (by omega) z.symm
        · rw [if_neg e1]
          by_cases e2 : j = k
          · rw [if_pos e2]; exact h2 i c (by omega) (by omega)
          · rw [if_neg e2]; exact h2 i j a1 (by omega))
      have hc : cntB (fun j => Q (bd j)) c + (if Q (if k = k then bd c else bd k) = true then 1 else 0) = cntB (fun j => Q (if j = k then bd c else bd j)) c + (if Q (bd k) = true then 1 else 0) := cntB_ch (P := fun j => Q (bd j)) (Q := fun j => Q (if j = k then bd c else bd j)) (i := k) (n := c) (by omega) (fun j hj hj2 => by show Q (bd j) = Q (if j = k then bd c else bd j); rw [if_neg hj2])
      rw [if_pos (rfl : k = k), hkc, ih] at hc
      exact hc
/-- who did last what a task's eyes name -/
def eyT (R9 : Nat → Nat → Int32) (q : Nat → rG) (c t : Nat) : Int32 := if (q (R9 56 t).toNatClampNeg).1.2.2.2.2 (R9 57 t).toNatClampNeg = -1 then -1 else (dlM R9 (R9 56 t) ((q (R9 56 t).toNatClampNeg).1.2.2.2.2 (R9 57 t).toNatClampNeg) c).1
section TK
variable {G : wG} {B : Nat} {Λ : wL} {F : Nat → Nat → Int32} {O : Nat → Nat → Option Nat} {R : Nat → Nat → Nat → Int32} {sz : Nat} {F9 : Nat → Int32} {tl : Int64} {R9 : Nat → Nat → Int32} {NL : Nat → Int64} {nb d md L a np c nr dm : Nat} {cu : Option (Nat × Nat × Nat × bG)} {q : Nat → rG} {bd : Nat → Nat}
theorem tkA (J : invG B Λ F O R sz F9 R9 nb d md L a np c nr dm cu q bd) {t : Nat} (ht : t < c) : tskOk R9 t ∧ tkC Λ F O R nr t (eyT R9 q c t) ∧ ∀ p, p < np → mayT R9 np c p t = alC R (nI p) (rsV R np p) t (eyT R9 q c t) := by
  obtain ⟨I1, I2, ⟨p1, p2, p3, p4, p5, p6, p7, p8, p9⟩, ⟨m1, m2, m3, m4, m5, m6, m7, m8⟩, I5, I6, I7, I8⟩ := J
  obtain ⟨⟨t1, t2, t3, t4, t5, t6, t7⟩, ⟨r, i, r1, r2, r3, r4, r5, r6⟩, t9⟩ := I7 t ht
  obtain ⟨⟨g1, g2, g3, g4⟩, ⟨k1, k2, k3, k4, k5, k6, k7, k8, k9⟩, ⟨w1, w2, w3, w4, w5, w6⟩, ⟨x1, x2, x3⟩⟩ := I6 r r1
  obtain ⟨b1, b2, b3, b4, b5, b6⟩ := k1
  obtain ⟨o1, o2, o3, o4, o5, o6, o7, o8, o9⟩ := g1
  have hi : i < 40 := by omega
  have e1 : eyT R9 q c t = if (q r).1.2.2.2.2 i = -1 then -1 else (dlM R9 (nI r) ((q r).1.2.2.2.2 i) c).1 := by
    unfold eyT
    rw [r3, r4, nI_clamp (by omega), nI_clamp (by omega)]
  refine ⟨⟨r, i, by omega, hi, r3, r4⟩, ?_, fun p hp => ?_⟩
  · refine ⟨r, _, _, _, _, i, _, by rw [t1]; exact r3, r1, k4, k3, k5, b1, by rw [t2]; exact r4, b2, r2, o4, ?_⟩
    rw [(b6 i r2).2.2, e1]
    rcases (o9 i r2).2.2 with z | ⟨j, z1, z2⟩
    · left; rw [if_pos z]; exact ⟨z, rfl⟩
    · right
      refine ⟨j, by omega, z2, ?_⟩
      rw [z2, if_neg (nI_m1n (by omega)), x2 j (by omega)]
  · refine may_eq p7 p6 p4 p3 p8 hp r3 (by omega) r4 hi (by rw [r6, (w3 i r2).1]) ?_
    rw [(w3 i r2).2.2, e1]
    rcases (o9 i r2).2.2 with z | ⟨j, z1, z2⟩
    · left; rw [if_pos z]; exact ⟨z, rfl⟩
    · right
      refine ⟨j, by omega, z2, ?_⟩
      rw [z2, if_neg (nI_m1n (by omega))]
theorem ls_eq (J : invG B Λ F O R sz F9 R9 nb d md L a np c nr dm cu q bd) {p t : Nat} (hp : p < np) (ht : t < c) : lstT R9 np c p t = PlC R (nI p) (rsV R np p) (eyT R9 q c) t := by
  unfold lstT PlC
  rw [(tkA J ht).2.2 p hp, (J.2.2.2.2.2.2.1 t ht).1.2.2.2.2.1]
theorem bf {b : Bool} (h : ¬ b = true) : b = false := by cases b with | false => rfl | true => exact absurd rfl h
theorem pr_task (I : Inv B Λ F O R sz F9 R9) (x1 x2 : Int32) : Pair G B mX8_task mX9_task [.int x1, .int x2] (hp B Λ F O R sz F9 tl R9 NL) := by
  have I0 := I
  obtain ⟨nb, d, md, L, a, np, c, nr, dm, cu, q, bd, J⟩ := I
  have J0 := J
  obtain ⟨I1, I2, I3, ⟨m1, m2, m3, m4, m5, m6, m7, m8⟩, I5, I6, I7, I8⟩ := J
  by_cases h : wIn x1 c = true
  · obtain ⟨t, h1, h2⟩ := (wIn_iff (by omega)).mp h
    refine pair_same I0 (c8_task I1.1 m1 m3 h2 h1) (Det_eq (c9_task m2 m3 h2 h1 (tkA J0 h1).1) ?_ rfl)
    obtain ⟨⟨t1, t2, t3, t4, t5, t6, t7⟩, ⟨r, i, r1, r2, r3, r4, r5, r6⟩, t9⟩ := I7 t h1
    obtain ⟨g, ⟨k1, k2, k3, k4, k5, k6, k7, k8, k9⟩, ⟨w1, w2, w3, w4, w5, w6⟩, ⟨x1, x2, x3⟩⟩ := I6 r r1
    have hi : i < 40 := by have := g.1.2.2.2.1; omega
    unfold taskM tskC
    rw [t1, t2, t3, t4, t5, t6, t7, r6]
    have e : R9 46 (40 * (R9 56 t).toNatClampNeg + (R9 57 t).toNatClampNeg) = nI ((q r).1.2.2.1 i) := by
      rw [r3, r4, nI_clamp (by omega), nI_clamp (by omega), (w3 i r2).1]
    rw [e]
  · exact pair_same I0 (c8_task0 I1.1 m1 m3 (bf h)) (c9_task0 m2 m3 (bf h))
theorem pr_may (I : Inv B Λ F O R sz F9 R9) (x1 x2 : Int32) : Pair G B mX8_may mX9_may [.int x1, .int x2] (hp B Λ F O R sz F9 tl R9 NL) := by
  have I0 := I
  obtain ⟨nb, d, md, L, a, np, c, nr, dm, cu, q, bd, J⟩ := I
  have J0 := J
  obtain ⟨I1, I2, ⟨p1, p2, p3, p4, p5, p6, p7, p8, p9⟩, ⟨m1, m2, m3, m4, m5, m6, m7, m8⟩, I5, I6, I7, I8⟩ := J
  by_cases hp : wIn x1 np = true
  · obtain ⟨p, hp1, hp2⟩ := (wIn_iff (by omega)).mp hp
    by_cases h : wIn x2 c = true
    · obtain ⟨t, h1, h2⟩ := (wIn_iff (by omega)).mp h
      obtain ⟨a1, a2, a3⟩ := tkA J0 h1
      refine pair_same I0 (c8_may I1.1 p1 p3 hp2 hp1 m1 m3 m4 m6 h2 h1 a2) (Det_eq (c9_may p2 p3 m2 m3 p8 hp2 hp1 h2 h1 a1) ?_ rfl)
      rw [a3 p hp1, hp2]
    · exact pair_same I0 (c8_may1 I1.1 p1 p3 hp2 hp1 m1 m3 (bf h)) (c9_may0 p2 p3 m2 m3 (by rw [bf h, Bool.and_false]))
  · exact pair_same I0 (c8_may0 I1.1 p1 p3 (bf hp)) (c9_may0 p2 p3 m2 m3 (by rw [bf hp, Bool.false_and]))
theorem pr_list (I : Inv B Λ F O R sz F9 R9) (x1 : Int32) : Pair G B mX8_list mX9_list [.int x1] (hp B Λ F O R sz F9 tl R9 NL) := by
  have I0 := I
  obtain ⟨nb, d, md, L, a, np, c, nr, dm, cu, q, bd, J⟩ := I
  have J0 := J
  obtain ⟨I1, I2, ⟨p1, p2, p3, p4, p5, p6, p7, p8, p9⟩, ⟨m1, m2, m3, m4, m5, m6, m7, m8⟩, I5, I6, I7, I8⟩ := J
  by_cases hp : wIn x1 np = true
  · obtain ⟨p, hp1, hp2⟩ := (wIn_iff (by omega)).mp hp
    refine pair_same I0 (c8_list I1.1 p1 p3 hp2 hp1 m1 m3 m4 m6 (fun t ht => (tkA J0 ht).2.1)) (Det_eq (c9_list p2 p3 m2 m3 p8 hp2 hp1 (fun t ht => (tkA J0 ht).1)) ?_ rfl)
    rw [cntB_cg (fun t ht => ls_eq J0 hp1 ht), hp2]
  · exact pair_same I0 (c8_list0 I1.1 p1 p3 (bf hp)) (c9_list0 p2 p3 (bf hp))
theorem of_eq (J : invG B Λ F O R sz F9 R9 nb d md L a np c nr dm cu q bd) {t : Nat} (ht : t < c) : ∀ n, n ≤ np → ofM R9 np c t n = onI (ofC R np t (eyT R9 q c t) n) := by
  obtain ⟨p1, p2, p3, p4, p5, p6, p7, p8, p9⟩ := J.2.2.1
  have ha := (tkA J ht).2.2
  intro n
  induction n with
  | zero => intro _; rfl
  | succ n ih =>
    intro hn
    have ih' := ih (by omega)
    rw [ofM, ofC]
    have e : (mayT R9 np c n t = true ∧ nI (cntB (Pcl R9 (nI n)) c) < R9 66 n ∧ (ofM R9 np c t n < 0 ∨ nI (cntB (Pcl R9 (nI n)) c) < nI (cntB (Pcl R9 (ofM R9 np c t n)) c))) ↔ ((fwC R n (ofC R np t (eyT R9 q c t) n) && decide (R 4 3 n < R 4 2 n) && alC R (nI n) (rsV R np n) t (eyT R9 q c t)) = true) := by
      rw [Bool.and_eq_true, Bool.and_eq_true, decide_eq_true_iff, ha n (by omega), p5, (p9 n (by omega)).1, ih']
      have e2 : (onI (ofC R np t (eyT R9 q c t) n) < 0 ∨ nI (cntB (Pcl R9 (nI n)) c) < nI (cntB (Pcl R9 (onI (ofC R np t (eyT R9 q c t) n))) c)) ↔ fwC R n (ofC R np t (eyT R9 q c t) n) = true := by
        cases ho : ofC R np t (eyT R9 q c t) n with
        | none => exact ⟨fun _ => rfl, fun _ => Or.inl (by decide)⟩
        | some b =>
          have hb := ofC_lt ho
          show (nI b < 0 ∨ nI (cntB (Pcl R9 (nI n)) c) < nI (cntB (Pcl R9 (nI b)) c)) ↔ decide (R 4 3 n < R 4 3 b) = true
          rw [decide_eq_true_iff, (p9 n (by omega)).1, (p9 b (by omega)).1]
          exact ⟨fun z => z.elim (fun z => absurd z (nI_nn (by omega))) id, Or.inr⟩
      rw [e2]
      exact ⟨fun ⟨z1, z2, z3⟩ => ⟨⟨z3, z2⟩, z1⟩, fun ⟨⟨z3, z2⟩, z1⟩ => ⟨z1, z2, z3⟩⟩
    by_cases hc : (fwC R n (ofC R np t (eyT R9 q c t) n) && decide (R 4 3 n < R 4 2 n) && alC R (nI n) (rsV R np n) t (eyT R9 q c t)) = true
    · rw [if_pos hc, if_pos (e.mpr hc)]; rfl
    · rw [if_neg hc, if_neg (fun z => hc (e.mp z))]; exact ih'
theorem pr_offer (I : Inv B Λ F O R sz F9 R9) (x1 : Int32) : Pair G B mX8_offer mX9_offer [.int x1] (hp B Λ F O R sz F9 tl R9 NL) := by
  have I0 := I
  obtain ⟨nb, d, md, L, a, np, c, nr, dm, cu, q, bd, J⟩ := I
  have J0 := J
  obtain ⟨I1, I2, ⟨p1, p2, p3, p4, p5, p6, p7, p8, p9⟩, ⟨m1, m2, m3, m4, m5, m6, m7, m8⟩, I5, I6, I7, I8⟩ := J
  by_cases h : wIn x1 c = true
  · obtain ⟨t, h1, h2⟩ := (wIn_iff (by omega)).mp h
    have hst := (I7 t h1).1.2.2.2.2.1
    obtain ⟨a1, a2, a3⟩ := tkA J0 h1
    by_cases hs : R9 61 t = 0
    · exact pair_same I0 (c8_offer I1.1 p1 p3 m1 m3 m4 m6 h2 h1 a2 (by rw [hst]; exact hs)) (Det_eq (c9_offer1 p2 p3 m2 m3 p8 h2 h1 a1 hs) (by rw [of_eq J0 h1 np (Nat.le_refl _)]) rfl)
    · exact pair_same I0 (c8_offer1 I1.1 m1 m3 h2 h1 (by rw [hst]; exact hs)) (c9_offer2 m2 m3 h2 h1 hs)
  · exact pair_same I0 (c8_offer0 I1.1 m1 m3 (bf h)) (c9_offer0 m2 m3 (bf h))
end TK
/-! the tasks in their order -/
section LS
variable {P : Nat → Bool} {bd : Nat → Nat} {z : Int32} {c : Nat}
theorem lsC_sp : ∀ (n k h : Nat), k + n = c → h = cntB (fun j => P (bd j)) k → (∃ k', k ≤ k' ∧ k' < c ∧ P (bd k') = true ∧ nI (cntB (fun j => P (bd j)) k') = z ∧ lsC P bd z n k h = nI (bd k')) ∨ ((∀ k', k ≤ k' → k' < c → P (bd k') = true → ¬ nI (cntB (fun j => P (bd j)) k') = z) ∧ lsC P bd z n k h = -1) := by
  intro n
  induction n with
  | zero => intro k h hk hh; exact Or.inr ⟨fun k' h1 h2 => by omega, rfl⟩
  | succ n ih =>
    intro k h hk hh
    rw [lsC]
    by_cases hp : P (bd k) = true
    · rw [if_pos hp]
      by_cases hz : nI h = z
      · rw [if_pos hz]
        exact Or.inl ⟨k, Nat.le_refl _, by omega, hp, by rw [← hh]; exact hz, rfl⟩
      · rw [if_neg hz]
        rcases ih (k + 1) (h + 1) (by omega) (by rw [hh]; exact (cntB_t (P := fun j => P (bd j)) hp).symm) with ⟨k', a1, a2, a3, a4, a5⟩ | ⟨a1, a2⟩
        · exact Or.inl ⟨k', by omega, a2, a3, a4, a5⟩
        · refine Or.inr ⟨fun k' b1 b2 b3 => ?_, a2⟩
          by_cases e : k' = k
          · subst e; rw [← hh]; exact hz
          · exact a1 k' (by omega) b2 b3
    · rw [if_neg hp]
      rcases ih (k + 1) h (by omega) (by rw [hh]; exact (cntB_f (P := fun j => P (bd j)) (bf hp)).symm) with ⟨k', a1, a2, a3, a4, a5⟩ | ⟨a1, a2⟩
      · exact Or.inl ⟨k', by omega, a2, a3, a4, a5⟩
      · refine Or.inr ⟨fun k' b1 b2 b3 => ?_, a2⟩
        by_cases e : k' = k
        · subst e; exact absurd b3 hp
        · exact a1 k' (by omega) b2 b3
theorem lsM_sp {Q : Nat → Bool} : ∀ (n t : Nat), (∃ t', t ≤ t' ∧ t' < t + n ∧ Q t' = true ∧ lsM Q n t = nI t') ∨ ((∀ t', t ≤ t' → t' < t + n → Q t' = false) ∧ lsM Q n t = -1) := by
  intro n
  induction n with
  | zero => intro t; exact Or.inr ⟨fun t' h1 h2 => by omega, rfl⟩
  | succ n ih =>
    intro t
    rw [lsM]
    by_cases h : Q t = true
    · rw [if_pos h]; exact Or.inl ⟨t, Nat.le_refl _, by omega, h, rfl⟩
    · rw [if_neg h]
      rcases ih (t + 1) with ⟨t', a1, a2, a3, a4⟩ | ⟨a1, a2⟩
      · exact Or.inl ⟨t', by omega, by omega, a3, a4⟩
      · refine Or.inr ⟨fun t' b1 b2 => ?_, a2⟩
        by_cases e : t' = t
        · subst e; exact bf h
        · exact a1 t' (by omega) (by omega)
theorem cnt_inj {Q : Nat → Bool} {i j : Nat} (hi : Q i = true) (hj : Q j = true) (h : cntB Q i = cntB Q j) : i = j := by
  rcases Nat.lt_trichotomy i j with q | q | q
  · have := cntB_mo Q (i + 1) (j - (i + 1))
    rw [show i + 1 + (j - (i + 1)) = j by omega, cntB_t hi] at this
    omega
  · exact q
  · have := cntB_mo Q (j + 1) (i - (j + 1))
    rw [show j + 1 + (i - (j + 1)) = i by omega, cntB_t hj] at this
    omega
end LS
section LS2
variable {G : wG} {B : Nat} {Λ : wL} {F : Nat → Nat → Int32} {O : Nat → Nat → Option Nat} {R : Nat → Nat → Nat → Int32} {sz : Nat} {F9 : Nat → Int32} {tl : Int64} {R9 : Nat → Nat → Int32} {NL : Nat → Int64} {nb d md L a np c nr dm : Nat} {cu : Option (Nat × Nat × Nat × bG)} {q : Nat → rG} {bd : Nat → Nat}
theorem bd_inj (h : bdI R R9 c bd) : ∀ i j, i < j → j < c → bd i ≠ bd j := fun i j h1 h2 e => by
  rcases h.2 i j h1 h2 with z | ⟨z1, z2⟩
  · rw [e] at z; exact Int32.lt_irrefl z
  · omega
/-- how many stand ahead -/
theorem ah_eq (h : bdI R R9 c bd) {p k : Nat} (hk : k < c) : cntB (Pah R9 np c p (bd k)) c = cntB (fun j => lstT R9 np c p (bd j)) k := by
  rw [← cntB_perm (Q := Pah R9 np c p (bd k)) (bd := bd) (fun j hj => (h.1 j hj).2) (bd_inj h)]
  have e : ∀ j, j < c → Pah R9 np c p (bd k) (bd j) = (lstT R9 np c p (bd j) && decide (j < k)) := fun j hj => by
    unfold Pah
    rcases Nat.lt_trichotomy j k with z | z | z
    · rw [decide_eq_false (bd_inj h j k z hk), decide_eq_true z]
      rcases h.2 j k z hk with w | ⟨w1, w2⟩
      · rw [decide_eq_true w]; simp
      · rw [decide_eq_true w1, decide_eq_true w2]; simp
    · subst z
      rw [decide_eq_true rfl, decide_eq_false (Nat.lt_irrefl j)]; simp
    · rw [decide_eq_false (show ¬ j < k by omega)]
      rcases h.2 k j z hj with w | ⟨w1, w2⟩
      · rw [decide_eq_false (Int32.lt_asymm w), decide_eq_false (fun e : R9 60 (bd j) = R9 60 (bd k) => by rw [e] at w; exact Int32.lt_irrefl w)]; simp
      · rw [w1, decide_eq_false (Int32.lt_irrefl), decide_eq_false (show ¬ bd j < bd k by omega)]; simp
  rw [cntB_cg e]
  have e2 := cntB_app (fun j => lstT R9 np c p (bd j) && decide (j < k)) k (c - k)
  rw [show k + (c - k) = c by omega] at e2
  rw [e2, cntB_0 (P := fun j => (fun j => lstT R9 np c p (bd j) && decide (j < k)) (k + j)) (fun j hj => by show (_ && decide (k + j < k)) = false; rw [decide_eq_false (by omega), Bool.and_false]), Nat.add_zero]
  exact cntB_cg (fun j hj => by show (_ && decide (j < k)) = _; rw [decide_eq_true hj, Bool.and_true])
theorem pr_listed (I : Inv B Λ F O R sz F9 R9) (x1 x2 : Int32) : Pair G B mX8_listed mX9_listed [.int x1, .int x2] (hp B Λ F O R sz F9 tl R9 NL) := by
  have I0 := I
  obtain ⟨nb, d, md, L, a, np, c, nr, dm, cu, q, bd, J⟩ := I
  have J0 := J
  obtain ⟨I1, I2, ⟨p1, p2, p3, p4, p5, p6, p7, p8, p9⟩, ⟨m1, m2, m3, m4, m5, m6, m7, m8⟩, I5, I6, I7, I8⟩ := J
  by_cases hp : wIn x1 np = true
  · obtain ⟨p, hp1, hp2⟩ := (wIn_iff (by omega)).mp hp
    have c2 := c9_listed (G := G) (m := B + 44) (tl := tl) (NL := NL) (h0 := wld Λ F O R (fun _ => none)) (sz := sz) (y := x2) p2 p3 m2 m3 p8 hp2 hp1 (fun t ht => (tkA J0 ht).1)
    by_cases hz : x2 < 0
    · refine pair_same I0 (c8_listed1 I1.1 p1 p3 hp2 hp1 hz) (Det_eq c2 ?_ rfl)
      rcases lsM_sp (Q := Pls R9 np c p x2) c 0 with ⟨t', a1, a2, a3, a4⟩ | ⟨a1, a2⟩
      · exfalso
        unfold Pls at a3
        rw [Bool.and_eq_true, decide_eq_true_iff] at a3
        have hb := cntB_le (Pah R9 np c p t') c
        exact nI_nn (by omega) (a3.2 ▸ hz : nI (cntB (Pah R9 np c p t') c) < 0)
      · rw [a2]
    · refine pair_same I0 (c8_listed I1.1 p1 p3 hp2 hp1 (Int32.not_lt.mp hz) m1 m3 m4 m6 (fun t ht => (tkA J0 ht).2.1) I8.1) (Det_eq c2 ?_ rfl)
      rw [hp2]
      have eP : ∀ k, k ≤ c → cntB (fun j => PlC R (nI p) (rsV R np p) (eyT R9 q c) (bd j)) k = cntB (fun j => lstT R9 np c p (bd j)) k := fun k hk => cntB_cg (fun j hj => (ls_eq J0 hp1 ((I8.1 j (by omega)).2)).symm)
      have key : ∀ k, k < c → (Pls R9 np c p x2 (bd k) = true ↔ PlC R (nI p) (rsV R np p) (eyT R9 q c) (bd k) = true ∧ nI (cntB (fun j => PlC R (nI p) (rsV R np p) (eyT R9 q c) (bd j)) k) = x2) := fun k hk => by
        unfold Pls
        rw [Bool.and_eq_true, decide_eq_true_iff, ls_eq J0 hp1 ((I8.1 k hk).2), ah_eq I8 hk, eP k (by omega)]
      congr 2
      rcases lsC_sp (P := PlC R (nI p) (rsV R np p) (eyT R9 q c)) (bd := bd) (z := x2) (c := c) c 0 0 (by omega) rfl with ⟨k, a1, a2, a3, a4, a5⟩ | ⟨a1, a2⟩
      · rw [a5]
        rcases lsM_sp (Q := Pls R9 np c p x2) c 0 with ⟨t', b1, b2, b3, b4⟩ | ⟨b1, b2⟩
        · rw [b4]
          obtain ⟨k2, d1, d2⟩ := fb_onto (fun k hk => (I8.1 k hk).2) (bd_inj I8) (y := t') (by omega)
          subst d2
          obtain ⟨e1, e2⟩ := (key k2 d1).mp b3
          have hb1 := cntB_le (fun j => PlC R (nI p) (rsV R np p) (eyT R9 q c) (bd j)) k
          have hb2 := cntB_le (fun j => PlC R (nI p) (rsV R np p) (eyT R9 q c) (bd j)) k2
          have e3 := (nI_eq (by omega) (by omega)).mp (e2.trans a4.symm)
          rw [cnt_inj (Q := fun j => PlC R (nI p) (rsV R np p) (eyT R9 q c) (bd j)) e1 a3 e3]
        · have := b1 (bd k) (by omega) (by have := (I8.1 k a2).2; omega)
          rw [(key k a2).mpr ⟨a3, a4⟩] at this
          cases this
      · rw [a2]
        rcases lsM_sp (Q := Pls R9 np c p x2) c 0 with ⟨t', b1, b2, b3, b4⟩ | ⟨b1, b2⟩
        · obtain ⟨k2, d1, d2⟩ := fb_onto (fun k hk => (I8.1 k hk).2) (bd_inj I8) (y := t') (by omega)
          subst d2
          obtain ⟨e1, e2⟩ := (key k2 d1).mp b3
          exact absurd e2 (a1 k2 (by omega) d1 e1)
        · exact b2
  · exact pair_same I0 (c8_listed0 I1.1 p1 p3 (bf hp)) (c9_listed0 p2 p3 (bf hp))
end LS2
