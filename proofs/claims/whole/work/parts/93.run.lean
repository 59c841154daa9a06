/-! run: both begin alike -/
section RP
variable {cd : Int32} {r : Nat} {R : Nat → Nat → Int32}
theorem rp_o {k : Nat} (h : ¬ (41 ≤ k ∧ k ≤ 51)) : runP cd r R k = R k := by
  simp only [runP, rn3, rn2, rn1]
  rw [if_neg (by omega), if_neg (by omega), if_neg (by omega), if_neg (by omega), if_neg (by omega), if_neg (by omega), if_neg (by omega), if_neg (by omega), if_neg (by omega), w_up_ne _ _ (by omega), w_up_ne _ _ (by omega)]
theorem rp_41 : runP cd r R 41 = upd (R 41) r cd := rfl
theorem rp_51 : runP cd r R 51 = upd (R 51) r 0 := rfl
theorem rp_2 {k : Nat} (hk : k < 4) (j : Nat) : runP cd r R (42 + k) j = if 200 * r ≤ j ∧ j < 200 * r + 200 then R (26 + k) (0 + (j - 200 * r)) else R (42 + k) j := by
  have : k = 0 ∨ k = 1 ∨ k = 2 ∨ k = 3 := by omega
  rcases this with rfl | rfl | rfl | rfl <;> rfl
theorem rp_4 {k : Nat} (hk : k < 3) (j : Nat) : runP cd r R (46 + k) j = if 40 * r ≤ j ∧ j < 40 * r + 40 then R (30 + k) (0 + (j - 40 * r)) else R (46 + k) j := by
  have : k = 0 ∨ k = 1 ∨ k = 2 := by omega
  rcases this with rfl | rfl | rfl <;> rfl
theorem rp_50 (j : Nat) : runP cd r R 50 j = if 40 * r ≤ j ∧ j < 40 * r + 40 then 0 else R 50 j := rfl
theorem rp_49 (j : Nat) : runP cd r R 49 j = if 4 * r ≤ j ∧ j < 4 * r + 4 then 0 else R 49 j := rfl
/-- the other runs' rows stay -/
theorem rp_run {s : Nat} {q : rG} (ok : okB q.1) (hs : s ≠ r) (h : rn9 R s q) : rn9 (runP cd r R) s q := by
  refine rn9_pw ok (fun k hk => ?_) (fun k k1 k2 j hj => ?_) (fun k hk j hj => ?_) (fun j hj => ?_) h
  · rcases hk with rfl | rfl
    · rw [rp_41, upd_ne hs]
    · rw [rp_51, upd_ne hs]
  · obtain ⟨i, rfl⟩ : ∃ i, k = 42 + i := ⟨k - 42, by omega⟩
    rw [rp_2 (by omega), if_neg (by omega)]
  · by_cases h50 : k = 50
    · subst h50
      rw [rp_50, if_neg (by omega)]
    · obtain ⟨i, rfl⟩ : ∃ i, k = 46 + i := ⟨k - 46, by omega⟩
      rw [rp_4 (by omega), if_neg (by omega)]
  · rw [rp_49, if_neg (by omega)]
end RP
def sg0 : wS := (fun _ => 0, fun _ => 0, fun _ => false, fun _ => 0, [])
section FAIL
variable {B : Nat} {Λ : wL} {F : Nat → Nat → Int32} {O : Nat → Nat → Option Nat} {R : Nat → Nat → Nat → Int32} {sz : Nat} {F9 F92 : Nat → Int32} {R9 R92 : Nat → Nat → Int32} {nb d md L a np c nr dm : Nat} {cu : Option (Nat × Nat × Nat × bG)} {q : Nat → rG} {bd : Nat → Nat}
/-- a walk that isn't kept -/
theorem inv_f (I : invG B Λ F O R sz F9 R9 nb d md L a np c nr dm cu q bd) {Fw : Nat → Int32} {Rw : Nat → Nat → Int32} (hF : ∀ k, F92 k = F9 k) (hr : ∀ k, k = 0 ∨ 26 ≤ k ∧ k ≤ 32 ∨ 65 ≤ k ∧ k ≤ 68 ∨ k = 70 → R92 k = R9 k) (h9 : ∀ s, s < nr → rn9 R9 s (q s) → rn9 R92 s (q s)) (ht : ∀ k, 56 ≤ k ∧ k ≤ 63 → ∀ j, j < c → R92 k j = R9 k j) : Inv B Λ (va_up F 6 Fw) O (va_up R 6 Rw) sz F92 R92 := by
  obtain ⟨I1, ⟨s1, s2, s3, s4, s5, s6, s7, s8, s9⟩, ⟨p1, p2, p3, p4, p5, p6, p7, p8, p9⟩, ⟨m1, m2, m3, m4, m5, m6, m7, m8⟩, I5, I6, I7, I8⟩ := I
  have hs : sdB Λ F O R d (va_up F 6 Fw) O (va_up R 6 Rw) := fun i hi => by
    obtain ⟨n0, n1, n2, n4, n5, n6, n7⟩ := dyn_ne I1.1 hi
    exact ⟨w_up_ne _ _ n6, w_up_ne _ _ n6, rfl⟩
  have tE : ∀ t, t < c → tkE R92 R9 t := fun t h => ⟨ht 56 (by omega) t h, ht 57 (by omega) t h, by rw [ht 61 (by omega) t h], fun _ => ⟨ht 62 (by omega) t h, by rw [hr 70 (by omega)]⟩⟩
  refine ⟨nb, d, md, L, a, np, c, nr, dm, cu, q, bd, I1, ⟨s1, by rw [hF]; exact s2, s3, by rw [hr 0 (by omega)]; exact s4, s5, by rw [hF]; exact s6, s7, by rw [hF]; exact s8, by rw [hF]; exact s9⟩, ⟨p1, by rw [hF]; exact p2, p3, by rw [hr 65 (by omega)]; exact p4, by rw [hr 66 (by omega)]; exact p5, by rw [hr 67 (by omega)]; exact p6, by rw [hr 68 (by omega)]; exact p7, by rw [hr 67 (by omega)]; exact p8, fun p hp => ⟨?_, ?_⟩⟩, ⟨m1, by rw [hF]; exact m2, m3, m4, by rw [hF]; exact m5, m6, by rw [hF]; exact m7, ?_⟩, curI_cg hs rfl (fun k _ _ => hF k) (fun k k1 k2 => hr k (by omega)) I5, fun s hs' => ?_, fun t h => ?_, ?_⟩
  · show R 4 3 p = _
    rw [(p9 p hp).1, cntB_cg (P := Pcl R9 (nI p)) (Q := Pcl R92 (nI p)) (fun t h => by unfold Pcl; rw [ht 61 (by omega) t h, ht 62 (by omega) t h])]
  · show R 4 4 p = _
    rw [(p9 p hp).2, cntB_cg (P := Pdn R9 (nI p)) (Q := Pdn R92 (nI p)) (fun t h => by unfold Pdn; rw [ht 61 (by omega) t h, ht 62 (by omega) t h])]
  · rw [m8]
    exact cntB_cg (fun t h => by show decide (R9 61 t = 2) = decide (R92 61 t = 2); rw [ht 61 (by omega) t h])
  · obtain ⟨g1, g2, g3, g4⟩ := I6 s hs'
    exact ⟨g1, rnC_cg hs rfl g2, h9 s hs' g3, rnT_cg hs g2.2.2.1 tE g4⟩
  · have h0 := I7 t h
    unfold tkI tkQ tkR tkS tkD at *
    rw [ht 56 (by omega) t h, ht 57 (by omega) t h, ht 58 (by omega) t h, ht 59 (by omega) t h, ht 60 (by omega) t h, ht 61 (by omega) t h, ht 62 (by omega) t h, ht 63 (by omega) t h, hr 70 (by omega)]
    exact h0
  · refine ⟨I8.1, fun i j h1 h2 => ?_⟩
    rw [ht 60 (by omega) _ (I8.1 i (by omega)).2, ht 60 (by omega) _ (I8.1 j h2).2]
    exact I8.2 i j h1 h2
end FAIL
theorem dlM_none {R : Nat → Nat → Int32} {w v : Int32} : ∀ c, (∀ t, t < c → ¬ R 56 t = w) → (dlM R w v c).1 = -1
  | 0, _ => rfl
  | c + 1, h => by
    rw [dlM, if_neg (fun z => h c (by omega) z.1)]
    exact dlM_none c (fun t ht => h t (by omega))
theorem getD_some {N : List Nat} {i e : Nat} (h : N[i]? = some e) : N.getD i 0 = e := by rw [List.getD_eq_getElem?_getD, h]; rfl
section RUN
variable {G : wG} {B : Nat} {Λ : wL} {F : Nat → Nat → Int32} {O : Nat → Nat → Option Nat} {R : Nat → Nat → Nat → Int32} {sz : Nat} {F9 : Nat → Int32} {tl : Int64} {R9 : Nat → Nat → Int32} {NL : Nat → Int64}
theorem pr_run (I : Inv B Λ F O R sz F9 R9) : Pair G B mX8_run mX9_run [] (hp B Λ F O R sz F9 tl R9 NL) := by
  have I0 := I
  obtain ⟨nb, d, md, L, a, np, c, nr, dm, cu, q, bd, J⟩ := I
  have J0 := J
  obtain ⟨⟨H, l2, l3, l4, hD, ho3, l7, l8⟩, ⟨s1, s2, s3, s4, s5, s6, s7, s8, s9⟩, I3, ⟨m1, m2, m3, m4, m5, m6, m7, m8⟩, I5, I6, I7, I8⟩ := J
  match cu, I5, J0 with
  | none, I5, J0 => exact pair_same I0 (c8_run0 H I5.1) (c9_run0 (Or.inl (by rw [I5.2]; decide)))
  | some (b, mb, s, (T, cd, ro, du, ey)), I5, J0 =>
    have I5' := I5
    obtain ⟨h1, h2, h3, h4, h5, h6, h7, h8, h9, h10, h11⟩ := I5
    by_cases hr8 : nr = 8
    · exact pair_same I0 (c8_run1 H h1 m4 hr8) (c9_run0 (Or.inr (by rw [m5, hr8]; rfl)))
    · have hr : nr < 8 := by omega
      obtain ⟨⟨o1, o1a, o1l⟩, o2, o3, o4, o5, o6, o7, o8, o9⟩ := h4
      dsimp only at o1 o1a o1l o2 o3 o4 o5 o6 o7 o8 o9 h8 h9 h10 h11
      have hfr : ∀ y, Λ.1 y ≠ some nb := l4 nb (Nat.le_refl _)
      have hB : Lk Λ b 3 mb := h5.1
      obtain ⟨-, b2, b3, b4, b5, b6⟩ := h5
      dsimp only at b2 b3 b4 b5 b6
      have hdl : (dsT T).length = cd := by rw [o3, List.length_range]
      have hdm : ∀ e, e ∈ dsT T → e < cd := fun e he => by rw [o3] at he; exact List.mem_range.mp he
      have e2 : ∀ k, k < 4 → ∀ j, j < 200 → runP (F9 25) nr R9 (42 + k) (200 * nr + j) = R9 (26 + k) j := fun k hk j hj => by
        rw [rp_2 hk, if_pos (by omega)]
        congr 1
        omega
      have e4 : ∀ k, k < 3 → ∀ j, j < 40 → runP (F9 25) nr R9 (46 + k) (40 * nr + j) = R9 (30 + k) j := fun k hk j hj => by
        rw [rp_4 hk, if_pos (by omega)]
        congr 1
        omega
      have hiR : iR (fun j => runP (F9 25) nr R9 42 (200 * nr + j)) (fun j => runP (F9 25) nr R9 43 (200 * nr + j)) (fun j => runP (F9 25) nr R9 44 (200 * nr + j)) (fun j => runP (F9 25) nr R9 45 (200 * nr + j)) T 0 := iR_cg T o1 0 (fun j _ hj => ⟨e2 0 (by omega) j (by omega), e2 1 (by omega) j (by omega), e2 2 (by omega) j (by omega), e2 3 (by omega) j (by omega)⟩) h10
      have hl : runP (F9 25) nr R9 41 nr = nI (szR T) := by rw [rp_41, w_upd_self]; exact h9
      have hH : HR nr (szR T) du (fun e => psR T 0 e + 1) (runP (F9 25) nr R9) T 0 := by
        refine ⟨hiR, by omega, fun e he => ?_, o5, o1l⟩
        have he2 := hdm e he
        refine ⟨by omega, ?_, (o9 e he2).2.1.1, (o9 e he2).2.1.2, rfl⟩
        have := e4 1 (by omega) e (by omega)
        exact this.trans (h11 e he2).2.1
      have hSR : SR a nr c du (fun e => psR T 0 e + 1) (runP (F9 25) nr R9) sg0 (runP (F9 25) nr R9) := by
        refine ⟨fun _ _ _ _ _ => rfl, fun i hi => ?_, fun _ _ => rfl, fun f hf => ?_, fun _ _ => rfl, fun _ _ _ _ => rfl, fun i e he => by cases he⟩
        · rw [rp_49, if_pos (by omega)]; rfl
        · rw [rp_50, if_pos (by omega)]; rfl
      have hi0 : idW T sg0 := ⟨fun _ _ => ⟨rfl, rfl⟩, fun _ _ => rfl⟩
      obtain ⟨fuel, ⟨gb, gc, gR⟩, hgM, hGo1, hGo2⟩ := goR_run (a := a) (c0 := c) o1 o2 o1a hl o7 hH (SR_pile (g := upd (runP (F9 25) nr R9 69) 0 0) hSR) hi0 o6 m3 rfl
      have hSC : SC sg0 0 (wkS (F 6)) (wkZ (R 6)) := by
        refine ⟨rfl, rfl, rfl, fun i hi => ?_, fun f hf => ?_, fun i e he => by cases he⟩
        · show (if i < 4 then (0 : Int32) else R 6 0 i) = 0
          rw [if_pos hi]
        · show (if f < 40 then (0 : Int32) else R 6 1 f) = nI 0
          rw [if_pos hf]; rfl
      have hHC : HC (szC T + 1) (R b) T 0 := ⟨b5, by omega, fun e he => by have := hdm e he; omega, o5, o1l⟩
      obtain ⟨Fw, Rw, hcM, g1, g2, g3, g4, g5⟩ := goC_run (B := R b) (l := szC T + 1) o1 o2 o1a rfl o8 b4 hHC hSC hi0 o6 (by omega) rfl
      dsimp only at g1 g2 g3 g4 g5 hGo1 hGo2
      obtain ⟨⟨N, hN1, hN2, hN3, hN4⟩, hk1, hk2⟩ := en_mk T o1 o2 sg0 hi0
      have hct := en_ct T o1 sg0
      generalize hx : enT T sg0 = x at *
      have hNl : x.1.2.2.2.2 = N := hN1
      have hn40 : ln x.1 ≤ 40 := by show x.1.2.2.2.2.length ≤ 40; rw [hNl]; omega
      have hcm0 : ∀ i e, x.1.2.2.2.2[i]? = some e → x.1.2.2.2.2.getD i 0 = e ∧ e < cd := fun i e he => ⟨getD_some he, hdm e (hN3 e (by rw [← hNl]; exact List.mem_of_getElem? he))⟩
      by_cases hroom : c + ln x.1 ≤ 200
      · obtain ⟨y1, y2, R', y3, y4⟩ := hGo1 hroom
        subst y1 y2
        have hcm : ∀ k, k < ln x.1 → Rw 2 k = nI (x.1.2.2.2.2.getD k 0) ∧ x.1.2.2.2.2.getD k 0 < cd := fun k hk => by
          have hk' : k < x.1.2.2.2.2.length := hk
          have e := List.getElem?_eq_getElem hk'
          obtain ⟨z1, z2⟩ := hcm0 k _ e
          rw [z1]
          exact ⟨g5 k _ e, z2⟩
        have c1 := c8_runK (G := G) (h0 := mh (B + 44) F9 tl R9 NL (fun _ => none)) H m1 m3 h1 hB b3 o8 m4 hr hcM g1 hn40 hfr l2 b2 o4 s5 s7 hcm (fun e he => ⟨(b6 e he).2.1, (o9 e he).2.1⟩) (by rw [g2]; exact wb_01 _) hroom
        have c2 := fun (h1 : Nat → Option wE) (sz1 : Nat) => c9_run (G := G) (m := B + 44) (tl := tl) (NL := NL) (h0 := h1) (sz := sz1) (by rw [h7]; exact nI_nn (by omega)) m5 hr s6 s7 m2 m3 hgM
        simp only [if_pos] at c2
        have hm : ∀ y, inK 7 sz y → Λ.1 y = none := fun y hy => l2 y (by rcases hy with z | z; omega; have : kLo 7 = 1 := rfl; omega)
        have hat : ∀ y, (lkA Λ nb 7 sz).1 y = if y = sz ∨ (sz + 1 ≤ y ∧ y < sz + 4) then some nb else Λ.1 y := fun y => rfl
        have hlay : ∀ y, B + 44 ≤ y → y < B + 44 + 50 → (lkA Λ nb 7 sz).1 y = none := fun y y1 y2 => by
          rw [hat, if_neg (by omega)]; exact l3 y y1 (by omega)
        refine pair_of c1 hlay (c2 _ _) ?_
        have hΛ : ∀ i κ m, Lk Λ i κ m → Lk (lkA Λ nb 7 sz) i κ m := fun i κ m hk => Lk_old hk hfr hm
        have n0 := Lk_nn H.1 hfr
        have n1 := Lk_nn H.2.1 hfr
        have n2 := Lk_nn H.2.2.1 hfr
        have n4 := Lk_nn H.2.2.2.1 hfr
        have n5 := Lk_nn H.2.2.2.2.1 hfr
        have n6 := Lk_nn H.2.2.2.2.2.1 hfr
        have n7 := Lk_nn H.2.2.2.2.2.2.1 hfr
        have fO : ∀ i, i ≠ 0 → i ≠ nb → i ≠ 6 → rnF F Fw nb nr i = F i := fun i z0 zn z6 => by unfold rnF; rw [w_up_ne _ _ z0, w_up_ne _ _ zn, w_up_ne _ _ z6]
        have f0 : rnF F Fw nb nr 0 = upd (F 0) 5 (nI (nr + 1)) := by unfold rnF; rw [w_up_self]
        have f6 : rnF F Fw nb nr 6 = Fw := by unfold rnF; rw [w_up_ne _ _ (by decide), w_up_ne _ _ n6, w_up_self]
        have fn : rnF F Fw nb nr nb = upd (upd (rF0 (nI nr)) 5 0) 6 0 := by unfold rnF; rw [w_up_ne _ _ (Ne.symm n0), w_up_self]
        have rO : ∀ i, i ≠ nb → i ≠ 6 → rnR R Rw nb i = R i := fun i zn z6 => by unfold rnR; rw [w_up_ne _ _ zn, w_up_ne _ _ z6]
        have r6 : rnR R Rw nb 6 = Rw := by unfold rnR; rw [w_up_ne _ _ n6, w_up_self]
        have rn : rnR R Rw nb nb = va_up (fun _ _ => 0) 4 (mnN 40 (fun _ => 0)) := by unfold rnR; rw [w_up_self]
        have oO : ∀ i, i ≠ nb → i ≠ 7 → rnO O nb mb sz nr i = O i := fun i zn z7 => by unfold rnO; rw [w_up_ne _ _ z7, w_up_ne _ _ zn]
        have o7' : rnO O nb mb sz nr 7 = va_up (O 7) nr (some sz) := by unfold rnO; rw [w_up_self]
        have on : rnO O nb mb sz nr nb = rO0 mb := by unfold rnO; rw [w_up_ne _ _ (Ne.symm n7), w_up_self]
        have hs : sdB Λ F O R d (rnF F Fw nb nr) (rnO O nb mb sz nr) (rnR R Rw nb) := fun i hi => by
          obtain ⟨z0, z1, z2, z4, z5, z6, z7⟩ := dyn_ne H hi
          have zn := dyn_nn hfr hi
          exact ⟨fO i z0 zn z6, rO i zn z6, oO i zn z7⟩
        have bn := Lk_nn hB hfr
        have b0 : b ≠ 0 := Lk_ne hB H.1 (by decide)
        have b6' : b ≠ 6 := Lk_ne hB H.2.2.2.2.2.1 (by decide)
        have no56 : ∀ t, t < c → ¬ R9 56 t = nI nr := fun t ht z => by
          obtain ⟨-, ⟨r', i, w1, w2, w3, -⟩, -⟩ := I7 t ht
          rw [w3] at z
          have := (nI_eq (by omega) (by omega)).mp z
          omega
        have hq : (fun s => if s = nr then (((T, cd, ro, du, ey), (nb, sz, b, mb), sg0, false) : rG) else q s) nr = ((T, cd, ro, du, ey), (nb, sz, b, mb), sg0, false) := if_pos rfl
        have hq2 : ∀ s, s ≠ nr → (fun s => if s = nr then (((T, cd, ro, du, ey), (nb, sz, b, mb), sg0, false) : rG) else q s) s = q s := fun s hs => if_neg hs
        have M : invM B (lkA Λ nb 7 sz) (rnF F Fw nb nr) (rnO O nb mb sz nr) (rnR R Rw nb) (sz + 4) (upd F9 40 (nI (nr + 1))) (runP (F9 25) nr R9) (nb + 1) d md L a np c (nr + 1) dm (some (b, mb, s, (T, cd, ro, du, ey))) (fun s => if s = nr then ((T, cd, ro, du, ey), (nb, sz, b, mb), sg0, false) else q s) bd nr := by
          refine ⟨?_, ?_, ?_, ?_, ?_, fun s hs' => ?_, fun s hs' hne => ?_, ?_, fun t ht => ?_, ?_⟩
          · refine ⟨?_, fun y hy => ?_, fun y y1 y2 => hlay y y1 (by omega), fun k hk y => ?_, hΛ _ _ _ hD, by rw [oO 1 n1 (by decide)]; exact ho3, by omega, fun j hj => by rw [rO 2 n2 (by decide)]; exact l8 j hj⟩
            · obtain ⟨a1, a2, a3, a4, a5, a6, a7, a8, a9, a10, a11, a12, a13⟩ := H
              exact ⟨hΛ _ _ _ a1, hΛ _ _ _ a2, hΛ _ _ _ a3, hΛ _ _ _ a4, hΛ _ _ _ a5, hΛ _ _ _ a6, hΛ _ _ _ a7, by rw [oO 0 n0 (by decide)]; exact a8, by rw [oO 0 n0 (by decide)]; exact a9, by rw [oO 0 n0 (by decide)]; exact a10, by rw [oO 0 n0 (by decide)]; exact a11, by rw [oO 0 n0 (by decide)]; exact a12, by rw [oO 1 n1 (by decide)]; exact a13⟩
            · rw [hat, if_neg (by omega)]; exact l2 y (by omega)
            · rw [hat]
              by_cases e : y = sz ∨ (sz + 1 ≤ y ∧ y < sz + 4)
              · rw [if_pos e]; intro z; have := Option.some.inj z; omega
              · rw [if_neg e]; exact l4 k (by omega) y
          · exact ⟨by rw [fO 2 (by decide) n2 (by decide)]; exact s1, s2, s3, by rw [rO 2 n2 (by decide), rp_o (by omega)]; exact s4, by rw [f0]; exact s5, s6, s7, by rw [f0]; exact s8, by rw [f0]; exact s9⟩
          · refine psI_cg (by rw [fO 4 (by decide) n4 (by decide)]) (rO 4 n4 (by decide)) rfl (fun k hk => rp_o (by omega)) I3
          · exact ⟨by rw [fO 5 (by decide) n5 (by decide)]; exact m1, m2, m3, by rw [f0]; rfl, rfl, by omega, m7, by rw [rp_o (by omega)]; exact m8⟩
          · refine ⟨by rw [oO 0 n0 (by decide)]; exact h1, h2, h3, ⟨⟨o1, o1a, o1l⟩, o2, o3, o4, o5, o6, o7, o8, o9⟩, ?_, by rw [fO b b0 bn b6']; exact h6, h7, h8, h9, ?_, ?_⟩
            · exact bzC_gr hΛ hs h2 ⟨hB, b2, b3, b4, b5, b6⟩
            · rw [rp_o (by omega), rp_o (by omega), rp_o (by omega), rp_o (by omega)]; exact h10
            · rw [rp_o (by omega), rp_o (by omega), rp_o (by omega)]; exact h11
          · by_cases e : s = nr
            · subst e
              rw [hq]
              refine ⟨⟨?_, h2, Lk_new hfr, ?_, ?_, ?_, ?_, fun i hi => ?_, fun f hf => ?_⟩, ⟨hl, hiR, fun i hi => ⟨?_, ?_, ?_⟩, ?_, fun i hi => ?_, fun f hf => ?_⟩, ⟨?_, fun i hi => ?_, fun i hi => ?_⟩⟩
              · exact bzC_gr hΛ hs h2 ⟨hB, b2, b3, b4, b5, b6⟩
              · rw [o7']; exact w_up_self _ _ _
              · show rnO O nb mb sz s nb 1 = _
                rw [on]; rfl
              · show rnF F Fw nb s nb 0 = _
                rw [fn]; rfl
              · show rnF F Fw nb s nb 5 = _
                rw [fn]; rfl
              · show rnR R Rw nb nb 2 i = _
                rw [rn]; rfl
              · show rnR R Rw nb nb 3 f = _
                rw [rn]; rfl
              · have hi' : i < cd := hi
                exact (e4 0 (by omega) i (by omega)).trans (h11 i hi').1
              · have hi' : i < cd := hi
                exact (e4 1 (by omega) i (by omega)).trans (h11 i hi').2.1
              · have hi' : i < cd := hi
                exact (e4 2 (by omega) i (by omega)).trans (h11 i hi').2.2
              · rw [rp_51, w_upd_self]; rfl
              · rw [rp_49, if_pos (by omega)]; rfl
              · rw [rp_50, if_pos (by omega)]; rfl
              · show rnF F Fw nb s nb 6 = _
                rw [fn, cntB_0 (fun t ht => by unfold Prn; rw [rp_o (by omega), decide_eq_false (no56 t ht), Bool.false_and])]
                rfl
              · show rnR R Rw nb nb 4 i = _
                rw [rn, dlM_none c (fun t ht => by rw [rp_o (by omega)]; exact no56 t ht)]
                show (if i < 40 then (-1 : Int32) else 0) = -1
                rw [if_pos hi]
              · show 0 = _
                rw [cntB_0 (fun t ht => by unfold Ptd; rw [rp_o (by omega), decide_eq_false (no56 t ht), Bool.false_and, Bool.false_and])]
            · rw [hq2 s e]
              obtain ⟨g1, g2, g3, g4⟩ := I6 s (by omega)
              exact ⟨rnC_gr hΛ hs (by rw [o7', w_up_ne _ _ e]) (fun i m hk hne => hne) g2, rp_run g1.1 e g3, rnT_cg hs g2.2.2.1 (fun t _ => tkE_of (fun k k1 k2 => rp_o (by omega)) (rp_o (by omega))) g4⟩
          · rw [hq2 s hne]; exact (I6 s (by omega)).1
          · rw [hq]; exact ⟨⟨o1, o1a, o1l⟩, o2, o3, o4, o5, o6, o7, o8, o9⟩
          · obtain ⟨t1, ⟨r', i, w1, w2, w3, w4, w5, w6⟩, t3⟩ := I7 t ht
            have er : r' ≠ nr := by omega
            unfold tkI tkQ tkR tkS tkD
            rw [rp_o (by omega), rp_o (by omega), rp_o (by omega), rp_o (by omega), rp_o (by omega), rp_o (by omega), rp_o (by omega), rp_o (by omega), rp_o (by omega), rO 5 n5 (by decide)]
            refine ⟨t1, ⟨r', i, by omega, ?_, w3, w4, ?_, ?_⟩, t3⟩
            · rw [hq2 r' er]; exact w2
            · rw [hq2 r' er]; exact w5
            · rw [hq2 r' er]; exact w6
          · unfold bdI
            rw [rO 5 n5 (by decide), rp_o (by omega)]
            exact I8
        generalize (fun s => if s = nr then (((T, cd, ro, du, ey), (nb, sz, b, mb), sg0, false) : rG) else q s) = qq at M hq
        have KI := keep_inv (F92 := upd (upd F9 55 (nI (c + ln x.1))) 40 (nI (nr + 1))) (R92 := gR) (x := x) (n := ln x.1) (cm := fun k => x.1.2.2.2.2.getD k 0) M (by omega) rfl (fun i e he => by rw [hq]; exact hcm0 i e he) hroom (by rw [f6]; exact g2) (fun i hi => by rw [r6]; exact g3 i hi) (fun f hf => by rw [r6]; exact g4 f hf) (fun e he => by rw [hq]; have := hct e; exact this) (fun z => by rw [hq]; exact hk1 z) (fun z => by rw [hq]; exact hk2 z) (by rw [hq]; exact kpR_of y3 y4 (by rw [rp_51, w_upd_self])) rfl (fun k hk => by
          by_cases e : k = 40
          · subst e; rfl
          · rw [upd_ne e, upd_ne hk, upd_ne e])
        rw [hq] at KI
        exact KI
      · obtain ⟨y1, y2, σ', y3⟩ := hGo2 (by omega)
        subst y1 y2
        have c1 := c8_runF (G := G) (sz := sz) (h0 := mh (B + 44) F9 tl R9 NL (fun _ => none)) H m1 m3 h1 hB b3 o8 m4 hr hcM g1 hn40 (by omega)
        have c2 := c9_run (G := G) (m := B + 44) (tl := tl) (NL := NL) (h0 := wld Λ (va_up F 6 Fw) O (va_up R 6 Rw) (fun _ => none)) (sz := sz) (by rw [h7]; exact nI_nn (by omega)) m5 hr s6 s7 m2 m3 hgM
        rw [if_neg (by decide), if_neg (by decide)] at c2
        refine pair_of c1 I0.lay c2 ?_
        obtain ⟨v1, v2, v3, v4, v5, v6, v7⟩ := y3
        refine inv_f J0 (fun k => ?_) (fun k hk => ?_) (fun s hs g3 => ?_) (fun k hk j hj => ?_)
        · by_cases e : k = 55
          · subst e; rw [w_upd_self]; exact m2.symm
          · rw [upd_ne e]
        · rw [v1 k (by omega) (by omega) (by omega) (by omega), rp_o (by omega)]
        · have g1 := (I6 s hs).1
          have g0 := rp_run (cd := F9 25) (r := nr) g1.1 (by omega) g3
          refine rn9_pw g1.1 (fun k hk => by rw [v1 k (by omega) (by omega) (by omega) (by omega)]) (fun k k1 k2 j hj => by rw [v1 k (by omega) (by omega) (by omega) (by omega)]) (fun k hk j hj => ?_) (fun j hj => v3 _ (by omega)) g0
          by_cases h50 : k = 50
          · subst h50; exact v5 _ (by omega)
          · rw [v1 k (by omega) h50 (by omega) (by omega)]
        · rw [v6 k hk j hj, rp_o (by omega)]
end RUN
