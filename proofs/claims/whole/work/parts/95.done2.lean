section DC
variable {G : wG} {B : Nat} {Λ : wL} {F : Nat → Nat → Int32} {O : Nat → Nat → Option Nat} {R : Nat → Nat → Nat → Int32} {sz : Nat} {F9 : Nat → Int32} {tl : Int64} {R9 : Nat → Nat → Int32} {NL : Nat → Int64} {nb d md L a np c nr dm : Nat} {cu : Option (Nat × Nat × Nat × bG)} {q : Nat → rG} {bd : Nat → Nat}
/-- what both walks of done come to -/
theorem done_core (J : invG B Λ F O R sz F9 R9 nb d md L a np c nr dm cu q bd) {t r i p : Nat} (ht : t < c) (hst : R9 61 t = 1) (hr : r < nr) (h56 : R9 56 t = nI r) (h57 : R9 57 t = nI i) {T : tT} {cd u mu b mb : Nat} {ro du : Nat → Nat} {ey : Nat → Int32} {σ : wS} {ov : Bool} (hq : q r = ((T, cd, ro, du, ey), (u, mu, b, mb), σ, ov)) (hi : i < cd) (h58 : R9 58 t = nI (psR T 0 i + 1)) (hp : p < np) (h62 : R9 62 t = nI p)
    {fl : Nat → Int32} {R0 : Nat → Nat → Int32} (P0 : ∀ k, k ≠ 49 → k ≠ 52 → k ≠ 53 → k ≠ 61 → k ≠ 63 → R0 k = R9 k) (P61 : R0 61 = upd (R9 61) t 2) (P63 : R0 63 = upd (R9 63) t (nI a)) (P49 : ∀ j, j < 4 → R0 49 (4 * r + j) = fl j) (P49' : ∀ j, ¬ (4 * r ≤ j ∧ j < 4 * r + 4) → R0 49 j = R9 49 j) (P52 : ∀ j, j < 4 → R0 52 j = R9 49 (4 * r + j)) (P53 : ∀ j, j < 40 → R0 53 j = R9 50 (40 * r + j))
    {Rs : Nat → Nat → Int32} (C0 : ∀ j, j < 4 → Rs 0 j = fl j) (C1 : ∀ f, f < 40 → Rs 1 f = R u 3 f) :
    ∃ (fuel n : Nat) (gb : Bool) (gc : Nat) (gR : Nat → Nat → Int32) (Fw : Nat → Int32) (Rw : Nat → Nat → Int32) (cm : Nat → Nat), gM a r fuel (some (psR T 0 i + 1)) 0 c (va_up R0 69 (upd (R0 69) 0 (R9 58 t))) = some (gb, gc, gR) ∧ cM (R b) (szC T + 1) 1000 (some (psC T 0 i + 1)) (wkS (F 6)) Rs = some (Fw, Rw) ∧ Fw 3 = nI n ∧ n ≤ 40 ∧ (∀ k, k < n → Rw 2 k = nI (cm k) ∧ cm k < cd) ∧ (Fw 4 = 0 ∨ Fw 4 = 1) ∧
      ((c + n ≤ 200 ∧ gb = true ∧ gc = c + n ∧ Inv B Λ (kwF (fnF (va_up F 6 Fw) u) u c n) O (kwRR (fnF (va_up F 6 Fw) u) (fnR (va_up F 6 Fw) (va_up R 6 Rw) u t p i) u b c n a cm du) sz (upd (upd F9 55 (nI (c + n))) 71 (F9 71 + 1)) (va_up gR 70 (upd (gR 70) t (F9 71)))) ∨ (200 < c + n ∧ gb = false ∧ Inv B Λ (va_up F 6 Fw) O (va_up R 6 Rw) sz (upd F9 55 (nI c)) (dnB r t gR))) := by
  have J0 := J
  obtain ⟨⟨H, l2, l3, l4, hD, ho3, l7, l8⟩, ⟨s1, s2, s3, s4, s5, s6, s7, s8, s9⟩, ⟨p1, p2, p3, p4, p5, p6, p7, p8, p9⟩, ⟨m1, m2, m3, m4, m5, m6, m7, m8⟩, I5, I6, I7, I8⟩ := J
  have I6r := I6 r hr
  rw [hq] at I6r
  obtain ⟨⟨okb, hls, hgi, hgb⟩, ⟨C1b, C2, C3, C4, C5, C6, C7, C8, C9⟩, ⟨r1, r2, r3, r4, r5, r6⟩, ⟨w1, w2, w3⟩⟩ := I6r
  have okb0 := okb
  obtain ⟨⟨o1, o1a, o1l⟩, o2, o3, o4, o5, o6, o7, o8, o9⟩ := okb
  dsimp only at hls hgi hgb C2 C3 C4 C5 C6 C7 C8 C9 r1 r2 r3 r4 r5 r6 w1 w2 w3 o1 o1a o1l o2 o3 o4 o5 o6 o7 o8 o9
  obtain ⟨hB, b2, b3, b4, b5, b6⟩ := C1b
  dsimp only at hB b2 b3 b4 b5 b6
  have hdl : (dsT T).length = cd := by rw [o3, List.length_range]
  have hdm : ∀ e, e ∈ dsT T ↔ e < cd := fun e => by rw [o3]; exact List.mem_range
  have hid : i ∈ dsT T := (hdm i).mpr hi
  -- the do's mark is 1
  have hpt : Ptd R9 r i t = true := by
    unfold Ptd
    rw [h56, h57, hst, decide_eq_true rfl, decide_eq_true rfl]; rfl
  have hge : 1 ≤ σ.2.2.2.1 i := by rw [w3 i hi]; exact cntB_pos ht hpt
  have hov : ov = false := by
    cases ov with
    | false => rfl
    | true => have := (hgi rfl).2 i hid; omega
  subst hov
  have hbz := hgb rfl
  have hone : σ.2.2.2.1 i = 1 := by have := bz_le T o1 σ (Or.inl hbz) i hid; omega
  have hbz1 : bzT T (inS i (fl, σ.2.1, σ.2.2.1, va_up σ.2.2.2.1 i 0, [])) := by
    refine bz_eq T o1 _ σ ⟨fun f _ => ⟨rfl, rfl⟩, fun e _ => ?_⟩ hbz
    show va_up (va_up σ.2.2.2.1 i 0) i 1 e = σ.2.2.2.1 e
    by_cases z : e = i
    · rw [z, w_up_self, hone]
    · rw [w_up_ne _ _ z, w_up_ne _ _ z]
  have hz1 : ((fl, σ.2.1, σ.2.2.1, va_up σ.2.2.2.1 i 0, []) : wS).2.2.2.1 i = 0 := w_up_self _ _ _
  have e41 : R0 41 = R9 41 := P0 41 (by decide) (by decide) (by decide) (by decide) (by decide)
  have hl : R0 41 r = nI (szR T) := by rw [e41]; exact r1
  have hH : HR r (szR T) du (fun e => psR T 0 e + 1) R0 T 0 := by
    refine ⟨?_, by omega, fun e he => ?_, o5, o1l⟩
    · rw [P0 42 (by decide) (by decide) (by decide) (by decide) (by decide), P0 43 (by decide) (by decide) (by decide) (by decide) (by decide), P0 44 (by decide) (by decide) (by decide) (by decide) (by decide), P0 45 (by decide) (by decide) (by decide) (by decide) (by decide)]; exact r2
    · have he2 := (hdm e).mp he
      refine ⟨by omega, by rw [P0 47 (by decide) (by decide) (by decide) (by decide) (by decide)]; exact (r3 e he2).2.1, (o9 e he2).2.1.1, (o9 e he2).2.1.2, rfl⟩
  have hSR : SR a r c du (fun e => psR T 0 e + 1) R0 (fl, σ.2.1, σ.2.2.1, va_up σ.2.2.2.1 i 0, []) R0 := ⟨fun _ _ _ _ _ => rfl, P49, fun _ _ => rfl, fun f hf => by rw [P0 50 (by decide) (by decide) (by decide) (by decide) (by decide)]; exact r6 f hf, fun _ _ => rfl, fun _ _ _ _ => rfl, fun i e he => by cases he⟩
  obtain ⟨fuel, ⟨gb, gc, gR⟩, hgM, hGo1, hGo2⟩ := goR_done (a := a) (c0 := c) o1 o2 o1a hid hl o7 hH (SR_pile (g := upd (R0 69) 0 (R9 58 t)) hSR) hz1 hbz1 o6 m3 rfl
  have hSC : SC (fl, σ.2.1, σ.2.2.1, va_up σ.2.2.2.1 i 0, []) 0 (wkS (F 6)) Rs := ⟨rfl, rfl, rfl, C0, fun f hf => by rw [C1 f hf]; exact C9 f hf, fun i e he => by cases he⟩
  have hHC : HC (szC T + 1) (R b) T 0 := ⟨b5, by omega, fun e he => by have := (hdm e).mp he; omega, o5, o1l⟩
  obtain ⟨Fw, Rw, hcM, g1, g2, g3, g4, g5⟩ := goC_done (B := R b) (l := szC T + 1) o1 o2 o1a hid rfl o8 b4 hHC hSC hz1 hbz1 o6 (by omega) rfl
  dsimp only at g1 g2 g3 g4 g5 hGo1 hGo2
  obtain ⟨⟨N, hN1, hN2, hN3, hN4⟩, hk1, hk2⟩ := re_mk i T o1 o2 o1a hid _ hz1 hbz1
  have hct := re_ct i T o1 ((fl, σ.2.1, σ.2.2.1, va_up σ.2.2.2.1 i 0, []) : wS)
  generalize hx : reT i T (fl, σ.2.1, σ.2.2.1, va_up σ.2.2.2.1 i 0, []) = x at *
  have hNl : x.1.2.2.2.2 = N := hN1
  have hn40 : ln x.1 ≤ 40 := by show x.1.2.2.2.2.length ≤ 40; rw [hNl]; omega
  have hcm0 : ∀ k e, x.1.2.2.2.2[k]? = some e → x.1.2.2.2.2.getD k 0 = e ∧ e < cd := fun k e he => ⟨getD_some he, (hdm e).mp (hN3 e (by rw [← hNl]; exact List.mem_of_getElem? he))⟩
  have hcm : ∀ k, k < ln x.1 → Rw 2 k = nI (x.1.2.2.2.2.getD k 0) ∧ x.1.2.2.2.2.getD k 0 < cd := fun k hk => by
    have hk' : k < x.1.2.2.2.2.length := hk
    have e := List.getElem?_eq_getElem hk'
    obtain ⟨z1, z2⟩ := hcm0 k _ e
    rw [z1]
    exact ⟨g5 k _ e, z2⟩
  have u0 : u ≠ 0 := Lk_ne C3 H.1 (by decide)
  have u1 : u ≠ 1 := Lk_ne C3 H.2.1 (by decide)
  have u2 : u ≠ 2 := Lk_ne C3 H.2.2.1 (by decide)
  have u4 : u ≠ 4 := Lk_ne C3 H.2.2.2.1 (by decide)
  have u5 : u ≠ 5 := Lk_ne C3 H.2.2.2.2.1 (by decide)
  have u6 : u ≠ 6 := Lk_ne C3 H.2.2.2.2.2.1 (by decide)
  have hno2 : ¬ R9 61 t = 2 := by rw [hst]; decide
  have hdmc : dm ≤ c := by rw [m8]; exact cntB_le _ _
  refine ⟨fuel, ln x.1, gb, gc, gR, Fw, Rw, fun k => x.1.2.2.2.2.getD k 0, hgM, hcM, g1, hn40, hcm, by rw [g2]; exact wb_01 _, ?_⟩
  by_cases hroom : c + ln x.1 ≤ 200
  · left
    obtain ⟨y1, y2, R', y3, y4⟩ := hGo1 hroom
    refine ⟨hroom, y1, y2, ?_⟩
    -- the state between
    have fO : ∀ k, k ≠ u → k ≠ 6 → fnF (va_up F 6 Fw) u k = F k := fun k z1 z2 => by unfold fnF; rw [w_up_ne _ _ z1, w_up_ne _ _ z2]
    have f6 : fnF (va_up F 6 Fw) u 6 = Fw := by unfold fnF; rw [w_up_ne _ _ (Ne.symm u6), w_up_self]
    have fu : fnF (va_up F 6 Fw) u u = upd (F u) 6 (F u 6 - 1) := by unfold fnF; rw [w_up_self, w_up_ne _ _ u6]
    have rO : ∀ k, k ≠ u → k ≠ 4 → k ≠ 5 → k ≠ 6 → fnR (va_up F 6 Fw) (va_up R 6 Rw) u t p i k = R k := fun k z1 z4 z5 z6 => by unfold fnR; rw [w_up_ne _ _ z1, w_up_ne _ _ z4, w_up_ne _ _ z5, w_up_ne _ _ z6]
    have r6' : fnR (va_up F 6 Fw) (va_up R 6 Rw) u t p i 6 = Rw := by unfold fnR; rw [w_up_ne _ _ (Ne.symm u6), w_up_ne _ _ (by decide), w_up_ne _ _ (by decide), w_up_self]
    have r5' : fnR (va_up F 6 Fw) (va_up R 6 Rw) u t p i 5 = va_up (va_up (R 5) 6 (upd (R 5 6) t 2)) 8 (upd (R 5 8) t (F 0 7)) := by unfold fnR; rw [w_up_ne _ _ (Ne.symm u5), w_up_ne _ _ (by decide), w_up_self]; rfl
    have r4' : fnR (va_up F 6 Fw) (va_up R 6 Rw) u t p i 4 = va_up (va_up (R 4) 3 (upd (R 4 3) p (R 4 3 p - 1))) 4 (upd (R 4 4) p (R 4 4 p + 1)) := by unfold fnR; rw [w_up_ne _ _ (Ne.symm u4), w_up_self]; rfl
    have ru' : fnR (va_up F 6 Fw) (va_up R 6 Rw) u t p i u = va_up (R u) 4 (upd (R u 4) i (R 5 7 t)) := by
      unfold fnR
      rw [w_up_self, w_up_ne _ _ u6]
      rfl
    generalize hFm : fnF (va_up F 6 Fw) u = Fm at *
    generalize hRm : fnR (va_up F 6 Fw) (va_up R 6 Rw) u t p i = Rm at *
    have e70 : R0 70 = R9 70 := P0 70 (by decide) (by decide) (by decide) (by decide) (by decide)
    have M9 : ∀ k, k ≠ 52 → k ≠ 53 → k ≠ 61 → k ≠ 63 → k ≠ 70 → va_up (va_up R0 70 (upd (R9 70) t (nI dm))) 49 (R9 49) k = R9 k := fun k k1 k2 k3 k4 k5 => by
      by_cases e : k = 49
      · rw [e, w_up_self]
      · rw [w_up_ne _ _ e, w_up_ne _ _ k5, P0 k e k1 k2 k3 k4]
    have M61 : va_up (va_up R0 70 (upd (R9 70) t (nI dm))) 49 (R9 49) 61 = upd (R9 61) t 2 := P61
    have M63 : va_up (va_up R0 70 (upd (R9 70) t (nI dm))) 49 (R9 49) 63 = upd (R9 63) t (nI a) := P63
    have M70 : va_up (va_up R0 70 (upd (R9 70) t (nI dm))) 49 (R9 49) 70 = upd (R9 70) t (nI dm) := rfl
    have KP : kpR a r c du (fun e => psR T 0 e + 1) x (va_up (va_up R0 70 (upd (R9 70) t (nI dm))) 49 (R9 49)) (va_up gR 70 (upd (gR 70) t (F9 71))) := by
      refine kpR_cv (t := t) (kpR_of y3 y4 ?_) (fun k k1 k2 => by rw [w_up_ne _ _ k1, w_up_ne _ _ k2]) (fun j hj => by rw [w_up_self]; exact (P49' j hj).symm) ?_
      · rw [P0 51 (by decide) (by decide) (by decide) (by decide) (by decide)]; exact r4
      · have : gR 70 = R9 70 := by
          have h2 : R' 70 = R0 70 := y3.1 70 (by decide) (by decide) (by decide) (by decide)
          rw [y4]
          by_cases hx2 : x.2 = true
          · rw [if_pos hx2, w_up_ne _ _ (by decide), h2, e70]
          · rw [if_neg hx2, h2, e70]
        rw [M70, this, m7]
    generalize hR9m : va_up (va_up R0 70 (upd (R9 70) t (nI dm))) 49 (R9 49) = Rm9 at *
    have hq1 : (fun s => if s = r then (((T, cd, ro, du, ey), (u, mu, b, mb), (σ.1, σ.2.1, σ.2.2.1, va_up σ.2.2.2.1 i 0, []), false) : rG) else q s) r = ((T, cd, ro, du, ey), (u, mu, b, mb), (σ.1, σ.2.1, σ.2.2.1, va_up σ.2.2.2.1 i 0, []), false) := if_pos rfl
    have hq2 : ∀ s, s ≠ r → (fun s => if s = r then (((T, cd, ro, du, ey), (u, mu, b, mb), (σ.1, σ.2.1, σ.2.2.1, va_up σ.2.2.2.1 i 0, []), false) : rG) else q s) s = q s := fun s hs => if_neg hs
    have hqg : ∀ s, ((fun s => if s = r then (((T, cd, ro, du, ey), (u, mu, b, mb), (σ.1, σ.2.1, σ.2.2.1, va_up σ.2.2.2.1 i 0, []), false) : rG) else q s) s).1 = (q s).1 := fun s => by
      by_cases e : s = r
      · rw [e, hq1, hq]
      · rw [hq2 s e]
    generalize (fun s => if s = r then (((T, cd, ro, du, ey), (u, mu, b, mb), (σ.1, σ.2.1, σ.2.2.1, va_up σ.2.2.2.1 i 0, []), false) : rG) else q s) = qq at hq1 hq2 hqg
    have h70 : ∀ t, t < c → R9 61 t = 2 → ∃ k, k < dm ∧ R9 70 t = nI k := fun t' h' h2 => by
      rcases (I7 t' h').2.2.1 with z | ⟨z | ⟨-, z⟩, -⟩
      · rw [z] at h2; exact absurd h2 (by decide)
      · rw [z] at h2; exact absurd h2 (by decide)
      · exact z
    have x56 : Rm9 56 = R9 56 := M9 56 (by decide) (by decide) (by decide) (by decide) (by decide)
    have x57 : Rm9 57 = R9 57 := M9 57 (by decide) (by decide) (by decide) (by decide) (by decide)
    have x62 : Rm9 62 = R9 62 := M9 62 (by decide) (by decide) (by decide) (by decide) (by decide)
    have how : R 5 7 t = nI p := by rw [(I7 t ht).1.2.2.2.2.2.1]; exact h62
    have uu : ∀ s, s < nr → s ≠ r → (q s).2.1.1 ≠ u := fun s hs hne e => by
      have e1 := (I6 s hs).2.1.2.2.2.2.2.1
      rw [e, C6] at e1
      exact hne ((nI_eq (by omega) (by omega)).mp e1).symm
    -- counts
    have cPrn : ∀ s, s ≠ r → s < nr → cntB (Prn Rm9 (nI s)) c = cntB (Prn R9 (nI s)) c := fun s hs hs2 => cntB_cg (fun k hk => by
      unfold Prn
      rw [x56, M61]
      by_cases e : k = t
      · rw [e, h56, decide_eq_false (show ¬ nI r = nI s from fun z => hs ((nI_eq (by omega) (by omega)).mp z).symm), Bool.false_and, Bool.false_and]
      · rw [upd_ne e])
    have cPrr : cntB (Prn R9 (nI r)) c = cntB (Prn Rm9 (nI r)) c + 1 := by
      refine cntB_up ht (fun k hk hk2 => ?_) ?_ ?_
      · unfold Prn; rw [x56, M61, upd_ne hk2]
      · unfold Prn; rw [M61, w_upd_self]; simp
      · unfold Prn; rw [h56, hst]; simp
    have cPtd : ∀ s e, ¬ (s = r ∧ e = i) → s < nr → e < 40 → cntB (Ptd Rm9 s e) c = cntB (Ptd R9 s e) c := fun s e hse hs he => cntB_cg (fun k hk => by
      unfold Ptd
      rw [x56, x57, M61]
      by_cases ek : k = t
      · rw [ek, h56, h57]
        by_cases e1 : s = r
        · rw [decide_eq_false (show ¬ nI i = nI e from fun z => hse ⟨e1, ((nI_eq (by omega) (by omega)).mp z).symm⟩), Bool.and_false, Bool.false_and, Bool.false_and]
        · rw [decide_eq_false (show ¬ nI r = nI s from fun z => e1 ((nI_eq (by omega) (by omega)).mp z).symm), Bool.false_and, Bool.false_and, Bool.false_and]
      · rw [upd_ne ek])
    have cPti : cntB (Ptd R9 r i) c = cntB (Ptd Rm9 r i) c + 1 := by
      refine cntB_up ht (fun k hk hk2 => ?_) ?_ hpt
      · unfold Ptd; rw [x56, x57, M61, upd_ne hk2]
      · unfold Ptd; rw [M61, w_upd_self]; simp
    have M : invM B Λ Fm O Rm sz (upd F9 71 (F9 71 + 1)) Rm9 nb d md L a np c nr (dm + 1) cu qq bd r := by
      refine ⟨⟨H, l2, l3, l4, hD, ho3, l7, fun j hj => by rw [rO 2 (Ne.symm u2) (by decide) (by decide) (by decide)]; exact l8 j hj⟩, ?_, ?_, ?_, ?_, fun s hs => ?_, fun s hs hne => ?_, ?_, fun k hk => ?_, ?_⟩
      · exact ⟨by rw [fO 2 (Ne.symm u2) (by decide)]; exact s1, s2, s3, by rw [rO 2 (Ne.symm u2) (by decide) (by decide) (by decide), M9 0 (by decide) (by decide) (by decide) (by decide) (by decide)]; exact s4, by rw [fO 0 (Ne.symm u0) (by decide)]; exact s5, s6, s7, by rw [fO 0 (Ne.symm u0) (by decide)]; exact s8, by rw [fO 0 (Ne.symm u0) (by decide)]; exact s9⟩
      · refine ⟨by rw [fO 4 (Ne.symm u4) (by decide)]; exact p1, p2, p3, ?_, ?_, ?_, ?_, ?_, fun r' hr' => ⟨?_, ?_⟩⟩
        · rw [r4', M9 65 (by decide) (by decide) (by decide) (by decide) (by decide)]; exact p4
        · rw [r4', M9 66 (by decide) (by decide) (by decide) (by decide) (by decide)]; exact p5
        · rw [r4', M9 67 (by decide) (by decide) (by decide) (by decide) (by decide)]; exact p6
        · rw [r4', M9 68 (by decide) (by decide) (by decide) (by decide) (by decide)]; exact p7
        · rw [M9 67 (by decide) (by decide) (by decide) (by decide) (by decide)]; exact p8
        · rw [r4']
          show upd (R 4 3) p (R 4 3 p - 1) r' = _
          by_cases e : r' = p
          · have e1 : cntB (Pcl R9 (nI p)) c = cntB (Pcl Rm9 (nI p)) c + 1 := by
              refine cntB_up ht (fun k hk hk2 => ?_) ?_ ?_
              · unfold Pcl; rw [x62, M61, upd_ne hk2]
              · unfold Pcl; rw [M61, w_upd_self]; rfl
              · unfold Pcl; rw [hst, h62]; simp
            rw [e, w_upd_self, (p9 p hp).1, e1]
            exact nI_p1 _
          · rw [upd_ne e, (p9 r' hr').1]
            congr 1
            refine cntB_cg (fun k hk => ?_)
            unfold Pcl
            rw [x62, M61]
            by_cases ek : k = t
            · rw [ek, h62, decide_eq_false (show ¬ nI p = nI r' from fun z => e ((nI_eq (by omega) (by omega)).mp z).symm), Bool.and_false, Bool.and_false]
            · rw [upd_ne ek]
        · rw [r4']
          show upd (R 4 4) p (R 4 4 p + 1) r' = _
          by_cases e : r' = p
          · have e1 : cntB (Pdn Rm9 (nI p)) c = cntB (Pdn R9 (nI p)) c + 1 := by
              refine cntB_up ht (fun k hk hk2 => ?_) ?_ ?_
              · unfold Pdn; rw [x62, M61, upd_ne hk2]
              · unfold Pdn; rw [hst]; rfl
              · unfold Pdn; rw [M61, w_upd_self, x62, h62]; simp
            rw [e, w_upd_self, (p9 p hp).2, e1]
            exact nI_1 _
          · rw [upd_ne e, (p9 r' hr').2]
            congr 1
            refine cntB_cg (fun k hk => ?_)
            unfold Pdn
            rw [x62, M61]
            by_cases ek : k = t
            · rw [ek, h62, decide_eq_false (show ¬ nI p = nI r' from fun z => e ((nI_eq (by omega) (by omega)).mp z).symm), Bool.and_false, Bool.and_false]
            · rw [upd_ne ek]
      · refine ⟨by rw [fO 5 (Ne.symm u5) (by decide)]; exact m1, m2, m3, by rw [fO 0 (Ne.symm u0) (by decide)]; exact m4, m5, m6, ?_, ?_⟩
        · show F9 71 + 1 = _
          rw [m7]; exact nI_1 _
        · rw [m8]
          refine (cntB_up ht (fun k hk hk2 => ?_) ?_ ?_).symm
          · show decide (R9 61 k = 2) = decide (Rm9 61 k = 2)
            rw [M61, upd_ne hk2]
          · exact decide_eq_false hno2
          · show decide (Rm9 61 t = 2) = true
            rw [M61, w_upd_self]; rfl
      · exact curI_u (fun k m hk => ⟨fO k (Lk_ne hk C3 (by decide)) (Lk_ne hk H.2.2.2.2.2.1 (by decide)), rO k (Lk_ne hk C3 (by decide)) (Lk_ne hk H.2.2.2.1 (by decide)) (Lk_ne hk H.2.2.2.2.1 (by decide)) (Lk_ne hk H.2.2.2.2.2.1 (by decide))⟩) (fun k k1 k2 => upd_ne (by omega)) (fun k k1 k2 => M9 k (by omega) (by omega) (by omega) (by omega) (by omega)) I5
      · by_cases e : s = r
        · subst e
          rw [hq1]
          have bu : b ≠ u := Lk_ne hB C3 (by decide)
          have bb4 : b ≠ 4 := Lk_ne hB H.2.2.2.1 (by decide)
          have bb5 : b ≠ 5 := Lk_ne hB H.2.2.2.2.1 (by decide)
          have bb6 : b ≠ 6 := Lk_ne hB H.2.2.2.2.2.1 (by decide)
          refine ⟨⟨?_, C2, C3, C4, C5, ?_, ?_, ?_, ?_⟩, ⟨?_, ?_, ?_, ?_, ?_, ?_⟩, ⟨?_, fun k hk => ?_, fun k hk => ?_⟩⟩
          · show bzC Λ Fm Rm b mb (T, cd, ro, du, ey)
            unfold bzC
            rw [fO b bu bb6, rO b bu bb4 bb5 bb6]
            exact ⟨hB, b2, b3, b4, b5, b6⟩
          · show Fm u 0 = _
            rw [fu, upd_ne (by decide)]; exact C6
          · show Fm u 5 = _
            rw [fu, upd_ne (by decide)]; exact C7
          · show ∀ k, k < 4 → Rm u 2 k = σ.1 k
            rw [ru']; exact C8
          · show ∀ f, f < 40 → Rm u 3 f = nI (wy (σ.1, σ.2.1, σ.2.2.1, va_up σ.2.2.2.1 i 0, []) f)
            rw [ru']
            exact C9
          · rw [M9 41 (by decide) (by decide) (by decide) (by decide) (by decide)]; exact r1
          · rw [M9 42 (by decide) (by decide) (by decide) (by decide) (by decide), M9 43 (by decide) (by decide) (by decide) (by decide) (by decide), M9 44 (by decide) (by decide) (by decide) (by decide) (by decide), M9 45 (by decide) (by decide) (by decide) (by decide) (by decide)]; exact r2
          · rw [M9 46 (by decide) (by decide) (by decide) (by decide) (by decide), M9 47 (by decide) (by decide) (by decide) (by decide) (by decide), M9 48 (by decide) (by decide) (by decide) (by decide) (by decide)]; exact r3
          · rw [M9 51 (by decide) (by decide) (by decide) (by decide) (by decide)]; exact r4
          · rw [M9 49 (by decide) (by decide) (by decide) (by decide) (by decide)]; exact r5
          · rw [M9 50 (by decide) (by decide) (by decide) (by decide) (by decide)]; exact r6
          · show Fm u 6 = _
            rw [fu, w_upd_self, w1, cPrr]
            exact nI_p1 _
          · show Rm u 4 k = _
            rw [ru']
            show upd (R u 4) i (R 5 7 t) k = _
            by_cases ek : k = i
            · rw [ek, w_upd_self, how, (dlM_s2 x56 x57 x62 M61 M70 hno2 h56 h57 (by omega) h70 c (Nat.le_refl _)).2 ht, h62]
            · rw [upd_ne ek, dlM_s1 x56 x57 x62 M61 M70 hno2 (fun z => ek (by have := z.2; rw [h57] at this; exact ((nI_eq (by omega) (by omega)).mp this).symm))]
              exact w2 k hk
          · show va_up σ.2.2.2.1 i 0 k = _
            have hk' : k < cd := hk
            by_cases ek : k = i
            · rw [ek, w_up_self]
              have e1 := w3 i hi
              rw [hone, cPti] at e1
              omega
            · rw [w_up_ne _ _ ek, cPtd s k (fun z => ek z.2) hr (by omega)]
              exact w3 k hk'
        · rw [hq2 s e]
          obtain ⟨g1', g2', g3', v1, v2, v3⟩ := I6 s hs
          have us := uu s hs e
          have us4 : (q s).2.1.1 ≠ 4 := Lk_ne g2'.2.2.1 H.2.2.2.1 (by decide)
          have us5 : (q s).2.1.1 ≠ 5 := Lk_ne g2'.2.2.1 H.2.2.2.2.1 (by decide)
          have us6 : (q s).2.1.1 ≠ 6 := Lk_ne g2'.2.2.1 H.2.2.2.2.2.1 (by decide)
          have bs : (q s).2.1.2.2.1 ≠ u := Lk_ne g2'.1.1 C3 (by decide)
          have bs4 : (q s).2.1.2.2.1 ≠ 4 := Lk_ne g2'.1.1 H.2.2.2.1 (by decide)
          have bs5 : (q s).2.1.2.2.1 ≠ 5 := Lk_ne g2'.1.1 H.2.2.2.2.1 (by decide)
          have bs6 : (q s).2.1.2.2.1 ≠ 6 := Lk_ne g2'.1.1 H.2.2.2.2.2.1 (by decide)
          refine ⟨rnC_u ⟨fO _ us us6, rO _ us us4 us5 us6⟩ ⟨fO _ bs bs6, rO _ bs bs4 bs5 bs6⟩ g2', rn9_cg (fun k k1 k2 => M9 k (by omega) (by omega) (by omega) (by omega) (by omega)) g3', ?_, fun k hk => ?_, fun k hk => ?_⟩
          · rw [fO _ us us6, v1, cPrn s e hs]
          · rw [rO _ us us4 us5 us6, dlM_s1 x56 x57 x62 M61 M70 hno2 (fun z => e (by have := z.1; rw [h56] at this; exact ((nI_eq (by omega) (by omega)).mp this).symm))]
            exact v2 k hk
          · rw [v3 k hk, cPtd s k (fun z => e z.1) hs (by have := g1'.1.2.2.2.1; omega)]
      · rw [hq2 s hne]; exact (I6 s hs).1
      · rw [hq1]; exact okb0
      · obtain ⟨⟨t1, t2, t3, t4, t5, t6, t7⟩, ⟨s, e, y1, y2, y3, y4, y5, y6⟩, t9, t10⟩ := I7 k hk
        unfold tkI tkQ tkR tkS tkD
        rw [M61, M63, M70, x56, x57, x62, M9 58 (by decide) (by decide) (by decide) (by decide) (by decide), M9 59 (by decide) (by decide) (by decide) (by decide) (by decide), M9 60 (by decide) (by decide) (by decide) (by decide) (by decide), r5']
        refine ⟨⟨t1, t2, t3, t4, ?_, t6, ?_⟩, ⟨s, e, y1, by rw [hqg]; exact y2, y3, y4, by rw [hqg]; exact y5, by rw [hqg]; exact y6⟩, ?_, ?_⟩
        · show upd (R 5 6) t 2 k = _
          by_cases ek : k = t
          · rw [ek, w_upd_self, w_upd_self]
          · rw [upd_ne ek, upd_ne ek]; exact t5
        · show upd (R 5 8) t (F 0 7) k = _
          by_cases ek : k = t
          · rw [ek, w_upd_self, w_upd_self]; exact s5
          · rw [upd_ne ek, upd_ne ek]; exact t7
        · by_cases ek : k = t
          · rw [ek, w_upd_self, w_upd_self]
            exact Or.inr ⟨Or.inr ⟨rfl, dm, by omega, rfl⟩, p, hp, h62⟩
          · rw [upd_ne ek, upd_ne ek]
            rcases t9 with z | ⟨z | ⟨z, k', z1, z2⟩, z3⟩
            · exact Or.inl z
            · exact Or.inr ⟨Or.inl z, z3⟩
            · exact Or.inr ⟨Or.inr ⟨z, k', by omega, z2⟩, z3⟩
        · by_cases ek : k = t
          · rw [ek, w_upd_self]; exact fun z => absurd rfl z
          · rw [upd_ne ek, upd_ne ek]; exact t10
      · unfold bdI
        rw [r5', M9 60 (by decide) (by decide) (by decide) (by decide) (by decide)]
        exact I8
    have KI := keep_inv (F92 := upd (upd F9 55 (nI (c + ln x.1))) 71 (F9 71 + 1)) (R92 := va_up gR 70 (upd (gR 70) t (F9 71))) (x := x) (n := ln x.1) (cm := fun k => x.1.2.2.2.2.getD k 0) M hr rfl (fun k e he => by rw [hq1]; exact hcm0 k e he) hroom (by rw [f6]; exact g2) (fun k hk => by rw [r6']; exact g3 k hk) (fun f hf => by rw [r6']; exact g4 f hf) (fun e he => by rw [hq1]; exact hct e) (fun z => by rw [hq1]; exact hk1 z) (fun z => by rw [hq1]; exact hk2 z) (by rw [hq1]; exact KP) rfl (fun k hk => by
      by_cases e : k = 71
      · subst e; rfl
      · rw [upd_ne e, upd_ne hk, upd_ne e])
    rw [hq1] at KI
    exact KI
  · right
    obtain ⟨y1, y2, σ', y3⟩ := hGo2 (by omega)
    refine ⟨by omega, y1, ?_⟩
    obtain ⟨v1, v2, v3, v4, v5, v6, v7⟩ := y3
    have G9 : ∀ k, k ≠ 49 → k ≠ 50 → k ≠ 51 → ¬ (56 ≤ k ∧ k ≤ 63) → k ≠ 69 → k ≠ 52 → k ≠ 53 → dnB r t gR k = R9 k := fun k k1 k2 k3 k4 k5 k6 k7 => by
      rw [dB_o k1 k2 k3 (by omega) (by omega), v1 k k1 k2 k4 k5, P0 k k1 k6 k7 (by omega) (by omega)]
    have a51 : dnB r t gR 51 = R9 51 := by
      rw [dB_51, v1 51 (by decide) (by decide) (by decide) (by decide), P0 51 (by decide) (by decide) (by decide) (by decide) (by decide)]
      exact w_upd_id r4
    have a49 : ∀ j, dnB r t gR 49 j = R9 49 j := fun j => by
      rw [dB_49]
      by_cases e : 4 * r ≤ j ∧ j < 4 * r + 4
      · rw [if_pos e, v1 52 (by decide) (by decide) (by decide) (by decide), P52 _ (by omega)]
        congr 1
        omega
      · rw [if_neg e, v3 j e, P49' j e]
    have a50 : ∀ j, dnB r t gR 50 j = R9 50 j := fun j => by
      rw [dB_50]
      by_cases e : 40 * r ≤ j ∧ j < 40 * r + 40
      · rw [if_pos e, v1 53 (by decide) (by decide) (by decide) (by decide), P53 _ (by omega)]
        congr 1
        omega
      · rw [if_neg e, v5 j e, P0 50 (by decide) (by decide) (by decide) (by decide) (by decide)]
    have a63 : R9 63 t = -1 := (I7 t ht).2.2.2 hno2
    refine inv_f J0 (fun k => ?_) (fun k hk => G9 k (by omega) (by omega) (by omega) (by omega) (by omega) (by omega) (by omega)) (fun s hs g3' => ?_) (fun k hk j hj => ?_)
    · by_cases e : k = 55
      · subst e; rw [w_upd_self]; exact m2.symm
      · rw [upd_ne e]
    · refine rn9_pw (I6 s hs).1.1 (fun k hk => ?_) (fun k k1 k2 j hj => by rw [G9 k (by omega) (by omega) (by omega) (by omega) (by omega) (by omega) (by omega)]) (fun k hk j hj => ?_) (fun j hj => a49 _) g3'
      · rcases hk with rfl | rfl
        · rw [G9 41 (by omega) (by omega) (by omega) (by omega) (by omega) (by omega) (by omega)]
        · rw [a51]
      · by_cases h50 : k = 50
        · subst h50; exact a50 _
        · rw [G9 k (by omega) (by omega) (by omega) (by omega) (by omega) (by omega) (by omega)]
    · by_cases e61 : k = 61
      · subst e61
        rw [dB_61]
        by_cases ej : j = t
        · rw [ej, w_upd_self, hst]
        · rw [upd_ne ej, v6 61 (by omega) j hj, P61, upd_ne ej]
      · by_cases e63 : k = 63
        · subst e63
          rw [dB_63]
          by_cases ej : j = t
          · rw [ej, w_upd_self, a63]
          · rw [upd_ne ej, v6 63 (by omega) j hj, P63, upd_ne ej]
        · rw [dB_o (by omega) (by omega) (by omega) e61 e63, v6 k hk j hj, P0 k (by omega) (by omega) (by omega) e61 e63]
end DC
