/-! a walk is kept: both sides have the new tasks -/
def invM (B : Nat) (Λ : wL) (F : Nat → Nat → Int32) (O : Nat → Nat → Option Nat) (R : Nat → Nat → Nat → Int32) (sz : Nat) (F9 : Nat → Int32) (R9 : Nat → Nat → Int32) (nb d md L a np c nr dm : Nat) (cu : Option (Nat × Nat × Nat × bG)) (q : Nat → rG) (bd : Nat → Nat) (r : Nat) : Prop :=
  layI B Λ O R sz nb d md ∧ scI F R F9 R9 L a ∧ psI F R F9 R9 np c ∧ nmI F F9 R9 c nr dm ∧ curI Λ F O R F9 R9 d cu ∧ (∀ s, s < nr → rnC Λ F O R d s (q s) ∧ rn9 R9 s (q s) ∧ rnT F R R9 c s (q s)) ∧ (∀ s, s < nr → s ≠ r → rnG (q s)) ∧ okB (q r).1 ∧ (∀ t, t < c → tkI R R9 np dm nr q t) ∧ bdI R R9 c bd
/-- what the reference's rows are behind the walk -/
def kpR (a r c : Nat) (du ps : Nat → Nat) (x : wS × Bool) (R9 R92 : Nat → Nat → Int32) : Prop :=
  (∀ k, k ≠ 49 → k ≠ 50 → k ≠ 51 → ¬ (56 ≤ k ∧ k ≤ 63) → k ≠ 69 → R92 k = R9 k) ∧ (∀ i, i < 4 → R92 49 (4 * r + i) = x.1.1 i) ∧ (∀ j, ¬ (4 * r ≤ j ∧ j < 4 * r + 4) → R92 49 j = R9 49 j) ∧ (∀ f, f < 40 → R92 50 (40 * r + f) = nI (x.1.2.1 f)) ∧ (∀ j, ¬ (40 * r ≤ j ∧ j < 40 * r + 40) → R92 50 j = R9 50 j) ∧ (R92 51 r = wb x.2 ∧ ∀ j, j ≠ r → R92 51 j = R9 51 j) ∧ (∀ k, 56 ≤ k ∧ k ≤ 63 → ∀ j, j < c → R92 k j = R9 k j) ∧
  ∀ i d, x.1.2.2.2.2[i]? = some d → R92 56 (c + i) = nI r ∧ R92 57 (c + i) = nI d ∧ R92 58 (c + i) = nI (ps d) ∧ R92 59 (c + i) = nI a ∧ R92 60 (c + i) = nI (wEn (wHr a + du d - 1)) ∧ R92 61 (c + i) = 0 ∧ R92 62 (c + i) = -1 ∧ R92 63 (c + i) = -1
theorem kpR_of {a r c : Nat} {du ps : Nat → Nat} {R0 R' R2 : Nat → Nat → Int32} {x : wS × Bool} (h : SR a r c du ps R0 x.1 R') (h2 : R2 = if x.2 = true then va_up R' 51 (upd (R' 51) r 1) else R') (h51 : R0 51 r = 0) : kpR a r c du ps x R0 R2 := by
  obtain ⟨h1, h3, h4, h5, h6, h7, h8⟩ := h
  have e : ∀ k, k ≠ 51 → R2 k = R' k := fun k hk => by
    rw [h2]
    by_cases hx : x.2 = true
    · rw [if_pos hx, w_up_ne _ _ hk]
    · rw [if_neg hx]
  have e51 : R' 51 = R0 51 := h1 51 (by decide) (by decide) (by decide) (by decide)
  refine ⟨fun k k1 k2 k3 k4 k5 => by rw [e k k3]; exact h1 k k1 k2 k4 k5, by rw [e 49 (by decide)]; exact h3, by rw [e 49 (by decide)]; exact h4, by rw [e 50 (by decide)]; exact h5, by rw [e 50 (by decide)]; exact h6, ⟨?_, fun j hj => ?_⟩, fun k hk => by rw [e k (by omega)]; exact h7 k hk, ?_⟩
  · rw [h2]
    by_cases hx : x.2 = true
    · rw [if_pos hx, w_up_self, w_upd_self, hx]; rfl
    · rw [if_neg hx, e51, h51, bt_f hx]; rfl
  · rw [h2]
    by_cases hx : x.2 = true
    · rw [if_pos hx, w_up_self, upd_ne hj, e51]
    · rw [if_neg hx, e51]
  · rw [e 56 (by decide), e 57 (by decide), e 58 (by decide), e 59 (by decide), e 60 (by decide), e 61 (by decide), e 62 (by decide), e 63 (by decide)]
    exact h8
/-- a run's rows, place by place -/
theorem rn9_pw {R9 R92 : Nat → Nat → Int32} {r : Nat} {q : rG} (ok : okB q.1) (h1 : ∀ k, k = 41 ∨ k = 51 → R92 k r = R9 k r) (h2 : ∀ k, 42 ≤ k → k ≤ 45 → ∀ j, j < 200 → R92 k (200 * r + j) = R9 k (200 * r + j)) (h3 : ∀ k, k = 46 ∨ k = 47 ∨ k = 48 ∨ k = 50 → ∀ j, j < 40 → R92 k (40 * r + j) = R9 k (40 * r + j)) (h4 : ∀ j, j < 4 → R92 49 (4 * r + j) = R9 49 (4 * r + j)) (h : rn9 R9 r q) : rn9 R92 r q := by
  obtain ⟨a1, a2, a3, a4, a5, a6⟩ := h
  obtain ⟨o1, o2, o3, o4, o5, o6, o7, o8, o9⟩ := ok
  refine ⟨by rw [h1 41 (by omega)]; exact a1, ?_, fun i hi => ?_, by rw [h1 51 (by omega)]; exact a4, fun i hi => by rw [h4 i hi]; exact a5 i hi, fun f hf => by rw [h3 50 (by omega) f hf]; exact a6 f hf⟩
  · exact iR_cg _ o1.1 0 (fun j _ hj => ⟨h2 42 (by omega) (by omega) j (by omega), h2 43 (by omega) (by omega) j (by omega), h2 44 (by omega) (by omega) j (by omega), h2 45 (by omega) (by omega) j (by omega)⟩) a2
  · rw [h3 46 (by omega) i (by omega), h3 47 (by omega) i (by omega), h3 48 (by omega) i (by omega)]
    exact a3 i hi
section KEEP
variable {B : Nat} {Λ : wL} {F F2 : Nat → Nat → Int32} {O : Nat → Nat → Option Nat} {R R2 : Nat → Nat → Nat → Int32} {sz : Nat} {F9 F92 : Nat → Int32} {R9 R92 : Nat → Nat → Int32} {nb d md L a np c nr dm : Nat} {cu : Option (Nat × Nat × Nat × bG)} {q : Nat → rG} {bd : Nat → Nat} {r : Nat}
theorem rnC_u {s : Nat} {p : rG} (hu : F2 p.2.1.1 = F p.2.1.1 ∧ R2 p.2.1.1 = R p.2.1.1) (hb : F2 p.2.1.2.2.1 = F p.2.1.2.2.1 ∧ R2 p.2.1.2.2.1 = R p.2.1.2.2.1) (h : rnC Λ F O R d s p) : rnC Λ F2 O R2 d s p := by
  unfold rnC bzC at *
  rw [hu.1, hu.2, hb.1, hb.2]
  exact h
theorem curI_u (hs : ∀ i m, Lk Λ i 3 m → F2 i = F i ∧ R2 i = R i) (hf : ∀ k, 23 ≤ k → k ≤ 25 → F92 k = F9 k) (hr : ∀ k, 26 ≤ k → k ≤ 32 → R92 k = R9 k) (h : curI Λ F O R F9 R9 d cu) : curI Λ F2 O R2 F92 R92 d cu := by
  match cu, h with
  | none, h => exact ⟨h.1, by rw [hf 23 (by decide) (by decide)]; exact h.2⟩
  | some (b, mb, s, g), h =>
    obtain ⟨h1, h2, h3, h4, h5, h6, h7, h8, h9, h10, h11⟩ := h
    obtain ⟨e1, e2⟩ := hs b mb h5.1
    refine ⟨h1, h2, h3, h4, ?_, by rw [e1]; exact h6, by rw [hf 23 (by decide) (by decide)]; exact h7, by rw [hf 24 (by decide) (by decide)]; exact h8, by rw [hf 25 (by decide) (by decide)]; exact h9, ?_, ?_⟩
    · unfold bzC
      rw [e1, e2]
      exact h5
    · rw [hr 26 (by decide) (by decide), hr 27 (by decide) (by decide), hr 28 (by decide) (by decide), hr 29 (by decide) (by decide)]; exact h10
    · rw [hr 30 (by decide) (by decide), hr 31 (by decide) (by decide), hr 32 (by decide) (by decide)]; exact h11
theorem cnt_more {P P2 : Nat → Bool} {n m : Nat} (h1 : ∀ t, t < c → P2 t = P t) (h2 : cntB (fun i => P2 (c + i)) n = m) : cntB P2 (c + n) = cntB P c + m := by
  rw [cntB_app, cntB_cg h1, h2]
theorem dlM_more {w v : Int32} : ∀ n, (∀ t, t < c → tkE R92 R9 t) → (∀ i, i < n → R92 61 (c + i) = 0) → dlM R92 w v (c + n) = dlM R9 w v c
  | 0, h, _ => dlM_cg h
  | n + 1, h, h2 => by
    rw [← Nat.add_assoc, dlM, if_neg (fun z => by have e := z.2.2.1; rw [h2 n (by omega)] at e; exact absurd e (by decide))]
    exact dlM_more n h (fun i hi => h2 i (by omega))
theorem keep_inv (J : invM B Λ F O R sz F9 R9 nb d md L a np c nr dm cu q bd r) (hr : r < nr) {x : wS × Bool} {n : Nat} {cm : Nat → Nat} (hN : x.1.2.2.2.2.length = n) (hcm : ∀ i e, x.1.2.2.2.2[i]? = some e → cm i = e ∧ e < (q r).1.2.1) (hroom : c + n ≤ 200) (hov : F 6 4 = wb x.2) (h60 : ∀ i, i < 4 → R 6 0 i = x.1.1 i) (h61 : ∀ f, f < 40 → R 6 1 f = nI (wy x.1 f)) (ct : ∀ e, e < (q r).1.2.1 → x.1.2.2.2.1 e = (q r).2.2.1.2.2.2.1 e + ctL e x.1.2.2.2.2) (hid : x.2 = true → idW (q r).1.1 x.1) (hbz : x.2 = false → bzT (q r).1.1 x.1) (K : kpR a r c (q r).1.2.2.2.1 (fun e => psR (q r).1.1 0 e + 1) x R9 R92) (hF9 : F92 55 = nI (c + n)) (hF9' : ∀ k, k ≠ 55 → F92 k = F9 k) : Inv B Λ (kwF F (q r).2.1.1 c n) O (kwRR F R (q r).2.1.1 (q r).2.1.2.2.1 c n a cm (q r).1.2.2.2.1) sz F92 R92 := by
  obtain ⟨I1, ⟨s1, s2, s3, s4, s5, s6, s7, s8, s9⟩, ⟨p1, p2, p3, p4, p5, p6, p7, p8, p9⟩, ⟨m1, m2, m3, m4, m5, m6, m7, m8⟩, I5, I6, I6g, I6o, I7, I8⟩ := J
  obtain ⟨K1, K2, K3, K4, K5, ⟨K6, K6'⟩, K7, K8⟩ := K
  have H := I1.1
  obtain ⟨⟨C1, C2, C3, C4, C5, C6, C7, C8, C9⟩, ⟨r1, r2, r3, r4, r5, r6⟩, ⟨w1, w2, w3⟩⟩ := I6 r hr
  have hB := C1.1
  generalize hu : (q r).2.1.1 = u at *
  generalize hbb : (q r).2.1.2.2.1 = b at *
  have u0 : u ≠ 0 := Lk_ne C3 H.1 (by decide)
  have u1 : u ≠ 1 := Lk_ne C3 H.2.1 (by decide)
  have u2 : u ≠ 2 := Lk_ne C3 H.2.2.1 (by decide)
  have u4 : u ≠ 4 := Lk_ne C3 H.2.2.2.1 (by decide)
  have u5 : u ≠ 5 := Lk_ne C3 H.2.2.2.2.1 (by decide)
  have bu : b ≠ u := Lk_ne hB C3 (by decide)
  have b5 : b ≠ 5 := Lk_ne hB H.2.2.2.2.1 (by decide)
  have fO : ∀ i, i ≠ u → i ≠ 5 → kwF F u c n i = F i := fun i h1 h2 => by
    unfold kwF tuF
    rw [w_up_ne _ _ h1, w_up_ne _ _ h2, w_up_ne _ _ h1]
  have f5 : kwF F u c n 5 0 = nI (c + n) := by
    unfold kwF
    rw [w_up_ne _ _ (Ne.symm u5), w_up_self, w_upd_self]
  have fu : kwF F u c n u = upd (upd (F u) 5 (F 6 4)) 6 (F u 6 + nI n) := by
    unfold kwF tuF
    rw [w_up_self, w_up_self, upd_ne (by decide)]
  have rO : ∀ i, i ≠ u → i ≠ 5 → kwRR F R u b c n a cm (q r).1.2.2.2.1 i = R i := fun i h1 h2 => by
    unfold kwRR tuR
    rw [w_up_ne _ _ h2, w_up_ne _ _ h1]
  have ru : kwRR F R u b c n a cm (q r).1.2.2.2.1 u = va_up (va_up (R u) 2 (cpN 4 (R 6 0) (R u 2))) 3 (cpN 40 (R 6 1) (R u 3)) := by
    unfold kwRR tuR
    rw [w_up_ne _ _ u5, w_up_self]
  have q5 : kwRR F R u b c n a cm (q r).1.2.2.2.1 5 = kwR (R 5) c (nI a) (nI r) cm (R b 8) (fun e => nI (wEn (wHr a + (q r).1.2.2.2.1 e - 1))) n := by
    unfold kwRR tuR tuF
    rw [w_up_self, w_up_ne _ _ (Ne.symm u5), w_up_ne _ _ (Ne.symm u0), w_up_self, w_up_ne _ _ bu, upd_ne (by decide), s5, C6]
  have rk : ∀ k, k ≠ 49 → k ≠ 50 → k ≠ 51 → ¬ (56 ≤ k ∧ k ≤ 63) → k ≠ 69 → R92 k = R9 k := K1
  -- the new tasks
  have nw : ∀ i, i < n → ∃ e, x.1.2.2.2.2[i]? = some e ∧ cm i = e ∧ e < (q r).1.2.1 := fun i hi => by
    have : i < x.1.2.2.2.2.length := by omega
    exact ⟨x.1.2.2.2.2[i], List.getElem?_eq_getElem this, hcm i _ (List.getElem?_eq_getElem this)⟩
  have n61 : ∀ i, i < n → R92 61 (c + i) = 0 := fun i hi => by
    obtain ⟨e, e1, -⟩ := nw i hi
    exact (K8 i e e1).2.2.2.2.2.1
  have n56 : ∀ i, i < n → R92 56 (c + i) = nI r := fun i hi => by
    obtain ⟨e, e1, -⟩ := nw i hi
    exact (K8 i e e1).1
  have tE : ∀ t, t < c → tkE R92 R9 t := fun t ht => ⟨K7 56 (by omega) t ht, K7 57 (by omega) t ht, by rw [K7 61 (by omega) t ht], fun _ => ⟨K7 62 (by omega) t ht, by rw [rk 70 (by omega) (by omega) (by omega) (by omega) (by omega)]⟩⟩
  obtain ⟨o1, o2, o3, o4, o5, o6, o7, o8, o9⟩ := I6o
  -- the runs' blocks apart
  have uu : ∀ s, s < nr → s ≠ r → (q s).2.1.1 ≠ u := fun s hs hne e => by
    have e1 := (I6 s hs).1.2.2.2.2.2.1
    rw [e, C6] at e1
    exact hne ((nI_eq (by omega) (by omega)).mp e1).symm
  obtain ⟨bd', hbd'⟩ : ∃ bd', srt (kwR (R 5) c (nI a) (nI r) cm (R b 8) (fun e => nI (wEn (wHr a + (q r).1.2.2.2.1 e - 1))) n 5) (kwR (R 5) c (nI a) (nI r) cm (R b 8) (fun e => nI (wEn (wHr a + (q r).1.2.2.2.1 e - 1))) n 9) (c + n) bd' := by
    refine kw_srt (bd := bd) n (by omega) ⟨I8.1, fun i j h1 h2 => ?_⟩
    rw [(I7 _ (I8.1 i (by omega)).2).1.2.2.2.1, (I7 _ (I8.1 j h2).2).1.2.2.2.1]
    exact I8.2 i j h1 h2
  have due : ∀ t, t < c + n → kwR (R 5) c (nI a) (nI r) cm (R b 8) (fun e => nI (wEn (wHr a + (q r).1.2.2.2.1 e - 1))) n 5 t = R92 60 t := fun t ht => by
    by_cases h : t < c
    · rw [kw_old n 5 t (by decide) (by decide) h, K7 60 (by omega) t h]
      exact (I7 t h).1.2.2.2.1
    · obtain ⟨i, rfl⟩ : ∃ i, t = c + i := ⟨t - c, by omega⟩
      obtain ⟨e, e1, e2, e3⟩ := nw i (by omega)
      rw [(kw_new n i (by omega)).2.2.2.2.1, (K8 i e e1).2.2.2.2.1, e2]
  refine ⟨nb, d, md, L, a, np, c + n, nr, dm, cu, fun s => if s = r then ((q r).1, (q r).2.1, (x.1.1, x.1.2.1, x.1.2.2.1, x.1.2.2.2.1, []), x.2) else q s, bd', ?_, ?_, ?_, ?_, ?_, ?_, ?_, ?_⟩
  · obtain ⟨l1, l2, l3, l4, l5, l6, l7, l8⟩ := I1
    exact ⟨l1, l2, l3, l4, l5, l6, l7, fun j hj => by rw [rO 2 (Ne.symm u2) (by decide)]; exact l8 j hj⟩
  · exact ⟨by rw [fO 2 (Ne.symm u2) (by decide)]; exact s1, by rw [hF9' 1 (by decide)]; exact s2, s3, by rw [rO 2 (Ne.symm u2) (by decide), rk 0 (by decide) (by decide) (by decide) (by decide) (by decide)]; exact s4, by rw [fO 0 (Ne.symm u0) (by decide)]; exact s5, by rw [hF9' 54 (by decide)]; exact s6, s7, by rw [fO 0 (Ne.symm u0) (by decide), hF9' 9 (by decide)]; exact s8, by rw [fO 0 (Ne.symm u0) (by decide), hF9' 10 (by decide)]; exact s9⟩
  · refine ⟨by rw [fO 4 (Ne.symm u4) (by decide)]; exact p1, by rw [hF9' 64 (by decide)]; exact p2, p3, ?_, ?_, ?_, ?_, ?_, fun p hp => ⟨?_, ?_⟩⟩
    · rw [rO 4 (Ne.symm u4) (by decide), rk 65 (by decide) (by decide) (by decide) (by decide) (by decide)]; exact p4
    · rw [rO 4 (Ne.symm u4) (by decide), rk 66 (by decide) (by decide) (by decide) (by decide) (by decide)]; exact p5
    · rw [rO 4 (Ne.symm u4) (by decide), rk 67 (by decide) (by decide) (by decide) (by decide) (by decide)]; exact p6
    · rw [rO 4 (Ne.symm u4) (by decide), rk 68 (by decide) (by decide) (by decide) (by decide) (by decide)]; exact p7
    · rw [rk 67 (by decide) (by decide) (by decide) (by decide) (by decide)]; exact p8
    · rw [rO 4 (Ne.symm u4) (by decide), (p9 p hp).1, cnt_more (P := Pcl R9 (nI p)) (n := n) (m := 0) (fun t ht => by unfold Pcl; rw [K7 61 (by omega) t ht, K7 62 (by omega) t ht]) (cntB_0 (fun i hi => by show (decide (R92 61 (c + i) = 1) && _) = false; rw [n61 i hi]; rfl))]
      rfl
    · rw [rO 4 (Ne.symm u4) (by decide), (p9 p hp).2, cnt_more (P := Pdn R9 (nI p)) (n := n) (m := 0) (fun t ht => by unfold Pdn; rw [K7 61 (by omega) t ht, K7 62 (by omega) t ht]) (cntB_0 (fun i hi => by show (decide (R92 61 (c + i) = 2) && _) = false; rw [n61 i hi]; rfl))]
      rfl
  · refine ⟨f5, hF9, hroom, by rw [fO 0 (Ne.symm u0) (by decide)]; exact m4, by rw [hF9' 40 (by decide)]; exact m5, m6, by rw [hF9' 71 (by decide)]; exact m7, ?_⟩
    rw [m8, cnt_more (P := fun t => decide (R9 61 t = 2)) (P2 := fun t => decide (R92 61 t = 2)) (n := n) (m := 0) (fun t ht => by show decide (R92 61 t = 2) = decide (R9 61 t = 2); rw [K7 61 (by omega) t ht]) (cntB_0 (fun i hi => by show decide (R92 61 (c + i) = 2) = false; rw [n61 i hi]; rfl))]
    rfl
  · exact curI_u (fun i m hk => ⟨fO i (Lk_ne hk C3 (by decide)) (Lk_ne hk H.2.2.2.2.1 (by decide)), rO i (Lk_ne hk C3 (by decide)) (Lk_ne hk H.2.2.2.2.1 (by decide))⟩) (fun k k1 k2 => hF9' k (by omega)) (fun k k1 k2 => rk k (by omega) (by omega) (by omega) (by omega) (by omega)) I5
  · intro s hs
    by_cases e : s = r
    · subst e
      simp only [if_pos]
      refine ⟨⟨⟨o1, o2, o3, o4, o5, o6, o7, o8, o9⟩, rfl, fun hx => hid hx, fun hx => bz_eq _ o1.1 _ x.1 ⟨fun _ _ => ⟨rfl, rfl⟩, fun _ _ => rfl⟩ (hbz hx)⟩, ?_, ?_, ?_⟩
      · refine ⟨?_, ?_, ?_, C4, ?_, ?_, ?_, fun i hi => ?_, fun f hf => ?_⟩
        · show bzC Λ _ _ (q s).2.1.2.2.1 _ _
          rw [hbb]
          unfold bzC
          rw [fO b bu b5, rO b bu b5]
          exact C1
        · show (q s).2.1.2.2.1 ≠ d
          rw [hbb]; exact C2
        · show Lk Λ (q s).2.1.1 7 _
          rw [hu]; exact C3
        · show O (q s).2.1.1 1 = _
          rw [hu]; exact C5
        · show kwF F u c n (q s).2.1.1 0 = _
          rw [hu, fu, upd_ne (by decide), upd_ne (by decide)]; exact C6
        · show kwF F u c n (q s).2.1.1 5 = _
          rw [hu, fu, upd_ne (by decide), w_upd_self]; exact hov
        · show kwRR F R u b c n a cm (q s).1.2.2.2.1 (q s).2.1.1 2 i = x.1.1 i
          rw [hu, ru]
          show (if i < 4 then R 6 0 i else R u 2 i) = _
          rw [if_pos hi]; exact h60 i hi
        · show kwRR F R u b c n a cm (q s).1.2.2.2.1 (q s).2.1.1 3 f = nI (wy x.1 f)
          rw [hu, ru]
          show (if f < 40 then R 6 1 f else R u 3 f) = _
          rw [if_pos hf]; exact h61 f hf
      · refine ⟨by rw [rk 41 (by decide) (by decide) (by decide) (by decide) (by decide)]; exact r1, ?_, ?_, K6, K2, K4⟩
        · rw [rk 42 (by decide) (by decide) (by decide) (by decide) (by decide), rk 43 (by decide) (by decide) (by decide) (by decide) (by decide), rk 44 (by decide) (by decide) (by decide) (by decide) (by decide), rk 45 (by decide) (by decide) (by decide) (by decide) (by decide)]; exact r2
        · rw [rk 46 (by decide) (by decide) (by decide) (by decide) (by decide), rk 47 (by decide) (by decide) (by decide) (by decide) (by decide), rk 48 (by decide) (by decide) (by decide) (by decide) (by decide)]; exact r3
      · refine ⟨?_, fun i hi => ?_, fun i hi => ?_⟩
        · show kwF F u c n (q s).2.1.1 6 = _
          rw [hu, fu, w_upd_self, w1, nI_add, cnt_more (P := Prn R9 (nI s)) (n := n) (m := n) (fun t ht => by unfold Prn; rw [K7 56 (by omega) t ht, K7 61 (by omega) t ht]) (cntB_n (fun i hi => by show (decide (R92 56 (c + i) = nI s) && !decide (R92 61 (c + i) = 2)) = true; rw [n56 i hi, n61 i hi, decide_eq_true rfl]; rfl))]
        · show kwRR F R u b c n a cm (q s).1.2.2.2.1 (q s).2.1.1 4 i = _
          rw [hu, ru, dlM_more n tE n61]
          exact w2 i hi
        · show x.1.2.2.2.1 i = _
          rw [ct i hi, w3 i hi, cnt_more (P := Ptd R9 s i) (n := n) (m := ctL i x.1.2.2.2.2) (fun t ht => by unfold Ptd; rw [K7 56 (by omega) t ht, K7 57 (by omega) t ht, K7 61 (by omega) t ht])]
          unfold ctL
          rw [hN]
          refine cntB_cg (fun k hk => ?_)
          obtain ⟨e, e1, e2, e3⟩ := nw k hk
          show (decide (R92 56 (c + k) = nI s) && decide (R92 57 (c + k) = nI i) && !decide (R92 61 (c + k) = 2)) = decide (x.1.2.2.2.2[k]? = some i)
          rw [n56 k hk, n61 k hk, (K8 k e e1).2.1, e1, decide_eq_true rfl, Bool.true_and]
          have e4 : (!decide ((0 : Int32) = 2)) = true := rfl
          rw [e4, Bool.and_true]
          have hi' : i < (q s).1.2.1 := hi
          refine dec_iff ⟨fun z => ?_, fun z => ?_⟩
          · rw [(nI_eq (by omega) (by omega)).mp z]
          · rw [Option.some.inj z]
    · simp only [if_neg e]
      obtain ⟨g2, g3, g4⟩ := I6 s hs
      have us := uu s hs e
      have us5 : (q s).2.1.1 ≠ 5 := Lk_ne g2.2.2.1 H.2.2.2.2.1 (by decide)
      have bs : (q s).2.1.2.2.1 ≠ u := Lk_ne g2.1.1 C3 (by decide)
      have bs5 : (q s).2.1.2.2.1 ≠ 5 := Lk_ne g2.1.1 H.2.2.2.2.1 (by decide)
      refine ⟨I6g s hs e, rnC_u ⟨fO _ us us5, rO _ us us5⟩ ⟨fO _ bs bs5, rO _ bs bs5⟩ g2, ?_, ?_⟩
      · refine rn9_pw (I6g s hs e).1 (fun k hk => ?_) (fun k k1 k2 j hj => by rw [rk k (by omega) (by omega) (by omega) (by omega) (by omega)]) (fun k hk j hj => ?_) (fun j hj => K3 _ (by omega)) g3
        · rcases hk with rfl | rfl
          · rw [rk 41 (by decide) (by decide) (by decide) (by decide) (by decide)]
          · exact K6' s e
        · by_cases h50 : k = 50
          · subst h50; exact K5 _ (by omega)
          · rw [rk k (by omega) h50 (by omega) (by omega) (by omega)]
      · obtain ⟨v1, v2, v3⟩ := g4
        have nes : ¬ nI r = nI s := fun z => e ((nI_eq (by omega) (by omega)).mp z).symm
        refine ⟨?_, fun i hi => ?_, fun i hi => ?_⟩
        · rw [fO _ us us5, v1, cnt_more (P := Prn R9 (nI s)) (n := n) (m := 0) (fun t ht => by unfold Prn; rw [K7 56 (by omega) t ht, K7 61 (by omega) t ht]) (cntB_0 (fun i hi => by show (decide (R92 56 (c + i) = nI s) && _) = false; rw [n56 i hi, decide_eq_false nes]; rfl))]
          rfl
        · rw [rO _ us us5, dlM_more n tE n61]
          exact v2 i hi
        · rw [v3 i hi, cnt_more (P := Ptd R9 s i) (n := n) (m := 0) (fun t ht => by unfold Ptd; rw [K7 56 (by omega) t ht, K7 57 (by omega) t ht, K7 61 (by omega) t ht]) (cntB_0 (fun j hj => by show (decide (R92 56 (c + j) = nI s) && _ && _) = false; rw [n56 j hj, decide_eq_false nes]; rfl))]
          rfl
  · intro t ht
    unfold tkI tkQ tkR tkD
    rw [q5]
    by_cases h : t < c
    · obtain ⟨⟨t1, t2, t3, t4, t5, t6, t7⟩, ⟨s, i, y1, y2, y3, y4, y5, y6⟩, t9⟩ := I7 t h
      refine ⟨⟨?_, ?_, ?_, ?_, ?_, ?_, ?_⟩, ⟨s, i, y1, ?_, ?_, ?_, ?_, ?_⟩, ?_⟩
      · rw [kw_old n 1 t (by decide) (by decide) h, K7 56 (by omega) t h]; exact t1
      · rw [kw_old n 2 t (by decide) (by decide) h, K7 57 (by omega) t h]; exact t2
      · rw [kw_old n 4 t (by decide) (by decide) h, K7 59 (by omega) t h]; exact t3
      · rw [kw_old n 5 t (by decide) (by decide) h, K7 60 (by omega) t h]; exact t4
      · rw [kw_old n 6 t (by decide) (by decide) h, K7 61 (by omega) t h]; exact t5
      · rw [kw_old n 7 t (by decide) (by decide) h, K7 62 (by omega) t h]; exact t6
      · rw [kw_old n 8 t (by decide) (by decide) h, K7 63 (by omega) t h]; exact t7
      · by_cases e : s = r
        · subst e; simp only [if_pos]; exact y2
        · simp only [if_neg e]; exact y2
      · rw [K7 56 (by omega) t h]; exact y3
      · rw [K7 57 (by omega) t h]; exact y4
      · rw [K7 58 (by omega) t h]
        by_cases e : s = r
        · subst e; simp only [if_pos]; exact y5
        · simp only [if_neg e]; exact y5
      · rw [kw_old n 3 t (by decide) (by decide) h]
        by_cases e : s = r
        · subst e; simp only [if_pos]; exact y6
        · simp only [if_neg e]; exact y6
      · unfold tkS tkD at *
        rw [K7 61 (by omega) t h, K7 62 (by omega) t h, K7 63 (by omega) t h, rk 70 (by decide) (by decide) (by decide) (by decide) (by decide)]
        exact t9
    · obtain ⟨i, rfl⟩ : ∃ i, t = c + i := ⟨t - c, by omega⟩
      obtain ⟨e, e1, e2, e3⟩ := nw i (by omega)
      obtain ⟨k1, k2, k3, k4, k5, k6, k7, k8⟩ := kw_new (R5 := R 5) (c := c) (a' := nI a) (rn := nI r) (cm := cm) (ro := R b 8) (dh := fun e => nI (wEn (wHr a + (q r).1.2.2.2.1 e - 1))) n i (by omega)
      obtain ⟨z1, z2, z3, z4, z5, z6, z7, z8⟩ := K8 i e e1
      refine ⟨⟨by rw [k1, z1], by rw [k2, z2, e2], by rw [k4, z4], by rw [k5, z5, e2], by rw [k6, z6], by rw [k7, z7], by rw [k8, z8]⟩, ⟨r, e, hr, ?_, z1, z2, ?_, ?_⟩, Or.inl z6, fun _ => z8⟩
      · simp only [if_pos]; exact e3
      · simp only [if_pos]; exact z3
      · simp only [if_pos]
        rw [k3, e2]
        exact (C1.2.2.2.2.2 e e3).1
  · unfold bdI
    rw [q5]
    refine ⟨hbd'.1, fun i j h1 h2 => ?_⟩
    rw [← due _ (hbd'.1 i (by omega)).2, ← due _ (hbd'.1 j h2).2]
    exact hbd'.2 i j h1 h2
end KEEP
