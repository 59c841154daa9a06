/-! business: both read alike -/
section GR0
variable {Λ Λ2 : wL} {F F2 : Nat → Nat → Int32} {O O2 : Nat → Nat → Option Nat} {R R2 : Nat → Nat → Nat → Int32} {d d2 : Nat}
theorem bzC_gr {b mb : Nat} {g : bG} (hΛ : ∀ i κ m, Lk Λ i κ m → Lk Λ2 i κ m) (hs : sdB Λ F O R d F2 O2 R2) (hd : b ≠ d) (h : bzC Λ F R b mb g) : bzC Λ2 F2 R2 b mb g := by
  obtain ⟨e1, e2, -⟩ := hs b ⟨mb, Or.inl ⟨h.1, hd⟩⟩
  unfold bzC
  rw [e1, e2]
  exact ⟨hΛ _ _ _ h.1, h.2⟩
theorem rnC_gr {r : Nat} {q : rG} (hΛ : ∀ i κ m, Lk Λ i κ m → Lk Λ2 i κ m) (hs : sdB Λ F O R d F2 O2 R2) (h7 : O2 7 r = O 7 r) (hd2 : ∀ i m, Lk Λ i 3 m → i ≠ d → i ≠ d2) (h : rnC Λ F O R d r q) : rnC Λ2 F2 O2 R2 d2 r q := by
  obtain ⟨h1, h2, h3, h4, h5, h6, h8, h9, h10⟩ := h
  obtain ⟨e1, e2, e3⟩ := hs q.2.1.1 ⟨_, Or.inr h3⟩
  exact ⟨bzC_gr hΛ hs h2 h1, hd2 _ _ h1.1 h2, hΛ _ _ _ h3, by rw [h7]; exact h4, by rw [e3]; exact h5, by rw [e1]; exact h6, by rw [e1]; exact h8, by rw [e2]; exact h9, by rw [e2]; exact h10⟩
theorem dyn_d {i md : Nat} (hD : Lk Λ d 3 md) (h : dynB Λ d i) : i ≠ d := by
  obtain ⟨m, ⟨h1, h2⟩ | h⟩ := h
  · exact h2
  · exact Lk_ne h hD (by decide)
theorem dyn_nn {i nb : Nat} (hn : ∀ x, Λ.1 x ≠ some nb) (h : dynB Λ d i) : i ≠ nb := by
  obtain ⟨m, ⟨h1, h2⟩ | h⟩ := h
  · exact Lk_nn h1 hn
  · exact Lk_nn h hn
end GR0
/-- what a whole reading gives is a business -/
theorem okB_wf {L p s c f : Nat} {ns ro du : Nat → Nat} {cur : tT} {ey : Nat → Int32} (hw : wfA L (p, s, c, f, ns, cur, [], ro, du, ey)) : s ≤ 40 ∧ okB (cur, c, ro, du, ey) := by
  obtain ⟨w1, w2, w3, w4, w5, w6, w7, w8, w9, w10, w11, w12⟩ := hw
  have e1 : dsT cur = List.range c := w7
  have e2 : fkT cur = List.range f := w8
  have e3 := sz_le w4.1
  have e4 : s = 0 + nsT cur := w2
  refine ⟨w3, w4, ⟨by rw [e2]; exact List.nodup_range, by rw [e1]; exact List.nodup_range⟩, e1, by show c ≤ 40; omega, fun g hg => ?_, ?_, by show szR cur < 200; omega, by show szC cur + 1 ≤ 121; omega, fun i hi => ?_⟩
  · rw [show (cur, c, ro, du, ey).1 = cur from rfl, e2] at hg
    have := List.mem_range.mp hg
    omega
  · rw [show (cur, c, ro, du, ey).1 = cur from rfl, e2, List.length_range]
    omega
  · obtain ⟨z1, z2, z3, z4, z5⟩ := w11 i hi
    exact ⟨z2, ⟨z3, z4⟩, z5⟩
section BUS
variable {G : wG} {B : Nat} {Λ : wL} {F : Nat → Nat → Int32} {O : Nat → Nat → Option Nat} {R : Nat → Nat → Nat → Int32} {sz : Nat} {F9 : Nat → Int32} {tl : Int64} {R9 : Nat → Nat → Int32} {NL : Nat → Int64}
theorem pr_business (I : Inv B Λ F O R sz F9 R9) : Pair G B mX8_business mX9_business [] (hp B Λ F O R sz F9 tl R9 NL) := by
  have I0 := I
  obtain ⟨nb, d, md, L, a, np, c, nr, dm, cu, q, bd, J⟩ := I
  have J0 := J
  obtain ⟨⟨H, l2, l3, l4, hD, ho3, l7, l8⟩, ⟨s1, s2, s3, s4, s5, s6, s7, s8, s9⟩, I3, I4, I5, I6, I7, I8⟩ := J
  have hfr : ∀ y, Λ.1 y ≠ some nb := l4 nb (Nat.le_refl _)
  have c1 := c8_business (G := G) (h0 := mh (B + 44) F9 tl R9 NL (fun _ => none)) H hD ho3 s1 s3 l8 hfr l2
  have c2 := fun (h1 : Nat → Option wE) (sz1 : Nat) => c9_business (G := G) (m := B + 44) (F := F9) (tl := tl) (R := R9) (NL := NL) (h0 := h1) (sz := sz1) s2 s3
  rw [s4] at c1
  have d0 : d ≠ 0 := Lk_ne hD H.1 (by decide)
  have d1 : d ≠ 1 := Lk_ne hD H.2.1 (by decide)
  have d2 : d ≠ 2 := Lk_ne hD H.2.2.1 (by decide)
  have d4 : d ≠ 4 := Lk_ne hD H.2.2.2.1 (by decide)
  have d5 : d ≠ 5 := Lk_ne hD H.2.2.2.2.1 (by decide)
  have n0 := Lk_nn H.1 hfr
  have n1 := Lk_nn H.2.1 hfr
  have n2 := Lk_nn H.2.2.1 hfr
  have n4 := Lk_nn H.2.2.2.1 hfr
  have n5 := Lk_nn H.2.2.2.2.1 hfr
  have n7 := Lk_nn H.2.2.2.2.2.2.1 hfr
  have nd := Lk_nn hD hfr
  generalize apL (R9 0) L (L + 1) aT0 = res at c1 c2
  match res, c1, c2 with
  | .inl e, c1, c2 =>
    refine ⟨-1, Sat.mono c1 ?_⟩
    rintro v h1 ⟨rfl, X2, rfl, hDd⟩
    rw [hp_sw I0.lay]
    refine ⟨rfl, ⟨_, mh_obj⟩, Sat.mono (c2 _ _) ?_⟩
    rintro v2 h2 ⟨F92, tl2, R92, NL2, rfl, q1, q2, rfl, q4, q5, q6, q7, q8, q9⟩
    refine ⟨rfl, Λ, _, O, _, sz, F92, tl2, R92, NL2, by rw [hp, hp_sw I0.lay], ?_⟩
    have x0 : rdF F R d L X2 0 = F 0 := by unfold rdF; rw [w_up_ne _ _ (Ne.symm d0)]; rfl
    have x1 : rdF F R d L X2 1 = X2.2.1 := by unfold rdF; rw [w_up_ne _ _ (Ne.symm d1)]; rfl
    have x4 : rdF F R d L X2 4 = F 4 := by unfold rdF; rw [w_up_ne _ _ (Ne.symm d4)]; rfl
    have x5 : rdF F R d L X2 5 = F 5 := by unfold rdF; rw [w_up_ne _ _ (Ne.symm d5)]; rfl
    have y2 : rdR R d X2 2 = R 2 := by unfold rdR; rw [w_up_ne _ _ (Ne.symm d2)]; rfl
    have y4 : rdR R d X2 4 = R 4 := by unfold rdR; rw [w_up_ne _ _ (Ne.symm d4)]; rfl
    have y5 : rdR R d X2 5 = R 5 := by unfold rdR; rw [w_up_ne _ _ (Ne.symm d5)]; rfl
    have fk : ∀ k, ¬ (k = 2 ∨ k = 3 ∨ k = 4 ∨ k = 6 ∨ k = 7 ∨ k = 8 ∨ k = 9 ∨ k = 10 ∨ k = 11 ∨ k = 12 ∨ k = 13 ∨ k = 14 ∨ k = 23 ∨ k = 24 ∨ k = 25 ∨ k = 33) → F92 k = upd F9 1 0 k := fun k hk => (q1 k).resolve_left hk
    have rk : ∀ k, ¬ (15 ≤ k ∧ k ≤ 22 ∨ 26 ≤ k ∧ k ≤ 32 ∨ 34 ≤ k ∧ k ≤ 39) → R92 k = R9 k := fun k hk => (q2 k).resolve_left hk
    refine inv_q2 (L' := 0) (a' := a) (np' := np) J0 (fun i hi => ?_) rfl rfl rfl (by rw [y2]) y5 ?_ ?_ ?_ ?_ ?_ (Nat.le_refl _)
    · obtain ⟨m0, m1, m2, m4, m5, m6, m7⟩ := dyn_ne H hi
      have md := dyn_d hD hi
      refine ⟨?_, ?_, rfl⟩
      · show va_up (va_up (rdF F R d L X2) 2 _) 0 _ i = F i
        rw [w_up_ne _ _ m0, w_up_ne _ _ m2]
        unfold rdF
        rw [w_up_ne _ _ md, w_up_ne _ _ m2, w_up_ne _ _ m1]
      · unfold rdR
        rw [w_up_ne _ _ md, w_up_ne _ _ m1]
    · refine ⟨rfl, (fk 1 (by decide)), by omega, by rw [y2, rk 0 (by omega)]; exact s4, ?_, by rw [fk 54 (by decide)]; exact s6, s7, ?_, ?_⟩
      · show rdF F R d L X2 0 7 = _
        rw [x0]; exact s5
      · show rdF F R d L X2 1 1 = _
        rw [x1, hDd.1, q4]
      · show rdF F R d L X2 1 2 = _
        rw [x1, hDd.2, q5]
    · refine psI_cg ?_ y4 (fk 64 (by decide)) (fun k h1 => rk k (by omega)) I3
      show rdF F R d L X2 4 0 = _
      rw [x4]
    · refine nmI_cg ?_ (fk 55 (by decide)) ?_ (fk 40 (by decide)) (fk 71 (by decide)) (rk 61 (by omega)) I4
      · show rdF F R d L X2 5 0 = _
        rw [x5]
      · show rdF F R d L X2 0 5 = _
        rw [x0]
    · intro k k1 k2
      have : k = 23 ∨ k = 24 ∨ k = 25 := by omega
      rcases this with rfl | rfl | rfl
      · exact q6
      · exact q7
      · exact q8
    · intro k hk
      by_cases hk2 : 26 ≤ k ∧ k ≤ 32
      · exact q9 k hk2.1 hk2.2
      · exact rk k (by omega)
  | .inr A, c1, c2 =>
    obtain ⟨p, s, cc, f, ns, cur, Γ, ro, du, ey⟩ := A
    refine ⟨nI s, Sat.mono c1 ?_⟩
    rintro v h1 ⟨X2, hI, hw, hG, rfl, rfl⟩
    have hm : ∀ x, inK 3 sz x → Λ.1 x = none := fun x hx => l2 x (by rcases hx with z | z; omega; have : kLo 3 = 1 := rfl; omega)
    have hat : ∀ y, (lkA Λ nb 3 sz).1 y = if y = sz ∨ (sz + 1 ≤ y ∧ y < sz + 9) then some nb else Λ.1 y := fun y => rfl
    have hlay : ∀ y, B + 44 ≤ y → y < B + 44 + 50 → (lkA Λ nb 3 sz).1 y = none := fun y y1 y2 => by
      rw [hat, if_neg (by omega)]; exact l3 y y1 (by omega)
    rw [hp_sw hlay]
    refine ⟨rfl, ⟨_, mh_obj⟩, Sat.mono (c2 _ _) ?_⟩
    rintro v2 h2 ⟨F92, tl2, R92, NL2, rfl, q1, q2, rfl, q4, q5, q6, q7, q8, hw2, hG2, q9, q10⟩
    have hG3 : Γ = [] := hG
    subst hG3
    refine ⟨rfl, lkA Λ nb 3 sz, _, _, _, sz + 9, F92, tl2, R92, NL2, by rw [hp, hp_sw hlay], ?_⟩
    obtain ⟨hs40, okb⟩ := okB_wf hw
    obtain ⟨j1, j2, j3, j4, j5, j6, j7, j8, j9, j10, j11, j12, j13, j14, j15, j16⟩ := hI
    have hln : lnN X2 = szC cur := by
      have : X2.2.2.1 3 = nI (0 + szC cur) := j10
      unfold lnN
      rw [this, Nat.zero_add, nI_clamp (by have := okb.2.2.2.2.2.2.2.1; show szC cur < 2 ^ 31; have e : szC (cur, cc, ro, du, ey).1 = szC cur := rfl; omega)]
    have x0 : (va_up (rdF F R d L (finX X2)) nb (fun _ => 0)) 0 = F 0 := by rw [w_up_ne _ _ n0]; unfold rdF; rw [w_up_ne _ _ (Ne.symm d0)]; rfl
    have x1 : (va_up (rdF F R d L (finX X2)) nb (fun _ => 0)) 1 = upd X2.2.1 4 1 := by rw [w_up_ne _ _ n1]; unfold rdF; rw [w_up_ne _ _ (Ne.symm d1)]; rfl
    have x4 : (va_up (rdF F R d L (finX X2)) nb (fun _ => 0)) 4 = F 4 := by rw [w_up_ne _ _ n4]; unfold rdF; rw [w_up_ne _ _ (Ne.symm d4)]; rfl
    have x5 : (va_up (rdF F R d L (finX X2)) nb (fun _ => 0)) 5 = F 5 := by rw [w_up_ne _ _ n5]; unfold rdF; rw [w_up_ne _ _ (Ne.symm d5)]; rfl
    have xd : bsF (va_up (rdF F R d L (finX X2)) nb (fun _ => 0)) d = upd X2.2.2.1 3 (nI (szC cur + 1)) := by
      unfold bsF
      rw [w_up_ne _ _ d0, w_up_ne _ _ d2, w_up_ne _ _ nd]
      unfold rdF
      rw [w_up_self]
      show upd X2.2.2.1 3 (nI (lnN X2 + 1)) = _
      rw [hln]
    have y2 : (va_up (rdR R d (finX X2)) nb (fun _ _ => 0)) 2 = R 2 := by rw [w_up_ne _ _ n2]; unfold rdR; rw [w_up_ne _ _ (Ne.symm d2)]; rfl
    have y4 : (va_up (rdR R d (finX X2)) nb (fun _ _ => 0)) 4 = R 4 := by rw [w_up_ne _ _ n4]; unfold rdR; rw [w_up_ne _ _ (Ne.symm d4)]; rfl
    have y5 : (va_up (rdR R d (finX X2)) nb (fun _ _ => 0)) 5 = R 5 := by rw [w_up_ne _ _ n5]; unfold rdR; rw [w_up_ne _ _ (Ne.symm d5)]; rfl
    have yd : (va_up (rdR R d (finX X2)) nb (fun _ _ => 0)) d = adB X2.2.2.2.2 (szC cur) 6 0 0 0 := by
      rw [w_up_ne _ _ nd]
      unfold rdR
      rw [w_up_self]
      show adB X2.2.2.2.2 (lnN X2) 6 0 0 0 = _
      rw [hln]
    have fk : ∀ k, ¬ (k = 2 ∨ k = 3 ∨ k = 4 ∨ k = 6 ∨ k = 7 ∨ k = 8 ∨ k = 9 ∨ k = 10 ∨ k = 11 ∨ k = 12 ∨ k = 13 ∨ k = 14 ∨ k = 23 ∨ k = 24 ∨ k = 25 ∨ k = 33) → F92 k = upd F9 1 0 k := fun k hk => (q1 k).resolve_left hk
    have rk : ∀ k, ¬ (15 ≤ k ∧ k ≤ 22 ∨ 26 ≤ k ∧ k ≤ 32 ∨ 34 ≤ k ∧ k ≤ 39) → R92 k = R9 k := fun k hk => (q2 k).resolve_left hk
    have hΛ : ∀ i κ m, Lk Λ i κ m → Lk (lkA Λ nb 3 sz) i κ m := fun i κ m hk => Lk_old hk hfr hm
    have hs : sdB Λ F O R d (bsF (va_up (rdF F R d L (finX X2)) nb (fun _ => 0))) (bsO O nb sz md) (va_up (rdR R d (finX X2)) nb (fun _ _ => 0)) := fun i hi => by
      obtain ⟨m0, m1, m2, m4, m5, m6, m7⟩ := dyn_ne H hi
      have md := dyn_d hD hi
      have mn := dyn_nn hfr hi
      refine ⟨?_, ?_, ?_⟩
      · unfold bsF
        rw [w_up_ne _ _ m0, w_up_ne _ _ m2, w_up_ne _ _ mn]
        unfold rdF
        rw [w_up_ne _ _ md, w_up_ne _ _ m2, w_up_ne _ _ m1]
      · rw [w_up_ne _ _ mn]
        unfold rdR
        rw [w_up_ne _ _ md, w_up_ne _ _ m1]
      · unfold bsO
        rw [w_up_ne _ _ m0, w_up_ne _ _ m1, w_up_ne _ _ mn]
    have o7 : bsO O nb sz md 7 = O 7 := by
      show va_up O nb _ 7 = O 7
      exact w_up_ne _ _ n7
    refine ⟨nb + 1, nb, sz, 0, a, np, c, nr, dm, some (d, md, s, (cur, cc, ro, du, ey)), q, bd, ?_, ?_, ?_, ?_, ?_, ?_, ?_, ?_⟩
    · refine ⟨?_, fun y hy => ?_, fun y y1 y2 => hlay y y1 (by omega), fun k hk y => ?_, Lk_new hfr, rfl, by omega, fun j hj => by rw [y2]; exact l8 j hj⟩
      · obtain ⟨a1, a2, a3, a4, a5, a6, a7, a8, a9, a10, a11, a12, a13⟩ := H
        exact ⟨hΛ _ _ _ a1, hΛ _ _ _ a2, hΛ _ _ _ a3, hΛ _ _ _ a4, hΛ _ _ _ a5, hΛ _ _ _ a6, hΛ _ _ _ a7, a8, a9, a10, a11, a12, a13⟩
      · rw [hat, if_neg (by omega)]; exact l2 y (by omega)
      · rw [hat]
        by_cases e : y = sz ∨ (sz + 1 ≤ y ∧ y < sz + 9)
        · rw [if_pos e]; intro z; have := Option.some.inj z; omega
        · rw [if_neg e]; exact l4 k (by omega) y
    · refine ⟨rfl, (fk 1 (by decide)), by omega, by rw [y2, rk 0 (by omega)]; exact s4, ?_, by rw [fk 54 (by decide)]; exact s6, s7, ?_, ?_⟩
      · show va_up (rdF F R d L (finX X2)) nb (fun _ => 0) 0 7 = _
        rw [x0]; exact s5
      · show va_up (rdF F R d L (finX X2)) nb (fun _ => 0) 1 1 = _
        rw [x1, q4]; exact j2
      · show va_up (rdF F R d L (finX X2)) nb (fun _ => 0) 1 2 = _
        rw [x1, q5]; exact j3
    · refine psI_cg ?_ y4 (fk 64 (by decide)) (fun k h1 => rk k (by omega)) I3
      show va_up (rdF F R d L (finX X2)) nb (fun _ => 0) 4 0 = _
      rw [x4]
    · refine nmI_cg ?_ (fk 55 (by decide)) ?_ (fk 40 (by decide)) (fk 71 (by decide)) (rk 61 (by omega)) I4
      · show va_up (rdF F R d L (finX X2)) nb (fun _ => 0) 5 0 = _
        rw [x5]
      · show va_up (rdF F R d L (finX X2)) nb (fun _ => 0) 0 5 = _
        rw [x0]
    · refine ⟨rfl, nd, hs40, okb, ⟨hΛ _ _ _ hD, ?_, ?_, ?_, ?_, fun i hi => ?_⟩, ?_, q6, q7, q8, q9, q10⟩
      · rw [xd]; exact j8
      · rw [xd]; rfl
      · rw [yd]
        show upd (X2.2.2.2.2 4) (szC cur) 6 (szC cur) = 6
        exact w_upd_self _ _ _
      · rw [yd]
        exact iC_e (k0 := 0) okb.1.1 (by show 0 + szC cur ≤ szC cur; omega) j14
      · rw [yd]
        exact j12 i hi
      · rw [xd]; exact j7
    · intro r hr
      obtain ⟨g1, g2, g3, g4⟩ := I6 r hr
      exact ⟨g1, rnC_gr hΛ hs (by rw [o7]) (fun i m hk _ => Lk_nn hk hfr) g2, rn9_cg (fun k k1 k2 => rk k (by omega)) g3, rnT_cg hs g2.2.2.1 (fun t _ => tkE_of (fun k k1 k2 => rk k (by omega)) (rk 70 (by omega))) g4⟩
    · intro t ht
      exact tkI_cg y5 (fun k k1 k2 => rk k (by omega)) (rk 70 (by omega)) (Nat.le_refl _) (I7 t ht)
    · unfold bdI
      rw [y5, rk 60 (by omega)]
      exact I8
end BUS
