theorem apClose_wf {b : Nat → Int32} {L : Nat} {A A2 : aT} (hw : wfA L A) (hk : kd b L A.1 = 12) (h : apClose b L A = .inr A2) : wfA L A2 ∧ A.1 < A2.1 := by
  obtain ⟨p, s, c, f, ns, cur, Γ, ro, du, ey⟩ := A
  have w1 : p ≤ L := hw.1
  have a0 := ad_lt (b := b) w1 (by dsimp only at hk; omega)
  have a1 := (ad_le (b := b) w1).2
  have a2 := ad_le (b := b) a1
  have a3 := ad_le (b := b) a2.2
  cases Γ with
  | nil => cases h
  | cons fr Γ =>
    obtain ⟨κ, x, out, fst⟩ := fr
    have v2 : 1 ≤ κ ∧ κ ≤ 5 := hw.2.2.2.2.1.2.1
    have hκ : κ = 1 ∨ κ = 2 ∨ κ = 3 ∨ κ = 4 ∨ κ = 5 := by omega
    rcases hκ with rfl | rfl | rfl | rfl | rfl
    · have h : sb (nd b L 11 (ad b L p)) (fun q => .inr ((q, s, c, f, ns, tSkip, (2, x, out, cur) :: Γ, ro, du, ey) : aT)) = .inr A2 := h
      obtain ⟨q, e1, h⟩ := sb_inv h
      cases h
      have := (nd_inv e1).2
      subst this
      exact ⟨ap_c1 (b := b) hw a2.2, by show p < ad b L (ad b L p); omega⟩
    · cases h
      exact ⟨ap_c2 hw a1, a0⟩
    · have h : sb (nd b L 6 (ad b L p)) (fun q1 => sb (nd b L 11 q1) fun q => .inr ((q, s, c, f, ns, tSkip, (4, x, out, cur) :: Γ, ro, du, ey) : aT)) = .inr A2 := h
      obtain ⟨q1, e1, h⟩ := sb_inv h
      obtain ⟨q, e2, h⟩ := sb_inv h
      cases h
      have z1 := (nd_inv e1).2
      subst z1
      have z2 := (nd_inv e2).2
      subst z2
      exact ⟨ap_c3 (b := b) hw a3.2, by show p < ad b L (ad b L (ad b L p)); omega⟩
    · cases h
      exact ⟨ap_c4 hw a1, a0⟩
    · have h : (if hdT cur = true then (.inr ((ad b L p, s, c, f, ns, tSeq out (tAg x cur), Γ, ro, du, ey) : aT) : (Nat × Nat) ⊕ aT) else .inl (5, nS b L p)) = .inr A2 := h
      split at h
      · rename_i hh
        cases h
        exact ⟨ap_c5 hw hh a1, a0⟩
      · cases h
section IC3
variable {G : wG} {Λ : wL} {r t d mr mt md L : Nat} {F : Nat → Nat → Int32} {O : Nat → Nat → Option Nat} {R : Nat → Nat → Nat → Int32} {h0 : Nat → Option wE} {sz : Nat} {X : cX}
theorem c3_closesA (J : hJ Λ r t d F O R L mr mt md) {A : aT} (hw : wfA L A) (hI : IC A X) (hne : A.2.2.2.2.2.2.1 ≠ []) : Sat G mX3_closeSteps [.ref mr] (hX Λ r t d F O R h0 L X, sz) (fun v h2 => v = none ∧ ∃ X2 : cX, h2 = (hX Λ r t d F O R h0 L X2, sz) ∧ match apClose (R t 0) L A with
    | .inl e => Dd e X2 ∧ X2.2.1 4 = 0
    | .inr A2 => IC A2 X2) := by
  obtain ⟨p, s, c, f, ns, cur, Γ, ro, du, ey⟩ := A
  cases Γ with
  | nil => exact absurd rfl hne
  | cons fr Γ =>
    obtain ⟨κ, y, out, fst⟩ := fr
    have hcl := (code_le hw).2
    have hw0 := hw
    have hI0 := hI
    obtain ⟨w1, w2, w3, w4, w5, w6, w7, w8, w9, w10, w11, w12⟩ := hw
    obtain ⟨v1, v2, v3, v4, v5, v6⟩ := w5
    obtain ⟨h1, h2, h3, h4, h5, h6, h7, h8, h9, h10, h11, h12, h13, h14, h15, h16⟩ := hI
    obtain ⟨s1, s2, s3, s4, s5, s6⟩ := h15
    have he : Γ.length < 4 := by have : Γ.length + 1 ≤ 4 := w6; omega
    dsimp only [List.length_cons] at hcl
    have hp : X.1 ≤ L := by rw [h1]; exact w1
    have h16' : X.2.2.2.1 13 (Γ.length + 1) = wb (hdT cur) := h16
    have a1 := (ad_le (b := R t 0) hp).2
    subst h1
    have h6' : X.2.1 7 = nI (Γ.length + 1) := h6
    have hκ : κ = 1 ∨ κ = 2 ∨ κ = 3 ∨ κ = 4 ∨ κ = 5 := by omega
    rcases hκ with rfl | rfl | rfl | rfl | rfl
    · have hz : kC ((1, y, out, fst) :: Γ) = kC Γ + szC out + 1 := rfl
      rw [hz] at hcl h10
      refine Sat.mono (c3_closeT (X := X) J he h6' (by rw [s2]; decide) (by rw [s4]; decide) (fun x hx => c3_turn4 (l := kC Γ + szC out + 1 + szC cur) (h := kC Γ + szC out) (e := Γ.length) J hp hx he h6' h10 (by omega) s3 (by omega) s2)) ?_
      cases hd : nd (R t 0) L 11 (ad (R t 0) L X.1) with
      | inl e =>
        have ha : apClose (R t 0) L (X.1, s, c, f, ns, cur, (1, y, out, fst) :: Γ, ro, du, ey) = .inl e := by
          show sb (nd (R t 0) L 11 (ad (R t 0) L X.1)) _ = _
          rw [hd]; rfl
        exact fun v h2 q => ⟨q.1, _, q.2, by rw [ha]; exact ⟨Dd_rw (Dd_rw (Dd_rw (Dd_am (ndX_l (X := rwX 10 Γ.length (nI (kC Γ + szC out + 1 + szC cur)) (adX 5 (X.2.2.2.2 5 (kC Γ + szC out)) 0 0 (tkX (R t 0) L X))) (by assumption) hd)))), ((ndX_P (b := R t 0) (k := 11) (X := rwX 10 Γ.length (nI (kC Γ + szC out + 1 + szC cur)) (adX 5 (X.2.2.2.2 5 (kC Γ + szC out)) 0 0 (tkX (R t 0) L X))) a1).2.2.1 4 (by decide) (by decide)).trans h4⟩⟩
      | inr z =>
        have ha : apClose (R t 0) L (X.1, s, c, f, ns, cur, (1, y, out, fst) :: Γ, ro, du, ey) = .inr (z, s, c, f, ns, tSkip, (2, y, out, cur) :: Γ, ro, du, ey) := by
          show sb (nd (R t 0) L 11 (ad (R t 0) L X.1)) _ = _
          rw [hd]; rfl
        rw [ndX_r (X := rwX 10 Γ.length (nI (kC Γ + szC out + 1 + szC cur)) (adX 5 (X.2.2.2.2 5 (kC Γ + szC out)) 0 0 (tkX (R t 0) L X))) hd]
        exact fun v h2 q => ⟨q.1, _, q.2, by rw [ha]; exact ic_c1 (q0 := ad (R t 0) L X.1) hw0 hI0 rfl rfl⟩
    · have hz : kC ((2, y, out, fst) :: Γ) = kC Γ + szC out + (szC fst + 2) := rfl
      rw [hz] at hcl h10
      have h10' : X.2.2.1 3 = nI (kC Γ + szC out + szC fst + 1 + 1 + szC cur) := by rw [h10]; congr 1
      have ha : apClose (R t 0) L (X.1, s, c, f, ns, cur, (2, y, out, fst) :: Γ, ro, du, ey) = .inr (ad (R t 0) L X.1, s, c, f, ns, tSeq out (tBo y fst cur), Γ, ro, du, ey) := rfl
      have s6' := s6 (Or.inl rfl)
      refine Sat.mono (Q := Det none (hX Λ r t d F O R h0 L (amX (kC Γ + szC out + szC fst + 1) (nI (kC Γ + szC out + szC fst + 1 + 1 + szC cur + 1)) (if (hdT fst || hdT cur) = true then hdX Γ.length (adX 5 (X.2.2.2.2 5 (kC Γ + szC out)) 0 (nI (kC Γ + szC out + szC fst + 1 + 1 + szC cur + 1)) (opeX (nI Γ.length) (ad (R t 0) L X.1, X.2))) else (adX 5 (X.2.2.2.2 5 (kC Γ + szC out)) 0 (nI (kC Γ + szC out + szC fst + 1 + 1 + szC cur + 1)) (opeX (nI Γ.length) (ad (R t 0) L X.1, X.2))))), sz)) ?_ (fun v h2 q => ⟨q.1, _, q.2, by rw [ha]; exact ic_c2 hw0 hI0 rfl rfl rfl rfl⟩)
      refine c3_closeS (X := X) J he h6' (by rw [s2]; decide) (by rw [s4]; decide) (fun x hx => ?_)
      cases b1 : hdT fst with
      | true =>
        have z := c3_second412 (G := G) (h0 := h0) (sz := sz) (l := kC Γ + szC out + szC fst + 1 + 1 + szC cur) (h := kC Γ + szC out) (e := Γ.length) J hp hx he h6' h10' (by omega) s3 (by omega) (j := kC Γ + szC out + szC fst + 1) s6'.1 (by omega) s2 (by rw [s6'.2, b1]; decide)
        exact z
      | false =>
        cases b2 : hdT cur with
        | true =>
          have z := c3_second401 (G := G) (h0 := h0) (sz := sz) (l := kC Γ + szC out + szC fst + 1 + 1 + szC cur) (h := kC Γ + szC out) (e := Γ.length) J hp hx he h6' h10' (by omega) s3 (by omega) (j := kC Γ + szC out + szC fst + 1) s6'.1 (by omega) s2 (by rw [s6'.2, b1]; rfl) (by rw [h16', b2]; decide)
          exact z
        | false =>
          have z := c3_second400 (G := G) (h0 := h0) (sz := sz) (l := kC Γ + szC out + szC fst + 1 + 1 + szC cur) (h := kC Γ + szC out) (e := Γ.length) J hp hx he h6' h10' (by omega) s3 (by omega) (j := kC Γ + szC out + szC fst + 1) s6'.1 (by omega) s2 (by rw [s6'.2, b1]; rfl) (by rw [h16', b2]; rfl)
          exact z
    · have hz : kC ((3, y, out, fst) :: Γ) = kC Γ + szC out + 1 := rfl
      rw [hz] at hcl h10
      refine Sat.mono (c3_closeT (X := X) J he h6' (by rw [s2]; decide) (by rw [s4]; decide) (fun x hx => c3_turn5 (l := kC Γ + szC out + 1 + szC cur) (h := kC Γ + szC out) (e := Γ.length) J hp hx he h6' h10 (by omega) s3 (by omega) s2)) ?_
      cases hd : nd (R t 0) L 6 (ad (R t 0) L X.1) with
      | inl e =>
        have ha : apClose (R t 0) L (X.1, s, c, f, ns, cur, (3, y, out, fst) :: Γ, ro, du, ey) = .inl e := by
          show sb (nd (R t 0) L 6 (ad (R t 0) L X.1)) _ = _
          rw [hd]; rfl
        have hD := ndX_l (X := tkX (R t 0) L X) (by assumption) hd
        have P6 := ndX_P (b := R t 0) (k := 6) (X := tkX (R t 0) L X) a1
        have P11 := ndX_P (b := R t 0) (k := 11) (X := rwX 10 Γ.length (nI (kC Γ + szC out + 1 + szC cur)) (adX 3 0 0 0 (ndX (R t 0) L 6 (tkX (R t 0) L X)))) P6.1
        have hD2 := Dd_P (nd_f hd) (Dd_rw (k := 10) (j := Γ.length) (v := nI (kC Γ + szC out + 1 + szC cur)) (Dd_ad (r := 3) (h := 0) (y := 0) (z := 0) hD)) P11
        exact fun v h2 q => ⟨q.1, _, q.2, by rw [ha]; exact ⟨Dd_rw (Dd_rw (Dd_rw (Dd_am hD2))), (P11.2.2.1 4 (by decide) (by decide)).trans ((P6.2.2.1 4 (by decide) (by decide)).trans h4)⟩⟩
      | inr z1 =>
        rw [ndX_r (X := tkX (R t 0) L X) hd]
        cases hd2 : nd (R t 0) L 11 z1 with
        | inl e =>
          have ha : apClose (R t 0) L (X.1, s, c, f, ns, cur, (3, y, out, fst) :: Γ, ro, du, ey) = .inl e := by
            show sb (nd (R t 0) L 6 (ad (R t 0) L X.1)) _ = _
            rw [hd, sb_r, hd2]; rfl
          exact fun v h2 q => ⟨q.1, _, q.2, by rw [ha]; exact ⟨Dd_rw (Dd_rw (Dd_rw (Dd_am (ndX_l (X := rwX 10 Γ.length (nI (kC Γ + szC out + 1 + szC cur)) (adX 3 0 0 0 (z1, (tkX (R t 0) L X).2))) (by assumption) hd2)))), ((ndX_P (b := R t 0) (k := 11) (X := rwX 10 Γ.length (nI (kC Γ + szC out + 1 + szC cur)) (adX 3 0 0 0 (z1, (tkX (R t 0) L X).2))) (by show z1 ≤ L; rw [(nd_inv hd).2]; exact (ad_le a1).2)).2.2.1 4 (by decide) (by decide)).trans h4⟩⟩
        | inr z =>
          have ha : apClose (R t 0) L (X.1, s, c, f, ns, cur, (3, y, out, fst) :: Γ, ro, du, ey) = .inr (z, s, c, f, ns, tSkip, (4, y, out, cur) :: Γ, ro, du, ey) := by
            show sb (nd (R t 0) L 6 (ad (R t 0) L X.1)) _ = _
            rw [hd, sb_r, hd2]; rfl
          rw [ndX_r (X := rwX 10 Γ.length (nI (kC Γ + szC out + 1 + szC cur)) (adX 3 0 0 0 (z1, (tkX (R t 0) L X).2))) hd2]
          exact fun v h2 q => ⟨q.1, _, q.2, by rw [ha]; exact ic_c3 (q0 := z1) hw0 hI0 rfl rfl⟩
    · have hz : kC ((4, y, out, fst) :: Γ) = kC Γ + szC out + (szC fst + 2) := rfl
      rw [hz] at hcl h10
      have h10' : X.2.2.1 3 = nI (kC Γ + szC out + szC fst + 1 + 1 + szC cur) := by rw [h10]; congr 1
      have ha : apClose (R t 0) L (X.1, s, c, f, ns, cur, (4, y, out, fst) :: Γ, ro, du, ey) = .inr (ad (R t 0) L X.1, s, c, f, ns, tSeq out (tIf y fst cur), Γ, ro, du, ey) := rfl
      have s6' := s6 (Or.inr rfl)
      refine Sat.mono (Q := Det none (hX Λ r t d F O R h0 L (amX (kC Γ + szC out + szC fst + 1) (nI (kC Γ + szC out + szC fst + 1 + 1 + szC cur)) (if (hdT fst && hdT cur) = true then hdX Γ.length (opeX (nI Γ.length) (ad (R t 0) L X.1, X.2)) else (opeX (nI Γ.length) (ad (R t 0) L X.1, X.2)))), sz)) ?_ (fun v h2 q => ⟨q.1, _, q.2, by rw [ha]; exact ic_c4 hw0 hI0 rfl rfl rfl rfl⟩)
      refine c3_closeS (X := X) J he h6' (by rw [s2]; decide) (by rw [s4]; decide) (fun x hx => ?_)
      cases b1 : hdT fst with
      | true =>
        cases b2 : hdT cur with
        | true =>
          have z := c3_second511 (G := G) (h0 := h0) (sz := sz) (l := kC Γ + szC out + szC fst + 1 + 1 + szC cur) (h := kC Γ + szC out) (e := Γ.length) J hp hx he h6' h10' (by omega) s3 (by omega) (j := kC Γ + szC out + szC fst + 1) s6'.1 (by omega) s2 (by rw [s6'.2, b1]; decide) (by rw [h16', b2]; decide)
          exact z
        | false =>
          have z := c3_second510 (G := G) (h0 := h0) (sz := sz) (l := kC Γ + szC out + szC fst + 1 + 1 + szC cur) (h := kC Γ + szC out) (e := Γ.length) J hp hx he h6' h10' (by omega) s3 (by omega) (j := kC Γ + szC out + szC fst + 1) s6'.1 (by omega) s2 (by rw [s6'.2, b1]; decide) (by rw [h16', b2]; rfl)
          exact z
      | false =>
        cases b2 : hdT cur with
        | true =>
          have z := c3_second501 (G := G) (h0 := h0) (sz := sz) (l := kC Γ + szC out + szC fst + 1 + 1 + szC cur) (h := kC Γ + szC out) (e := Γ.length) J hp hx he h6' h10' (by omega) s3 (by omega) (j := kC Γ + szC out + szC fst + 1) s6'.1 (by omega) s2 (by rw [s6'.2, b1]; rfl) (by rw [h16', b2]; decide)
          exact z
        | false =>
          have z := c3_second500 (G := G) (h0 := h0) (sz := sz) (l := kC Γ + szC out + szC fst + 1 + 1 + szC cur) (h := kC Γ + szC out) (e := Γ.length) J hp hx he h6' h10' (by omega) s3 (by omega) (j := kC Γ + szC out + szC fst + 1) s6'.1 (by omega) s2 (by rw [s6'.2, b1]; rfl) (by rw [h16', b2]; rfl)
          exact z
    · have hz : kC ((5, y, out, fst) :: Γ) = kC Γ + szC out + 2 := rfl
      rw [hz] at hcl h10
      cases hh : hdT cur with
      | true =>
        have ha : apClose (R t 0) L (X.1, s, c, f, ns, cur, (5, y, out, fst) :: Γ, ro, du, ey) = .inr (ad (R t 0) L X.1, s, c, f, ns, tSeq out (tAg y cur), Γ, ro, du, ey) := if_pos hh
        refine Sat.mono (c3_closeA (X := X) J he h6' s2 (fun x hx => c3_again1 (l := kC Γ + szC out + 2 + szC cur) (h := kC Γ + szC out + 1) (e := Γ.length) J hp hx he h6' h10 (by omega) s3 (by omega) (by rw [h16', hh]; decide))) ?_
        exact fun v h2 q => ⟨q.1, _, q.2, by rw [ha]; exact ic_c5 (q := ad (R t 0) L X.1) hw0 hI0 rfl rfl⟩
      | false =>
        have ha : apClose (R t 0) L (X.1, s, c, f, ns, cur, (5, y, out, fst) :: Γ, ro, du, ey) = .inl (5, nS (R t 0) L X.1) := if_neg (by rw [hh]; decide)
        refine Sat.mono (c3_closeA (X := X) J he h6' s2 (fun x hx => c3_again0 (l := kC Γ + szC out + 2 + szC cur) (h := kC Γ + szC out + 1) (e := Γ.length) J hp hx he h6' h10 (by omega) s3 (by omega) (by rw [h16', hh]; rfl))) ?_
        exact fun v h2 q => ⟨q.1, _, q.2, by rw [ha]; exact ⟨fl_Dd (by assumption) rfl, ((flX_P (b := R t 0) (k := 5) hp).2.2.1 4 (by decide) (by decide)).trans h4⟩⟩
end IC3
