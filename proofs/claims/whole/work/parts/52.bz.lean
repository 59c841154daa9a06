theorem KR.tr {R3 R2 R : Nat → Nat → Int32} (h1 : KR R3 R2) (h2 : KR R2 R) : KR R3 R := fun k => (h1 k).elim Or.inl (fun e => (h2 k).elim Or.inl (fun e2 => Or.inr (e.trans e2)))
def clO (b : Nat → Int32) (L : Nat) (A : aT) (F : Nat → Int32) (R : Nat → Nat → Int32) (F2 : Nat → Int32) (tl2 : Int64) (R2 : Nat → Nat → Int32) (NL2 : Nat → Int64) : Prop := KF F2 F ∧ KR R2 R ∧ match apClose b L A with
  | .inl e => F2 7 = nI e.1 ∧ F2 8 = nI e.2
  | .inr A2 => F2 8 = F 8 ∧ wfA L A2 ∧ A.1 < A2.1 ∧ IR b L A2 F2 tl2 R2 NL2
theorem clO_l {b : Nat → Int32} {L : Nat} {A : aT} {F F2 : Nat → Int32} {R R2 : Nat → Nat → Int32} {tl2 : Int64} {NL2 : Nat → Int64} {e : Nat × Nat} (h : apClose b L A = .inl e) (h1 : KF F2 F) (h2 : KR R2 R) (h3 : F2 7 = nI e.1) (h4 : F2 8 = nI e.2) : clO b L A F R F2 tl2 R2 NL2 := by
  refine ⟨h1, h2, ?_⟩
  rw [h]
  exact ⟨h3, h4⟩
theorem clO_r {b : Nat → Int32} {L : Nat} {A A2 : aT} {F F2 : Nat → Int32} {R R2 : Nat → Nat → Int32} {tl2 : Int64} {NL2 : Nat → Int64} (h : apClose b L A = .inr A2) (h1 : KF F2 F) (h2 : KR R2 R) (h3 : F2 8 = F 8) (h4 : wfA L A2) (h5 : A.1 < A2.1) (h6 : IR b L A2 F2 tl2 R2 NL2) : clO b L A F R F2 tl2 R2 NL2 := by
  refine ⟨h1, h2, ?_⟩
  rw [h]
  exact ⟨h3, h4, h5, h6⟩
theorem te_iff {b : Nat → Int32} {L p : Nat} {F : Nat → Int32} {tl : Int64} (T : tokS b L p F tl) (hp : p ≤ L) : F 4 = 0 ↔ kd b L p = 15 := by
  obtain ⟨-, -, t4, -, -⟩ := T
  rw [t4]
  rcases tk_all (b := b) hp with ⟨h1, h2⟩ | ⟨w, h0, h1, h2, -⟩ | ⟨h1, h2, -⟩ | ⟨h1, h2, -⟩ | ⟨c', h1, h2, h3⟩ | ⟨h1, h2⟩
  · rw [h2, h1]; exact ⟨fun _ => rfl, fun _ => rfl⟩
  · rw [h2, h1]; exact ⟨fun h => absurd h (by decide), fun h => by omega⟩
  · rw [h2, h1]; exact ⟨fun h => absurd h (by decide), fun h => absurd h (by decide)⟩
  · rw [h2, h1]; exact ⟨fun h => absurd h (by decide), fun h => absurd h (by decide)⟩
  · rw [h2]; exact ⟨fun h => absurd h (by decide), fun h => by omega⟩
  · rw [h2, h1]; exact ⟨fun h => absurd h (by decide), fun h => absurd h (by decide)⟩
section BZ
variable {G : wG} {m : Nat} {F : Nat → Int32} {tl : Int64} {R : Nat → Nat → Int32} {NL : Nat → Int64} {h0 : Nat → Option wE} {sz : Nat}
theorem c9_closesA {x : Int32} {b : Nat → Int32} {L : Nat} {A : aT} (hL : x = nI L) (hL2 : L ≤ 300) (hw : wfA L A) (hI : IR b L A F tl R NL) (hne : A.2.2.2.2.2.2.1 ≠ []) (h12k : kd b L A.1 = 12) : Sat G mX9_closes [.ref m, .int x] (mh m F tl R NL h0, sz) (fun v h2 => v = none ∧ ∃ (F2 : Nat → Int32) (tl2 : Int64) (R2 : Nat → Nat → Int32) (NL2 : Nat → Int64), h2 = (mh m F2 tl2 R2 NL2 h0, sz) ∧ clO b L A F R F2 tl2 R2 NL2) := by
  obtain ⟨p, s, c, f, ns, cur, Γ, ro, du, ey⟩ := A
  cases Γ with
  | nil => exact absurd rfl hne
  | cons fr Γ =>
    obtain ⟨κ, y, out, fst⟩ := fr
    have hcl := (code_le hw).1
    have hw0 := hw
    have hI0 := hI
    obtain ⟨w1, w2, w3, w4, w5, w6, w7, w8, w9, w10, w11, w12⟩ := hw
    obtain ⟨v1, v2, v3, v4, v5, v6⟩ := w5
    obtain ⟨h1, h2, h3, h4, h5, h6, h7, h8, h9, h10, h11, h12, h13, h14⟩ := hI
    obtain ⟨f1, f2, f3, f4, f5, f6⟩ := h11
    obtain ⟨s1, s2, s3, s4, s5, s6⟩ := h13
    have a0 := ad_lt (b := b) w1 (by dsimp only at h12k; omega)
    have a1 := (ad_le (b := b) w1).2
    have a2 := (ad_le (b := b) a1).2
    have a3 := (ad_le (b := b) a2).2
    have b1 := (ad_le (b := b) a1).1
    have b2 := (ad_le (b := b) a2).1
    have w6' : Γ.length + 1 ≤ 4 := w6
    dsimp only [List.length_cons] at hcl
    have hκ : κ = 1 ∨ κ = 2 ∨ κ = 3 ∨ κ = 4 ∨ κ = 5 := by omega
    rcases hκ with rfl | rfl | rfl | rfl | rfl
    · have hz : kR ((1, y, out, fst) :: Γ) = kR Γ + szR out + 1 := rfl
      rw [hz] at hcl h7
      by_cases e1 : kd b L (ad b L p) = 11
      · have ha : apClose b L (p, s, c, f, ns, cur, (1, y, out, fst) :: Γ, ro, du, ey) = .inr (ad b L (ad b L p), s, c, f, ns, tSkip, (2, y, out, cur) :: Γ, ro, du, ey) := by
          show sb (nd b L 11 (ad b L p)) _ = _
          rw [nd, if_pos e1]; rfl
        refine Sat.mono (c9_closes1K (cd := kR Γ + szR out) (k := kR Γ + szR out + 1 + szR cur) (e := Γ.length) h1 hL hL2 w1 h2 h3 h7 (by omega) h8 (by omega) s3 (by omega) s2 e1) (fun v h2 q => ⟨q.1, _, _, _, _, q.2, ?_⟩)
        exact clO_r ha (by repeat with_reducible first | exact KF.rf | apply KF.nx | apply KF.up (by decide)) (by repeat with_reducible first | exact KR.rf | apply KR.em | apply KR.op | apply KR.up (by decide)) rfl (ap_c1 (b := b) hw0 a2) (by show p < ad b L (ad b L p); omega) (ir_c1 hw0 hI0 rfl rfl a2 (fun j j1 j2 j3 j4 j5 j6 => by simp [upd, nxF, j1, j2, j3, j4, j5, j6]) (by simp [upd]))
      · have ha : apClose b L (p, s, c, f, ns, cur, (1, y, out, fst) :: Γ, ro, du, ey) = .inl (1, nS b L (ad b L p)) := by
          show sb (nd b L 11 (ad b L p)) _ = _
          rw [nd, if_neg e1]; rfl
        refine Sat.mono (c9_closes1B (cd := kR Γ + szR out) (k := kR Γ + szR out + 1 + szR cur) (e := Γ.length) h1 hL hL2 w1 h2 h3 h7 (by omega) h8 (by omega) s3 (by omega) s2 e1) (fun v h2 q => ⟨q.1, _, _, _, _, q.2, ?_⟩)
        exact clO_l ha (by repeat with_reducible first | exact KF.rf | apply KF.nx | apply KF.up (by decide)) (by repeat with_reducible first | exact KR.rf | apply KR.em | apply KR.op | apply KR.up (by decide)) rfl rfl
    · have hz : kR ((2, y, out, fst) :: Γ) = kR Γ + szR out + (szR fst + 2) := rfl
      rw [hz] at hcl h7
      have ha : apClose b L (p, s, c, f, ns, cur, (2, y, out, fst) :: Γ, ro, du, ey) = .inr (ad b L p, s, c, f, ns, tSeq out (tBo y fst cur), Γ, ro, du, ey) := rfl
      obtain ⟨⟨f6a, f6b, f6c, f6d⟩, f6e, f6f, f6g⟩ := f4 rfl
      refine Sat.mono (c9_closes2 (cd := kR Γ + szR out) (j := kR Γ + szR out + szR fst + 1) (k := kR Γ + szR out + szR fst + 1 + 1 + szR cur) (e := Γ.length) h1 hL hL2 w1 h2 h3 (by rw [h7]; congr 1) (by omega) h8 (by omega) s3 (by omega) s2 (by omega) f6d (by omega)) (fun v h2 q => ⟨q.1, _, _, _, _, q.2, ?_⟩)
      exact clO_r ha (by repeat with_reducible first | exact KF.rf | apply KF.nx | apply KF.up (by decide)) (by repeat with_reducible first | exact KR.rf | apply KR.em | apply KR.op | apply KR.up (by decide)) rfl (ap_c2 hw0 a1) a0 (ir_c2 hw0 hI0 rfl rfl rfl a1)
    · have hz : kR ((3, y, out, fst) :: Γ) = kR Γ + szR out + 1 := rfl
      rw [hz] at hcl h7
      by_cases e1 : kd b L (ad b L p) = 6
      · by_cases e2 : kd b L (ad b L (ad b L p)) = 11
        · have ha : apClose b L (p, s, c, f, ns, cur, (3, y, out, fst) :: Γ, ro, du, ey) = .inr (ad b L (ad b L (ad b L p)), s, c, f, ns, tSkip, (4, y, out, cur) :: Γ, ro, du, ey) := by
            show sb (nd b L 6 (ad b L p)) _ = _
            rw [nd, if_pos e1, sb_r, nd, if_pos e2]; rfl
          refine Sat.mono (c9_closes3K (cd := kR Γ + szR out) (k := kR Γ + szR out + 1 + szR cur) (e := Γ.length) h1 hL hL2 w1 h2 h3 h7 (by omega) h8 (by omega) s3 (by omega) s2 e1 e2) (fun v h2 q => ⟨q.1, _, _, _, _, q.2, ?_⟩)
          exact clO_r ha (by repeat with_reducible first | exact KF.rf | apply KF.nx | apply KF.up (by decide)) (by repeat with_reducible first | exact KR.rf | apply KR.em | apply KR.op | apply KR.up (by decide)) rfl (ap_c3 (b := b) hw0 a3) (by show p < ad b L (ad b L (ad b L p)); omega) (ir_c3 hw0 hI0 rfl rfl a3 (fun j j1 j2 j3 j4 j5 j6 => by simp [upd, nxF, j1, j2, j3, j4, j5, j6]) (by simp [upd, nxF]))
        · have ha : apClose b L (p, s, c, f, ns, cur, (3, y, out, fst) :: Γ, ro, du, ey) = .inl (1, nS b L (ad b L (ad b L p))) := by
            show sb (nd b L 6 (ad b L p)) _ = _
            rw [nd, if_pos e1, sb_r, nd, if_neg e2]; rfl
          refine Sat.mono (c9_closes3B2 (cd := kR Γ + szR out) (k := kR Γ + szR out + 1 + szR cur) (e := Γ.length) h1 hL hL2 w1 h2 h3 h7 (by omega) h8 (by omega) s3 (by omega) s2 e1 e2) (fun v h2 q => ⟨q.1, _, _, _, _, q.2, ?_⟩)
          exact clO_l ha (by repeat with_reducible first | exact KF.rf | apply KF.nx | apply KF.up (by decide)) (by repeat with_reducible first | exact KR.rf | apply KR.em | apply KR.op | apply KR.up (by decide)) rfl rfl
      · have ha : apClose b L (p, s, c, f, ns, cur, (3, y, out, fst) :: Γ, ro, du, ey) = .inl (1, nS b L (ad b L p)) := by
          show sb (nd b L 6 (ad b L p)) _ = _
          rw [nd, if_neg e1]; rfl
        refine Sat.mono (c9_closes3B1 (cd := kR Γ + szR out) (k := kR Γ + szR out + 1 + szR cur) (e := Γ.length) h1 hL hL2 w1 h2 h3 h7 (by omega) h8 (by omega) s3 (by omega) s2 e1) (fun v h2 q => ⟨q.1, _, _, _, _, q.2, ?_⟩)
        exact clO_l ha (by repeat with_reducible first | exact KF.rf | apply KF.nx | apply KF.up (by decide)) (by repeat with_reducible first | exact KR.rf | apply KR.em | apply KR.op | apply KR.up (by decide)) rfl rfl
    · have hz : kR ((4, y, out, fst) :: Γ) = kR Γ + szR out + (szR fst + 2) := rfl
      rw [hz] at hcl h7
      have ha : apClose b L (p, s, c, f, ns, cur, (4, y, out, fst) :: Γ, ro, du, ey) = .inr (ad b L p, s, c, f, ns, tSeq out (tIf y fst cur), Γ, ro, du, ey) := rfl
      refine Sat.mono (c9_closes4 (cd := kR Γ + szR out + szR fst + 1) (k := kR Γ + szR out + (szR fst + 2) + szR cur) (e := Γ.length) h1 hL hL2 w1 h2 h3 h7 (by omega) h8 (by omega) s3 (by omega) s2) (fun v h2 q => ⟨q.1, _, _, _, _, q.2, ?_⟩)
      exact clO_r ha (by repeat with_reducible first | exact KF.rf | apply KF.nx | apply KF.up (by decide)) (by repeat with_reducible first | exact KR.rf | apply KR.em | apply KR.op | apply KR.up (by decide)) rfl (ap_c4 hw0 a1) a0 (ir_c4 hw0 hI0 rfl a1)
    · have hz : kR ((5, y, out, fst) :: Γ) = kR Γ + szR out + 0 := rfl
      rw [hz] at hcl h7
      have hd : R 38 (Γ.length + 1) = wb (hdT cur) := h14
      by_cases e1 : hdT cur = true
      · have ha : apClose b L (p, s, c, f, ns, cur, (5, y, out, fst) :: Γ, ro, du, ey) = .inr (ad b L p, s, c, f, ns, tSeq out (tAg y cur), Γ, ro, du, ey) := if_pos e1
        refine Sat.mono (c9_closes5 (cd := kR Γ + szR out) (k := kR Γ + szR out + szR cur) (e := Γ.length) h1 hL hL2 w1 h2 h3 h7 (by omega) h8 (by omega) s3 (by omega) s2 (by rw [hd, e1]; decide)) (fun v h2 q => ⟨q.1, _, _, _, _, q.2, ?_⟩)
        exact clO_r ha (by repeat with_reducible first | exact KF.rf | apply KF.nx | apply KF.up (by decide)) (by repeat with_reducible first | exact KR.rf | apply KR.em | apply KR.op | apply KR.up (by decide)) rfl (ap_c5 hw0 e1 a1) a0 (ir_c5 hw0 hI0 rfl rfl a1)
      · have ha : apClose b L (p, s, c, f, ns, cur, (5, y, out, fst) :: Γ, ro, du, ey) = .inl (5, nS b L p) := if_neg e1
        have h23 : F 3 = nI (nS b L p) := h2.2.1
        refine Sat.mono (c9_closes5F (cd := kR Γ + szR out) (k := kR Γ + szR out + szR cur) (e := Γ.length) h1 hL hL2 w1 h2 h3 h7 (by omega) h8 (by omega) s3 (by omega) s2 (by rw [hd]; exact wb_eq0.mpr (by cases hb : hdT cur with | false => rfl | true => exact absurd hb e1))) (fun v h2 q => ⟨q.1, _, _, _, _, q.2, ?_⟩)
        exact clO_l ha (by repeat with_reducible first | exact KF.rf | apply KF.nx | apply KF.up (by decide)) (by repeat with_reducible first | exact KR.rf | apply KR.em | apply KR.op | apply KR.up (by decide)) rfl h23
end BZ
