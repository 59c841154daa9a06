theorem sb_invl {α β : Type} {x : (Nat × Nat) ⊕ α} {f : α → (Nat × Nat) ⊕ β} {e : Nat × Nat} (h : sb x f = .inl e) : x = .inl e ∨ ∃ a, x = .inr a ∧ f a = .inl e := by
  cases x with
  | inl d =>
    have h2 : (Sum.inl d : (Nat × Nat) ⊕ β) = .inl e := h
    cases h2
    exact Or.inl rfl
  | inr a => exact Or.inr ⟨a, rfl, h⟩
def okE (e : Nat × Nat) : Prop := 1 ≤ e.1 ∧ e.1 ≤ 5
theorem nd_f {b : Nat → Int32} {L k p : Nat} {e : Nat × Nat} (h : nd b L k p = .inl e) : okE e := by
  unfold nd at h
  split at h
  · cases h
  · cases h; simp [okE]
theorem nm_f {b : Nat → Int32} {L lo hi p : Nat} {e : Nat × Nat} (h : nm b L lo hi p = .inl e) : okE e := by
  unfold nm at h
  split at h
  · split at h
    · cases h
    · cases h; simp [okE]
  · cases h; simp [okE]
theorem fd_f {b : Nat → Int32} {L p : Nat} {e : Nat × Nat} (h : fd b L p = .inl e) : okE e := by
  unfold fd at h
  split at h
  · cases h
  · cases h; simp [okE]
theorem ey_f {b : Nat → Int32} {L : Nat} {ns : Nat → Nat} {c p : Nat} {e : Nat × Nat} (h : eyP b L ns c p = .inl e) : okE e := by
  unfold eyP at h
  split at h
  · split at h
    · split at h
      · cases h; simp [okE]
      · cases h
    · cases h; simp [okE]
  · cases h
theorem pSet_f {b : Nat → Int32} {L p : Nat} {e : Nat × Nat} (h : pSet b L p = .inl e) : okE e := by
  unfold pSet at h
  rcases sb_invl h with h | ⟨a, -, h⟩
  · exact fd_f h
  rcases sb_invl h with h | ⟨a, -, h⟩
  · exact nm_f h
  rcases sb_invl h with h | ⟨a, -, h⟩
  · exact nd_f h
  cases h
theorem pTst_f {b : Nat → Int32} {L p : Nat} {e : Nat × Nat} (h : pTst b L p = .inl e) : okE e := by
  unfold pTst at h
  rcases sb_invl h with h | ⟨a, -, h⟩
  · exact fd_f h
  rcases sb_invl h with h | ⟨a, -, h⟩
  · exact nd_f h
  rcases sb_invl h with h | ⟨a, -, h⟩
  · exact nm_f h
  rcases sb_invl h with h | ⟨a, -, h⟩
  · exact nd_f h
  cases h
theorem pDo_f {b : Nat → Int32} {L : Nat} {ns : Nat → Nat} {c p : Nat} {e : Nat × Nat} (h : pDo b L ns c p = .inl e) : okE e := by
  unfold pDo at h
  split at h
  · split at h
    · cases h; simp [okE]
    · rcases sb_invl h with h | ⟨a, -, h⟩
      · exact nd_f h
      rcases sb_invl h with h | ⟨a, -, h⟩
      · exact nm_f h
      rcases sb_invl h with h | ⟨a, -, h⟩
      · exact nd_f h
      rcases sb_invl h with h | ⟨a, -, h⟩
      · exact nm_f h
      rcases sb_invl h with h | ⟨a, -, h⟩
      · exact ey_f h
      rcases sb_invl h with h | ⟨a, -, h⟩
      · exact nd_f h
      cases h
  · cases h; simp [okE]
theorem pStep_f {b : Nat → Int32} {L : Nat} {ns : Nat → Nat} {c s d p : Nat} {e : Nat × Nat} (h : pStep b L ns c s d p = .inl e) : okE e := by
  unfold pStep at h
  split at h
  · split at h
    · cases h; simp [okE]
    · split at h
      · rcases sb_invl h with h | ⟨a, -, h⟩
        · exact pDo_f h
        · cases h
      · rcases sb_invl h with h | ⟨a, -, h⟩
        · exact pSet_f h
        · cases h
  · split at h
    · split at h
      · cases h; simp [okE]
      · split at h
        · rcases sb_invl h with h | ⟨a, -, h⟩
          · exact nd_f h
          · cases h
        · rcases sb_invl h with h | ⟨a, -, h⟩
          · exact pTst_f h
          · cases h
    · cases h; simp [okE]
theorem apClose_f {b : Nat → Int32} {L : Nat} {A : aT} {e : Nat × Nat} (h : apClose b L A = .inl e) : okE e := by
  obtain ⟨p, s, c, f, ns, cur, Γ, ro, du, ey⟩ := A
  cases Γ with
  | nil => cases h; simp [okE]
  | cons fr Γ =>
    obtain ⟨κ, x, out, fst⟩ := fr
    unfold apClose at h
    dsimp only at h
    split at h
    · rcases sb_invl h with h | ⟨a, -, h⟩
      · exact nd_f h
      · cases h
    split at h
    · cases h
    split at h
    · rcases sb_invl h with h | ⟨a, -, h⟩
      · exact nd_f h
      rcases sb_invl h with h | ⟨a, -, h⟩
      · exact nd_f h
      · cases h
    split at h
    · cases h
    split at h
    · cases h
    · cases h; simp [okE]
theorem okE_ne {e : Nat × Nat} (h : okE e) : ¬ nI e.1 = 0 := nI_ne0 h.1 (by have := h.2; omega)
/-- what business leaves: v its answer -/
def bzP (res : (Nat × Nat) ⊕ aT) (L : Nat) (F : Nat → Int32) (R : Nat → Nat → Int32) (v : Option Value) (F2 : Nat → Int32) (R2 : Nat → Nat → Int32) : Prop :=
  (∀ k, (k = 2 ∨ k = 3 ∨ k = 4 ∨ k = 6 ∨ k = 7 ∨ k = 8 ∨ k = 9 ∨ k = 10 ∨ k = 11 ∨ k = 12 ∨ k = 13 ∨ k = 14 ∨ k = 23 ∨ k = 24 ∨ k = 25 ∨ k = 33) ∨ F2 k = F k) ∧ (∀ k, (15 ≤ k ∧ k ≤ 22 ∨ 26 ≤ k ∧ k ≤ 32 ∨ 34 ≤ k ∧ k ≤ 39) ∨ R2 k = R k) ∧ match res with
  | .inl e => v = some (.int (-1)) ∧ F2 9 = nI e.1 ∧ F2 10 = nI e.2 ∧ F2 23 = F 23 ∧ F2 24 = F 24 ∧ F2 25 = F 25 ∧ (∀ k, 26 ≤ k → k ≤ 32 → R2 k = R k)
  | .inr A => v = some (.int (nI A.2.1)) ∧ F2 9 = 0 ∧ F2 10 = -1 ∧ F2 23 = nI A.2.1 ∧ F2 24 = nI A.2.2.1 ∧ F2 25 = nI (szR A.2.2.2.2.2.1) ∧ wfA L A ∧ A.2.2.2.2.2.2.1 = [] ∧ iR (R2 26) (R2 27) (R2 28) (R2 29) A.2.2.2.2.2.1 0 ∧ ∀ i, i < A.2.2.1 → R2 30 i = nI (A.2.2.2.2.2.2.2.1 i) ∧ R2 31 i = nI (A.2.2.2.2.2.2.2.2.1 i) ∧ R2 32 i = A.2.2.2.2.2.2.2.2.2 i
section BZ2
variable {G : wG} {m : Nat} {F : Nat → Int32} {tl : Int64} {R : Nat → Nat → Int32} {NL : Nat → Int64} {h0 : Nat → Option wE} {sz : Nat}
set_option maxHeartbeats 4000000 in
theorem L9_bzF {x : Int32} {L : Nat} {X : wX} {res : (Nat × Nat) ⊕ aT} {Fs : Nat → Int32} {Rs : Nat → Nat → Int32} (h7 : ¬ F 7 = 0) (hq : bzP res L Fs Rs (some (.int (-1))) (upd (upd F 9 (F 7)) 10 (F 8)) R) : WW G mX9_business cX9_business X (wZ G mX9_business X (fun v h2 => ∃ (F2 : Nat → Int32) (tl2 : Int64) (R2 : Nat → Nat → Int32) (NL2 : Nat → Int64), h2 = (mh m F2 tl2 R2 NL2 h0, sz) ∧ bzP res L Fs Rs v F2 R2)) 115 [some (.ref m), some (.int x)] [] (mh m F tl R NL h0, sz) 0 0 := by
  refine ww_aload_n dX9_business_115 rfl rfl ?_
  refine ww_aload_n dX9_business_116 rfl rfl ?_
  refine mm_geti dX9_business_117 fX9_181 rfl rfl ?_
  refine mm_puti dX9_business_120 fX9_13 rfl rfl ?_
  refine ww_aload_n dX9_business_123 rfl rfl ?_
  refine ww_aload_n dX9_business_124 rfl rfl ?_
  refine mm_geti dX9_business_125 fX9_187 rfl rfl ?_
  refine mm_puti dX9_business_128 fX9_17 rfl rfl ?_
  refine ww_aload_n dX9_business_131 rfl rfl ?_
  refine mm_call1 dX9_business_132 kX9_225 rfl c9_isWellB rfl rfl rfl rfl rfl rfl (Nat.zero_le _) (Nat.zero_le _) ?_
  refine ww_if_ne (tgt := 140) dX9_business_135 (by decide) (fun c135 => ?_) (fun c135 => ?_)
  · exact absurd c135 (fun q => q (wb_eq0.mpr (decide_eq_false h7)))
  · refine ww_iconst (v := -1) dX9_business_138 (by decide) ?_
    exact ww_iret dX9_business_139 rfl ⟨_, _, _, _, rfl, hq⟩ (Nat.zero_le _) (Nat.zero_le _)
set_option maxHeartbeats 4000000 in
theorem L9_bzK {x : Int32} {L : Nat} {X : wX} {res : (Nat × Nat) ⊕ aT} {Fs : Nat → Int32} {Rs : Nat → Nat → Int32} (h7 : F 7 = 0) (hq : bzP res L Fs Rs (some (.int (F 11))) (upd (upd (upd (upd (upd F 9 (F 7)) 10 (F 8)) 23 (F 11)) 24 (F 12)) 25 (F 14)) (hld2 40 (hld1 200 R))) : WW G mX9_business cX9_business X (wZ G mX9_business X (fun v h2 => ∃ (F2 : Nat → Int32) (tl2 : Int64) (R2 : Nat → Nat → Int32) (NL2 : Nat → Int64), h2 = (mh m F2 tl2 R2 NL2 h0, sz) ∧ bzP res L Fs Rs v F2 R2)) 115 [some (.ref m), some (.int x)] [] (mh m F tl R NL h0, sz) 0 0 := by
  refine ww_aload_n dX9_business_115 rfl rfl ?_
  refine ww_aload_n dX9_business_116 rfl rfl ?_
  refine mm_geti dX9_business_117 fX9_181 rfl rfl ?_
  refine mm_puti dX9_business_120 fX9_13 rfl rfl ?_
  refine ww_aload_n dX9_business_123 rfl rfl ?_
  refine ww_aload_n dX9_business_124 rfl rfl ?_
  refine mm_geti dX9_business_125 fX9_187 rfl rfl ?_
  refine mm_puti dX9_business_128 fX9_17 rfl rfl ?_
  refine ww_aload_n dX9_business_131 rfl rfl ?_
  refine mm_call1 dX9_business_132 kX9_225 rfl c9_isWellB rfl rfl rfl rfl rfl rfl (Nat.zero_le _) (Nat.zero_le _) ?_
  refine ww_if_ne (tgt := 140) dX9_business_135 (by decide) (fun c135 => ?_) (fun c135 => ?_)
  · refine ww_aload_n dX9_business_140 rfl rfl ?_
    refine mm_call0 dX9_business_141 kX9_299 rfl c9_holds rfl rfl rfl rfl rfl rfl (Nat.zero_le _) (Nat.zero_le _) ?_
    refine ww_aload_n dX9_business_144 rfl rfl ?_
    refine mm_geti dX9_business_145 fX9_46 rfl rfl ?_
    exact ww_iret dX9_business_148 rfl ⟨_, _, _, _, rfl, hq⟩ (Nat.zero_le _) (Nat.zero_le _)
  · exact absurd c135 (fun q => of_decide_eq_false (wb_eq0.mp q) h7)
theorem hld_1 (R : Nat → Nat → Int32) : (∀ j, j < 200 → hld2 40 (hld1 200 R) 26 j = R 15 j ∧ hld2 40 (hld1 200 R) 27 j = R 16 j ∧ hld2 40 (hld1 200 R) 28 j = R 17 j ∧ hld2 40 (hld1 200 R) 29 j = R 18 j) ∧ (∀ j, j < 40 → hld2 40 (hld1 200 R) 30 j = R 20 j ∧ hld2 40 (hld1 200 R) 31 j = R 21 j ∧ hld2 40 (hld1 200 R) 32 j = R 22 j) ∧ (∀ k, ¬ (26 ≤ k ∧ k ≤ 32) → hld2 40 (hld1 200 R) k = R k) := by
  refine ⟨fun j hj => ?_, fun j hj => ?_, fun k hk => ?_⟩
  · refine ⟨?_, ?_, ?_, ?_⟩ <;> simp [hld2, hld1, hj]
  · refine ⟨?_, ?_, ?_⟩ <;> simp [hld2, hld1, hj]
  · have e : ∀ q, 26 ≤ q ∧ q ≤ 32 → ¬ k = q := fun q hq hk2 => hk (by omega)
    simp [hld2, hld1, e 26 (by omega), e 27 (by omega), e 28 (by omega), e 29 (by omega), e 30 (by omega), e 31 (by omega), e 32 (by omega)]
set_option maxHeartbeats 4000000 in
theorem L9_bz {x : Int32} {b : Nat → Int32} {L : Nat} {X : wX} {res : (Nat × Nat) ⊕ aT} {Fs : Nat → Int32} {Rs : Nat → Nat → Int32} (hL : x = nI L) (hL2 : L ≤ 300) : ∀ (n : Nat) (A : aT) (F : Nat → Int32) (tl : Int64) (R : Nat → Nat → Int32) (NL : Nat → Int64), L - A.1 < n → wfA L A → IR b L A F tl R NL → F 8 = -1 → KF F Fs → KR R Rs → apL b L n A = res → WW G mX9_business cX9_business X (wZ G mX9_business X (fun v h2 => ∃ (F2 : Nat → Int32) (tl2 : Int64) (R2 : Nat → Nat → Int32) (NL2 : Nat → Int64), h2 = (mh m F2 tl2 R2 NL2 h0, sz) ∧ bzP res L Fs Rs v F2 R2)) 62 [some (.ref m), some (.int x)] [] (mh m F tl R NL h0, sz) 0 0 := by
  intro n
  induction n with
  | zero => intro A F tl R NL hn; exact absurd hn (by omega)
  | succ n ih =>
    intro A F tl R NL hn hw hI h8 hKF hKR hres
    obtain ⟨p, s, c, f, ns, cur, Γ, ro, du, ey⟩ := A
    have hw0 := hw
    have hI0 := hI
    obtain ⟨w1, w2, w3, w4, w5, w6, w7, w8, w9, w10, w11, w12⟩ := hw
    obtain ⟨i1, i2, i3, i4, i5, i6, i7, i8, i9, i10, i11, i12, i13, i14⟩ := hI
    have hcl := (code_le hw0).1
    dsimp only at hcl hn
    have dead : ∀ (F3 : Nat → Int32) (tl3 : Int64) (R3 : Nat → Nat → Int32) (NL3 : Nat → Int64) (e : Nat × Nat), okE e → res = .inl e → KF F3 F → KR R3 R → F3 7 = nI e.1 → F3 8 = nI e.2 → WW G mX9_business cX9_business X (wZ G mX9_business X (fun v h2 => ∃ (F2 : Nat → Int32) (tl2 : Int64) (R2 : Nat → Nat → Int32) (NL2 : Nat → Int64), h2 = (mh m F2 tl2 R2 NL2 h0, sz) ∧ bzP res L Fs Rs v F2 R2)) 62 [some (.ref m), some (.int x)] [] (mh m F3 tl3 R3 NL3 h0, sz) 0 0 := by
      intro F3 tl3 R3 NL3 e he hr hF3 hR3 h73 h83
      have kF := hF3.tr hKF
      have kR := hR3.tr hKR
      have h7n : ¬ F3 7 = 0 := by rw [h73]; exact okE_ne he
      refine ww_aload_n dX9_business_62 rfl rfl ?_
      refine mm_call1 dX9_business_63 kX9_225 rfl c9_isWellB rfl rfl rfl rfl rfl rfl (Nat.zero_le _) (Nat.zero_le _) ?_
      refine ww_if_eq (tgt := 115) dX9_business_66 (by decide) (fun c66 => ?_) (fun c66 => ?_)
      · refine L9_bzF h7n ?_
        subst hr
        refine ⟨fun k => ?_, fun k => ?_, rfl, ?_, ?_, ?_, ?_, ?_, ?_⟩
        · by_cases z9 : k = 9 ∨ k = 10
          · exact Or.inl (by omega)
          · rcases kF k with q | q
            · exact Or.inl (by omega)
            · exact Or.inr (((upd_gt (by omega)).trans (upd_gt (by omega))).trans q)
        · exact (kR k).elim (fun q => Or.inl (by omega)) Or.inr
        · exact h73
        · exact h83
        · exact (kF 23).resolve_left (by decide)
        · exact (kF 24).resolve_left (by decide)
        · exact (kF 25).resolve_left (by decide)
        · exact fun k k1 k2 => (kR k).resolve_left (by omega)
      · exact absurd c66 (fun q => q (wb_eq0.mpr (decide_eq_false h7n)))
    have c4 := te_iff i2 w1
    have c12 := ts_iff i2 i3 w1 (c := 125) (k := 12) (Or.inr (Or.inl ⟨rfl, rfl⟩))
    have cls : kd b L p = 12 → Γ ≠ [] → WW G mX9_business cX9_business X (wZ G mX9_business X (fun v h2 => ∃ (F2 : Nat → Int32) (tl2 : Int64) (R2 : Nat → Nat → Int32) (NL2 : Nat → Int64), h2 = (mh m F2 tl2 R2 NL2 h0, sz) ∧ bzP res L Fs Rs v F2 R2)) 99 [some (.ref m), some (.int x)] [] (mh m F tl R NL h0, sz) 0 0 := by
      intro k12 hne
      have hres2 : sb (apClose b L (p, s, c, f, ns, cur, Γ, ro, du, ey)) (apL b L n) = res := by
        rw [← hres, apL, if_neg (fun q => by have := q.1; dsimp only at this; omega), if_pos ⟨k12, hne⟩]
      refine ww_aload_n dX9_business_99 rfl rfl ?_
      refine ww_iload_n dX9_business_100 rfl rfl ?_
      refine mm_call dX9_business_101 kX9_293 rfl (c9_closesA (A := (p, s, c, f, ns, cur, Γ, ro, du, ey)) hL hL2 hw0 hI0 hne k12) rfl rfl rfl rfl rfl rfl (Nat.zero_le _) (Nat.zero_le _) (fun v h2 q => ?_)
      obtain ⟨rfl, F2, tl2, R2, NL2, rfl, k1, k2, hm⟩ := q
      refine ww_goto (tgt := 62) dX9_business_104 (by decide) ?_
      cases ha : apClose b L (p, s, c, f, ns, cur, Γ, ro, du, ey) with
      | inl e =>
        rw [ha] at hm hres2
        exact dead F2 tl2 R2 NL2 e (apClose_f ha) hres2.symm k1 k2 hm.1 hm.2
      | inr A2 =>
        rw [ha] at hm hres2
        obtain ⟨m1, m2, m3, m4⟩ := hm
        dsimp only at m3
        have m5 : A2.1 ≤ L := by
          obtain ⟨p2, s2, c2, f2, ns2, cur2, Γ2, ro2, du2, ey2⟩ := A2
          exact m2.1
        exact ih A2 F2 tl2 R2 NL2 (by omega) m2 m4 (m1.trans h8) (k1.tr hKF) (k2.tr hKR) hres2
    have stp : ¬ (kd b L p = 15 ∧ Γ = []) → ¬ (kd b L p = 12 ∧ Γ ≠ []) → WW G mX9_business cX9_business X (wZ G mX9_business X (fun v h2 => ∃ (F2 : Nat → Int32) (tl2 : Int64) (R2 : Nat → Nat → Int32) (NL2 : Nat → Int64), h2 = (mh m F2 tl2 R2 NL2 h0, sz) ∧ bzP res L Fs Rs v F2 R2)) 107 [some (.ref m), some (.int x)] [] (mh m F tl R NL h0, sz) 0 0 := by
      intro k15 k12
      have hres2 : sb (apStep b L (p, s, c, f, ns, cur, Γ, ro, du, ey)) (apL b L n) = res := by
        rw [← hres, apL, if_neg k15, if_neg k12]
      refine ww_aload_n dX9_business_107 rfl rfl ?_
      refine ww_iload_n dX9_business_108 rfl rfl ?_
      refine mm_call dX9_business_109 kX9_296 rfl (c9_step (b := b) (L := L) (p := p) (c := c) (k := kR Γ + szR cur) (d := Γ.length) (s := s) (ns := ns) i1 hL hL2 w1 i2 i3 i4 w3 i5 w9 (fun i hi => ⟨i9 i hi, (w11 i hi).1⟩) i7 (by omega) i8 w6) rfl rfl rfl rfl rfl rfl (Nat.zero_le _) (Nat.zero_le _) (fun v h2 q => ?_)
      obtain ⟨rfl, F2, tl2, R2, NL2, rfl, hO⟩ := q
      refine ww_goto (tgt := 62) dX9_business_112 (by decide) ?_
      have hO2 := hO
      obtain ⟨k1, k2, hm⟩ := hO
      cases ha : pStep b L ns c s Γ.length p with
      | inl e =>
        have e2 : apStep b L (p, s, c, f, ns, cur, Γ, ro, du, ey) = .inl e := by
          show sb (pStep b L ns c s Γ.length p) _ = _
          rw [ha]; rfl
        rw [ha] at hm
        rw [e2] at hres2
        exact dead F2 tl2 R2 NL2 e (pStep_f ha) hres2.symm k1 k2 hm.1 hm.2
      | inr r =>
        have e2 : apStep b L (p, s, c, f, ns, cur, Γ, ro, du, ey) = .inr (apS b L (p, s, c, f, ns, cur, Γ, ro, du, ey) r) := by
          show sb (pStep b L ns c s Γ.length p) _ = _
          rw [ha]; rfl
        have g := pStep_inv ha w1
        have e3 : (apS b L (p, s, c, f, ns, cur, Γ, ro, du, ey) r).1 = r.2.2.2.2 := by
          unfold apS
          dsimp only
          (repeat' split) <;> rfl
        rw [ha] at hm
        rw [e2] at hres2
        have hi2 := ir_step (A := (p, s, c, f, ns, cur, Γ, ro, du, ey)) hw0 hI0 ha hO2
        exact ih _ F2 tl2 R2 NL2 (by rw [e3]; have := g.1; omega) (wfA_step (A := (p, s, c, f, ns, cur, Γ, ro, du, ey)) hw0 ha) hi2 (hm.2.1.trans h8) (k1.tr hKF) (k2.tr hKR) hres2
    refine ww_aload_n dX9_business_62 rfl rfl ?_
    refine mm_call1 dX9_business_63 kX9_225 rfl c9_isWellB rfl rfl rfl rfl rfl rfl (Nat.zero_le _) (Nat.zero_le _) ?_
    refine ww_if_eq (tgt := 115) dX9_business_66 (by decide) (fun c66 => ?_) (fun c66 => ?_)
    · exact absurd c66 (by rw [decide_eq_true i3]; decide)
    · refine ww_aload_n dX9_business_69 rfl rfl ?_
      refine mm_geti dX9_business_70 fX9_197 rfl rfl ?_
      refine ww_if_ne (tgt := 83) dX9_business_73 (by decide) (fun c73 => ?_) (fun c73 => ?_)
      · refine ww_aload_n dX9_business_83 rfl rfl ?_
        refine ww_bipush (v := 125) dX9_business_84 (by decide) ?_
        refine mm_call1 dX9_business_86 kX9_229 rfl c9_isSign rfl rfl rfl rfl rfl rfl (Nat.zero_le _) (Nat.zero_le _) ?_
        refine ww_if_eq (tgt := 107) dX9_business_89 (by decide) (fun c89 => ?_) (fun c89 => ?_)
        · refine stp (fun q => ?_) (fun q => ?_)
          · exact c73 (c4.mpr q.1)
          · have e := wb_eq0.mp c89
            rw [show (125 : Int32) = nI 125 from rfl, c12] at e
            exact of_decide_eq_false e q.1
        · refine ww_aload_n dX9_business_92 rfl rfl ?_
          refine mm_geti dX9_business_93 fX9_251 rfl rfl ?_
          refine ww_if_le (tgt := 107) dX9_business_96 (by decide) (fun c96 => ?_) (fun c96 => ?_)
          · refine stp (fun q => ?_) (fun q => ?_)
            · exact c73 (c4.mpr q.1)
            · have hG := q.2
              cases Γ with
              | nil => exact hG rfl
              | cons a l => exact absurd c96 (by show ¬ F 33 ≤ 0; rw [i8]; exact nI_nle (by simp) (by have := w6; omega))
          · exact cls (by have e := wb_ne0.mp c89; rw [show (125 : Int32) = nI 125 from rfl, c12] at e; exact of_decide_eq_true e) (by intro hG; subst hG; exact c96 (by show F 33 ≤ 0; rw [i8]; decide))
      · refine ww_aload_n dX9_business_76 rfl rfl ?_
        refine mm_geti dX9_business_77 fX9_251 rfl rfl ?_
        refine ww_if_le (tgt := 115) dX9_business_80 (by decide) (fun c80 => ?_) (fun c80 => ?_)
        · have k15 : kd b L p = 15 := c4.mp (by exact c73)
          have hG : Γ = [] := by
            cases Γ with
            | nil => rfl
            | cons a l => exact absurd c80 (by show ¬ F 33 ≤ 0; rw [i8]; exact nI_nle (by simp) (by have := w6; omega))
          have hr : res = .inr (p, s, c, f, ns, cur, Γ, ro, du, ey) := by rw [← hres, apL, if_pos ⟨k15, hG⟩]
          subst hr
          subst hG
          refine L9_bzK i3 ?_
          have H := hld_1 R
          have hz0 : kR [] = 0 := rfl
          rw [hz0] at hcl i7 i12
          refine ⟨fun k => ?_, fun k => ?_, ?_, ?_, ?_, ?_, ?_, ?_, hw0, rfl, ?_, ?_⟩
          · by_cases z9 : k = 9 ∨ k = 10 ∨ k = 23 ∨ k = 24 ∨ k = 25
            · exact Or.inl (by omega)
            · rcases hKF k with q | q
              · exact Or.inl (by omega)
              · exact Or.inr ((((((upd_gt (by omega)).trans (upd_gt (by omega))).trans (upd_gt (by omega))).trans (upd_gt (by omega))).trans (upd_gt (by omega))).trans q)
          · by_cases z9 : 26 ≤ k ∧ k ≤ 32
            · exact Or.inl (by omega)
            · rw [H.2.2 k z9]
              exact (hKR k).elim (fun q => Or.inl (by omega)) Or.inr
          · rw [i4]
          · exact i3
          · exact h8
          · exact i4
          · exact i5
          · refine i7.trans (congrArg nI (Nat.zero_add _))
          · exact iR_cg cur w4.1 0 (fun j j1 j2 => H.1 j (by omega)) i12
          · intro i hi
            have hi : i < c := hi
            have q := H.2.1 i (by omega)
            have q2 := i10 i hi
            exact ⟨q.1.trans q2.1, q.2.1.trans q2.2.1, q.2.2.trans q2.2.2⟩
        · refine ww_aload_n dX9_business_83 rfl rfl ?_
          refine ww_bipush (v := 125) dX9_business_84 (by decide) ?_
          refine mm_call1 dX9_business_86 kX9_229 rfl c9_isSign rfl rfl rfl rfl rfl rfl (Nat.zero_le _) (Nat.zero_le _) ?_
          refine ww_if_eq (tgt := 107) dX9_business_89 (by decide) (fun c89 => ?_) (fun c89 => ?_)
          · refine stp (fun q => ?_) (fun q => ?_)
            · have hG := q.2
              subst hG
              exact c80 (by show F 33 ≤ 0; rw [i8]; decide)
            · have e := wb_eq0.mp c89
              rw [show (125 : Int32) = nI 125 from rfl, c12] at e
              exact of_decide_eq_false e q.1
          · refine ww_aload_n dX9_business_92 rfl rfl ?_
            refine mm_geti dX9_business_93 fX9_251 rfl rfl ?_
            refine ww_if_le (tgt := 107) dX9_business_96 (by decide) (fun c96 => ?_) (fun c96 => ?_)
            · refine stp (fun q => ?_) (fun q => ?_)
              · have hG := q.2
                subst hG
                exact c80 (by show F 33 ≤ 0; rw [i8]; decide)
              · have hG := q.2
                cases Γ with
                | nil => exact hG rfl
                | cons a l => exact absurd c96 (by show ¬ F 33 ≤ 0; rw [i8]; exact nI_nle (by simp) (by have := w6; omega))
            · exact cls (by have e := wb_ne0.mp c89; rw [show (125 : Int32) = nI 125 from rfl, c12] at e; exact of_decide_eq_true e) (by intro hG; subst hG; exact c96 (by show F 33 ≤ 0; rw [i8]; decide))
set_option maxHeartbeats 4000000 in
theorem c9_business {L : Nat} (hL : F 1 = nI L) (hL2 : L ≤ 300) : Sat G mX9_business [.ref m] (mh m F tl R NL h0, sz) (fun v h2 => ∃ (F2 : Nat → Int32) (tl2 : Int64) (R2 : Nat → Nat → Int32) (NL2 : Nat → Int64), h2 = (mh m F2 tl2 R2 NL2 h0, sz) ∧ bzP (apL (R 0) L (L + 1) aT0) L (upd F 1 0) R v F2 R2) := by
  refine Sat.of (by decide) [some (.ref m), none] rfl rfl (fun X => ?_)
  refine ww_aload_n dX9_business_0 rfl rfl ?_
  refine mm_geti dX9_business_1 fX9_170 rfl rfl ?_
  refine ww_istore_n dX9_business_4 rfl rfl rfl ?_
  refine ww_aload_n dX9_business_5 rfl rfl ?_
  refine ww_iconst (v := 0) dX9_business_6 (by decide) ?_
  refine mm_puti dX9_business_7 fX9_170 rfl rfl ?_
  refine ww_aload_n dX9_business_10 rfl rfl ?_
  refine ww_iconst (v := 0) dX9_business_11 (by decide) ?_
  refine mm_puti dX9_business_12 fX9_190 rfl rfl ?_
  refine ww_aload_n dX9_business_15 rfl rfl ?_
  refine ww_iconst (v := 0) dX9_business_16 (by decide) ?_
  refine mm_puti dX9_business_17 fX9_181 rfl rfl ?_
  refine ww_aload_n dX9_business_20 rfl rfl ?_
  refine ww_iconst (v := -1) dX9_business_21 (by decide) ?_
  refine mm_puti dX9_business_22 fX9_187 rfl rfl ?_
  refine ww_aload_n dX9_business_25 rfl rfl ?_
  refine ww_iconst (v := 0) dX9_business_26 (by decide) ?_
  refine mm_puti dX9_business_27 fX9_277 rfl rfl ?_
  refine ww_aload_n dX9_business_30 rfl rfl ?_
  refine ww_iconst (v := 0) dX9_business_31 (by decide) ?_
  refine mm_puti dX9_business_32 fX9_254 rfl rfl ?_
  refine ww_aload_n dX9_business_35 rfl rfl ?_
  refine ww_iconst (v := 0) dX9_business_36 (by decide) ?_
  refine mm_puti dX9_business_37 fX9_286 rfl rfl ?_
  refine ww_aload_n dX9_business_40 rfl rfl ?_
  refine ww_iconst (v := 0) dX9_business_41 (by decide) ?_
  refine mm_puti dX9_business_42 fX9_244 rfl rfl ?_
  refine ww_aload_n dX9_business_45 rfl rfl ?_
  refine ww_iconst (v := 0) dX9_business_46 (by decide) ?_
  refine mm_puti dX9_business_47 fX9_251 rfl rfl ?_
  refine ww_aload_n dX9_business_50 rfl rfl ?_
  refine mm_getr dX9_business_51 fX9_82 rfl ?_
  refine ww_iconst (v := 0) dX9_business_54 (by decide) ?_
  refine ww_iconst (v := 0) dX9_business_55 (by decide) ?_
  refine mm_zast dX9_business_56 rfl (show _ = nI 0 from rfl) (by decide) rfl rfl ?_
  refine ww_aload_n dX9_business_57 rfl rfl ?_
  refine ww_iload_n dX9_business_58 rfl rfl ?_
  refine mm_call0 dX9_business_59 kX9_233 rfl (a9_next (b := R 0) (L := L) (p := 0) rfl hL hL2 rfl (by omega)) rfl rfl rfl rfl rfl rfl (Nat.zero_le _) (Nat.zero_le _) ?_
  refine L9_bz (b := R 0) (L := L) (Fs := upd F 1 0) (Rs := R) hL hL2 (L + 1) aT0 _ _ _ _ (by show L - 0 < L + 1; omega) ?_ ?_ rfl ?_ ?_ rfl
  · exact ⟨Nat.zero_le _, rfl, by decide, gd_skip, trivial, by decide, rfl, rfl, Nat.le_refl _, Nat.le_refl _, fun i hi => absurd hi (by omega), fun i j hi => absurd hi (by omega)⟩
  · exact ⟨rfl, tokS_nx (Nat.zero_le _), rfl, rfl, rfl, rfl, rfl, rfl, fun i hi => absurd hi (by omega), fun i hi => absurd hi (by omega), trivial, trivial, trivial, rfl⟩
  · repeat with_reducible first | exact KF.rf | apply KF.nx | apply KF.up (by decide)
  · exact KR.up (by decide) KR.rf
end BZ2
