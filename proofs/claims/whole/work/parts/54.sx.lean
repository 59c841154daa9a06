/-! the class's parser says what the abstract one says -/
def Dd (e : Nat × Nat) (X : cX) : Prop := X.2.1 1 = nI e.1 ∧ X.2.1 2 = nI e.2
theorem Dd_P {L : Nat} {e : Nat × Nat} {Y X : cX} (he : okE e) (h : Dd e X) (hP : PP L Y X) : Dd e Y := by
  have := hP.2.2.2 (by rw [h.1]; exact okE_ne he)
  exact ⟨this.1.trans h.1, this.2.trans h.2⟩
theorem fl_Dd {b : Nat → Int32} {L k : Nat} {x : Int32} {X : cX} (h : X.2.1 1 = 0) (hx : x = nI k) : Dd (k, nS b L X.1) (flX b L x X) := by
  unfold Dd flX flF
  rw [if_pos h]
  exact ⟨hx, rfl⟩
theorem ndX_r {b : Nat → Int32} {L k : Nat} {X : cX} {q : Nat} (h : nd b L k X.1 = .inr q) : ndX b L k X = (q, X.2) := by
  obtain ⟨h1, h2⟩ := nd_inv h
  rw [ndX, if_pos h1, h2]
theorem ndX_l {b : Nat → Int32} {L k : Nat} {X : cX} {e : Nat × Nat} (h1 : X.2.1 1 = 0) (h : nd b L k X.1 = .inl e) : Dd e (ndX b L k X) := by
  unfold nd at h
  split at h
  · cases h
  · rename_i hn
    cases h
    rw [ndX, if_neg hn]
    exact fl_Dd h1 rfl
theorem nmX_r {b : Nat → Int32} {L lo hi : Nat} {X : cX} {q : Nat × Nat} (h : nm b L lo hi X.1 = .inr q) : nmX b L lo hi X = (q.1, q.2, X.2) := by
  obtain ⟨h1, h2, h3, h4, h5⟩ := nm_inv h
  rw [nmX, if_pos h4, if_pos ⟨by omega, by omega⟩, h1, h5]
theorem nmX_l {b : Nat → Int32} {L lo hi : Nat} {X : cX} {e : Nat × Nat} (h1 : X.2.1 1 = 0) (h : nm b L lo hi X.1 = .inl e) : Dd e (nmX b L lo hi X).2 := by
  unfold nm at h
  split at h
  · rename_i h4
    split at h
    · cases h
    · rename_i hn
      cases h
      rw [nmX, if_pos h4, if_neg hn]
      exact fl_Dd h1 rfl
  · rename_i hn
    cases h
    rw [nmX, if_neg hn]
    exact fl_Dd h1 rfl
theorem fdX_r {b : Nat → Int32} {L : Nat} {X : cX} {q : Nat × Nat} (h : fd b L X.1 = .inr q) : fdX b L X = (q.1, q.2, X.2) := by
  obtain ⟨h1, h2, h3, h4, h5⟩ := fd_inv h
  rw [fdX, if_pos ⟨h3, h4⟩, h1, h5]
theorem fdX_l {b : Nat → Int32} {L : Nat} {X : cX} {e : Nat × Nat} (h1 : X.2.1 1 = 0) (h : fd b L X.1 = .inl e) : Dd e (fdX b L X).2 := by
  unfold fd at h
  split at h
  · cases h
  · rename_i hn
    cases h
    rw [fdX, if_neg hn]
    exact fl_Dd h1 rfl
theorem fsM_some {ns : Nat → Int32} {v : Int32} : ∀ {n k i : Nat}, fsM ns v n k = some i → ns i = v
  | 0, k, i, h => by cases h
  | n + 1, k, i, h => by
    rw [fsM] at h
    split at h
    · cases h; assumption
    · exact fsM_some h
theorem fsM_none {ns : Nat → Int32} {v : Int32} : ∀ {n k : Nat}, fsM ns v n k = none → ∀ i, k ≤ i → i < k + n → ¬ ns i = v
  | 0, k, h, i, h1, h2 => by omega
  | n + 1, k, h, i, h1, h2 => by
    rw [fsM] at h
    split at h
    · cases h
    · rename_i hn
      rcases Nat.lt_or_ge k i with q | q
      · exact fsM_none h i (by omega) (by omega)
      · rw [show i = k by omega]; exact hn
theorem fs_fnd {Rn : Nat → Int32} {ns : Nat → Nat} {v c : Nat} (hn : ∀ i, i < c → Rn i = nI (ns i) ∧ ns i < 2 ^ 30) (hv : v < 2 ^ 30) (hi : ∀ i j, i < c → j < c → ns i = ns j → i = j) : fsM Rn (nI v) c 0 = fnd ns v c := by
  cases hf : fsM Rn (nI v) c 0 with
  | none =>
    cases hg : fnd ns v c with
    | none => rfl
    | some i =>
      obtain ⟨h1, h2⟩ := fnd_lt hg
      exact absurd (by rw [(hn i h1).1, h2]) (fsM_none hf i (by omega) (by omega))
  | some j =>
    have h1 := fsM_lt hf
    have h2 := fsM_some hf
    rw [(hn j (by omega)).1] at h2
    have h3 := (nI_eq (by have := (hn j (by omega)).2; omega) (by omega)).mp h2
    cases hg : fnd ns v c with
    | none => exact absurd h3 (fnd_none hg j (by omega))
    | some i =>
      obtain ⟨h4, h5⟩ := fnd_lt hg
      rw [hi i j h4 (by omega) (by rw [h3, h5])]
theorem Dd_hd {e : Nat × Nat} {o : Nat} {r h y : Int32} {Y : cX} (hd : Dd e Y) : Dd e (hdX o (dX r h y Y)) := ⟨hd.1, hd.2⟩
theorem Dd_ad {e : Nat × Nat} {r h y z : Int32} {Y : cX} (hd : Dd e Y) : Dd e (adX r h y z Y) := ⟨hd.1, hd.2⟩
theorem Dd_op {b : Nat → Int32} {L : Nat} {e : Nat × Nat} {w h : Int32} {Y : cX} (hd : Dd e (ndX b L 11 Y)) : Dd e (opX b L w h Y) := by
  unfold opX
  dsimp only
  exact ⟨(upd_gt (k := 7) (v := nI (opN Y + 1)) (by decide)).trans hd.1, (upd_gt (k := 7) (v := nI (opN Y + 1)) (by decide)).trans hd.2⟩
theorem do_spec {b : Nat → Int32} {L c : Nat} {ns : Nat → Nat} {X : cX} (hp : X.1 ≤ L) (h1 : X.2.1 1 = 0) (hc : X.2.1 5 = nI c) (hc2 : c < 40) (hn : ∀ i, i < c → X.2.2.2.1 6 i = nI (ns i) ∧ ns i < 2 ^ 30) (hinj : ∀ i j, i < c → j < c → ns i = ns j → i = j) :
    (∀ e, pDo b L ns c X.1 = .inl e → Dd e (doX b L X)) ∧ (∀ r, pDo b L ns c X.1 = .inr r → doX b L X = hdX (opN X) (dX (nI r.1) (nI r.2.1) r.2.2.1 (r.2.2.2, upd X.2.1 5 (nI (c + 1)), X.2.2.1, va_up X.2.2.2.1 6 (upd (X.2.2.2.1 6) c (nI (kv b L X.1))), X.2.2.2.2))) := by
  have hT : tdN X = c := by rw [tdN, hc, nI_clamp (by omega)]
  have key : ∀ (Y1 : cX), nnX b L X = Y1 → (∀ e, okE e → Dd e Y1 → Dd e (doX b L X)) := by
    intro Y1 e1 e he hd
    have N1 := nnX_1 (b := b) hp
    have P1 := ndX_P (b := b) (k := 1) N1
    have P2 : PP L (do1X b L X).2 (nnX b L X) := (nmX_P (b := b) (lo := 0) (hi := 5) P1.1).tr P1
    have P3 := (ndX_P (b := b) (k := 2) P2.1).tr P2
    have P4 : PP L (do2X b L (do1X b L X).2).2 (nnX b L X) := (nmX_P (b := b) (lo := 1) (hi := 99) P3.1).tr P3
    have P5 : PP L (do3X b L (do2X b L (do1X b L X).2).2).2 (nnX b L X) := (do3X_P (b := b) P4.1).tr P4
    have P6 := (ndX_P (b := b) (k := 13) P5.1).tr P5
    rw [← e1] at hd
    unfold doX
    exact Dd_hd (Dd_P he hd P6)
  unfold pDo
  by_cases hk : kd b L X.1 = 9 ∧ 2 ≤ kl b L X.1
  · rw [if_pos hk]
    have hkv := tv_9 hk.1 hp
    have hfs := fs_fnd (v := kv b L X.1) hn hkv.2.2 hinj
    cases hf : fnd ns (kv b L X.1) c with
    | some i =>
      dsimp only
      have hnn : nnX b L X = flX b L 2 X := by rw [nnX, if_pos hk, hT, hfs, hf]
      refine ⟨fun e he => ?_, fun r hr => by cases hr⟩
      cases he
      exact key _ hnn _ (by simp [okE]) (fl_Dd h1 rfl)
    | none =>
      dsimp only
      have hnn : nnX b L X = (ad b L X.1, upd X.2.1 5 (nI (c + 1)), X.2.2.1, va_up X.2.2.2.1 6 (upd (X.2.2.2.1 6) c (nI (kv b L X.1))), X.2.2.2.2) := by rw [nnX, if_pos hk, hT, hfs, hf]
      generalize hY1 : ((ad b L X.1, upd X.2.1 5 (nI (c + 1)), X.2.2.1, va_up X.2.2.2.1 6 (upd (X.2.2.2.1 6) c (nI (kv b L X.1))), X.2.2.2.2) : cX) = Y1 at hnn
      have y1p : Y1.1 = ad b L X.1 := by rw [← hY1]
      have y1L : Y1.1 ≤ L := by rw [y1p]; exact (ad_le hp).2
      have y1f : Y1.2.1 1 = 0 := by rw [← hY1]; exact h1
      have y1c : Y1.2.1 5 = nI (c + 1) := by rw [← hY1]; exact w_upd_self X.2.1 5 (nI (c + 1))
      have y1n : ∀ i, i < c + 1 → Y1.2.2.2.1 6 i = nI (va_up ns c (kv b L X.1) i) ∧ va_up ns c (kv b L X.1) i < 2 ^ 30 := by
        intro i hi
        rw [← hY1]
        show upd (X.2.2.2.1 6) c (nI (kv b L X.1)) i = _ ∧ _
        by_cases ei : i = c
        · subst ei
          rw [w_upd_self, w_up_self]
          exact ⟨rfl, hkv.2.2⟩
        · rw [upd_gt ei, w_up_ne _ _ ei]
          exact hn i (by omega)
      have y1j : ∀ i j, i < c + 1 → j < c + 1 → va_up ns c (kv b L X.1) i = va_up ns c (kv b L X.1) j → i = j := by
        intro i j hi hj hij
        by_cases ei : i = c
        · by_cases ej : j = c
          · omega
          · rw [ei, w_up_self, w_up_ne _ _ ej] at hij
            exact absurd hij.symm (fnd_none hf j (by omega))
        · by_cases ej : j = c
          · rw [ej, w_up_self, w_up_ne _ _ ei] at hij
            exact absurd hij (fnd_none hf i (by omega))
          · rw [w_up_ne _ _ ei, w_up_ne _ _ ej] at hij
            exact hinj i j (by omega) (by omega) hij
      have hopn : opN X = opN Y1 := by rw [← hY1]; rfl
      rw [← y1p]
      -- the chain
      unfold doX do1X
      rw [hnn]
      cases h2 : nd b L 1 Y1.1 with
      | inl e2 =>
        refine ⟨fun e he => ?_, fun r hr => by cases hr⟩
        cases he
        have := ndX_l y1f h2
        have P1 := ndX_P (b := b) (k := 1) y1L
        have P2 := nmX_P (b := b) (lo := 0) (hi := 5) P1.1
        have P3 := (ndX_P (b := b) (k := 2) P2.1).tr P2
        have P4 : PP L (do2X b L (nmX b L 0 5 (ndX b L 1 Y1)).2).2 (ndX b L 1 Y1) := (nmX_P (b := b) (lo := 1) (hi := 99) P3.1).tr P3
        have P6 := (ndX_P (b := b) (k := 13) (do3X_P (b := b) P4.1).1).tr ((do3X_P (b := b) P4.1).tr P4)
        exact Dd_hd (Dd_P (nd_f h2) this P6)
      | inr p2 =>
        rw [sb_r, ndX_r h2]
        have a2 : p2 ≤ L := by rw [(nd_inv h2).2]; exact (ad_le y1L).2
        cases h3 : nm b L 0 5 p2 with
        | inl e2 =>
          refine ⟨fun e he => ?_, fun r hr => by cases hr⟩
          cases he
          have := nmX_l (X := (p2, Y1.2)) y1f h3
          have P2 := nmX_P (b := b) (lo := 0) (hi := 5) (X := (p2, Y1.2)) a2
          have P3 := ndX_P (b := b) (k := 2) P2.1
          have P4 : PP L (do2X b L (nmX b L 0 5 (p2, Y1.2)).2).2 (nmX b L 0 5 (p2, Y1.2)).2 := (nmX_P (b := b) (lo := 1) (hi := 99) P3.1).tr P3
          have P6 := (ndX_P (b := b) (k := 13) (do3X_P (b := b) P4.1).1).tr ((do3X_P (b := b) P4.1).tr P4)
          exact Dd_hd (Dd_P (nm_f h3) this P6)
        | inr q3 =>
          rw [sb_r, nmX_r (X := (p2, Y1.2)) h3]
          have a3 : q3.2 ≤ L := by rw [(nm_inv h3).1]; exact (ad_le a2).2
          dsimp only
          unfold do2X
          cases h4 : nd b L 2 q3.2 with
          | inl e2 =>
            refine ⟨fun e he => ?_, fun r hr => by cases hr⟩
            cases he
            have := ndX_l (X := (q3.2, Y1.2)) y1f h4
            have P3 := ndX_P (b := b) (k := 2) (X := (q3.2, Y1.2)) a3
            have P4 := nmX_P (b := b) (lo := 1) (hi := 99) P3.1
            have P6 := (ndX_P (b := b) (k := 13) (do3X_P (b := b) P4.1).1).tr ((do3X_P (b := b) P4.1).tr P4)
            exact Dd_hd (Dd_P (nd_f h4) this P6)
          | inr p4 =>
            rw [sb_r, ndX_r (X := (q3.2, Y1.2)) h4]
            have a4 : p4 ≤ L := by rw [(nd_inv h4).2]; exact (ad_le a3).2
            cases h5 : nm b L 1 99 p4 with
            | inl e2 =>
              refine ⟨fun e he => ?_, fun r hr => by cases hr⟩
              cases he
              have := nmX_l (X := (p4, Y1.2)) y1f h5
              have P4 := nmX_P (b := b) (lo := 1) (hi := 99) (X := (p4, Y1.2)) a4
              have P6 := (ndX_P (b := b) (k := 13) (do3X_P (b := b) P4.1).1).tr (do3X_P (b := b) P4.1)
              exact Dd_hd (Dd_P (nm_f h5) this P6)
            | inr q5 =>
              rw [sb_r, nmX_r (X := (p4, Y1.2)) h5]
              have a5 : q5.2 ≤ L := by rw [(nm_inv h5).1]; exact (ad_le a4).2
              dsimp only
              have hT1 : tdN (q5.2, Y1.2) = c + 1 := by
                show (Y1.2.1 5).toNatClampNeg = _
                rw [y1c, nI_clamp (by omega)]
              cases h6 : eyP b L (va_up ns c (kv b L X.1)) (c + 1) q5.2 with
              | inl e2 =>
                refine ⟨fun e he => ?_, fun r hr => by cases hr⟩
                cases he
                have hD : Dd e2 (do3X b L (q5.2, Y1.2)).2 := by
                  have h6' := h6
                  unfold eyP at h6'
                  split at h6'
                  · rename_i k3
                    have a6 := (ad_le (b := b) a5).2
                    rw [do3X, if_pos k3, eyX]
                    dsimp only
                    split at h6'
                    · rename_i k9
                      rw [if_pos k9]
                      split at h6'
                      · rename_i hg
                        cases h6'
                        have hkv2 := tv_9 k9.1 a6
                        rw [hT1, fs_fnd (v := kv b L (ad b L q5.2)) y1n hkv2.2.2 y1j, hg]
                        exact fl_Dd (X := (ad b L q5.2, Y1.2)) y1f rfl
                      · cases h6'
                    · rename_i k9
                      cases h6'
                      rw [if_neg k9]
                      exact fl_Dd (X := (ad b L q5.2, Y1.2)) y1f rfl
                  · cases h6'
                have P5 := do3X_P (b := b) (X := (q5.2, Y1.2)) a5
                exact Dd_hd (Dd_P (ey_f h6) hD (ndX_P (b := b) (k := 13) P5.1))
              | inr q6 =>
                rw [sb_r]
                have hD : do3X b L (q5.2, Y1.2) = (q6.1, q6.2, Y1.2) := by
                  have h6' := h6
                  unfold eyP at h6'
                  split at h6'
                  · rename_i k3
                    have a6 := (ad_le (b := b) a5).2
                    rw [do3X, if_pos k3, eyX]
                    dsimp only
                    split at h6'
                    · rename_i k9
                      rw [if_pos k9]
                      split at h6'
                      · cases h6'
                      · rename_i i hg
                        cases h6'
                        have hkv2 := tv_9 k9.1 a6
                        rw [hT1, fs_fnd (v := kv b L (ad b L q5.2)) y1n hkv2.2.2 y1j, hg]
                    · cases h6'
                  · rename_i k3
                    cases h6'
                    rw [do3X, if_neg k3]
                rw [hD]
                dsimp only
                have a6 := (ey_inv h6 a5).2.1
                cases h7 : nd b L 13 q6.2 with
                | inl e2 =>
                  refine ⟨fun e he => ?_, fun r hr => by cases hr⟩
                  cases he
                  exact Dd_hd (ndX_l (X := (q6.2, Y1.2)) y1f h7)
                | inr p7 =>
                  refine ⟨fun e he => (by cases he), fun r hr => ?_⟩
                  cases hr
                  rw [ndX_r (X := (q6.2, Y1.2)) h7, hopn, ← hY1]
  · rw [if_neg hk]
    have hnn : nnX b L X = flX b L 1 X := by rw [nnX, if_neg hk]
    refine ⟨fun e he => ?_, fun r hr => by cases hr⟩
    cases he
    exact key _ hnn _ (by simp [okE]) (fl_Dd h1 rfl)
theorem set_spec {b : Nat → Int32} {L : Nat} {X : cX} (hp : X.1 ≤ L) (h1 : X.2.1 1 = 0) : (∀ e, pSet b L X.1 = .inl e → Dd e (setX b L X)) ∧ (∀ r, pSet b L X.1 = .inr r → setX b L X = adX 1 (nI r.1) (nI r.2.1) 0 (r.2.2, X.2)) := by
  unfold pSet setX
  cases h2 : fd b L X.1 with
  | inl e2 =>
    refine ⟨fun e he => ?_, fun r hr => by cases hr⟩
    cases he
    have P1 := fdX_P (b := b) hp
    have P2 := nmX_P (b := b) (lo := 0) (hi := 99) P1.1
    have P3 := (ndX_P (b := b) (k := 13) P2.1).tr P2
    exact Dd_ad (Dd_P (fd_f h2) (fdX_l h1 h2) P3)
  | inr q2 =>
    rw [sb_r, fdX_r h2]
    have a2 : q2.2 ≤ L := by rw [(fd_inv h2).1]; exact (ad_le hp).2
    dsimp only
    cases h3 : nm b L 0 99 q2.2 with
    | inl e2 =>
      refine ⟨fun e he => ?_, fun r hr => by cases hr⟩
      cases he
      have P2 := nmX_P (b := b) (lo := 0) (hi := 99) (X := (q2.2, X.2)) a2
      exact Dd_ad (Dd_P (nm_f h3) (nmX_l (X := (q2.2, X.2)) h1 h3) (ndX_P (b := b) (k := 13) P2.1))
    | inr q3 =>
      rw [sb_r, nmX_r (X := (q2.2, X.2)) h3]
      dsimp only
      cases h4 : nd b L 13 q3.2 with
      | inl e2 =>
        refine ⟨fun e he => ?_, fun r hr => by cases hr⟩
        cases he
        exact Dd_ad (ndX_l (X := (q3.2, X.2)) h1 h4)
      | inr p4 =>
        refine ⟨fun e he => (by cases he), fun r hr => ?_⟩
        cases hr
        rw [ndX_r (X := (q3.2, X.2)) h4]
theorem tst_spec {b : Nat → Int32} {L : Nat} {X : cX} {w h : Int32} (hp : X.1 ≤ L) (h1 : X.2.1 1 = 0) : (∀ e, pTst b L X.1 = .inl e → Dd e (opX b L w h (tstX b L X))) ∧ (∀ r, pTst b L X.1 = .inr r → ndX b L 11 (tstX b L X) = adX 2 (nI r.1) (nI r.2.1) 0 (r.2.2, X.2)) := by
  unfold pTst
  have hop : ∀ (Y : cX) e, Dd e (ndX b L 11 Y) → Dd e (opX b L w h Y) := fun Y e hd => Dd_op hd
  have hpp : ∀ (Y : cX) (u v : Int32) e, Y.1 ≤ L → okE e → Dd e Y → Dd e (opX b L w h (adX 2 u v 0 Y)) := fun Y u v e hY he hd => Dd_op (Dd_P he (Dd_ad hd) (ndX_P (b := b) (k := 11) (X := adX 2 u v 0 Y) hY))
  unfold tstX
  have hadx : ∀ (Y : cX) (u v : Int32) e, Dd e Y → Dd e (adX 2 u v 0 Y) := fun Y u v e hd => Dd_ad hd
  cases h2 : fd b L X.1 with
  | inl e2 =>
    refine ⟨fun e he => ?_, fun r hr => by cases hr⟩
    cases he
    have P1 := fdX_P (b := b) hp
    have P2 := ndX_P (b := b) (k := 14) P1.1
    have P3 := (nmX_P (b := b) (lo := 0) (hi := 99) P2.1).tr P2
    exact hpp _ _ _ _ P3.1 (fd_f h2) (Dd_P (fd_f h2) (fdX_l h1 h2) P3)
  | inr q2 =>
    rw [sb_r, fdX_r h2]
    have a2 : q2.2 ≤ L := by rw [(fd_inv h2).1]; exact (ad_le hp).2
    dsimp only
    cases h3 : nd b L 14 q2.2 with
    | inl e2 =>
      refine ⟨fun e he => ?_, fun r hr => by cases hr⟩
      cases he
      have P2 := ndX_P (b := b) (k := 14) (X := (q2.2, X.2)) a2
      have P3 := nmX_P (b := b) (lo := 0) (hi := 99) P2.1
      exact hpp _ _ _ _ P3.1 (nd_f h3) (Dd_P (nd_f h3) (ndX_l (X := (q2.2, X.2)) h1 h3) P3)
    | inr p3 =>
      rw [sb_r, ndX_r (X := (q2.2, X.2)) h3]
      have a3 : p3 ≤ L := by rw [(nd_inv h3).2]; exact (ad_le a2).2
      cases h4 : nm b L 0 99 p3 with
      | inl e2 =>
        refine ⟨fun e he => ?_, fun r hr => by cases hr⟩
        cases he
        have P3 := nmX_P (b := b) (lo := 0) (hi := 99) (X := (p3, X.2)) a3
        exact hpp _ _ _ _ P3.1 (nm_f h4) (nmX_l (X := (p3, X.2)) h1 h4)
      | inr q4 =>
        rw [sb_r, nmX_r (X := (p3, X.2)) h4]
        dsimp only
        cases h5 : nd b L 11 q4.2 with
        | inl e2 =>
          refine ⟨fun e he => ?_, fun r hr => by cases hr⟩
          cases he
          exact hop _ _ (ndX_l (X := adX 2 (nI q2.1) (nI q4.1) 0 (q4.2, X.2)) h1 h5)
        | inr z =>
          refine ⟨fun e he => (by cases he), fun r hr => ?_⟩
          cases hr
          rw [ndX_r (X := adX 2 (nI q2.1) (nI q4.1) 0 (q4.2, X.2)) h5]
          rfl
