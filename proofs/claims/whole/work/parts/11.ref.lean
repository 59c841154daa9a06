/-! The reference: one object of 72 fields and its 49 arrays behind it. F: its int fields by number; tl: told; R: its int, byte and boolean arrays by their field's number; NL: newName. -/
def mPos : Nat → Option (Nat × Nat × FieldType) := fun k => match k with
  | 0 => some (0, 300, .byte)
  | 15 => some (1, 200, .int)
  | 16 => some (2, 200, .int)
  | 17 => some (3, 200, .int)
  | 18 => some (4, 200, .int)
  | 19 => some (5, 40, .long)
  | 20 => some (6, 40, .int)
  | 21 => some (7, 40, .int)
  | 22 => some (8, 40, .int)
  | 26 => some (9, 200, .int)
  | 27 => some (10, 200, .int)
  | 28 => some (11, 200, .int)
  | 29 => some (12, 200, .int)
  | 30 => some (13, 40, .int)
  | 31 => some (14, 40, .int)
  | 32 => some (15, 40, .int)
  | 34 => some (16, 6, .int)
  | 35 => some (17, 6, .int)
  | 36 => some (18, 6, .int)
  | 37 => some (19, 6, .int)
  | 38 => some (20, 6, .boolean)
  | 39 => some (21, 6, .boolean)
  | 41 => some (22, 8, .int)
  | 42 => some (23, 1600, .int)
  | 43 => some (24, 1600, .int)
  | 44 => some (25, 1600, .int)
  | 45 => some (26, 1600, .int)
  | 46 => some (27, 320, .int)
  | 47 => some (28, 320, .int)
  | 48 => some (29, 320, .int)
  | 49 => some (30, 32, .int)
  | 50 => some (31, 320, .int)
  | 51 => some (32, 8, .boolean)
  | 52 => some (33, 4, .int)
  | 53 => some (34, 40, .int)
  | 56 => some (35, 200, .int)
  | 57 => some (36, 200, .int)
  | 58 => some (37, 200, .int)
  | 59 => some (38, 200, .int)
  | 60 => some (39, 200, .int)
  | 61 => some (40, 200, .int)
  | 62 => some (41, 200, .int)
  | 63 => some (42, 200, .int)
  | 65 => some (43, 8, .int)
  | 66 => some (44, 8, .int)
  | 67 => some (45, 8, .int)
  | 68 => some (46, 8, .boolean)
  | 69 => some (47, 64, .int)
  | 70 => some (48, 200, .int)
  | _ => none
def mFl : List Nat := [0, 15, 16, 17, 18, 19, 20, 21, 22, 26, 27, 28, 29, 30, 31, 32, 34, 35, 36, 37, 38, 39, 41, 42, 43, 44, 45, 46, 47, 48, 49, 50, 51, 52, 53, 56, 57, 58, 59, 60, 61, 62, 63, 65, 66, 67, 68, 69, 70]
def mAd (m kf : Nat) : Nat := m + 1 + ((mPos kf).map (fun q => q.1)).getD 0
def mV (m : Nat) (F : Nat → Int32) (tl : Int64) : Nat → Value := fun k => match mPos k with
  | some _ => .ref (mAd m k)
  | none => if k = 5 then .long tl else .int (F k)
def mE (kf : Nat) (R : Nat → Nat → Int32) (NL : Nat → Int64) : Option wE := (mPos kf).map fun q => .inl (q.2.2, q.2.1, if kf = 19 then .inr (.inl NL) else .inl (R kf))
def mh (m : Nat) (F : Nat → Int32) (tl : Int64) (R : Nat → Nat → Int32) (NL : Nat → Int64) (h0 : Nat → Option wE) : Nat → Option wE := fun a =>
  if a = m then some (.inr (8, mV m F tl)) else if m < a ∧ a < m + 50 then mE (mFl.getD (a - m - 1) 0) R NL else h0 a
theorem mFl_pos : ∀ j, j < 49 → (mPos (mFl.getD j 0)).map (fun q => q.1) = some j := by decide +kernel
theorem mPos_fl : ∀ kf, kf < 72 → ∀ q, mPos kf = some q → q.1 < 49 ∧ mFl.getD q.1 0 = kf := by decide +kernel
theorem mPos_lt {kf : Nat} {q : Nat × Nat × FieldType} (h : mPos kf = some q) : kf < 72 := by
  unfold mPos at h
  split at h <;> first | omega | cases h
theorem mAd_in {kf : Nat} {q : Nat × Nat × FieldType} (m : Nat) (h : mPos kf = some q) : m < mAd m kf ∧ mAd m kf < m + 50 ∧ mFl.getD (mAd m kf - m - 1) 0 = kf := by
  obtain ⟨h1, h2⟩ := mPos_fl kf (mPos_lt h) q h
  have e : mAd m kf = m + 1 + q.1 := by simp [mAd, h]
  refine ⟨by omega, by omega, ?_⟩
  rw [show mAd m kf - m - 1 = q.1 by omega]
  exact h2
theorem mAd_inj {m a kf : Nat} (h1 : m < a) (h2 : a < m + 50) (h3 : mFl.getD (a - m - 1) 0 = kf) : a = mAd m kf := by
  have h := mFl_pos (a - m - 1) (by omega)
  rw [h3] at h
  simp only [mAd, h]
  simp
  omega
section MM
variable {m : Nat} {F : Nat → Int32} {tl : Int64} {R : Nat → Nat → Int32} {NL : Nat → Int64} {h0 : Nat → Option wE}
theorem mh_obj : mh m F tl R NL h0 m = some (.inr (8, mV m F tl)) := by simp [mh]
theorem mh_arr {kf : Nat} {q : Nat × Nat × FieldType} (h : mPos kf = some q) : mh m F tl R NL h0 (mAd m kf) = mE kf R NL := by
  obtain ⟨h1, h2, h3⟩ := mAd_in m h
  simp only [mh]
  rw [if_neg (by omega), if_pos ⟨h1, h2⟩, h3]
theorem mV_i {kf : Nat} (h : mPos kf = none) (h5 : (kf == 5) = false) : mV m F tl kf = .int (F kf) := by
  have : kf ≠ 5 := by intro q; rw [q] at h5; simp at h5
  simp [mV, h, this]
theorem mV_put {kf : Nat} (h : mPos kf = none) (h5 : (kf == 5) = false) (v : Int32) : updV (mV m F tl) kf (.int v) = mV m (upd F kf v) tl := by
  have h5 : kf ≠ 5 := by intro q; rw [q] at h5; simp at h5
  funext k
  by_cases hk : k = kf
  · subst hk
    simp [updV, mV, h, h5, upd]
  · simp [updV, mV, hk, upd]
theorem mV_putl (v : Int64) : updV (mV m F tl) 5 (.long v) = mV m F v := by
  funext k
  by_cases hk : k = 5
  · subst hk
    simp [updV, mV, mPos]
  · simp [updV, mV, hk]
theorem mh_puto (F' : Nat → Int32) (tl' : Int64) : va_up (mh m F tl R NL h0) m (some (.inr (8, mV m F' tl'))) = mh m F' tl' R NL h0 := by
  funext a
  by_cases ha : a = m
  · subst ha
    simp [va_up, mh]
  · simp [va_up, mh, ha]
theorem mE_ne {kf kg : Nat} (R : Nat → Nat → Int32) (g : Nat → Int32) (h : kg ≠ kf) : mE kg (va_up R kf g) NL = mE kg R NL := by
  simp [mE, va_up, h]
theorem mh_puta {kf : Nat} {q : Nat × Nat × FieldType} (h : mPos kf = some q) (h19 : (kf == 19) = false) (g : Nat → Int32) : va_up (mh m F tl R NL h0) (mAd m kf) (some (.inl (q.2.2, q.2.1, .inl g))) = mh m F tl (va_up R kf g) NL h0 := by
  have h19 : kf ≠ 19 := by intro q; rw [q] at h19; simp at h19
  obtain ⟨h1, h2, h3⟩ := mAd_in m h
  funext a
  by_cases ha : a = mAd m kf
  · subst ha
    rw [mh_arr h]
    simp [va_up, mE, h, h19]
  · by_cases hm : a = m
    · subst hm
      simp [va_up, mh, ha]
    · simp only [va_up, if_neg ha, mh, if_neg hm]
      by_cases hb : m < a ∧ a < m + 50
      · rw [if_pos hb, if_pos hb, mE_ne R g (fun e => ha (mAd_inj hb.1 hb.2 e))]
      · rw [if_neg hb, if_neg hb]
theorem mh_putl (g : Nat → Int64) : va_up (mh m F tl R NL h0) (mAd m 19) (some (.inl (.long, 40, .inr (.inl g)))) = mh m F tl R g h0 := by
  have h : mPos 19 = some (5, 40, .long) := rfl
  obtain ⟨h1, h2, h3⟩ := mAd_in m h
  funext a
  by_cases ha : a = mAd m 19
  · subst ha
    rw [mh_arr h]
    simp [va_up, mE, h]
  · by_cases hm : a = m
    · subst hm
      simp [va_up, mh, ha]
    · simp only [va_up, if_neg ha, mh, if_neg hm]
      by_cases hb : m < a ∧ a < m + 50
      · have hne : mFl.getD (a - m - 1) 0 ≠ 19 := fun e => ha (mAd_inj hb.1 hb.2 e)
        rw [if_pos hb, if_pos hb]
        simp only [mE, if_neg hne]
      · rw [if_neg hb, if_neg hb]
variable {G : wG} {M Mc : wM} {cc : ByteArray} {X : wX} {Z : State → Prop} {pc : Nat} {lv : List (Option Value)} {st st0 As : List Value} {k n sz index na : Nat}
theorem mm_geti {kf : Nat} {ty : FieldType} {fin : Bool} (hd : decode cc pc = .ok (.getfield index, 3)) (L : wFl M.1.cls index 8 kf ty fin) (h : mPos kf = none) (h5 : (kf == 5) = false) (kk : WW G M cc X Z (pc + 3) lv (.int (F kf) :: st) (mh m F tl R NL h0, sz) k n) : WW G M cc X Z pc lv (.ref m :: st) (mh m F tl R NL h0, sz) k n :=
  ww_get hd L mh_obj (by rw [mV_i h h5]; exact kk)
theorem mm_getl {ty : FieldType} {fin : Bool} (hd : decode cc pc = .ok (.getfield index, 3)) (L : wFl M.1.cls index 8 5 ty fin) (kk : WW G M cc X Z (pc + 3) lv (.long tl :: st) (mh m F tl R NL h0, sz) k n) : WW G M cc X Z pc lv (.ref m :: st) (mh m F tl R NL h0, sz) k n :=
  ww_get hd L mh_obj kk
theorem mm_getr {kf : Nat} {ty : FieldType} {fin : Bool} {q : Nat × Nat × FieldType} (hd : decode cc pc = .ok (.getfield index, 3)) (L : wFl M.1.cls index 8 kf ty fin) (h : mPos kf = some q) (kk : WW G M cc X Z (pc + 3) lv (.ref (mAd m kf) :: st) (mh m F tl R NL h0, sz) k n) : WW G M cc X Z pc lv (.ref m :: st) (mh m F tl R NL h0, sz) k n :=
  ww_get hd L mh_obj (by
    have : mV m F tl kf = .ref (mAd m kf) := by simp [mV, h]
    rw [this]; exact kk)
theorem mm_puti {kf : Nat} {v : Int32} (hd : decode cc pc = .ok (.putfield index, 3)) (L : wFl M.1.cls index 8 kf .int false) (h : mPos kf = none) (h5 : (kf == 5) = false) (kk : WW G M cc X Z (pc + 3) lv st (mh m (upd F kf v) tl R NL h0, sz) k n) : WW G M cc X Z pc lv (.int v :: .ref m :: st) (mh m F tl R NL h0, sz) k n :=
  ww_put hd L rfl rfl mh_obj (by dsimp only; rw [mV_put h h5, mh_puto]; exact kk)
theorem mm_putl {v : Int64} (hd : decode cc pc = .ok (.putfield index, 3)) (L : wFl M.1.cls index 8 5 .long false) (kk : WW G M cc X Z (pc + 3) lv st (mh m F v R NL h0, sz) k n) : WW G M cc X Z pc lv (.long v :: .ref m :: st) (mh m F tl R NL h0, sz) k n :=
  ww_put hd L rfl rfl mh_obj (by dsimp only; rw [mV_putl, mh_puto]; exact kk)
theorem mm_iald {kf j p0 nn : Nat} {i : Int32} (hd : decode cc pc = .ok (.iaload, 1)) (h : mPos kf = some (p0, nn, .int)) (hi : i = nI j) (hj : j < nn) (hnn : Nat.blt nn 2147483648 = true) (h19 : (kf == 19) = false) (kk : WW G M cc X Z (pc + 1) lv (.int (R kf j) :: st) (mh m F tl R NL h0, sz) k n) : WW G M cc X Z pc lv (.int i :: .ref (mAd m kf) :: st) (mh m F tl R NL h0, sz) k n := by
  have h19 : kf ≠ 19 := by intro q; rw [q] at h19; simp at h19
  exact ww_iald hd ((mh_arr h).trans (by simp [mE, h, h19])) hi hj (Nat.blt_eq.mp hnn) kk
theorem mm_bald {kf j p0 nn : Nat} {i : Int32} (hd : decode cc pc = .ok (.baload, 1)) (h : mPos kf = some (p0, nn, .byte)) (hi : i = nI j) (hj : j < nn) (hnn : Nat.blt nn 2147483648 = true) (h19 : (kf == 19) = false) (kk : WW G M cc X Z (pc + 1) lv (.int (R kf j) :: st) (mh m F tl R NL h0, sz) k n) : WW G M cc X Z pc lv (.int i :: .ref (mAd m kf) :: st) (mh m F tl R NL h0, sz) k n := by
  have h19 : kf ≠ 19 := by intro q; rw [q] at h19; simp at h19
  exact ww_bald hd ((mh_arr h).trans (by simp [mE, h, h19])) hi hj (Nat.blt_eq.mp hnn) kk
theorem mm_zald {kf j p0 nn : Nat} {i : Int32} (hd : decode cc pc = .ok (.baload, 1)) (h : mPos kf = some (p0, nn, .boolean)) (hi : i = nI j) (hj : j < nn) (hnn : Nat.blt nn 2147483648 = true) (h19 : (kf == 19) = false) (kk : WW G M cc X Z (pc + 1) lv (.int (R kf j) :: st) (mh m F tl R NL h0, sz) k n) : WW G M cc X Z pc lv (.int i :: .ref (mAd m kf) :: st) (mh m F tl R NL h0, sz) k n := by
  have h19 : kf ≠ 19 := by intro q; rw [q] at h19; simp at h19
  exact ww_zald hd ((mh_arr h).trans (by simp [mE, h, h19])) hi hj (Nat.blt_eq.mp hnn) kk
theorem mm_lald {j : Nat} {i : Int32} (hd : decode cc pc = .ok (.laload, 1)) (hi : i = nI j) (hj : j < 40) (kk : WW G M cc X Z (pc + 1) lv (.long (NL j) :: st) (mh m F tl R NL h0, sz) k n) : WW G M cc X Z pc lv (.int i :: .ref (mAd m 19) :: st) (mh m F tl R NL h0, sz) k n :=
  ww_lald hd ((mh_arr (q := (5, 40, .long)) rfl).trans rfl) hi hj (by decide) kk
theorem mm_iast {kf j p0 nn : Nat} {i x : Int32} (hd : decode cc pc = .ok (.iastore, 1)) (h : mPos kf = some (p0, nn, .int)) (hi : i = nI j) (hj : j < nn) (hnn : Nat.blt nn 2147483648 = true) (h19 : (kf == 19) = false) (kk : WW G M cc X Z (pc + 1) lv st (mh m F tl (va_up R kf (upd (R kf) j x)) NL h0, sz) k n) : WW G M cc X Z pc lv (.int x :: .int i :: .ref (mAd m kf) :: st) (mh m F tl R NL h0, sz) k n := by
  have h19' : kf ≠ 19 := by intro q; rw [q] at h19; simp at h19
  refine ww_iast (f := R kf) hd ((mh_arr h).trans (by simp [mE, h, h19'])) hi hj (Nat.blt_eq.mp hnn) ?_
  have e := mh_puta (m := m) (F := F) (tl := tl) (R := R) (NL := NL) (h0 := h0) h h19 (upd (R kf) j x)
  dsimp only at e ⊢
  rw [e]
  exact kk
theorem mm_bast {kf j p0 nn : Nat} {i x : Int32} (hd : decode cc pc = .ok (.bastore, 1)) (h : mPos kf = some (p0, nn, .byte)) (hi : i = nI j) (hj : j < nn) (hnn : Nat.blt nn 2147483648 = true) (h19 : (kf == 19) = false) (kk : WW G M cc X Z (pc + 1) lv st (mh m F tl (va_up R kf (upd (R kf) j (vp_nar .byte x))) NL h0, sz) k n) : WW G M cc X Z pc lv (.int x :: .int i :: .ref (mAd m kf) :: st) (mh m F tl R NL h0, sz) k n := by
  have h19' : kf ≠ 19 := by intro q; rw [q] at h19; simp at h19
  refine ww_bast (f := R kf) hd ((mh_arr h).trans (by simp [mE, h, h19'])) hi hj (Nat.blt_eq.mp hnn) ?_
  have e := mh_puta (m := m) (F := F) (tl := tl) (R := R) (NL := NL) (h0 := h0) h h19 (upd (R kf) j (vp_nar .byte x))
  dsimp only at e ⊢
  rw [e]
  exact kk
theorem mm_zast {kf j p0 nn : Nat} {i x : Int32} (hd : decode cc pc = .ok (.bastore, 1)) (h : mPos kf = some (p0, nn, .boolean)) (hi : i = nI j) (hj : j < nn) (hnn : Nat.blt nn 2147483648 = true) (h19 : (kf == 19) = false) (kk : WW G M cc X Z (pc + 1) lv st (mh m F tl (va_up R kf (upd (R kf) j (vp_nar .boolean x))) NL h0, sz) k n) : WW G M cc X Z pc lv (.int x :: .int i :: .ref (mAd m kf) :: st) (mh m F tl R NL h0, sz) k n := by
  have h19' : kf ≠ 19 := by intro q; rw [q] at h19; simp at h19
  refine ww_zast (f := R kf) hd ((mh_arr h).trans (by simp [mE, h, h19'])) hi hj (Nat.blt_eq.mp hnn) ?_
  have e := mh_puta (m := m) (F := F) (tl := tl) (R := R) (NL := NL) (h0 := h0) h h19 (upd (R kf) j (vp_nar .boolean x))
  dsimp only at e ⊢
  rw [e]
  exact kk
theorem mm_last {j : Nat} {i : Int32} {x : Int64} (hd : decode cc pc = .ok (.lastore, 1)) (hi : i = nI j) (hj : j < 40) (kk : WW G M cc X Z (pc + 1) lv st (mh m F tl R (vp_updL NL j x) h0, sz) k n) : WW G M cc X Z pc lv (.long x :: .int i :: .ref (mAd m 19) :: st) (mh m F tl R NL h0, sz) k n := by
  refine ww_last (f := NL) hd ((mh_arr (q := (5, 40, .long)) rfl).trans rfl) hi hj (by decide) ?_
  dsimp only
  rw [mh_putl]
  exact kk
theorem mm_call {Q : Option Value → wH → Prop} (hd : decode cc pc = .ok (.invokevirtual index, 3)) (L : wCv M.1.cls index Mc na) (hcl : Mc.1.cls = RX9) (hs : Sat G Mc (.ref m :: As) (mh m F tl R NL h0, sz) Q) (hst : st0 = As.reverse ++ .ref m :: st) (hna : As.length = na) (hlev : Nat.ble (Mc.2.2.2.2.1 + 1) M.2.2.2.2.1 = true) (hmx : Nat.ble Mc.2.2.1 15 = true) (hro : Nat.ble (st.map fun v => v.category).sum 8 = true) (hz : Mc.2.2.2.2.2 = (0, 0)) (hk : k ≤ M.2.2.2.2.2.1) (hn : n ≤ M.2.2.2.2.2.2) (kk : ∀ v h', Q v h' → WW G M cc X Z (pc + 3) lv (v.toList ++ st) h' k n) : WW G M cc X Z pc lv st0 (mh m F tl R NL h0, sz) k n :=
  ww_callV hd L mh_obj rfl hcl.symm hs hst hna hlev hmx hro (by rw [hz]; exact hk) (by rw [hz]; exact hn) (by rw [hz]; exact kk)
theorem mm_call0 {h' : wH} (hd : decode cc pc = .ok (.invokevirtual index, 3)) (L : wCv M.1.cls index Mc na) (hcl : Mc.1.cls = RX9) (hs : Sat G Mc (.ref m :: As) (mh m F tl R NL h0, sz) (Det none h')) (hst : st0 = As.reverse ++ .ref m :: st) (hna : As.length = na) (hlev : Nat.ble (Mc.2.2.2.2.1 + 1) M.2.2.2.2.1 = true) (hmx : Nat.ble Mc.2.2.1 15 = true) (hro : Nat.ble (st.map fun v => v.category).sum 8 = true) (hz : Mc.2.2.2.2.2 = (0, 0)) (hk : k ≤ M.2.2.2.2.2.1) (hn : n ≤ M.2.2.2.2.2.2) (kk : WW G M cc X Z (pc + 3) lv st h' k n) : WW G M cc X Z pc lv st0 (mh m F tl R NL h0, sz) k n :=
  mm_call hd L hcl hs hst hna hlev hmx hro hz hk hn (fun v h2 q => by obtain ⟨q1, q2⟩ := q; subst q1; subst q2; exact kk)
theorem mm_call1 {h' : wH} {v : Value} (hd : decode cc pc = .ok (.invokevirtual index, 3)) (L : wCv M.1.cls index Mc na) (hcl : Mc.1.cls = RX9) (hs : Sat G Mc (.ref m :: As) (mh m F tl R NL h0, sz) (Det (some v) h')) (hst : st0 = As.reverse ++ .ref m :: st) (hna : As.length = na) (hlev : Nat.ble (Mc.2.2.2.2.1 + 1) M.2.2.2.2.1 = true) (hmx : Nat.ble Mc.2.2.1 15 = true) (hro : Nat.ble (st.map fun v => v.category).sum 8 = true) (hz : Mc.2.2.2.2.2 = (0, 0)) (hk : k ≤ M.2.2.2.2.2.1) (hn : n ≤ M.2.2.2.2.2.2) (kk : WW G M cc X Z (pc + 3) lv (v :: st) h' k n) : WW G M cc X Z pc lv st0 (mh m F tl R NL h0, sz) k n :=
  mm_call hd L hcl hs hst hna hlev hmx hro hz hk hn (fun v2 h2 q => by obtain ⟨q1, q2⟩ := q; subst q1; subst q2; exact kk)
theorem ww_calls1 {h h' : wH} {v : Value} (hd : decode cc pc = .ok (.invokestatic index, 3)) (L : wCs M.1.cls index Mc na) (hs : Sat G Mc As h (Det (some v) h')) (hst : st0 = As.reverse ++ st) (hna : As.length = na) (hlev : Nat.ble (Mc.2.2.2.2.1 + 1) M.2.2.2.2.1 = true) (hmx : Nat.ble Mc.2.2.1 15 = true) (hro : Nat.ble (st.map fun v => v.category).sum 8 = true) (hz : Mc.2.2.2.2.2 = (0, 0)) (hk : k ≤ M.2.2.2.2.2.1) (hn : n ≤ M.2.2.2.2.2.2) (kk : WW G M cc X Z (pc + 3) lv (v :: st) h' k n) : WW G M cc X Z pc lv st0 h k n :=
  ww_callS hd L hs hst hna hlev hmx hro (by rw [hz]; exact hk) (by rw [hz]; exact hn) (fun v2 h2 q => by obtain ⟨q1, q2⟩ := q; subst q1; subst q2; rw [hz]; exact kk)
end MM
