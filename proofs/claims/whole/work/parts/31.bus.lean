/-! TaskHouse$Business: an object and its 8 arrays behind it. F: int and boolean fields by number; O: fields that refer to other objects; R: arrays by their field's number -/
def bbPos : Nat → Option (Nat × Nat × FieldType) := fun k => match k with
  | 4 => some (0, 121, .int)
  | 5 => some (1, 121, .int)
  | 6 => some (2, 121, .int)
  | 7 => some (3, 121, .int)
  | 8 => some (4, 40, .int)
  | 9 => some (5, 40, .int)
  | 10 => some (6, 40, .int)
  | 11 => some (7, 40, .int)
  | _ => none
def bbOb (k : Nat) : Bool := decide (12 ≤ k)
def bbFl : List Nat := [4, 5, 6, 7, 8, 9, 10, 11]
def bbAd (m kf : Nat) : Nat := m + 1 + ((bbPos kf).map (fun q => q.1)).getD 0
def bbV (m : Nat) (F : Nat → Int32) (O : Nat → Option Nat) : Nat → Value := fun k => match bbPos k with
  | some _ => .ref (bbAd m k)
  | none => if bbOb k = true then va_rf (O k) else .int (F k)
def bbE (kf : Nat) (R : Nat → Nat → Int32) : Option wE := (bbPos kf).map fun q => .inl (q.2.2, q.2.1, .inl (R kf))
def bbh (m : Nat) (F : Nat → Int32) (O : Nat → Option Nat) (R : Nat → Nat → Int32) (h0 : Nat → Option wE) : Nat → Option wE := fun a =>
  if a = m then some (.inr (0, bbV m F O)) else if m < a ∧ a < m + 9 then bbE (bbFl.getD (a - m - 1) 0) R else h0 a
theorem bbFl_pos : ∀ j, j < 8 → (bbPos (bbFl.getD j 0)).map (fun q => q.1) = some j := by decide +kernel
theorem bbPos_fl : ∀ kf, kf < 12 → ∀ q, bbPos kf = some q → q.1 < 8 ∧ bbFl.getD q.1 0 = kf := by decide +kernel
theorem bbPos_lt {kf : Nat} {q : Nat × Nat × FieldType} (h : bbPos kf = some q) : kf < 12 := by
  unfold bbPos at h
  split at h <;> first | omega | cases h
theorem bbAd_in {kf : Nat} {q : Nat × Nat × FieldType} (m : Nat) (h : bbPos kf = some q) : m < bbAd m kf ∧ bbAd m kf < m + 9 ∧ bbFl.getD (bbAd m kf - m - 1) 0 = kf := by
  obtain ⟨h1, h2⟩ := bbPos_fl kf (bbPos_lt h) q h
  have e : bbAd m kf = m + 1 + q.1 := by simp [bbAd, h]
  refine ⟨by omega, by omega, ?_⟩
  rw [show bbAd m kf - m - 1 = q.1 by omega]
  exact h2
theorem bbAd_inj {m a kf : Nat} (h1 : m < a) (h2 : a < m + 9) (h3 : bbFl.getD (a - m - 1) 0 = kf) : a = bbAd m kf := by
  have h := bbFl_pos (a - m - 1) (by omega)
  rw [h3] at h
  simp only [bbAd, h]
  simp
  omega
section Sbb
variable {m : Nat} {F : Nat → Int32} {O : Nat → Option Nat} {R : Nat → Nat → Int32} {h0 : Nat → Option wE}
theorem bbh_obj : bbh m F O R h0 m = some (.inr (0, bbV m F O)) := by simp [bbh]
theorem bbh_arr {kf : Nat} {q : Nat × Nat × FieldType} (h : bbPos kf = some q) : bbh m F O R h0 (bbAd m kf) = some (.inl (q.2.2, q.2.1, .inl (R kf))) := by
  obtain ⟨h1, h2, h3⟩ := bbAd_in m h
  simp only [bbh]
  rw [if_neg (by omega), if_pos ⟨h1, h2⟩, h3]
  simp [bbE, h]
theorem bbV_put {kf : Nat} (h : bbPos kf = none) (hb : bbOb kf = false) (v : Int32) : updV (bbV m F O) kf (.int v) = bbV m (upd F kf v) O := by
  funext k
  by_cases hk : k = kf
  · subst hk
    simp [updV, bbV, h, hb, upd]
  · simp [updV, bbV, hk, upd]
theorem bbh_puto (F2 : Nat → Int32) (O2 : Nat → Option Nat) : va_up (bbh m F O R h0) m (some (.inr (0, bbV m F2 O2))) = bbh m F2 O2 R h0 := by
  funext a
  by_cases ha : a = m
  · subst ha
    simp [va_up, bbh]
  · simp [va_up, bbh, ha]
theorem bbh_puta {kf : Nat} {q : Nat × Nat × FieldType} (h : bbPos kf = some q) (g : Nat → Int32) : va_up (bbh m F O R h0) (bbAd m kf) (some (.inl (q.2.2, q.2.1, .inl g))) = bbh m F O (va_up R kf g) h0 := by
  obtain ⟨h1, h2, h3⟩ := bbAd_in m h
  funext a
  by_cases ha : a = bbAd m kf
  · subst ha
    rw [bbh_arr h]
    simp [va_up]
  · by_cases hm : a = m
    · subst hm
      simp [va_up, bbh, ha]
    · simp only [va_up, if_neg ha, bbh, if_neg hm]
      by_cases hb : m < a ∧ a < m + 9
      · rw [if_pos hb, if_pos hb]
        have hne : bbFl.getD (a - m - 1) 0 ≠ kf := fun e => ha (bbAd_inj hb.1 hb.2 e)
        simp only [bbE, va_up, if_neg hne]
      · rw [if_neg hb, if_neg hb]
variable {G : wG} {M : wM} {cc : ByteArray} {X : wX} {Z : State → Prop} {pc : Nat} {lv : List (Option Value)} {st : List Value} {k n sz index : Nat}
theorem bb_geti {kf : Nat} {ty : FieldType} {fin : Bool} (hd : decode cc pc = .ok (.getfield index, 3)) (L : wFl M.1.cls index 0 kf ty fin) (h : bbPos kf = none) (hb : bbOb kf = false) (kk : WW G M cc X Z (pc + 3) lv (.int (F kf) :: st) (bbh m F O R h0, sz) k n) : WW G M cc X Z pc lv (.ref m :: st) (bbh m F O R h0, sz) k n :=
  ww_get hd L bbh_obj (by
    have : bbV m F O kf = .int (F kf) := by simp [bbV, h, hb]
    rw [this]; exact kk)
theorem bb_getr {kf : Nat} {ty : FieldType} {fin : Bool} {q : Nat × Nat × FieldType} (hd : decode cc pc = .ok (.getfield index, 3)) (L : wFl M.1.cls index 0 kf ty fin) (h : bbPos kf = some q) (kk : WW G M cc X Z (pc + 3) lv (.ref (bbAd m kf) :: st) (bbh m F O R h0, sz) k n) : WW G M cc X Z pc lv (.ref m :: st) (bbh m F O R h0, sz) k n :=
  ww_get hd L bbh_obj (by
    have : bbV m F O kf = .ref (bbAd m kf) := by simp [bbV, h]
    rw [this]; exact kk)
theorem bb_puti {kf : Nat} {v : Int32} (hd : decode cc pc = .ok (.putfield index, 3)) (L : wFl M.1.cls index 0 kf .int false) (h : bbPos kf = none) (hb : bbOb kf = false) (kk : WW G M cc X Z (pc + 3) lv st (bbh m (upd F kf v) O R h0, sz) k n) : WW G M cc X Z pc lv (.int v :: .ref m :: st) (bbh m F O R h0, sz) k n :=
  ww_put hd L rfl rfl bbh_obj (by dsimp only; rw [bbV_put h hb, bbh_puto]; exact kk)
theorem bb_iald {kf j p0 nn : Nat} {i : Int32} (hd : decode cc pc = .ok (.iaload, 1)) (h : bbPos kf = some (p0, nn, .int)) (hi : i = nI j) (hj : j < nn) (hnn : Nat.blt nn 2147483648 = true) (kk : WW G M cc X Z (pc + 1) lv (.int (R kf j) :: st) (bbh m F O R h0, sz) k n) : WW G M cc X Z pc lv (.int i :: .ref (bbAd m kf) :: st) (bbh m F O R h0, sz) k n :=
  ww_iald hd (bbh_arr h) hi hj (Nat.blt_eq.mp hnn) kk
theorem bb_iast {kf j p0 nn : Nat} {i x : Int32} (hd : decode cc pc = .ok (.iastore, 1)) (h : bbPos kf = some (p0, nn, .int)) (hi : i = nI j) (hj : j < nn) (hnn : Nat.blt nn 2147483648 = true) (kk : WW G M cc X Z (pc + 1) lv st (bbh m F O (va_up R kf (upd (R kf) j x)) h0, sz) k n) : WW G M cc X Z pc lv (.int x :: .int i :: .ref (bbAd m kf) :: st) (bbh m F O R h0, sz) k n := by
  refine ww_iast (f := R kf) hd (bbh_arr h) hi hj (Nat.blt_eq.mp hnn) ?_
  have e := bbh_puta (m := m) (F := F) (O := O) (R := R) (h0 := h0) h (upd (R kf) j x)
  dsimp only at e ⊢
  rw [e]
  exact kk
theorem bb_call {Mc : wM} {na : Nat} {As st0 : List Value} {Q : Option Value → wH → Prop} {r : vw_C} (hd : decode cc pc = .ok (.invokevirtual index, 3)) (L : wCv M.1.cls index Mc na) (hr : wCl[0]? = some r) (hcl : r.1 = Mc.1.cls) (hs : Sat G Mc (.ref m :: As) (bbh m F O R h0, sz) Q) (hst : st0 = As.reverse ++ .ref m :: st) (hna : As.length = na) (hlev : Nat.ble (Mc.2.2.2.2.1 + 1) M.2.2.2.2.1 = true) (hmx : Nat.ble Mc.2.2.1 15 = true) (hro : Nat.ble (st.map fun v => v.category).sum 8 = true) (hz : Mc.2.2.2.2.2 = (0, 0)) (hk : k ≤ M.2.2.2.2.2.1) (hn : n ≤ M.2.2.2.2.2.2) (kk : ∀ v h', Q v h' → WW G M cc X Z (pc + 3) lv (v.toList ++ st) h' k n) : WW G M cc X Z pc lv st0 (bbh m F O R h0, sz) k n :=
  ww_callV hd L bbh_obj hr hcl hs hst hna hlev hmx hro (by rw [hz]; exact hk) (by rw [hz]; exact hn) (by rw [hz]; exact kk)
theorem bb_call0 {Mc : wM} {na : Nat} {As st0 : List Value} {h' : wH} {r : vw_C} (hd : decode cc pc = .ok (.invokevirtual index, 3)) (L : wCv M.1.cls index Mc na) (hr : wCl[0]? = some r) (hcl : r.1 = Mc.1.cls) (hs : Sat G Mc (.ref m :: As) (bbh m F O R h0, sz) (Det none h')) (hst : st0 = As.reverse ++ .ref m :: st) (hna : As.length = na) (hlev : Nat.ble (Mc.2.2.2.2.1 + 1) M.2.2.2.2.1 = true) (hmx : Nat.ble Mc.2.2.1 15 = true) (hro : Nat.ble (st.map fun v => v.category).sum 8 = true) (hz : Mc.2.2.2.2.2 = (0, 0)) (hk : k ≤ M.2.2.2.2.2.1) (hn : n ≤ M.2.2.2.2.2.2) (kk : WW G M cc X Z (pc + 3) lv st h' k n) : WW G M cc X Z pc lv st0 (bbh m F O R h0, sz) k n :=
  bb_call hd L hr hcl hs hst hna hlev hmx hro hz hk hn (fun v h2 q => by obtain ⟨q1, q2⟩ := q; subst q1; subst q2; exact kk)
theorem bb_call1 {Mc : wM} {na : Nat} {As st0 : List Value} {h' : wH} {r : vw_C} {v : Value} (hd : decode cc pc = .ok (.invokevirtual index, 3)) (L : wCv M.1.cls index Mc na) (hr : wCl[0]? = some r) (hcl : r.1 = Mc.1.cls) (hs : Sat G Mc (.ref m :: As) (bbh m F O R h0, sz) (Det (some v) h')) (hst : st0 = As.reverse ++ .ref m :: st) (hna : As.length = na) (hlev : Nat.ble (Mc.2.2.2.2.1 + 1) M.2.2.2.2.1 = true) (hmx : Nat.ble Mc.2.2.1 15 = true) (hro : Nat.ble (st.map fun v => v.category).sum 8 = true) (hz : Mc.2.2.2.2.2 = (0, 0)) (hk : k ≤ M.2.2.2.2.2.1) (hn : n ≤ M.2.2.2.2.2.2) (kk : WW G M cc X Z (pc + 3) lv (v :: st) h' k n) : WW G M cc X Z pc lv st0 (bbh m F O R h0, sz) k n :=
  bb_call hd L hr hcl hs hst hna hlev hmx hro hz hk hn (fun v2 h2 q => by obtain ⟨q1, q2⟩ := q; subst q1; subst q2; exact kk)
end Sbb
