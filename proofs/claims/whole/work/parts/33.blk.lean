/-! TaskHouse$Persons: an object and its 6 arrays behind it. F: int and boolean fields by number; O: fields that refer to other objects; R: arrays by their field's number -/
def ppPos : Nat → Option (Nat × Nat × FieldType) := fun k => match k with
  | 1 => some (0, 8, .int)
  | 2 => some (1, 8, .int)
  | 3 => some (2, 8, .int)
  | 4 => some (3, 8, .int)
  | 5 => some (4, 8, .int)
  | 6 => some (5, 8, .boolean)
  | _ => none
def ppOb (k : Nat) : Bool := decide (7 ≤ k)
def ppFl : List Nat := [1, 2, 3, 4, 5, 6]
def ppAd (m kf : Nat) : Nat := m + 1 + ((ppPos kf).map (fun q => q.1)).getD 0
def ppV (m : Nat) (F : Nat → Int32) (O : Nat → Option Nat) : Nat → Value := fun k => match ppPos k with
  | some _ => .ref (ppAd m k)
  | none => if ppOb k = true then va_rf (O k) else .int (F k)
def ppE (kf : Nat) (R : Nat → Nat → Int32) : Option wE := (ppPos kf).map fun q => .inl (q.2.2, q.2.1, .inl (R kf))
def pph (m : Nat) (F : Nat → Int32) (O : Nat → Option Nat) (R : Nat → Nat → Int32) (h0 : Nat → Option wE) : Nat → Option wE := fun a =>
  if a = m then some (.inr (1, ppV m F O)) else if m < a ∧ a < m + 7 then ppE (ppFl.getD (a - m - 1) 0) R else h0 a
theorem ppFl_pos : ∀ j, j < 6 → (ppPos (ppFl.getD j 0)).map (fun q => q.1) = some j := by decide +kernel
theorem ppPos_fl : ∀ kf, kf < 7 → ∀ q, ppPos kf = some q → q.1 < 6 ∧ ppFl.getD q.1 0 = kf := by decide +kernel
theorem ppPos_lt {kf : Nat} {q : Nat × Nat × FieldType} (h : ppPos kf = some q) : kf < 7 := by
  unfold ppPos at h
  split at h <;> first | omega | cases h
theorem ppAd_in {kf : Nat} {q : Nat × Nat × FieldType} (m : Nat) (h : ppPos kf = some q) : m < ppAd m kf ∧ ppAd m kf < m + 7 ∧ ppFl.getD (ppAd m kf - m - 1) 0 = kf := by
  obtain ⟨h1, h2⟩ := ppPos_fl kf (ppPos_lt h) q h
  have e : ppAd m kf = m + 1 + q.1 := by simp [ppAd, h]
  refine ⟨by omega, by omega, ?_⟩
  rw [show ppAd m kf - m - 1 = q.1 by omega]
  exact h2
theorem ppAd_inj {m a kf : Nat} (h1 : m < a) (h2 : a < m + 7) (h3 : ppFl.getD (a - m - 1) 0 = kf) : a = ppAd m kf := by
  have h := ppFl_pos (a - m - 1) (by omega)
  rw [h3] at h
  simp only [ppAd, h]
  simp
  omega
section Spp
variable {m : Nat} {F : Nat → Int32} {O : Nat → Option Nat} {R : Nat → Nat → Int32} {h0 : Nat → Option wE}
theorem pph_obj : pph m F O R h0 m = some (.inr (1, ppV m F O)) := by simp [pph]
theorem pph_arr {kf : Nat} {q : Nat × Nat × FieldType} (h : ppPos kf = some q) : pph m F O R h0 (ppAd m kf) = some (.inl (q.2.2, q.2.1, .inl (R kf))) := by
  obtain ⟨h1, h2, h3⟩ := ppAd_in m h
  simp only [pph]
  rw [if_neg (by omega), if_pos ⟨h1, h2⟩, h3]
  simp [ppE, h]
theorem ppV_put {kf : Nat} (h : ppPos kf = none) (hb : ppOb kf = false) (v : Int32) : updV (ppV m F O) kf (.int v) = ppV m (upd F kf v) O := by
  funext k
  by_cases hk : k = kf
  · subst hk
    simp [updV, ppV, h, hb, upd]
  · simp [updV, ppV, hk, upd]
theorem pph_puto (F2 : Nat → Int32) (O2 : Nat → Option Nat) : va_up (pph m F O R h0) m (some (.inr (1, ppV m F2 O2))) = pph m F2 O2 R h0 := by
  funext a
  by_cases ha : a = m
  · subst ha
    simp [va_up, pph]
  · simp [va_up, pph, ha]
theorem pph_puta {kf : Nat} {q : Nat × Nat × FieldType} (h : ppPos kf = some q) (g : Nat → Int32) : va_up (pph m F O R h0) (ppAd m kf) (some (.inl (q.2.2, q.2.1, .inl g))) = pph m F O (va_up R kf g) h0 := by
  obtain ⟨h1, h2, h3⟩ := ppAd_in m h
  funext a
  by_cases ha : a = ppAd m kf
  · subst ha
    rw [pph_arr h]
    simp [va_up]
  · by_cases hm : a = m
    · subst hm
      simp [va_up, pph, ha]
    · simp only [va_up, if_neg ha, pph, if_neg hm]
      by_cases hb : m < a ∧ a < m + 7
      · rw [if_pos hb, if_pos hb]
        have hne : ppFl.getD (a - m - 1) 0 ≠ kf := fun e => ha (ppAd_inj hb.1 hb.2 e)
        simp only [ppE, va_up, if_neg hne]
      · rw [if_neg hb, if_neg hb]
variable {G : wG} {M : wM} {cc : ByteArray} {X : wX} {Z : State → Prop} {pc : Nat} {lv : List (Option Value)} {st : List Value} {k n sz index : Nat}
theorem pp_geti {kf : Nat} {ty : FieldType} {fin : Bool} (hd : decode cc pc = .ok (.getfield index, 3)) (L : wFl M.1.cls index 1 kf ty fin) (h : ppPos kf = none) (hb : ppOb kf = false) (kq : WW G M cc X Z (pc + 3) lv (.int (F kf) :: st) (pph m F O R h0, sz) k n) : WW G M cc X Z pc lv (.ref m :: st) (pph m F O R h0, sz) k n :=
  ww_get hd L pph_obj (by
    have : ppV m F O kf = .int (F kf) := by simp [ppV, h, hb]
    rw [this]; exact kq)
theorem pp_getr {kf : Nat} {ty : FieldType} {fin : Bool} {q : Nat × Nat × FieldType} (hd : decode cc pc = .ok (.getfield index, 3)) (L : wFl M.1.cls index 1 kf ty fin) (h : ppPos kf = some q) (kq : WW G M cc X Z (pc + 3) lv (.ref (ppAd m kf) :: st) (pph m F O R h0, sz) k n) : WW G M cc X Z pc lv (.ref m :: st) (pph m F O R h0, sz) k n :=
  ww_get hd L pph_obj (by
    have : ppV m F O kf = .ref (ppAd m kf) := by simp [ppV, h]
    rw [this]; exact kq)
theorem pp_puti {kf : Nat} {v : Int32} (hd : decode cc pc = .ok (.putfield index, 3)) (L : wFl M.1.cls index 1 kf .int false) (h : ppPos kf = none) (hb : ppOb kf = false) (kq : WW G M cc X Z (pc + 3) lv st (pph m (upd F kf v) O R h0, sz) k n) : WW G M cc X Z pc lv (.int v :: .ref m :: st) (pph m F O R h0, sz) k n :=
  ww_put hd L rfl rfl pph_obj (by dsimp only; rw [ppV_put h hb, pph_puto]; exact kq)
theorem pp_iald {kf j p0 nn : Nat} {i : Int32} (hd : decode cc pc = .ok (.iaload, 1)) (h : ppPos kf = some (p0, nn, .int)) (hi : i = nI j) (hj : j < nn) (hnn : Nat.blt nn 2147483648 = true) (kq : WW G M cc X Z (pc + 1) lv (.int (R kf j) :: st) (pph m F O R h0, sz) k n) : WW G M cc X Z pc lv (.int i :: .ref (ppAd m kf) :: st) (pph m F O R h0, sz) k n :=
  ww_iald hd (pph_arr h) hi hj (Nat.blt_eq.mp hnn) kq
theorem pp_iast {kf j p0 nn : Nat} {i x : Int32} (hd : decode cc pc = .ok (.iastore, 1)) (h : ppPos kf = some (p0, nn, .int)) (hi : i = nI j) (hj : j < nn) (hnn : Nat.blt nn 2147483648 = true) (kq : WW G M cc X Z (pc + 1) lv st (pph m F O (va_up R kf (upd (R kf) j x)) h0, sz) k n) : WW G M cc X Z pc lv (.int x :: .int i :: .ref (ppAd m kf) :: st) (pph m F O R h0, sz) k n := by
  refine ww_iast (f := R kf) hd (pph_arr h) hi hj (Nat.blt_eq.mp hnn) ?_
  have e := pph_puta (m := m) (F := F) (O := O) (R := R) (h0 := h0) h (upd (R kf) j x)
  dsimp only at e ⊢
  rw [e]
  exact kq
theorem pp_putz {kf : Nat} {v : Int32} (hd : decode cc pc = .ok (.putfield index, 3)) (L : wFl M.1.cls index 1 kf .boolean false) (h : ppPos kf = none) (hb : ppOb kf = false) (hv : v = 0 ∨ v = 1) (kq : WW G M cc X Z (pc + 3) lv st (pph m (upd F kf v) O R h0, sz) k n) : WW G M cc X Z pc lv (.int v :: .ref m :: st) (pph m F O R h0, sz) k n :=
  ww_put hd L (w_nb hv) (w_fb hv) pph_obj (by dsimp only; rw [ppV_put h hb, pph_puto]; exact kq)
theorem pp_zald {kf j p0 nn : Nat} {i : Int32} (hd : decode cc pc = .ok (.baload, 1)) (h : ppPos kf = some (p0, nn, .boolean)) (hi : i = nI j) (hj : j < nn) (hnn : Nat.blt nn 2147483648 = true) (kq : WW G M cc X Z (pc + 1) lv (.int (R kf j) :: st) (pph m F O R h0, sz) k n) : WW G M cc X Z pc lv (.int i :: .ref (ppAd m kf) :: st) (pph m F O R h0, sz) k n :=
  ww_zald hd (pph_arr h) hi hj (Nat.blt_eq.mp hnn) kq
theorem pp_bald {kf j p0 nn : Nat} {i : Int32} (hd : decode cc pc = .ok (.baload, 1)) (h : ppPos kf = some (p0, nn, .byte)) (hi : i = nI j) (hj : j < nn) (hnn : Nat.blt nn 2147483648 = true) (kq : WW G M cc X Z (pc + 1) lv (.int (R kf j) :: st) (pph m F O R h0, sz) k n) : WW G M cc X Z pc lv (.int i :: .ref (ppAd m kf) :: st) (pph m F O R h0, sz) k n :=
  ww_bald hd (pph_arr h) hi hj (Nat.blt_eq.mp hnn) kq
theorem pp_zast {kf j p0 nn : Nat} {i x : Int32} (hd : decode cc pc = .ok (.bastore, 1)) (h : ppPos kf = some (p0, nn, .boolean)) (hi : i = nI j) (hj : j < nn) (hnn : Nat.blt nn 2147483648 = true) (kq : WW G M cc X Z (pc + 1) lv st (pph m F O (va_up R kf (upd (R kf) j (vp_nar .boolean x))) h0, sz) k n) : WW G M cc X Z pc lv (.int x :: .int i :: .ref (ppAd m kf) :: st) (pph m F O R h0, sz) k n := by
  refine ww_zast (f := R kf) hd (pph_arr h) hi hj (Nat.blt_eq.mp hnn) ?_
  have e := pph_puta (m := m) (F := F) (O := O) (R := R) (h0 := h0) h (upd (R kf) j (vp_nar .boolean x))
  dsimp only at e ⊢
  rw [e]
  exact kq
theorem pp_bast {kf j p0 nn : Nat} {i x : Int32} (hd : decode cc pc = .ok (.bastore, 1)) (h : ppPos kf = some (p0, nn, .byte)) (hi : i = nI j) (hj : j < nn) (hnn : Nat.blt nn 2147483648 = true) (kq : WW G M cc X Z (pc + 1) lv st (pph m F O (va_up R kf (upd (R kf) j (vp_nar .byte x))) h0, sz) k n) : WW G M cc X Z pc lv (.int x :: .int i :: .ref (ppAd m kf) :: st) (pph m F O R h0, sz) k n := by
  refine ww_bast (f := R kf) hd (pph_arr h) hi hj (Nat.blt_eq.mp hnn) ?_
  have e := pph_puta (m := m) (F := F) (O := O) (R := R) (h0 := h0) h (upd (R kf) j (vp_nar .byte x))
  dsimp only at e ⊢
  rw [e]
  exact kq
theorem pp_geto {kf : Nat} {ty : FieldType} {fin : Bool} (hd : decode cc pc = .ok (.getfield index, 3)) (L : wFl M.1.cls index 1 kf ty fin) (h : ppPos kf = none) (hb : ppOb kf = true) (kq : WW G M cc X Z (pc + 3) lv (va_rf (O kf) :: st) (pph m F O R h0, sz) k n) : WW G M cc X Z pc lv (.ref m :: st) (pph m F O R h0, sz) k n :=
  ww_get hd L pph_obj (by
    have : ppV m F O kf = va_rf (O kf) := by simp [ppV, h, hb]
    rw [this]; exact kq)
theorem pp_call {Mc : wM} {na : Nat} {As st0 : List Value} {Q : Option Value → wH → Prop} {r : vw_C} (hd : decode cc pc = .ok (.invokevirtual index, 3)) (L : wCv M.1.cls index Mc na) (hr : wCl[1]? = some r) (hcl : r.1 = Mc.1.cls) (hs : Sat G Mc (.ref m :: As) (pph m F O R h0, sz) Q) (hst : st0 = As.reverse ++ .ref m :: st) (hna : As.length = na) (hlev : Nat.ble (Mc.2.2.2.2.1 + 1) M.2.2.2.2.1 = true) (hmx : Nat.ble Mc.2.2.1 15 = true) (hro : Nat.ble (st.map fun v => v.category).sum 8 = true) (hz : Mc.2.2.2.2.2 = (0, 0)) (hk : k ≤ M.2.2.2.2.2.1) (hn : n ≤ M.2.2.2.2.2.2) (kq : ∀ v h', Q v h' → WW G M cc X Z (pc + 3) lv (v.toList ++ st) h' k n) : WW G M cc X Z pc lv st0 (pph m F O R h0, sz) k n :=
  ww_callV hd L pph_obj hr hcl hs hst hna hlev hmx hro (by rw [hz]; exact hk) (by rw [hz]; exact hn) (by rw [hz]; exact kq)
theorem pp_call0 {Mc : wM} {na : Nat} {As st0 : List Value} {h' : wH} {r : vw_C} (hd : decode cc pc = .ok (.invokevirtual index, 3)) (L : wCv M.1.cls index Mc na) (hr : wCl[1]? = some r) (hcl : r.1 = Mc.1.cls) (hs : Sat G Mc (.ref m :: As) (pph m F O R h0, sz) (Det none h')) (hst : st0 = As.reverse ++ .ref m :: st) (hna : As.length = na) (hlev : Nat.ble (Mc.2.2.2.2.1 + 1) M.2.2.2.2.1 = true) (hmx : Nat.ble Mc.2.2.1 15 = true) (hro : Nat.ble (st.map fun v => v.category).sum 8 = true) (hz : Mc.2.2.2.2.2 = (0, 0)) (hk : k ≤ M.2.2.2.2.2.1) (hn : n ≤ M.2.2.2.2.2.2) (kq : WW G M cc X Z (pc + 3) lv st h' k n) : WW G M cc X Z pc lv st0 (pph m F O R h0, sz) k n :=
  pp_call hd L hr hcl hs hst hna hlev hmx hro hz hk hn (fun v h2 q => by obtain ⟨q1, q2⟩ := q; subst q1; subst q2; exact kq)
theorem pp_call1 {Mc : wM} {na : Nat} {As st0 : List Value} {h' : wH} {r : vw_C} {v : Value} (hd : decode cc pc = .ok (.invokevirtual index, 3)) (L : wCv M.1.cls index Mc na) (hr : wCl[1]? = some r) (hcl : r.1 = Mc.1.cls) (hs : Sat G Mc (.ref m :: As) (pph m F O R h0, sz) (Det (some v) h')) (hst : st0 = As.reverse ++ .ref m :: st) (hna : As.length = na) (hlev : Nat.ble (Mc.2.2.2.2.1 + 1) M.2.2.2.2.1 = true) (hmx : Nat.ble Mc.2.2.1 15 = true) (hro : Nat.ble (st.map fun v => v.category).sum 8 = true) (hz : Mc.2.2.2.2.2 = (0, 0)) (hk : k ≤ M.2.2.2.2.2.1) (hn : n ≤ M.2.2.2.2.2.2) (kq : WW G M cc X Z (pc + 3) lv (v :: st) h' k n) : WW G M cc X Z pc lv st0 (pph m F O R h0, sz) k n :=
  pp_call hd L hr hcl hs hst hna hlev hmx hro hz hk hn (fun v2 h2 q => by obtain ⟨q1, q2⟩ := q; subst q1; subst q2; exact kq)
end Spp
/-! TaskHouse$Tasks: an object and its 9 arrays behind it. F: int and boolean fields by number; O: fields that refer to other objects; R: arrays by their field's number -/
def ttPos : Nat → Option (Nat × Nat × FieldType) := fun k => match k with
  | 1 => some (0, 200, .int)
  | 2 => some (1, 200, .int)
  | 3 => some (2, 200, .int)
  | 4 => some (3, 200, .int)
  | 5 => some (4, 200, .int)
  | 6 => some (5, 200, .int)
  | 7 => some (6, 200, .int)
  | 8 => some (7, 200, .int)
  | 9 => some (8, 200, .int)
  | _ => none
def ttOb (k : Nat) : Bool := decide (10 ≤ k)
def ttFl : List Nat := [1, 2, 3, 4, 5, 6, 7, 8, 9]
def ttAd (m kf : Nat) : Nat := m + 1 + ((ttPos kf).map (fun q => q.1)).getD 0
def ttV (m : Nat) (F : Nat → Int32) (O : Nat → Option Nat) : Nat → Value := fun k => match ttPos k with
  | some _ => .ref (ttAd m k)
  | none => if ttOb k = true then va_rf (O k) else .int (F k)
def ttE (kf : Nat) (R : Nat → Nat → Int32) : Option wE := (ttPos kf).map fun q => .inl (q.2.2, q.2.1, .inl (R kf))
def tth (m : Nat) (F : Nat → Int32) (O : Nat → Option Nat) (R : Nat → Nat → Int32) (h0 : Nat → Option wE) : Nat → Option wE := fun a =>
  if a = m then some (.inr (5, ttV m F O)) else if m < a ∧ a < m + 10 then ttE (ttFl.getD (a - m - 1) 0) R else h0 a
theorem ttFl_pos : ∀ j, j < 9 → (ttPos (ttFl.getD j 0)).map (fun q => q.1) = some j := by decide +kernel
theorem ttPos_fl : ∀ kf, kf < 10 → ∀ q, ttPos kf = some q → q.1 < 9 ∧ ttFl.getD q.1 0 = kf := by decide +kernel
theorem ttPos_lt {kf : Nat} {q : Nat × Nat × FieldType} (h : ttPos kf = some q) : kf < 10 := by
  unfold ttPos at h
  split at h <;> first | omega | cases h
theorem ttAd_in {kf : Nat} {q : Nat × Nat × FieldType} (m : Nat) (h : ttPos kf = some q) : m < ttAd m kf ∧ ttAd m kf < m + 10 ∧ ttFl.getD (ttAd m kf - m - 1) 0 = kf := by
  obtain ⟨h1, h2⟩ := ttPos_fl kf (ttPos_lt h) q h
  have e : ttAd m kf = m + 1 + q.1 := by simp [ttAd, h]
  refine ⟨by omega, by omega, ?_⟩
  rw [show ttAd m kf - m - 1 = q.1 by omega]
  exact h2
theorem ttAd_inj {m a kf : Nat} (h1 : m < a) (h2 : a < m + 10) (h3 : ttFl.getD (a - m - 1) 0 = kf) : a = ttAd m kf := by
  have h := ttFl_pos (a - m - 1) (by omega)
  rw [h3] at h
  simp only [ttAd, h]
  simp
  omega
section Stt
variable {m : Nat} {F : Nat → Int32} {O : Nat → Option Nat} {R : Nat → Nat → Int32} {h0 : Nat → Option wE}
theorem tth_obj : tth m F O R h0 m = some (.inr (5, ttV m F O)) := by simp [tth]
theorem tth_arr {kf : Nat} {q : Nat × Nat × FieldType} (h : ttPos kf = some q) : tth m F O R h0 (ttAd m kf) = some (.inl (q.2.2, q.2.1, .inl (R kf))) := by
  obtain ⟨h1, h2, h3⟩ := ttAd_in m h
  simp only [tth]
  rw [if_neg (by omega), if_pos ⟨h1, h2⟩, h3]
  simp [ttE, h]
theorem ttV_put {kf : Nat} (h : ttPos kf = none) (hb : ttOb kf = false) (v : Int32) : updV (ttV m F O) kf (.int v) = ttV m (upd F kf v) O := by
  funext k
  by_cases hk : k = kf
  · subst hk
    simp [updV, ttV, h, hb, upd]
  · simp [updV, ttV, hk, upd]
theorem tth_puto (F2 : Nat → Int32) (O2 : Nat → Option Nat) : va_up (tth m F O R h0) m (some (.inr (5, ttV m F2 O2))) = tth m F2 O2 R h0 := by
  funext a
  by_cases ha : a = m
  · subst ha
    simp [va_up, tth]
  · simp [va_up, tth, ha]
theorem tth_puta {kf : Nat} {q : Nat × Nat × FieldType} (h : ttPos kf = some q) (g : Nat → Int32) : va_up (tth m F O R h0) (ttAd m kf) (some (.inl (q.2.2, q.2.1, .inl g))) = tth m F O (va_up R kf g) h0 := by
  obtain ⟨h1, h2, h3⟩ := ttAd_in m h
  funext a
  by_cases ha : a = ttAd m kf
  · subst ha
    rw [tth_arr h]
    simp [va_up]
  · by_cases hm : a = m
    · subst hm
      simp [va_up, tth, ha]
    · simp only [va_up, if_neg ha, tth, if_neg hm]
      by_cases hb : m < a ∧ a < m + 10
      · rw [if_pos hb, if_pos hb]
        have hne : ttFl.getD (a - m - 1) 0 ≠ kf := fun e => ha (ttAd_inj hb.1 hb.2 e)
        simp only [ttE, va_up, if_neg hne]
      · rw [if_neg hb, if_neg hb]
variable {G : wG} {M : wM} {cc : ByteArray} {X : wX} {Z : State → Prop} {pc : Nat} {lv : List (Option Value)} {st : List Value} {k n sz index : Nat}
theorem tt_geti {kf : Nat} {ty : FieldType} {fin : Bool} (hd : decode cc pc = .ok (.getfield index, 3)) (L : wFl M.1.cls index 5 kf ty fin) (h : ttPos kf = none) (hb : ttOb kf = false) (kq : WW G M cc X Z (pc + 3) lv (.int (F kf) :: st) (tth m F O R h0, sz) k n) : WW G M cc X Z pc lv (.ref m :: st) (tth m F O R h0, sz) k n :=
  ww_get hd L tth_obj (by
    have : ttV m F O kf = .int (F kf) := by simp [ttV, h, hb]
    rw [this]; exact kq)
theorem tt_getr {kf : Nat} {ty : FieldType} {fin : Bool} {q : Nat × Nat × FieldType} (hd : decode cc pc = .ok (.getfield index, 3)) (L : wFl M.1.cls index 5 kf ty fin) (h : ttPos kf = some q) (kq : WW G M cc X Z (pc + 3) lv (.ref (ttAd m kf) :: st) (tth m F O R h0, sz) k n) : WW G M cc X Z pc lv (.ref m :: st) (tth m F O R h0, sz) k n :=
  ww_get hd L tth_obj (by
    have : ttV m F O kf = .ref (ttAd m kf) := by simp [ttV, h]
    rw [this]; exact kq)
theorem tt_puti {kf : Nat} {v : Int32} (hd : decode cc pc = .ok (.putfield index, 3)) (L : wFl M.1.cls index 5 kf .int false) (h : ttPos kf = none) (hb : ttOb kf = false) (kq : WW G M cc X Z (pc + 3) lv st (tth m (upd F kf v) O R h0, sz) k n) : WW G M cc X Z pc lv (.int v :: .ref m :: st) (tth m F O R h0, sz) k n :=
  ww_put hd L rfl rfl tth_obj (by dsimp only; rw [ttV_put h hb, tth_puto]; exact kq)
theorem tt_iald {kf j p0 nn : Nat} {i : Int32} (hd : decode cc pc = .ok (.iaload, 1)) (h : ttPos kf = some (p0, nn, .int)) (hi : i = nI j) (hj : j < nn) (hnn : Nat.blt nn 2147483648 = true) (kq : WW G M cc X Z (pc + 1) lv (.int (R kf j) :: st) (tth m F O R h0, sz) k n) : WW G M cc X Z pc lv (.int i :: .ref (ttAd m kf) :: st) (tth m F O R h0, sz) k n :=
  ww_iald hd (tth_arr h) hi hj (Nat.blt_eq.mp hnn) kq
theorem tt_iast {kf j p0 nn : Nat} {i x : Int32} (hd : decode cc pc = .ok (.iastore, 1)) (h : ttPos kf = some (p0, nn, .int)) (hi : i = nI j) (hj : j < nn) (hnn : Nat.blt nn 2147483648 = true) (kq : WW G M cc X Z (pc + 1) lv st (tth m F O (va_up R kf (upd (R kf) j x)) h0, sz) k n) : WW G M cc X Z pc lv (.int x :: .int i :: .ref (ttAd m kf) :: st) (tth m F O R h0, sz) k n := by
  refine ww_iast (f := R kf) hd (tth_arr h) hi hj (Nat.blt_eq.mp hnn) ?_
  have e := tth_puta (m := m) (F := F) (O := O) (R := R) (h0 := h0) h (upd (R kf) j x)
  dsimp only at e ⊢
  rw [e]
  exact kq
theorem tt_putz {kf : Nat} {v : Int32} (hd : decode cc pc = .ok (.putfield index, 3)) (L : wFl M.1.cls index 5 kf .boolean false) (h : ttPos kf = none) (hb : ttOb kf = false) (hv : v = 0 ∨ v = 1) (kq : WW G M cc X Z (pc + 3) lv st (tth m (upd F kf v) O R h0, sz) k n) : WW G M cc X Z pc lv (.int v :: .ref m :: st) (tth m F O R h0, sz) k n :=
  ww_put hd L (w_nb hv) (w_fb hv) tth_obj (by dsimp only; rw [ttV_put h hb, tth_puto]; exact kq)
theorem tt_zald {kf j p0 nn : Nat} {i : Int32} (hd : decode cc pc = .ok (.baload, 1)) (h : ttPos kf = some (p0, nn, .boolean)) (hi : i = nI j) (hj : j < nn) (hnn : Nat.blt nn 2147483648 = true) (kq : WW G M cc X Z (pc + 1) lv (.int (R kf j) :: st) (tth m F O R h0, sz) k n) : WW G M cc X Z pc lv (.int i :: .ref (ttAd m kf) :: st) (tth m F O R h0, sz) k n :=
  ww_zald hd (tth_arr h) hi hj (Nat.blt_eq.mp hnn) kq
theorem tt_bald {kf j p0 nn : Nat} {i : Int32} (hd : decode cc pc = .ok (.baload, 1)) (h : ttPos kf = some (p0, nn, .byte)) (hi : i = nI j) (hj : j < nn) (hnn : Nat.blt nn 2147483648 = true) (kq : WW G M cc X Z (pc + 1) lv (.int (R kf j) :: st) (tth m F O R h0, sz) k n) : WW G M cc X Z pc lv (.int i :: .ref (ttAd m kf) :: st) (tth m F O R h0, sz) k n :=
  ww_bald hd (tth_arr h) hi hj (Nat.blt_eq.mp hnn) kq
theorem tt_zast {kf j p0 nn : Nat} {i x : Int32} (hd : decode cc pc = .ok (.bastore, 1)) (h : ttPos kf = some (p0, nn, .boolean)) (hi : i = nI j) (hj : j < nn) (hnn : Nat.blt nn 2147483648 = true) (kq : WW G M cc X Z (pc + 1) lv st (tth m F O (va_up R kf (upd (R kf) j (vp_nar .boolean x))) h0, sz) k n) : WW G M cc X Z pc lv (.int x :: .int i :: .ref (ttAd m kf) :: st) (tth m F O R h0, sz) k n := by
  refine ww_zast (f := R kf) hd (tth_arr h) hi hj (Nat.blt_eq.mp hnn) ?_
  have e := tth_puta (m := m) (F := F) (O := O) (R := R) (h0 := h0) h (upd (R kf) j (vp_nar .boolean x))
  dsimp only at e ⊢
  rw [e]
  exact kq
theorem tt_bast {kf j p0 nn : Nat} {i x : Int32} (hd : decode cc pc = .ok (.bastore, 1)) (h : ttPos kf = some (p0, nn, .byte)) (hi : i = nI j) (hj : j < nn) (hnn : Nat.blt nn 2147483648 = true) (kq : WW G M cc X Z (pc + 1) lv st (tth m F O (va_up R kf (upd (R kf) j (vp_nar .byte x))) h0, sz) k n) : WW G M cc X Z pc lv (.int x :: .int i :: .ref (ttAd m kf) :: st) (tth m F O R h0, sz) k n := by
  refine ww_bast (f := R kf) hd (tth_arr h) hi hj (Nat.blt_eq.mp hnn) ?_
  have e := tth_puta (m := m) (F := F) (O := O) (R := R) (h0 := h0) h (upd (R kf) j (vp_nar .byte x))
  dsimp only at e ⊢
  rw [e]
  exact kq
theorem tt_geto {kf : Nat} {ty : FieldType} {fin : Bool} (hd : decode cc pc = .ok (.getfield index, 3)) (L : wFl M.1.cls index 5 kf ty fin) (h : ttPos kf = none) (hb : ttOb kf = true) (kq : WW G M cc X Z (pc + 3) lv (va_rf (O kf) :: st) (tth m F O R h0, sz) k n) : WW G M cc X Z pc lv (.ref m :: st) (tth m F O R h0, sz) k n :=
  ww_get hd L tth_obj (by
    have : ttV m F O kf = va_rf (O kf) := by simp [ttV, h, hb]
    rw [this]; exact kq)
theorem tt_call {Mc : wM} {na : Nat} {As st0 : List Value} {Q : Option Value → wH → Prop} {r : vw_C} (hd : decode cc pc = .ok (.invokevirtual index, 3)) (L : wCv M.1.cls index Mc na) (hr : wCl[5]? = some r) (hcl : r.1 = Mc.1.cls) (hs : Sat G Mc (.ref m :: As) (tth m F O R h0, sz) Q) (hst : st0 = As.reverse ++ .ref m :: st) (hna : As.length = na) (hlev : Nat.ble (Mc.2.2.2.2.1 + 1) M.2.2.2.2.1 = true) (hmx : Nat.ble Mc.2.2.1 15 = true) (hro : Nat.ble (st.map fun v => v.category).sum 8 = true) (hz : Mc.2.2.2.2.2 = (0, 0)) (hk : k ≤ M.2.2.2.2.2.1) (hn : n ≤ M.2.2.2.2.2.2) (kq : ∀ v h', Q v h' → WW G M cc X Z (pc + 3) lv (v.toList ++ st) h' k n) : WW G M cc X Z pc lv st0 (tth m F O R h0, sz) k n :=
  ww_callV hd L tth_obj hr hcl hs hst hna hlev hmx hro (by rw [hz]; exact hk) (by rw [hz]; exact hn) (by rw [hz]; exact kq)
theorem tt_call0 {Mc : wM} {na : Nat} {As st0 : List Value} {h' : wH} {r : vw_C} (hd : decode cc pc = .ok (.invokevirtual index, 3)) (L : wCv M.1.cls index Mc na) (hr : wCl[5]? = some r) (hcl : r.1 = Mc.1.cls) (hs : Sat G Mc (.ref m :: As) (tth m F O R h0, sz) (Det none h')) (hst : st0 = As.reverse ++ .ref m :: st) (hna : As.length = na) (hlev : Nat.ble (Mc.2.2.2.2.1 + 1) M.2.2.2.2.1 = true) (hmx : Nat.ble Mc.2.2.1 15 = true) (hro : Nat.ble (st.map fun v => v.category).sum 8 = true) (hz : Mc.2.2.2.2.2 = (0, 0)) (hk : k ≤ M.2.2.2.2.2.1) (hn : n ≤ M.2.2.2.2.2.2) (kq : WW G M cc X Z (pc + 3) lv st h' k n) : WW G M cc X Z pc lv st0 (tth m F O R h0, sz) k n :=
  tt_call hd L hr hcl hs hst hna hlev hmx hro hz hk hn (fun v h2 q => by obtain ⟨q1, q2⟩ := q; subst q1; subst q2; exact kq)
theorem tt_call1 {Mc : wM} {na : Nat} {As st0 : List Value} {h' : wH} {r : vw_C} {v : Value} (hd : decode cc pc = .ok (.invokevirtual index, 3)) (L : wCv M.1.cls index Mc na) (hr : wCl[5]? = some r) (hcl : r.1 = Mc.1.cls) (hs : Sat G Mc (.ref m :: As) (tth m F O R h0, sz) (Det (some v) h')) (hst : st0 = As.reverse ++ .ref m :: st) (hna : As.length = na) (hlev : Nat.ble (Mc.2.2.2.2.1 + 1) M.2.2.2.2.1 = true) (hmx : Nat.ble Mc.2.2.1 15 = true) (hro : Nat.ble (st.map fun v => v.category).sum 8 = true) (hz : Mc.2.2.2.2.2 = (0, 0)) (hk : k ≤ M.2.2.2.2.2.1) (hn : n ≤ M.2.2.2.2.2.2) (kq : WW G M cc X Z (pc + 3) lv (v :: st) h' k n) : WW G M cc X Z pc lv st0 (tth m F O R h0, sz) k n :=
  tt_call hd L hr hcl hs hst hna hlev hmx hro hz hk hn (fun v2 h2 q => by obtain ⟨q1, q2⟩ := q; subst q1; subst q2; exact kq)
end Stt
/-! TaskHouse$Walk: an object and its 4 arrays behind it. F: int and boolean fields by number; O: fields that refer to other objects; R: arrays by their field's number -/
def waPos : Nat → Option (Nat × Nat × FieldType) := fun k => match k with
  | 0 => some (0, 4, .int)
  | 1 => some (1, 40, .int)
  | 2 => some (2, 40, .int)
  | 5 => some (3, 40, .int)
  | _ => none
def waOb (k : Nat) : Bool := false
def waFl : List Nat := [0, 1, 2, 5]
def waAd (m kf : Nat) : Nat := m + 1 + ((waPos kf).map (fun q => q.1)).getD 0
def waV (m : Nat) (F : Nat → Int32) (O : Nat → Option Nat) : Nat → Value := fun k => match waPos k with
  | some _ => .ref (waAd m k)
  | none => if waOb k = true then va_rf (O k) else .int (F k)
def waE (kf : Nat) (R : Nat → Nat → Int32) : Option wE := (waPos kf).map fun q => .inl (q.2.2, q.2.1, .inl (R kf))
def wah (m : Nat) (F : Nat → Int32) (O : Nat → Option Nat) (R : Nat → Nat → Int32) (h0 : Nat → Option wE) : Nat → Option wE := fun a =>
  if a = m then some (.inr (6, waV m F O)) else if m < a ∧ a < m + 5 then waE (waFl.getD (a - m - 1) 0) R else h0 a
theorem waFl_pos : ∀ j, j < 4 → (waPos (waFl.getD j 0)).map (fun q => q.1) = some j := by decide +kernel
theorem waPos_fl : ∀ kf, kf < 7 → ∀ q, waPos kf = some q → q.1 < 4 ∧ waFl.getD q.1 0 = kf := by decide +kernel
theorem waPos_lt {kf : Nat} {q : Nat × Nat × FieldType} (h : waPos kf = some q) : kf < 7 := by
  unfold waPos at h
  split at h <;> first | omega | cases h
theorem waAd_in {kf : Nat} {q : Nat × Nat × FieldType} (m : Nat) (h : waPos kf = some q) : m < waAd m kf ∧ waAd m kf < m + 5 ∧ waFl.getD (waAd m kf - m - 1) 0 = kf := by
  obtain ⟨h1, h2⟩ := waPos_fl kf (waPos_lt h) q h
  have e : waAd m kf = m + 1 + q.1 := by simp [waAd, h]
  refine ⟨by omega, by omega, ?_⟩
  rw [show waAd m kf - m - 1 = q.1 by omega]
  exact h2
theorem waAd_inj {m a kf : Nat} (h1 : m < a) (h2 : a < m + 5) (h3 : waFl.getD (a - m - 1) 0 = kf) : a = waAd m kf := by
  have h := waFl_pos (a - m - 1) (by omega)
  rw [h3] at h
  simp only [waAd, h]
  simp
  omega
section Swa
variable {m : Nat} {F : Nat → Int32} {O : Nat → Option Nat} {R : Nat → Nat → Int32} {h0 : Nat → Option wE}
theorem wah_obj : wah m F O R h0 m = some (.inr (6, waV m F O)) := by simp [wah]
theorem wah_arr {kf : Nat} {q : Nat × Nat × FieldType} (h : waPos kf = some q) : wah m F O R h0 (waAd m kf) = some (.inl (q.2.2, q.2.1, .inl (R kf))) := by
  obtain ⟨h1, h2, h3⟩ := waAd_in m h
  simp only [wah]
  rw [if_neg (by omega), if_pos ⟨h1, h2⟩, h3]
  simp [waE, h]
theorem waV_put {kf : Nat} (h : waPos kf = none) (hb : waOb kf = false) (v : Int32) : updV (waV m F O) kf (.int v) = waV m (upd F kf v) O := by
  funext k
  by_cases hk : k = kf
  · subst hk
    simp [updV, waV, h, hb, upd]
  · simp [updV, waV, hk, upd]
theorem wah_puto (F2 : Nat → Int32) (O2 : Nat → Option Nat) : va_up (wah m F O R h0) m (some (.inr (6, waV m F2 O2))) = wah m F2 O2 R h0 := by
  funext a
  by_cases ha : a = m
  · subst ha
    simp [va_up, wah]
  · simp [va_up, wah, ha]
theorem wah_puta {kf : Nat} {q : Nat × Nat × FieldType} (h : waPos kf = some q) (g : Nat → Int32) : va_up (wah m F O R h0) (waAd m kf) (some (.inl (q.2.2, q.2.1, .inl g))) = wah m F O (va_up R kf g) h0 := by
  obtain ⟨h1, h2, h3⟩ := waAd_in m h
  funext a
  by_cases ha : a = waAd m kf
  · subst ha
    rw [wah_arr h]
    simp [va_up]
  · by_cases hm : a = m
    · subst hm
      simp [va_up, wah, ha]
    · simp only [va_up, if_neg ha, wah, if_neg hm]
      by_cases hb : m < a ∧ a < m + 5
      · rw [if_pos hb, if_pos hb]
        have hne : waFl.getD (a - m - 1) 0 ≠ kf := fun e => ha (waAd_inj hb.1 hb.2 e)
        simp only [waE, va_up, if_neg hne]
      · rw [if_neg hb, if_neg hb]
variable {G : wG} {M : wM} {cc : ByteArray} {X : wX} {Z : State → Prop} {pc : Nat} {lv : List (Option Value)} {st : List Value} {k n sz index : Nat}
theorem wa_geti {kf : Nat} {ty : FieldType} {fin : Bool} (hd : decode cc pc = .ok (.getfield index, 3)) (L : wFl M.1.cls index 6 kf ty fin) (h : waPos kf = none) (hb : waOb kf = false) (kq : WW G M cc X Z (pc + 3) lv (.int (F kf) :: st) (wah m F O R h0, sz) k n) : WW G M cc X Z pc lv (.ref m :: st) (wah m F O R h0, sz) k n :=
  ww_get hd L wah_obj (by
    have : waV m F O kf = .int (F kf) := by simp [waV, h, hb]
    rw [this]; exact kq)
theorem wa_getr {kf : Nat} {ty : FieldType} {fin : Bool} {q : Nat × Nat × FieldType} (hd : decode cc pc = .ok (.getfield index, 3)) (L : wFl M.1.cls index 6 kf ty fin) (h : waPos kf = some q) (kq : WW G M cc X Z (pc + 3) lv (.ref (waAd m kf) :: st) (wah m F O R h0, sz) k n) : WW G M cc X Z pc lv (.ref m :: st) (wah m F O R h0, sz) k n :=
  ww_get hd L wah_obj (by
    have : waV m F O kf = .ref (waAd m kf) := by simp [waV, h]
    rw [this]; exact kq)
theorem wa_puti {kf : Nat} {v : Int32} (hd : decode cc pc = .ok (.putfield index, 3)) (L : wFl M.1.cls index 6 kf .int false) (h : waPos kf = none) (hb : waOb kf = false) (kq : WW G M cc X Z (pc + 3) lv st (wah m (upd F kf v) O R h0, sz) k n) : WW G M cc X Z pc lv (.int v :: .ref m :: st) (wah m F O R h0, sz) k n :=
  ww_put hd L rfl rfl wah_obj (by dsimp only; rw [waV_put h hb, wah_puto]; exact kq)
theorem wa_iald {kf j p0 nn : Nat} {i : Int32} (hd : decode cc pc = .ok (.iaload, 1)) (h : waPos kf = some (p0, nn, .int)) (hi : i = nI j) (hj : j < nn) (hnn : Nat.blt nn 2147483648 = true) (kq : WW G M cc X Z (pc + 1) lv (.int (R kf j) :: st) (wah m F O R h0, sz) k n) : WW G M cc X Z pc lv (.int i :: .ref (waAd m kf) :: st) (wah m F O R h0, sz) k n :=
  ww_iald hd (wah_arr h) hi hj (Nat.blt_eq.mp hnn) kq
theorem wa_iast {kf j p0 nn : Nat} {i x : Int32} (hd : decode cc pc = .ok (.iastore, 1)) (h : waPos kf = some (p0, nn, .int)) (hi : i = nI j) (hj : j < nn) (hnn : Nat.blt nn 2147483648 = true) (kq : WW G M cc X Z (pc + 1) lv st (wah m F O (va_up R kf (upd (R kf) j x)) h0, sz) k n) : WW G M cc X Z pc lv (.int x :: .int i :: .ref (waAd m kf) :: st) (wah m F O R h0, sz) k n := by
  refine ww_iast (f := R kf) hd (wah_arr h) hi hj (Nat.blt_eq.mp hnn) ?_
  have e := wah_puta (m := m) (F := F) (O := O) (R := R) (h0 := h0) h (upd (R kf) j x)
  dsimp only at e ⊢
  rw [e]
  exact kq
theorem wa_putz {kf : Nat} {v : Int32} (hd : decode cc pc = .ok (.putfield index, 3)) (L : wFl M.1.cls index 6 kf .boolean false) (h : waPos kf = none) (hb : waOb kf = false) (hv : v = 0 ∨ v = 1) (kq : WW G M cc X Z (pc + 3) lv st (wah m (upd F kf v) O R h0, sz) k n) : WW G M cc X Z pc lv (.int v :: .ref m :: st) (wah m F O R h0, sz) k n :=
  ww_put hd L (w_nb hv) (w_fb hv) wah_obj (by dsimp only; rw [waV_put h hb, wah_puto]; exact kq)
theorem wa_zald {kf j p0 nn : Nat} {i : Int32} (hd : decode cc pc = .ok (.baload, 1)) (h : waPos kf = some (p0, nn, .boolean)) (hi : i = nI j) (hj : j < nn) (hnn : Nat.blt nn 2147483648 = true) (kq : WW G M cc X Z (pc + 1) lv (.int (R kf j) :: st) (wah m F O R h0, sz) k n) : WW G M cc X Z pc lv (.int i :: .ref (waAd m kf) :: st) (wah m F O R h0, sz) k n :=
  ww_zald hd (wah_arr h) hi hj (Nat.blt_eq.mp hnn) kq
theorem wa_bald {kf j p0 nn : Nat} {i : Int32} (hd : decode cc pc = .ok (.baload, 1)) (h : waPos kf = some (p0, nn, .byte)) (hi : i = nI j) (hj : j < nn) (hnn : Nat.blt nn 2147483648 = true) (kq : WW G M cc X Z (pc + 1) lv (.int (R kf j) :: st) (wah m F O R h0, sz) k n) : WW G M cc X Z pc lv (.int i :: .ref (waAd m kf) :: st) (wah m F O R h0, sz) k n :=
  ww_bald hd (wah_arr h) hi hj (Nat.blt_eq.mp hnn) kq
theorem wa_zast {kf j p0 nn : Nat} {i x : Int32} (hd : decode cc pc = .ok (.bastore, 1)) (h : waPos kf = some (p0, nn, .boolean)) (hi : i = nI j) (hj : j < nn) (hnn : Nat.blt nn 2147483648 = true) (kq : WW G M cc X Z (pc + 1) lv st (wah m F O (va_up R kf (upd (R kf) j (vp_nar .boolean x))) h0, sz) k n) : WW G M cc X Z pc lv (.int x :: .int i :: .ref (waAd m kf) :: st) (wah m F O R h0, sz) k n := by
  refine ww_zast (f := R kf) hd (wah_arr h) hi hj (Nat.blt_eq.mp hnn) ?_
  have e := wah_puta (m := m) (F := F) (O := O) (R := R) (h0 := h0) h (upd (R kf) j (vp_nar .boolean x))
  dsimp only at e ⊢
  rw [e]
  exact kq
theorem wa_bast {kf j p0 nn : Nat} {i x : Int32} (hd : decode cc pc = .ok (.bastore, 1)) (h : waPos kf = some (p0, nn, .byte)) (hi : i = nI j) (hj : j < nn) (hnn : Nat.blt nn 2147483648 = true) (kq : WW G M cc X Z (pc + 1) lv st (wah m F O (va_up R kf (upd (R kf) j (vp_nar .byte x))) h0, sz) k n) : WW G M cc X Z pc lv (.int x :: .int i :: .ref (waAd m kf) :: st) (wah m F O R h0, sz) k n := by
  refine ww_bast (f := R kf) hd (wah_arr h) hi hj (Nat.blt_eq.mp hnn) ?_
  have e := wah_puta (m := m) (F := F) (O := O) (R := R) (h0 := h0) h (upd (R kf) j (vp_nar .byte x))
  dsimp only at e ⊢
  rw [e]
  exact kq
theorem wa_geto {kf : Nat} {ty : FieldType} {fin : Bool} (hd : decode cc pc = .ok (.getfield index, 3)) (L : wFl M.1.cls index 6 kf ty fin) (h : waPos kf = none) (hb : waOb kf = true) (kq : WW G M cc X Z (pc + 3) lv (va_rf (O kf) :: st) (wah m F O R h0, sz) k n) : WW G M cc X Z pc lv (.ref m :: st) (wah m F O R h0, sz) k n :=
  ww_get hd L wah_obj (by
    have : waV m F O kf = va_rf (O kf) := by simp [waV, h, hb]
    rw [this]; exact kq)
theorem wa_call {Mc : wM} {na : Nat} {As st0 : List Value} {Q : Option Value → wH → Prop} {r : vw_C} (hd : decode cc pc = .ok (.invokevirtual index, 3)) (L : wCv M.1.cls index Mc na) (hr : wCl[6]? = some r) (hcl : r.1 = Mc.1.cls) (hs : Sat G Mc (.ref m :: As) (wah m F O R h0, sz) Q) (hst : st0 = As.reverse ++ .ref m :: st) (hna : As.length = na) (hlev : Nat.ble (Mc.2.2.2.2.1 + 1) M.2.2.2.2.1 = true) (hmx : Nat.ble Mc.2.2.1 15 = true) (hro : Nat.ble (st.map fun v => v.category).sum 8 = true) (hz : Mc.2.2.2.2.2 = (0, 0)) (hk : k ≤ M.2.2.2.2.2.1) (hn : n ≤ M.2.2.2.2.2.2) (kq : ∀ v h', Q v h' → WW G M cc X Z (pc + 3) lv (v.toList ++ st) h' k n) : WW G M cc X Z pc lv st0 (wah m F O R h0, sz) k n :=
  ww_callV hd L wah_obj hr hcl hs hst hna hlev hmx hro (by rw [hz]; exact hk) (by rw [hz]; exact hn) (by rw [hz]; exact kq)
theorem wa_call0 {Mc : wM} {na : Nat} {As st0 : List Value} {h' : wH} {r : vw_C} (hd : decode cc pc = .ok (.invokevirtual index, 3)) (L : wCv M.1.cls index Mc na) (hr : wCl[6]? = some r) (hcl : r.1 = Mc.1.cls) (hs : Sat G Mc (.ref m :: As) (wah m F O R h0, sz) (Det none h')) (hst : st0 = As.reverse ++ .ref m :: st) (hna : As.length = na) (hlev : Nat.ble (Mc.2.2.2.2.1 + 1) M.2.2.2.2.1 = true) (hmx : Nat.ble Mc.2.2.1 15 = true) (hro : Nat.ble (st.map fun v => v.category).sum 8 = true) (hz : Mc.2.2.2.2.2 = (0, 0)) (hk : k ≤ M.2.2.2.2.2.1) (hn : n ≤ M.2.2.2.2.2.2) (kq : WW G M cc X Z (pc + 3) lv st h' k n) : WW G M cc X Z pc lv st0 (wah m F O R h0, sz) k n :=
  wa_call hd L hr hcl hs hst hna hlev hmx hro hz hk hn (fun v h2 q => by obtain ⟨q1, q2⟩ := q; subst q1; subst q2; exact kq)
theorem wa_call1 {Mc : wM} {na : Nat} {As st0 : List Value} {h' : wH} {r : vw_C} {v : Value} (hd : decode cc pc = .ok (.invokevirtual index, 3)) (L : wCv M.1.cls index Mc na) (hr : wCl[6]? = some r) (hcl : r.1 = Mc.1.cls) (hs : Sat G Mc (.ref m :: As) (wah m F O R h0, sz) (Det (some v) h')) (hst : st0 = As.reverse ++ .ref m :: st) (hna : As.length = na) (hlev : Nat.ble (Mc.2.2.2.2.1 + 1) M.2.2.2.2.1 = true) (hmx : Nat.ble Mc.2.2.1 15 = true) (hro : Nat.ble (st.map fun v => v.category).sum 8 = true) (hz : Mc.2.2.2.2.2 = (0, 0)) (hk : k ≤ M.2.2.2.2.2.1) (hn : n ≤ M.2.2.2.2.2.2) (kq : WW G M cc X Z (pc + 3) lv (v :: st) h' k n) : WW G M cc X Z pc lv st0 (wah m F O R h0, sz) k n :=
  wa_call hd L hr hcl hs hst hna hlev hmx hro hz hk hn (fun v2 h2 q => by obtain ⟨q1, q2⟩ := q; subst q1; subst q2; exact kq)
end Swa
/-! TaskHouse$Tape: an object and its 2 arrays behind it. F: int and boolean fields by number; O: fields that refer to other objects; R: arrays by their field's number -/
def taPos : Nat → Option (Nat × Nat × FieldType) := fun k => match k with
  | 0 => some (0, 300, .byte)
  | 6 => some (1, 9, .int)
  | _ => none
def taOb (k : Nat) : Bool := decide (7 ≤ k)
def taFl : List Nat := [0, 6]
def taAd (m kf : Nat) : Nat := m + 1 + ((taPos kf).map (fun q => q.1)).getD 0
def taV (m : Nat) (F : Nat → Int32) (O : Nat → Option Nat) : Nat → Value := fun k => match taPos k with
  | some _ => .ref (taAd m k)
  | none => if taOb k = true then va_rf (O k) else .int (F k)
def taE (kf : Nat) (R : Nat → Nat → Int32) : Option wE := (taPos kf).map fun q => .inl (q.2.2, q.2.1, .inl (R kf))
def tah (m : Nat) (F : Nat → Int32) (O : Nat → Option Nat) (R : Nat → Nat → Int32) (h0 : Nat → Option wE) : Nat → Option wE := fun a =>
  if a = m then some (.inr (4, taV m F O)) else if m < a ∧ a < m + 3 then taE (taFl.getD (a - m - 1) 0) R else h0 a
theorem taFl_pos : ∀ j, j < 2 → (taPos (taFl.getD j 0)).map (fun q => q.1) = some j := by decide +kernel
theorem taPos_fl : ∀ kf, kf < 7 → ∀ q, taPos kf = some q → q.1 < 2 ∧ taFl.getD q.1 0 = kf := by decide +kernel
theorem taPos_lt {kf : Nat} {q : Nat × Nat × FieldType} (h : taPos kf = some q) : kf < 7 := by
  unfold taPos at h
  split at h <;> first | omega | cases h
theorem taAd_in {kf : Nat} {q : Nat × Nat × FieldType} (m : Nat) (h : taPos kf = some q) : m < taAd m kf ∧ taAd m kf < m + 3 ∧ taFl.getD (taAd m kf - m - 1) 0 = kf := by
  obtain ⟨h1, h2⟩ := taPos_fl kf (taPos_lt h) q h
  have e : taAd m kf = m + 1 + q.1 := by simp [taAd, h]
  refine ⟨by omega, by omega, ?_⟩
  rw [show taAd m kf - m - 1 = q.1 by omega]
  exact h2
theorem taAd_inj {m a kf : Nat} (h1 : m < a) (h2 : a < m + 3) (h3 : taFl.getD (a - m - 1) 0 = kf) : a = taAd m kf := by
  have h := taFl_pos (a - m - 1) (by omega)
  rw [h3] at h
  simp only [taAd, h]
  simp
  omega
section Sta
variable {m : Nat} {F : Nat → Int32} {O : Nat → Option Nat} {R : Nat → Nat → Int32} {h0 : Nat → Option wE}
theorem tah_obj : tah m F O R h0 m = some (.inr (4, taV m F O)) := by simp [tah]
theorem tah_arr {kf : Nat} {q : Nat × Nat × FieldType} (h : taPos kf = some q) : tah m F O R h0 (taAd m kf) = some (.inl (q.2.2, q.2.1, .inl (R kf))) := by
  obtain ⟨h1, h2, h3⟩ := taAd_in m h
  simp only [tah]
  rw [if_neg (by omega), if_pos ⟨h1, h2⟩, h3]
  simp [taE, h]
theorem taV_put {kf : Nat} (h : taPos kf = none) (hb : taOb kf = false) (v : Int32) : updV (taV m F O) kf (.int v) = taV m (upd F kf v) O := by
  funext k
  by_cases hk : k = kf
  · subst hk
    simp [updV, taV, h, hb, upd]
  · simp [updV, taV, hk, upd]
theorem tah_puto (F2 : Nat → Int32) (O2 : Nat → Option Nat) : va_up (tah m F O R h0) m (some (.inr (4, taV m F2 O2))) = tah m F2 O2 R h0 := by
  funext a
  by_cases ha : a = m
  · subst ha
    simp [va_up, tah]
  · simp [va_up, tah, ha]
theorem tah_puta {kf : Nat} {q : Nat × Nat × FieldType} (h : taPos kf = some q) (g : Nat → Int32) : va_up (tah m F O R h0) (taAd m kf) (some (.inl (q.2.2, q.2.1, .inl g))) = tah m F O (va_up R kf g) h0 := by
  obtain ⟨h1, h2, h3⟩ := taAd_in m h
  funext a
  by_cases ha : a = taAd m kf
  · subst ha
    rw [tah_arr h]
    simp [va_up]
  · by_cases hm : a = m
    · subst hm
      simp [va_up, tah, ha]
    · simp only [va_up, if_neg ha, tah, if_neg hm]
      by_cases hb : m < a ∧ a < m + 3
      · rw [if_pos hb, if_pos hb]
        have hne : taFl.getD (a - m - 1) 0 ≠ kf := fun e => ha (taAd_inj hb.1 hb.2 e)
        simp only [taE, va_up, if_neg hne]
      · rw [if_neg hb, if_neg hb]
variable {G : wG} {M : wM} {cc : ByteArray} {X : wX} {Z : State → Prop} {pc : Nat} {lv : List (Option Value)} {st : List Value} {k n sz index : Nat}
theorem ta_geti {kf : Nat} {ty : FieldType} {fin : Bool} (hd : decode cc pc = .ok (.getfield index, 3)) (L : wFl M.1.cls index 4 kf ty fin) (h : taPos kf = none) (hb : taOb kf = false) (kq : WW G M cc X Z (pc + 3) lv (.int (F kf) :: st) (tah m F O R h0, sz) k n) : WW G M cc X Z pc lv (.ref m :: st) (tah m F O R h0, sz) k n :=
  ww_get hd L tah_obj (by
    have : taV m F O kf = .int (F kf) := by simp [taV, h, hb]
    rw [this]; exact kq)
theorem ta_getr {kf : Nat} {ty : FieldType} {fin : Bool} {q : Nat × Nat × FieldType} (hd : decode cc pc = .ok (.getfield index, 3)) (L : wFl M.1.cls index 4 kf ty fin) (h : taPos kf = some q) (kq : WW G M cc X Z (pc + 3) lv (.ref (taAd m kf) :: st) (tah m F O R h0, sz) k n) : WW G M cc X Z pc lv (.ref m :: st) (tah m F O R h0, sz) k n :=
  ww_get hd L tah_obj (by
    have : taV m F O kf = .ref (taAd m kf) := by simp [taV, h]
    rw [this]; exact kq)
theorem ta_puti {kf : Nat} {v : Int32} (hd : decode cc pc = .ok (.putfield index, 3)) (L : wFl M.1.cls index 4 kf .int false) (h : taPos kf = none) (hb : taOb kf = false) (kq : WW G M cc X Z (pc + 3) lv st (tah m (upd F kf v) O R h0, sz) k n) : WW G M cc X Z pc lv (.int v :: .ref m :: st) (tah m F O R h0, sz) k n :=
  ww_put hd L rfl rfl tah_obj (by dsimp only; rw [taV_put h hb, tah_puto]; exact kq)
theorem ta_iald {kf j p0 nn : Nat} {i : Int32} (hd : decode cc pc = .ok (.iaload, 1)) (h : taPos kf = some (p0, nn, .int)) (hi : i = nI j) (hj : j < nn) (hnn : Nat.blt nn 2147483648 = true) (kq : WW G M cc X Z (pc + 1) lv (.int (R kf j) :: st) (tah m F O R h0, sz) k n) : WW G M cc X Z pc lv (.int i :: .ref (taAd m kf) :: st) (tah m F O R h0, sz) k n :=
  ww_iald hd (tah_arr h) hi hj (Nat.blt_eq.mp hnn) kq
theorem ta_iast {kf j p0 nn : Nat} {i x : Int32} (hd : decode cc pc = .ok (.iastore, 1)) (h : taPos kf = some (p0, nn, .int)) (hi : i = nI j) (hj : j < nn) (hnn : Nat.blt nn 2147483648 = true) (kq : WW G M cc X Z (pc + 1) lv st (tah m F O (va_up R kf (upd (R kf) j x)) h0, sz) k n) : WW G M cc X Z pc lv (.int x :: .int i :: .ref (taAd m kf) :: st) (tah m F O R h0, sz) k n := by
  refine ww_iast (f := R kf) hd (tah_arr h) hi hj (Nat.blt_eq.mp hnn) ?_
  have e := tah_puta (m := m) (F := F) (O := O) (R := R) (h0 := h0) h (upd (R kf) j x)
  dsimp only at e ⊢
  rw [e]
  exact kq
theorem ta_putz {kf : Nat} {v : Int32} (hd : decode cc pc = .ok (.putfield index, 3)) (L : wFl M.1.cls index 4 kf .boolean false) (h : taPos kf = none) (hb : taOb kf = false) (hv : v = 0 ∨ v = 1) (kq : WW G M cc X Z (pc + 3) lv st (tah m (upd F kf v) O R h0, sz) k n) : WW G M cc X Z pc lv (.int v :: .ref m :: st) (tah m F O R h0, sz) k n :=
  ww_put hd L (w_nb hv) (w_fb hv) tah_obj (by dsimp only; rw [taV_put h hb, tah_puto]; exact kq)
theorem ta_zald {kf j p0 nn : Nat} {i : Int32} (hd : decode cc pc = .ok (.baload, 1)) (h : taPos kf = some (p0, nn, .boolean)) (hi : i = nI j) (hj : j < nn) (hnn : Nat.blt nn 2147483648 = true) (kq : WW G M cc X Z (pc + 1) lv (.int (R kf j) :: st) (tah m F O R h0, sz) k n) : WW G M cc X Z pc lv (.int i :: .ref (taAd m kf) :: st) (tah m F O R h0, sz) k n :=
  ww_zald hd (tah_arr h) hi hj (Nat.blt_eq.mp hnn) kq
theorem ta_bald {kf j p0 nn : Nat} {i : Int32} (hd : decode cc pc = .ok (.baload, 1)) (h : taPos kf = some (p0, nn, .byte)) (hi : i = nI j) (hj : j < nn) (hnn : Nat.blt nn 2147483648 = true) (kq : WW G M cc X Z (pc + 1) lv (.int (R kf j) :: st) (tah m F O R h0, sz) k n) : WW G M cc X Z pc lv (.int i :: .ref (taAd m kf) :: st) (tah m F O R h0, sz) k n :=
  ww_bald hd (tah_arr h) hi hj (Nat.blt_eq.mp hnn) kq
theorem ta_zast {kf j p0 nn : Nat} {i x : Int32} (hd : decode cc pc = .ok (.bastore, 1)) (h : taPos kf = some (p0, nn, .boolean)) (hi : i = nI j) (hj : j < nn) (hnn : Nat.blt nn 2147483648 = true) (kq : WW G M cc X Z (pc + 1) lv st (tah m F O (va_up R kf (upd (R kf) j (vp_nar .boolean x))) h0, sz) k n) : WW G M cc X Z pc lv (.int x :: .int i :: .ref (taAd m kf) :: st) (tah m F O R h0, sz) k n := by
  refine ww_zast (f := R kf) hd (tah_arr h) hi hj (Nat.blt_eq.mp hnn) ?_
  have e := tah_puta (m := m) (F := F) (O := O) (R := R) (h0 := h0) h (upd (R kf) j (vp_nar .boolean x))
  dsimp only at e ⊢
  rw [e]
  exact kq
theorem ta_bast {kf j p0 nn : Nat} {i x : Int32} (hd : decode cc pc = .ok (.bastore, 1)) (h : taPos kf = some (p0, nn, .byte)) (hi : i = nI j) (hj : j < nn) (hnn : Nat.blt nn 2147483648 = true) (kq : WW G M cc X Z (pc + 1) lv st (tah m F O (va_up R kf (upd (R kf) j (vp_nar .byte x))) h0, sz) k n) : WW G M cc X Z pc lv (.int x :: .int i :: .ref (taAd m kf) :: st) (tah m F O R h0, sz) k n := by
  refine ww_bast (f := R kf) hd (tah_arr h) hi hj (Nat.blt_eq.mp hnn) ?_
  have e := tah_puta (m := m) (F := F) (O := O) (R := R) (h0 := h0) h (upd (R kf) j (vp_nar .byte x))
  dsimp only at e ⊢
  rw [e]
  exact kq
theorem ta_geto {kf : Nat} {ty : FieldType} {fin : Bool} (hd : decode cc pc = .ok (.getfield index, 3)) (L : wFl M.1.cls index 4 kf ty fin) (h : taPos kf = none) (hb : taOb kf = true) (kq : WW G M cc X Z (pc + 3) lv (va_rf (O kf) :: st) (tah m F O R h0, sz) k n) : WW G M cc X Z pc lv (.ref m :: st) (tah m F O R h0, sz) k n :=
  ww_get hd L tah_obj (by
    have : taV m F O kf = va_rf (O kf) := by simp [taV, h, hb]
    rw [this]; exact kq)
theorem ta_call {Mc : wM} {na : Nat} {As st0 : List Value} {Q : Option Value → wH → Prop} {r : vw_C} (hd : decode cc pc = .ok (.invokevirtual index, 3)) (L : wCv M.1.cls index Mc na) (hr : wCl[4]? = some r) (hcl : r.1 = Mc.1.cls) (hs : Sat G Mc (.ref m :: As) (tah m F O R h0, sz) Q) (hst : st0 = As.reverse ++ .ref m :: st) (hna : As.length = na) (hlev : Nat.ble (Mc.2.2.2.2.1 + 1) M.2.2.2.2.1 = true) (hmx : Nat.ble Mc.2.2.1 15 = true) (hro : Nat.ble (st.map fun v => v.category).sum 8 = true) (hz : Mc.2.2.2.2.2 = (0, 0)) (hk : k ≤ M.2.2.2.2.2.1) (hn : n ≤ M.2.2.2.2.2.2) (kq : ∀ v h', Q v h' → WW G M cc X Z (pc + 3) lv (v.toList ++ st) h' k n) : WW G M cc X Z pc lv st0 (tah m F O R h0, sz) k n :=
  ww_callV hd L tah_obj hr hcl hs hst hna hlev hmx hro (by rw [hz]; exact hk) (by rw [hz]; exact hn) (by rw [hz]; exact kq)
theorem ta_call0 {Mc : wM} {na : Nat} {As st0 : List Value} {h' : wH} {r : vw_C} (hd : decode cc pc = .ok (.invokevirtual index, 3)) (L : wCv M.1.cls index Mc na) (hr : wCl[4]? = some r) (hcl : r.1 = Mc.1.cls) (hs : Sat G Mc (.ref m :: As) (tah m F O R h0, sz) (Det none h')) (hst : st0 = As.reverse ++ .ref m :: st) (hna : As.length = na) (hlev : Nat.ble (Mc.2.2.2.2.1 + 1) M.2.2.2.2.1 = true) (hmx : Nat.ble Mc.2.2.1 15 = true) (hro : Nat.ble (st.map fun v => v.category).sum 8 = true) (hz : Mc.2.2.2.2.2 = (0, 0)) (hk : k ≤ M.2.2.2.2.2.1) (hn : n ≤ M.2.2.2.2.2.2) (kq : WW G M cc X Z (pc + 3) lv st h' k n) : WW G M cc X Z pc lv st0 (tah m F O R h0, sz) k n :=
  ta_call hd L hr hcl hs hst hna hlev hmx hro hz hk hn (fun v h2 q => by obtain ⟨q1, q2⟩ := q; subst q1; subst q2; exact kq)
theorem ta_call1 {Mc : wM} {na : Nat} {As st0 : List Value} {h' : wH} {r : vw_C} {v : Value} (hd : decode cc pc = .ok (.invokevirtual index, 3)) (L : wCv M.1.cls index Mc na) (hr : wCl[4]? = some r) (hcl : r.1 = Mc.1.cls) (hs : Sat G Mc (.ref m :: As) (tah m F O R h0, sz) (Det (some v) h')) (hst : st0 = As.reverse ++ .ref m :: st) (hna : As.length = na) (hlev : Nat.ble (Mc.2.2.2.2.1 + 1) M.2.2.2.2.1 = true) (hmx : Nat.ble Mc.2.2.1 15 = true) (hro : Nat.ble (st.map fun v => v.category).sum 8 = true) (hz : Mc.2.2.2.2.2 = (0, 0)) (hk : k ≤ M.2.2.2.2.2.1) (hn : n ≤ M.2.2.2.2.2.2) (kq : WW G M cc X Z (pc + 3) lv (v :: st) h' k n) : WW G M cc X Z pc lv st0 (tah m F O R h0, sz) k n :=
  ta_call hd L hr hcl hs hst hna hlev hmx hro hz hk hn (fun v2 h2 q => by obtain ⟨q1, q2⟩ := q; subst q1; subst q2; exact kq)
end Sta
/-! TaskHouse$Run: an object and its 3 arrays behind it. F: int and boolean fields by number; O: fields that refer to other objects; R: arrays by their field's number -/
def rrPos : Nat → Option (Nat × Nat × FieldType) := fun k => match k with
  | 2 => some (0, 4, .int)
  | 3 => some (1, 40, .int)
  | 4 => some (2, 40, .int)
  | _ => none
def rrOb (k : Nat) : Bool := k == 1
def rrFl : List Nat := [2, 3, 4]
def rrAd (m kf : Nat) : Nat := m + 1 + ((rrPos kf).map (fun q => q.1)).getD 0
def rrV (m : Nat) (F : Nat → Int32) (O : Nat → Option Nat) : Nat → Value := fun k => match rrPos k with
  | some _ => .ref (rrAd m k)
  | none => if rrOb k = true then va_rf (O k) else .int (F k)
def rrE (kf : Nat) (R : Nat → Nat → Int32) : Option wE := (rrPos kf).map fun q => .inl (q.2.2, q.2.1, .inl (R kf))
def rrh (m : Nat) (F : Nat → Int32) (O : Nat → Option Nat) (R : Nat → Nat → Int32) (h0 : Nat → Option wE) : Nat → Option wE := fun a =>
  if a = m then some (.inr (3, rrV m F O)) else if m < a ∧ a < m + 4 then rrE (rrFl.getD (a - m - 1) 0) R else h0 a
theorem rrFl_pos : ∀ j, j < 3 → (rrPos (rrFl.getD j 0)).map (fun q => q.1) = some j := by decide +kernel
theorem rrPos_fl : ∀ kf, kf < 7 → ∀ q, rrPos kf = some q → q.1 < 3 ∧ rrFl.getD q.1 0 = kf := by decide +kernel
theorem rrPos_lt {kf : Nat} {q : Nat × Nat × FieldType} (h : rrPos kf = some q) : kf < 7 := by
  unfold rrPos at h
  split at h <;> first | omega | cases h
theorem rrAd_in {kf : Nat} {q : Nat × Nat × FieldType} (m : Nat) (h : rrPos kf = some q) : m < rrAd m kf ∧ rrAd m kf < m + 4 ∧ rrFl.getD (rrAd m kf - m - 1) 0 = kf := by
  obtain ⟨h1, h2⟩ := rrPos_fl kf (rrPos_lt h) q h
  have e : rrAd m kf = m + 1 + q.1 := by simp [rrAd, h]
  refine ⟨by omega, by omega, ?_⟩
  rw [show rrAd m kf - m - 1 = q.1 by omega]
  exact h2
theorem rrAd_inj {m a kf : Nat} (h1 : m < a) (h2 : a < m + 4) (h3 : rrFl.getD (a - m - 1) 0 = kf) : a = rrAd m kf := by
  have h := rrFl_pos (a - m - 1) (by omega)
  rw [h3] at h
  simp only [rrAd, h]
  simp
  omega
section Srr
variable {m : Nat} {F : Nat → Int32} {O : Nat → Option Nat} {R : Nat → Nat → Int32} {h0 : Nat → Option wE}
theorem rrh_obj : rrh m F O R h0 m = some (.inr (3, rrV m F O)) := by simp [rrh]
theorem rrh_arr {kf : Nat} {q : Nat × Nat × FieldType} (h : rrPos kf = some q) : rrh m F O R h0 (rrAd m kf) = some (.inl (q.2.2, q.2.1, .inl (R kf))) := by
  obtain ⟨h1, h2, h3⟩ := rrAd_in m h
  simp only [rrh]
  rw [if_neg (by omega), if_pos ⟨h1, h2⟩, h3]
  simp [rrE, h]
theorem rrV_put {kf : Nat} (h : rrPos kf = none) (hb : rrOb kf = false) (v : Int32) : updV (rrV m F O) kf (.int v) = rrV m (upd F kf v) O := by
  funext k
  by_cases hk : k = kf
  · subst hk
    simp [updV, rrV, h, hb, upd]
  · simp [updV, rrV, hk, upd]
theorem rrh_puto (F2 : Nat → Int32) (O2 : Nat → Option Nat) : va_up (rrh m F O R h0) m (some (.inr (3, rrV m F2 O2))) = rrh m F2 O2 R h0 := by
  funext a
  by_cases ha : a = m
  · subst ha
    simp [va_up, rrh]
  · simp [va_up, rrh, ha]
theorem rrh_puta {kf : Nat} {q : Nat × Nat × FieldType} (h : rrPos kf = some q) (g : Nat → Int32) : va_up (rrh m F O R h0) (rrAd m kf) (some (.inl (q.2.2, q.2.1, .inl g))) = rrh m F O (va_up R kf g) h0 := by
  obtain ⟨h1, h2, h3⟩ := rrAd_in m h
  funext a
  by_cases ha : a = rrAd m kf
  · subst ha
    rw [rrh_arr h]
    simp [va_up]
  · by_cases hm : a = m
    · subst hm
      simp [va_up, rrh, ha]
    · simp only [va_up, if_neg ha, rrh, if_neg hm]
      by_cases hb : m < a ∧ a < m + 4
      · rw [if_pos hb, if_pos hb]
        have hne : rrFl.getD (a - m - 1) 0 ≠ kf := fun e => ha (rrAd_inj hb.1 hb.2 e)
        simp only [rrE, va_up, if_neg hne]
      · rw [if_neg hb, if_neg hb]
variable {G : wG} {M : wM} {cc : ByteArray} {X : wX} {Z : State → Prop} {pc : Nat} {lv : List (Option Value)} {st : List Value} {k n sz index : Nat}
theorem rr_geti {kf : Nat} {ty : FieldType} {fin : Bool} (hd : decode cc pc = .ok (.getfield index, 3)) (L : wFl M.1.cls index 3 kf ty fin) (h : rrPos kf = none) (hb : rrOb kf = false) (kq : WW G M cc X Z (pc + 3) lv (.int (F kf) :: st) (rrh m F O R h0, sz) k n) : WW G M cc X Z pc lv (.ref m :: st) (rrh m F O R h0, sz) k n :=
  ww_get hd L rrh_obj (by
    have : rrV m F O kf = .int (F kf) := by simp [rrV, h, hb]
    rw [this]; exact kq)
theorem rr_getr {kf : Nat} {ty : FieldType} {fin : Bool} {q : Nat × Nat × FieldType} (hd : decode cc pc = .ok (.getfield index, 3)) (L : wFl M.1.cls index 3 kf ty fin) (h : rrPos kf = some q) (kq : WW G M cc X Z (pc + 3) lv (.ref (rrAd m kf) :: st) (rrh m F O R h0, sz) k n) : WW G M cc X Z pc lv (.ref m :: st) (rrh m F O R h0, sz) k n :=
  ww_get hd L rrh_obj (by
    have : rrV m F O kf = .ref (rrAd m kf) := by simp [rrV, h]
    rw [this]; exact kq)
theorem rr_puti {kf : Nat} {v : Int32} (hd : decode cc pc = .ok (.putfield index, 3)) (L : wFl M.1.cls index 3 kf .int false) (h : rrPos kf = none) (hb : rrOb kf = false) (kq : WW G M cc X Z (pc + 3) lv st (rrh m (upd F kf v) O R h0, sz) k n) : WW G M cc X Z pc lv (.int v :: .ref m :: st) (rrh m F O R h0, sz) k n :=
  ww_put hd L rfl rfl rrh_obj (by dsimp only; rw [rrV_put h hb, rrh_puto]; exact kq)
theorem rr_iald {kf j p0 nn : Nat} {i : Int32} (hd : decode cc pc = .ok (.iaload, 1)) (h : rrPos kf = some (p0, nn, .int)) (hi : i = nI j) (hj : j < nn) (hnn : Nat.blt nn 2147483648 = true) (kq : WW G M cc X Z (pc + 1) lv (.int (R kf j) :: st) (rrh m F O R h0, sz) k n) : WW G M cc X Z pc lv (.int i :: .ref (rrAd m kf) :: st) (rrh m F O R h0, sz) k n :=
  ww_iald hd (rrh_arr h) hi hj (Nat.blt_eq.mp hnn) kq
theorem rr_iast {kf j p0 nn : Nat} {i x : Int32} (hd : decode cc pc = .ok (.iastore, 1)) (h : rrPos kf = some (p0, nn, .int)) (hi : i = nI j) (hj : j < nn) (hnn : Nat.blt nn 2147483648 = true) (kq : WW G M cc X Z (pc + 1) lv st (rrh m F O (va_up R kf (upd (R kf) j x)) h0, sz) k n) : WW G M cc X Z pc lv (.int x :: .int i :: .ref (rrAd m kf) :: st) (rrh m F O R h0, sz) k n := by
  refine ww_iast (f := R kf) hd (rrh_arr h) hi hj (Nat.blt_eq.mp hnn) ?_
  have e := rrh_puta (m := m) (F := F) (O := O) (R := R) (h0 := h0) h (upd (R kf) j x)
  dsimp only at e ⊢
  rw [e]
  exact kq
theorem rr_putz {kf : Nat} {v : Int32} (hd : decode cc pc = .ok (.putfield index, 3)) (L : wFl M.1.cls index 3 kf .boolean false) (h : rrPos kf = none) (hb : rrOb kf = false) (hv : v = 0 ∨ v = 1) (kq : WW G M cc X Z (pc + 3) lv st (rrh m (upd F kf v) O R h0, sz) k n) : WW G M cc X Z pc lv (.int v :: .ref m :: st) (rrh m F O R h0, sz) k n :=
  ww_put hd L (w_nb hv) (w_fb hv) rrh_obj (by dsimp only; rw [rrV_put h hb, rrh_puto]; exact kq)
theorem rr_zald {kf j p0 nn : Nat} {i : Int32} (hd : decode cc pc = .ok (.baload, 1)) (h : rrPos kf = some (p0, nn, .boolean)) (hi : i = nI j) (hj : j < nn) (hnn : Nat.blt nn 2147483648 = true) (kq : WW G M cc X Z (pc + 1) lv (.int (R kf j) :: st) (rrh m F O R h0, sz) k n) : WW G M cc X Z pc lv (.int i :: .ref (rrAd m kf) :: st) (rrh m F O R h0, sz) k n :=
  ww_zald hd (rrh_arr h) hi hj (Nat.blt_eq.mp hnn) kq
theorem rr_bald {kf j p0 nn : Nat} {i : Int32} (hd : decode cc pc = .ok (.baload, 1)) (h : rrPos kf = some (p0, nn, .byte)) (hi : i = nI j) (hj : j < nn) (hnn : Nat.blt nn 2147483648 = true) (kq : WW G M cc X Z (pc + 1) lv (.int (R kf j) :: st) (rrh m F O R h0, sz) k n) : WW G M cc X Z pc lv (.int i :: .ref (rrAd m kf) :: st) (rrh m F O R h0, sz) k n :=
  ww_bald hd (rrh_arr h) hi hj (Nat.blt_eq.mp hnn) kq
theorem rr_zast {kf j p0 nn : Nat} {i x : Int32} (hd : decode cc pc = .ok (.bastore, 1)) (h : rrPos kf = some (p0, nn, .boolean)) (hi : i = nI j) (hj : j < nn) (hnn : Nat.blt nn 2147483648 = true) (kq : WW G M cc X Z (pc + 1) lv st (rrh m F O (va_up R kf (upd (R kf) j (vp_nar .boolean x))) h0, sz) k n) : WW G M cc X Z pc lv (.int x :: .int i :: .ref (rrAd m kf) :: st) (rrh m F O R h0, sz) k n := by
  refine ww_zast (f := R kf) hd (rrh_arr h) hi hj (Nat.blt_eq.mp hnn) ?_
  have e := rrh_puta (m := m) (F := F) (O := O) (R := R) (h0 := h0) h (upd (R kf) j (vp_nar .boolean x))
  dsimp only at e ⊢
  rw [e]
  exact kq
theorem rr_bast {kf j p0 nn : Nat} {i x : Int32} (hd : decode cc pc = .ok (.bastore, 1)) (h : rrPos kf = some (p0, nn, .byte)) (hi : i = nI j) (hj : j < nn) (hnn : Nat.blt nn 2147483648 = true) (kq : WW G M cc X Z (pc + 1) lv st (rrh m F O (va_up R kf (upd (R kf) j (vp_nar .byte x))) h0, sz) k n) : WW G M cc X Z pc lv (.int x :: .int i :: .ref (rrAd m kf) :: st) (rrh m F O R h0, sz) k n := by
  refine ww_bast (f := R kf) hd (rrh_arr h) hi hj (Nat.blt_eq.mp hnn) ?_
  have e := rrh_puta (m := m) (F := F) (O := O) (R := R) (h0 := h0) h (upd (R kf) j (vp_nar .byte x))
  dsimp only at e ⊢
  rw [e]
  exact kq
theorem rr_geto {kf : Nat} {ty : FieldType} {fin : Bool} (hd : decode cc pc = .ok (.getfield index, 3)) (L : wFl M.1.cls index 3 kf ty fin) (h : rrPos kf = none) (hb : rrOb kf = true) (kq : WW G M cc X Z (pc + 3) lv (va_rf (O kf) :: st) (rrh m F O R h0, sz) k n) : WW G M cc X Z pc lv (.ref m :: st) (rrh m F O R h0, sz) k n :=
  ww_get hd L rrh_obj (by
    have : rrV m F O kf = va_rf (O kf) := by simp [rrV, h, hb]
    rw [this]; exact kq)
theorem rr_call {Mc : wM} {na : Nat} {As st0 : List Value} {Q : Option Value → wH → Prop} {r : vw_C} (hd : decode cc pc = .ok (.invokevirtual index, 3)) (L : wCv M.1.cls index Mc na) (hr : wCl[3]? = some r) (hcl : r.1 = Mc.1.cls) (hs : Sat G Mc (.ref m :: As) (rrh m F O R h0, sz) Q) (hst : st0 = As.reverse ++ .ref m :: st) (hna : As.length = na) (hlev : Nat.ble (Mc.2.2.2.2.1 + 1) M.2.2.2.2.1 = true) (hmx : Nat.ble Mc.2.2.1 15 = true) (hro : Nat.ble (st.map fun v => v.category).sum 8 = true) (hz : Mc.2.2.2.2.2 = (0, 0)) (hk : k ≤ M.2.2.2.2.2.1) (hn : n ≤ M.2.2.2.2.2.2) (kq : ∀ v h', Q v h' → WW G M cc X Z (pc + 3) lv (v.toList ++ st) h' k n) : WW G M cc X Z pc lv st0 (rrh m F O R h0, sz) k n :=
  ww_callV hd L rrh_obj hr hcl hs hst hna hlev hmx hro (by rw [hz]; exact hk) (by rw [hz]; exact hn) (by rw [hz]; exact kq)
theorem rr_call0 {Mc : wM} {na : Nat} {As st0 : List Value} {h' : wH} {r : vw_C} (hd : decode cc pc = .ok (.invokevirtual index, 3)) (L : wCv M.1.cls index Mc na) (hr : wCl[3]? = some r) (hcl : r.1 = Mc.1.cls) (hs : Sat G Mc (.ref m :: As) (rrh m F O R h0, sz) (Det none h')) (hst : st0 = As.reverse ++ .ref m :: st) (hna : As.length = na) (hlev : Nat.ble (Mc.2.2.2.2.1 + 1) M.2.2.2.2.1 = true) (hmx : Nat.ble Mc.2.2.1 15 = true) (hro : Nat.ble (st.map fun v => v.category).sum 8 = true) (hz : Mc.2.2.2.2.2 = (0, 0)) (hk : k ≤ M.2.2.2.2.2.1) (hn : n ≤ M.2.2.2.2.2.2) (kq : WW G M cc X Z (pc + 3) lv st h' k n) : WW G M cc X Z pc lv st0 (rrh m F O R h0, sz) k n :=
  rr_call hd L hr hcl hs hst hna hlev hmx hro hz hk hn (fun v h2 q => by obtain ⟨q1, q2⟩ := q; subst q1; subst q2; exact kq)
theorem rr_call1 {Mc : wM} {na : Nat} {As st0 : List Value} {h' : wH} {r : vw_C} {v : Value} (hd : decode cc pc = .ok (.invokevirtual index, 3)) (L : wCv M.1.cls index Mc na) (hr : wCl[3]? = some r) (hcl : r.1 = Mc.1.cls) (hs : Sat G Mc (.ref m :: As) (rrh m F O R h0, sz) (Det (some v) h')) (hst : st0 = As.reverse ++ .ref m :: st) (hna : As.length = na) (hlev : Nat.ble (Mc.2.2.2.2.1 + 1) M.2.2.2.2.1 = true) (hmx : Nat.ble Mc.2.2.1 15 = true) (hro : Nat.ble (st.map fun v => v.category).sum 8 = true) (hz : Mc.2.2.2.2.2 = (0, 0)) (hk : k ≤ M.2.2.2.2.2.1) (hn : n ≤ M.2.2.2.2.2.2) (kq : WW G M cc X Z (pc + 3) lv (v :: st) h' k n) : WW G M cc X Z pc lv st0 (rrh m F O R h0, sz) k n :=
  rr_call hd L hr hcl hs hst hna hlev hmx hro hz hk hn (fun v2 h2 q => by obtain ⟨q1, q2⟩ := q; subst q1; subst q2; exact kq)
end Srr
