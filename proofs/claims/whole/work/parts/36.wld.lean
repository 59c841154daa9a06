/-! TaskHouse$Reader: an object and its 7 arrays behind it. F: int and boolean fields by number; O: fields that refer to other objects; R: arrays by their field's number -/
def rdPos : Nat → Option (Nat × Nat × FieldType) := fun k => match k with
  | 6 => some (0, 40, .int)
  | 8 => some (1, 4, .int)
  | 9 => some (2, 4, .int)
  | 10 => some (3, 4, .int)
  | 11 => some (4, 4, .boolean)
  | 12 => some (5, 4, .boolean)
  | 13 => some (6, 5, .boolean)
  | _ => none
def rdOb (k : Nat) : Bool := k == 0 || k == 3 || decide (14 ≤ k)
def rdFl : List Nat := [6, 8, 9, 10, 11, 12, 13]
def rdAd (m kf : Nat) : Nat := m + 13 + ((rdPos kf).map (fun q => q.1)).getD 0
def rdV (m : Nat) (F : Nat → Int32) (O : Nat → Option Nat) : Nat → Value := fun k => match rdPos k with
  | some _ => .ref (rdAd m k)
  | none => if rdOb k = true then va_rf (O k) else .int (F k)
def rdE (kf : Nat) (R : Nat → Nat → Int32) : Option wE := (rdPos kf).map fun q => .inl (q.2.2, q.2.1, .inl (R kf))
def rdh (m : Nat) (F : Nat → Int32) (O : Nat → Option Nat) (R : Nat → Nat → Int32) (h0 : Nat → Option wE) : Nat → Option wE := fun a =>
  if a = m then some (.inr (2, rdV m F O)) else if m + 12 < a ∧ a < m + 20 then rdE (rdFl.getD (a - m - 13) 0) R else h0 a
theorem rdFl_pos : ∀ j, j < 7 → (rdPos (rdFl.getD j 0)).map (fun q => q.1) = some j := by decide +kernel
theorem rdPos_fl : ∀ kf, kf < 14 → ∀ q, rdPos kf = some q → q.1 < 7 ∧ rdFl.getD q.1 0 = kf := by decide +kernel
theorem rdPos_lt {kf : Nat} {q : Nat × Nat × FieldType} (h : rdPos kf = some q) : kf < 14 := by
  unfold rdPos at h
  split at h <;> first | omega | cases h
theorem rdAd_in {kf : Nat} {q : Nat × Nat × FieldType} (m : Nat) (h : rdPos kf = some q) : m + 12 < rdAd m kf ∧ rdAd m kf < m + 20 ∧ rdFl.getD (rdAd m kf - m - 13) 0 = kf := by
  obtain ⟨h1, h2⟩ := rdPos_fl kf (rdPos_lt h) q h
  have e : rdAd m kf = m + 13 + q.1 := by simp [rdAd, h]
  refine ⟨by omega, by omega, ?_⟩
  rw [show rdAd m kf - m - 13 = q.1 by omega]
  exact h2
theorem rdAd_inj {m a kf : Nat} (h1 : m + 12 < a) (h2 : a < m + 20) (h3 : rdFl.getD (a - m - 13) 0 = kf) : a = rdAd m kf := by
  have h := rdFl_pos (a - m - 13) (by omega)
  rw [h3] at h
  simp only [rdAd, h]
  simp
  omega
section Srd
variable {m : Nat} {F : Nat → Int32} {O : Nat → Option Nat} {R : Nat → Nat → Int32} {h0 : Nat → Option wE}
theorem rdh_obj : rdh m F O R h0 m = some (.inr (2, rdV m F O)) := by simp [rdh]
theorem rdh_arr {kf : Nat} {q : Nat × Nat × FieldType} (h : rdPos kf = some q) : rdh m F O R h0 (rdAd m kf) = some (.inl (q.2.2, q.2.1, .inl (R kf))) := by
  obtain ⟨h1, h2, h3⟩ := rdAd_in m h
  simp only [rdh]
  rw [if_neg (by omega), if_pos ⟨h1, h2⟩, h3]
  simp [rdE, h]
theorem rdV_put {kf : Nat} (h : rdPos kf = none) (hb : rdOb kf = false) (v : Int32) : updV (rdV m F O) kf (.int v) = rdV m (upd F kf v) O := by
  funext k
  by_cases hk : k = kf
  · subst hk
    simp [updV, rdV, h, hb, upd]
  · simp [updV, rdV, hk, upd]
theorem rdh_puto (F2 : Nat → Int32) (O2 : Nat → Option Nat) : va_up (rdh m F O R h0) m (some (.inr (2, rdV m F2 O2))) = rdh m F2 O2 R h0 := by
  funext a
  by_cases ha : a = m
  · subst ha
    simp [va_up, rdh]
  · simp [va_up, rdh, ha]
theorem rdh_puta {kf : Nat} {q : Nat × Nat × FieldType} (h : rdPos kf = some q) (g : Nat → Int32) : va_up (rdh m F O R h0) (rdAd m kf) (some (.inl (q.2.2, q.2.1, .inl g))) = rdh m F O (va_up R kf g) h0 := by
  obtain ⟨h1, h2, h3⟩ := rdAd_in m h
  funext a
  by_cases ha : a = rdAd m kf
  · subst ha
    rw [rdh_arr h]
    simp [va_up]
  · by_cases hm : a = m
    · subst hm
      simp [va_up, rdh, ha]
    · simp only [va_up, if_neg ha, rdh, if_neg hm]
      by_cases hb : m + 12 < a ∧ a < m + 20
      · rw [if_pos hb, if_pos hb]
        have hne : rdFl.getD (a - m - 13) 0 ≠ kf := fun e => ha (rdAd_inj hb.1 hb.2 e)
        simp only [rdE, va_up, if_neg hne]
      · rw [if_neg hb, if_neg hb]
variable {G : wG} {M : wM} {cc : ByteArray} {X : wX} {Z : State → Prop} {pc : Nat} {lv : List (Option Value)} {st : List Value} {k n sz index : Nat}
theorem rd_geti {kf : Nat} {ty : FieldType} {fin : Bool} (hd : decode cc pc = .ok (.getfield index, 3)) (L : wFl M.1.cls index 2 kf ty fin) (h : rdPos kf = none) (hb : rdOb kf = false) (kq : WW G M cc X Z (pc + 3) lv (.int (F kf) :: st) (rdh m F O R h0, sz) k n) : WW G M cc X Z pc lv (.ref m :: st) (rdh m F O R h0, sz) k n :=
  ww_get hd L rdh_obj (by
    have : rdV m F O kf = .int (F kf) := by simp [rdV, h, hb]
    rw [this]; exact kq)
theorem rd_getr {kf : Nat} {ty : FieldType} {fin : Bool} {q : Nat × Nat × FieldType} (hd : decode cc pc = .ok (.getfield index, 3)) (L : wFl M.1.cls index 2 kf ty fin) (h : rdPos kf = some q) (kq : WW G M cc X Z (pc + 3) lv (.ref (rdAd m kf) :: st) (rdh m F O R h0, sz) k n) : WW G M cc X Z pc lv (.ref m :: st) (rdh m F O R h0, sz) k n :=
  ww_get hd L rdh_obj (by
    have : rdV m F O kf = .ref (rdAd m kf) := by simp [rdV, h]
    rw [this]; exact kq)
theorem rd_puti {kf : Nat} {v : Int32} (hd : decode cc pc = .ok (.putfield index, 3)) (L : wFl M.1.cls index 2 kf .int false) (h : rdPos kf = none) (hb : rdOb kf = false) (kq : WW G M cc X Z (pc + 3) lv st (rdh m (upd F kf v) O R h0, sz) k n) : WW G M cc X Z pc lv (.int v :: .ref m :: st) (rdh m F O R h0, sz) k n :=
  ww_put hd L rfl rfl rdh_obj (by dsimp only; rw [rdV_put h hb, rdh_puto]; exact kq)
theorem rd_iald {kf j p0 nn : Nat} {i : Int32} (hd : decode cc pc = .ok (.iaload, 1)) (h : rdPos kf = some (p0, nn, .int)) (hi : i = nI j) (hj : j < nn) (hnn : Nat.blt nn 2147483648 = true) (kq : WW G M cc X Z (pc + 1) lv (.int (R kf j) :: st) (rdh m F O R h0, sz) k n) : WW G M cc X Z pc lv (.int i :: .ref (rdAd m kf) :: st) (rdh m F O R h0, sz) k n :=
  ww_iald hd (rdh_arr h) hi hj (Nat.blt_eq.mp hnn) kq
theorem rd_iast {kf j p0 nn : Nat} {i x : Int32} (hd : decode cc pc = .ok (.iastore, 1)) (h : rdPos kf = some (p0, nn, .int)) (hi : i = nI j) (hj : j < nn) (hnn : Nat.blt nn 2147483648 = true) (kq : WW G M cc X Z (pc + 1) lv st (rdh m F O (va_up R kf (upd (R kf) j x)) h0, sz) k n) : WW G M cc X Z pc lv (.int x :: .int i :: .ref (rdAd m kf) :: st) (rdh m F O R h0, sz) k n := by
  refine ww_iast (f := R kf) hd (rdh_arr h) hi hj (Nat.blt_eq.mp hnn) ?_
  have e := rdh_puta (m := m) (F := F) (O := O) (R := R) (h0 := h0) h (upd (R kf) j x)
  dsimp only at e ⊢
  rw [e]
  exact kq
theorem rd_putz {kf : Nat} {v : Int32} (hd : decode cc pc = .ok (.putfield index, 3)) (L : wFl M.1.cls index 2 kf .boolean false) (h : rdPos kf = none) (hb : rdOb kf = false) (hv : v = 0 ∨ v = 1) (kq : WW G M cc X Z (pc + 3) lv st (rdh m (upd F kf v) O R h0, sz) k n) : WW G M cc X Z pc lv (.int v :: .ref m :: st) (rdh m F O R h0, sz) k n :=
  ww_put hd L (w_nb hv) (w_fb hv) rdh_obj (by dsimp only; rw [rdV_put h hb, rdh_puto]; exact kq)
theorem rd_zald {kf j p0 nn : Nat} {i : Int32} (hd : decode cc pc = .ok (.baload, 1)) (h : rdPos kf = some (p0, nn, .boolean)) (hi : i = nI j) (hj : j < nn) (hnn : Nat.blt nn 2147483648 = true) (kq : WW G M cc X Z (pc + 1) lv (.int (R kf j) :: st) (rdh m F O R h0, sz) k n) : WW G M cc X Z pc lv (.int i :: .ref (rdAd m kf) :: st) (rdh m F O R h0, sz) k n :=
  ww_zald hd (rdh_arr h) hi hj (Nat.blt_eq.mp hnn) kq
theorem rd_bald {kf j p0 nn : Nat} {i : Int32} (hd : decode cc pc = .ok (.baload, 1)) (h : rdPos kf = some (p0, nn, .byte)) (hi : i = nI j) (hj : j < nn) (hnn : Nat.blt nn 2147483648 = true) (kq : WW G M cc X Z (pc + 1) lv (.int (R kf j) :: st) (rdh m F O R h0, sz) k n) : WW G M cc X Z pc lv (.int i :: .ref (rdAd m kf) :: st) (rdh m F O R h0, sz) k n :=
  ww_bald hd (rdh_arr h) hi hj (Nat.blt_eq.mp hnn) kq
theorem rd_zast {kf j p0 nn : Nat} {i x : Int32} (hd : decode cc pc = .ok (.bastore, 1)) (h : rdPos kf = some (p0, nn, .boolean)) (hi : i = nI j) (hj : j < nn) (hnn : Nat.blt nn 2147483648 = true) (kq : WW G M cc X Z (pc + 1) lv st (rdh m F O (va_up R kf (upd (R kf) j (vp_nar .boolean x))) h0, sz) k n) : WW G M cc X Z pc lv (.int x :: .int i :: .ref (rdAd m kf) :: st) (rdh m F O R h0, sz) k n := by
  refine ww_zast (f := R kf) hd (rdh_arr h) hi hj (Nat.blt_eq.mp hnn) ?_
  have e := rdh_puta (m := m) (F := F) (O := O) (R := R) (h0 := h0) h (upd (R kf) j (vp_nar .boolean x))
  dsimp only at e ⊢
  rw [e]
  exact kq
theorem rd_bast {kf j p0 nn : Nat} {i x : Int32} (hd : decode cc pc = .ok (.bastore, 1)) (h : rdPos kf = some (p0, nn, .byte)) (hi : i = nI j) (hj : j < nn) (hnn : Nat.blt nn 2147483648 = true) (kq : WW G M cc X Z (pc + 1) lv st (rdh m F O (va_up R kf (upd (R kf) j (vp_nar .byte x))) h0, sz) k n) : WW G M cc X Z pc lv (.int x :: .int i :: .ref (rdAd m kf) :: st) (rdh m F O R h0, sz) k n := by
  refine ww_bast (f := R kf) hd (rdh_arr h) hi hj (Nat.blt_eq.mp hnn) ?_
  have e := rdh_puta (m := m) (F := F) (O := O) (R := R) (h0 := h0) h (upd (R kf) j (vp_nar .byte x))
  dsimp only at e ⊢
  rw [e]
  exact kq
theorem rd_geto {kf : Nat} {ty : FieldType} {fin : Bool} (hd : decode cc pc = .ok (.getfield index, 3)) (L : wFl M.1.cls index 2 kf ty fin) (h : rdPos kf = none) (hb : rdOb kf = true) (kq : WW G M cc X Z (pc + 3) lv (va_rf (O kf) :: st) (rdh m F O R h0, sz) k n) : WW G M cc X Z pc lv (.ref m :: st) (rdh m F O R h0, sz) k n :=
  ww_get hd L rdh_obj (by
    have : rdV m F O kf = va_rf (O kf) := by simp [rdV, h, hb]
    rw [this]; exact kq)
theorem rd_call {Mc : wM} {na : Nat} {As st0 : List Value} {Q : Option Value → wH → Prop} {r : vw_C} (hd : decode cc pc = .ok (.invokevirtual index, 3)) (L : wCv M.1.cls index Mc na) (hr : wCl[2]? = some r) (hcl : r.1 = Mc.1.cls) (hs : Sat G Mc (.ref m :: As) (rdh m F O R h0, sz) Q) (hst : st0 = As.reverse ++ .ref m :: st) (hna : As.length = na) (hlev : Nat.ble (Mc.2.2.2.2.1 + 1) M.2.2.2.2.1 = true) (hmx : Nat.ble Mc.2.2.1 15 = true) (hro : Nat.ble (st.map fun v => v.category).sum 8 = true) (hz : Mc.2.2.2.2.2 = (0, 0)) (hk : k ≤ M.2.2.2.2.2.1) (hn : n ≤ M.2.2.2.2.2.2) (kq : ∀ v h', Q v h' → WW G M cc X Z (pc + 3) lv (v.toList ++ st) h' k n) : WW G M cc X Z pc lv st0 (rdh m F O R h0, sz) k n :=
  ww_callV hd L rdh_obj hr hcl hs hst hna hlev hmx hro (by rw [hz]; exact hk) (by rw [hz]; exact hn) (by rw [hz]; exact kq)
theorem rd_call0 {Mc : wM} {na : Nat} {As st0 : List Value} {h' : wH} {r : vw_C} (hd : decode cc pc = .ok (.invokevirtual index, 3)) (L : wCv M.1.cls index Mc na) (hr : wCl[2]? = some r) (hcl : r.1 = Mc.1.cls) (hs : Sat G Mc (.ref m :: As) (rdh m F O R h0, sz) (Det none h')) (hst : st0 = As.reverse ++ .ref m :: st) (hna : As.length = na) (hlev : Nat.ble (Mc.2.2.2.2.1 + 1) M.2.2.2.2.1 = true) (hmx : Nat.ble Mc.2.2.1 15 = true) (hro : Nat.ble (st.map fun v => v.category).sum 8 = true) (hz : Mc.2.2.2.2.2 = (0, 0)) (hk : k ≤ M.2.2.2.2.2.1) (hn : n ≤ M.2.2.2.2.2.2) (kq : WW G M cc X Z (pc + 3) lv st h' k n) : WW G M cc X Z pc lv st0 (rdh m F O R h0, sz) k n :=
  rd_call hd L hr hcl hs hst hna hlev hmx hro hz hk hn (fun v h2 q => by obtain ⟨q1, q2⟩ := q; subst q1; subst q2; exact kq)
theorem rd_call1 {Mc : wM} {na : Nat} {As st0 : List Value} {h' : wH} {r : vw_C} {v : Value} (hd : decode cc pc = .ok (.invokevirtual index, 3)) (L : wCv M.1.cls index Mc na) (hr : wCl[2]? = some r) (hcl : r.1 = Mc.1.cls) (hs : Sat G Mc (.ref m :: As) (rdh m F O R h0, sz) (Det (some v) h')) (hst : st0 = As.reverse ++ .ref m :: st) (hna : As.length = na) (hlev : Nat.ble (Mc.2.2.2.2.1 + 1) M.2.2.2.2.1 = true) (hmx : Nat.ble Mc.2.2.1 15 = true) (hro : Nat.ble (st.map fun v => v.category).sum 8 = true) (hz : Mc.2.2.2.2.2 = (0, 0)) (hk : k ≤ M.2.2.2.2.2.1) (hn : n ≤ M.2.2.2.2.2.2) (kq : WW G M cc X Z (pc + 3) lv (v :: st) h' k n) : WW G M cc X Z pc lv st0 (rdh m F O R h0, sz) k n :=
  rd_call hd L hr hcl hs hst hna hlev hmx hro hz hk hn (fun v2 h2 q => by obtain ⟨q1, q2⟩ := q; subst q1; subst q2; exact kq)
end Srd
/-! TaskHouse: an object and its 0 arrays behind it. F: int and boolean fields by number; O: fields that refer to other objects; R: arrays by their field's number -/
def xxPos : Nat → Option (Nat × Nat × FieldType) := fun k => match k with
  | _ => none
def xxOb (k : Nat) : Bool := k == 0 || k == 1 || k == 2 || k == 3 || k == 4 || k == 6
def xxFl : List Nat := []
def xxAd (m kf : Nat) : Nat := m + 1 + ((xxPos kf).map (fun q => q.1)).getD 0
def xxV (m : Nat) (F : Nat → Int32) (O : Nat → Option Nat) : Nat → Value := fun k => match xxPos k with
  | some _ => .ref (xxAd m k)
  | none => if xxOb k = true then va_rf (O k) else .int (F k)
def xxE (kf : Nat) (R : Nat → Nat → Int32) : Option wE := (xxPos kf).map fun q => .inl (q.2.2, q.2.1, .inl (R kf))
def xxh (m : Nat) (F : Nat → Int32) (O : Nat → Option Nat) (R : Nat → Nat → Int32) (h0 : Nat → Option wE) : Nat → Option wE := fun a =>
  if a = m then some (.inr (7, xxV m F O)) else if m < a ∧ a < m + 1 then xxE (xxFl.getD (a - m - 1) 0) R else h0 a
theorem xxFl_pos : ∀ j, j < 0 → (xxPos (xxFl.getD j 0)).map (fun q => q.1) = some j := by decide +kernel
theorem xxPos_fl : ∀ kf, kf < 10 → ∀ q, xxPos kf = some q → q.1 < 0 ∧ xxFl.getD q.1 0 = kf := by decide +kernel
theorem xxPos_lt {kf : Nat} {q : Nat × Nat × FieldType} (h : xxPos kf = some q) : kf < 10 := by
  simp [xxPos] at h
theorem xxAd_in {kf : Nat} {q : Nat × Nat × FieldType} (m : Nat) (h : xxPos kf = some q) : m < xxAd m kf ∧ xxAd m kf < m + 1 ∧ xxFl.getD (xxAd m kf - m - 1) 0 = kf := by
  obtain ⟨h1, h2⟩ := xxPos_fl kf (xxPos_lt h) q h
  have e : xxAd m kf = m + 1 + q.1 := by simp [xxAd, h]
  refine ⟨by omega, by omega, ?_⟩
  rw [show xxAd m kf - m - 1 = q.1 by omega]
  exact h2
theorem xxAd_inj {m a kf : Nat} (h1 : m < a) (h2 : a < m + 1) (h3 : xxFl.getD (a - m - 1) 0 = kf) : a = xxAd m kf := by
  have h := xxFl_pos (a - m - 1) (by omega)
  rw [h3] at h
  simp only [xxAd, h]
  simp
  omega
section Sxx
variable {m : Nat} {F : Nat → Int32} {O : Nat → Option Nat} {R : Nat → Nat → Int32} {h0 : Nat → Option wE}
theorem xxh_obj : xxh m F O R h0 m = some (.inr (7, xxV m F O)) := by simp [xxh]
theorem xxh_arr {kf : Nat} {q : Nat × Nat × FieldType} (h : xxPos kf = some q) : xxh m F O R h0 (xxAd m kf) = some (.inl (q.2.2, q.2.1, .inl (R kf))) := by
  obtain ⟨h1, h2, h3⟩ := xxAd_in m h
  simp only [xxh]
  rw [if_neg (by omega), if_pos ⟨h1, h2⟩, h3]
  simp [xxE, h]
theorem xxV_put {kf : Nat} (h : xxPos kf = none) (hb : xxOb kf = false) (v : Int32) : updV (xxV m F O) kf (.int v) = xxV m (upd F kf v) O := by
  funext k
  by_cases hk : k = kf
  · subst hk
    simp [updV, xxV, h, hb, upd]
  · simp [updV, xxV, hk, upd]
theorem xxh_puto (F2 : Nat → Int32) (O2 : Nat → Option Nat) : va_up (xxh m F O R h0) m (some (.inr (7, xxV m F2 O2))) = xxh m F2 O2 R h0 := by
  funext a
  by_cases ha : a = m
  · subst ha
    simp [va_up, xxh]
  · simp [va_up, xxh, ha]
theorem xxh_puta {kf : Nat} {q : Nat × Nat × FieldType} (h : xxPos kf = some q) (g : Nat → Int32) : va_up (xxh m F O R h0) (xxAd m kf) (some (.inl (q.2.2, q.2.1, .inl g))) = xxh m F O (va_up R kf g) h0 := by
  obtain ⟨h1, h2, h3⟩ := xxAd_in m h
  funext a
  by_cases ha : a = xxAd m kf
  · subst ha
    rw [xxh_arr h]
    simp [va_up]
  · by_cases hm : a = m
    · subst hm
      simp [va_up, xxh, ha]
    · simp only [va_up, if_neg ha, xxh, if_neg hm]
      by_cases hb : m < a ∧ a < m + 1
      · rw [if_pos hb, if_pos hb]
        have hne : xxFl.getD (a - m - 1) 0 ≠ kf := fun e => ha (xxAd_inj hb.1 hb.2 e)
        simp only [xxE, va_up, if_neg hne]
      · rw [if_neg hb, if_neg hb]
variable {G : wG} {M : wM} {cc : ByteArray} {X : wX} {Z : State → Prop} {pc : Nat} {lv : List (Option Value)} {st : List Value} {k n sz index : Nat}
theorem xx_geti {kf : Nat} {ty : FieldType} {fin : Bool} (hd : decode cc pc = .ok (.getfield index, 3)) (L : wFl M.1.cls index 7 kf ty fin) (h : xxPos kf = none) (hb : xxOb kf = false) (kq : WW G M cc X Z (pc + 3) lv (.int (F kf) :: st) (xxh m F O R h0, sz) k n) : WW G M cc X Z pc lv (.ref m :: st) (xxh m F O R h0, sz) k n :=
  ww_get hd L xxh_obj (by
    have : xxV m F O kf = .int (F kf) := by simp [xxV, h, hb]
    rw [this]; exact kq)
theorem xx_getr {kf : Nat} {ty : FieldType} {fin : Bool} {q : Nat × Nat × FieldType} (hd : decode cc pc = .ok (.getfield index, 3)) (L : wFl M.1.cls index 7 kf ty fin) (h : xxPos kf = some q) (kq : WW G M cc X Z (pc + 3) lv (.ref (xxAd m kf) :: st) (xxh m F O R h0, sz) k n) : WW G M cc X Z pc lv (.ref m :: st) (xxh m F O R h0, sz) k n :=
  ww_get hd L xxh_obj (by
    have : xxV m F O kf = .ref (xxAd m kf) := by simp [xxV, h]
    rw [this]; exact kq)
theorem xx_puti {kf : Nat} {v : Int32} (hd : decode cc pc = .ok (.putfield index, 3)) (L : wFl M.1.cls index 7 kf .int false) (h : xxPos kf = none) (hb : xxOb kf = false) (kq : WW G M cc X Z (pc + 3) lv st (xxh m (upd F kf v) O R h0, sz) k n) : WW G M cc X Z pc lv (.int v :: .ref m :: st) (xxh m F O R h0, sz) k n :=
  ww_put hd L rfl rfl xxh_obj (by dsimp only; rw [xxV_put h hb, xxh_puto]; exact kq)
theorem xx_iald {kf j p0 nn : Nat} {i : Int32} (hd : decode cc pc = .ok (.iaload, 1)) (h : xxPos kf = some (p0, nn, .int)) (hi : i = nI j) (hj : j < nn) (hnn : Nat.blt nn 2147483648 = true) (kq : WW G M cc X Z (pc + 1) lv (.int (R kf j) :: st) (xxh m F O R h0, sz) k n) : WW G M cc X Z pc lv (.int i :: .ref (xxAd m kf) :: st) (xxh m F O R h0, sz) k n :=
  ww_iald hd (xxh_arr h) hi hj (Nat.blt_eq.mp hnn) kq
theorem xx_iast {kf j p0 nn : Nat} {i x : Int32} (hd : decode cc pc = .ok (.iastore, 1)) (h : xxPos kf = some (p0, nn, .int)) (hi : i = nI j) (hj : j < nn) (hnn : Nat.blt nn 2147483648 = true) (kq : WW G M cc X Z (pc + 1) lv st (xxh m F O (va_up R kf (upd (R kf) j x)) h0, sz) k n) : WW G M cc X Z pc lv (.int x :: .int i :: .ref (xxAd m kf) :: st) (xxh m F O R h0, sz) k n := by
  refine ww_iast (f := R kf) hd (xxh_arr h) hi hj (Nat.blt_eq.mp hnn) ?_
  have e := xxh_puta (m := m) (F := F) (O := O) (R := R) (h0 := h0) h (upd (R kf) j x)
  dsimp only at e ⊢
  rw [e]
  exact kq
theorem xx_putz {kf : Nat} {v : Int32} (hd : decode cc pc = .ok (.putfield index, 3)) (L : wFl M.1.cls index 7 kf .boolean false) (h : xxPos kf = none) (hb : xxOb kf = false) (hv : v = 0 ∨ v = 1) (kq : WW G M cc X Z (pc + 3) lv st (xxh m (upd F kf v) O R h0, sz) k n) : WW G M cc X Z pc lv (.int v :: .ref m :: st) (xxh m F O R h0, sz) k n :=
  ww_put hd L (w_nb hv) (w_fb hv) xxh_obj (by dsimp only; rw [xxV_put h hb, xxh_puto]; exact kq)
theorem xx_zald {kf j p0 nn : Nat} {i : Int32} (hd : decode cc pc = .ok (.baload, 1)) (h : xxPos kf = some (p0, nn, .boolean)) (hi : i = nI j) (hj : j < nn) (hnn : Nat.blt nn 2147483648 = true) (kq : WW G M cc X Z (pc + 1) lv (.int (R kf j) :: st) (xxh m F O R h0, sz) k n) : WW G M cc X Z pc lv (.int i :: .ref (xxAd m kf) :: st) (xxh m F O R h0, sz) k n :=
  ww_zald hd (xxh_arr h) hi hj (Nat.blt_eq.mp hnn) kq
theorem xx_bald {kf j p0 nn : Nat} {i : Int32} (hd : decode cc pc = .ok (.baload, 1)) (h : xxPos kf = some (p0, nn, .byte)) (hi : i = nI j) (hj : j < nn) (hnn : Nat.blt nn 2147483648 = true) (kq : WW G M cc X Z (pc + 1) lv (.int (R kf j) :: st) (xxh m F O R h0, sz) k n) : WW G M cc X Z pc lv (.int i :: .ref (xxAd m kf) :: st) (xxh m F O R h0, sz) k n :=
  ww_bald hd (xxh_arr h) hi hj (Nat.blt_eq.mp hnn) kq
theorem xx_zast {kf j p0 nn : Nat} {i x : Int32} (hd : decode cc pc = .ok (.bastore, 1)) (h : xxPos kf = some (p0, nn, .boolean)) (hi : i = nI j) (hj : j < nn) (hnn : Nat.blt nn 2147483648 = true) (kq : WW G M cc X Z (pc + 1) lv st (xxh m F O (va_up R kf (upd (R kf) j (vp_nar .boolean x))) h0, sz) k n) : WW G M cc X Z pc lv (.int x :: .int i :: .ref (xxAd m kf) :: st) (xxh m F O R h0, sz) k n := by
  refine ww_zast (f := R kf) hd (xxh_arr h) hi hj (Nat.blt_eq.mp hnn) ?_
  have e := xxh_puta (m := m) (F := F) (O := O) (R := R) (h0 := h0) h (upd (R kf) j (vp_nar .boolean x))
  dsimp only at e ⊢
  rw [e]
  exact kq
theorem xx_bast {kf j p0 nn : Nat} {i x : Int32} (hd : decode cc pc = .ok (.bastore, 1)) (h : xxPos kf = some (p0, nn, .byte)) (hi : i = nI j) (hj : j < nn) (hnn : Nat.blt nn 2147483648 = true) (kq : WW G M cc X Z (pc + 1) lv st (xxh m F O (va_up R kf (upd (R kf) j (vp_nar .byte x))) h0, sz) k n) : WW G M cc X Z pc lv (.int x :: .int i :: .ref (xxAd m kf) :: st) (xxh m F O R h0, sz) k n := by
  refine ww_bast (f := R kf) hd (xxh_arr h) hi hj (Nat.blt_eq.mp hnn) ?_
  have e := xxh_puta (m := m) (F := F) (O := O) (R := R) (h0 := h0) h (upd (R kf) j (vp_nar .byte x))
  dsimp only at e ⊢
  rw [e]
  exact kq
theorem xx_geto {kf : Nat} {ty : FieldType} {fin : Bool} (hd : decode cc pc = .ok (.getfield index, 3)) (L : wFl M.1.cls index 7 kf ty fin) (h : xxPos kf = none) (hb : xxOb kf = true) (kq : WW G M cc X Z (pc + 3) lv (va_rf (O kf) :: st) (xxh m F O R h0, sz) k n) : WW G M cc X Z pc lv (.ref m :: st) (xxh m F O R h0, sz) k n :=
  ww_get hd L xxh_obj (by
    have : xxV m F O kf = va_rf (O kf) := by simp [xxV, h, hb]
    rw [this]; exact kq)
theorem xx_call {Mc : wM} {na : Nat} {As st0 : List Value} {Q : Option Value → wH → Prop} {r : vw_C} (hd : decode cc pc = .ok (.invokevirtual index, 3)) (L : wCv M.1.cls index Mc na) (hr : wCl[7]? = some r) (hcl : r.1 = Mc.1.cls) (hs : Sat G Mc (.ref m :: As) (xxh m F O R h0, sz) Q) (hst : st0 = As.reverse ++ .ref m :: st) (hna : As.length = na) (hlev : Nat.ble (Mc.2.2.2.2.1 + 1) M.2.2.2.2.1 = true) (hmx : Nat.ble Mc.2.2.1 15 = true) (hro : Nat.ble (st.map fun v => v.category).sum 8 = true) (hz : Mc.2.2.2.2.2 = (0, 0)) (hk : k ≤ M.2.2.2.2.2.1) (hn : n ≤ M.2.2.2.2.2.2) (kq : ∀ v h', Q v h' → WW G M cc X Z (pc + 3) lv (v.toList ++ st) h' k n) : WW G M cc X Z pc lv st0 (xxh m F O R h0, sz) k n :=
  ww_callV hd L xxh_obj hr hcl hs hst hna hlev hmx hro (by rw [hz]; exact hk) (by rw [hz]; exact hn) (by rw [hz]; exact kq)
theorem xx_call0 {Mc : wM} {na : Nat} {As st0 : List Value} {h' : wH} {r : vw_C} (hd : decode cc pc = .ok (.invokevirtual index, 3)) (L : wCv M.1.cls index Mc na) (hr : wCl[7]? = some r) (hcl : r.1 = Mc.1.cls) (hs : Sat G Mc (.ref m :: As) (xxh m F O R h0, sz) (Det none h')) (hst : st0 = As.reverse ++ .ref m :: st) (hna : As.length = na) (hlev : Nat.ble (Mc.2.2.2.2.1 + 1) M.2.2.2.2.1 = true) (hmx : Nat.ble Mc.2.2.1 15 = true) (hro : Nat.ble (st.map fun v => v.category).sum 8 = true) (hz : Mc.2.2.2.2.2 = (0, 0)) (hk : k ≤ M.2.2.2.2.2.1) (hn : n ≤ M.2.2.2.2.2.2) (kq : WW G M cc X Z (pc + 3) lv st h' k n) : WW G M cc X Z pc lv st0 (xxh m F O R h0, sz) k n :=
  xx_call hd L hr hcl hs hst hna hlev hmx hro hz hk hn (fun v h2 q => by obtain ⟨q1, q2⟩ := q; subst q1; subst q2; exact kq)
theorem xx_call1 {Mc : wM} {na : Nat} {As st0 : List Value} {h' : wH} {r : vw_C} {v : Value} (hd : decode cc pc = .ok (.invokevirtual index, 3)) (L : wCv M.1.cls index Mc na) (hr : wCl[7]? = some r) (hcl : r.1 = Mc.1.cls) (hs : Sat G Mc (.ref m :: As) (xxh m F O R h0, sz) (Det (some v) h')) (hst : st0 = As.reverse ++ .ref m :: st) (hna : As.length = na) (hlev : Nat.ble (Mc.2.2.2.2.1 + 1) M.2.2.2.2.1 = true) (hmx : Nat.ble Mc.2.2.1 15 = true) (hro : Nat.ble (st.map fun v => v.category).sum 8 = true) (hz : Mc.2.2.2.2.2 = (0, 0)) (hk : k ≤ M.2.2.2.2.2.1) (hn : n ≤ M.2.2.2.2.2.2) (kq : WW G M cc X Z (pc + 3) lv (v :: st) h' k n) : WW G M cc X Z pc lv st0 (xxh m F O R h0, sz) k n :=
  xx_call hd L hr hcl hs hst hna hlev hmx hro hz hk hn (fun v2 h2 q => by obtain ⟨q1, q2⟩ := q; subst q1; subst q2; exact kq)
end Sxx
/-! the row of runs -/
def rah (m : Nat) (O : Nat → Option Nat) (h0 : Nat → Option wE) : Nat → Option wE := fun a => if a = m then some (.inl (.object "TaskHouse$Run", 8, .inr (.inr (.inr (.inr O))))) else h0 a
/-! the world: blocks by number; a layout says which block an address belongs to, and of each block its kind and its place -/
def kLo (κ : Nat) : Nat := if κ = 1 then 13 else 1
def kHi (κ : Nat) : Nat := match κ with
  | 0 => 1
  | 1 => 20
  | 2 => 3
  | 3 => 9
  | 4 => 7
  | 5 => 10
  | 6 => 5
  | 7 => 4
  | _ => 1
def inK (κ m x : Nat) : Prop := x = m ∨ (m + kLo κ ≤ x ∧ x < m + kHi κ)
def kb (κ m : Nat) (F : Nat → Int32) (O : Nat → Option Nat) (R : Nat → Nat → Int32) (h0 : Nat → Option wE) : Nat → Option wE := match κ with
  | 0 => xxh m F O R h0
  | 1 => rdh m F O R h0
  | 2 => tah m F O R h0
  | 3 => bbh m F O R h0
  | 4 => pph m F O R h0
  | 5 => tth m F O R h0
  | 6 => wah m F O R h0
  | 7 => rrh m F O R h0
  | _ => rah m O h0
theorem xxh_in {m x : Nat} {F : Nat → Int32} {O : Nat → Option Nat} {R : Nat → Nat → Int32} (h0 h1 : Nat → Option wE) (h : x = m ∨ (m + 1 ≤ x ∧ x < m + 1)) : xxh m F O R h0 x = xxh m F O R h1 x := by
  by_cases hm : x = m
  · simp [xxh, hm]
  · have hb : m + 0 < x ∧ x < m + 1 := by omega
    simp only [xxh, if_neg hm]
    rw [if_pos (by omega), if_pos (by omega)]
theorem xxh_out {m x : Nat} {F : Nat → Int32} {O : Nat → Option Nat} {R : Nat → Nat → Int32} (h0 : Nat → Option wE) (h : ¬ (x = m ∨ (m + 1 ≤ x ∧ x < m + 1))) : xxh m F O R h0 x = h0 x := by
  simp only [xxh]
  rw [if_neg (by omega), if_neg (by omega)]
theorem rdh_in {m x : Nat} {F : Nat → Int32} {O : Nat → Option Nat} {R : Nat → Nat → Int32} (h0 h1 : Nat → Option wE) (h : x = m ∨ (m + 13 ≤ x ∧ x < m + 20)) : rdh m F O R h0 x = rdh m F O R h1 x := by
  by_cases hm : x = m
  · simp [rdh, hm]
  · have hb : m + 12 < x ∧ x < m + 20 := by omega
    simp only [rdh, if_neg hm]
    rw [if_pos (by omega), if_pos (by omega)]
theorem rdh_out {m x : Nat} {F : Nat → Int32} {O : Nat → Option Nat} {R : Nat → Nat → Int32} (h0 : Nat → Option wE) (h : ¬ (x = m ∨ (m + 13 ≤ x ∧ x < m + 20))) : rdh m F O R h0 x = h0 x := by
  simp only [rdh]
  rw [if_neg (by omega), if_neg (by omega)]
theorem tah_in {m x : Nat} {F : Nat → Int32} {O : Nat → Option Nat} {R : Nat → Nat → Int32} (h0 h1 : Nat → Option wE) (h : x = m ∨ (m + 1 ≤ x ∧ x < m + 3)) : tah m F O R h0 x = tah m F O R h1 x := by
  by_cases hm : x = m
  · simp [tah, hm]
  · have hb : m + 0 < x ∧ x < m + 3 := by omega
    simp only [tah, if_neg hm]
    rw [if_pos (by omega), if_pos (by omega)]
theorem tah_out {m x : Nat} {F : Nat → Int32} {O : Nat → Option Nat} {R : Nat → Nat → Int32} (h0 : Nat → Option wE) (h : ¬ (x = m ∨ (m + 1 ≤ x ∧ x < m + 3))) : tah m F O R h0 x = h0 x := by
  simp only [tah]
  rw [if_neg (by omega), if_neg (by omega)]
theorem bbh_in {m x : Nat} {F : Nat → Int32} {O : Nat → Option Nat} {R : Nat → Nat → Int32} (h0 h1 : Nat → Option wE) (h : x = m ∨ (m + 1 ≤ x ∧ x < m + 9)) : bbh m F O R h0 x = bbh m F O R h1 x := by
  by_cases hm : x = m
  · simp [bbh, hm]
  · have hb : m + 0 < x ∧ x < m + 9 := by omega
    simp only [bbh, if_neg hm]
    rw [if_pos (by omega), if_pos (by omega)]
theorem bbh_out {m x : Nat} {F : Nat → Int32} {O : Nat → Option Nat} {R : Nat → Nat → Int32} (h0 : Nat → Option wE) (h : ¬ (x = m ∨ (m + 1 ≤ x ∧ x < m + 9))) : bbh m F O R h0 x = h0 x := by
  simp only [bbh]
  rw [if_neg (by omega), if_neg (by omega)]
theorem pph_in {m x : Nat} {F : Nat → Int32} {O : Nat → Option Nat} {R : Nat → Nat → Int32} (h0 h1 : Nat → Option wE) (h : x = m ∨ (m + 1 ≤ x ∧ x < m + 7)) : pph m F O R h0 x = pph m F O R h1 x := by
  by_cases hm : x = m
  · simp [pph, hm]
  · have hb : m + 0 < x ∧ x < m + 7 := by omega
    simp only [pph, if_neg hm]
    rw [if_pos (by omega), if_pos (by omega)]
theorem pph_out {m x : Nat} {F : Nat → Int32} {O : Nat → Option Nat} {R : Nat → Nat → Int32} (h0 : Nat → Option wE) (h : ¬ (x = m ∨ (m + 1 ≤ x ∧ x < m + 7))) : pph m F O R h0 x = h0 x := by
  simp only [pph]
  rw [if_neg (by omega), if_neg (by omega)]
theorem tth_in {m x : Nat} {F : Nat → Int32} {O : Nat → Option Nat} {R : Nat → Nat → Int32} (h0 h1 : Nat → Option wE) (h : x = m ∨ (m + 1 ≤ x ∧ x < m + 10)) : tth m F O R h0 x = tth m F O R h1 x := by
  by_cases hm : x = m
  · simp [tth, hm]
  · have hb : m + 0 < x ∧ x < m + 10 := by omega
    simp only [tth, if_neg hm]
    rw [if_pos (by omega), if_pos (by omega)]
theorem tth_out {m x : Nat} {F : Nat → Int32} {O : Nat → Option Nat} {R : Nat → Nat → Int32} (h0 : Nat → Option wE) (h : ¬ (x = m ∨ (m + 1 ≤ x ∧ x < m + 10))) : tth m F O R h0 x = h0 x := by
  simp only [tth]
  rw [if_neg (by omega), if_neg (by omega)]
theorem wah_in {m x : Nat} {F : Nat → Int32} {O : Nat → Option Nat} {R : Nat → Nat → Int32} (h0 h1 : Nat → Option wE) (h : x = m ∨ (m + 1 ≤ x ∧ x < m + 5)) : wah m F O R h0 x = wah m F O R h1 x := by
  by_cases hm : x = m
  · simp [wah, hm]
  · have hb : m + 0 < x ∧ x < m + 5 := by omega
    simp only [wah, if_neg hm]
    rw [if_pos (by omega), if_pos (by omega)]
theorem wah_out {m x : Nat} {F : Nat → Int32} {O : Nat → Option Nat} {R : Nat → Nat → Int32} (h0 : Nat → Option wE) (h : ¬ (x = m ∨ (m + 1 ≤ x ∧ x < m + 5))) : wah m F O R h0 x = h0 x := by
  simp only [wah]
  rw [if_neg (by omega), if_neg (by omega)]
theorem rrh_in {m x : Nat} {F : Nat → Int32} {O : Nat → Option Nat} {R : Nat → Nat → Int32} (h0 h1 : Nat → Option wE) (h : x = m ∨ (m + 1 ≤ x ∧ x < m + 4)) : rrh m F O R h0 x = rrh m F O R h1 x := by
  by_cases hm : x = m
  · simp [rrh, hm]
  · have hb : m + 0 < x ∧ x < m + 4 := by omega
    simp only [rrh, if_neg hm]
    rw [if_pos (by omega), if_pos (by omega)]
theorem rrh_out {m x : Nat} {F : Nat → Int32} {O : Nat → Option Nat} {R : Nat → Nat → Int32} (h0 : Nat → Option wE) (h : ¬ (x = m ∨ (m + 1 ≤ x ∧ x < m + 4))) : rrh m F O R h0 x = h0 x := by
  simp only [rrh]
  rw [if_neg (by omega), if_neg (by omega)]
theorem kb_in {κ m x : Nat} {F : Nat → Int32} {O : Nat → Option Nat} {R : Nat → Nat → Int32} (h0 h1 : Nat → Option wE) (h : inK κ m x) : kb κ m F O R h0 x = kb κ m F O R h1 x := by
  match κ with
  | 0 => exact xxh_in h0 h1 h
  | 1 => exact rdh_in h0 h1 h
  | 2 => exact tah_in h0 h1 h
  | 3 => exact bbh_in h0 h1 h
  | 4 => exact pph_in h0 h1 h
  | 5 => exact tth_in h0 h1 h
  | 6 => exact wah_in h0 h1 h
  | 7 => exact rrh_in h0 h1 h
  | κ + 8 =>
    have : x = m := by
      rcases h with h | h
      · exact h
      · have a1 : kLo (κ + 8) = 1 := if_neg (by omega)
        have a2 : kHi (κ + 8) = 1 := rfl
        omega
    show rah m O h0 x = rah m O h1 x
    simp [rah, this]
theorem kb_out {κ m x : Nat} {F : Nat → Int32} {O : Nat → Option Nat} {R : Nat → Nat → Int32} (h0 : Nat → Option wE) (h : ¬ inK κ m x) : kb κ m F O R h0 x = h0 x := by
  match κ with
  | 0 => exact xxh_out h0 h
  | 1 => exact rdh_out h0 h
  | 2 => exact tah_out h0 h
  | 3 => exact bbh_out h0 h
  | 4 => exact pph_out h0 h
  | 5 => exact tth_out h0 h
  | 6 => exact wah_out h0 h
  | 7 => exact rrh_out h0 h
  | κ + 8 =>
    have : ¬ x = m := fun q => h (Or.inl q)
    show rah m O h0 x = h0 x
    simp [rah, this]
abbrev wL : Type := (Nat → Option Nat) × (Nat → Nat × Nat)
def Lk (Λ : wL) (i κ m : Nat) : Prop := Λ.2 i = (κ, m) ∧ ∀ x, inK κ m x ↔ Λ.1 x = some i
def wld (Λ : wL) (F : Nat → Nat → Int32) (O : Nat → Nat → Option Nat) (R : Nat → Nat → Nat → Int32) (h0 : Nat → Option wE) : Nat → Option wE := fun x => match Λ.1 x with
  | some i => kb (Λ.2 i).1 (Λ.2 i).2 (F i) (O i) (R i) h0 x
  | none => h0 x
theorem wld_at {Λ : wL} {F : Nat → Nat → Int32} {O : Nat → Nat → Option Nat} {R : Nat → Nat → Nat → Int32} {h0 : Nat → Option wE} {i κ m x : Nat} (hk : Lk Λ i κ m) (hx : inK κ m x) : wld Λ F O R h0 x = kb κ m (F i) (O i) (R i) h0 x := by
  simp only [wld, (hk.2 x).mp hx, hk.1]
theorem wld_get {Λ : wL} {F : Nat → Nat → Int32} {O : Nat → Nat → Option Nat} {R : Nat → Nat → Nat → Int32} {h0 : Nat → Option wE} {i κ m : Nat} (hk : Lk Λ i κ m) : kb κ m (F i) (O i) (R i) (wld Λ F O R h0) = wld Λ F O R h0 := by
  funext x
  by_cases hx : inK κ m x
  · rw [wld_at hk hx]
    exact kb_in _ _ hx
  · exact kb_out _ hx
theorem wld_put {Λ : wL} {F : Nat → Nat → Int32} {O : Nat → Nat → Option Nat} {R : Nat → Nat → Nat → Int32} {h0 : Nat → Option wE} {i κ m : Nat} {F' : Nat → Int32} {O' : Nat → Option Nat} {R' : Nat → Nat → Int32} (hk : Lk Λ i κ m) : kb κ m F' O' R' (wld Λ F O R h0) = wld Λ (va_up F i F') (va_up O i O') (va_up R i R') h0 := by
  funext x
  by_cases hx : inK κ m x
  · rw [wld_at hk hx]
    simp only [va_up, if_true]
    exact kb_in _ _ hx
  · rw [kb_out _ hx]
    unfold wld
    cases hl : Λ.1 x with
    | none => rfl
    | some j =>
      have hj : j ≠ i := fun q => hx ((hk.2 x).mpr (by rw [hl, q]))
      simp only [va_up, if_neg hj]
/-- a block's place in a layout that grew by a block at the top -/
def lkA (Λ : wL) (n κ m : Nat) : wL := (fun x => if x = m ∨ (m + kLo κ ≤ x ∧ x < m + kHi κ) then some n else Λ.1 x, fun i => if i = n then (κ, m) else Λ.2 i)
section SW
variable {Λ : wL} {F : Nat → Nat → Int32} {O : Nat → Nat → Option Nat} {R : Nat → Nat → Nat → Int32} {h0 : Nat → Option wE} {i m : Nat}
variable {G : wG} {M : wM} {cc : ByteArray} {X : wX} {Z : State → Prop} {pc : Nat} {lv : List (Option Value)} {st : List Value} {k n sz index : Nat}
theorem xx_wg (hk : Lk Λ i 0 m) : xxh m (F i) (O i) (R i) (wld Λ F O R h0) = wld Λ F O R h0 := wld_get hk
theorem xx_wp {F' : Nat → Int32} {O' : Nat → Option Nat} {R' : Nat → Nat → Int32} (hk : Lk Λ i 0 m) : xxh m F' O' R' (wld Λ F O R h0) = wld Λ (va_up F i F') (va_up O i O') (va_up R i R') h0 := wld_put hk
theorem xx_wo (hk : Lk Λ i 0 m) : wld Λ F O R h0 m = some (.inr (7, xxV m (F i) (O i))) := by
  rw [← xx_wg hk]; exact xxh_obj
theorem Wxx_geti {kf : Nat} {ty : FieldType} {fin : Bool} (hk : Lk Λ i 0 m) (hd : decode cc pc = .ok (.getfield index, 3)) (L : wFl M.1.cls index 7 kf ty fin) (h : xxPos kf = none) (hb : xxOb kf = false) (kq : WW G M cc X Z (pc + 3) lv (.int (F i kf) :: st) (wld Λ F O R h0, sz) k n) : WW G M cc X Z pc lv (.ref m :: st) (wld Λ F O R h0, sz) k n := by
  rw [← xx_wg hk]; refine xx_geti hd L h hb ?_; rw [xx_wg hk]; exact kq
theorem Wxx_getr {kf : Nat} {ty : FieldType} {fin : Bool} {q : Nat × Nat × FieldType} (hk : Lk Λ i 0 m) (hd : decode cc pc = .ok (.getfield index, 3)) (L : wFl M.1.cls index 7 kf ty fin) (h : xxPos kf = some q) (kq : WW G M cc X Z (pc + 3) lv (.ref (xxAd m kf) :: st) (wld Λ F O R h0, sz) k n) : WW G M cc X Z pc lv (.ref m :: st) (wld Λ F O R h0, sz) k n := by
  rw [← xx_wg hk]; refine xx_getr hd L h ?_; rw [xx_wg hk]; exact kq
theorem Wxx_geto {kf a : Nat} {ty : FieldType} {fin : Bool} (hk : Lk Λ i 0 m) (hd : decode cc pc = .ok (.getfield index, 3)) (L : wFl M.1.cls index 7 kf ty fin) (h : xxPos kf = none) (hb : xxOb kf = true) (ho : O i kf = some a) (kq : WW G M cc X Z (pc + 3) lv (.ref a :: st) (wld Λ F O R h0, sz) k n) : WW G M cc X Z pc lv (.ref m :: st) (wld Λ F O R h0, sz) k n := by
  rw [← xx_wg hk]; refine xx_geto hd L h hb ?_; rw [xx_wg hk, ho]; exact kq
theorem Wxx_getn {kf : Nat} {ty : FieldType} {fin : Bool} (hk : Lk Λ i 0 m) (hd : decode cc pc = .ok (.getfield index, 3)) (L : wFl M.1.cls index 7 kf ty fin) (h : xxPos kf = none) (hb : xxOb kf = true) (ho : O i kf = none) (kq : WW G M cc X Z (pc + 3) lv (.null :: st) (wld Λ F O R h0, sz) k n) : WW G M cc X Z pc lv (.ref m :: st) (wld Λ F O R h0, sz) k n := by
  rw [← xx_wg hk]; refine xx_geto hd L h hb ?_; rw [xx_wg hk, ho]; exact kq
theorem Wxx_puti {kf : Nat} {v : Int32} (hk : Lk Λ i 0 m) (hd : decode cc pc = .ok (.putfield index, 3)) (L : wFl M.1.cls index 7 kf .int false) (h : xxPos kf = none) (hb : xxOb kf = false) (kq : WW G M cc X Z (pc + 3) lv st (wld Λ (va_up F i (upd (F i) kf v)) O R h0, sz) k n) : WW G M cc X Z pc lv (.int v :: .ref m :: st) (wld Λ F O R h0, sz) k n := by
  rw [← xx_wg hk]; refine xx_puti hd L h hb ?_; rw [xx_wp hk, w_up_id, w_up_id]; exact kq
theorem Wxx_putz {kf : Nat} {v : Int32} (hk : Lk Λ i 0 m) (hd : decode cc pc = .ok (.putfield index, 3)) (L : wFl M.1.cls index 7 kf .boolean false) (h : xxPos kf = none) (hb : xxOb kf = false) (hv : v = 0 ∨ v = 1) (kq : WW G M cc X Z (pc + 3) lv st (wld Λ (va_up F i (upd (F i) kf v)) O R h0, sz) k n) : WW G M cc X Z pc lv (.int v :: .ref m :: st) (wld Λ F O R h0, sz) k n := by
  rw [← xx_wg hk]; refine xx_putz hd L h hb hv ?_; rw [xx_wp hk, w_up_id, w_up_id]; exact kq
theorem Wxx_call {Mc : wM} {na : Nat} {As st0 : List Value} {Q : Option Value → wH → Prop} {r : vw_C} (hk : Lk Λ i 0 m) (hd : decode cc pc = .ok (.invokevirtual index, 3)) (L : wCv M.1.cls index Mc na) (hr : wCl[7]? = some r) (hcl : r.1 = Mc.1.cls) (hs : Sat G Mc (.ref m :: As) (wld Λ F O R h0, sz) Q) (hst : st0 = As.reverse ++ .ref m :: st) (hna : As.length = na) (hlev : Nat.ble (Mc.2.2.2.2.1 + 1) M.2.2.2.2.1 = true) (hmx : Nat.ble Mc.2.2.1 15 = true) (hro : Nat.ble (st.map fun v => v.category).sum 8 = true) (hz : Mc.2.2.2.2.2 = (0, 0)) (hk2 : k ≤ M.2.2.2.2.2.1) (hn : n ≤ M.2.2.2.2.2.2) (kq : ∀ v h', Q v h' → WW G M cc X Z (pc + 3) lv (v.toList ++ st) h' k n) : WW G M cc X Z pc lv st0 (wld Λ F O R h0, sz) k n :=
  ww_callV hd L (xx_wo hk) hr hcl hs hst hna hlev hmx hro (by rw [hz]; exact hk2) (by rw [hz]; exact hn) (by rw [hz]; exact kq)
theorem Wxx_call0 {Mc : wM} {na : Nat} {As st0 : List Value} {h' : wH} {r : vw_C} (hk : Lk Λ i 0 m) (hd : decode cc pc = .ok (.invokevirtual index, 3)) (L : wCv M.1.cls index Mc na) (hr : wCl[7]? = some r) (hcl : r.1 = Mc.1.cls) (hs : Sat G Mc (.ref m :: As) (wld Λ F O R h0, sz) (Det none h')) (hst : st0 = As.reverse ++ .ref m :: st) (hna : As.length = na) (hlev : Nat.ble (Mc.2.2.2.2.1 + 1) M.2.2.2.2.1 = true) (hmx : Nat.ble Mc.2.2.1 15 = true) (hro : Nat.ble (st.map fun v => v.category).sum 8 = true) (hz : Mc.2.2.2.2.2 = (0, 0)) (hk2 : k ≤ M.2.2.2.2.2.1) (hn : n ≤ M.2.2.2.2.2.2) (kq : WW G M cc X Z (pc + 3) lv st h' k n) : WW G M cc X Z pc lv st0 (wld Λ F O R h0, sz) k n :=
  Wxx_call hk hd L hr hcl hs hst hna hlev hmx hro hz hk2 hn (fun v h2 q => by obtain ⟨q1, q2⟩ := q; subst q1; subst q2; exact kq)
theorem Wxx_call1 {Mc : wM} {na : Nat} {As st0 : List Value} {h' : wH} {r : vw_C} {v : Value} (hk : Lk Λ i 0 m) (hd : decode cc pc = .ok (.invokevirtual index, 3)) (L : wCv M.1.cls index Mc na) (hr : wCl[7]? = some r) (hcl : r.1 = Mc.1.cls) (hs : Sat G Mc (.ref m :: As) (wld Λ F O R h0, sz) (Det (some v) h')) (hst : st0 = As.reverse ++ .ref m :: st) (hna : As.length = na) (hlev : Nat.ble (Mc.2.2.2.2.1 + 1) M.2.2.2.2.1 = true) (hmx : Nat.ble Mc.2.2.1 15 = true) (hro : Nat.ble (st.map fun v => v.category).sum 8 = true) (hz : Mc.2.2.2.2.2 = (0, 0)) (hk2 : k ≤ M.2.2.2.2.2.1) (hn : n ≤ M.2.2.2.2.2.2) (kq : WW G M cc X Z (pc + 3) lv (v :: st) h' k n) : WW G M cc X Z pc lv st0 (wld Λ F O R h0, sz) k n :=
  Wxx_call hk hd L hr hcl hs hst hna hlev hmx hro hz hk2 hn (fun v2 h2 q => by obtain ⟨q1, q2⟩ := q; subst q1; subst q2; exact kq)
theorem xx_l0 {Mc : wM} {As : List Value} {v : Option Value} (hk : Lk Λ i 0 m) (c : Sat G Mc As (xxh m (F i) (O i) (R i) (wld Λ F O R h0), sz) (Det v (xxh m (F i) (O i) (R i) (wld Λ F O R h0), sz))) : Sat G Mc As (wld Λ F O R h0, sz) (Det v (wld Λ F O R h0, sz)) := by
  rw [xx_wg hk] at c; exact c
theorem xx_lF {Mc : wM} {As : List Value} {v : Option Value} {F' : Nat → Int32} (hk : Lk Λ i 0 m) (c : Sat G Mc As (xxh m (F i) (O i) (R i) (wld Λ F O R h0), sz) (Det v (xxh m F' (O i) (R i) (wld Λ F O R h0), sz))) : Sat G Mc As (wld Λ F O R h0, sz) (Det v (wld Λ (va_up F i F') O R h0, sz)) := by
  have e : xxh m F' (O i) (R i) (wld Λ F O R h0) = wld Λ (va_up F i F') O R h0 := by rw [xx_wp hk, w_up_id, w_up_id]
  rw [e, xx_wg hk] at c; exact c
theorem xx_lR {Mc : wM} {As : List Value} {v : Option Value} {R' : Nat → Nat → Int32} (hk : Lk Λ i 0 m) (c : Sat G Mc As (xxh m (F i) (O i) (R i) (wld Λ F O R h0), sz) (Det v (xxh m (F i) (O i) R' (wld Λ F O R h0), sz))) : Sat G Mc As (wld Λ F O R h0, sz) (Det v (wld Λ F O (va_up R i R') h0, sz)) := by
  have e : xxh m (F i) (O i) R' (wld Λ F O R h0) = wld Λ F O (va_up R i R') h0 := by rw [xx_wp hk, w_up_id, w_up_id]
  rw [e, xx_wg hk] at c; exact c
theorem xx_lB {Mc : wM} {As : List Value} {v : Option Value} {F' : Nat → Int32} {R' : Nat → Nat → Int32} (hk : Lk Λ i 0 m) (c : Sat G Mc As (xxh m (F i) (O i) (R i) (wld Λ F O R h0), sz) (Det v (xxh m F' (O i) R' (wld Λ F O R h0), sz))) : Sat G Mc As (wld Λ F O R h0, sz) (Det v (wld Λ (va_up F i F') O (va_up R i R') h0, sz)) := by
  have e : xxh m F' (O i) R' (wld Λ F O R h0) = wld Λ (va_up F i F') O (va_up R i R') h0 := by rw [xx_wp hk, w_up_id]
  rw [e, xx_wg hk] at c; exact c
theorem rd_wg (hk : Lk Λ i 1 m) : rdh m (F i) (O i) (R i) (wld Λ F O R h0) = wld Λ F O R h0 := wld_get hk
theorem rd_wp {F' : Nat → Int32} {O' : Nat → Option Nat} {R' : Nat → Nat → Int32} (hk : Lk Λ i 1 m) : rdh m F' O' R' (wld Λ F O R h0) = wld Λ (va_up F i F') (va_up O i O') (va_up R i R') h0 := wld_put hk
theorem rd_wo (hk : Lk Λ i 1 m) : wld Λ F O R h0 m = some (.inr (2, rdV m (F i) (O i))) := by
  rw [← rd_wg hk]; exact rdh_obj
theorem Wrd_geti {kf : Nat} {ty : FieldType} {fin : Bool} (hk : Lk Λ i 1 m) (hd : decode cc pc = .ok (.getfield index, 3)) (L : wFl M.1.cls index 2 kf ty fin) (h : rdPos kf = none) (hb : rdOb kf = false) (kq : WW G M cc X Z (pc + 3) lv (.int (F i kf) :: st) (wld Λ F O R h0, sz) k n) : WW G M cc X Z pc lv (.ref m :: st) (wld Λ F O R h0, sz) k n := by
  rw [← rd_wg hk]; refine rd_geti hd L h hb ?_; rw [rd_wg hk]; exact kq
theorem Wrd_getr {kf : Nat} {ty : FieldType} {fin : Bool} {q : Nat × Nat × FieldType} (hk : Lk Λ i 1 m) (hd : decode cc pc = .ok (.getfield index, 3)) (L : wFl M.1.cls index 2 kf ty fin) (h : rdPos kf = some q) (kq : WW G M cc X Z (pc + 3) lv (.ref (rdAd m kf) :: st) (wld Λ F O R h0, sz) k n) : WW G M cc X Z pc lv (.ref m :: st) (wld Λ F O R h0, sz) k n := by
  rw [← rd_wg hk]; refine rd_getr hd L h ?_; rw [rd_wg hk]; exact kq
theorem Wrd_geto {kf a : Nat} {ty : FieldType} {fin : Bool} (hk : Lk Λ i 1 m) (hd : decode cc pc = .ok (.getfield index, 3)) (L : wFl M.1.cls index 2 kf ty fin) (h : rdPos kf = none) (hb : rdOb kf = true) (ho : O i kf = some a) (kq : WW G M cc X Z (pc + 3) lv (.ref a :: st) (wld Λ F O R h0, sz) k n) : WW G M cc X Z pc lv (.ref m :: st) (wld Λ F O R h0, sz) k n := by
  rw [← rd_wg hk]; refine rd_geto hd L h hb ?_; rw [rd_wg hk, ho]; exact kq
theorem Wrd_getn {kf : Nat} {ty : FieldType} {fin : Bool} (hk : Lk Λ i 1 m) (hd : decode cc pc = .ok (.getfield index, 3)) (L : wFl M.1.cls index 2 kf ty fin) (h : rdPos kf = none) (hb : rdOb kf = true) (ho : O i kf = none) (kq : WW G M cc X Z (pc + 3) lv (.null :: st) (wld Λ F O R h0, sz) k n) : WW G M cc X Z pc lv (.ref m :: st) (wld Λ F O R h0, sz) k n := by
  rw [← rd_wg hk]; refine rd_geto hd L h hb ?_; rw [rd_wg hk, ho]; exact kq
theorem Wrd_puti {kf : Nat} {v : Int32} (hk : Lk Λ i 1 m) (hd : decode cc pc = .ok (.putfield index, 3)) (L : wFl M.1.cls index 2 kf .int false) (h : rdPos kf = none) (hb : rdOb kf = false) (kq : WW G M cc X Z (pc + 3) lv st (wld Λ (va_up F i (upd (F i) kf v)) O R h0, sz) k n) : WW G M cc X Z pc lv (.int v :: .ref m :: st) (wld Λ F O R h0, sz) k n := by
  rw [← rd_wg hk]; refine rd_puti hd L h hb ?_; rw [rd_wp hk, w_up_id, w_up_id]; exact kq
theorem Wrd_putz {kf : Nat} {v : Int32} (hk : Lk Λ i 1 m) (hd : decode cc pc = .ok (.putfield index, 3)) (L : wFl M.1.cls index 2 kf .boolean false) (h : rdPos kf = none) (hb : rdOb kf = false) (hv : v = 0 ∨ v = 1) (kq : WW G M cc X Z (pc + 3) lv st (wld Λ (va_up F i (upd (F i) kf v)) O R h0, sz) k n) : WW G M cc X Z pc lv (.int v :: .ref m :: st) (wld Λ F O R h0, sz) k n := by
  rw [← rd_wg hk]; refine rd_putz hd L h hb hv ?_; rw [rd_wp hk, w_up_id, w_up_id]; exact kq
theorem Wrd_call {Mc : wM} {na : Nat} {As st0 : List Value} {Q : Option Value → wH → Prop} {r : vw_C} (hk : Lk Λ i 1 m) (hd : decode cc pc = .ok (.invokevirtual index, 3)) (L : wCv M.1.cls index Mc na) (hr : wCl[2]? = some r) (hcl : r.1 = Mc.1.cls) (hs : Sat G Mc (.ref m :: As) (wld Λ F O R h0, sz) Q) (hst : st0 = As.reverse ++ .ref m :: st) (hna : As.length = na) (hlev : Nat.ble (Mc.2.2.2.2.1 + 1) M.2.2.2.2.1 = true) (hmx : Nat.ble Mc.2.2.1 15 = true) (hro : Nat.ble (st.map fun v => v.category).sum 8 = true) (hz : Mc.2.2.2.2.2 = (0, 0)) (hk2 : k ≤ M.2.2.2.2.2.1) (hn : n ≤ M.2.2.2.2.2.2) (kq : ∀ v h', Q v h' → WW G M cc X Z (pc + 3) lv (v.toList ++ st) h' k n) : WW G M cc X Z pc lv st0 (wld Λ F O R h0, sz) k n :=
  ww_callV hd L (rd_wo hk) hr hcl hs hst hna hlev hmx hro (by rw [hz]; exact hk2) (by rw [hz]; exact hn) (by rw [hz]; exact kq)
theorem Wrd_call0 {Mc : wM} {na : Nat} {As st0 : List Value} {h' : wH} {r : vw_C} (hk : Lk Λ i 1 m) (hd : decode cc pc = .ok (.invokevirtual index, 3)) (L : wCv M.1.cls index Mc na) (hr : wCl[2]? = some r) (hcl : r.1 = Mc.1.cls) (hs : Sat G Mc (.ref m :: As) (wld Λ F O R h0, sz) (Det none h')) (hst : st0 = As.reverse ++ .ref m :: st) (hna : As.length = na) (hlev : Nat.ble (Mc.2.2.2.2.1 + 1) M.2.2.2.2.1 = true) (hmx : Nat.ble Mc.2.2.1 15 = true) (hro : Nat.ble (st.map fun v => v.category).sum 8 = true) (hz : Mc.2.2.2.2.2 = (0, 0)) (hk2 : k ≤ M.2.2.2.2.2.1) (hn : n ≤ M.2.2.2.2.2.2) (kq : WW G M cc X Z (pc + 3) lv st h' k n) : WW G M cc X Z pc lv st0 (wld Λ F O R h0, sz) k n :=
  Wrd_call hk hd L hr hcl hs hst hna hlev hmx hro hz hk2 hn (fun v h2 q => by obtain ⟨q1, q2⟩ := q; subst q1; subst q2; exact kq)
theorem Wrd_call1 {Mc : wM} {na : Nat} {As st0 : List Value} {h' : wH} {r : vw_C} {v : Value} (hk : Lk Λ i 1 m) (hd : decode cc pc = .ok (.invokevirtual index, 3)) (L : wCv M.1.cls index Mc na) (hr : wCl[2]? = some r) (hcl : r.1 = Mc.1.cls) (hs : Sat G Mc (.ref m :: As) (wld Λ F O R h0, sz) (Det (some v) h')) (hst : st0 = As.reverse ++ .ref m :: st) (hna : As.length = na) (hlev : Nat.ble (Mc.2.2.2.2.1 + 1) M.2.2.2.2.1 = true) (hmx : Nat.ble Mc.2.2.1 15 = true) (hro : Nat.ble (st.map fun v => v.category).sum 8 = true) (hz : Mc.2.2.2.2.2 = (0, 0)) (hk2 : k ≤ M.2.2.2.2.2.1) (hn : n ≤ M.2.2.2.2.2.2) (kq : WW G M cc X Z (pc + 3) lv (v :: st) h' k n) : WW G M cc X Z pc lv st0 (wld Λ F O R h0, sz) k n :=
  Wrd_call hk hd L hr hcl hs hst hna hlev hmx hro hz hk2 hn (fun v2 h2 q => by obtain ⟨q1, q2⟩ := q; subst q1; subst q2; exact kq)
theorem rd_l0 {Mc : wM} {As : List Value} {v : Option Value} (hk : Lk Λ i 1 m) (c : Sat G Mc As (rdh m (F i) (O i) (R i) (wld Λ F O R h0), sz) (Det v (rdh m (F i) (O i) (R i) (wld Λ F O R h0), sz))) : Sat G Mc As (wld Λ F O R h0, sz) (Det v (wld Λ F O R h0, sz)) := by
  rw [rd_wg hk] at c; exact c
theorem rd_lF {Mc : wM} {As : List Value} {v : Option Value} {F' : Nat → Int32} (hk : Lk Λ i 1 m) (c : Sat G Mc As (rdh m (F i) (O i) (R i) (wld Λ F O R h0), sz) (Det v (rdh m F' (O i) (R i) (wld Λ F O R h0), sz))) : Sat G Mc As (wld Λ F O R h0, sz) (Det v (wld Λ (va_up F i F') O R h0, sz)) := by
  have e : rdh m F' (O i) (R i) (wld Λ F O R h0) = wld Λ (va_up F i F') O R h0 := by rw [rd_wp hk, w_up_id, w_up_id]
  rw [e, rd_wg hk] at c; exact c
theorem rd_lR {Mc : wM} {As : List Value} {v : Option Value} {R' : Nat → Nat → Int32} (hk : Lk Λ i 1 m) (c : Sat G Mc As (rdh m (F i) (O i) (R i) (wld Λ F O R h0), sz) (Det v (rdh m (F i) (O i) R' (wld Λ F O R h0), sz))) : Sat G Mc As (wld Λ F O R h0, sz) (Det v (wld Λ F O (va_up R i R') h0, sz)) := by
  have e : rdh m (F i) (O i) R' (wld Λ F O R h0) = wld Λ F O (va_up R i R') h0 := by rw [rd_wp hk, w_up_id, w_up_id]
  rw [e, rd_wg hk] at c; exact c
theorem rd_lB {Mc : wM} {As : List Value} {v : Option Value} {F' : Nat → Int32} {R' : Nat → Nat → Int32} (hk : Lk Λ i 1 m) (c : Sat G Mc As (rdh m (F i) (O i) (R i) (wld Λ F O R h0), sz) (Det v (rdh m F' (O i) R' (wld Λ F O R h0), sz))) : Sat G Mc As (wld Λ F O R h0, sz) (Det v (wld Λ (va_up F i F') O (va_up R i R') h0, sz)) := by
  have e : rdh m F' (O i) R' (wld Λ F O R h0) = wld Λ (va_up F i F') O (va_up R i R') h0 := by rw [rd_wp hk, w_up_id]
  rw [e, rd_wg hk] at c; exact c
theorem Wrd_iald {kf j p0 nn : Nat} {x : Int32} (hk : Lk Λ i 1 m) (hd : decode cc pc = .ok (.iaload, 1)) (h : rdPos kf = some (p0, nn, .int)) (hi : x = nI j) (hj : j < nn) (hnn : Nat.blt nn 2147483648 = true) (kq : WW G M cc X Z (pc + 1) lv (.int (R i kf j) :: st) (wld Λ F O R h0, sz) k n) : WW G M cc X Z pc lv (.int x :: .ref (rdAd m kf) :: st) (wld Λ F O R h0, sz) k n := by
  rw [← rd_wg hk]; refine rd_iald hd h hi hj hnn ?_; rw [rd_wg hk]; exact kq
theorem Wrd_iast {kf j p0 nn : Nat} {y x : Int32} (hk : Lk Λ i 1 m) (hd : decode cc pc = .ok (.iastore, 1)) (h : rdPos kf = some (p0, nn, .int)) (hi : y = nI j) (hj : j < nn) (hnn : Nat.blt nn 2147483648 = true) (kq : WW G M cc X Z (pc + 1) lv st (wld Λ F O (va_up R i (va_up (R i) kf (upd (R i kf) j x))) h0, sz) k n) : WW G M cc X Z pc lv (.int x :: .int y :: .ref (rdAd m kf) :: st) (wld Λ F O R h0, sz) k n := by
  rw [← rd_wg hk]; refine rd_iast hd h hi hj hnn ?_
  have e : rdh m (F i) (O i) (va_up (R i) kf (upd (R i kf) j x)) (wld Λ F O R h0) = wld Λ F O (va_up R i (va_up (R i) kf (upd (R i kf) j x))) h0 := by rw [rd_wp hk, w_up_id, w_up_id]
  rw [e]; exact kq
theorem Wrd_zald {kf j p0 nn : Nat} {x : Int32} (hk : Lk Λ i 1 m) (hd : decode cc pc = .ok (.baload, 1)) (h : rdPos kf = some (p0, nn, .boolean)) (hi : x = nI j) (hj : j < nn) (hnn : Nat.blt nn 2147483648 = true) (kq : WW G M cc X Z (pc + 1) lv (.int (R i kf j) :: st) (wld Λ F O R h0, sz) k n) : WW G M cc X Z pc lv (.int x :: .ref (rdAd m kf) :: st) (wld Λ F O R h0, sz) k n := by
  rw [← rd_wg hk]; refine rd_zald hd h hi hj hnn ?_; rw [rd_wg hk]; exact kq
theorem Wrd_zast {kf j p0 nn : Nat} {y x : Int32} (hk : Lk Λ i 1 m) (hd : decode cc pc = .ok (.bastore, 1)) (h : rdPos kf = some (p0, nn, .boolean)) (hi : y = nI j) (hj : j < nn) (hnn : Nat.blt nn 2147483648 = true) (kq : WW G M cc X Z (pc + 1) lv st (wld Λ F O (va_up R i (va_up (R i) kf (upd (R i kf) j (vp_nar .boolean x)))) h0, sz) k n) : WW G M cc X Z pc lv (.int x :: .int y :: .ref (rdAd m kf) :: st) (wld Λ F O R h0, sz) k n := by
  rw [← rd_wg hk]; refine rd_zast hd h hi hj hnn ?_
  have e : rdh m (F i) (O i) (va_up (R i) kf (upd (R i kf) j (vp_nar .boolean x))) (wld Λ F O R h0) = wld Λ F O (va_up R i (va_up (R i) kf (upd (R i kf) j (vp_nar .boolean x)))) h0 := by rw [rd_wp hk, w_up_id, w_up_id]
  rw [e]; exact kq
theorem ta_wg (hk : Lk Λ i 2 m) : tah m (F i) (O i) (R i) (wld Λ F O R h0) = wld Λ F O R h0 := wld_get hk
theorem ta_wp {F' : Nat → Int32} {O' : Nat → Option Nat} {R' : Nat → Nat → Int32} (hk : Lk Λ i 2 m) : tah m F' O' R' (wld Λ F O R h0) = wld Λ (va_up F i F') (va_up O i O') (va_up R i R') h0 := wld_put hk
theorem ta_wo (hk : Lk Λ i 2 m) : wld Λ F O R h0 m = some (.inr (4, taV m (F i) (O i))) := by
  rw [← ta_wg hk]; exact tah_obj
theorem Wta_geti {kf : Nat} {ty : FieldType} {fin : Bool} (hk : Lk Λ i 2 m) (hd : decode cc pc = .ok (.getfield index, 3)) (L : wFl M.1.cls index 4 kf ty fin) (h : taPos kf = none) (hb : taOb kf = false) (kq : WW G M cc X Z (pc + 3) lv (.int (F i kf) :: st) (wld Λ F O R h0, sz) k n) : WW G M cc X Z pc lv (.ref m :: st) (wld Λ F O R h0, sz) k n := by
  rw [← ta_wg hk]; refine ta_geti hd L h hb ?_; rw [ta_wg hk]; exact kq
theorem Wta_getr {kf : Nat} {ty : FieldType} {fin : Bool} {q : Nat × Nat × FieldType} (hk : Lk Λ i 2 m) (hd : decode cc pc = .ok (.getfield index, 3)) (L : wFl M.1.cls index 4 kf ty fin) (h : taPos kf = some q) (kq : WW G M cc X Z (pc + 3) lv (.ref (taAd m kf) :: st) (wld Λ F O R h0, sz) k n) : WW G M cc X Z pc lv (.ref m :: st) (wld Λ F O R h0, sz) k n := by
  rw [← ta_wg hk]; refine ta_getr hd L h ?_; rw [ta_wg hk]; exact kq
theorem Wta_geto {kf a : Nat} {ty : FieldType} {fin : Bool} (hk : Lk Λ i 2 m) (hd : decode cc pc = .ok (.getfield index, 3)) (L : wFl M.1.cls index 4 kf ty fin) (h : taPos kf = none) (hb : taOb kf = true) (ho : O i kf = some a) (kq : WW G M cc X Z (pc + 3) lv (.ref a :: st) (wld Λ F O R h0, sz) k n) : WW G M cc X Z pc lv (.ref m :: st) (wld Λ F O R h0, sz) k n := by
  rw [← ta_wg hk]; refine ta_geto hd L h hb ?_; rw [ta_wg hk, ho]; exact kq
theorem Wta_getn {kf : Nat} {ty : FieldType} {fin : Bool} (hk : Lk Λ i 2 m) (hd : decode cc pc = .ok (.getfield index, 3)) (L : wFl M.1.cls index 4 kf ty fin) (h : taPos kf = none) (hb : taOb kf = true) (ho : O i kf = none) (kq : WW G M cc X Z (pc + 3) lv (.null :: st) (wld Λ F O R h0, sz) k n) : WW G M cc X Z pc lv (.ref m :: st) (wld Λ F O R h0, sz) k n := by
  rw [← ta_wg hk]; refine ta_geto hd L h hb ?_; rw [ta_wg hk, ho]; exact kq
theorem Wta_puti {kf : Nat} {v : Int32} (hk : Lk Λ i 2 m) (hd : decode cc pc = .ok (.putfield index, 3)) (L : wFl M.1.cls index 4 kf .int false) (h : taPos kf = none) (hb : taOb kf = false) (kq : WW G M cc X Z (pc + 3) lv st (wld Λ (va_up F i (upd (F i) kf v)) O R h0, sz) k n) : WW G M cc X Z pc lv (.int v :: .ref m :: st) (wld Λ F O R h0, sz) k n := by
  rw [← ta_wg hk]; refine ta_puti hd L h hb ?_; rw [ta_wp hk, w_up_id, w_up_id]; exact kq
theorem Wta_putz {kf : Nat} {v : Int32} (hk : Lk Λ i 2 m) (hd : decode cc pc = .ok (.putfield index, 3)) (L : wFl M.1.cls index 4 kf .boolean false) (h : taPos kf = none) (hb : taOb kf = false) (hv : v = 0 ∨ v = 1) (kq : WW G M cc X Z (pc + 3) lv st (wld Λ (va_up F i (upd (F i) kf v)) O R h0, sz) k n) : WW G M cc X Z pc lv (.int v :: .ref m :: st) (wld Λ F O R h0, sz) k n := by
  rw [← ta_wg hk]; refine ta_putz hd L h hb hv ?_; rw [ta_wp hk, w_up_id, w_up_id]; exact kq
theorem Wta_call {Mc : wM} {na : Nat} {As st0 : List Value} {Q : Option Value → wH → Prop} {r : vw_C} (hk : Lk Λ i 2 m) (hd : decode cc pc = .ok (.invokevirtual index, 3)) (L : wCv M.1.cls index Mc na) (hr : wCl[4]? = some r) (hcl : r.1 = Mc.1.cls) (hs : Sat G Mc (.ref m :: As) (wld Λ F O R h0, sz) Q) (hst : st0 = As.reverse ++ .ref m :: st) (hna : As.length = na) (hlev : Nat.ble (Mc.2.2.2.2.1 + 1) M.2.2.2.2.1 = true) (hmx : Nat.ble Mc.2.2.1 15 = true) (hro : Nat.ble (st.map fun v => v.category).sum 8 = true) (hz : Mc.2.2.2.2.2 = (0, 0)) (hk2 : k ≤ M.2.2.2.2.2.1) (hn : n ≤ M.2.2.2.2.2.2) (kq : ∀ v h', Q v h' → WW G M cc X Z (pc + 3) lv (v.toList ++ st) h' k n) : WW G M cc X Z pc lv st0 (wld Λ F O R h0, sz) k n :=
  ww_callV hd L (ta_wo hk) hr hcl hs hst hna hlev hmx hro (by rw [hz]; exact hk2) (by rw [hz]; exact hn) (by rw [hz]; exact kq)
theorem Wta_call0 {Mc : wM} {na : Nat} {As st0 : List Value} {h' : wH} {r : vw_C} (hk : Lk Λ i 2 m) (hd : decode cc pc = .ok (.invokevirtual index, 3)) (L : wCv M.1.cls index Mc na) (hr : wCl[4]? = some r) (hcl : r.1 = Mc.1.cls) (hs : Sat G Mc (.ref m :: As) (wld Λ F O R h0, sz) (Det none h')) (hst : st0 = As.reverse ++ .ref m :: st) (hna : As.length = na) (hlev : Nat.ble (Mc.2.2.2.2.1 + 1) M.2.2.2.2.1 = true) (hmx : Nat.ble Mc.2.2.1 15 = true) (hro : Nat.ble (st.map fun v => v.category).sum 8 = true) (hz : Mc.2.2.2.2.2 = (0, 0)) (hk2 : k ≤ M.2.2.2.2.2.1) (hn : n ≤ M.2.2.2.2.2.2) (kq : WW G M cc X Z (pc + 3) lv st h' k n) : WW G M cc X Z pc lv st0 (wld Λ F O R h0, sz) k n :=
  Wta_call hk hd L hr hcl hs hst hna hlev hmx hro hz hk2 hn (fun v h2 q => by obtain ⟨q1, q2⟩ := q; subst q1; subst q2; exact kq)
theorem Wta_call1 {Mc : wM} {na : Nat} {As st0 : List Value} {h' : wH} {r : vw_C} {v : Value} (hk : Lk Λ i 2 m) (hd : decode cc pc = .ok (.invokevirtual index, 3)) (L : wCv M.1.cls index Mc na) (hr : wCl[4]? = some r) (hcl : r.1 = Mc.1.cls) (hs : Sat G Mc (.ref m :: As) (wld Λ F O R h0, sz) (Det (some v) h')) (hst : st0 = As.reverse ++ .ref m :: st) (hna : As.length = na) (hlev : Nat.ble (Mc.2.2.2.2.1 + 1) M.2.2.2.2.1 = true) (hmx : Nat.ble Mc.2.2.1 15 = true) (hro : Nat.ble (st.map fun v => v.category).sum 8 = true) (hz : Mc.2.2.2.2.2 = (0, 0)) (hk2 : k ≤ M.2.2.2.2.2.1) (hn : n ≤ M.2.2.2.2.2.2) (kq : WW G M cc X Z (pc + 3) lv (v :: st) h' k n) : WW G M cc X Z pc lv st0 (wld Λ F O R h0, sz) k n :=
  Wta_call hk hd L hr hcl hs hst hna hlev hmx hro hz hk2 hn (fun v2 h2 q => by obtain ⟨q1, q2⟩ := q; subst q1; subst q2; exact kq)
theorem ta_l0 {Mc : wM} {As : List Value} {v : Option Value} (hk : Lk Λ i 2 m) (c : Sat G Mc As (tah m (F i) (O i) (R i) (wld Λ F O R h0), sz) (Det v (tah m (F i) (O i) (R i) (wld Λ F O R h0), sz))) : Sat G Mc As (wld Λ F O R h0, sz) (Det v (wld Λ F O R h0, sz)) := by
  rw [ta_wg hk] at c; exact c
theorem ta_lF {Mc : wM} {As : List Value} {v : Option Value} {F' : Nat → Int32} (hk : Lk Λ i 2 m) (c : Sat G Mc As (tah m (F i) (O i) (R i) (wld Λ F O R h0), sz) (Det v (tah m F' (O i) (R i) (wld Λ F O R h0), sz))) : Sat G Mc As (wld Λ F O R h0, sz) (Det v (wld Λ (va_up F i F') O R h0, sz)) := by
  have e : tah m F' (O i) (R i) (wld Λ F O R h0) = wld Λ (va_up F i F') O R h0 := by rw [ta_wp hk, w_up_id, w_up_id]
  rw [e, ta_wg hk] at c; exact c
theorem ta_lR {Mc : wM} {As : List Value} {v : Option Value} {R' : Nat → Nat → Int32} (hk : Lk Λ i 2 m) (c : Sat G Mc As (tah m (F i) (O i) (R i) (wld Λ F O R h0), sz) (Det v (tah m (F i) (O i) R' (wld Λ F O R h0), sz))) : Sat G Mc As (wld Λ F O R h0, sz) (Det v (wld Λ F O (va_up R i R') h0, sz)) := by
  have e : tah m (F i) (O i) R' (wld Λ F O R h0) = wld Λ F O (va_up R i R') h0 := by rw [ta_wp hk, w_up_id, w_up_id]
  rw [e, ta_wg hk] at c; exact c
theorem ta_lB {Mc : wM} {As : List Value} {v : Option Value} {F' : Nat → Int32} {R' : Nat → Nat → Int32} (hk : Lk Λ i 2 m) (c : Sat G Mc As (tah m (F i) (O i) (R i) (wld Λ F O R h0), sz) (Det v (tah m F' (O i) R' (wld Λ F O R h0), sz))) : Sat G Mc As (wld Λ F O R h0, sz) (Det v (wld Λ (va_up F i F') O (va_up R i R') h0, sz)) := by
  have e : tah m F' (O i) R' (wld Λ F O R h0) = wld Λ (va_up F i F') O (va_up R i R') h0 := by rw [ta_wp hk, w_up_id]
  rw [e, ta_wg hk] at c; exact c
theorem Wta_iald {kf j p0 nn : Nat} {x : Int32} (hk : Lk Λ i 2 m) (hd : decode cc pc = .ok (.iaload, 1)) (h : taPos kf = some (p0, nn, .int)) (hi : x = nI j) (hj : j < nn) (hnn : Nat.blt nn 2147483648 = true) (kq : WW G M cc X Z (pc + 1) lv (.int (R i kf j) :: st) (wld Λ F O R h0, sz) k n) : WW G M cc X Z pc lv (.int x :: .ref (taAd m kf) :: st) (wld Λ F O R h0, sz) k n := by
  rw [← ta_wg hk]; refine ta_iald hd h hi hj hnn ?_; rw [ta_wg hk]; exact kq
theorem Wta_iast {kf j p0 nn : Nat} {y x : Int32} (hk : Lk Λ i 2 m) (hd : decode cc pc = .ok (.iastore, 1)) (h : taPos kf = some (p0, nn, .int)) (hi : y = nI j) (hj : j < nn) (hnn : Nat.blt nn 2147483648 = true) (kq : WW G M cc X Z (pc + 1) lv st (wld Λ F O (va_up R i (va_up (R i) kf (upd (R i kf) j x))) h0, sz) k n) : WW G M cc X Z pc lv (.int x :: .int y :: .ref (taAd m kf) :: st) (wld Λ F O R h0, sz) k n := by
  rw [← ta_wg hk]; refine ta_iast hd h hi hj hnn ?_
  have e : tah m (F i) (O i) (va_up (R i) kf (upd (R i kf) j x)) (wld Λ F O R h0) = wld Λ F O (va_up R i (va_up (R i) kf (upd (R i kf) j x))) h0 := by rw [ta_wp hk, w_up_id, w_up_id]
  rw [e]; exact kq
theorem Wta_bald {kf j p0 nn : Nat} {x : Int32} (hk : Lk Λ i 2 m) (hd : decode cc pc = .ok (.baload, 1)) (h : taPos kf = some (p0, nn, .byte)) (hi : x = nI j) (hj : j < nn) (hnn : Nat.blt nn 2147483648 = true) (kq : WW G M cc X Z (pc + 1) lv (.int (R i kf j) :: st) (wld Λ F O R h0, sz) k n) : WW G M cc X Z pc lv (.int x :: .ref (taAd m kf) :: st) (wld Λ F O R h0, sz) k n := by
  rw [← ta_wg hk]; refine ta_bald hd h hi hj hnn ?_; rw [ta_wg hk]; exact kq
theorem Wta_bast {kf j p0 nn : Nat} {y x : Int32} (hk : Lk Λ i 2 m) (hd : decode cc pc = .ok (.bastore, 1)) (h : taPos kf = some (p0, nn, .byte)) (hi : y = nI j) (hj : j < nn) (hnn : Nat.blt nn 2147483648 = true) (kq : WW G M cc X Z (pc + 1) lv st (wld Λ F O (va_up R i (va_up (R i) kf (upd (R i kf) j (vp_nar .byte x)))) h0, sz) k n) : WW G M cc X Z pc lv (.int x :: .int y :: .ref (taAd m kf) :: st) (wld Λ F O R h0, sz) k n := by
  rw [← ta_wg hk]; refine ta_bast hd h hi hj hnn ?_
  have e : tah m (F i) (O i) (va_up (R i) kf (upd (R i kf) j (vp_nar .byte x))) (wld Λ F O R h0) = wld Λ F O (va_up R i (va_up (R i) kf (upd (R i kf) j (vp_nar .byte x)))) h0 := by rw [ta_wp hk, w_up_id, w_up_id]
  rw [e]; exact kq
theorem bb_wg (hk : Lk Λ i 3 m) : bbh m (F i) (O i) (R i) (wld Λ F O R h0) = wld Λ F O R h0 := wld_get hk
theorem bb_wp {F' : Nat → Int32} {O' : Nat → Option Nat} {R' : Nat → Nat → Int32} (hk : Lk Λ i 3 m) : bbh m F' O' R' (wld Λ F O R h0) = wld Λ (va_up F i F') (va_up O i O') (va_up R i R') h0 := wld_put hk
theorem bb_wo (hk : Lk Λ i 3 m) : wld Λ F O R h0 m = some (.inr (0, bbV m (F i) (O i))) := by
  rw [← bb_wg hk]; exact bbh_obj
theorem Wbb_geti {kf : Nat} {ty : FieldType} {fin : Bool} (hk : Lk Λ i 3 m) (hd : decode cc pc = .ok (.getfield index, 3)) (L : wFl M.1.cls index 0 kf ty fin) (h : bbPos kf = none) (hb : bbOb kf = false) (kq : WW G M cc X Z (pc + 3) lv (.int (F i kf) :: st) (wld Λ F O R h0, sz) k n) : WW G M cc X Z pc lv (.ref m :: st) (wld Λ F O R h0, sz) k n := by
  rw [← bb_wg hk]; refine bb_geti hd L h hb ?_; rw [bb_wg hk]; exact kq
theorem Wbb_getr {kf : Nat} {ty : FieldType} {fin : Bool} {q : Nat × Nat × FieldType} (hk : Lk Λ i 3 m) (hd : decode cc pc = .ok (.getfield index, 3)) (L : wFl M.1.cls index 0 kf ty fin) (h : bbPos kf = some q) (kq : WW G M cc X Z (pc + 3) lv (.ref (bbAd m kf) :: st) (wld Λ F O R h0, sz) k n) : WW G M cc X Z pc lv (.ref m :: st) (wld Λ F O R h0, sz) k n := by
  rw [← bb_wg hk]; refine bb_getr hd L h ?_; rw [bb_wg hk]; exact kq
theorem Wbb_puti {kf : Nat} {v : Int32} (hk : Lk Λ i 3 m) (hd : decode cc pc = .ok (.putfield index, 3)) (L : wFl M.1.cls index 0 kf .int false) (h : bbPos kf = none) (hb : bbOb kf = false) (kq : WW G M cc X Z (pc + 3) lv st (wld Λ (va_up F i (upd (F i) kf v)) O R h0, sz) k n) : WW G M cc X Z pc lv (.int v :: .ref m :: st) (wld Λ F O R h0, sz) k n := by
  rw [← bb_wg hk]; refine bb_puti hd L h hb ?_; rw [bb_wp hk, w_up_id, w_up_id]; exact kq
theorem Wbb_call {Mc : wM} {na : Nat} {As st0 : List Value} {Q : Option Value → wH → Prop} {r : vw_C} (hk : Lk Λ i 3 m) (hd : decode cc pc = .ok (.invokevirtual index, 3)) (L : wCv M.1.cls index Mc na) (hr : wCl[0]? = some r) (hcl : r.1 = Mc.1.cls) (hs : Sat G Mc (.ref m :: As) (wld Λ F O R h0, sz) Q) (hst : st0 = As.reverse ++ .ref m :: st) (hna : As.length = na) (hlev : Nat.ble (Mc.2.2.2.2.1 + 1) M.2.2.2.2.1 = true) (hmx : Nat.ble Mc.2.2.1 15 = true) (hro : Nat.ble (st.map fun v => v.category).sum 8 = true) (hz : Mc.2.2.2.2.2 = (0, 0)) (hk2 : k ≤ M.2.2.2.2.2.1) (hn : n ≤ M.2.2.2.2.2.2) (kq : ∀ v h', Q v h' → WW G M cc X Z (pc + 3) lv (v.toList ++ st) h' k n) : WW G M cc X Z pc lv st0 (wld Λ F O R h0, sz) k n :=
  ww_callV hd L (bb_wo hk) hr hcl hs hst hna hlev hmx hro (by rw [hz]; exact hk2) (by rw [hz]; exact hn) (by rw [hz]; exact kq)
theorem Wbb_call0 {Mc : wM} {na : Nat} {As st0 : List Value} {h' : wH} {r : vw_C} (hk : Lk Λ i 3 m) (hd : decode cc pc = .ok (.invokevirtual index, 3)) (L : wCv M.1.cls index Mc na) (hr : wCl[0]? = some r) (hcl : r.1 = Mc.1.cls) (hs : Sat G Mc (.ref m :: As) (wld Λ F O R h0, sz) (Det none h')) (hst : st0 = As.reverse ++ .ref m :: st) (hna : As.length = na) (hlev : Nat.ble (Mc.2.2.2.2.1 + 1) M.2.2.2.2.1 = true) (hmx : Nat.ble Mc.2.2.1 15 = true) (hro : Nat.ble (st.map fun v => v.category).sum 8 = true) (hz : Mc.2.2.2.2.2 = (0, 0)) (hk2 : k ≤ M.2.2.2.2.2.1) (hn : n ≤ M.2.2.2.2.2.2) (kq : WW G M cc X Z (pc + 3) lv st h' k n) : WW G M cc X Z pc lv st0 (wld Λ F O R h0, sz) k n :=
  Wbb_call hk hd L hr hcl hs hst hna hlev hmx hro hz hk2 hn (fun v h2 q => by obtain ⟨q1, q2⟩ := q; subst q1; subst q2; exact kq)
theorem Wbb_call1 {Mc : wM} {na : Nat} {As st0 : List Value} {h' : wH} {r : vw_C} {v : Value} (hk : Lk Λ i 3 m) (hd : decode cc pc = .ok (.invokevirtual index, 3)) (L : wCv M.1.cls index Mc na) (hr : wCl[0]? = some r) (hcl : r.1 = Mc.1.cls) (hs : Sat G Mc (.ref m :: As) (wld Λ F O R h0, sz) (Det (some v) h')) (hst : st0 = As.reverse ++ .ref m :: st) (hna : As.length = na) (hlev : Nat.ble (Mc.2.2.2.2.1 + 1) M.2.2.2.2.1 = true) (hmx : Nat.ble Mc.2.2.1 15 = true) (hro : Nat.ble (st.map fun v => v.category).sum 8 = true) (hz : Mc.2.2.2.2.2 = (0, 0)) (hk2 : k ≤ M.2.2.2.2.2.1) (hn : n ≤ M.2.2.2.2.2.2) (kq : WW G M cc X Z (pc + 3) lv (v :: st) h' k n) : WW G M cc X Z pc lv st0 (wld Λ F O R h0, sz) k n :=
  Wbb_call hk hd L hr hcl hs hst hna hlev hmx hro hz hk2 hn (fun v2 h2 q => by obtain ⟨q1, q2⟩ := q; subst q1; subst q2; exact kq)
theorem bb_l0 {Mc : wM} {As : List Value} {v : Option Value} (hk : Lk Λ i 3 m) (c : Sat G Mc As (bbh m (F i) (O i) (R i) (wld Λ F O R h0), sz) (Det v (bbh m (F i) (O i) (R i) (wld Λ F O R h0), sz))) : Sat G Mc As (wld Λ F O R h0, sz) (Det v (wld Λ F O R h0, sz)) := by
  rw [bb_wg hk] at c; exact c
theorem bb_lF {Mc : wM} {As : List Value} {v : Option Value} {F' : Nat → Int32} (hk : Lk Λ i 3 m) (c : Sat G Mc As (bbh m (F i) (O i) (R i) (wld Λ F O R h0), sz) (Det v (bbh m F' (O i) (R i) (wld Λ F O R h0), sz))) : Sat G Mc As (wld Λ F O R h0, sz) (Det v (wld Λ (va_up F i F') O R h0, sz)) := by
  have e : bbh m F' (O i) (R i) (wld Λ F O R h0) = wld Λ (va_up F i F') O R h0 := by rw [bb_wp hk, w_up_id, w_up_id]
  rw [e, bb_wg hk] at c; exact c
theorem bb_lR {Mc : wM} {As : List Value} {v : Option Value} {R' : Nat → Nat → Int32} (hk : Lk Λ i 3 m) (c : Sat G Mc As (bbh m (F i) (O i) (R i) (wld Λ F O R h0), sz) (Det v (bbh m (F i) (O i) R' (wld Λ F O R h0), sz))) : Sat G Mc As (wld Λ F O R h0, sz) (Det v (wld Λ F O (va_up R i R') h0, sz)) := by
  have e : bbh m (F i) (O i) R' (wld Λ F O R h0) = wld Λ F O (va_up R i R') h0 := by rw [bb_wp hk, w_up_id, w_up_id]
  rw [e, bb_wg hk] at c; exact c
theorem bb_lB {Mc : wM} {As : List Value} {v : Option Value} {F' : Nat → Int32} {R' : Nat → Nat → Int32} (hk : Lk Λ i 3 m) (c : Sat G Mc As (bbh m (F i) (O i) (R i) (wld Λ F O R h0), sz) (Det v (bbh m F' (O i) R' (wld Λ F O R h0), sz))) : Sat G Mc As (wld Λ F O R h0, sz) (Det v (wld Λ (va_up F i F') O (va_up R i R') h0, sz)) := by
  have e : bbh m F' (O i) R' (wld Λ F O R h0) = wld Λ (va_up F i F') O (va_up R i R') h0 := by rw [bb_wp hk, w_up_id]
  rw [e, bb_wg hk] at c; exact c
theorem Wbb_iald {kf j p0 nn : Nat} {x : Int32} (hk : Lk Λ i 3 m) (hd : decode cc pc = .ok (.iaload, 1)) (h : bbPos kf = some (p0, nn, .int)) (hi : x = nI j) (hj : j < nn) (hnn : Nat.blt nn 2147483648 = true) (kq : WW G M cc X Z (pc + 1) lv (.int (R i kf j) :: st) (wld Λ F O R h0, sz) k n) : WW G M cc X Z pc lv (.int x :: .ref (bbAd m kf) :: st) (wld Λ F O R h0, sz) k n := by
  rw [← bb_wg hk]; refine bb_iald hd h hi hj hnn ?_; rw [bb_wg hk]; exact kq
theorem Wbb_iast {kf j p0 nn : Nat} {y x : Int32} (hk : Lk Λ i 3 m) (hd : decode cc pc = .ok (.iastore, 1)) (h : bbPos kf = some (p0, nn, .int)) (hi : y = nI j) (hj : j < nn) (hnn : Nat.blt nn 2147483648 = true) (kq : WW G M cc X Z (pc + 1) lv st (wld Λ F O (va_up R i (va_up (R i) kf (upd (R i kf) j x))) h0, sz) k n) : WW G M cc X Z pc lv (.int x :: .int y :: .ref (bbAd m kf) :: st) (wld Λ F O R h0, sz) k n := by
  rw [← bb_wg hk]; refine bb_iast hd h hi hj hnn ?_
  have e : bbh m (F i) (O i) (va_up (R i) kf (upd (R i kf) j x)) (wld Λ F O R h0) = wld Λ F O (va_up R i (va_up (R i) kf (upd (R i kf) j x))) h0 := by rw [bb_wp hk, w_up_id, w_up_id]
  rw [e]; exact kq
theorem pp_wg (hk : Lk Λ i 4 m) : pph m (F i) (O i) (R i) (wld Λ F O R h0) = wld Λ F O R h0 := wld_get hk
theorem pp_wp {F' : Nat → Int32} {O' : Nat → Option Nat} {R' : Nat → Nat → Int32} (hk : Lk Λ i 4 m) : pph m F' O' R' (wld Λ F O R h0) = wld Λ (va_up F i F') (va_up O i O') (va_up R i R') h0 := wld_put hk
theorem pp_wo (hk : Lk Λ i 4 m) : wld Λ F O R h0 m = some (.inr (1, ppV m (F i) (O i))) := by
  rw [← pp_wg hk]; exact pph_obj
theorem Wpp_geti {kf : Nat} {ty : FieldType} {fin : Bool} (hk : Lk Λ i 4 m) (hd : decode cc pc = .ok (.getfield index, 3)) (L : wFl M.1.cls index 1 kf ty fin) (h : ppPos kf = none) (hb : ppOb kf = false) (kq : WW G M cc X Z (pc + 3) lv (.int (F i kf) :: st) (wld Λ F O R h0, sz) k n) : WW G M cc X Z pc lv (.ref m :: st) (wld Λ F O R h0, sz) k n := by
  rw [← pp_wg hk]; refine pp_geti hd L h hb ?_; rw [pp_wg hk]; exact kq
theorem Wpp_getr {kf : Nat} {ty : FieldType} {fin : Bool} {q : Nat × Nat × FieldType} (hk : Lk Λ i 4 m) (hd : decode cc pc = .ok (.getfield index, 3)) (L : wFl M.1.cls index 1 kf ty fin) (h : ppPos kf = some q) (kq : WW G M cc X Z (pc + 3) lv (.ref (ppAd m kf) :: st) (wld Λ F O R h0, sz) k n) : WW G M cc X Z pc lv (.ref m :: st) (wld Λ F O R h0, sz) k n := by
  rw [← pp_wg hk]; refine pp_getr hd L h ?_; rw [pp_wg hk]; exact kq
theorem Wpp_geto {kf a : Nat} {ty : FieldType} {fin : Bool} (hk : Lk Λ i 4 m) (hd : decode cc pc = .ok (.getfield index, 3)) (L : wFl M.1.cls index 1 kf ty fin) (h : ppPos kf = none) (hb : ppOb kf = true) (ho : O i kf = some a) (kq : WW G M cc X Z (pc + 3) lv (.ref a :: st) (wld Λ F O R h0, sz) k n) : WW G M cc X Z pc lv (.ref m :: st) (wld Λ F O R h0, sz) k n := by
  rw [← pp_wg hk]; refine pp_geto hd L h hb ?_; rw [pp_wg hk, ho]; exact kq
theorem Wpp_getn {kf : Nat} {ty : FieldType} {fin : Bool} (hk : Lk Λ i 4 m) (hd : decode cc pc = .ok (.getfield index, 3)) (L : wFl M.1.cls index 1 kf ty fin) (h : ppPos kf = none) (hb : ppOb kf = true) (ho : O i kf = none) (kq : WW G M cc X Z (pc + 3) lv (.null :: st) (wld Λ F O R h0, sz) k n) : WW G M cc X Z pc lv (.ref m :: st) (wld Λ F O R h0, sz) k n := by
  rw [← pp_wg hk]; refine pp_geto hd L h hb ?_; rw [pp_wg hk, ho]; exact kq
theorem Wpp_puti {kf : Nat} {v : Int32} (hk : Lk Λ i 4 m) (hd : decode cc pc = .ok (.putfield index, 3)) (L : wFl M.1.cls index 1 kf .int false) (h : ppPos kf = none) (hb : ppOb kf = false) (kq : WW G M cc X Z (pc + 3) lv st (wld Λ (va_up F i (upd (F i) kf v)) O R h0, sz) k n) : WW G M cc X Z pc lv (.int v :: .ref m :: st) (wld Λ F O R h0, sz) k n := by
  rw [← pp_wg hk]; refine pp_puti hd L h hb ?_; rw [pp_wp hk, w_up_id, w_up_id]; exact kq
theorem Wpp_putz {kf : Nat} {v : Int32} (hk : Lk Λ i 4 m) (hd : decode cc pc = .ok (.putfield index, 3)) (L : wFl M.1.cls index 1 kf .boolean false) (h : ppPos kf = none) (hb : ppOb kf = false) (hv : v = 0 ∨ v = 1) (kq : WW G M cc X Z (pc + 3) lv st (wld Λ (va_up F i (upd (F i) kf v)) O R h0, sz) k n) : WW G M cc X Z pc lv (.int v :: .ref m :: st) (wld Λ F O R h0, sz) k n := by
  rw [← pp_wg hk]; refine pp_putz hd L h hb hv ?_; rw [pp_wp hk, w_up_id, w_up_id]; exact kq
theorem Wpp_call {Mc : wM} {na : Nat} {As st0 : List Value} {Q : Option Value → wH → Prop} {r : vw_C} (hk : Lk Λ i 4 m) (hd : decode cc pc = .ok (.invokevirtual index, 3)) (L : wCv M.1.cls index Mc na) (hr : wCl[1]? = some r) (hcl : r.1 = Mc.1.cls) (hs : Sat G Mc (.ref m :: As) (wld Λ F O R h0, sz) Q) (hst : st0 = As.reverse ++ .ref m :: st) (hna : As.length = na) (hlev : Nat.ble (Mc.2.2.2.2.1 + 1) M.2.2.2.2.1 = true) (hmx : Nat.ble Mc.2.2.1 15 = true) (hro : Nat.ble (st.map fun v => v.category).sum 8 = true) (hz : Mc.2.2.2.2.2 = (0, 0)) (hk2 : k ≤ M.2.2.2.2.2.1) (hn : n ≤ M.2.2.2.2.2.2) (kq : ∀ v h', Q v h' → WW G M cc X Z (pc + 3) lv (v.toList ++ st) h' k n) : WW G M cc X Z pc lv st0 (wld Λ F O R h0, sz) k n :=
  ww_callV hd L (pp_wo hk) hr hcl hs hst hna hlev hmx hro (by rw [hz]; exact hk2) (by rw [hz]; exact hn) (by rw [hz]; exact kq)
theorem Wpp_call0 {Mc : wM} {na : Nat} {As st0 : List Value} {h' : wH} {r : vw_C} (hk : Lk Λ i 4 m) (hd : decode cc pc = .ok (.invokevirtual index, 3)) (L : wCv M.1.cls index Mc na) (hr : wCl[1]? = some r) (hcl : r.1 = Mc.1.cls) (hs : Sat G Mc (.ref m :: As) (wld Λ F O R h0, sz) (Det none h')) (hst : st0 = As.reverse ++ .ref m :: st) (hna : As.length = na) (hlev : Nat.ble (Mc.2.2.2.2.1 + 1) M.2.2.2.2.1 = true) (hmx : Nat.ble Mc.2.2.1 15 = true) (hro : Nat.ble (st.map fun v => v.category).sum 8 = true) (hz : Mc.2.2.2.2.2 = (0, 0)) (hk2 : k ≤ M.2.2.2.2.2.1) (hn : n ≤ M.2.2.2.2.2.2) (kq : WW G M cc X Z (pc + 3) lv st h' k n) : WW G M cc X Z pc lv st0 (wld Λ F O R h0, sz) k n :=
  Wpp_call hk hd L hr hcl hs hst hna hlev hmx hro hz hk2 hn (fun v h2 q => by obtain ⟨q1, q2⟩ := q; subst q1; subst q2; exact kq)
theorem Wpp_call1 {Mc : wM} {na : Nat} {As st0 : List Value} {h' : wH} {r : vw_C} {v : Value} (hk : Lk Λ i 4 m) (hd : decode cc pc = .ok (.invokevirtual index, 3)) (L : wCv M.1.cls index Mc na) (hr : wCl[1]? = some r) (hcl : r.1 = Mc.1.cls) (hs : Sat G Mc (.ref m :: As) (wld Λ F O R h0, sz) (Det (some v) h')) (hst : st0 = As.reverse ++ .ref m :: st) (hna : As.length = na) (hlev : Nat.ble (Mc.2.2.2.2.1 + 1) M.2.2.2.2.1 = true) (hmx : Nat.ble Mc.2.2.1 15 = true) (hro : Nat.ble (st.map fun v => v.category).sum 8 = true) (hz : Mc.2.2.2.2.2 = (0, 0)) (hk2 : k ≤ M.2.2.2.2.2.1) (hn : n ≤ M.2.2.2.2.2.2) (kq : WW G M cc X Z (pc + 3) lv (v :: st) h' k n) : WW G M cc X Z pc lv st0 (wld Λ F O R h0, sz) k n :=
  Wpp_call hk hd L hr hcl hs hst hna hlev hmx hro hz hk2 hn (fun v2 h2 q => by obtain ⟨q1, q2⟩ := q; subst q1; subst q2; exact kq)
theorem pp_l0 {Mc : wM} {As : List Value} {v : Option Value} (hk : Lk Λ i 4 m) (c : Sat G Mc As (pph m (F i) (O i) (R i) (wld Λ F O R h0), sz) (Det v (pph m (F i) (O i) (R i) (wld Λ F O R h0), sz))) : Sat G Mc As (wld Λ F O R h0, sz) (Det v (wld Λ F O R h0, sz)) := by
  rw [pp_wg hk] at c; exact c
theorem pp_lF {Mc : wM} {As : List Value} {v : Option Value} {F' : Nat → Int32} (hk : Lk Λ i 4 m) (c : Sat G Mc As (pph m (F i) (O i) (R i) (wld Λ F O R h0), sz) (Det v (pph m F' (O i) (R i) (wld Λ F O R h0), sz))) : Sat G Mc As (wld Λ F O R h0, sz) (Det v (wld Λ (va_up F i F') O R h0, sz)) := by
  have e : pph m F' (O i) (R i) (wld Λ F O R h0) = wld Λ (va_up F i F') O R h0 := by rw [pp_wp hk, w_up_id, w_up_id]
  rw [e, pp_wg hk] at c; exact c
theorem pp_lR {Mc : wM} {As : List Value} {v : Option Value} {R' : Nat → Nat → Int32} (hk : Lk Λ i 4 m) (c : Sat G Mc As (pph m (F i) (O i) (R i) (wld Λ F O R h0), sz) (Det v (pph m (F i) (O i) R' (wld Λ F O R h0), sz))) : Sat G Mc As (wld Λ F O R h0, sz) (Det v (wld Λ F O (va_up R i R') h0, sz)) := by
  have e : pph m (F i) (O i) R' (wld Λ F O R h0) = wld Λ F O (va_up R i R') h0 := by rw [pp_wp hk, w_up_id, w_up_id]
  rw [e, pp_wg hk] at c; exact c
theorem pp_lB {Mc : wM} {As : List Value} {v : Option Value} {F' : Nat → Int32} {R' : Nat → Nat → Int32} (hk : Lk Λ i 4 m) (c : Sat G Mc As (pph m (F i) (O i) (R i) (wld Λ F O R h0), sz) (Det v (pph m F' (O i) R' (wld Λ F O R h0), sz))) : Sat G Mc As (wld Λ F O R h0, sz) (Det v (wld Λ (va_up F i F') O (va_up R i R') h0, sz)) := by
  have e : pph m F' (O i) R' (wld Λ F O R h0) = wld Λ (va_up F i F') O (va_up R i R') h0 := by rw [pp_wp hk, w_up_id]
  rw [e, pp_wg hk] at c; exact c
theorem Wpp_iald {kf j p0 nn : Nat} {x : Int32} (hk : Lk Λ i 4 m) (hd : decode cc pc = .ok (.iaload, 1)) (h : ppPos kf = some (p0, nn, .int)) (hi : x = nI j) (hj : j < nn) (hnn : Nat.blt nn 2147483648 = true) (kq : WW G M cc X Z (pc + 1) lv (.int (R i kf j) :: st) (wld Λ F O R h0, sz) k n) : WW G M cc X Z pc lv (.int x :: .ref (ppAd m kf) :: st) (wld Λ F O R h0, sz) k n := by
  rw [← pp_wg hk]; refine pp_iald hd h hi hj hnn ?_; rw [pp_wg hk]; exact kq
theorem Wpp_iast {kf j p0 nn : Nat} {y x : Int32} (hk : Lk Λ i 4 m) (hd : decode cc pc = .ok (.iastore, 1)) (h : ppPos kf = some (p0, nn, .int)) (hi : y = nI j) (hj : j < nn) (hnn : Nat.blt nn 2147483648 = true) (kq : WW G M cc X Z (pc + 1) lv st (wld Λ F O (va_up R i (va_up (R i) kf (upd (R i kf) j x))) h0, sz) k n) : WW G M cc X Z pc lv (.int x :: .int y :: .ref (ppAd m kf) :: st) (wld Λ F O R h0, sz) k n := by
  rw [← pp_wg hk]; refine pp_iast hd h hi hj hnn ?_
  have e : pph m (F i) (O i) (va_up (R i) kf (upd (R i kf) j x)) (wld Λ F O R h0) = wld Λ F O (va_up R i (va_up (R i) kf (upd (R i kf) j x))) h0 := by rw [pp_wp hk, w_up_id, w_up_id]
  rw [e]; exact kq
theorem Wpp_zald {kf j p0 nn : Nat} {x : Int32} (hk : Lk Λ i 4 m) (hd : decode cc pc = .ok (.baload, 1)) (h : ppPos kf = some (p0, nn, .boolean)) (hi : x = nI j) (hj : j < nn) (hnn : Nat.blt nn 2147483648 = true) (kq : WW G M cc X Z (pc + 1) lv (.int (R i kf j) :: st) (wld Λ F O R h0, sz) k n) : WW G M cc X Z pc lv (.int x :: .ref (ppAd m kf) :: st) (wld Λ F O R h0, sz) k n := by
  rw [← pp_wg hk]; refine pp_zald hd h hi hj hnn ?_; rw [pp_wg hk]; exact kq
theorem Wpp_zast {kf j p0 nn : Nat} {y x : Int32} (hk : Lk Λ i 4 m) (hd : decode cc pc = .ok (.bastore, 1)) (h : ppPos kf = some (p0, nn, .boolean)) (hi : y = nI j) (hj : j < nn) (hnn : Nat.blt nn 2147483648 = true) (kq : WW G M cc X Z (pc + 1) lv st (wld Λ F O (va_up R i (va_up (R i) kf (upd (R i kf) j (vp_nar .boolean x)))) h0, sz) k n) : WW G M cc X Z pc lv (.int x :: .int y :: .ref (ppAd m kf) :: st) (wld Λ F O R h0, sz) k n := by
  rw [← pp_wg hk]; refine pp_zast hd h hi hj hnn ?_
  have e : pph m (F i) (O i) (va_up (R i) kf (upd (R i kf) j (vp_nar .boolean x))) (wld Λ F O R h0) = wld Λ F O (va_up R i (va_up (R i) kf (upd (R i kf) j (vp_nar .boolean x)))) h0 := by rw [pp_wp hk, w_up_id, w_up_id]
  rw [e]; exact kq
theorem tt_wg (hk : Lk Λ i 5 m) : tth m (F i) (O i) (R i) (wld Λ F O R h0) = wld Λ F O R h0 := wld_get hk
theorem tt_wp {F' : Nat → Int32} {O' : Nat → Option Nat} {R' : Nat → Nat → Int32} (hk : Lk Λ i 5 m) : tth m F' O' R' (wld Λ F O R h0) = wld Λ (va_up F i F') (va_up O i O') (va_up R i R') h0 := wld_put hk
theorem tt_wo (hk : Lk Λ i 5 m) : wld Λ F O R h0 m = some (.inr (5, ttV m (F i) (O i))) := by
  rw [← tt_wg hk]; exact tth_obj
theorem Wtt_geti {kf : Nat} {ty : FieldType} {fin : Bool} (hk : Lk Λ i 5 m) (hd : decode cc pc = .ok (.getfield index, 3)) (L : wFl M.1.cls index 5 kf ty fin) (h : ttPos kf = none) (hb : ttOb kf = false) (kq : WW G M cc X Z (pc + 3) lv (.int (F i kf) :: st) (wld Λ F O R h0, sz) k n) : WW G M cc X Z pc lv (.ref m :: st) (wld Λ F O R h0, sz) k n := by
  rw [← tt_wg hk]; refine tt_geti hd L h hb ?_; rw [tt_wg hk]; exact kq
theorem Wtt_getr {kf : Nat} {ty : FieldType} {fin : Bool} {q : Nat × Nat × FieldType} (hk : Lk Λ i 5 m) (hd : decode cc pc = .ok (.getfield index, 3)) (L : wFl M.1.cls index 5 kf ty fin) (h : ttPos kf = some q) (kq : WW G M cc X Z (pc + 3) lv (.ref (ttAd m kf) :: st) (wld Λ F O R h0, sz) k n) : WW G M cc X Z pc lv (.ref m :: st) (wld Λ F O R h0, sz) k n := by
  rw [← tt_wg hk]; refine tt_getr hd L h ?_; rw [tt_wg hk]; exact kq
theorem Wtt_geto {kf a : Nat} {ty : FieldType} {fin : Bool} (hk : Lk Λ i 5 m) (hd : decode cc pc = .ok (.getfield index, 3)) (L : wFl M.1.cls index 5 kf ty fin) (h : ttPos kf = none) (hb : ttOb kf = true) (ho : O i kf = some a) (kq : WW G M cc X Z (pc + 3) lv (.ref a :: st) (wld Λ F O R h0, sz) k n) : WW G M cc X Z pc lv (.ref m :: st) (wld Λ F O R h0, sz) k n := by
  rw [← tt_wg hk]; refine tt_geto hd L h hb ?_; rw [tt_wg hk, ho]; exact kq
theorem Wtt_getn {kf : Nat} {ty : FieldType} {fin : Bool} (hk : Lk Λ i 5 m) (hd : decode cc pc = .ok (.getfield index, 3)) (L : wFl M.1.cls index 5 kf ty fin) (h : ttPos kf = none) (hb : ttOb kf = true) (ho : O i kf = none) (kq : WW G M cc X Z (pc + 3) lv (.null :: st) (wld Λ F O R h0, sz) k n) : WW G M cc X Z pc lv (.ref m :: st) (wld Λ F O R h0, sz) k n := by
  rw [← tt_wg hk]; refine tt_geto hd L h hb ?_; rw [tt_wg hk, ho]; exact kq
theorem Wtt_puti {kf : Nat} {v : Int32} (hk : Lk Λ i 5 m) (hd : decode cc pc = .ok (.putfield index, 3)) (L : wFl M.1.cls index 5 kf .int false) (h : ttPos kf = none) (hb : ttOb kf = false) (kq : WW G M cc X Z (pc + 3) lv st (wld Λ (va_up F i (upd (F i) kf v)) O R h0, sz) k n) : WW G M cc X Z pc lv (.int v :: .ref m :: st) (wld Λ F O R h0, sz) k n := by
  rw [← tt_wg hk]; refine tt_puti hd L h hb ?_; rw [tt_wp hk, w_up_id, w_up_id]; exact kq
theorem Wtt_putz {kf : Nat} {v : Int32} (hk : Lk Λ i 5 m) (hd : decode cc pc = .ok (.putfield index, 3)) (L : wFl M.1.cls index 5 kf .boolean false) (h : ttPos kf = none) (hb : ttOb kf = false) (hv : v = 0 ∨ v = 1) (kq : WW G M cc X Z (pc + 3) lv st (wld Λ (va_up F i (upd (F i) kf v)) O R h0, sz) k n) : WW G M cc X Z pc lv (.int v :: .ref m :: st) (wld Λ F O R h0, sz) k n := by
  rw [← tt_wg hk]; refine tt_putz hd L h hb hv ?_; rw [tt_wp hk, w_up_id, w_up_id]; exact kq
theorem Wtt_call {Mc : wM} {na : Nat} {As st0 : List Value} {Q : Option Value → wH → Prop} {r : vw_C} (hk : Lk Λ i 5 m) (hd : decode cc pc = .ok (.invokevirtual index, 3)) (L : wCv M.1.cls index Mc na) (hr : wCl[5]? = some r) (hcl : r.1 = Mc.1.cls) (hs : Sat G Mc (.ref m :: As) (wld Λ F O R h0, sz) Q) (hst : st0 = As.reverse ++ .ref m :: st) (hna : As.length = na) (hlev : Nat.ble (Mc.2.2.2.2.1 + 1) M.2.2.2.2.1 = true) (hmx : Nat.ble Mc.2.2.1 15 = true) (hro : Nat.ble (st.map fun v => v.category).sum 8 = true) (hz : Mc.2.2.2.2.2 = (0, 0)) (hk2 : k ≤ M.2.2.2.2.2.1) (hn : n ≤ M.2.2.2.2.2.2) (kq : ∀ v h', Q v h' → WW G M cc X Z (pc + 3) lv (v.toList ++ st) h' k n) : WW G M cc X Z pc lv st0 (wld Λ F O R h0, sz) k n :=
  ww_callV hd L (tt_wo hk) hr hcl hs hst hna hlev hmx hro (by rw [hz]; exact hk2) (by rw [hz]; exact hn) (by rw [hz]; exact kq)
theorem Wtt_call0 {Mc : wM} {na : Nat} {As st0 : List Value} {h' : wH} {r : vw_C} (hk : Lk Λ i 5 m) (hd : decode cc pc = .ok (.invokevirtual index, 3)) (L : wCv M.1.cls index Mc na) (hr : wCl[5]? = some r) (hcl : r.1 = Mc.1.cls) (hs : Sat G Mc (.ref m :: As) (wld Λ F O R h0, sz) (Det none h')) (hst : st0 = As.reverse ++ .ref m :: st) (hna : As.length = na) (hlev : Nat.ble (Mc.2.2.2.2.1 + 1) M.2.2.2.2.1 = true) (hmx : Nat.ble Mc.2.2.1 15 = true) (hro : Nat.ble (st.map fun v => v.category).sum 8 = true) (hz : Mc.2.2.2.2.2 = (0, 0)) (hk2 : k ≤ M.2.2.2.2.2.1) (hn : n ≤ M.2.2.2.2.2.2) (kq : WW G M cc X Z (pc + 3) lv st h' k n) : WW G M cc X Z pc lv st0 (wld Λ F O R h0, sz) k n :=
  Wtt_call hk hd L hr hcl hs hst hna hlev hmx hro hz hk2 hn (fun v h2 q => by obtain ⟨q1, q2⟩ := q; subst q1; subst q2; exact kq)
theorem Wtt_call1 {Mc : wM} {na : Nat} {As st0 : List Value} {h' : wH} {r : vw_C} {v : Value} (hk : Lk Λ i 5 m) (hd : decode cc pc = .ok (.invokevirtual index, 3)) (L : wCv M.1.cls index Mc na) (hr : wCl[5]? = some r) (hcl : r.1 = Mc.1.cls) (hs : Sat G Mc (.ref m :: As) (wld Λ F O R h0, sz) (Det (some v) h')) (hst : st0 = As.reverse ++ .ref m :: st) (hna : As.length = na) (hlev : Nat.ble (Mc.2.2.2.2.1 + 1) M.2.2.2.2.1 = true) (hmx : Nat.ble Mc.2.2.1 15 = true) (hro : Nat.ble (st.map fun v => v.category).sum 8 = true) (hz : Mc.2.2.2.2.2 = (0, 0)) (hk2 : k ≤ M.2.2.2.2.2.1) (hn : n ≤ M.2.2.2.2.2.2) (kq : WW G M cc X Z (pc + 3) lv (v :: st) h' k n) : WW G M cc X Z pc lv st0 (wld Λ F O R h0, sz) k n :=
  Wtt_call hk hd L hr hcl hs hst hna hlev hmx hro hz hk2 hn (fun v2 h2 q => by obtain ⟨q1, q2⟩ := q; subst q1; subst q2; exact kq)
theorem tt_l0 {Mc : wM} {As : List Value} {v : Option Value} (hk : Lk Λ i 5 m) (c : Sat G Mc As (tth m (F i) (O i) (R i) (wld Λ F O R h0), sz) (Det v (tth m (F i) (O i) (R i) (wld Λ F O R h0), sz))) : Sat G Mc As (wld Λ F O R h0, sz) (Det v (wld Λ F O R h0, sz)) := by
  rw [tt_wg hk] at c; exact c
theorem tt_lF {Mc : wM} {As : List Value} {v : Option Value} {F' : Nat → Int32} (hk : Lk Λ i 5 m) (c : Sat G Mc As (tth m (F i) (O i) (R i) (wld Λ F O R h0), sz) (Det v (tth m F' (O i) (R i) (wld Λ F O R h0), sz))) : Sat G Mc As (wld Λ F O R h0, sz) (Det v (wld Λ (va_up F i F') O R h0, sz)) := by
  have e : tth m F' (O i) (R i) (wld Λ F O R h0) = wld Λ (va_up F i F') O R h0 := by rw [tt_wp hk, w_up_id, w_up_id]
  rw [e, tt_wg hk] at c; exact c
theorem tt_lR {Mc : wM} {As : List Value} {v : Option Value} {R' : Nat → Nat → Int32} (hk : Lk Λ i 5 m) (c : Sat G Mc As (tth m (F i) (O i) (R i) (wld Λ F O R h0), sz) (Det v (tth m (F i) (O i) R' (wld Λ F O R h0), sz))) : Sat G Mc As (wld Λ F O R h0, sz) (Det v (wld Λ F O (va_up R i R') h0, sz)) := by
  have e : tth m (F i) (O i) R' (wld Λ F O R h0) = wld Λ F O (va_up R i R') h0 := by rw [tt_wp hk, w_up_id, w_up_id]
  rw [e, tt_wg hk] at c; exact c
theorem tt_lB {Mc : wM} {As : List Value} {v : Option Value} {F' : Nat → Int32} {R' : Nat → Nat → Int32} (hk : Lk Λ i 5 m) (c : Sat G Mc As (tth m (F i) (O i) (R i) (wld Λ F O R h0), sz) (Det v (tth m F' (O i) R' (wld Λ F O R h0), sz))) : Sat G Mc As (wld Λ F O R h0, sz) (Det v (wld Λ (va_up F i F') O (va_up R i R') h0, sz)) := by
  have e : tth m F' (O i) R' (wld Λ F O R h0) = wld Λ (va_up F i F') O (va_up R i R') h0 := by rw [tt_wp hk, w_up_id]
  rw [e, tt_wg hk] at c; exact c
theorem Wtt_iald {kf j p0 nn : Nat} {x : Int32} (hk : Lk Λ i 5 m) (hd : decode cc pc = .ok (.iaload, 1)) (h : ttPos kf = some (p0, nn, .int)) (hi : x = nI j) (hj : j < nn) (hnn : Nat.blt nn 2147483648 = true) (kq : WW G M cc X Z (pc + 1) lv (.int (R i kf j) :: st) (wld Λ F O R h0, sz) k n) : WW G M cc X Z pc lv (.int x :: .ref (ttAd m kf) :: st) (wld Λ F O R h0, sz) k n := by
  rw [← tt_wg hk]; refine tt_iald hd h hi hj hnn ?_; rw [tt_wg hk]; exact kq
theorem Wtt_iast {kf j p0 nn : Nat} {y x : Int32} (hk : Lk Λ i 5 m) (hd : decode cc pc = .ok (.iastore, 1)) (h : ttPos kf = some (p0, nn, .int)) (hi : y = nI j) (hj : j < nn) (hnn : Nat.blt nn 2147483648 = true) (kq : WW G M cc X Z (pc + 1) lv st (wld Λ F O (va_up R i (va_up (R i) kf (upd (R i kf) j x))) h0, sz) k n) : WW G M cc X Z pc lv (.int x :: .int y :: .ref (ttAd m kf) :: st) (wld Λ F O R h0, sz) k n := by
  rw [← tt_wg hk]; refine tt_iast hd h hi hj hnn ?_
  have e : tth m (F i) (O i) (va_up (R i) kf (upd (R i kf) j x)) (wld Λ F O R h0) = wld Λ F O (va_up R i (va_up (R i) kf (upd (R i kf) j x))) h0 := by rw [tt_wp hk, w_up_id, w_up_id]
  rw [e]; exact kq
theorem wa_wg (hk : Lk Λ i 6 m) : wah m (F i) (O i) (R i) (wld Λ F O R h0) = wld Λ F O R h0 := wld_get hk
theorem wa_wp {F' : Nat → Int32} {O' : Nat → Option Nat} {R' : Nat → Nat → Int32} (hk : Lk Λ i 6 m) : wah m F' O' R' (wld Λ F O R h0) = wld Λ (va_up F i F') (va_up O i O') (va_up R i R') h0 := wld_put hk
theorem wa_wo (hk : Lk Λ i 6 m) : wld Λ F O R h0 m = some (.inr (6, waV m (F i) (O i))) := by
  rw [← wa_wg hk]; exact wah_obj
theorem Wwa_geti {kf : Nat} {ty : FieldType} {fin : Bool} (hk : Lk Λ i 6 m) (hd : decode cc pc = .ok (.getfield index, 3)) (L : wFl M.1.cls index 6 kf ty fin) (h : waPos kf = none) (hb : waOb kf = false) (kq : WW G M cc X Z (pc + 3) lv (.int (F i kf) :: st) (wld Λ F O R h0, sz) k n) : WW G M cc X Z pc lv (.ref m :: st) (wld Λ F O R h0, sz) k n := by
  rw [← wa_wg hk]; refine wa_geti hd L h hb ?_; rw [wa_wg hk]; exact kq
theorem Wwa_getr {kf : Nat} {ty : FieldType} {fin : Bool} {q : Nat × Nat × FieldType} (hk : Lk Λ i 6 m) (hd : decode cc pc = .ok (.getfield index, 3)) (L : wFl M.1.cls index 6 kf ty fin) (h : waPos kf = some q) (kq : WW G M cc X Z (pc + 3) lv (.ref (waAd m kf) :: st) (wld Λ F O R h0, sz) k n) : WW G M cc X Z pc lv (.ref m :: st) (wld Λ F O R h0, sz) k n := by
  rw [← wa_wg hk]; refine wa_getr hd L h ?_; rw [wa_wg hk]; exact kq
theorem Wwa_geto {kf a : Nat} {ty : FieldType} {fin : Bool} (hk : Lk Λ i 6 m) (hd : decode cc pc = .ok (.getfield index, 3)) (L : wFl M.1.cls index 6 kf ty fin) (h : waPos kf = none) (hb : waOb kf = true) (ho : O i kf = some a) (kq : WW G M cc X Z (pc + 3) lv (.ref a :: st) (wld Λ F O R h0, sz) k n) : WW G M cc X Z pc lv (.ref m :: st) (wld Λ F O R h0, sz) k n := by
  rw [← wa_wg hk]; refine wa_geto hd L h hb ?_; rw [wa_wg hk, ho]; exact kq
theorem Wwa_getn {kf : Nat} {ty : FieldType} {fin : Bool} (hk : Lk Λ i 6 m) (hd : decode cc pc = .ok (.getfield index, 3)) (L : wFl M.1.cls index 6 kf ty fin) (h : waPos kf = none) (hb : waOb kf = true) (ho : O i kf = none) (kq : WW G M cc X Z (pc + 3) lv (.null :: st) (wld Λ F O R h0, sz) k n) : WW G M cc X Z pc lv (.ref m :: st) (wld Λ F O R h0, sz) k n := by
  rw [← wa_wg hk]; refine wa_geto hd L h hb ?_; rw [wa_wg hk, ho]; exact kq
theorem Wwa_puti {kf : Nat} {v : Int32} (hk : Lk Λ i 6 m) (hd : decode cc pc = .ok (.putfield index, 3)) (L : wFl M.1.cls index 6 kf .int false) (h : waPos kf = none) (hb : waOb kf = false) (kq : WW G M cc X Z (pc + 3) lv st (wld Λ (va_up F i (upd (F i) kf v)) O R h0, sz) k n) : WW G M cc X Z pc lv (.int v :: .ref m :: st) (wld Λ F O R h0, sz) k n := by
  rw [← wa_wg hk]; refine wa_puti hd L h hb ?_; rw [wa_wp hk, w_up_id, w_up_id]; exact kq
theorem Wwa_putz {kf : Nat} {v : Int32} (hk : Lk Λ i 6 m) (hd : decode cc pc = .ok (.putfield index, 3)) (L : wFl M.1.cls index 6 kf .boolean false) (h : waPos kf = none) (hb : waOb kf = false) (hv : v = 0 ∨ v = 1) (kq : WW G M cc X Z (pc + 3) lv st (wld Λ (va_up F i (upd (F i) kf v)) O R h0, sz) k n) : WW G M cc X Z pc lv (.int v :: .ref m :: st) (wld Λ F O R h0, sz) k n := by
  rw [← wa_wg hk]; refine wa_putz hd L h hb hv ?_; rw [wa_wp hk, w_up_id, w_up_id]; exact kq
theorem Wwa_call {Mc : wM} {na : Nat} {As st0 : List Value} {Q : Option Value → wH → Prop} {r : vw_C} (hk : Lk Λ i 6 m) (hd : decode cc pc = .ok (.invokevirtual index, 3)) (L : wCv M.1.cls index Mc na) (hr : wCl[6]? = some r) (hcl : r.1 = Mc.1.cls) (hs : Sat G Mc (.ref m :: As) (wld Λ F O R h0, sz) Q) (hst : st0 = As.reverse ++ .ref m :: st) (hna : As.length = na) (hlev : Nat.ble (Mc.2.2.2.2.1 + 1) M.2.2.2.2.1 = true) (hmx : Nat.ble Mc.2.2.1 15 = true) (hro : Nat.ble (st.map fun v => v.category).sum 8 = true) (hz : Mc.2.2.2.2.2 = (0, 0)) (hk2 : k ≤ M.2.2.2.2.2.1) (hn : n ≤ M.2.2.2.2.2.2) (kq : ∀ v h', Q v h' → WW G M cc X Z (pc + 3) lv (v.toList ++ st) h' k n) : WW G M cc X Z pc lv st0 (wld Λ F O R h0, sz) k n :=
  ww_callV hd L (wa_wo hk) hr hcl hs hst hna hlev hmx hro (by rw [hz]; exact hk2) (by rw [hz]; exact hn) (by rw [hz]; exact kq)
theorem Wwa_call0 {Mc : wM} {na : Nat} {As st0 : List Value} {h' : wH} {r : vw_C} (hk : Lk Λ i 6 m) (hd : decode cc pc = .ok (.invokevirtual index, 3)) (L : wCv M.1.cls index Mc na) (hr : wCl[6]? = some r) (hcl : r.1 = Mc.1.cls) (hs : Sat G Mc (.ref m :: As) (wld Λ F O R h0, sz) (Det none h')) (hst : st0 = As.reverse ++ .ref m :: st) (hna : As.length = na) (hlev : Nat.ble (Mc.2.2.2.2.1 + 1) M.2.2.2.2.1 = true) (hmx : Nat.ble Mc.2.2.1 15 = true) (hro : Nat.ble (st.map fun v => v.category).sum 8 = true) (hz : Mc.2.2.2.2.2 = (0, 0)) (hk2 : k ≤ M.2.2.2.2.2.1) (hn : n ≤ M.2.2.2.2.2.2) (kq : WW G M cc X Z (pc + 3) lv st h' k n) : WW G M cc X Z pc lv st0 (wld Λ F O R h0, sz) k n :=
  Wwa_call hk hd L hr hcl hs hst hna hlev hmx hro hz hk2 hn (fun v h2 q => by obtain ⟨q1, q2⟩ := q; subst q1; subst q2; exact kq)
theorem Wwa_call1 {Mc : wM} {na : Nat} {As st0 : List Value} {h' : wH} {r : vw_C} {v : Value} (hk : Lk Λ i 6 m) (hd : decode cc pc = .ok (.invokevirtual index, 3)) (L : wCv M.1.cls index Mc na) (hr : wCl[6]? = some r) (hcl : r.1 = Mc.1.cls) (hs : Sat G Mc (.ref m :: As) (wld Λ F O R h0, sz) (Det (some v) h')) (hst : st0 = As.reverse ++ .ref m :: st) (hna : As.length = na) (hlev : Nat.ble (Mc.2.2.2.2.1 + 1) M.2.2.2.2.1 = true) (hmx : Nat.ble Mc.2.2.1 15 = true) (hro : Nat.ble (st.map fun v => v.category).sum 8 = true) (hz : Mc.2.2.2.2.2 = (0, 0)) (hk2 : k ≤ M.2.2.2.2.2.1) (hn : n ≤ M.2.2.2.2.2.2) (kq : WW G M cc X Z (pc + 3) lv (v :: st) h' k n) : WW G M cc X Z pc lv st0 (wld Λ F O R h0, sz) k n :=
  Wwa_call hk hd L hr hcl hs hst hna hlev hmx hro hz hk2 hn (fun v2 h2 q => by obtain ⟨q1, q2⟩ := q; subst q1; subst q2; exact kq)
theorem wa_l0 {Mc : wM} {As : List Value} {v : Option Value} (hk : Lk Λ i 6 m) (c : Sat G Mc As (wah m (F i) (O i) (R i) (wld Λ F O R h0), sz) (Det v (wah m (F i) (O i) (R i) (wld Λ F O R h0), sz))) : Sat G Mc As (wld Λ F O R h0, sz) (Det v (wld Λ F O R h0, sz)) := by
  rw [wa_wg hk] at c; exact c
theorem wa_lF {Mc : wM} {As : List Value} {v : Option Value} {F' : Nat → Int32} (hk : Lk Λ i 6 m) (c : Sat G Mc As (wah m (F i) (O i) (R i) (wld Λ F O R h0), sz) (Det v (wah m F' (O i) (R i) (wld Λ F O R h0), sz))) : Sat G Mc As (wld Λ F O R h0, sz) (Det v (wld Λ (va_up F i F') O R h0, sz)) := by
  have e : wah m F' (O i) (R i) (wld Λ F O R h0) = wld Λ (va_up F i F') O R h0 := by rw [wa_wp hk, w_up_id, w_up_id]
  rw [e, wa_wg hk] at c; exact c
theorem wa_lR {Mc : wM} {As : List Value} {v : Option Value} {R' : Nat → Nat → Int32} (hk : Lk Λ i 6 m) (c : Sat G Mc As (wah m (F i) (O i) (R i) (wld Λ F O R h0), sz) (Det v (wah m (F i) (O i) R' (wld Λ F O R h0), sz))) : Sat G Mc As (wld Λ F O R h0, sz) (Det v (wld Λ F O (va_up R i R') h0, sz)) := by
  have e : wah m (F i) (O i) R' (wld Λ F O R h0) = wld Λ F O (va_up R i R') h0 := by rw [wa_wp hk, w_up_id, w_up_id]
  rw [e, wa_wg hk] at c; exact c
theorem wa_lB {Mc : wM} {As : List Value} {v : Option Value} {F' : Nat → Int32} {R' : Nat → Nat → Int32} (hk : Lk Λ i 6 m) (c : Sat G Mc As (wah m (F i) (O i) (R i) (wld Λ F O R h0), sz) (Det v (wah m F' (O i) R' (wld Λ F O R h0), sz))) : Sat G Mc As (wld Λ F O R h0, sz) (Det v (wld Λ (va_up F i F') O (va_up R i R') h0, sz)) := by
  have e : wah m F' (O i) R' (wld Λ F O R h0) = wld Λ (va_up F i F') O (va_up R i R') h0 := by rw [wa_wp hk, w_up_id]
  rw [e, wa_wg hk] at c; exact c
theorem Wwa_iald {kf j p0 nn : Nat} {x : Int32} (hk : Lk Λ i 6 m) (hd : decode cc pc = .ok (.iaload, 1)) (h : waPos kf = some (p0, nn, .int)) (hi : x = nI j) (hj : j < nn) (hnn : Nat.blt nn 2147483648 = true) (kq : WW G M cc X Z (pc + 1) lv (.int (R i kf j) :: st) (wld Λ F O R h0, sz) k n) : WW G M cc X Z pc lv (.int x :: .ref (waAd m kf) :: st) (wld Λ F O R h0, sz) k n := by
  rw [← wa_wg hk]; refine wa_iald hd h hi hj hnn ?_; rw [wa_wg hk]; exact kq
theorem Wwa_iast {kf j p0 nn : Nat} {y x : Int32} (hk : Lk Λ i 6 m) (hd : decode cc pc = .ok (.iastore, 1)) (h : waPos kf = some (p0, nn, .int)) (hi : y = nI j) (hj : j < nn) (hnn : Nat.blt nn 2147483648 = true) (kq : WW G M cc X Z (pc + 1) lv st (wld Λ F O (va_up R i (va_up (R i) kf (upd (R i kf) j x))) h0, sz) k n) : WW G M cc X Z pc lv (.int x :: .int y :: .ref (waAd m kf) :: st) (wld Λ F O R h0, sz) k n := by
  rw [← wa_wg hk]; refine wa_iast hd h hi hj hnn ?_
  have e : wah m (F i) (O i) (va_up (R i) kf (upd (R i kf) j x)) (wld Λ F O R h0) = wld Λ F O (va_up R i (va_up (R i) kf (upd (R i kf) j x))) h0 := by rw [wa_wp hk, w_up_id, w_up_id]
  rw [e]; exact kq
theorem rr_wg (hk : Lk Λ i 7 m) : rrh m (F i) (O i) (R i) (wld Λ F O R h0) = wld Λ F O R h0 := wld_get hk
theorem rr_wp {F' : Nat → Int32} {O' : Nat → Option Nat} {R' : Nat → Nat → Int32} (hk : Lk Λ i 7 m) : rrh m F' O' R' (wld Λ F O R h0) = wld Λ (va_up F i F') (va_up O i O') (va_up R i R') h0 := wld_put hk
theorem rr_wo (hk : Lk Λ i 7 m) : wld Λ F O R h0 m = some (.inr (3, rrV m (F i) (O i))) := by
  rw [← rr_wg hk]; exact rrh_obj
theorem Wrr_geti {kf : Nat} {ty : FieldType} {fin : Bool} (hk : Lk Λ i 7 m) (hd : decode cc pc = .ok (.getfield index, 3)) (L : wFl M.1.cls index 3 kf ty fin) (h : rrPos kf = none) (hb : rrOb kf = false) (kq : WW G M cc X Z (pc + 3) lv (.int (F i kf) :: st) (wld Λ F O R h0, sz) k n) : WW G M cc X Z pc lv (.ref m :: st) (wld Λ F O R h0, sz) k n := by
  rw [← rr_wg hk]; refine rr_geti hd L h hb ?_; rw [rr_wg hk]; exact kq
theorem Wrr_getr {kf : Nat} {ty : FieldType} {fin : Bool} {q : Nat × Nat × FieldType} (hk : Lk Λ i 7 m) (hd : decode cc pc = .ok (.getfield index, 3)) (L : wFl M.1.cls index 3 kf ty fin) (h : rrPos kf = some q) (kq : WW G M cc X Z (pc + 3) lv (.ref (rrAd m kf) :: st) (wld Λ F O R h0, sz) k n) : WW G M cc X Z pc lv (.ref m :: st) (wld Λ F O R h0, sz) k n := by
  rw [← rr_wg hk]; refine rr_getr hd L h ?_; rw [rr_wg hk]; exact kq
theorem Wrr_geto {kf a : Nat} {ty : FieldType} {fin : Bool} (hk : Lk Λ i 7 m) (hd : decode cc pc = .ok (.getfield index, 3)) (L : wFl M.1.cls index 3 kf ty fin) (h : rrPos kf = none) (hb : rrOb kf = true) (ho : O i kf = some a) (kq : WW G M cc X Z (pc + 3) lv (.ref a :: st) (wld Λ F O R h0, sz) k n) : WW G M cc X Z pc lv (.ref m :: st) (wld Λ F O R h0, sz) k n := by
  rw [← rr_wg hk]; refine rr_geto hd L h hb ?_; rw [rr_wg hk, ho]; exact kq
theorem Wrr_getn {kf : Nat} {ty : FieldType} {fin : Bool} (hk : Lk Λ i 7 m) (hd : decode cc pc = .ok (.getfield index, 3)) (L : wFl M.1.cls index 3 kf ty fin) (h : rrPos kf = none) (hb : rrOb kf = true) (ho : O i kf = none) (kq : WW G M cc X Z (pc + 3) lv (.null :: st) (wld Λ F O R h0, sz) k n) : WW G M cc X Z pc lv (.ref m :: st) (wld Λ F O R h0, sz) k n := by
  rw [← rr_wg hk]; refine rr_geto hd L h hb ?_; rw [rr_wg hk, ho]; exact kq
theorem Wrr_puti {kf : Nat} {v : Int32} (hk : Lk Λ i 7 m) (hd : decode cc pc = .ok (.putfield index, 3)) (L : wFl M.1.cls index 3 kf .int false) (h : rrPos kf = none) (hb : rrOb kf = false) (kq : WW G M cc X Z (pc + 3) lv st (wld Λ (va_up F i (upd (F i) kf v)) O R h0, sz) k n) : WW G M cc X Z pc lv (.int v :: .ref m :: st) (wld Λ F O R h0, sz) k n := by
  rw [← rr_wg hk]; refine rr_puti hd L h hb ?_; rw [rr_wp hk, w_up_id, w_up_id]; exact kq
theorem Wrr_putz {kf : Nat} {v : Int32} (hk : Lk Λ i 7 m) (hd : decode cc pc = .ok (.putfield index, 3)) (L : wFl M.1.cls index 3 kf .boolean false) (h : rrPos kf = none) (hb : rrOb kf = false) (hv : v = 0 ∨ v = 1) (kq : WW G M cc X Z (pc + 3) lv st (wld Λ (va_up F i (upd (F i) kf v)) O R h0, sz) k n) : WW G M cc X Z pc lv (.int v :: .ref m :: st) (wld Λ F O R h0, sz) k n := by
  rw [← rr_wg hk]; refine rr_putz hd L h hb hv ?_; rw [rr_wp hk, w_up_id, w_up_id]; exact kq
theorem Wrr_call {Mc : wM} {na : Nat} {As st0 : List Value} {Q : Option Value → wH → Prop} {r : vw_C} (hk : Lk Λ i 7 m) (hd : decode cc pc = .ok (.invokevirtual index, 3)) (L : wCv M.1.cls index Mc na) (hr : wCl[3]? = some r) (hcl : r.1 = Mc.1.cls) (hs : Sat G Mc (.ref m :: As) (wld Λ F O R h0, sz) Q) (hst : st0 = As.reverse ++ .ref m :: st) (hna : As.length = na) (hlev : Nat.ble (Mc.2.2.2.2.1 + 1) M.2.2.2.2.1 = true) (hmx : Nat.ble Mc.2.2.1 15 = true) (hro : Nat.ble (st.map fun v => v.category).sum 8 = true) (hz : Mc.2.2.2.2.2 = (0, 0)) (hk2 : k ≤ M.2.2.2.2.2.1) (hn : n ≤ M.2.2.2.2.2.2) (kq : ∀ v h', Q v h' → WW G M cc X Z (pc + 3) lv (v.toList ++ st) h' k n) : WW G M cc X Z pc lv st0 (wld Λ F O R h0, sz) k n :=
  ww_callV hd L (rr_wo hk) hr hcl hs hst hna hlev hmx hro (by rw [hz]; exact hk2) (by rw [hz]; exact hn) (by rw [hz]; exact kq)
theorem Wrr_call0 {Mc : wM} {na : Nat} {As st0 : List Value} {h' : wH} {r : vw_C} (hk : Lk Λ i 7 m) (hd : decode cc pc = .ok (.invokevirtual index, 3)) (L : wCv M.1.cls index Mc na) (hr : wCl[3]? = some r) (hcl : r.1 = Mc.1.cls) (hs : Sat G Mc (.ref m :: As) (wld Λ F O R h0, sz) (Det none h')) (hst : st0 = As.reverse ++ .ref m :: st) (hna : As.length = na) (hlev : Nat.ble (Mc.2.2.2.2.1 + 1) M.2.2.2.2.1 = true) (hmx : Nat.ble Mc.2.2.1 15 = true) (hro : Nat.ble (st.map fun v => v.category).sum 8 = true) (hz : Mc.2.2.2.2.2 = (0, 0)) (hk2 : k ≤ M.2.2.2.2.2.1) (hn : n ≤ M.2.2.2.2.2.2) (kq : WW G M cc X Z (pc + 3) lv st h' k n) : WW G M cc X Z pc lv st0 (wld Λ F O R h0, sz) k n :=
  Wrr_call hk hd L hr hcl hs hst hna hlev hmx hro hz hk2 hn (fun v h2 q => by obtain ⟨q1, q2⟩ := q; subst q1; subst q2; exact kq)
theorem Wrr_call1 {Mc : wM} {na : Nat} {As st0 : List Value} {h' : wH} {r : vw_C} {v : Value} (hk : Lk Λ i 7 m) (hd : decode cc pc = .ok (.invokevirtual index, 3)) (L : wCv M.1.cls index Mc na) (hr : wCl[3]? = some r) (hcl : r.1 = Mc.1.cls) (hs : Sat G Mc (.ref m :: As) (wld Λ F O R h0, sz) (Det (some v) h')) (hst : st0 = As.reverse ++ .ref m :: st) (hna : As.length = na) (hlev : Nat.ble (Mc.2.2.2.2.1 + 1) M.2.2.2.2.1 = true) (hmx : Nat.ble Mc.2.2.1 15 = true) (hro : Nat.ble (st.map fun v => v.category).sum 8 = true) (hz : Mc.2.2.2.2.2 = (0, 0)) (hk2 : k ≤ M.2.2.2.2.2.1) (hn : n ≤ M.2.2.2.2.2.2) (kq : WW G M cc X Z (pc + 3) lv (v :: st) h' k n) : WW G M cc X Z pc lv st0 (wld Λ F O R h0, sz) k n :=
  Wrr_call hk hd L hr hcl hs hst hna hlev hmx hro hz hk2 hn (fun v2 h2 q => by obtain ⟨q1, q2⟩ := q; subst q1; subst q2; exact kq)
theorem rr_l0 {Mc : wM} {As : List Value} {v : Option Value} (hk : Lk Λ i 7 m) (c : Sat G Mc As (rrh m (F i) (O i) (R i) (wld Λ F O R h0), sz) (Det v (rrh m (F i) (O i) (R i) (wld Λ F O R h0), sz))) : Sat G Mc As (wld Λ F O R h0, sz) (Det v (wld Λ F O R h0, sz)) := by
  rw [rr_wg hk] at c; exact c
theorem rr_lF {Mc : wM} {As : List Value} {v : Option Value} {F' : Nat → Int32} (hk : Lk Λ i 7 m) (c : Sat G Mc As (rrh m (F i) (O i) (R i) (wld Λ F O R h0), sz) (Det v (rrh m F' (O i) (R i) (wld Λ F O R h0), sz))) : Sat G Mc As (wld Λ F O R h0, sz) (Det v (wld Λ (va_up F i F') O R h0, sz)) := by
  have e : rrh m F' (O i) (R i) (wld Λ F O R h0) = wld Λ (va_up F i F') O R h0 := by rw [rr_wp hk, w_up_id, w_up_id]
  rw [e, rr_wg hk] at c; exact c
theorem rr_lR {Mc : wM} {As : List Value} {v : Option Value} {R' : Nat → Nat → Int32} (hk : Lk Λ i 7 m) (c : Sat G Mc As (rrh m (F i) (O i) (R i) (wld Λ F O R h0), sz) (Det v (rrh m (F i) (O i) R' (wld Λ F O R h0), sz))) : Sat G Mc As (wld Λ F O R h0, sz) (Det v (wld Λ F O (va_up R i R') h0, sz)) := by
  have e : rrh m (F i) (O i) R' (wld Λ F O R h0) = wld Λ F O (va_up R i R') h0 := by rw [rr_wp hk, w_up_id, w_up_id]
  rw [e, rr_wg hk] at c; exact c
theorem rr_lB {Mc : wM} {As : List Value} {v : Option Value} {F' : Nat → Int32} {R' : Nat → Nat → Int32} (hk : Lk Λ i 7 m) (c : Sat G Mc As (rrh m (F i) (O i) (R i) (wld Λ F O R h0), sz) (Det v (rrh m F' (O i) R' (wld Λ F O R h0), sz))) : Sat G Mc As (wld Λ F O R h0, sz) (Det v (wld Λ (va_up F i F') O (va_up R i R') h0, sz)) := by
  have e : rrh m F' (O i) R' (wld Λ F O R h0) = wld Λ (va_up F i F') O (va_up R i R') h0 := by rw [rr_wp hk, w_up_id]
  rw [e, rr_wg hk] at c; exact c
theorem Wrr_iald {kf j p0 nn : Nat} {x : Int32} (hk : Lk Λ i 7 m) (hd : decode cc pc = .ok (.iaload, 1)) (h : rrPos kf = some (p0, nn, .int)) (hi : x = nI j) (hj : j < nn) (hnn : Nat.blt nn 2147483648 = true) (kq : WW G M cc X Z (pc + 1) lv (.int (R i kf j) :: st) (wld Λ F O R h0, sz) k n) : WW G M cc X Z pc lv (.int x :: .ref (rrAd m kf) :: st) (wld Λ F O R h0, sz) k n := by
  rw [← rr_wg hk]; refine rr_iald hd h hi hj hnn ?_; rw [rr_wg hk]; exact kq
theorem Wrr_iast {kf j p0 nn : Nat} {y x : Int32} (hk : Lk Λ i 7 m) (hd : decode cc pc = .ok (.iastore, 1)) (h : rrPos kf = some (p0, nn, .int)) (hi : y = nI j) (hj : j < nn) (hnn : Nat.blt nn 2147483648 = true) (kq : WW G M cc X Z (pc + 1) lv st (wld Λ F O (va_up R i (va_up (R i) kf (upd (R i kf) j x))) h0, sz) k n) : WW G M cc X Z pc lv (.int x :: .int y :: .ref (rrAd m kf) :: st) (wld Λ F O R h0, sz) k n := by
  rw [← rr_wg hk]; refine rr_iast hd h hi hj hnn ?_
  have e : rrh m (F i) (O i) (va_up (R i) kf (upd (R i kf) j x)) (wld Λ F O R h0) = wld Λ F O (va_up R i (va_up (R i) kf (upd (R i kf) j x))) h0 := by rw [rr_wp hk, w_up_id, w_up_id]
  rw [e]; exact kq
end SW
