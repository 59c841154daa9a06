/-! Rows of WW that touch the heap; returns; calls; a contract out of a walk. -/
theorem wAt_kept {D : va_G} {U : State} {H H1 : Heap} {a : Nat} {e : wE} (h : wAt D U H a e) (hq : H1[a]? = H[a]?) : wAt D U H1 a e := by
  rcases e with ⟨ty, arr⟩ | ⟨ci, V⟩
  · obtain ⟨cA, h1, h2⟩ := h
    exact ⟨cA, by rw [hq]; exact h1, h2⟩
  · obtain ⟨r, h1, h2⟩ := h
    exact ⟨r, h1, h2.kept hq⟩
theorem wAt_moved {D : va_G} {U U2 : State} {H : Heap} {a : Nat} {e : wE} (hvm : U.vm.Alike U2.vm) (h : wAt D U H a e) : wAt D U2 H a e := by
  rcases e with ⟨ty, arr⟩ | ⟨ci, V⟩
  · obtain ⟨cA, h1, h2, h3⟩ := h
    exact ⟨cA, h1, arrOfT_moved hvm h2, va_RA.moved hvm h3⟩
  · exact h
theorem wAt_lt {D : va_G} {U : State} {H : Heap} {a : Nat} {e : wE} (h : wAt D U H a e) : a < H.size := by
  rcases e with ⟨ty, arr⟩ | ⟨ci, V⟩
  · obtain ⟨cA, h1, h2⟩ := h
    exact (Array.getElem?_eq_some_iff.mp h1).1
  · obtain ⟨r, h1, cell, h2, h3⟩ := h
    exact (Array.getElem?_eq_some_iff.mp h2).1
theorem wRel.moved {G : wG} {h : wH} {U U2 : State} {H : Heap} (hvm : U.vm.Alike U2.vm) (hR : wRel G h U H) : wRel G h U2 H := ⟨hR.1, hR.2.1, fun a e he => ⟨(hR.2.2 a e he).1, wAt_moved hvm (hR.2.2 a e he).2⟩⟩
theorem wRel.put {G : wG} {h : wH} {U : State} {H H1 : Heap} {a : Nat} {e : wE} (hR : wRel G h U H) (hb : G.2.2.1 ≤ a) (hz : H1.size = H.size) (ho : ∀ q, q ≠ a → H1[q]? = H[q]?) (hn : wAt G.2.1 U H1 a e) : wRel G (va_up h.1 a (some e), h.2) U H1 := by
  refine ⟨by rw [hz]; exact hR.1, hR.2.1, fun b f hf => ?_⟩
  by_cases hq : b = a
  · subst hq
    have : some e = some f := by simpa [va_up] using hf
    cases this
    exact ⟨hb, hn⟩
  · have hf' : h.1 b = some f := by simpa [va_up, hq] using hf
    exact ⟨(hR.2.2 b f hf').1, wAt_kept (hR.2.2 b f hf').2 (ho b hq)⟩
theorem wRel.push {G : wG} {h : wH} {U : State} {H H1 : Heap} {e : wE} (hR : wRel G h U H) (hz : H1.size = h.2 + 1) (ho : ∀ q, q < h.2 → H1[q]? = H[q]?) (hn : wAt G.2.1 U H1 h.2 e) : wRel G (va_up h.1 h.2 (some e), h.2 + 1) U H1 := by
  refine ⟨hz, Nat.le_succ_of_le hR.2.1, fun b f hf => ?_⟩
  by_cases hq : b = h.2
  · subst hq
    have : some e = some f := by simpa [va_up] using hf
    cases this
    exact ⟨hR.2.1, hn⟩
  · have hf' : h.1 b = some f := by simpa [va_up, hq] using hf
    have hl := wAt_lt (hR.2.2 b f hf').2
    exact ⟨(hR.2.2 b f hf').1, wAt_kept (hR.2.2 b f hf').2 (ho b (by rw [← hR.1]; exact hl))⟩
/-- what the tables say of a class -/
def wCk (C : String) (T : u_T) (N : Nat) : Prop := (∀ w ∈ u_ws C T N, w ∈ wTb) ∧ (∃ ty0 : Nat → FieldType, ∀ k, k < N → parseFieldDescriptor (T k).2.2.1 = some (ty0 k)) ∧ (∀ a, a < N → ∀ b, b < N → a ≠ b → (T a).2.1 ≠ (T b).2.1)
/-- the pool index of class own names the field kf of the class ci, of this type, final or not -/
def wFl (own : String) (index ci kf : Nat) (ty : FieldType) (fin : Bool) : Prop := ∃ (C : String) (T : u_T) (N : Nat), wCl[ci]? = some (C, T, N) ∧ kf < N ∧ wCk C T N ∧ (T kf).1 = C ∧ Cond.fieldLink own index C (T kf).2.1 (T kf).2.2.1 ∈ wTb ∧ parseFieldDescriptor (T kf).2.2.1 = some ty ∧ (T kf).2.2.2 = fin
section WHp
variable {G : wG} {M : wM} {cc : ByteArray} {X : wX} {Z : State → Prop} {pc : Nat} {lv : List (Option Value)} {st : List Value} {h : wH} {k n : Nat}
theorem ww_get {a ci kf index : Nat} {V : Nat → Value} {ty : FieldType} {fin : Bool} (hd : decode cc pc = .ok (.getfield index, 3)) (L : wFl M.1.cls index ci kf ty fin) (ha : h.1 a = some (.inr (ci, V))) (kk : WW G M cc X Z (pc + 3) lv (V kf :: st) h k n) : WW G M cc X Z pc lv (.ref a :: st) h k n := by
  obtain ⟨p, e, R, s, m, args, below, meth, c⟩ := X
  intro O H locs ls hR hS hl
  have O' := O
  obtain ⟨hx, hb, hml, hr, hown, hts, hlk, hnm, hK, hroom, hB, hE, hSt⟩ := O
  obtain ⟨C, T, N, hc, hk, hCk, hT, hlink, -, -⟩ := L
  obtain ⟨-, r, h1, cell, q1, q2, q3, q4⟩ := hR.2.2 a _ ha
  have hr' : r = (C, T, N) := Option.some.inj (h1.symm.trans hc)
  subst hr'
  obtain ⟨hSl, hfc, kC, hkC, hkind⟩ := hK.1 ci _ hc
  obtain ⟨cf, kf', fi, f, hi, hsl⟩ := hSl kf hk
  have hi2 := hi
  rw [hT] at hi2
  refine W.getf hx hb hown (hts _ hlink) hi2 (u_facts hfc hkC (u_lays hts hCk.1 hk) hi).1 q1 (by rw [q3]; exact fun h => by cases h) (v := V kf) ?_ rfl rfl hd (kk O' H locs ls hR hS hl)
  rw [hsl, q4 kf hk]
theorem w_apart {s : State} {args : Array Value} {D : va_G} {C : String} {T : u_T} {N ci : Nat} (hts : ∀ w ∈ wTb, w.before args s = true) (hCk : wCk C T N) (hK : va_K D wCl [] s) (hc : wCl[ci]? = some (C, T, N)) : ∀ x y, x < N → y < N → x ≠ y → (D.2 ci) x ≠ (D.2 ci) y := by
  obtain ⟨h1, ⟨ty0, h2⟩, h3⟩ := hCk
  exact va_apart (own := C) hts h1 ty0 h2 h3 hK hc
theorem ww_put {a ci kf index : Nat} {V : Nat → Value} {ty : FieldType} {v : Value} (hd : decode cc pc = .ok (.putfield index, 3)) (L : wFl M.1.cls index ci kf ty false) (hn : narrow ty v = v) (hfit : fits ty v = true) (ha : h.1 a = some (.inr (ci, V))) (kk : WW G M cc X Z (pc + 3) lv st (va_up h.1 a (some (.inr (ci, updV V kf v))), h.2) k n) : WW G M cc X Z pc lv (v :: .ref a :: st) h k n := by
  obtain ⟨p, e, R, s, m, args, below, meth, c⟩ := X
  intro O H locs ls hR hS hl
  have O' := O
  obtain ⟨hx, hb, hml, hr, hown, hts, hlk, hnm, hK, hroom, hB, hE, hSt⟩ := O
  obtain ⟨C, T, N, hc, hk, hCk, hT, hlink, hdsc, hfin⟩ := L
  have hap := w_apart hts hCk hK hc
  obtain ⟨hBa, r, h1, cell, q1, q2, q3, q4⟩ := hR.2.2 a _ ha
  have hr' : r = (C, T, N) := Option.some.inj (h1.symm.trans hc)
  subst hr'
  obtain ⟨hSl, hfc, kC, hkC, hkind⟩ := hK.1 ci _ hc
  obtain ⟨cf, kf', fi, f, hi, hsl⟩ := hSl kf hk
  have hlay := hts _ (hCk.1 _ (u_in_lay hk))
  unfold u_lay at hlay
  rw [if_neg (by rw [hfin]; decide)] at hlay
  have hst := (u_facts hfc hkC (u_lays hts hCk.1 hk) hi).1
  have h6 := u_store hfc hkC hkind hlay hi hdsc hn hfit
  have hi2 := hi
  rw [hT] at hi2
  refine W.putK hx hb (f := f) ⟨hown, hts _ hlink, ⟨_, _, _, hi2⟩, hst⟩ (by rw [q2]; exact h6) q1 q3 (by rw [hsl]; exact k2_hasslot (q4 kf hk)) rfl rfl hd fun H' e1 e2 e3 => ?_
  rw [hsl] at e1 ⊢
  exact kk O' H' _ ls (hR.put hBa e2 e3 ⟨_, hc, _, e1, q2, q3, t_set q4 hap hk v⟩) (hS.put e2 e3 hBa) hl
theorem ww_putF {a ci kf index : Nat} {V : Nat → Value} {ty : FieldType} {v : Value} {C : String} {T : u_T} {N : Nat} (hd : decode cc pc = .ok (.putfield index, 3)) (hC : wCl[ci]? = some (C, T, N)) (hCo : C = M.1.cls) (L : wFl M.1.cls index ci kf ty true) (hin2 : M.1.name = "<init>") (hn : narrow ty v = v) (hfit : fits ty v = true) (ha : h.1 a = some (.inr (ci, V))) (kk : WW G M cc X Z (pc + 3) lv st (va_up h.1 a (some (.inr (ci, updV V kf v))), h.2) k n) : WW G M cc X Z pc lv (v :: .ref a :: st) h k n := by
  obtain ⟨p, e, R, s, m, args, below, meth, c⟩ := X
  intro O H locs ls hR hS hl
  have O' := O
  obtain ⟨hx, hb, hml, hr, hown, hts, hlk, hnm, hK, hroom, hB, hE, hSt⟩ := O
  obtain ⟨C', T', N', hc, hk, hCk, hT, hlink, hdsc, hfin⟩ := L
  have hq : (C', T', N') = (C, T, N) := Option.some.inj (hc.symm.trans hC)
  cases hq
  have hap := w_apart hts hCk hK hc
  obtain ⟨hBa, r, h1, cell, q1, q2, q3, q4⟩ := hR.2.2 a _ ha
  have hr' : r = (C, T, N) := Option.some.inj (h1.symm.trans hc)
  subst hr'
  obtain ⟨hSl, hfc, kC, hkC, hkind⟩ := hK.1 ci _ hc
  obtain ⟨cf, kf', fi, f, hi, hsl⟩ := hSl kf hk
  have hlay := hts _ (hCk.1 _ (u_in_lay hk))
  unfold u_lay at hlay
  rw [if_pos hfin] at hlay
  have hst := (u_facts hfc hkC (u_lays hts hCk.1 hk) hi).1
  have hcf : m.cls = cf := by
    obtain ⟨_, _, c', _, _, _, -, -, hf', -, -, -, hown2, -⟩ := Cond.laysFinal_spec hlay
    have e1 : c' = cf := by have := hi.symm.trans hf'; simp at this; exact this.1.symm
    rw [hT, hCo] at hown2
    rw [← e1]; exact Option.some.inj (hown.symm.trans hown2)
  have h6 := u_fits hfc hkC hkind (Or.inr hlay) hi hdsc hn hfit
  have hi2 := hi
  rw [hT] at hi2
  refine W.putFinK hx hb hown (hts _ hlink) hi2 hst hcf (hnm.trans hin2) (by rw [q2]; exact h6) q1 q3 (by rw [hsl]; exact k2_hasslot (q4 kf hk)) rfl rfl hd fun H' e1 e2 e3 => ?_
  rw [hsl] at e1 ⊢
  exact kk O' H' _ ls (hR.put hBa e2 e3 ⟨_, hc, _, e1, q2, q3, t_set q4 hap hk v⟩) (hS.put e2 e3 hBa) hl
end WHp
theorem w_ix {i : Int32} {j nn : Nat} (hi : i = nI j) (hj : j < nn) (hb : nn < 2 ^ 31) : vp_in i nn ∧ i.toNatClampNeg = j := by
  subst hi
  exact ⟨vp_in_nI hj hb, nI_clamp (Nat.lt_trans hj hb)⟩
section WArr
variable {G : wG} {M : wM} {cc : ByteArray} {X : wX} {Z : State → Prop} {pc : Nat} {lv : List (Option Value)} {st : List Value} {h : wH} {k n : Nat}
theorem ww_iald {a j nn : Nat} {i : Int32} {f : Nat → Int32} (hd : decode cc pc = .ok (.iaload, 1)) (ha : h.1 a = some (.inl (.int, nn, .inl f))) (hi : i = nI j) (hj : j < nn) (hb31 : nn < 2 ^ 31) (kk : WW G M cc X Z (pc + 1) lv (.int (f j) :: st) h k n) : WW G M cc X Z pc lv (.int i :: .ref a :: st) h k n := by
  obtain ⟨p, e, R, s, m, args, below, meth, c⟩ := X
  intro O H locs ls hR hS hl
  obtain ⟨hv, hcl⟩ := w_ix hi hj hb31
  obtain ⟨-, cA, q1, q2, q3⟩ := hR.2.2 a _ ha
  refine W.iald (v := .int (f j)) O.1 O.2.1 q1 (q2 nn (fun q => .int (f q))) (fun q => by cases q) (by show ¬ (i < 0 ∨ (arrV _ _ _).slots.size ≤ _); rw [arrV_size]; exact hv) (by show (arrV _ _ _).slots[_]? = _; rw [hcl, arrV_read _ _ hj]) rfl rfl hd (kk O H locs ls hR hS hl)
theorem ww_bald {a j nn : Nat} {i : Int32} {f : Nat → Int32} (hd : decode cc pc = .ok (.baload, 1)) (ha : h.1 a = some (.inl (.byte, nn, .inl f))) (hi : i = nI j) (hj : j < nn) (hb31 : nn < 2 ^ 31) (kk : WW G M cc X Z (pc + 1) lv (.int (f j) :: st) h k n) : WW G M cc X Z pc lv (.int i :: .ref a :: st) h k n := by
  obtain ⟨p, e, R, s, m, args, below, meth, c⟩ := X
  intro O H locs ls hR hS hl
  obtain ⟨hv, hcl⟩ := w_ix hi hj hb31
  obtain ⟨-, cA, q1, q2, q3⟩ := hR.2.2 a _ ha
  refine W.bald (v := .int (f j)) O.1 O.2.1 q1 (q2 nn (fun q => .int (f q))) (fun q => by cases q) (by show ¬ (i < 0 ∨ (arrV _ _ _).slots.size ≤ _); rw [arrV_size]; exact hv) (by show (arrV _ _ _).slots[_]? = _; rw [hcl, arrV_read _ _ hj]) rfl rfl hd (kk O H locs ls hR hS hl)
theorem ww_zald {a j nn : Nat} {i : Int32} {f : Nat → Int32} (hd : decode cc pc = .ok (.baload, 1)) (ha : h.1 a = some (.inl (.boolean, nn, .inl f))) (hi : i = nI j) (hj : j < nn) (hb31 : nn < 2 ^ 31) (kk : WW G M cc X Z (pc + 1) lv (.int (f j) :: st) h k n) : WW G M cc X Z pc lv (.int i :: .ref a :: st) h k n := by
  obtain ⟨p, e, R, s, m, args, below, meth, c⟩ := X
  intro O H locs ls hR hS hl
  obtain ⟨hv, hcl⟩ := w_ix hi hj hb31
  obtain ⟨-, cA, q1, q2, q3⟩ := hR.2.2 a _ ha
  refine W.zald (v := .int (f j)) O.1 O.2.1 q1 (q2 nn (fun q => .int (f q))) (fun q => by cases q) (by show ¬ (i < 0 ∨ (arrV _ _ _).slots.size ≤ _); rw [arrV_size]; exact hv) (by show (arrV _ _ _).slots[_]? = _; rw [hcl, arrV_read _ _ hj]) rfl rfl hd (kk O H locs ls hR hS hl)
theorem ww_lald {a j nn : Nat} {i : Int32} {f : Nat → Int64} (hd : decode cc pc = .ok (.laload, 1)) (ha : h.1 a = some (.inl (.long, nn, .inr (.inl f)))) (hi : i = nI j) (hj : j < nn) (hb31 : nn < 2 ^ 31) (kk : WW G M cc X Z (pc + 1) lv (.long (f j) :: st) h k n) : WW G M cc X Z pc lv (.int i :: .ref a :: st) h k n := by
  obtain ⟨p, e, R, s, m, args, below, meth, c⟩ := X
  intro O H locs ls hR hS hl
  obtain ⟨hv, hcl⟩ := w_ix hi hj hb31
  obtain ⟨-, cA, q1, q2, q3⟩ := hR.2.2 a _ ha
  refine W.lald (v := .long (f j)) O.1 O.2.1 q1 (q2 nn (fun q => .long (f q))) (fun q => by cases q) (by show ¬ (i < 0 ∨ (arrV _ _ _).slots.size ≤ _); rw [arrV_size]; exact hv) (by show (arrV _ _ _).slots[_]? = _; rw [hcl, arrV_read _ _ hj]) rfl rfl hd (kk O H locs ls hR hS hl)
theorem ww_aald {a j nn : Nat} {i : Int32} {Cn : String} {f : Nat → Option Nat} (hd : decode cc pc = .ok (.aaload, 1)) (ha : h.1 a = some (.inl (.object Cn, nn, .inr (.inr (.inr (.inr f)))))) (hi : i = nI j) (hj : j < nn) (hb31 : nn < 2 ^ 31) (kk : WW G M cc X Z (pc + 1) lv (va_rf (f j) :: st) h k n) : WW G M cc X Z pc lv (.int i :: .ref a :: st) h k n := by
  obtain ⟨p, e, R, s, m, args, below, meth, c⟩ := X
  intro O H locs ls hR hS hl
  obtain ⟨hv, hcl⟩ := w_ix hi hj hb31
  obtain ⟨-, cA, q1, q2, q3⟩ := hR.2.2 a _ ha
  refine W.aald (v := va_rf (f j)) (ty := .object Cn) O.1 O.2.1 q1 (q2 nn (fun q => va_rf (f q))) rfl (fun q => by cases q) (by show ¬ (i < 0 ∨ (arrV _ _ _).slots.size ≤ _); rw [arrV_size]; exact hv) (by show (arrV _ _ _).slots[_]? = _; rw [hcl, arrV_read _ _ hj]) rfl rfl hd (kk O H locs ls hR hS hl)
theorem ww_iast {a j nn : Nat} {i : Int32} {x : Int32} {f : Nat → Int32} (hd : decode cc pc = .ok (.iastore, 1)) (ha : h.1 a = some (.inl (.int, nn, .inl f))) (hi : i = nI j) (hj : j < nn) (hb31 : nn < 2 ^ 31) (kk : WW G M cc X Z (pc + 1) lv st (va_up h.1 a (some (.inl (.int, nn, .inl (upd f j x)))), h.2) k n) : WW G M cc X Z pc lv (.int x :: .int i :: .ref a :: st) h k n := by
  obtain ⟨p, e, R, s, m, args, below, meth, c⟩ := X
  intro O H locs ls hR hS hl
  obtain ⟨hv, hcl⟩ := w_ix hi hj hb31
  obtain ⟨hBa, cA, q1, q2, q3⟩ := hR.2.2 a _ ha
  refine W.iast O.1 O.2.1 q1 (q2 nn (fun q => .int (f q))) (fun q => by cases q) (by show ¬ (i < 0 ∨ (arrV _ _ _).slots.size ≤ _); rw [arrV_size]; exact hv) rfl rfl hd fun H1 e1 z oq => ?_
  refine kk O H1 _ ls (hR.put hBa z oq ⟨cA, ?_, q2, q3⟩) (hS.put z oq hBa) hl
  rw [e1, vp_cell_i, vp_cell_i, arrV_store, hcl]
  congr 2
  funext q
  by_cases hq : q = j
  · subst hq
    simp [updV, upd]
    try rfl
  · simp [updV, upd, hq]
theorem ww_bast {a j nn : Nat} {i : Int32} {x : Int32} {f : Nat → Int32} (hd : decode cc pc = .ok (.bastore, 1)) (ha : h.1 a = some (.inl (.byte, nn, .inl f))) (hi : i = nI j) (hj : j < nn) (hb31 : nn < 2 ^ 31) (kk : WW G M cc X Z (pc + 1) lv st (va_up h.1 a (some (.inl (.byte, nn, .inl (upd f j (vp_nar .byte x))))), h.2) k n) : WW G M cc X Z pc lv (.int x :: .int i :: .ref a :: st) h k n := by
  obtain ⟨p, e, R, s, m, args, below, meth, c⟩ := X
  intro O H locs ls hR hS hl
  obtain ⟨hv, hcl⟩ := w_ix hi hj hb31
  obtain ⟨hBa, cA, q1, q2, q3⟩ := hR.2.2 a _ ha
  refine W.bast O.1 O.2.1 q1 (q2 nn (fun q => .int (f q))) (fun q => by cases q) (by show ¬ (i < 0 ∨ (arrV _ _ _).slots.size ≤ _); rw [arrV_size]; exact hv) rfl rfl hd fun H1 e1 z oq => ?_
  refine kk O H1 _ ls (hR.put hBa z oq ⟨cA, ?_, q2, q3⟩) (hS.put z oq hBa) hl
  rw [e1, vp_cell_i, vp_cell_i, arrV_store, hcl]
  congr 2
  funext q
  by_cases hq : q = j
  · subst hq
    simp [updV, upd, vp_nar]
    try rfl
  · simp [updV, upd, vp_nar, hq]
theorem ww_zast {a j nn : Nat} {i : Int32} {x : Int32} {f : Nat → Int32} (hd : decode cc pc = .ok (.bastore, 1)) (ha : h.1 a = some (.inl (.boolean, nn, .inl f))) (hi : i = nI j) (hj : j < nn) (hb31 : nn < 2 ^ 31) (kk : WW G M cc X Z (pc + 1) lv st (va_up h.1 a (some (.inl (.boolean, nn, .inl (upd f j (vp_nar .boolean x))))), h.2) k n) : WW G M cc X Z pc lv (.int x :: .int i :: .ref a :: st) h k n := by
  obtain ⟨p, e, R, s, m, args, below, meth, c⟩ := X
  intro O H locs ls hR hS hl
  obtain ⟨hv, hcl⟩ := w_ix hi hj hb31
  obtain ⟨hBa, cA, q1, q2, q3⟩ := hR.2.2 a _ ha
  refine W.zast O.1 O.2.1 q1 (q2 nn (fun q => .int (f q))) (fun q => by cases q) (by show ¬ (i < 0 ∨ (arrV _ _ _).slots.size ≤ _); rw [arrV_size]; exact hv) rfl rfl hd fun H1 e1 z oq => ?_
  refine kk O H1 _ ls (hR.put hBa z oq ⟨cA, ?_, q2, q3⟩) (hS.put z oq hBa) hl
  rw [e1, vp_cell_i, vp_cell_i, arrV_store, hcl]
  congr 2
  funext q
  by_cases hq : q = j
  · subst hq
    simp [updV, upd, vp_nar]
    try rfl
  · simp [updV, upd, vp_nar, hq]
theorem ww_last {a j nn : Nat} {i : Int32} {x : Int64} {f : Nat → Int64} (hd : decode cc pc = .ok (.lastore, 1)) (ha : h.1 a = some (.inl (.long, nn, .inr (.inl f)))) (hi : i = nI j) (hj : j < nn) (hb31 : nn < 2 ^ 31) (kk : WW G M cc X Z (pc + 1) lv st (va_up h.1 a (some (.inl (.long, nn, .inr (.inl (vp_updL f j x))))), h.2) k n) : WW G M cc X Z pc lv (.long x :: .int i :: .ref a :: st) h k n := by
  obtain ⟨p, e, R, s, m, args, below, meth, c⟩ := X
  intro O H locs ls hR hS hl
  obtain ⟨hv, hcl⟩ := w_ix hi hj hb31
  obtain ⟨hBa, cA, q1, q2, q3⟩ := hR.2.2 a _ ha
  refine W.last O.1 O.2.1 q1 (q2 nn (fun q => .long (f q))) (fun q => by cases q) (by show ¬ (i < 0 ∨ (arrV _ _ _).slots.size ≤ _); rw [arrV_size]; exact hv) rfl rfl hd fun H1 e1 z oq => ?_
  refine kk O H1 _ ls (hR.put hBa z oq ⟨cA, ?_, q2, q3⟩) (hS.put z oq hBa) hl
  rw [e1, vp_cell_l, vp_cell_l, arrV_store, hcl]
  congr 2
  funext q
  by_cases hq : q = j
  · subst hq
    simp [updV, vp_updL]
    try rfl
  · simp [updV, vp_updL, hq]
theorem ww_alen {a : Nat} {ty : FieldType} {arr : vp_A} {v : Int32} (hd : decode cc pc = .ok (.arraylength, 1)) (ha : h.1 a = some (.inl (ty, arr))) (hv : Int32.ofNat arr.1 = v) (kk : WW G M cc X Z (pc + 1) lv (.int v :: st) h k n) : WW G M cc X Z pc lv (.ref a :: st) h k n := by
  obtain ⟨p, e, R, s, m, args, below, meth, c⟩ := X
  intro O H locs ls hR hS hl
  obtain ⟨hBa, cA, q1, q2, q3⟩ := hR.2.2 a _ ha
  subst hv
  exact va_alen (D := G.2.1) (cl := wCl) (tys := [(cA, ty)]) (ws := [(a, .inl (cA, arr))]) O.1 O.2.1 ⟨O.2.2.2.2.2.2.2.2.1.1, fun j q hq => by
    have : j = 0 := by have := (List.getElem?_eq_some_iff.mp hq).1; simp at this; omega
    subst this; cases hq; exact ⟨q2, q3⟩⟩ (fun j q hq => by
    have : j = 0 := by have := (List.getElem?_eq_some_iff.mp hq).1; simp at this; omega
    subst this; cases hq; exact q1) 0 0 rfl rfl rfl hd (kk O H locs ls hR hS hl)
theorem ww_newa {atype : ArrayType} {ty : FieldType} {len : Int32} {N' : Nat} {a0 : vp_A} (hd : decode cc pc = .ok (.newarray atype, 2)) (hty : newarray.typeOf atype = ty) (hty2 : ∀ Cn, ty ≠ .object Cn) (hw : Cond.arrayClass ty ∈ wTb) (ha : ∀ cA : ClassId, vp_cell cA a0 = arrV cA N' (fun _ => defaultValue ty)) (hn0 : ¬ len < 0) (hN : len.toNatClampNeg = N') (hbytes : N' * componentBytes ty ≤ 536870912) (hk : k + 1 ≤ M.2.2.2.2.2.1) (hns : n + N' ≤ M.2.2.2.2.2.2) (kk : WW G M cc X Z (pc + 2) lv (.ref h.2 :: st) (va_up h.1 h.2 (some (.inl (ty, a0))), h.2 + 1) (k + 1) (n + N')) : WW G M cc X Z pc lv (.int len :: st) h k n := by
  obtain ⟨p, e, R, s, m, args, below, meth, c⟩ := X
  intro O H locs ls hR hS hl
  have O' := O
  obtain ⟨hx, hb, hml, hr, hown, hts, hlk, hnm, hK, ⟨hf, hlo, hrc, hrs⟩, hB, hE, hSt⟩ := O
  subst hty
  refine va_newaK hx hb (hts _ hw) rfl hd rfl hn0 hN hbytes (by rw [hrc]; exact hk) (by rw [hrs]; exact hns) hR.1 fun H1 cA e1 z1 o1 hAr hNm => ?_
  refine kk O' H1 locs ls (hR.push z1 o1 ⟨cA, ?_, hAr, ?_⟩) ⟨Nat.le_trans hS.1 (by rw [hR.1, z1]; omega), fun q h1 h2 => (o1 q (by rw [← hR.1]; exact Nat.lt_of_lt_of_le h1 hS.1)).trans (hS.2.1 q h1 h2), hS.2.2⟩ hl
  · rw [e1, ha]
  · cases atype <;> exact hNm
def wNw (own : String) (index ci : Nat) (ty0 : Nat → FieldType) (N : Nat) : Prop := ∃ (Cn : String) (T : u_T), wCl[ci]? = some (Cn, T, N) ∧ wCk Cn T N ∧ (∀ k, k < N → parseFieldDescriptor (T k).2.2.1 = some (ty0 k)) ∧ Cond.classLink own index Cn ∈ wTb ∧ Cond.instantiable Cn N ∈ wTb ∧ Cond.initialized Cn ∈ wTb
theorem ww_new {index ci N : Nat} {ty0 : Nat → FieldType} (hd : decode cc pc = .ok (.new index, 3)) (L : wNw M.1.cls index ci ty0 N) (hk : k + 1 ≤ M.2.2.2.2.2.1) (hns : n + N ≤ M.2.2.2.2.2.2) (kk : WW G M cc X Z (pc + 3) lv (.ref h.2 :: st) (va_up h.1 h.2 (some (.inr (ci, fun j => defaultValue (ty0 j)))), h.2 + 1) (k + 1) (n + N)) : WW G M cc X Z pc lv st h k n := by
  obtain ⟨p, e, R, s, m, args, below, meth, c⟩ := X
  intro O H locs ls hR hS hl
  have O' := O
  obtain ⟨hx, hb, hml, hr, hown, hts, hlk, hnm, hK, ⟨hf, hlo, hrc, hrs⟩, hB, hE, hSt⟩ := O
  obtain ⟨Cn, T, hc, hCk, hty, w1, w2, w3⟩ := L
  have hKn := hK.1 ci _ hc
  refine W.newcK hx hb hown (hts _ w1) (hts _ w2) (hts _ w3) rfl hd (by rw [hrc]; exact hk) (by rw [hrs]; exact hns) hKn.2.1 hR.1 fun H1 kC hkC e1 z1 o1 => ?_
  exact kk O' H1 locs ls (hR.push z1 o1 ⟨_, hc, u_born ty0 hts hCk.1 hKn hkC e1 hty⟩) ⟨Nat.le_trans hS.1 (by rw [hR.1, z1]; omega), fun q h1 h2 => (o1 q (by rw [← hR.1]; exact Nat.lt_of_lt_of_le h1 hS.1)).trans (hS.2.1 q h1 h2), hS.2.2⟩ hl
end WArr
