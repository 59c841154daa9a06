/-! TaskHouse.<init>, and the world that it leaves -/
def xF0 : Nat → Int32 := fun k => if k = 8 ∨ k = 9 then -1 else 0
def xO0 (m : Nat) : Nat → Option Nat := fun k => if k = 0 then some (m + 1) else if k = 1 then some (m + 21) else if k = 2 then some (m + 28) else if k = 3 then some (m + 38) else if k = 4 then some (m + 43) else none
theorem xx_up {m : Nat} {F : Nat → Int32} {O : Nat → Option Nat} {R : Nat → Nat → Int32} {h0 : Nat → Option wE} : va_up h0 m (some (.inr (7, xxV m F O))) = kb 0 m F O R h0 := by
  funext a
  show _ = xxh m F O R h0 a
  by_cases ha : a = m
  · subst ha; simp [va_up, xxh]
  · simp only [va_up, xxh, if_neg ha]
    rw [if_neg (by omega)]
theorem ra_up {m : Nat} {F : Nat → Int32} {O : Nat → Option Nat} {R : Nat → Nat → Int32} {h0 : Nat → Option wE} : va_up h0 m (some (.inl (.object "TaskHouse$Run", 8, .inr (.inr (.inr (.inr O)))))) = kb 8 m F O R h0 := by
  funext a
  show _ = rah m O h0 a
  by_cases ha : a = m
  · subst ha; simp [va_up, rah]
  · simp [va_up, rah, ha]
theorem xxq_put {G : wG} {M : wM} {cc : ByteArray} {X : wX} {Z : State → Prop} {pc : Nat} {lv : List (Option Value)} {st : List Value} {m k n index sz kf : Nat} {h0 : Nat → Option wE} {V : Nat → Value} {ty : FieldType} {v : Value} (hd : decode cc pc = .ok (.putfield index, 3)) (L : wFl M.1.cls index 7 kf ty false) (hn : narrow ty v = v) (hfit : fits ty v = true) (kk : WW G M cc X Z (pc + 3) lv st (va_up h0 m (some (.inr (7, updV V kf v))), sz) k n) : WW G M cc X Z pc lv (v :: .ref m :: st) (va_up h0 m (some (.inr (7, V))), sz) k n :=
  ww_put hd L hn hfit (w_up_self _ _ _) (by dsimp only; rw [w_up_up]; exact kk)
theorem xxq_putF {G : wG} {M : wM} {cc : ByteArray} {X : wX} {Z : State → Prop} {pc : Nat} {lv : List (Option Value)} {st : List Value} {m k n index sz kf : Nat} {h0 : Nat → Option wE} {V : Nat → Value} {ty : FieldType} {v : Value} (hd : decode cc pc = .ok (.putfield index, 3)) (hCo : RX8 = M.1.cls) (L : wFl M.1.cls index 7 kf ty true) (hin2 : M.1.name = "<init>") (hn : narrow ty v = v) (hfit : fits ty v = true) (kk : WW G M cc X Z (pc + 3) lv st (va_up h0 m (some (.inr (7, updV V kf v))), sz) k n) : WW G M cc X Z pc lv (v :: .ref m :: st) (va_up h0 m (some (.inr (7, V))), sz) k n :=
  ww_putF (C := RX8) (T := TX8) (N := 10) hd rfl hCo L hin2 hn hfit (w_up_self _ _ _) (by dsimp only; rw [w_up_up]; exact kk)
theorem cl37 : Cond.classLink RX8 37 "TaskHouse$Run" ∈ wTb := wTb_mem 402 (by decide +kernel) rfl
def iL1 (m : Nat) : wL := lkA ((fun _ => none, fun _ => (0, 0)) : wL) 2 2 (m + 2)
def iL2 (m : Nat) : wL := lkA (iL1 m) 3 3 (m + 5)
def iL3 (m : Nat) : wL := lkA (iL2 m) 1 1 (m + 1)
def iL4 (m : Nat) : wL := lkA (iL3 m) 4 4 (m + 21)
def iL5 (m : Nat) : wL := lkA (iL4 m) 5 5 (m + 28)
def iL6 (m : Nat) : wL := lkA (iL5 m) 6 6 (m + 38)
def iL7 (m : Nat) : wL := lkA (iL6 m) 7 8 (m + 43)
def iL8 (m : Nat) : wL := lkA (iL7 m) 0 0 m
theorem kl_0 : kLo 0 = 1 := rfl
theorem kh_0 : kHi 0 = 1 := rfl
theorem kl_1 : kLo 1 = 13 := rfl
theorem kh_1 : kHi 1 = 20 := rfl
theorem kl_2 : kLo 2 = 1 := rfl
theorem kh_2 : kHi 2 = 3 := rfl
theorem kl_3 : kLo 3 = 1 := rfl
theorem kh_3 : kHi 3 = 9 := rfl
theorem kl_4 : kLo 4 = 1 := rfl
theorem kh_4 : kHi 4 = 7 := rfl
theorem kl_5 : kLo 5 = 1 := rfl
theorem kh_5 : kHi 5 = 10 := rfl
theorem kl_6 : kLo 6 = 1 := rfl
theorem kh_6 : kHi 6 = 5 := rfl
theorem kl_8 : kLo 8 = 1 := rfl
theorem kh_8 : kHi 8 = 1 := rfl
theorem iL1_at (m y : Nat) : (iL1 m).1 y = (if (y = m + 2 ∨ (m + 2 + 1 ≤ y ∧ y < m + 2 + 3)) then some 2 else none) := rfl
theorem iL2_at (m y : Nat) : (iL2 m).1 y = (if (y = m + 5 ∨ (m + 5 + 1 ≤ y ∧ y < m + 5 + 9)) then some 3 else if (y = m + 2 ∨ (m + 2 + 1 ≤ y ∧ y < m + 2 + 3)) then some 2 else none) := rfl
theorem iL3_at (m y : Nat) : (iL3 m).1 y = (if (y = m + 1 ∨ (m + 1 + 13 ≤ y ∧ y < m + 1 + 20)) then some 1 else if (y = m + 5 ∨ (m + 5 + 1 ≤ y ∧ y < m + 5 + 9)) then some 3 else if (y = m + 2 ∨ (m + 2 + 1 ≤ y ∧ y < m + 2 + 3)) then some 2 else none) := rfl
theorem iL4_at (m y : Nat) : (iL4 m).1 y = (if (y = m + 21 ∨ (m + 21 + 1 ≤ y ∧ y < m + 21 + 7)) then some 4 else if (y = m + 1 ∨ (m + 1 + 13 ≤ y ∧ y < m + 1 + 20)) then some 1 else if (y = m + 5 ∨ (m + 5 + 1 ≤ y ∧ y < m + 5 + 9)) then some 3 else if (y = m + 2 ∨ (m + 2 + 1 ≤ y ∧ y < m + 2 + 3)) then some 2 else none) := rfl
theorem iL5_at (m y : Nat) : (iL5 m).1 y = (if (y = m + 28 ∨ (m + 28 + 1 ≤ y ∧ y < m + 28 + 10)) then some 5 else if (y = m + 21 ∨ (m + 21 + 1 ≤ y ∧ y < m + 21 + 7)) then some 4 else if (y = m + 1 ∨ (m + 1 + 13 ≤ y ∧ y < m + 1 + 20)) then some 1 else if (y = m + 5 ∨ (m + 5 + 1 ≤ y ∧ y < m + 5 + 9)) then some 3 else if (y = m + 2 ∨ (m + 2 + 1 ≤ y ∧ y < m + 2 + 3)) then some 2 else none) := rfl
theorem iL6_at (m y : Nat) : (iL6 m).1 y = (if (y = m + 38 ∨ (m + 38 + 1 ≤ y ∧ y < m + 38 + 5)) then some 6 else if (y = m + 28 ∨ (m + 28 + 1 ≤ y ∧ y < m + 28 + 10)) then some 5 else if (y = m + 21 ∨ (m + 21 + 1 ≤ y ∧ y < m + 21 + 7)) then some 4 else if (y = m + 1 ∨ (m + 1 + 13 ≤ y ∧ y < m + 1 + 20)) then some 1 else if (y = m + 5 ∨ (m + 5 + 1 ≤ y ∧ y < m + 5 + 9)) then some 3 else if (y = m + 2 ∨ (m + 2 + 1 ≤ y ∧ y < m + 2 + 3)) then some 2 else none) := rfl
theorem iL7_at (m y : Nat) : (iL7 m).1 y = (if (y = m + 43 ∨ (m + 43 + 1 ≤ y ∧ y < m + 43 + 1)) then some 7 else if (y = m + 38 ∨ (m + 38 + 1 ≤ y ∧ y < m + 38 + 5)) then some 6 else if (y = m + 28 ∨ (m + 28 + 1 ≤ y ∧ y < m + 28 + 10)) then some 5 else if (y = m + 21 ∨ (m + 21 + 1 ≤ y ∧ y < m + 21 + 7)) then some 4 else if (y = m + 1 ∨ (m + 1 + 13 ≤ y ∧ y < m + 1 + 20)) then some 1 else if (y = m + 5 ∨ (m + 5 + 1 ≤ y ∧ y < m + 5 + 9)) then some 3 else if (y = m + 2 ∨ (m + 2 + 1 ≤ y ∧ y < m + 2 + 3)) then some 2 else none) := rfl
theorem iL8_at (m y : Nat) : (iL8 m).1 y = (if (y = m ∨ (m + 1 ≤ y ∧ y < m + 1)) then some 0 else if (y = m + 43 ∨ (m + 43 + 1 ≤ y ∧ y < m + 43 + 1)) then some 7 else if (y = m + 38 ∨ (m + 38 + 1 ≤ y ∧ y < m + 38 + 5)) then some 6 else if (y = m + 28 ∨ (m + 28 + 1 ≤ y ∧ y < m + 28 + 10)) then some 5 else if (y = m + 21 ∨ (m + 21 + 1 ≤ y ∧ y < m + 21 + 7)) then some 4 else if (y = m + 1 ∨ (m + 1 + 13 ≤ y ∧ y < m + 1 + 20)) then some 1 else if (y = m + 5 ∨ (m + 5 + 1 ≤ y ∧ y < m + 5 + 9)) then some 3 else if (y = m + 2 ∨ (m + 2 + 1 ≤ y ∧ y < m + 2 + 3)) then some 2 else none) := rfl
theorem iN1 (m y : Nat) : (((fun _ => none, fun _ => (0, 0)) : wL)).1 y ≠ some 2 := fun q => by cases q
theorem iM1 (m y : Nat) (_ : inK 2 (m + 2) y) : (((fun _ => none, fun _ => (0, 0)) : wL)).1 y = none := rfl
theorem iN2 (m y : Nat) : (iL1 m).1 y ≠ some 3 := by
  rw [iL1_at]
  repeat (split; (· decide))
  decide
theorem iM2 (m y : Nat) (h : inK 3 (m + 5) y) : (iL1 m).1 y = none := by
  have h2 : (y = m + 5 ∨ (m + 5 + 1 ≤ y ∧ y < m + 5 + 9)) := h
  rw [iL1_at]
  repeat rw [if_neg (by omega)]
theorem iN3 (m y : Nat) : (iL2 m).1 y ≠ some 1 := by
  rw [iL2_at]
  repeat (split; (· decide))
  decide
theorem iM3 (m y : Nat) (h : inK 1 (m + 1) y) : (iL2 m).1 y = none := by
  have h2 : (y = m + 1 ∨ (m + 1 + 13 ≤ y ∧ y < m + 1 + 20)) := h
  rw [iL2_at]
  repeat rw [if_neg (by omega)]
theorem iN4 (m y : Nat) : (iL3 m).1 y ≠ some 4 := by
  rw [iL3_at]
  repeat (split; (· decide))
  decide
theorem iM4 (m y : Nat) (h : inK 4 (m + 21) y) : (iL3 m).1 y = none := by
  have h2 : (y = m + 21 ∨ (m + 21 + 1 ≤ y ∧ y < m + 21 + 7)) := h
  rw [iL3_at]
  repeat rw [if_neg (by omega)]
theorem iN5 (m y : Nat) : (iL4 m).1 y ≠ some 5 := by
  rw [iL4_at]
  repeat (split; (· decide))
  decide
theorem iM5 (m y : Nat) (h : inK 5 (m + 28) y) : (iL4 m).1 y = none := by
  have h2 : (y = m + 28 ∨ (m + 28 + 1 ≤ y ∧ y < m + 28 + 10)) := h
  rw [iL4_at]
  repeat rw [if_neg (by omega)]
theorem iN6 (m y : Nat) : (iL5 m).1 y ≠ some 6 := by
  rw [iL5_at]
  repeat (split; (· decide))
  decide
theorem iM6 (m y : Nat) (h : inK 6 (m + 38) y) : (iL5 m).1 y = none := by
  have h2 : (y = m + 38 ∨ (m + 38 + 1 ≤ y ∧ y < m + 38 + 5)) := h
  rw [iL5_at]
  repeat rw [if_neg (by omega)]
theorem iN7 (m y : Nat) : (iL6 m).1 y ≠ some 7 := by
  rw [iL6_at]
  repeat (split; (· decide))
  decide
theorem iM7 (m y : Nat) (h : inK 8 (m + 43) y) : (iL6 m).1 y = none := by
  have h2 : (y = m + 43 ∨ (m + 43 + 1 ≤ y ∧ y < m + 43 + 1)) := h
  rw [iL6_at]
  repeat rw [if_neg (by omega)]
theorem iN8 (m y : Nat) : (iL7 m).1 y ≠ some 0 := by
  rw [iL7_at]
  repeat (split; (· decide))
  decide
theorem iM8 (m y : Nat) (h : inK 0 m y) : (iL7 m).1 y = none := by
  have h2 : (y = m ∨ (m + 1 ≤ y ∧ y < m + 1)) := h
  rw [iL7_at]
  repeat rw [if_neg (by omega)]
def iF (m : Nat) : Nat → Nat → Int32 := (va_up (va_up (va_up (va_up (va_up (va_up (va_up (va_up (fun _ _ => 0) 2 tF0) 3 (fun _ => 0)) 1 rdF0) 4 (fun _ => 0)) 5 (fun _ => 0)) 6 (fun _ => 0)) 7 (fun _ => 0)) 0 xF0)
def iO (m : Nat) : Nat → Nat → Option Nat := (va_up (va_up (va_up (va_up (va_up (va_up (va_up (va_up (fun _ _ => none) 2 (fun _ => none)) 3 (fun _ => none)) 1 (rdO0 (m + 1))) 4 (fun _ => none)) 5 (fun _ => none)) 6 (fun _ => none)) 7 (fun _ => none)) 0 (xO0 m))
def iRw (m : Nat) : Nat → Nat → Nat → Int32 := (va_up (va_up (va_up (va_up (va_up (va_up (va_up (va_up (fun _ _ _ => 0) 2 wkR) 3 (fun _ _ => 0)) 1 (fun _ _ => 0)) 4 (fun _ _ => 0)) 5 (fun _ _ => 0)) 6 (fun _ _ => 0)) 7 (fun _ _ => 0)) 0 (fun _ _ => 0))
theorem i_wld {m : Nat} {h0 : Nat → Option wE} : (kb 0 m xF0 (xO0 m) (fun _ _ => 0) (kb 8 (m + 43) (fun _ => 0) (fun _ => none) (fun _ _ => 0) (kb 6 (m + 38) (fun _ => 0) (fun _ => none) (fun _ _ => 0) (kb 5 (m + 28) (fun _ => 0) (fun _ => none) (fun _ _ => 0) (kb 4 (m + 21) (fun _ => 0) (fun _ => none) (fun _ _ => 0) (kb 1 (m + 1) rdF0 (rdO0 (m + 1)) (fun _ _ => 0) (kb 3 (m + 5) (fun _ => 0) (fun _ => none) (fun _ _ => 0) (kb 2 (m + 2) tF0 (fun _ => none) wkR h0)))))))) = wld (iL8 m) (iF m) (iO m) (iRw m) h0 := by
  have e1 : kb 2 (m + 2) tF0 (fun _ => none) wkR h0 = wld (iL1 m) (va_up (fun _ _ => 0) 2 tF0) (va_up (fun _ _ => none) 2 (fun _ => none)) (va_up (fun _ _ _ => 0) 2 wkR) h0 := wld_add (Λ := ((fun _ => none, fun _ => (0, 0)) : wL)) (n := 2) (κ := 2) (m := (m + 2)) (F := (fun _ _ => 0)) (O := (fun _ _ => none)) (R := (fun _ _ _ => 0)) (h0 := h0) (iN1 m) (iM1 m)
  have e2 : kb 3 (m + 5) (fun _ => 0) (fun _ => none) (fun _ _ => 0) (wld (iL1 m) (va_up (fun _ _ => 0) 2 tF0) (va_up (fun _ _ => none) 2 (fun _ => none)) (va_up (fun _ _ _ => 0) 2 wkR) h0) = wld (iL2 m) (va_up (va_up (fun _ _ => 0) 2 tF0) 3 (fun _ => 0)) (va_up (va_up (fun _ _ => none) 2 (fun _ => none)) 3 (fun _ => none)) (va_up (va_up (fun _ _ _ => 0) 2 wkR) 3 (fun _ _ => 0)) h0 := wld_add (Λ := (iL1 m)) (n := 3) (κ := 3) (m := (m + 5)) (F := (va_up (fun _ _ => 0) 2 tF0)) (O := (va_up (fun _ _ => none) 2 (fun _ => none))) (R := (va_up (fun _ _ _ => 0) 2 wkR)) (h0 := h0) (iN2 m) (iM2 m)
  have e3 : kb 1 (m + 1) rdF0 (rdO0 (m + 1)) (fun _ _ => 0) (wld (iL2 m) (va_up (va_up (fun _ _ => 0) 2 tF0) 3 (fun _ => 0)) (va_up (va_up (fun _ _ => none) 2 (fun _ => none)) 3 (fun _ => none)) (va_up (va_up (fun _ _ _ => 0) 2 wkR) 3 (fun _ _ => 0)) h0) = wld (iL3 m) (va_up (va_up (va_up (fun _ _ => 0) 2 tF0) 3 (fun _ => 0)) 1 rdF0) (va_up (va_up (va_up (fun _ _ => none) 2 (fun _ => none)) 3 (fun _ => none)) 1 (rdO0 (m + 1))) (va_up (va_up (va_up (fun _ _ _ => 0) 2 wkR) 3 (fun _ _ => 0)) 1 (fun _ _ => 0)) h0 := wld_add (Λ := (iL2 m)) (n := 1) (κ := 1) (m := (m + 1)) (F := (va_up (va_up (fun _ _ => 0) 2 tF0) 3 (fun _ => 0))) (O := (va_up (va_up (fun _ _ => none) 2 (fun _ => none)) 3 (fun _ => none))) (R := (va_up (va_up (fun _ _ _ => 0) 2 wkR) 3 (fun _ _ => 0))) (h0 := h0) (iN3 m) (iM3 m)
  have e4 : kb 4 (m + 21) (fun _ => 0) (fun _ => none) (fun _ _ => 0) (wld (iL3 m) (va_up (va_up (va_up (fun _ _ => 0) 2 tF0) 3 (fun _ => 0)) 1 rdF0) (va_up (va_up (va_up (fun _ _ => none) 2 (fun _ => none)) 3 (fun _ => none)) 1 (rdO0 (m + 1))) (va_up (va_up (va_up (fun _ _ _ => 0) 2 wkR) 3 (fun _ _ => 0)) 1 (fun _ _ => 0)) h0) = wld (iL4 m) (va_up (va_up (va_up (va_up (fun _ _ => 0) 2 tF0) 3 (fun _ => 0)) 1 rdF0) 4 (fun _ => 0)) (va_up (va_up (va_up (va_up (fun _ _ => none) 2 (fun _ => none)) 3 (fun _ => none)) 1 (rdO0 (m + 1))) 4 (fun _ => none)) (va_up (va_up (va_up (va_up (fun _ _ _ => 0) 2 wkR) 3 (fun _ _ => 0)) 1 (fun _ _ => 0)) 4 (fun _ _ => 0)) h0 := wld_add (Λ := (iL3 m)) (n := 4) (κ := 4) (m := (m + 21)) (F := (va_up (va_up (va_up (fun _ _ => 0) 2 tF0) 3 (fun _ => 0)) 1 rdF0)) (O := (va_up (va_up (va_up (fun _ _ => none) 2 (fun _ => none)) 3 (fun _ => none)) 1 (rdO0 (m + 1)))) (R := (va_up (va_up (va_up (fun _ _ _ => 0) 2 wkR) 3 (fun _ _ => 0)) 1 (fun _ _ => 0))) (h0 := h0) (iN4 m) (iM4 m)
  have e5 : kb 5 (m + 28) (fun _ => 0) (fun _ => none) (fun _ _ => 0) (wld (iL4 m) (va_up (va_up (va_up (va_up (fun _ _ => 0) 2 tF0) 3 (fun _ => 0)) 1 rdF0) 4 (fun _ => 0)) (va_up (va_up (va_up (va_up (fun _ _ => none) 2 (fun _ => none)) 3 (fun _ => none)) 1 (rdO0 (m + 1))) 4 (fun _ => none)) (va_up (va_up (va_up (va_up (fun _ _ _ => 0) 2 wkR) 3 (fun _ _ => 0)) 1 (fun _ _ => 0)) 4 (fun _ _ => 0)) h0) = wld (iL5 m) (va_up (va_up (va_up (va_up (va_up (fun _ _ => 0) 2 tF0) 3 (fun _ => 0)) 1 rdF0) 4 (fun _ => 0)) 5 (fun _ => 0)) (va_up (va_up (va_up (va_up (va_up (fun _ _ => none) 2 (fun _ => none)) 3 (fun _ => none)) 1 (rdO0 (m + 1))) 4 (fun _ => none)) 5 (fun _ => none)) (va_up (va_up (va_up (va_up (va_up (fun _ _ _ => 0) 2 wkR) 3 (fun _ _ => 0)) 1 (fun _ _ => 0)) 4 (fun _ _ => 0)) 5 (fun _ _ => 0)) h0 := wld_add (Λ := (iL4 m)) (n := 5) (κ := 5) (m := (m + 28)) (F := (va_up (va_up (va_up (va_up (fun _ _ => 0) 2 tF0) 3 (fun _ => 0)) 1 rdF0) 4 (fun _ => 0))) (O := (va_up (va_up (va_up (va_up (fun _ _ => none) 2 (fun _ => none)) 3 (fun _ => none)) 1 (rdO0 (m + 1))) 4 (fun _ => none))) (R := (va_up (va_up (va_up (va_up (fun _ _ _ => 0) 2 wkR) 3 (fun _ _ => 0)) 1 (fun _ _ => 0)) 4 (fun _ _ => 0))) (h0 := h0) (iN5 m) (iM5 m)
  have e6 : kb 6 (m + 38) (fun _ => 0) (fun _ => none) (fun _ _ => 0) (wld (iL5 m) (va_up (va_up (va_up (va_up (va_up (fun _ _ => 0) 2 tF0) 3 (fun _ => 0)) 1 rdF0) 4 (fun _ => 0)) 5 (fun _ => 0)) (va_up (va_up (va_up (va_up (va_up (fun _ _ => none) 2 (fun _ => none)) 3 (fun _ => none)) 1 (rdO0 (m + 1))) 4 (fun _ => none)) 5 (fun _ => none)) (va_up (va_up (va_up (va_up (va_up (fun _ _ _ => 0) 2 wkR) 3 (fun _ _ => 0)) 1 (fun _ _ => 0)) 4 (fun _ _ => 0)) 5 (fun _ _ => 0)) h0) = wld (iL6 m) (va_up (va_up (va_up (va_up (va_up (va_up (fun _ _ => 0) 2 tF0) 3 (fun _ => 0)) 1 rdF0) 4 (fun _ => 0)) 5 (fun _ => 0)) 6 (fun _ => 0)) (va_up (va_up (va_up (va_up (va_up (va_up (fun _ _ => none) 2 (fun _ => none)) 3 (fun _ => none)) 1 (rdO0 (m + 1))) 4 (fun _ => none)) 5 (fun _ => none)) 6 (fun _ => none)) (va_up (va_up (va_up (va_up (va_up (va_up (fun _ _ _ => 0) 2 wkR) 3 (fun _ _ => 0)) 1 (fun _ _ => 0)) 4 (fun _ _ => 0)) 5 (fun _ _ => 0)) 6 (fun _ _ => 0)) h0 := wld_add (Λ := (iL5 m)) (n := 6) (κ := 6) (m := (m + 38)) (F := (va_up (va_up (va_up (va_up (va_up (fun _ _ => 0) 2 tF0) 3 (fun _ => 0)) 1 rdF0) 4 (fun _ => 0)) 5 (fun _ => 0))) (O := (va_up (va_up (va_up (va_up (va_up (fun _ _ => none) 2 (fun _ => none)) 3 (fun _ => none)) 1 (rdO0 (m + 1))) 4 (fun _ => none)) 5 (fun _ => none))) (R := (va_up (va_up (va_up (va_up (va_up (fun _ _ _ => 0) 2 wkR) 3 (fun _ _ => 0)) 1 (fun _ _ => 0)) 4 (fun _ _ => 0)) 5 (fun _ _ => 0))) (h0 := h0) (iN6 m) (iM6 m)
  have e7 : kb 8 (m + 43) (fun _ => 0) (fun _ => none) (fun _ _ => 0) (wld (iL6 m) (va_up (va_up (va_up (va_up (va_up (va_up (fun _ _ => 0) 2 tF0) 3 (fun _ => 0)) 1 rdF0) 4 (fun _ => 0)) 5 (fun _ => 0)) 6 (fun _ => 0)) (va_up (va_up (va_up (va_up (va_up (va_up (fun _ _ => none) 2 (fun _ => none)) 3 (fun _ => none)) 1 (rdO0 (m + 1))) 4 (fun _ => none)) 5 (fun _ => none)) 6 (fun _ => none)) (va_up (va_up (va_up (va_up (va_up (va_up (fun _ _ _ => 0) 2 wkR) 3 (fun _ _ => 0)) 1 (fun _ _ => 0)) 4 (fun _ _ => 0)) 5 (fun _ _ => 0)) 6 (fun _ _ => 0)) h0) = wld (iL7 m) (va_up (va_up (va_up (va_up (va_up (va_up (va_up (fun _ _ => 0) 2 tF0) 3 (fun _ => 0)) 1 rdF0) 4 (fun _ => 0)) 5 (fun _ => 0)) 6 (fun _ => 0)) 7 (fun _ => 0)) (va_up (va_up (va_up (va_up (va_up (va_up (va_up (fun _ _ => none) 2 (fun _ => none)) 3 (fun _ => none)) 1 (rdO0 (m + 1))) 4 (fun _ => none)) 5 (fun _ => none)) 6 (fun _ => none)) 7 (fun _ => none)) (va_up (va_up (va_up (va_up (va_up (va_up (va_up (fun _ _ _ => 0) 2 wkR) 3 (fun _ _ => 0)) 1 (fun _ _ => 0)) 4 (fun _ _ => 0)) 5 (fun _ _ => 0)) 6 (fun _ _ => 0)) 7 (fun _ _ => 0)) h0 := wld_add (Λ := (iL6 m)) (n := 7) (κ := 8) (m := (m + 43)) (F := (va_up (va_up (va_up (va_up (va_up (va_up (fun _ _ => 0) 2 tF0) 3 (fun _ => 0)) 1 rdF0) 4 (fun _ => 0)) 5 (fun _ => 0)) 6 (fun _ => 0))) (O := (va_up (va_up (va_up (va_up (va_up (va_up (fun _ _ => none) 2 (fun _ => none)) 3 (fun _ => none)) 1 (rdO0 (m + 1))) 4 (fun _ => none)) 5 (fun _ => none)) 6 (fun _ => none))) (R := (va_up (va_up (va_up (va_up (va_up (va_up (fun _ _ _ => 0) 2 wkR) 3 (fun _ _ => 0)) 1 (fun _ _ => 0)) 4 (fun _ _ => 0)) 5 (fun _ _ => 0)) 6 (fun _ _ => 0))) (h0 := h0) (iN7 m) (iM7 m)
  have e8 : kb 0 m xF0 (xO0 m) (fun _ _ => 0) (wld (iL7 m) (va_up (va_up (va_up (va_up (va_up (va_up (va_up (fun _ _ => 0) 2 tF0) 3 (fun _ => 0)) 1 rdF0) 4 (fun _ => 0)) 5 (fun _ => 0)) 6 (fun _ => 0)) 7 (fun _ => 0)) (va_up (va_up (va_up (va_up (va_up (va_up (va_up (fun _ _ => none) 2 (fun _ => none)) 3 (fun _ => none)) 1 (rdO0 (m + 1))) 4 (fun _ => none)) 5 (fun _ => none)) 6 (fun _ => none)) 7 (fun _ => none)) (va_up (va_up (va_up (va_up (va_up (va_up (va_up (fun _ _ _ => 0) 2 wkR) 3 (fun _ _ => 0)) 1 (fun _ _ => 0)) 4 (fun _ _ => 0)) 5 (fun _ _ => 0)) 6 (fun _ _ => 0)) 7 (fun _ _ => 0)) h0) = wld (iL8 m) (va_up (va_up (va_up (va_up (va_up (va_up (va_up (va_up (fun _ _ => 0) 2 tF0) 3 (fun _ => 0)) 1 rdF0) 4 (fun _ => 0)) 5 (fun _ => 0)) 6 (fun _ => 0)) 7 (fun _ => 0)) 0 xF0) (va_up (va_up (va_up (va_up (va_up (va_up (va_up (va_up (fun _ _ => none) 2 (fun _ => none)) 3 (fun _ => none)) 1 (rdO0 (m + 1))) 4 (fun _ => none)) 5 (fun _ => none)) 6 (fun _ => none)) 7 (fun _ => none)) 0 (xO0 m)) (va_up (va_up (va_up (va_up (va_up (va_up (va_up (va_up (fun _ _ _ => 0) 2 wkR) 3 (fun _ _ => 0)) 1 (fun _ _ => 0)) 4 (fun _ _ => 0)) 5 (fun _ _ => 0)) 6 (fun _ _ => 0)) 7 (fun _ _ => 0)) 0 (fun _ _ => 0)) h0 := wld_add (Λ := (iL7 m)) (n := 0) (κ := 0) (m := m) (F := (va_up (va_up (va_up (va_up (va_up (va_up (va_up (fun _ _ => 0) 2 tF0) 3 (fun _ => 0)) 1 rdF0) 4 (fun _ => 0)) 5 (fun _ => 0)) 6 (fun _ => 0)) 7 (fun _ => 0))) (O := (va_up (va_up (va_up (va_up (va_up (va_up (va_up (fun _ _ => none) 2 (fun _ => none)) 3 (fun _ => none)) 1 (rdO0 (m + 1))) 4 (fun _ => none)) 5 (fun _ => none)) 6 (fun _ => none)) 7 (fun _ => none))) (R := (va_up (va_up (va_up (va_up (va_up (va_up (va_up (fun _ _ _ => 0) 2 wkR) 3 (fun _ _ => 0)) 1 (fun _ _ => 0)) 4 (fun _ _ => 0)) 5 (fun _ _ => 0)) 6 (fun _ _ => 0)) 7 (fun _ _ => 0))) (h0 := h0) (iN8 m) (iM8 m)
  rw [e1, e2, e3, e4, e5, e6, e7, e8]
  rfl
theorem iK2 (m : Nat) : Lk (iL8 m) 2 2 (m + 2) := (Lk_old (Lk_old (Lk_old (Lk_old (Lk_old (Lk_old (Lk_old (Lk_new (Λ := ((fun _ => none, fun _ => (0, 0)) : wL)) (n := 2) (κ := 2) (m := (m + 2)) (iN1 m)) (iN2 m) (iM2 m)) (iN3 m) (iM3 m)) (iN4 m) (iM4 m)) (iN5 m) (iM5 m)) (iN6 m) (iM6 m)) (iN7 m) (iM7 m)) (iN8 m) (iM8 m))
theorem iK3 (m : Nat) : Lk (iL8 m) 3 3 (m + 5) := (Lk_old (Lk_old (Lk_old (Lk_old (Lk_old (Lk_old (Lk_new (Λ := (iL1 m)) (n := 3) (κ := 3) (m := (m + 5)) (iN2 m)) (iN3 m) (iM3 m)) (iN4 m) (iM4 m)) (iN5 m) (iM5 m)) (iN6 m) (iM6 m)) (iN7 m) (iM7 m)) (iN8 m) (iM8 m))
theorem iK1 (m : Nat) : Lk (iL8 m) 1 1 (m + 1) := (Lk_old (Lk_old (Lk_old (Lk_old (Lk_old (Lk_new (Λ := (iL2 m)) (n := 1) (κ := 1) (m := (m + 1)) (iN3 m)) (iN4 m) (iM4 m)) (iN5 m) (iM5 m)) (iN6 m) (iM6 m)) (iN7 m) (iM7 m)) (iN8 m) (iM8 m))
theorem iK4 (m : Nat) : Lk (iL8 m) 4 4 (m + 21) := (Lk_old (Lk_old (Lk_old (Lk_old (Lk_new (Λ := (iL3 m)) (n := 4) (κ := 4) (m := (m + 21)) (iN4 m)) (iN5 m) (iM5 m)) (iN6 m) (iM6 m)) (iN7 m) (iM7 m)) (iN8 m) (iM8 m))
theorem iK5 (m : Nat) : Lk (iL8 m) 5 5 (m + 28) := (Lk_old (Lk_old (Lk_old (Lk_new (Λ := (iL4 m)) (n := 5) (κ := 5) (m := (m + 28)) (iN5 m)) (iN6 m) (iM6 m)) (iN7 m) (iM7 m)) (iN8 m) (iM8 m))
theorem iK6 (m : Nat) : Lk (iL8 m) 6 6 (m + 38) := (Lk_old (Lk_old (Lk_new (Λ := (iL5 m)) (n := 6) (κ := 6) (m := (m + 38)) (iN6 m)) (iN7 m) (iM7 m)) (iN8 m) (iM8 m))
theorem iK7 (m : Nat) : Lk (iL8 m) 7 8 (m + 43) := (Lk_old (Lk_new (Λ := (iL6 m)) (n := 7) (κ := 8) (m := (m + 43)) (iN7 m)) (iN8 m) (iM8 m))
theorem iK0 (m : Nat) : Lk (iL8 m) 0 0 m := (Lk_new (Λ := (iL7 m)) (n := 0) (κ := 0) (m := m) (iN8 m))
theorem i_hH (m : Nat) : hH (iL8 m) (iO m) m (m + 1) (m + 2) (m + 21) (m + 28) (m + 38) (m + 43) := ⟨iK0 m, iK1 m, iK2 m, iK4 m, iK5 m, iK6 m, iK7 m, rfl, rfl, rfl, rfl, rfl, rfl⟩
theorem i_top (m y : Nat) (h : m + 44 ≤ y) : (iL8 m).1 y = none := by
  rw [iL8_at]
  repeat rw [if_neg (by omega)]
theorem i_fr (m k y : Nat) (h : 8 ≤ k) : (iL8 m).1 y ≠ some k := by
  rw [iL8_at]
  repeat (split; (· intro q; have := Option.some.inj q; omega))
  intro q; cases q
theorem xx0_V {m : Nat} : (updV (updV (updV (updV (updV (updV (updV (updV (updV (updV (fun j => defaultValue (tyX8 j)) 0 (.ref (m + 1))) 1 (.ref (m + 1 + 20))) 2 (.ref (m + 1 + 20 + 7))) 3 (.ref (m + 1 + 20 + 7 + 10))) 4 (.ref (m + 1 + 20 + 7 + 10 + 5))) 5 (.int (0))) 6 (.null)) 7 (.int (0))) 8 (.int (-1))) 9 (.int (-1))) = xxV m xF0 (xO0 m) := by
  funext k
  match k with
  | 0 => rfl
  | 1 => rfl
  | 2 => rfl
  | 3 => rfl
  | 4 => rfl
  | 5 => rfl
  | 6 => rfl
  | 7 => rfl
  | 8 => rfl
  | 9 => rfl
  | k + 10 =>
    have e1 : xxPos (k + 10) = none := rfl
    have e2 : xxOb (k + 10) = false := by simp [xxOb]
    simp [updV, xxV, xF0, e1, e2]
    rfl
set_option maxHeartbeats 8000000 in
theorem c8_init {G : wG} {adK adV : Nat → Nat} {zz : Option Nat} (hE : ∀ U, G.2.2.2 U → sE G.2.2.1 adK adV zz U) {m : Nat} {h0 : Nat → Option wE} : Sat G mX8_init [.ref m] (va_up h0 m (some (.inr (7, fun j => defaultValue (tyX8 j)))), m + 1) (Det none (wld (iL8 m) (iF m) (iO m) (iRw m) h0, m + 44)) := by
  refine Sat.of (by decide) [some (.ref m)] rfl rfl (fun X => ?_)
  refine ww_aload_n dX8_init_0 rfl rfl ?_
  refine ww_objInit dX8_init_1 oX8_1 rfl rfl ?_
  refine ww_aload_n dX8_init_4 rfl rfl ?_
  refine ww_new dX8_init_5 nX8_7 (by decide) (by decide) ?_
  refine ww_dup dX8_init_8 rfl ?_
  refine ww_callI (b := m + 1) (As := []) dX8_init_9 kX8_9 (c3_init hE (m := m + 1) (h0 := (va_up h0 m (some (.inr (7, (fun j => defaultValue (tyX8 j)))))))) rfl rfl rfl rfl rfl (by decide) (by decide) (fun v h2 q => ?_)
  obtain ⟨rfl, rfl⟩ := q
  rw [show (rdh (m + 1) rdF0 (rdO0 (m + 1)) (fun _ _ => 0) (bbh (m + 1 + 1 + 3) (fun _ => 0) (fun _ => none) (fun _ _ => 0) (tah (m + 1 + 1) tF0 (fun _ => none) wkR (va_up h0 m (some (.inr (7, (fun j => defaultValue (tyX8 j))))))))) = va_up (rdh (m + 1) rdF0 (rdO0 (m + 1)) (fun _ _ => 0) (bbh (m + 1 + 1 + 3) (fun _ => 0) (fun _ => none) (fun _ _ => 0) (tah (m + 1 + 1) tF0 (fun _ => none) wkR h0))) m (some (.inr (7, (fun j => defaultValue (tyX8 j))))) from by
    show (kb 1 (m + 1) rdF0 (rdO0 (m + 1)) (fun _ _ => 0) (kb 3 (m + 1 + 1 + 3) (fun _ => 0) (fun _ => none) (fun _ _ => 0) (kb 2 (m + 1 + 1) tF0 (fun _ => none) wkR (va_up h0 m (some (.inr (7, (fun j => defaultValue (tyX8 j))))))))) = _
    rw [kb_sw (κ := 2) (m := m + 1 + 1) (by rintro (q | q); omega; have e1 := kl_2; omega), kb_sw (κ := 3) (m := m + 1 + 1 + 3) (by rintro (q | q); omega; have e1 := kl_3; omega), kb_sw (κ := 1) (m := m + 1) (by rintro (q | q); omega; have e1 := kl_1; omega)]
    rfl]
  refine xxq_putF dX8_init_12 rfl fX8_10 rfl rfl rfl ?_
  refine ww_aload_n dX8_init_15 rfl rfl ?_
  refine ww_new dX8_init_16 nX8_16 (by decide) (by decide) ?_
  refine ww_dup dX8_init_19 rfl ?_
  refine ww_callI (b := m + 1 + 20) (As := []) dX8_init_20 kX8_18 (c2_init (m := m + 1 + 20) (h0 := (va_up (rdh (m + 1) rdF0 (rdO0 (m + 1)) (fun _ _ => 0) (bbh (m + 1 + 1 + 3) (fun _ => 0) (fun _ => none) (fun _ _ => 0) (tah (m + 1 + 1) tF0 (fun _ => none) wkR h0))) m (some (.inr (7, (updV (fun j => defaultValue (tyX8 j)) 0 (.ref (m + 1))))))))) rfl rfl rfl rfl rfl (by decide) (by decide) (fun v h2 q => ?_)
  obtain ⟨rfl, rfl⟩ := q
  rw [show (pph (m + 1 + 20) (fun _ => 0) (fun _ => none) (fun _ _ => 0) (va_up (rdh (m + 1) rdF0 (rdO0 (m + 1)) (fun _ _ => 0) (bbh (m + 1 + 1 + 3) (fun _ => 0) (fun _ => none) (fun _ _ => 0) (tah (m + 1 + 1) tF0 (fun _ => none) wkR h0))) m (some (.inr (7, (updV (fun j => defaultValue (tyX8 j)) 0 (.ref (m + 1)))))))) = va_up (pph (m + 1 + 20) (fun _ => 0) (fun _ => none) (fun _ _ => 0) (rdh (m + 1) rdF0 (rdO0 (m + 1)) (fun _ _ => 0) (bbh (m + 1 + 1 + 3) (fun _ => 0) (fun _ => none) (fun _ _ => 0) (tah (m + 1 + 1) tF0 (fun _ => none) wkR h0)))) m (some (.inr (7, (updV (fun j => defaultValue (tyX8 j)) 0 (.ref (m + 1)))))) from by
    show (kb 4 (m + 1 + 20) (fun _ => 0) (fun _ => none) (fun _ _ => 0) (va_up (rdh (m + 1) rdF0 (rdO0 (m + 1)) (fun _ _ => 0) (bbh (m + 1 + 1 + 3) (fun _ => 0) (fun _ => none) (fun _ _ => 0) (tah (m + 1 + 1) tF0 (fun _ => none) wkR h0))) m (some (.inr (7, (updV (fun j => defaultValue (tyX8 j)) 0 (.ref (m + 1)))))))) = _
    rw [kb_sw (κ := 4) (m := m + 1 + 20) (by rintro (q | q); omega; have e1 := kl_4; omega)]
    rfl]
  refine xxq_putF dX8_init_23 rfl fX8_19 rfl rfl rfl ?_
  refine ww_aload_n dX8_init_26 rfl rfl ?_
  refine ww_new dX8_init_27 nX8_23 (by decide) (by decide) ?_
  refine ww_dup dX8_init_30 rfl ?_
  refine ww_callI (b := m + 1 + 20 + 7) (As := []) dX8_init_31 kX8_25 (c6_init (m := m + 1 + 20 + 7) (h0 := (va_up (pph (m + 1 + 20) (fun _ => 0) (fun _ => none) (fun _ _ => 0) (rdh (m + 1) rdF0 (rdO0 (m + 1)) (fun _ _ => 0) (bbh (m + 1 + 1 + 3) (fun _ => 0) (fun _ => none) (fun _ _ => 0) (tah (m + 1 + 1) tF0 (fun _ => none) wkR h0)))) m (some (.inr (7, (updV (updV (fun j => defaultValue (tyX8 j)) 0 (.ref (m + 1))) 1 (.ref (m + 1 + 20))))))))) rfl rfl rfl rfl rfl (by decide) (by decide) (fun v h2 q => ?_)
  obtain ⟨rfl, rfl⟩ := q
  rw [show (tth (m + 1 + 20 + 7) (fun _ => 0) (fun _ => none) (fun _ _ => 0) (va_up (pph (m + 1 + 20) (fun _ => 0) (fun _ => none) (fun _ _ => 0) (rdh (m + 1) rdF0 (rdO0 (m + 1)) (fun _ _ => 0) (bbh (m + 1 + 1 + 3) (fun _ => 0) (fun _ => none) (fun _ _ => 0) (tah (m + 1 + 1) tF0 (fun _ => none) wkR h0)))) m (some (.inr (7, (updV (updV (fun j => defaultValue (tyX8 j)) 0 (.ref (m + 1))) 1 (.ref (m + 1 + 20)))))))) = va_up (tth (m + 1 + 20 + 7) (fun _ => 0) (fun _ => none) (fun _ _ => 0) (pph (m + 1 + 20) (fun _ => 0) (fun _ => none) (fun _ _ => 0) (rdh (m + 1) rdF0 (rdO0 (m + 1)) (fun _ _ => 0) (bbh (m + 1 + 1 + 3) (fun _ => 0) (fun _ => none) (fun _ _ => 0) (tah (m + 1 + 1) tF0 (fun _ => none) wkR h0))))) m (some (.inr (7, (updV (updV (fun j => defaultValue (tyX8 j)) 0 (.ref (m + 1))) 1 (.ref (m + 1 + 20)))))) from by
    show (kb 5 (m + 1 + 20 + 7) (fun _ => 0) (fun _ => none) (fun _ _ => 0) (va_up (pph (m + 1 + 20) (fun _ => 0) (fun _ => none) (fun _ _ => 0) (rdh (m + 1) rdF0 (rdO0 (m + 1)) (fun _ _ => 0) (bbh (m + 1 + 1 + 3) (fun _ => 0) (fun _ => none) (fun _ _ => 0) (tah (m + 1 + 1) tF0 (fun _ => none) wkR h0)))) m (some (.inr (7, (updV (updV (fun j => defaultValue (tyX8 j)) 0 (.ref (m + 1))) 1 (.ref (m + 1 + 20)))))))) = _
    rw [kb_sw (κ := 5) (m := m + 1 + 20 + 7) (by rintro (q | q); omega; have e1 := kl_5; omega)]
    rfl]
  refine xxq_putF dX8_init_34 rfl fX8_26 rfl rfl rfl ?_
  refine ww_aload_n dX8_init_37 rfl rfl ?_
  refine ww_new dX8_init_38 nX8_30 (by decide) (by decide) ?_
  refine ww_dup dX8_init_41 rfl ?_
  refine ww_callI (b := m + 1 + 20 + 7 + 10) (As := []) dX8_init_42 kX8_32 (c7_init (m := m + 1 + 20 + 7 + 10) (h0 := (va_up (tth (m + 1 + 20 + 7) (fun _ => 0) (fun _ => none) (fun _ _ => 0) (pph (m + 1 + 20) (fun _ => 0) (fun _ => none) (fun _ _ => 0) (rdh (m + 1) rdF0 (rdO0 (m + 1)) (fun _ _ => 0) (bbh (m + 1 + 1 + 3) (fun _ => 0) (fun _ => none) (fun _ _ => 0) (tah (m + 1 + 1) tF0 (fun _ => none) wkR h0))))) m (some (.inr (7, (updV (updV (updV (fun j => defaultValue (tyX8 j)) 0 (.ref (m + 1))) 1 (.ref (m + 1 + 20))) 2 (.ref (m + 1 + 20 + 7))))))))) rfl rfl rfl rfl rfl (by decide) (by decide) (fun v h2 q => ?_)
  obtain ⟨rfl, rfl⟩ := q
  rw [show (wah (m + 1 + 20 + 7 + 10) (fun _ => 0) (fun _ => none) (fun _ _ => 0) (va_up (tth (m + 1 + 20 + 7) (fun _ => 0) (fun _ => none) (fun _ _ => 0) (pph (m + 1 + 20) (fun _ => 0) (fun _ => none) (fun _ _ => 0) (rdh (m + 1) rdF0 (rdO0 (m + 1)) (fun _ _ => 0) (bbh (m + 1 + 1 + 3) (fun _ => 0) (fun _ => none) (fun _ _ => 0) (tah (m + 1 + 1) tF0 (fun _ => none) wkR h0))))) m (some (.inr (7, (updV (updV (updV (fun j => defaultValue (tyX8 j)) 0 (.ref (m + 1))) 1 (.ref (m + 1 + 20))) 2 (.ref (m + 1 + 20 + 7)))))))) = va_up (wah (m + 1 + 20 + 7 + 10) (fun _ => 0) (fun _ => none) (fun _ _ => 0) (tth (m + 1 + 20 + 7) (fun _ => 0) (fun _ => none) (fun _ _ => 0) (pph (m + 1 + 20) (fun _ => 0) (fun _ => none) (fun _ _ => 0) (rdh (m + 1) rdF0 (rdO0 (m + 1)) (fun _ _ => 0) (bbh (m + 1 + 1 + 3) (fun _ => 0) (fun _ => none) (fun _ _ => 0) (tah (m + 1 + 1) tF0 (fun _ => none) wkR h0)))))) m (some (.inr (7, (updV (updV (updV (fun j => defaultValue (tyX8 j)) 0 (.ref (m + 1))) 1 (.ref (m + 1 + 20))) 2 (.ref (m + 1 + 20 + 7)))))) from by
    show (kb 6 (m + 1 + 20 + 7 + 10) (fun _ => 0) (fun _ => none) (fun _ _ => 0) (va_up (tth (m + 1 + 20 + 7) (fun _ => 0) (fun _ => none) (fun _ _ => 0) (pph (m + 1 + 20) (fun _ => 0) (fun _ => none) (fun _ _ => 0) (rdh (m + 1) rdF0 (rdO0 (m + 1)) (fun _ _ => 0) (bbh (m + 1 + 1 + 3) (fun _ => 0) (fun _ => none) (fun _ _ => 0) (tah (m + 1 + 1) tF0 (fun _ => none) wkR h0))))) m (some (.inr (7, (updV (updV (updV (fun j => defaultValue (tyX8 j)) 0 (.ref (m + 1))) 1 (.ref (m + 1 + 20))) 2 (.ref (m + 1 + 20 + 7)))))))) = _
    rw [kb_sw (κ := 6) (m := m + 1 + 20 + 7 + 10) (by rintro (q | q); omega; have e1 := kl_6; omega)]
    rfl]
  refine xxq_putF dX8_init_45 rfl fX8_33 rfl rfl rfl ?_
  refine ww_aload_n dX8_init_48 rfl rfl ?_
  refine ww_bipush (v := 8) dX8_init_49 (by decide) ?_
  refine ww_anew (N' := 8) dX8_init_51 cl37 (fun U q => (hE U q).2.2.2.2) (by decide) (by decide) (by decide) (by decide) (by decide) ?_
  dsimp only
  rw [show va_up (va_up (wah (m + 1 + 20 + 7 + 10) (fun _ => 0) (fun _ => none) (fun _ _ => 0) (tth (m + 1 + 20 + 7) (fun _ => 0) (fun _ => none) (fun _ _ => 0) (pph (m + 1 + 20) (fun _ => 0) (fun _ => none) (fun _ _ => 0) (rdh (m + 1) rdF0 (rdO0 (m + 1)) (fun _ _ => 0) (bbh (m + 1 + 1 + 3) (fun _ => 0) (fun _ => none) (fun _ _ => 0) (tah (m + 1 + 1) tF0 (fun _ => none) wkR h0)))))) m (some (.inr (7, (updV (updV (updV (updV (fun j => defaultValue (tyX8 j)) 0 (.ref (m + 1))) 1 (.ref (m + 1 + 20))) 2 (.ref (m + 1 + 20 + 7))) 3 (.ref (m + 1 + 20 + 7 + 10))))))) (m + 1 + 20 + 7 + 10 + 5) (some (.inl (.object "TaskHouse$Run", 8, .inr (.inr (.inr (.inr (fun _ => none))))))) = va_up (va_up (wah (m + 1 + 20 + 7 + 10) (fun _ => 0) (fun _ => none) (fun _ _ => 0) (tth (m + 1 + 20 + 7) (fun _ => 0) (fun _ => none) (fun _ _ => 0) (pph (m + 1 + 20) (fun _ => 0) (fun _ => none) (fun _ _ => 0) (rdh (m + 1) rdF0 (rdO0 (m + 1)) (fun _ _ => 0) (bbh (m + 1 + 1 + 3) (fun _ => 0) (fun _ => none) (fun _ _ => 0) (tah (m + 1 + 1) tF0 (fun _ => none) wkR h0)))))) (m + 1 + 20 + 7 + 10 + 5) (some (.inl (.object "TaskHouse$Run", 8, .inr (.inr (.inr (.inr (fun _ => none)))))))) m (some (.inr (7, (updV (updV (updV (updV (fun j => defaultValue (tyX8 j)) 0 (.ref (m + 1))) 1 (.ref (m + 1 + 20))) 2 (.ref (m + 1 + 20 + 7))) 3 (.ref (m + 1 + 20 + 7 + 10)))))) from up_sw (by omega)]
  refine xxq_putF dX8_init_54 rfl fX8_39 rfl rfl rfl ?_
  refine ww_aload_n dX8_init_57 rfl rfl ?_
  refine ww_iconst (v := 0) dX8_init_58 (by decide) ?_
  refine xxq_put dX8_init_59 fX8_43 rfl rfl ?_
  refine ww_aload_n dX8_init_62 rfl rfl ?_
  refine ww_null dX8_init_63 ?_
  refine xxq_put dX8_init_64 fX8_47 rfl rfl ?_
  refine ww_aload_n dX8_init_67 rfl rfl ?_
  refine ww_iconst (v := 0) dX8_init_68 (by decide) ?_
  refine xxq_put dX8_init_69 fX8_51 rfl rfl ?_
  refine ww_aload_n dX8_init_72 rfl rfl ?_
  refine ww_iconst (v := -1) dX8_init_73 (by decide) ?_
  refine xxq_put dX8_init_74 fX8_54 rfl rfl ?_
  refine ww_aload_n dX8_init_77 rfl rfl ?_
  refine ww_iconst (v := -1) dX8_init_78 (by decide) ?_
  refine xxq_put dX8_init_79 fX8_57 rfl rfl ?_
  exact ww_vret dX8_init_82 rfl ⟨rfl, by rw [xx0_V, xx_up (R := fun _ _ => 0), ra_up (F := fun _ => 0) (R := fun _ _ => 0), ← i_wld]; rfl⟩ (by decide) (by decide)
