section M8
variable {G : wG} {m : Nat} {F : Nat → Int32} {tl : Int64} {R : Nat → Nat → Int32} {NL : Nat → Int64} {h0 : Nat → Option wE} {sz : Nat}

def hld1 (t : Nat) (R : Nat → Nat → Int32) : Nat → Nat → Int32 := fun k => if k = 26 then (fun j => if j < t then R 15 j else R 26 j) else if k = 27 then (fun j => if j < t then R 16 j else R 27 j) else if k = 28 then (fun j => if j < t then R 17 j else R 28 j) else if k = 29 then (fun j => if j < t then R 18 j else R 29 j) else R k
theorem hld1_0 : hld1  0 R = R := by
  funext k j
  simp only [hld1]
  by_cases h26 : k = 26
  · subst h26
    simp
  by_cases h27 : k = 27
  · subst h27
    simp
  by_cases h28 : k = 28
  · subst h28
    simp
  by_cases h29 : k = 29
  · subst h29
    simp
  simp [h26, h27, h28, h29]
theorem hld1_s (t : Nat) : (va_up (va_up (va_up (va_up (hld1  t R) 26 (upd ((hld1  t R) 26) t ((hld1  t R) 15 t))) 27 (upd ((va_up (hld1  t R) 26 (upd ((hld1  t R) 26) t ((hld1  t R) 15 t))) 27) t ((va_up (hld1  t R) 26 (upd ((hld1  t R) 26) t ((hld1  t R) 15 t))) 16 t))) 28 (upd ((va_up (va_up (hld1  t R) 26 (upd ((hld1  t R) 26) t ((hld1  t R) 15 t))) 27 (upd ((va_up (hld1  t R) 26 (upd ((hld1  t R) 26) t ((hld1  t R) 15 t))) 27) t ((va_up (hld1  t R) 26 (upd ((hld1  t R) 26) t ((hld1  t R) 15 t))) 16 t))) 28) t ((va_up (va_up (hld1  t R) 26 (upd ((hld1  t R) 26) t ((hld1  t R) 15 t))) 27 (upd ((va_up (hld1  t R) 26 (upd ((hld1  t R) 26) t ((hld1  t R) 15 t))) 27) t ((va_up (hld1  t R) 26 (upd ((hld1  t R) 26) t ((hld1  t R) 15 t))) 16 t))) 17 t))) 29 (upd ((va_up (va_up (va_up (hld1  t R) 26 (upd ((hld1  t R) 26) t ((hld1  t R) 15 t))) 27 (upd ((va_up (hld1  t R) 26 (upd ((hld1  t R) 26) t ((hld1  t R) 15 t))) 27) t ((va_up (hld1  t R) 26 (upd ((hld1  t R) 26) t ((hld1  t R) 15 t))) 16 t))) 28 (upd ((va_up (va_up (hld1  t R) 26 (upd ((hld1  t R) 26) t ((hld1  t R) 15 t))) 27 (upd ((va_up (hld1  t R) 26 (upd ((hld1  t R) 26) t ((hld1  t R) 15 t))) 27) t ((va_up (hld1  t R) 26 (upd ((hld1  t R) 26) t ((hld1  t R) 15 t))) 16 t))) 28) t ((va_up (va_up (hld1  t R) 26 (upd ((hld1  t R) 26) t ((hld1  t R) 15 t))) 27 (upd ((va_up (hld1  t R) 26 (upd ((hld1  t R) 26) t ((hld1  t R) 15 t))) 27) t ((va_up (hld1  t R) 26 (upd ((hld1  t R) 26) t ((hld1  t R) 15 t))) 16 t))) 17 t))) 29) t ((va_up (va_up (va_up (hld1  t R) 26 (upd ((hld1  t R) 26) t ((hld1  t R) 15 t))) 27 (upd ((va_up (hld1  t R) 26 (upd ((hld1  t R) 26) t ((hld1  t R) 15 t))) 27) t ((va_up (hld1  t R) 26 (upd ((hld1  t R) 26) t ((hld1  t R) 15 t))) 16 t))) 28 (upd ((va_up (va_up (hld1  t R) 26 (upd ((hld1  t R) 26) t ((hld1  t R) 15 t))) 27 (upd ((va_up (hld1  t R) 26 (upd ((hld1  t R) 26) t ((hld1  t R) 15 t))) 27) t ((va_up (hld1  t R) 26 (upd ((hld1  t R) 26) t ((hld1  t R) 15 t))) 16 t))) 28) t ((va_up (va_up (hld1  t R) 26 (upd ((hld1  t R) 26) t ((hld1  t R) 15 t))) 27 (upd ((va_up (hld1  t R) 26 (upd ((hld1  t R) 26) t ((hld1  t R) 15 t))) 27) t ((va_up (hld1  t R) 26 (upd ((hld1  t R) 26) t ((hld1  t R) 15 t))) 16 t))) 17 t))) 18 t))) = hld1  (t + 1) R := by
  funext k j
  by_cases h26 : k = 26
  · subst h26
    by_cases hj : j = t
    · subst hj
      simp [hld1, va_up, upd]
    · have e1 : (j < t + 1) ↔ (j < t) := by omega
      simp only [hld1, va_up, upd]
      simp [upd, hj, e1]
  by_cases h27 : k = 27
  · subst h27
    by_cases hj : j = t
    · subst hj
      simp [hld1, va_up, upd]
    · have e1 : (j < t + 1) ↔ (j < t) := by omega
      simp only [hld1, va_up, upd]
      simp [upd, hj, e1]
  by_cases h28 : k = 28
  · subst h28
    by_cases hj : j = t
    · subst hj
      simp [hld1, va_up, upd]
    · have e1 : (j < t + 1) ↔ (j < t) := by omega
      simp only [hld1, va_up, upd]
      simp [upd, hj, e1]
  by_cases h29 : k = 29
  · subst h29
    by_cases hj : j = t
    · subst hj
      simp [hld1, va_up, upd]
    · have e1 : (j < t + 1) ↔ (j < t) := by omega
      simp only [hld1, va_up, upd]
      simp [upd, hj, e1]
  simp [hld1, va_up, h26, h27, h28, h29]
def hld2 (t : Nat) (R : Nat → Nat → Int32) : Nat → Nat → Int32 := fun k => if k = 30 then (fun j => if j < t then R 20 j else R 30 j) else if k = 31 then (fun j => if j < t then R 21 j else R 31 j) else if k = 32 then (fun j => if j < t then R 22 j else R 32 j) else R k
theorem hld2_0 : hld2  0 R = R := by
  funext k j
  simp only [hld2]
  by_cases h30 : k = 30
  · subst h30
    simp
  by_cases h31 : k = 31
  · subst h31
    simp
  by_cases h32 : k = 32
  · subst h32
    simp
  simp [h30, h31, h32]
theorem hld2_s (t : Nat) : (va_up (va_up (va_up (hld2  t R) 30 (upd ((hld2  t R) 30) t ((hld2  t R) 20 t))) 31 (upd ((va_up (hld2  t R) 30 (upd ((hld2  t R) 30) t ((hld2  t R) 20 t))) 31) t ((va_up (hld2  t R) 30 (upd ((hld2  t R) 30) t ((hld2  t R) 20 t))) 21 t))) 32 (upd ((va_up (va_up (hld2  t R) 30 (upd ((hld2  t R) 30) t ((hld2  t R) 20 t))) 31 (upd ((va_up (hld2  t R) 30 (upd ((hld2  t R) 30) t ((hld2  t R) 20 t))) 31) t ((va_up (hld2  t R) 30 (upd ((hld2  t R) 30) t ((hld2  t R) 20 t))) 21 t))) 32) t ((va_up (va_up (hld2  t R) 30 (upd ((hld2  t R) 30) t ((hld2  t R) 20 t))) 31 (upd ((va_up (hld2  t R) 30 (upd ((hld2  t R) 30) t ((hld2  t R) 20 t))) 31) t ((va_up (hld2  t R) 30 (upd ((hld2  t R) 30) t ((hld2  t R) 20 t))) 21 t))) 22 t))) = hld2  (t + 1) R := by
  funext k j
  by_cases h30 : k = 30
  · subst h30
    by_cases hj : j = t
    · subst hj
      simp [hld2, va_up, upd]
    · have e1 : (j < t + 1) ↔ (j < t) := by omega
      simp only [hld2, va_up, upd]
      simp [upd, hj, e1]
  by_cases h31 : k = 31
  · subst h31
    by_cases hj : j = t
    · subst hj
      simp [hld2, va_up, upd]
    · have e1 : (j < t + 1) ↔ (j < t) := by omega
      simp only [hld2, va_up, upd]
      simp [upd, hj, e1]
  by_cases h32 : k = 32
  · subst h32
    by_cases hj : j = t
    · subst hj
      simp [hld2, va_up, upd]
    · have e1 : (j < t + 1) ↔ (j < t) := by omega
      simp only [hld2, va_up, upd]
      simp [upd, hj, e1]
  simp [hld2, va_up, h30, h31, h32]
def rn1 (r : Nat) (t : Nat) (R : Nat → Nat → Int32) : Nat → Nat → Int32 := fun k => if k = 42 then (fun j => if 200 * r ≤ j ∧ j < 200 * r + t then R 26 (0 + (j - 200 * r)) else R 42 j) else if k = 43 then (fun j => if 200 * r ≤ j ∧ j < 200 * r + t then R 27 (0 + (j - 200 * r)) else R 43 j) else if k = 44 then (fun j => if 200 * r ≤ j ∧ j < 200 * r + t then R 28 (0 + (j - 200 * r)) else R 44 j) else if k = 45 then (fun j => if 200 * r ≤ j ∧ j < 200 * r + t then R 29 (0 + (j - 200 * r)) else R 45 j) else R k
theorem rn1_0 (r : Nat) : rn1 r 0 R = R := by
  funext k j
  simp only [rn1]
  by_cases h42 : k = 42
  · subst h42
    simp
    intro h1 h2
    exact absurd h2 (by omega)
  by_cases h43 : k = 43
  · subst h43
    simp
    intro h1 h2
    exact absurd h2 (by omega)
  by_cases h44 : k = 44
  · subst h44
    simp
    intro h1 h2
    exact absurd h2 (by omega)
  by_cases h45 : k = 45
  · subst h45
    simp
    intro h1 h2
    exact absurd h2 (by omega)
  simp [h42, h43, h44, h45]
theorem rn1_s (r : Nat) (t : Nat) : (va_up (va_up (va_up (va_up (rn1 r t R) 42 (upd ((rn1 r t R) 42) (200 * r + t) ((rn1 r t R) 26 t))) 43 (upd ((va_up (rn1 r t R) 42 (upd ((rn1 r t R) 42) (200 * r + t) ((rn1 r t R) 26 t))) 43) (200 * r + t) ((va_up (rn1 r t R) 42 (upd ((rn1 r t R) 42) (200 * r + t) ((rn1 r t R) 26 t))) 27 t))) 44 (upd ((va_up (va_up (rn1 r t R) 42 (upd ((rn1 r t R) 42) (200 * r + t) ((rn1 r t R) 26 t))) 43 (upd ((va_up (rn1 r t R) 42 (upd ((rn1 r t R) 42) (200 * r + t) ((rn1 r t R) 26 t))) 43) (200 * r + t) ((va_up (rn1 r t R) 42 (upd ((rn1 r t R) 42) (200 * r + t) ((rn1 r t R) 26 t))) 27 t))) 44) (200 * r + t) ((va_up (va_up (rn1 r t R) 42 (upd ((rn1 r t R) 42) (200 * r + t) ((rn1 r t R) 26 t))) 43 (upd ((va_up (rn1 r t R) 42 (upd ((rn1 r t R) 42) (200 * r + t) ((rn1 r t R) 26 t))) 43) (200 * r + t) ((va_up (rn1 r t R) 42 (upd ((rn1 r t R) 42) (200 * r + t) ((rn1 r t R) 26 t))) 27 t))) 28 t))) 45 (upd ((va_up (va_up (va_up (rn1 r t R) 42 (upd ((rn1 r t R) 42) (200 * r + t) ((rn1 r t R) 26 t))) 43 (upd ((va_up (rn1 r t R) 42 (upd ((rn1 r t R) 42) (200 * r + t) ((rn1 r t R) 26 t))) 43) (200 * r + t) ((va_up (rn1 r t R) 42 (upd ((rn1 r t R) 42) (200 * r + t) ((rn1 r t R) 26 t))) 27 t))) 44 (upd ((va_up (va_up (rn1 r t R) 42 (upd ((rn1 r t R) 42) (200 * r + t) ((rn1 r t R) 26 t))) 43 (upd ((va_up (rn1 r t R) 42 (upd ((rn1 r t R) 42) (200 * r + t) ((rn1 r t R) 26 t))) 43) (200 * r + t) ((va_up (rn1 r t R) 42 (upd ((rn1 r t R) 42) (200 * r + t) ((rn1 r t R) 26 t))) 27 t))) 44) (200 * r + t) ((va_up (va_up (rn1 r t R) 42 (upd ((rn1 r t R) 42) (200 * r + t) ((rn1 r t R) 26 t))) 43 (upd ((va_up (rn1 r t R) 42 (upd ((rn1 r t R) 42) (200 * r + t) ((rn1 r t R) 26 t))) 43) (200 * r + t) ((va_up (rn1 r t R) 42 (upd ((rn1 r t R) 42) (200 * r + t) ((rn1 r t R) 26 t))) 27 t))) 28 t))) 45) (200 * r + t) ((va_up (va_up (va_up (rn1 r t R) 42 (upd ((rn1 r t R) 42) (200 * r + t) ((rn1 r t R) 26 t))) 43 (upd ((va_up (rn1 r t R) 42 (upd ((rn1 r t R) 42) (200 * r + t) ((rn1 r t R) 26 t))) 43) (200 * r + t) ((va_up (rn1 r t R) 42 (upd ((rn1 r t R) 42) (200 * r + t) ((rn1 r t R) 26 t))) 27 t))) 44 (upd ((va_up (va_up (rn1 r t R) 42 (upd ((rn1 r t R) 42) (200 * r + t) ((rn1 r t R) 26 t))) 43 (upd ((va_up (rn1 r t R) 42 (upd ((rn1 r t R) 42) (200 * r + t) ((rn1 r t R) 26 t))) 43) (200 * r + t) ((va_up (rn1 r t R) 42 (upd ((rn1 r t R) 42) (200 * r + t) ((rn1 r t R) 26 t))) 27 t))) 44) (200 * r + t) ((va_up (va_up (rn1 r t R) 42 (upd ((rn1 r t R) 42) (200 * r + t) ((rn1 r t R) 26 t))) 43 (upd ((va_up (rn1 r t R) 42 (upd ((rn1 r t R) 42) (200 * r + t) ((rn1 r t R) 26 t))) 43) (200 * r + t) ((va_up (rn1 r t R) 42 (upd ((rn1 r t R) 42) (200 * r + t) ((rn1 r t R) 26 t))) 27 t))) 28 t))) 29 t))) = rn1 r (t + 1) R := by
  funext k j
  by_cases h42 : k = 42
  · subst h42
    by_cases hj : j = 200 * r + t
    · subst hj
      simp [rn1, va_up, upd]
    · have e1 : (200 * r ≤ j ∧ j < 200 * r + (t + 1)) ↔ (200 * r ≤ j ∧ j < 200 * r + t) := by omega
      simp only [rn1, va_up, upd]
      simp [upd, hj, e1]
  by_cases h43 : k = 43
  · subst h43
    by_cases hj : j = 200 * r + t
    · subst hj
      simp [rn1, va_up, upd]
    · have e1 : (200 * r ≤ j ∧ j < 200 * r + (t + 1)) ↔ (200 * r ≤ j ∧ j < 200 * r + t) := by omega
      simp only [rn1, va_up, upd]
      simp [upd, hj, e1]
  by_cases h44 : k = 44
  · subst h44
    by_cases hj : j = 200 * r + t
    · subst hj
      simp [rn1, va_up, upd]
    · have e1 : (200 * r ≤ j ∧ j < 200 * r + (t + 1)) ↔ (200 * r ≤ j ∧ j < 200 * r + t) := by omega
      simp only [rn1, va_up, upd]
      simp [upd, hj, e1]
  by_cases h45 : k = 45
  · subst h45
    by_cases hj : j = 200 * r + t
    · subst hj
      simp [rn1, va_up, upd]
    · have e1 : (200 * r ≤ j ∧ j < 200 * r + (t + 1)) ↔ (200 * r ≤ j ∧ j < 200 * r + t) := by omega
      simp only [rn1, va_up, upd]
      simp [upd, hj, e1]
  simp [rn1, va_up, h42, h43, h44, h45]
def rn2 (r : Nat) (t : Nat) (R : Nat → Nat → Int32) : Nat → Nat → Int32 := fun k => if k = 46 then (fun j => if 40 * r ≤ j ∧ j < 40 * r + t then R 30 (0 + (j - 40 * r)) else R 46 j) else if k = 47 then (fun j => if 40 * r ≤ j ∧ j < 40 * r + t then R 31 (0 + (j - 40 * r)) else R 47 j) else if k = 48 then (fun j => if 40 * r ≤ j ∧ j < 40 * r + t then R 32 (0 + (j - 40 * r)) else R 48 j) else if k = 50 then (fun j => if 40 * r ≤ j ∧ j < 40 * r + t then 0 else R 50 j) else R k
theorem rn2_0 (r : Nat) : rn2 r 0 R = R := by
  funext k j
  simp only [rn2]
  by_cases h46 : k = 46
  · subst h46
    simp
    intro h1 h2
    exact absurd h2 (by omega)
  by_cases h47 : k = 47
  · subst h47
    simp
    intro h1 h2
    exact absurd h2 (by omega)
  by_cases h48 : k = 48
  · subst h48
    simp
    intro h1 h2
    exact absurd h2 (by omega)
  by_cases h50 : k = 50
  · subst h50
    simp
    intro h1 h2
    exact absurd h2 (by omega)
  simp [h46, h47, h48, h50]
theorem rn2_s (r : Nat) (t : Nat) : (va_up (va_up (va_up (va_up (rn2 r t R) 46 (upd ((rn2 r t R) 46) (40 * r + t) ((rn2 r t R) 30 t))) 47 (upd ((va_up (rn2 r t R) 46 (upd ((rn2 r t R) 46) (40 * r + t) ((rn2 r t R) 30 t))) 47) (40 * r + t) ((va_up (rn2 r t R) 46 (upd ((rn2 r t R) 46) (40 * r + t) ((rn2 r t R) 30 t))) 31 t))) 48 (upd ((va_up (va_up (rn2 r t R) 46 (upd ((rn2 r t R) 46) (40 * r + t) ((rn2 r t R) 30 t))) 47 (upd ((va_up (rn2 r t R) 46 (upd ((rn2 r t R) 46) (40 * r + t) ((rn2 r t R) 30 t))) 47) (40 * r + t) ((va_up (rn2 r t R) 46 (upd ((rn2 r t R) 46) (40 * r + t) ((rn2 r t R) 30 t))) 31 t))) 48) (40 * r + t) ((va_up (va_up (rn2 r t R) 46 (upd ((rn2 r t R) 46) (40 * r + t) ((rn2 r t R) 30 t))) 47 (upd ((va_up (rn2 r t R) 46 (upd ((rn2 r t R) 46) (40 * r + t) ((rn2 r t R) 30 t))) 47) (40 * r + t) ((va_up (rn2 r t R) 46 (upd ((rn2 r t R) 46) (40 * r + t) ((rn2 r t R) 30 t))) 31 t))) 32 t))) 50 (upd ((va_up (va_up (va_up (rn2 r t R) 46 (upd ((rn2 r t R) 46) (40 * r + t) ((rn2 r t R) 30 t))) 47 (upd ((va_up (rn2 r t R) 46 (upd ((rn2 r t R) 46) (40 * r + t) ((rn2 r t R) 30 t))) 47) (40 * r + t) ((va_up (rn2 r t R) 46 (upd ((rn2 r t R) 46) (40 * r + t) ((rn2 r t R) 30 t))) 31 t))) 48 (upd ((va_up (va_up (rn2 r t R) 46 (upd ((rn2 r t R) 46) (40 * r + t) ((rn2 r t R) 30 t))) 47 (upd ((va_up (rn2 r t R) 46 (upd ((rn2 r t R) 46) (40 * r + t) ((rn2 r t R) 30 t))) 47) (40 * r + t) ((va_up (rn2 r t R) 46 (upd ((rn2 r t R) 46) (40 * r + t) ((rn2 r t R) 30 t))) 31 t))) 48) (40 * r + t) ((va_up (va_up (rn2 r t R) 46 (upd ((rn2 r t R) 46) (40 * r + t) ((rn2 r t R) 30 t))) 47 (upd ((va_up (rn2 r t R) 46 (upd ((rn2 r t R) 46) (40 * r + t) ((rn2 r t R) 30 t))) 47) (40 * r + t) ((va_up (rn2 r t R) 46 (upd ((rn2 r t R) 46) (40 * r + t) ((rn2 r t R) 30 t))) 31 t))) 32 t))) 50) (40 * r + t) 0)) = rn2 r (t + 1) R := by
  funext k j
  by_cases h46 : k = 46
  · subst h46
    by_cases hj : j = 40 * r + t
    · subst hj
      simp [rn2, va_up, upd]
    · have e1 : (40 * r ≤ j ∧ j < 40 * r + (t + 1)) ↔ (40 * r ≤ j ∧ j < 40 * r + t) := by omega
      simp only [rn2, va_up, upd]
      simp [upd, hj, e1]
  by_cases h47 : k = 47
  · subst h47
    by_cases hj : j = 40 * r + t
    · subst hj
      simp [rn2, va_up, upd]
    · have e1 : (40 * r ≤ j ∧ j < 40 * r + (t + 1)) ↔ (40 * r ≤ j ∧ j < 40 * r + t) := by omega
      simp only [rn2, va_up, upd]
      simp [upd, hj, e1]
  by_cases h48 : k = 48
  · subst h48
    by_cases hj : j = 40 * r + t
    · subst hj
      simp [rn2, va_up, upd]
    · have e1 : (40 * r ≤ j ∧ j < 40 * r + (t + 1)) ↔ (40 * r ≤ j ∧ j < 40 * r + t) := by omega
      simp only [rn2, va_up, upd]
      simp [upd, hj, e1]
  by_cases h50 : k = 50
  · subst h50
    by_cases hj : j = 40 * r + t
    · subst hj
      simp [rn2, va_up, upd]
    · have e1 : (40 * r ≤ j ∧ j < 40 * r + (t + 1)) ↔ (40 * r ≤ j ∧ j < 40 * r + t) := by omega
      simp only [rn2, va_up, upd]
      simp [upd, hj, e1]
  simp [rn2, va_up, h46, h47, h48, h50]
def rn3 (r : Nat) (t : Nat) (R : Nat → Nat → Int32) : Nat → Nat → Int32 := fun k => if k = 49 then (fun j => if 4 * r ≤ j ∧ j < 4 * r + t then 0 else R 49 j) else R k
theorem rn3_0 (r : Nat) : rn3 r 0 R = R := by
  funext k j
  simp only [rn3]
  by_cases h49 : k = 49
  · subst h49
    simp
    intro h1 h2
    exact absurd h2 (by omega)
  simp [h49]
theorem rn3_s (r : Nat) (t : Nat) : (va_up (rn3 r t R) 49 (upd ((rn3 r t R) 49) (4 * r + t) 0)) = rn3 r (t + 1) R := by
  funext k j
  by_cases h49 : k = 49
  · subst h49
    by_cases hj : j = 4 * r + t
    · subst hj
      simp [rn3, va_up, upd]
    · have e1 : (4 * r ≤ j ∧ j < 4 * r + (t + 1)) ↔ (4 * r ≤ j ∧ j < 4 * r + t) := by omega
      simp only [rn3, va_up, upd]
      simp [upd, hj, e1]
  simp [rn3, va_up, h49]
def dn1 (r : Nat) (t : Nat) (R : Nat → Nat → Int32) : Nat → Nat → Int32 := fun k => if k = 52 then (fun j => if j < t then R 49 (4 * r + (j - 0)) else R 52 j) else R k
theorem dn1_0 (r : Nat) : dn1 r 0 R = R := by
  funext k j
  simp only [dn1]
  by_cases h52 : k = 52
  · subst h52
    simp
  simp [h52]
theorem dn1_s (r : Nat) (t : Nat) : (va_up (dn1 r t R) 52 (upd ((dn1 r t R) 52) t ((dn1 r t R) 49 (4 * r + t)))) = dn1 r (t + 1) R := by
  funext k j
  by_cases h52 : k = 52
  · subst h52
    by_cases hj : j = t
    · subst hj
      simp [dn1, va_up, upd]
    · have e1 : (j < t + 1) ↔ (j < t) := by omega
      simp only [dn1, va_up, upd]
      simp [upd, hj, e1]
  simp [dn1, va_up, h52]
def dn2 (r : Nat) (t : Nat) (R : Nat → Nat → Int32) : Nat → Nat → Int32 := fun k => if k = 53 then (fun j => if j < t then R 50 (40 * r + (j - 0)) else R 53 j) else R k
theorem dn2_0 (r : Nat) : dn2 r 0 R = R := by
  funext k j
  simp only [dn2]
  by_cases h53 : k = 53
  · subst h53
    simp
  simp [h53]
theorem dn2_s (r : Nat) (t : Nat) : (va_up (dn2 r t R) 53 (upd ((dn2 r t R) 53) t ((dn2 r t R) 50 (40 * r + t)))) = dn2 r (t + 1) R := by
  funext k j
  by_cases h53 : k = 53
  · subst h53
    by_cases hj : j = t
    · subst hj
      simp [dn2, va_up, upd]
    · have e1 : (j < t + 1) ↔ (j < t) := by omega
      simp only [dn2, va_up, upd]
      simp [upd, hj, e1]
  simp [dn2, va_up, h53]
def dn3 (r : Nat) (t : Nat) (R : Nat → Nat → Int32) : Nat → Nat → Int32 := fun k => if k = 49 then (fun j => if 4 * r ≤ j ∧ j < 4 * r + t then R 52 (0 + (j - 4 * r)) else R 49 j) else R k
theorem dn3_0 (r : Nat) : dn3 r 0 R = R := by
  funext k j
  simp only [dn3]
  by_cases h49 : k = 49
  · subst h49
    simp
    intro h1 h2
    exact absurd h2 (by omega)
  simp [h49]
theorem dn3_s (r : Nat) (t : Nat) : (va_up (dn3 r t R) 49 (upd ((dn3 r t R) 49) (4 * r + t) ((dn3 r t R) 52 t))) = dn3 r (t + 1) R := by
  funext k j
  by_cases h49 : k = 49
  · subst h49
    by_cases hj : j = 4 * r + t
    · subst hj
      simp [dn3, va_up, upd]
    · have e1 : (4 * r ≤ j ∧ j < 4 * r + (t + 1)) ↔ (4 * r ≤ j ∧ j < 4 * r + t) := by omega
      simp only [dn3, va_up, upd]
      simp [upd, hj, e1]
  simp [dn3, va_up, h49]
def dn4 (r : Nat) (t : Nat) (R : Nat → Nat → Int32) : Nat → Nat → Int32 := fun k => if k = 50 then (fun j => if 40 * r ≤ j ∧ j < 40 * r + t then R 53 (0 + (j - 40 * r)) else R 50 j) else R k
theorem dn4_0 (r : Nat) : dn4 r 0 R = R := by
  funext k j
  simp only [dn4]
  by_cases h50 : k = 50
  · subst h50
    simp
    intro h1 h2
    exact absurd h2 (by omega)
  simp [h50]
theorem dn4_s (r : Nat) (t : Nat) : (va_up (dn4 r t R) 50 (upd ((dn4 r t R) 50) (40 * r + t) ((dn4 r t R) 53 t))) = dn4 r (t + 1) R := by
  funext k j
  by_cases h50 : k = 50
  · subst h50
    by_cases hj : j = 40 * r + t
    · subst hj
      simp [dn4, va_up, upd]
    · have e1 : (40 * r ≤ j ∧ j < 40 * r + (t + 1)) ↔ (40 * r ≤ j ∧ j < 40 * r + t) := by omega
      simp only [dn4, va_up, upd]
      simp [upd, hj, e1]
  simp [dn4, va_up, h50]
set_option maxHeartbeats 4000000 in
theorem L9_holds1  {X : wX} {Z : State → Prop} (hk : ∀ x0 : Int32, WW G mX9_holds cX9_holds X Z 87 [some (.ref m), some (.int x0)] [] (mh m F tl (hld1 200 R) NL h0, sz) 0 0) : ∀ (n t : Nat) (x0 : Int32), 200 - t < n → t ≤ 200 → x0 = nI t → WW G mX9_holds cX9_holds X Z 26 [some (.ref m), some (.int x0)] [] (mh m F tl (hld1 t R) NL h0, sz) 0 0 := by
  intro n
  induction n with
  | zero => intro t x0 hn; exact absurd hn (by omega)
  | succ n ih =>
    intro t x0 hn ht i0
    refine ww_iload_n dX9_holds_26 rfl rfl ?_
    refine ww_sipush (v := 200) dX9_holds_27 (by decide) ?_
    refine ww_icmp_ge (tgt := 87) dX9_holds_30 (by decide) (fun c30 => ?_) (fun c30 => ?_)
    · have e1 := (w_le (show (200 : Int32) = nI 200 from rfl) i0 (by decide) (by omega)).mp c30
      have e2 : t = 200 := by omega
      subst e2
      exact hk _
    · have e1 : t < 200 := by rcases Nat.lt_or_ge t 200 with q | q; exact q; exact absurd ((w_le (show (200 : Int32) = nI 200 from rfl) i0 (by decide) (by omega)).mpr q) c30
      refine ww_aload_n dX9_holds_33 rfl rfl ?_
      refine mm_getr dX9_holds_34 fX9_49 rfl ?_
      refine ww_iload_n dX9_holds_37 rfl rfl ?_
      refine ww_aload_n dX9_holds_38 rfl rfl ?_
      refine mm_getr dX9_holds_39 fX9_20 rfl ?_
      refine ww_iload_n dX9_holds_42 rfl rfl ?_
      refine mm_iald dX9_holds_43 rfl i0 (by omega) rfl rfl ?_
      refine mm_iast dX9_holds_44 rfl i0 (by omega) rfl rfl ?_
      refine ww_aload_n dX9_holds_45 rfl rfl ?_
      refine mm_getr dX9_holds_46 fX9_52 rfl ?_
      refine ww_iload_n dX9_holds_49 rfl rfl ?_
      refine ww_aload_n dX9_holds_50 rfl rfl ?_
      refine mm_getr dX9_holds_51 fX9_24 rfl ?_
      refine ww_iload_n dX9_holds_54 rfl rfl ?_
      refine mm_iald dX9_holds_55 rfl i0 (by omega) rfl rfl ?_
      refine mm_iast dX9_holds_56 rfl i0 (by omega) rfl rfl ?_
      refine ww_aload_n dX9_holds_57 rfl rfl ?_
      refine mm_getr dX9_holds_58 fX9_55 rfl ?_
      refine ww_iload_n dX9_holds_61 rfl rfl ?_
      refine ww_aload_n dX9_holds_62 rfl rfl ?_
      refine mm_getr dX9_holds_63 fX9_27 rfl ?_
      refine ww_iload_n dX9_holds_66 rfl rfl ?_
      refine mm_iald dX9_holds_67 rfl i0 (by omega) rfl rfl ?_
      refine mm_iast dX9_holds_68 rfl i0 (by omega) rfl rfl ?_
      refine ww_aload_n dX9_holds_69 rfl rfl ?_
      refine mm_getr dX9_holds_70 fX9_58 rfl ?_
      refine ww_iload_n dX9_holds_73 rfl rfl ?_
      refine ww_aload_n dX9_holds_74 rfl rfl ?_
      refine mm_getr dX9_holds_75 fX9_30 rfl ?_
      refine ww_iload_n dX9_holds_78 rfl rfl ?_
      refine mm_iald dX9_holds_79 rfl i0 (by omega) rfl rfl ?_
      refine mm_iast dX9_holds_80 rfl i0 (by omega) rfl rfl ?_
      refine ww_iinc dX9_holds_81 rfl rfl rfl rfl ?_
      refine ww_goto (tgt := 26) dX9_holds_84 (by decide) ?_
      rw [hld1_s]
      exact ih (t + 1) _ (by omega) (by omega) (w_inc i0)
theorem L9_holds1z  {X : wX} {Z : State → Prop} (hk : ∀ x0 : Int32, WW G mX9_holds cX9_holds X Z 87 [some (.ref m), some (.int x0)] [] (mh m F tl (hld1 200 R) NL h0, sz) 0 0) : WW G mX9_holds cX9_holds X Z 26 [some (.ref m), some (.int 0)] [] (mh m F tl R NL h0, sz) 0 0 := by
  have e := L9_holds1  hk 201 0 0 (by omega) (by omega) rfl
  rw [hld1_0] at e
  exact e
set_option maxHeartbeats 4000000 in
theorem L9_holds2  {X : wX} {Z : State → Prop} (hk : ∀ x0 : Int32, WW G mX9_holds cX9_holds X Z 137 [some (.ref m), some (.int x0)] [] (mh m F tl (hld2 40 R) NL h0, sz) 0 0) : ∀ (n t : Nat) (x0 : Int32), 40 - t < n → t ≤ 40 → x0 = nI t → WW G mX9_holds cX9_holds X Z 89 [some (.ref m), some (.int x0)] [] (mh m F tl (hld2 t R) NL h0, sz) 0 0 := by
  intro n
  induction n with
  | zero => intro t x0 hn; exact absurd hn (by omega)
  | succ n ih =>
    intro t x0 hn ht i0
    refine ww_iload_n dX9_holds_89 rfl rfl ?_
    refine ww_bipush (v := 40) dX9_holds_90 (by decide) ?_
    refine ww_icmp_ge (tgt := 137) dX9_holds_92 (by decide) (fun c92 => ?_) (fun c92 => ?_)
    · have e1 := (w_le (show (40 : Int32) = nI 40 from rfl) i0 (by decide) (by omega)).mp c92
      have e2 : t = 40 := by omega
      subst e2
      exact hk _
    · have e1 : t < 40 := by rcases Nat.lt_or_ge t 40 with q | q; exact q; exact absurd ((w_le (show (40 : Int32) = nI 40 from rfl) i0 (by decide) (by omega)).mpr q) c92
      refine ww_aload_n dX9_holds_95 rfl rfl ?_
      refine mm_getr dX9_holds_96 fX9_61 rfl ?_
      refine ww_iload_n dX9_holds_99 rfl rfl ?_
      refine ww_aload_n dX9_holds_100 rfl rfl ?_
      refine mm_getr dX9_holds_101 fX9_37 rfl ?_
      refine ww_iload_n dX9_holds_104 rfl rfl ?_
      refine mm_iald dX9_holds_105 rfl i0 (by omega) rfl rfl ?_
      refine mm_iast dX9_holds_106 rfl i0 (by omega) rfl rfl ?_
      refine ww_aload_n dX9_holds_107 rfl rfl ?_
      refine mm_getr dX9_holds_108 fX9_64 rfl ?_
      refine ww_iload_n dX9_holds_111 rfl rfl ?_
      refine ww_aload_n dX9_holds_112 rfl rfl ?_
      refine mm_getr dX9_holds_113 fX9_40 rfl ?_
      refine ww_iload_n dX9_holds_116 rfl rfl ?_
      refine mm_iald dX9_holds_117 rfl i0 (by omega) rfl rfl ?_
      refine mm_iast dX9_holds_118 rfl i0 (by omega) rfl rfl ?_
      refine ww_aload_n dX9_holds_119 rfl rfl ?_
      refine mm_getr dX9_holds_120 fX9_67 rfl ?_
      refine ww_iload_n dX9_holds_123 rfl rfl ?_
      refine ww_aload_n dX9_holds_124 rfl rfl ?_
      refine mm_getr dX9_holds_125 fX9_43 rfl ?_
      refine ww_iload_n dX9_holds_128 rfl rfl ?_
      refine mm_iald dX9_holds_129 rfl i0 (by omega) rfl rfl ?_
      refine mm_iast dX9_holds_130 rfl i0 (by omega) rfl rfl ?_
      refine ww_iinc dX9_holds_131 rfl rfl rfl rfl ?_
      refine ww_goto (tgt := 89) dX9_holds_134 (by decide) ?_
      rw [hld2_s]
      exact ih (t + 1) _ (by omega) (by omega) (w_inc i0)
theorem L9_holds2z  {X : wX} {Z : State → Prop} (hk : ∀ x0 : Int32, WW G mX9_holds cX9_holds X Z 137 [some (.ref m), some (.int x0)] [] (mh m F tl (hld2 40 R) NL h0, sz) 0 0) : WW G mX9_holds cX9_holds X Z 89 [some (.ref m), some (.int 0)] [] (mh m F tl R NL h0, sz) 0 0 := by
  have e := L9_holds2  hk 41 0 0 (by omega) (by omega) rfl
  rw [hld2_0] at e
  exact e
set_option maxHeartbeats 4000000 in
theorem c9_holds  : Sat G mX9_holds [.ref m] (mh m F tl R NL h0, sz) (Det none (mh m (upd (upd (upd F 23 (F 11)) 24 (F 12)) 25 (F 14)) tl (hld2 40 (hld1 200 R)) NL h0, sz)) := by
  refine Sat.of (by decide) [some (.ref m), none] rfl rfl (fun X => ?_)
  refine ww_aload_n dX9_holds_0 rfl rfl ?_
  refine ww_aload_n dX9_holds_1 rfl rfl ?_
  refine mm_geti dX9_holds_2 fX9_277 rfl rfl ?_
  refine mm_puti dX9_holds_5 fX9_46 rfl rfl ?_
  refine ww_aload_n dX9_holds_8 rfl rfl ?_
  refine ww_aload_n dX9_holds_9 rfl rfl ?_
  refine mm_geti dX9_holds_10 fX9_254 rfl rfl ?_
  refine mm_puti dX9_holds_13 fX9_302 rfl rfl ?_
  refine ww_aload_n dX9_holds_16 rfl rfl ?_
  refine ww_aload_n dX9_holds_17 rfl rfl ?_
  refine mm_geti dX9_holds_18 fX9_244 rfl rfl ?_
  refine mm_puti dX9_holds_21 fX9_305 rfl rfl ?_
  refine ww_iconst (v := 0) dX9_holds_24 (by decide) ?_
  refine ww_istore_n dX9_holds_25 rfl rfl rfl ?_
  refine L9_holds1z (fun x0 => ?_)
  refine ww_iconst (v := 0) dX9_holds_87 (by decide) ?_
  refine ww_istore_n dX9_holds_88 rfl rfl rfl ?_
  refine L9_holds2z (fun x0 => ?_)
  exact ww_vret dX9_holds_137 rfl ⟨rfl, rfl⟩ (Nat.zero_le _) (Nat.zero_le _)
set_option maxHeartbeats 4000000 in
theorem L9_run1 {xr : Int32} {r : Nat} (hr : xr = nI r) (hr8 : r < 8) {X : wX} {Z : State → Prop} (hk : ∀ x0 : Int32, WW G mX9_run cX9_run X Z 127 [some (.ref m), some (.int xr), some (.int x0)] [] (mh m F tl (rn1 r 200 R) NL h0, sz) 0 0) : ∀ (n t : Nat) (x0 : Int32), 200 - t < n → t ≤ 200 → x0 = nI t → WW G mX9_run cX9_run X Z 42 [some (.ref m), some (.int xr), some (.int x0)] [] (mh m F tl (rn1 r t R) NL h0, sz) 0 0 := by
  intro n
  induction n with
  | zero => intro t x0 hn; exact absurd hn (by omega)
  | succ n ih =>
    intro t x0 hn ht i0
    refine ww_iload_n dX9_run_42 rfl rfl ?_
    refine ww_sipush (v := 200) dX9_run_43 (by decide) ?_
    refine ww_icmp_ge (tgt := 127) dX9_run_46 (by decide) (fun c46 => ?_) (fun c46 => ?_)
    · have e1 := (w_le (show (200 : Int32) = nI 200 from rfl) i0 (by decide) (by omega)).mp c46
      have e2 : t = 200 := by omega
      subst e2
      exact hk _
    · have e1 : t < 200 := by rcases Nat.lt_or_ge t 200 with q | q; exact q; exact absurd ((w_le (show (200 : Int32) = nI 200 from rfl) i0 (by decide) (by omega)).mpr q) c46
      refine ww_aload_n dX9_run_49 rfl rfl ?_
      refine mm_getr dX9_run_50 fX9_92 rfl ?_
      refine ww_sipush (v := 200) dX9_run_53 (by decide) ?_
      refine ww_iload_n dX9_run_56 rfl rfl ?_
      refine ww_imul dX9_run_57 ?_
      refine ww_iload_n dX9_run_58 rfl rfl ?_
      refine ww_iadd dX9_run_59 ?_
      refine ww_aload_n dX9_run_60 rfl rfl ?_
      refine mm_getr dX9_run_61 fX9_49 rfl ?_
      refine ww_iload_n dX9_run_64 rfl rfl ?_
      refine mm_iald dX9_run_65 rfl i0 (by omega) rfl rfl ?_
      refine mm_iast dX9_run_66 rfl (show _ = nI (200 * r + t) by rw [hr, i0]; exact w_200 r t) (by omega) rfl rfl ?_
      refine ww_aload_n dX9_run_67 rfl rfl ?_
      refine mm_getr dX9_run_68 fX9_95 rfl ?_
      refine ww_sipush (v := 200) dX9_run_71 (by decide) ?_
      refine ww_iload_n dX9_run_74 rfl rfl ?_
      refine ww_imul dX9_run_75 ?_
      refine ww_iload_n dX9_run_76 rfl rfl ?_
      refine ww_iadd dX9_run_77 ?_
      refine ww_aload_n dX9_run_78 rfl rfl ?_
      refine mm_getr dX9_run_79 fX9_52 rfl ?_
      refine ww_iload_n dX9_run_82 rfl rfl ?_
      refine mm_iald dX9_run_83 rfl i0 (by omega) rfl rfl ?_
      refine mm_iast dX9_run_84 rfl (show _ = nI (200 * r + t) by rw [hr, i0]; exact w_200 r t) (by omega) rfl rfl ?_
      refine ww_aload_n dX9_run_85 rfl rfl ?_
      refine mm_getr dX9_run_86 fX9_98 rfl ?_
      refine ww_sipush (v := 200) dX9_run_89 (by decide) ?_
      refine ww_iload_n dX9_run_92 rfl rfl ?_
      refine ww_imul dX9_run_93 ?_
      refine ww_iload_n dX9_run_94 rfl rfl ?_
      refine ww_iadd dX9_run_95 ?_
      refine ww_aload_n dX9_run_96 rfl rfl ?_
      refine mm_getr dX9_run_97 fX9_55 rfl ?_
      refine ww_iload_n dX9_run_100 rfl rfl ?_
      refine mm_iald dX9_run_101 rfl i0 (by omega) rfl rfl ?_
      refine mm_iast dX9_run_102 rfl (show _ = nI (200 * r + t) by rw [hr, i0]; exact w_200 r t) (by omega) rfl rfl ?_
      refine ww_aload_n dX9_run_103 rfl rfl ?_
      refine mm_getr dX9_run_104 fX9_101 rfl ?_
      refine ww_sipush (v := 200) dX9_run_107 (by decide) ?_
      refine ww_iload_n dX9_run_110 rfl rfl ?_
      refine ww_imul dX9_run_111 ?_
      refine ww_iload_n dX9_run_112 rfl rfl ?_
      refine ww_iadd dX9_run_113 ?_
      refine ww_aload_n dX9_run_114 rfl rfl ?_
      refine mm_getr dX9_run_115 fX9_58 rfl ?_
      refine ww_iload_n dX9_run_118 rfl rfl ?_
      refine mm_iald dX9_run_119 rfl i0 (by omega) rfl rfl ?_
      refine mm_iast dX9_run_120 rfl (show _ = nI (200 * r + t) by rw [hr, i0]; exact w_200 r t) (by omega) rfl rfl ?_
      refine ww_iinc dX9_run_121 rfl rfl rfl rfl ?_
      refine ww_goto (tgt := 42) dX9_run_124 (by decide) ?_
      rw [rn1_s]
      exact ih (t + 1) _ (by omega) (by omega) (w_inc i0)
theorem L9_run1z {xr : Int32} {r : Nat} (hr : xr = nI r) (hr8 : r < 8) {X : wX} {Z : State → Prop} (hk : ∀ x0 : Int32, WW G mX9_run cX9_run X Z 127 [some (.ref m), some (.int xr), some (.int x0)] [] (mh m F tl (rn1 r 200 R) NL h0, sz) 0 0) : WW G mX9_run cX9_run X Z 42 [some (.ref m), some (.int xr), some (.int 0)] [] (mh m F tl R NL h0, sz) 0 0 := by
  have e := L9_run1 hr hr8 hk 201 0 0 (by omega) (by omega) rfl
  rw [rn1_0] at e
  exact e
set_option maxHeartbeats 4000000 in
theorem L9_run2 {xr : Int32} {r : Nat} (hr : xr = nI r) (hr8 : r < 8) {X : wX} {Z : State → Prop} (hk : ∀ x0 : Int32, WW G mX9_run cX9_run X Z 204 [some (.ref m), some (.int xr), some (.int x0)] [] (mh m F tl (rn2 r 40 R) NL h0, sz) 0 0) : ∀ (n t : Nat) (x0 : Int32), 40 - t < n → t ≤ 40 → x0 = nI t → WW G mX9_run cX9_run X Z 129 [some (.ref m), some (.int xr), some (.int x0)] [] (mh m F tl (rn2 r t R) NL h0, sz) 0 0 := by
  intro n
  induction n with
  | zero => intro t x0 hn; exact absurd hn (by omega)
  | succ n ih =>
    intro t x0 hn ht i0
    refine ww_iload_n dX9_run_129 rfl rfl ?_
    refine ww_bipush (v := 40) dX9_run_130 (by decide) ?_
    refine ww_icmp_ge (tgt := 204) dX9_run_132 (by decide) (fun c132 => ?_) (fun c132 => ?_)
    · have e1 := (w_le (show (40 : Int32) = nI 40 from rfl) i0 (by decide) (by omega)).mp c132
      have e2 : t = 40 := by omega
      subst e2
      exact hk _
    · have e1 : t < 40 := by rcases Nat.lt_or_ge t 40 with q | q; exact q; exact absurd ((w_le (show (40 : Int32) = nI 40 from rfl) i0 (by decide) (by omega)).mpr q) c132
      refine ww_aload_n dX9_run_135 rfl rfl ?_
      refine mm_getr dX9_run_136 fX9_104 rfl ?_
      refine ww_bipush (v := 40) dX9_run_139 (by decide) ?_
      refine ww_iload_n dX9_run_141 rfl rfl ?_
      refine ww_imul dX9_run_142 ?_
      refine ww_iload_n dX9_run_143 rfl rfl ?_
      refine ww_iadd dX9_run_144 ?_
      refine ww_aload_n dX9_run_145 rfl rfl ?_
      refine mm_getr dX9_run_146 fX9_61 rfl ?_
      refine ww_iload_n dX9_run_149 rfl rfl ?_
      refine mm_iald dX9_run_150 rfl i0 (by omega) rfl rfl ?_
      refine mm_iast dX9_run_151 rfl (show _ = nI (40 * r + t) by rw [hr, i0]; exact w_40 r t) (by omega) rfl rfl ?_
      refine ww_aload_n dX9_run_152 rfl rfl ?_
      refine mm_getr dX9_run_153 fX9_107 rfl ?_
      refine ww_bipush (v := 40) dX9_run_156 (by decide) ?_
      refine ww_iload_n dX9_run_158 rfl rfl ?_
      refine ww_imul dX9_run_159 ?_
      refine ww_iload_n dX9_run_160 rfl rfl ?_
      refine ww_iadd dX9_run_161 ?_
      refine ww_aload_n dX9_run_162 rfl rfl ?_
      refine mm_getr dX9_run_163 fX9_64 rfl ?_
      refine ww_iload_n dX9_run_166 rfl rfl ?_
      refine mm_iald dX9_run_167 rfl i0 (by omega) rfl rfl ?_
      refine mm_iast dX9_run_168 rfl (show _ = nI (40 * r + t) by rw [hr, i0]; exact w_40 r t) (by omega) rfl rfl ?_
      refine ww_aload_n dX9_run_169 rfl rfl ?_
      refine mm_getr dX9_run_170 fX9_110 rfl ?_
      refine ww_bipush (v := 40) dX9_run_173 (by decide) ?_
      refine ww_iload_n dX9_run_175 rfl rfl ?_
      refine ww_imul dX9_run_176 ?_
      refine ww_iload_n dX9_run_177 rfl rfl ?_
      refine ww_iadd dX9_run_178 ?_
      refine ww_aload_n dX9_run_179 rfl rfl ?_
      refine mm_getr dX9_run_180 fX9_67 rfl ?_
      refine ww_iload_n dX9_run_183 rfl rfl ?_
      refine mm_iald dX9_run_184 rfl i0 (by omega) rfl rfl ?_
      refine mm_iast dX9_run_185 rfl (show _ = nI (40 * r + t) by rw [hr, i0]; exact w_40 r t) (by omega) rfl rfl ?_
      refine ww_aload_n dX9_run_186 rfl rfl ?_
      refine mm_getr dX9_run_187 fX9_116 rfl ?_
      refine ww_bipush (v := 40) dX9_run_190 (by decide) ?_
      refine ww_iload_n dX9_run_192 rfl rfl ?_
      refine ww_imul dX9_run_193 ?_
      refine ww_iload_n dX9_run_194 rfl rfl ?_
      refine ww_iadd dX9_run_195 ?_
      refine ww_iconst (v := 0) dX9_run_196 (by decide) ?_
      refine mm_iast dX9_run_197 rfl (show _ = nI (40 * r + t) by rw [hr, i0]; exact w_40 r t) (by omega) rfl rfl ?_
      refine ww_iinc dX9_run_198 rfl rfl rfl rfl ?_
      refine ww_goto (tgt := 129) dX9_run_201 (by decide) ?_
      rw [rn2_s]
      exact ih (t + 1) _ (by omega) (by omega) (w_inc i0)
theorem L9_run2z {xr : Int32} {r : Nat} (hr : xr = nI r) (hr8 : r < 8) {X : wX} {Z : State → Prop} (hk : ∀ x0 : Int32, WW G mX9_run cX9_run X Z 204 [some (.ref m), some (.int xr), some (.int x0)] [] (mh m F tl (rn2 r 40 R) NL h0, sz) 0 0) : WW G mX9_run cX9_run X Z 129 [some (.ref m), some (.int xr), some (.int 0)] [] (mh m F tl R NL h0, sz) 0 0 := by
  have e := L9_run2 hr hr8 hk 41 0 0 (by omega) (by omega) rfl
  rw [rn2_0] at e
  exact e
set_option maxHeartbeats 4000000 in
theorem L9_run3 {xr : Int32} {r : Nat} (hr : xr = nI r) (hr8 : r < 8) {X : wX} {Z : State → Prop} (hk : ∀ x0 : Int32, WW G mX9_run cX9_run X Z 228 [some (.ref m), some (.int xr), some (.int x0)] [] (mh m F tl (rn3 r 4 R) NL h0, sz) 0 0) : ∀ (n t : Nat) (x0 : Int32), 4 - t < n → t ≤ 4 → x0 = nI t → WW G mX9_run cX9_run X Z 206 [some (.ref m), some (.int xr), some (.int x0)] [] (mh m F tl (rn3 r t R) NL h0, sz) 0 0 := by
  intro n
  induction n with
  | zero => intro t x0 hn; exact absurd hn (by omega)
  | succ n ih =>
    intro t x0 hn ht i0
    refine ww_iload_n dX9_run_206 rfl rfl ?_
    refine ww_iconst (v := 4) dX9_run_207 (by decide) ?_
    refine ww_icmp_ge (tgt := 228) dX9_run_208 (by decide) (fun c208 => ?_) (fun c208 => ?_)
    · have e1 := (w_le (show (4 : Int32) = nI 4 from rfl) i0 (by decide) (by omega)).mp c208
      have e2 : t = 4 := by omega
      subst e2
      exact hk _
    · have e1 : t < 4 := by rcases Nat.lt_or_ge t 4 with q | q; exact q; exact absurd ((w_le (show (4 : Int32) = nI 4 from rfl) i0 (by decide) (by omega)).mpr q) c208
      refine ww_aload_n dX9_run_211 rfl rfl ?_
      refine mm_getr dX9_run_212 fX9_113 rfl ?_
      refine ww_iconst (v := 4) dX9_run_215 (by decide) ?_
      refine ww_iload_n dX9_run_216 rfl rfl ?_
      refine ww_imul dX9_run_217 ?_
      refine ww_iload_n dX9_run_218 rfl rfl ?_
      refine ww_iadd dX9_run_219 ?_
      refine ww_iconst (v := 0) dX9_run_220 (by decide) ?_
      refine mm_iast dX9_run_221 rfl (show _ = nI (4 * r + t) by rw [hr, i0]; exact w_4 r t) (by omega) rfl rfl ?_
      refine ww_iinc dX9_run_222 rfl rfl rfl rfl ?_
      refine ww_goto (tgt := 206) dX9_run_225 (by decide) ?_
      rw [rn3_s]
      exact ih (t + 1) _ (by omega) (by omega) (w_inc i0)
theorem L9_run3z {xr : Int32} {r : Nat} (hr : xr = nI r) (hr8 : r < 8) {X : wX} {Z : State → Prop} (hk : ∀ x0 : Int32, WW G mX9_run cX9_run X Z 228 [some (.ref m), some (.int xr), some (.int x0)] [] (mh m F tl (rn3 r 4 R) NL h0, sz) 0 0) : WW G mX9_run cX9_run X Z 206 [some (.ref m), some (.int xr), some (.int 0)] [] (mh m F tl R NL h0, sz) 0 0 := by
  have e := L9_run3 hr hr8 hk 5 0 0 (by omega) (by omega) rfl
  rw [rn3_0] at e
  exact e
def runP (cd : Int32) (r : Nat) (R : Nat → Nat → Int32) : Nat → Nat → Int32 := rn3 r 4 (rn2 r 40 (rn1 r 200 (va_up (va_up R 41 (upd (R 41) r cd)) 51 (upd (R 51) r 0))))
set_option maxHeartbeats 4000000 in
theorem c9_run {a r c c2 n : Nat} {b : Bool} {R2 : Nat → Nat → Int32} (hs : ¬ F 23 < 0) (hr : F 40 = nI r) (hr8 : r < 8) (ha : F 54 = nI a) (ha2 : a ≤ 20000) (hc : F 55 = nI c) (hc2 : c ≤ 200) (hg : gM a r n (some 0) 0 c (va_up (runP (F 25) r R) 69 (upd (runP (F 25) r R 69) 0 0)) = some (b, c2, R2)) : Sat G mX9_run [.ref m] (mh m F tl R NL h0, sz) (Det (some (.int (if b = true then nI r else -1))) (if b = true then (mh m (upd (upd F 55 (nI c2)) 40 (nI (r + 1))) tl R2 NL h0, sz) else (mh m (upd F 55 (nI c)) tl R2 NL h0, sz))) := by
  refine Sat.of (by decide) [some (.ref m), none, none] rfl rfl (fun X => ?_)
  refine ww_aload_n dX9_run_0 rfl rfl ?_
  refine mm_geti dX9_run_1 fX9_46 rfl rfl ?_
  refine ww_if_lt (tgt := 16) dX9_run_4 (by decide) (fun c4 => ?_) (fun c4 => ?_)
  · exact absurd c4 hs
  · refine ww_aload_n dX9_run_7 rfl rfl ?_
    refine mm_geti dX9_run_8 fX9_339 rfl rfl ?_
    refine ww_bipush (v := 8) dX9_run_11 (by decide) ?_
    refine ww_icmp_ne (tgt := 18) dX9_run_13 (by decide) (fun c13 => ?_) (fun c13 => ?_)
    · refine ww_aload_n dX9_run_18 rfl rfl ?_
      refine mm_geti dX9_run_19 fX9_339 rfl rfl ?_
      refine ww_istore_n dX9_run_22 rfl rfl rfl ?_
      refine ww_aload_n dX9_run_23 rfl rfl ?_
      refine mm_getr dX9_run_24 fX9_89 rfl ?_
      refine ww_iload_n dX9_run_27 rfl rfl ?_
      refine ww_aload_n dX9_run_28 rfl rfl ?_
      refine mm_geti dX9_run_29 fX9_305 rfl rfl ?_
      refine mm_iast dX9_run_32 rfl hr (by omega) rfl rfl ?_
      refine ww_aload_n dX9_run_33 rfl rfl ?_
      refine mm_getr dX9_run_34 fX9_119 rfl ?_
      refine ww_iload_n dX9_run_37 rfl rfl ?_
      refine ww_iconst (v := 0) dX9_run_38 (by decide) ?_
      refine mm_zast dX9_run_39 rfl hr (by omega) rfl rfl ?_
      refine ww_iconst (v := 0) dX9_run_40 (by decide) ?_
      refine ww_istore_n dX9_run_41 rfl rfl rfl ?_
      refine L9_run1z hr hr8 (fun x0 => ?_)
      refine ww_iconst (v := 0) dX9_run_127 (by decide) ?_
      refine ww_istore_n dX9_run_128 rfl rfl rfl ?_
      refine L9_run2z hr hr8 (fun x0 => ?_)
      refine ww_iconst (v := 0) dX9_run_204 (by decide) ?_
      refine ww_istore_n dX9_run_205 rfl rfl rfl ?_
      refine L9_run3z hr hr8 (fun x0 => ?_)
      refine ww_aload_n dX9_run_228 rfl rfl ?_
      refine mm_geti dX9_run_229 fX9_311 rfl rfl ?_
      refine ww_istore_n dX9_run_232 rfl rfl rfl ?_
      refine ww_aload_n dX9_run_233 rfl rfl ?_
      refine ww_iload_n dX9_run_234 rfl rfl ?_
      refine ww_iconst (v := 0) dX9_run_235 (by decide) ?_
      refine mm_call1 dX9_run_236 kX9_342 rfl (c9_goes (n := n) ha ha2 hr hr8 (show (0 : Int32) = nI 0 from rfl) (by decide) hc hc2 hg) rfl rfl rfl rfl rfl rfl (Nat.zero_le _) (Nat.zero_le _) ?_
      refine ww_if_ne (tgt := 249) dX9_run_239 (by decide) (fun c239 => ?_) (fun c239 => ?_)
      · refine ww_aload_n dX9_run_249 rfl rfl ?_
        refine ww_dup dX9_run_250 rfl ?_
        refine mm_geti dX9_run_251 fX9_339 rfl rfl ?_
        refine ww_iconst (v := 1) dX9_run_254 (by decide) ?_
        refine ww_iadd dX9_run_255 ?_
        refine mm_puti dX9_run_256 fX9_339 rfl rfl ?_
        refine ww_iload_n dX9_run_259 rfl rfl ?_
        exact ww_iret dX9_run_260 rfl ⟨by rw [wb_ne0.mp c239, hr]; rfl, by rw [wb_ne0.mp c239]; exact congrArg (fun f => ((mh m f tl R2 NL h0, sz) : wH)) (by rw [show upd F 55 (nI c2) 40 = F 40 from rfl, hr, nI_1])⟩ (Nat.zero_le _) (Nat.zero_le _)
      · refine ww_aload_n dX9_run_242 rfl rfl ?_
        refine ww_iload_n dX9_run_243 rfl rfl ?_
        refine mm_puti dX9_run_244 fX9_311 rfl rfl ?_
        refine ww_iconst (v := -1) dX9_run_247 (by decide) ?_
        exact ww_iret dX9_run_248 rfl ⟨by rw [wb_eq0.mp c239]; rfl, by rw [wb_eq0.mp c239, hc]; exact congrArg (fun f => ((mh m f tl R2 NL h0, sz) : wH)) (w_upd_upd _ _ _ _)⟩ (Nat.zero_le _) (Nat.zero_le _)
    · exact absurd c13 (by rw [hr]; exact fun q => absurd ((nI_eq (b := 8) (by omega) (by decide)).mp q) (by omega))
set_option maxHeartbeats 4000000 in
theorem c9_run0 (hs : F 23 < 0 ∨ F 40 = 8) : Sat G mX9_run [.ref m] (mh m F tl R NL h0, sz) (Det (some (.int (-1))) (mh m F tl R NL h0, sz)) := by
  refine Sat.of (by decide) [some (.ref m), none, none] rfl rfl (fun X => ?_)
  refine ww_aload_n dX9_run_0 rfl rfl ?_
  refine mm_geti dX9_run_1 fX9_46 rfl rfl ?_
  refine ww_if_lt (tgt := 16) dX9_run_4 (by decide) (fun c4 => ?_) (fun c4 => ?_)
  · refine ww_iconst (v := -1) dX9_run_16 (by decide) ?_
    exact ww_iret dX9_run_17 rfl ⟨rfl, rfl⟩ (Nat.zero_le _) (Nat.zero_le _)
  · refine ww_aload_n dX9_run_7 rfl rfl ?_
    refine mm_geti dX9_run_8 fX9_339 rfl rfl ?_
    refine ww_bipush (v := 8) dX9_run_11 (by decide) ?_
    refine ww_icmp_ne (tgt := 18) dX9_run_13 (by decide) (fun c13 => ?_) (fun c13 => ?_)
    · exact absurd hs (by rintro (q | q); exact c4 q; exact c13 q)
    · refine ww_iconst (v := -1) dX9_run_16 (by decide) ?_
      exact ww_iret dX9_run_17 rfl ⟨rfl, rfl⟩ (Nat.zero_le _) (Nat.zero_le _)
end M8
