/-! the row of deputies -/
def stM (aw dp : Nat → Int32) : Nat → Int32 → Int32
  | 0, x => x
  | n + 1, x => if x < 0 then x else if aw x.toNatClampNeg = 0 then x else stM aw dp n (dp x.toNatClampNeg)
def stE (aw : Nat → Int32) (y : Int32) : Int32 := if y < 0 then y else if aw y.toNatClampNeg = 0 then y else -1
def stR (aw dp : Nat → Int32) (x : Int32) : Int32 := stE aw (stM aw dp 8 x)
def okP (c : Nat) (x : Int32) : Prop := x = -1 ∨ ∃ j, j < c ∧ x = nI j
theorem okP_pos {c : Nat} {x : Int32} (h : okP c x) (hx : ¬ x < 0) : ∃ j, j < c ∧ x = nI j := by
  rcases h with h | h
  · exact absurd (by rw [h]; decide) hx
  · exact h
theorem stM_neg {aw dp : Nat → Int32} {x : Int32} (h : x < 0) : ∀ n, stM aw dp n x = x
  | 0 => rfl
  | n + 1 => by simp [stM, h]
theorem stM_here {aw dp : Nat → Int32} {x : Int32} {j : Nat} (hx : x = nI j) (hj : j < 2 ^ 31) (h : aw j = 0) : ∀ n, stM aw dp n x = x
  | 0 => rfl
  | n + 1 => by
    subst hx
    simp [stM, nI_pos hj, nI_clamp hj, h]
theorem stM_step {aw dp : Nat → Int32} {x : Int32} {j : Nat} (hx : x = nI j) (hj : j < 2 ^ 31) (h : ¬ aw j = 0) (n : Nat) : stM aw dp (n + 1) x = stM aw dp n (dp j) := by
  subst hx
  simp [stM, nI_pos hj, nI_clamp hj, h]
/-! working hours -/
def isW (h : Nat) : Bool := decide (h / 24 % 7 < 5) && decide (9 ≤ h % 24) && decide (h % 24 ≤ 16)
def wHr (h : Nat) : Nat := h / 168 * 40 + (if h % 168 / 24 < 5 then h % 168 / 24 * 8 + (if h % 24 < 9 then 0 else if h % 24 < 17 then h % 24 - 9 else 8) else 40)
def wEn (k : Nat) : Nat := k / 40 * 168 + k % 40 / 8 * 24 + 9 + k % 8 + 1
theorem wHr_at (q d u : Nat) (hd : d < 7) (hu : u < 24) : wHr (168 * q + 24 * d + u) = 40 * q + (if d < 5 then 8 * d + (if u < 9 then 0 else if u < 17 then u - 9 else 8) else 40) := by
  unfold wHr
  rw [show (168 * q + 24 * d + u) / 168 = q by omega, show (168 * q + 24 * d + u) % 168 / 24 = d by omega, show (168 * q + 24 * d + u) % 24 = u by omega]
  (repeat' split) <;> omega
theorem w_hour (h : Nat) : ∃ q d u, d < 7 ∧ u < 24 ∧ h = 168 * q + 24 * d + u := ⟨h / 168, h % 168 / 24, h % 24, by omega, by omega, by omega⟩
theorem isW_at (q d u : Nat) (hd : d < 7) (hu : u < 24) : isW (168 * q + 24 * d + u) = true ↔ d < 5 ∧ 9 ≤ u ∧ u ≤ 16 := by
  unfold isW
  rw [show (168 * q + 24 * d + u) / 24 % 7 = d by omega, show (168 * q + 24 * d + u) % 24 = u by omega]
  simp [and_assoc]
theorem wHr_succ (h : Nat) : wHr (h + 1) = wHr h + (if isW h = true then 1 else 0) := by
  obtain ⟨q, d, u, hd, hu, rfl⟩ := w_hour h
  simp only [isW_at q d u hd hu]
  rw [wHr_at q d u hd hu]
  by_cases h1 : u + 1 < 24
  · rw [show 168 * q + 24 * d + u + 1 = 168 * q + 24 * d + (u + 1) by omega, wHr_at q d (u + 1) hd h1]
    (repeat' split) <;> omega
  · by_cases h2 : d + 1 < 7
    · rw [show 168 * q + 24 * d + u + 1 = 168 * q + 24 * (d + 1) + 0 by omega, wHr_at q (d + 1) 0 h2 (by decide)]
      (repeat' split) <;> omega
    · rw [show 168 * q + 24 * d + u + 1 = 168 * (q + 1) + 24 * 0 + 0 by omega, wHr_at (q + 1) 0 0 (by decide) (by decide)]
      (repeat' split) <;> omega
theorem wHr_mono {a b : Nat} (h : a ≤ b) : wHr a ≤ wHr b := by
  obtain ⟨d, rfl⟩ := Nat.le.dest h
  clear h
  induction d with
  | zero => exact Nat.le_refl _
  | succ d ih =>
    have := wHr_succ (a + d)
    rw [show a + (d + 1) = a + d + 1 by omega, this]
    omega
theorem wEn_eq (k : Nat) : wEn k = 168 * (k / 40) + 24 * (k % 40 / 8) + (10 + k % 8) := by unfold wEn; omega
theorem wHr_en (k : Nat) : wHr (wEn k) = k + 1 := by
  rw [wEn_eq, wHr_at _ _ _ (by omega) (by omega)]
  (repeat' split) <;> omega
theorem wHr_enp (k : Nat) : wHr (wEn k - 1) = k := by
  rw [wEn_eq, show 168 * (k / 40) + 24 * (k % 40 / 8) + (10 + k % 8) - 1 = 168 * (k / 40) + 24 * (k % 40 / 8) + (9 + k % 8) by omega, wHr_at _ _ _ (by omega) (by omega)]
  (repeat' split) <;> omega
theorem wEn_le {k h : Nat} : wEn k ≤ h ↔ k + 1 ≤ wHr h := by
  constructor
  · intro q
    rw [← wHr_en k]
    exact wHr_mono q
  · intro q
    rcases Nat.lt_or_ge h (wEn k) with r | r
    · have := wHr_mono (show h ≤ wEn k - 1 by omega)
      rw [wHr_enp] at this
      omega
    · exact r
theorem wEn_pos (k : Nat) : 10 ≤ wEn k := by unfold wEn; omega
section M3
variable {G : wG} {m : Nat} {F : Nat → Int32} {tl : Int64} {R : Nat → Nat → Int32} {NL : Nat → Int64} {h0 : Nat → Option wE} {sz : Nat}

set_option maxHeartbeats 4000000 in
theorem c9_stands0 {x : Int32} {c : Nat} (hc : F 64 = nI c) (hc2 : c ≤ 8) (hno : wIn x c = false) : Sat G mX9_stands [.ref m, .int x] (mh m F tl R NL h0, sz) (Det (some (.int (-1))) (mh m F tl R NL h0, sz)) := by
  refine Sat.of (by decide) [some (.ref m), some (.int x), none, none] rfl rfl (fun X => ?_)
  refine ww_aload_n dX9_stands_0 rfl rfl ?_
  refine ww_iload_n dX9_stands_1 rfl rfl ?_
  refine mm_call1 dX9_stands_2 kX9_318 rfl (c9_isPerson hc (by omega)) rfl rfl rfl rfl rfl rfl (Nat.zero_le _) (Nat.zero_le _) ?_
  refine ww_if_ne (tgt := 10) dX9_stands_5 (by decide) (fun c5 => ?_) (fun c5 => ?_)
  · exact absurd c5 (fun q => q (wb_eq0.mpr hno))
  · refine ww_iconst (v := -1) dX9_stands_8 (by decide) ?_
    exact ww_iret dX9_stands_9 rfl ⟨rfl, rfl⟩ (Nat.zero_le _) (Nat.zero_le _)
set_option maxHeartbeats 4000000 in
theorem L9_stands {x : Int32} {c : Nat} {X : wX} (hc2 : c ≤ 8) (hdp : ∀ q, q < c → okP c (R 67 q)) : ∀ (n k : Nat) (x2 x3 : Int32), 8 - k < n → k ≤ 8 → okP c x2 → x3 = nI k → stM (R 68) (R 67) (8 - k) x2 = stM (R 68) (R 67) 8 x → WW G mX9_stands cX9_stands X (wZ G mX9_stands X (Det (some (.int (stR (R 68) (R 67) x))) (mh m F tl R NL h0, sz))) 14 [some (.ref m), some (.int x), some (.int x2), some (.int x3)] [] (mh m F tl R NL h0, sz) 0 0 := by
  intro n
  induction n with
  | zero => intro k x2 x3 hn; exact absurd hn (by omega)
  | succ n ih =>
    intro k x2 x3 hn hk i2 i3 i4
    refine ww_iload_n dX9_stands_14 rfl rfl ?_
    refine ww_bipush (v := 8) dX9_stands_15 (by decide) ?_
    refine ww_icmp_ge (tgt := 46) dX9_stands_17 (by decide) (fun c17 => ?_) (fun c17 => ?_)
    · have hy : x2 = stM (R 68) (R 67) 8 x := by
        have := (w_le (show (8 : Int32) = nI 8 from rfl) i3 (by decide) (by omega)).mp c17
        rw [← i4, show 8 - k = 0 by omega]; rfl
      refine ww_iload_n dX9_stands_46 rfl rfl ?_
      refine ww_if_lt (tgt := 63) dX9_stands_47 (by decide) (fun c47 => ?_) (fun c47 => ?_)
      · refine ww_iload_n dX9_stands_63 rfl rfl ?_
        exact ww_iret dX9_stands_64 rfl ⟨by rw [stR, ← hy, stE, if_pos c47], rfl⟩ (Nat.zero_le _) (Nat.zero_le _)
      · obtain ⟨j2, hj2, ej2⟩ := okP_pos i2 c47
        refine ww_aload_n dX9_stands_50 rfl rfl ?_
        refine mm_getr dX9_stands_51 fX9_161 rfl ?_
        refine ww_iload_n dX9_stands_54 rfl rfl ?_
        refine mm_zald dX9_stands_55 rfl ej2 (by omega) rfl rfl ?_
        refine ww_if_eq (tgt := 63) dX9_stands_56 (by decide) (fun c56 => ?_) (fun c56 => ?_)
        · refine ww_iload_n dX9_stands_63 rfl rfl ?_
          exact ww_iret dX9_stands_64 rfl ⟨by rw [stR, ← hy, stE, if_neg c47, ej2, nI_clamp (by omega), if_pos c56], rfl⟩ (Nat.zero_le _) (Nat.zero_le _)
        · refine ww_iconst (v := -1) dX9_stands_59 (by decide) ?_
          refine ww_goto (tgt := 64) dX9_stands_60 (by decide) ?_
          exact ww_iret dX9_stands_64 rfl ⟨by rw [stR, ← hy, stE, if_neg c47, ej2, nI_clamp (by omega), if_neg c56], rfl⟩ (Nat.zero_le _) (Nat.zero_le _)
    · refine ww_iload_n dX9_stands_20 rfl rfl ?_
      refine ww_if_lt (tgt := 46) dX9_stands_21 (by decide) (fun c21 => ?_) (fun c21 => ?_)
      · have hy : x2 = stM (R 68) (R 67) 8 x := by rw [← i4, stM_neg c21]
        refine ww_iload_n dX9_stands_46 rfl rfl ?_
        refine ww_if_lt (tgt := 63) dX9_stands_47 (by decide) (fun c47 => ?_) (fun c47 => ?_)
        · refine ww_iload_n dX9_stands_63 rfl rfl ?_
          exact ww_iret dX9_stands_64 rfl ⟨by rw [stR, ← hy, stE, if_pos c47], rfl⟩ (Nat.zero_le _) (Nat.zero_le _)
        · obtain ⟨j2, hj2, ej2⟩ := okP_pos i2 c47
          refine ww_aload_n dX9_stands_50 rfl rfl ?_
          refine mm_getr dX9_stands_51 fX9_161 rfl ?_
          refine ww_iload_n dX9_stands_54 rfl rfl ?_
          refine mm_zald dX9_stands_55 rfl ej2 (by omega) rfl rfl ?_
          refine ww_if_eq (tgt := 63) dX9_stands_56 (by decide) (fun c56 => ?_) (fun c56 => ?_)
          · refine ww_iload_n dX9_stands_63 rfl rfl ?_
            exact ww_iret dX9_stands_64 rfl ⟨by rw [stR, ← hy, stE, if_neg c47, ej2, nI_clamp (by omega), if_pos c56], rfl⟩ (Nat.zero_le _) (Nat.zero_le _)
          · refine ww_iconst (v := -1) dX9_stands_59 (by decide) ?_
            refine ww_goto (tgt := 64) dX9_stands_60 (by decide) ?_
            exact ww_iret dX9_stands_64 rfl ⟨by rw [stR, ← hy, stE, if_neg c47, ej2, nI_clamp (by omega), if_neg c56], rfl⟩ (Nat.zero_le _) (Nat.zero_le _)
      · obtain ⟨j, hj, ej⟩ := okP_pos i2 c21
        refine ww_aload_n dX9_stands_24 rfl rfl ?_
        refine mm_getr dX9_stands_25 fX9_161 rfl ?_
        refine ww_iload_n dX9_stands_28 rfl rfl ?_
        refine mm_zald dX9_stands_29 rfl ej (by omega) rfl rfl ?_
        refine ww_if_eq (tgt := 46) dX9_stands_30 (by decide) (fun c30 => ?_) (fun c30 => ?_)
        · have hy : x2 = stM (R 68) (R 67) 8 x := by rw [← i4, stM_here ej (by omega) c30]
          refine ww_iload_n dX9_stands_46 rfl rfl ?_
          refine ww_if_lt (tgt := 63) dX9_stands_47 (by decide) (fun c47 => ?_) (fun c47 => ?_)
          · refine ww_iload_n dX9_stands_63 rfl rfl ?_
            exact ww_iret dX9_stands_64 rfl ⟨by rw [stR, ← hy, stE, if_pos c47], rfl⟩ (Nat.zero_le _) (Nat.zero_le _)
          · obtain ⟨j2, hj2, ej2⟩ := okP_pos i2 c47
            refine ww_aload_n dX9_stands_50 rfl rfl ?_
            refine mm_getr dX9_stands_51 fX9_161 rfl ?_
            refine ww_iload_n dX9_stands_54 rfl rfl ?_
            refine mm_zald dX9_stands_55 rfl ej2 (by omega) rfl rfl ?_
            refine ww_if_eq (tgt := 63) dX9_stands_56 (by decide) (fun c56 => ?_) (fun c56 => ?_)
            · refine ww_iload_n dX9_stands_63 rfl rfl ?_
              exact ww_iret dX9_stands_64 rfl ⟨by rw [stR, ← hy, stE, if_neg c47, ej2, nI_clamp (by omega), if_pos c56], rfl⟩ (Nat.zero_le _) (Nat.zero_le _)
            · refine ww_iconst (v := -1) dX9_stands_59 (by decide) ?_
              refine ww_goto (tgt := 64) dX9_stands_60 (by decide) ?_
              exact ww_iret dX9_stands_64 rfl ⟨by rw [stR, ← hy, stE, if_neg c47, ej2, nI_clamp (by omega), if_neg c56], rfl⟩ (Nat.zero_le _) (Nat.zero_le _)
        · have hk : k < 8 := by rcases Nat.lt_or_ge k 8 with q | q; exact q; exact absurd ((w_le (show (8 : Int32) = nI 8 from rfl) i3 (by decide) (by omega)).mpr q) c17
          refine ww_aload_n dX9_stands_33 rfl rfl ?_
          refine mm_getr dX9_stands_34 fX9_158 rfl ?_
          refine ww_iload_n dX9_stands_37 rfl rfl ?_
          refine mm_iald dX9_stands_38 rfl ej (by omega) rfl rfl ?_
          refine ww_istore_n dX9_stands_39 rfl rfl rfl ?_
          refine ww_iinc dX9_stands_40 rfl rfl rfl rfl ?_
          refine ww_goto (tgt := 14) dX9_stands_43 (by decide) ?_
          exact ih (k + 1) _ _ (by omega) (by omega) (hdp j hj) (w_inc i3) (by rw [← i4, show 8 - k = 8 - (k + 1) + 1 by omega, stM_step ej (by omega) c30])
set_option maxHeartbeats 4000000 in
theorem c9_stands {x : Int32} {c p : Nat} (hc : F 64 = nI c) (hc2 : c ≤ 8) (hdp : ∀ q, q < c → okP c (R 67 q)) (hp : x = nI p) (hpc : p < c) : Sat G mX9_stands [.ref m, .int x] (mh m F tl R NL h0, sz) (Det (some (.int (stR (R 68) (R 67) x))) (mh m F tl R NL h0, sz)) := by
  refine Sat.of (by decide) [some (.ref m), some (.int x), none, none] rfl rfl (fun X => ?_)
  refine ww_aload_n dX9_stands_0 rfl rfl ?_
  refine ww_iload_n dX9_stands_1 rfl rfl ?_
  refine mm_call1 dX9_stands_2 kX9_318 rfl (c9_isPerson hc (by omega)) rfl rfl rfl rfl rfl rfl (Nat.zero_le _) (Nat.zero_le _) ?_
  refine ww_if_ne (tgt := 10) dX9_stands_5 (by decide) (fun c5 => ?_) (fun c5 => ?_)
  · refine ww_iload_n dX9_stands_10 rfl rfl ?_
    refine ww_istore_n dX9_stands_11 rfl rfl rfl ?_
    refine ww_iconst (v := 0) dX9_stands_12 (by decide) ?_
    refine ww_istore_n dX9_stands_13 rfl rfl rfl ?_
    exact L9_stands hc2 hdp 9 0 _ _ (by omega) (by omega) (Or.inr ⟨p, hpc, hp⟩) rfl rfl
  · exact absurd c5 (by rw [hp, wIn_nI hpc (by omega)]; decide)
theorem w_dv {x : Int32} {a d : Nat} (hx : x = nI a) (ha : a < 2 ^ 31) (h0 : 0 < d) (hd : d < 2 ^ 31) : x / nI d = nI (a / d) := by rw [hx]; exact pk_div ha h0 hd
theorem w_rm {x : Int32} {a d : Nat} (hx : x = nI a) (ha : a < 2 ^ 31) (h0 : 0 < d) (hd : d < 2 ^ 31) : x - x / nI d * nI d = nI (a % d) := by rw [hx]; exact pk_rem ha h0 hd
theorem w_lt {x y : Int32} {a b : Nat} (hx : x = nI a) (hy : y = nI b) (ha : a < 2 ^ 31) (hb : b < 2 ^ 31) : x < y ↔ a < b := by rw [hx, hy]; exact nI_ltI ha hb
theorem iw1 {x : Int32} {a : Nat} (hx : x = nI a) (ha : a < 2 ^ 31) : (5 : Int32) ≤ x / 24 - x / 24 / 7 * 7 ↔ 5 ≤ a / 24 % 7 := by
  have e1 : x / 24 = nI (a / 24) := w_dv hx ha (by decide) (by decide)
  have e : x / 24 - x / 24 / 7 * 7 = nI (a / 24 % 7) := w_rm e1 (by omega) (by decide) (by decide)
  rw [e]
  exact nI_leI (a := 5) (b := a / 24 % 7) (by decide) (by omega)
theorem iw2 {x : Int32} {a : Nat} (hx : x = nI a) (ha : a < 2 ^ 31) : x - x / 24 * 24 < 9 ↔ a % 24 < 9 := by
  have e : x - x / 24 * 24 = nI (a % 24) := w_rm hx ha (by decide) (by decide)
  rw [e]
  exact nI_ltI (a := a % 24) (b := 9) (by omega) (by decide)
theorem iw3 {x : Int32} {a : Nat} (hx : x = nI a) (ha : a < 2 ^ 31) : 16 < x - x / 24 * 24 ↔ 16 < a % 24 := by
  have e : x - x / 24 * 24 = nI (a % 24) := w_rm hx ha (by decide) (by decide)
  rw [e]
  exact nI_ltI (a := 16) (b := a % 24) (by decide) (by omega)
set_option maxHeartbeats 4000000 in
theorem c9_isWorking {x : Int32} {a : Nat} {h : wH} (hx : x = nI a) (ha : a < 2 ^ 31) : Sat G mX9_isWorking [.int x] h (Det (some (.int (wb (isW a)))) h) := by
  refine Sat.of (by decide) [some (.int x)] rfl rfl (fun X => ?_)
  refine ww_iload_n dX9_isWorking_0 rfl rfl ?_
  refine ww_bipush (v := 24) dX9_isWorking_1 (by decide) ?_
  refine ww_idiv dX9_isWorking_3 (by decide) ?_
  refine ww_bipush (v := 7) dX9_isWorking_4 (by decide) ?_
  refine ww_irem dX9_isWorking_6 (by decide) ?_
  refine ww_iconst (v := 5) dX9_isWorking_7 (by decide) ?_
  refine ww_icmp_ge (tgt := 33) dX9_isWorking_8 (by decide) (fun c8 => ?_) (fun c8 => ?_)
  · refine ww_iconst (v := 0) dX9_isWorking_33 (by decide) ?_
    exact ww_zret dX9_isWorking_34 rfl (Or.inl rfl) ⟨by rw [show isW a = false by have := (iw1 hx ha).mp c8; simp [isW]; omega]; rfl, rfl⟩ (Nat.zero_le _) (Nat.zero_le _)
  · refine ww_iload_n dX9_isWorking_11 rfl rfl ?_
    refine ww_bipush (v := 24) dX9_isWorking_12 (by decide) ?_
    refine ww_irem dX9_isWorking_14 (by decide) ?_
    refine ww_bipush (v := 9) dX9_isWorking_15 (by decide) ?_
    refine ww_icmp_lt (tgt := 33) dX9_isWorking_17 (by decide) (fun c17 => ?_) (fun c17 => ?_)
    · refine ww_iconst (v := 0) dX9_isWorking_33 (by decide) ?_
      exact ww_zret dX9_isWorking_34 rfl (Or.inl rfl) ⟨by rw [show isW a = false by have := (iw2 hx ha).mp c17; simp [isW]; omega]; rfl, rfl⟩ (Nat.zero_le _) (Nat.zero_le _)
    · refine ww_iload_n dX9_isWorking_20 rfl rfl ?_
      refine ww_bipush (v := 24) dX9_isWorking_21 (by decide) ?_
      refine ww_irem dX9_isWorking_23 (by decide) ?_
      refine ww_bipush (v := 16) dX9_isWorking_24 (by decide) ?_
      refine ww_icmp_gt (tgt := 33) dX9_isWorking_26 (by decide) (fun c26 => ?_) (fun c26 => ?_)
      · refine ww_iconst (v := 0) dX9_isWorking_33 (by decide) ?_
        exact ww_zret dX9_isWorking_34 rfl (Or.inl rfl) ⟨by rw [show isW a = false by have := (iw3 hx ha).mp c26; simp [isW]; omega]; rfl, rfl⟩ (Nat.zero_le _) (Nat.zero_le _)
      · refine ww_iconst (v := 1) dX9_isWorking_29 (by decide) ?_
        refine ww_goto (tgt := 34) dX9_isWorking_30 (by decide) ?_
        exact ww_zret dX9_isWorking_34 rfl (Or.inr rfl) ⟨by rw [show isW a = true by have h1 := mt (iw1 hx ha).mpr c8; have h2 := mt (iw2 hx ha).mpr c17; have h3 := mt (iw3 hx ha).mpr c26; simp [isW]; omega]; rfl, rfl⟩ (Nat.zero_le _) (Nat.zero_le _)
theorem w_sub0 (x : Int32) : x - 0 = x := Int32.sub_zero x
set_option maxHeartbeats 4000000 in
theorem L9_behind {x0 x1 : Int32} {T : Nat} {h : wH} {X : wX} (hT : 1 ≤ T) (hE : wEn (T - 1) < 2 ^ 30) : ∀ (n a l : Nat) (x2 x3 : Int32), wEn (T - 1) + 1 - a < n → x2 = nI a → x3 = nI l → wHr a + l = T → l < 2 ^ 30 → (l = 0 → a = wEn (T - 1)) → WW G mX9_behind cX9_behind X (wZ G mX9_behind X (Det (some (.int (nI (wEn (T - 1))))) h)) 4 [some (.int x0), some (.int x1), some (.int x2), some (.int x3)] [] h 0 0 := by
  intro n
  induction n with
  | zero => intro a l x2 x3 hn; exact absurd hn (by omega)
  | succ n ih =>
    intro a l x2 x3 hn i2 i3 i4 i5 i6
    refine ww_iload_n dX9_behind_4 rfl rfl ?_
    refine ww_if_le (tgt := 29) dX9_behind_5 (by decide) (fun c5 => ?_) (fun c5 => ?_)
    · have e0 : l = 0 := by rcases Nat.eq_zero_or_pos l with q | q; exact q; exact absurd c5 (by rw [i3]; exact nI_nle q (by omega))
      refine ww_iload_n dX9_behind_29 rfl rfl ?_
      exact ww_iret dX9_behind_30 rfl ⟨by rw [i2, i6 e0], rfl⟩ (Nat.zero_le _) (Nat.zero_le _)
    · have e0 : 0 < l := by rcases Nat.eq_zero_or_pos l with q | q; exact absurd (by rw [i3, q]; decide) c5; exact q
      have e1 : a < wEn (T - 1) := by rcases Nat.lt_or_ge a (wEn (T - 1)) with q | q; exact q; have := wEn_le.mp q; omega
      refine ww_iload_n dX9_behind_8 rfl rfl ?_
      refine ww_iload_n dX9_behind_9 rfl rfl ?_
      refine ww_calls1 dX9_behind_10 kX9_326 (c9_isWorking i2 (by omega)) rfl rfl rfl rfl rfl rfl (Nat.zero_le _) (Nat.zero_le _) ?_
      refine ww_if_eq (tgt := 20) dX9_behind_13 (by decide) (fun c13 => ?_) (fun c13 => ?_)
      · refine ww_iconst (v := 0) dX9_behind_20 (by decide) ?_
        refine ww_isub dX9_behind_21 ?_
        refine ww_istore_n dX9_behind_22 rfl rfl rfl ?_
        refine ww_iinc dX9_behind_23 rfl rfl rfl rfl ?_
        refine ww_goto (tgt := 4) dX9_behind_26 (by decide) ?_
        exact ih (a + 1) l _ _ (by omega) (w_inc i2) (by rw [w_sub0]; exact i3) (by have := wHr_succ a; rw [if_neg (wb_nt (wb_eq0.mp c13))] at this; omega) (by omega) (fun q => absurd q (by omega))
      · refine ww_iconst (v := 1) dX9_behind_16 (by decide) ?_
        refine ww_goto (tgt := 21) dX9_behind_17 (by decide) ?_
        refine ww_isub dX9_behind_21 ?_
        refine ww_istore_n dX9_behind_22 rfl rfl rfl ?_
        refine ww_iinc dX9_behind_23 rfl rfl rfl rfl ?_
        refine ww_goto (tgt := 4) dX9_behind_26 (by decide) ?_
        exact ih (a + 1) (l - 1) _ _ (by omega) (w_inc i2) (by rw [i3]; exact pk_sub (a := l) (b := 1) (by omega)) (by have := wHr_succ a; rw [if_pos (wb_ne0.mp c13)] at this; omega) (by omega) (fun _ => by have := wHr_succ a; rw [if_pos (wb_ne0.mp c13)] at this; have h5 := (wEn_le (k := T - 1) (h := a)); have h6 := (wEn_le (k := T - 1) (h := a + 1)); omega)
set_option maxHeartbeats 4000000 in
theorem c9_behind {x y : Int32} {a l : Nat} {h : wH} (hx : x = nI a) (hy : y = nI l) (hl : 1 ≤ l) (hl2 : l < 2 ^ 30) (hE : wEn (wHr a + l - 1) < 2 ^ 30) : Sat G mX9_behind [.int x, .int y] h (Det (some (.int (nI (wEn (wHr a + l - 1))))) h) := by
  refine Sat.of (by decide) [some (.int x), some (.int y), none, none] rfl rfl (fun X => ?_)
  refine ww_iload_n dX9_behind_0 rfl rfl ?_
  refine ww_istore_n dX9_behind_1 rfl rfl rfl ?_
  refine ww_iload_n dX9_behind_2 rfl rfl ?_
  refine ww_istore_n dX9_behind_3 rfl rfl rfl ?_
  exact L9_behind (T := wHr a + l) (by omega) hE (wEn (wHr a + l - 1) + 2) a l _ _ (by omega) hx hy rfl (by omega) (fun q => absurd q (by omega))
theorem wEn_lt {a l : Nat} (ha : a ≤ 30000) (hl : l ≤ 1000) : wEn (wHr a + l - 1) < 2 ^ 30 := by
  have h1 : wHr a ≤ a := by
    clear ha
    induction a with
    | zero => decide
    | succ a ih => rw [wHr_succ]; split <;> omega
  unfold wEn
  omega
set_option maxHeartbeats 4000000 in
theorem c9_due0 {x y : Int32} (hno : (inR x 0 20000 && inR y 1 99) = false) : Sat G mX9_due [.ref m, .int x, .int y] (mh m F tl R NL h0, sz) (Det (some (.int (-1))) (mh m F tl R NL h0, sz)) := by
  refine Sat.of (by decide) [some (.ref m), some (.int x), some (.int y)] rfl rfl (fun X => ?_)
  refine ww_iload_n dX9_due_0 rfl rfl ?_
  refine ww_i2l dX9_due_1 ?_
  refine ww_lconst (v := 0) dX9_due_2 (by decide) ?_
  refine ww_ldc2 dX9_due_3 qX9_324 ?_
  refine ww_calls1 dX9_due_6 kX9_177 c9_in rfl rfl rfl rfl rfl rfl (Nat.zero_le _) (Nat.zero_le _) ?_
  refine ww_if_eq (tgt := 32) dX9_due_9 (by decide) (fun c9 => ?_) (fun c9 => ?_)
  · refine ww_iconst (v := -1) dX9_due_32 (by decide) ?_
    exact ww_iret dX9_due_33 rfl ⟨rfl, rfl⟩ (Nat.zero_le _) (Nat.zero_le _)
  · refine ww_iload_n dX9_due_12 rfl rfl ?_
    refine ww_i2l dX9_due_13 ?_
    refine ww_lconst (v := 1) dX9_due_14 (by decide) ?_
    refine ww_ldc2 dX9_due_15 qX9_329 ?_
    refine ww_calls1 dX9_due_18 kX9_177 c9_in rfl rfl rfl rfl rfl rfl (Nat.zero_le _) (Nat.zero_le _) ?_
    refine ww_if_eq (tgt := 32) dX9_due_21 (by decide) (fun c21 => ?_) (fun c21 => ?_)
    · refine ww_iconst (v := -1) dX9_due_32 (by decide) ?_
      exact ww_iret dX9_due_33 rfl ⟨rfl, rfl⟩ (Nat.zero_le _) (Nat.zero_le _)
    · exact absurd hno (by rw [wb_ne0.mp (by rw [in_c (a := 0) (b := 20000) rfl rfl] at c9; exact c9 : ¬ wb (inR x 0 20000) = 0), wb_ne0.mp (by rw [in_c (a := 1) (b := 99) rfl rfl] at c21; exact c21 : ¬ wb (inR y 1 99) = 0)]; decide)
set_option maxHeartbeats 4000000 in
theorem c9_due {x y : Int32} {a l : Nat} (hx : x = nI a) (hy : y = nI l) (ha : a ≤ 20000) (hl : 1 ≤ l) (hl2 : l ≤ 99) : Sat G mX9_due [.ref m, .int x, .int y] (mh m F tl R NL h0, sz) (Det (some (.int (nI (wEn (wHr a + l - 1))))) (mh m F tl R NL h0, sz)) := by
  refine Sat.of (by decide) [some (.ref m), some (.int x), some (.int y)] rfl rfl (fun X => ?_)
  refine ww_iload_n dX9_due_0 rfl rfl ?_
  refine ww_i2l dX9_due_1 ?_
  refine ww_lconst (v := 0) dX9_due_2 (by decide) ?_
  refine ww_ldc2 dX9_due_3 qX9_324 ?_
  refine ww_calls1 dX9_due_6 kX9_177 c9_in rfl rfl rfl rfl rfl rfl (Nat.zero_le _) (Nat.zero_le _) ?_
  refine ww_if_eq (tgt := 32) dX9_due_9 (by decide) (fun c9 => ?_) (fun c9 => ?_)
  · exact absurd c9 (by rw [in_c (a := 0) (b := 20000) rfl rfl, hx, nI_toInt (by omega)]; exact wb_ne0.mpr (decide_eq_true ⟨by omega, by omega⟩))
  · refine ww_iload_n dX9_due_12 rfl rfl ?_
    refine ww_i2l dX9_due_13 ?_
    refine ww_lconst (v := 1) dX9_due_14 (by decide) ?_
    refine ww_ldc2 dX9_due_15 qX9_329 ?_
    refine ww_calls1 dX9_due_18 kX9_177 c9_in rfl rfl rfl rfl rfl rfl (Nat.zero_le _) (Nat.zero_le _) ?_
    refine ww_if_eq (tgt := 32) dX9_due_21 (by decide) (fun c21 => ?_) (fun c21 => ?_)
    · exact absurd c21 (by rw [in_c (a := 1) (b := 99) rfl rfl, hy, nI_toInt (by omega)]; exact wb_ne0.mpr (decide_eq_true ⟨by omega, by omega⟩))
    · refine ww_iload_n dX9_due_24 rfl rfl ?_
      refine ww_iload_n dX9_due_25 rfl rfl ?_
      refine ww_calls1 dX9_due_26 kX9_331 (c9_behind hx hy hl (by omega) (wEn_lt (by omega) (by omega))) rfl rfl rfl rfl rfl rfl (Nat.zero_le _) (Nat.zero_le _) ?_
      refine ww_goto (tgt := 33) dX9_due_29 (by decide) ?_
      exact ww_iret dX9_due_33 rfl ⟨rfl, rfl⟩ (Nat.zero_le _) (Nat.zero_le _)
def dlM (R : Nat → Nat → Int32) (r w : Int32) : Nat → Int32 × Int32
  | 0 => (-1, -1)
  | t + 1 => if R 56 t = r ∧ R 57 t = w ∧ R 61 t = 2 ∧ (dlM R r w t).2 < R 70 t then (R 62 t, R 70 t) else dlM R r w t
set_option maxHeartbeats 4000000 in
theorem L9_didLast {x y : Int32} {c : Nat} {X : wX} (hc : F 55 = nI c) (hc2 : c ≤ 200) : ∀ (n t : Nat) (x3 x4 x5 : Int32), c - t < n → t ≤ c → x3 = (dlM R x y t).1 → x4 = (dlM R x y t).2 → x5 = nI t → WW G mX9_didLast cX9_didLast X (wZ G mX9_didLast X (Det (some (.int (dlM R x y c).1)) (mh m F tl R NL h0, sz))) 8 [some (.ref m), some (.int x), some (.int y), some (.int x3), some (.int x4), some (.int x5)] [] (mh m F tl R NL h0, sz) 0 0 := by
  intro n
  induction n with
  | zero => intro t x3 x4 x5 hn; exact absurd hn (by omega)
  | succ n ih =>
    intro t x3 x4 x5 hn ht i3 i4 i5
    refine ww_iload dX9_didLast_8 rfl ?_
    refine ww_aload_n dX9_didLast_10 rfl rfl ?_
    refine mm_geti dX9_didLast_11 fX9_311 rfl rfl ?_
    refine ww_icmp_ge (tgt := 85) dX9_didLast_14 (by decide) (fun c14 => ?_) (fun c14 => ?_)
    · have e1 := (w_le hc i5 (by omega) (by omega)).mp c14
      have e2 : t = c := by omega
      refine ww_iload_n dX9_didLast_85 rfl rfl ?_
      exact ww_iret dX9_didLast_86 rfl ⟨by rw [i3, e2], rfl⟩ (Nat.zero_le _) (Nat.zero_le _)
    · have e1 : t < c := by rcases Nat.lt_or_ge t c with q | q; exact q; exact absurd ((w_le hc i5 (by omega) (by omega)).mpr q) c14
      refine ww_aload_n dX9_didLast_17 rfl rfl ?_
      refine mm_getr dX9_didLast_18 fX9_128 rfl ?_
      refine ww_iload dX9_didLast_21 rfl ?_
      refine mm_iald dX9_didLast_23 rfl i5 (by omega) rfl rfl ?_
      refine ww_iload_n dX9_didLast_24 rfl rfl ?_
      refine ww_icmp_ne (tgt := 79) dX9_didLast_25 (by decide) (fun c25 => ?_) (fun c25 => ?_)
      · refine ww_iinc dX9_didLast_79 rfl rfl rfl rfl ?_
        refine ww_goto (tgt := 8) dX9_didLast_82 (by decide) ?_
        exact ih (t + 1) _ _ _ (by omega) (by omega) (by rw [i3, dlM, if_neg (fun q => c25 q.1)]) (by rw [i4, dlM, if_neg (fun q => c25 q.1)]) (w_inc i5)
      · refine ww_aload_n dX9_didLast_28 rfl rfl ?_
        refine mm_getr dX9_didLast_29 fX9_131 rfl ?_
        refine ww_iload dX9_didLast_32 rfl ?_
        refine mm_iald dX9_didLast_34 rfl i5 (by omega) rfl rfl ?_
        refine ww_iload_n dX9_didLast_35 rfl rfl ?_
        refine ww_icmp_ne (tgt := 79) dX9_didLast_36 (by decide) (fun c36 => ?_) (fun c36 => ?_)
        · refine ww_iinc dX9_didLast_79 rfl rfl rfl rfl ?_
          refine ww_goto (tgt := 8) dX9_didLast_82 (by decide) ?_
          exact ih (t + 1) _ _ _ (by omega) (by omega) (by rw [i3, dlM, if_neg (fun q => c36 q.2.1)]) (by rw [i4, dlM, if_neg (fun q => c36 q.2.1)]) (w_inc i5)
        · refine ww_aload_n dX9_didLast_39 rfl rfl ?_
          refine mm_getr dX9_didLast_40 fX9_143 rfl ?_
          refine ww_iload dX9_didLast_43 rfl ?_
          refine mm_iald dX9_didLast_45 rfl i5 (by omega) rfl rfl ?_
          refine ww_iconst (v := 2) dX9_didLast_46 (by decide) ?_
          refine ww_icmp_ne (tgt := 79) dX9_didLast_47 (by decide) (fun c47 => ?_) (fun c47 => ?_)
          · refine ww_iinc dX9_didLast_79 rfl rfl rfl rfl ?_
            refine ww_goto (tgt := 8) dX9_didLast_82 (by decide) ?_
            exact ih (t + 1) _ _ _ (by omega) (by omega) (by rw [i3, dlM, if_neg (fun q => c47 q.2.2.1)]) (by rw [i4, dlM, if_neg (fun q => c47 q.2.2.1)]) (w_inc i5)
          · refine ww_aload_n dX9_didLast_50 rfl rfl ?_
            refine mm_getr dX9_didLast_51 fX9_167 rfl ?_
            refine ww_iload dX9_didLast_54 rfl ?_
            refine mm_iald dX9_didLast_56 rfl i5 (by omega) rfl rfl ?_
            refine ww_iload dX9_didLast_57 rfl ?_
            refine ww_icmp_le (tgt := 79) dX9_didLast_59 (by decide) (fun c59 => ?_) (fun c59 => ?_)
            · refine ww_iinc dX9_didLast_79 rfl rfl rfl rfl ?_
              refine ww_goto (tgt := 8) dX9_didLast_82 (by decide) ?_
              exact ih (t + 1) _ _ _ (by omega) (by omega) (by rw [i3, dlM, if_neg (fun q => Int32.not_lt.mpr (by rw [← i4]; exact c59) q.2.2.2)]) (by rw [i4, dlM, if_neg (fun q => Int32.not_lt.mpr (by rw [← i4]; exact c59) q.2.2.2)]) (w_inc i5)
            · refine ww_aload_n dX9_didLast_62 rfl rfl ?_
              refine mm_getr dX9_didLast_63 fX9_167 rfl ?_
              refine ww_iload dX9_didLast_66 rfl ?_
              refine mm_iald dX9_didLast_68 rfl i5 (by omega) rfl rfl ?_
              refine ww_istore dX9_didLast_69 rfl rfl ?_
              refine ww_aload_n dX9_didLast_71 rfl rfl ?_
              refine mm_getr dX9_didLast_72 fX9_146 rfl ?_
              refine ww_iload dX9_didLast_75 rfl ?_
              refine mm_iald dX9_didLast_77 rfl i5 (by omega) rfl rfl ?_
              refine ww_istore_n dX9_didLast_78 rfl rfl rfl ?_
              refine ww_iinc dX9_didLast_79 rfl rfl rfl rfl ?_
              refine ww_goto (tgt := 8) dX9_didLast_82 (by decide) ?_
              exact ih (t + 1) _ _ _ (by omega) (by omega) (by rw [dlM, if_pos ⟨c25, c36, c47, Int32.not_le.mp (by rw [← i4]; exact c59)⟩]) (by rw [dlM, if_pos ⟨c25, c36, c47, Int32.not_le.mp (by rw [← i4]; exact c59)⟩]) (w_inc i5)
set_option maxHeartbeats 4000000 in
theorem c9_didLast {x y : Int32} {c : Nat} (hc : F 55 = nI c) (hc2 : c ≤ 200) : Sat G mX9_didLast [.ref m, .int x, .int y] (mh m F tl R NL h0, sz) (Det (some (.int (dlM R x y c).1)) (mh m F tl R NL h0, sz)) := by
  refine Sat.of (by decide) [some (.ref m), some (.int x), some (.int y), none, none, none] rfl rfl (fun X => ?_)
  refine ww_iconst (v := -1) dX9_didLast_0 (by decide) ?_
  refine ww_istore_n dX9_didLast_1 rfl rfl rfl ?_
  refine ww_iconst (v := -1) dX9_didLast_2 (by decide) ?_
  refine ww_istore dX9_didLast_3 rfl rfl ?_
  refine ww_iconst (v := 0) dX9_didLast_5 (by decide) ?_
  refine ww_istore dX9_didLast_6 rfl rfl ?_
  exact L9_didLast hc hc2 (c + 1) 0 _ _ _ (by omega) (by omega) rfl rfl rfl
end M3
