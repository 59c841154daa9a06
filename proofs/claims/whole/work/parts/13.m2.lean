def inR (x : Int32) (a b : Int) : Bool := decide (a ≤ x.toInt ∧ x.toInt ≤ b)
def cntB (P : Nat → Bool) : Nat → Nat
  | 0 => 0
  | n + 1 => cntB P n + (if P n = true then 1 else 0)
theorem cntB_t {P : Nat → Bool} {t : Nat} (h : P t = true) : cntB P (t + 1) = cntB P t + 1 := by simp [cntB, h]
theorem cntB_f {P : Nat → Bool} {t : Nat} (h : P t = false) : cntB P (t + 1) = cntB P t := by simp [cntB, h]
theorem cntB_le (P : Nat → Bool) : ∀ n, cntB P n ≤ n
  | 0 => Nat.le_refl 0
  | n + 1 => by
    have := cntB_le P n
    simp only [cntB]
    split <;> omega
def anyB (P : Nat → Bool) : Nat → Bool
  | 0 => false
  | n + 1 => anyB P n || P n
theorem w_inc {x : Int32} {t : Nat} (h : x = nI t) : x + Int32.ofInt 1 = nI (t + 1) := by rw [h]; exact nI_1 t
theorem w_add0 (x : Int32) : x + 0 = x := Int32.add_zero x
theorem w_le {x y : Int32} {a b : Nat} (hx : x = nI a) (hy : y = nI b) (ha : a < 2 ^ 31) (hb : b < 2 ^ 31) : x ≤ y ↔ a ≤ b := by rw [hx, hy]; exact nI_leI ha hb
section M2
variable {G : wG} {m : Nat} {F : Nat → Int32} {tl : Int64} {R : Nat → Nat → Int32} {NL : Nat → Int64} {h0 : Nat → Option wE} {sz : Nat}

set_option maxHeartbeats 4000000 in
theorem c9_person0 {x y : Int32} {c : Nat} (hc : F 64 = nI c) (hc2 : c ≤ 8) (hno : (inR x 0 63 && inR y 1 9 && decide (c < 8)) = false) : Sat G mX9_person [.ref m, .int x, .int y] (mh m F tl R NL h0, sz) (Det (some (.int (-1))) (mh m F tl R NL h0, sz)) := by
  refine Sat.of (by decide) [some (.ref m), some (.int x), some (.int y)] rfl rfl (fun X => ?_)
  refine ww_iload_n dX9_person_0 rfl rfl ?_
  refine ww_i2l dX9_person_1 ?_
  refine ww_lconst (v := 0) dX9_person_2 (by decide) ?_
  refine ww_ldc2 dX9_person_3 qX9_314 ?_
  refine ww_calls1 dX9_person_6 kX9_177 c9_in rfl rfl rfl rfl rfl rfl (Nat.zero_le _) (Nat.zero_le _) ?_
  refine ww_if_eq (tgt := 33) dX9_person_9 (by decide) (fun c9 => ?_) (fun c9 => ?_)
  · refine ww_iconst (v := -1) dX9_person_33 (by decide) ?_
    exact ww_iret dX9_person_34 rfl ⟨rfl, rfl⟩ (Nat.zero_le _) (Nat.zero_le _)
  · refine ww_iload_n dX9_person_12 rfl rfl ?_
    refine ww_i2l dX9_person_13 ?_
    refine ww_lconst (v := 1) dX9_person_14 (by decide) ?_
    refine ww_ldc2 dX9_person_15 qX9_316 ?_
    refine ww_calls1 dX9_person_18 kX9_177 c9_in rfl rfl rfl rfl rfl rfl (Nat.zero_le _) (Nat.zero_le _) ?_
    refine ww_if_eq (tgt := 33) dX9_person_21 (by decide) (fun c21 => ?_) (fun c21 => ?_)
    · refine ww_iconst (v := -1) dX9_person_33 (by decide) ?_
      exact ww_iret dX9_person_34 rfl ⟨rfl, rfl⟩ (Nat.zero_le _) (Nat.zero_le _)
    · refine ww_aload_n dX9_person_24 rfl rfl ?_
      refine mm_geti dX9_person_25 fX9_308 rfl rfl ?_
      refine ww_bipush (v := 8) dX9_person_28 (by decide) ?_
      refine ww_icmp_ne (tgt := 35) dX9_person_30 (by decide) (fun c30 => ?_) (fun c30 => ?_)
      · exact absurd hno (by rw [wb_ne0.mp (by rw [in_c (a := 0) (b := 63) rfl rfl] at c9; exact c9 : ¬ wb (inR x 0 63) = 0), wb_ne0.mp (by rw [in_c (a := 1) (b := 9) rfl rfl] at c21; exact c21 : ¬ wb (inR y 1 9) = 0), decide_eq_true (show c < 8 by rcases Nat.lt_or_ge c 8 with q | q; exact q; exact absurd (by rw [hc, show c = 8 by omega]; rfl) c30)]; decide)
      · refine ww_iconst (v := -1) dX9_person_33 (by decide) ?_
        exact ww_iret dX9_person_34 rfl ⟨rfl, rfl⟩ (Nat.zero_le _) (Nat.zero_le _)
set_option maxHeartbeats 4000000 in
theorem c9_person {x y : Int32} {c : Nat} (hc : F 64 = nI c) (hc2 : c < 8) (hx : inR x 0 63 = true) (hy : inR y 1 9 = true) : Sat G mX9_person [.ref m, .int x, .int y] (mh m F tl R NL h0, sz) (Det (some (.int (nI c))) (mh m (upd F 64 (nI (c + 1))) tl (va_up (va_up (va_up (va_up R 65 (upd (R 65) c x)) 66 (upd (R 66) c y)) 67 (upd (R 67) c (-1))) 68 (upd (R 68) c 0)) NL h0, sz)) := by
  refine Sat.of (by decide) [some (.ref m), some (.int x), some (.int y)] rfl rfl (fun X => ?_)
  refine ww_iload_n dX9_person_0 rfl rfl ?_
  refine ww_i2l dX9_person_1 ?_
  refine ww_lconst (v := 0) dX9_person_2 (by decide) ?_
  refine ww_ldc2 dX9_person_3 qX9_314 ?_
  refine ww_calls1 dX9_person_6 kX9_177 c9_in rfl rfl rfl rfl rfl rfl (Nat.zero_le _) (Nat.zero_le _) ?_
  refine ww_if_eq (tgt := 33) dX9_person_9 (by decide) (fun c9 => ?_) (fun c9 => ?_)
  · exact absurd c9 (by rw [in_c (a := 0) (b := 63) rfl rfl]; exact wb_ne0.mpr hx)
  · refine ww_iload_n dX9_person_12 rfl rfl ?_
    refine ww_i2l dX9_person_13 ?_
    refine ww_lconst (v := 1) dX9_person_14 (by decide) ?_
    refine ww_ldc2 dX9_person_15 qX9_316 ?_
    refine ww_calls1 dX9_person_18 kX9_177 c9_in rfl rfl rfl rfl rfl rfl (Nat.zero_le _) (Nat.zero_le _) ?_
    refine ww_if_eq (tgt := 33) dX9_person_21 (by decide) (fun c21 => ?_) (fun c21 => ?_)
    · exact absurd c21 (by rw [in_c (a := 1) (b := 9) rfl rfl]; exact wb_ne0.mpr hy)
    · refine ww_aload_n dX9_person_24 rfl rfl ?_
      refine mm_geti dX9_person_25 fX9_308 rfl rfl ?_
      refine ww_bipush (v := 8) dX9_person_28 (by decide) ?_
      refine ww_icmp_ne (tgt := 35) dX9_person_30 (by decide) (fun c30 => ?_) (fun c30 => ?_)
      · refine ww_aload_n dX9_person_35 rfl rfl ?_
        refine mm_getr dX9_person_36 fX9_152 rfl ?_
        refine ww_aload_n dX9_person_39 rfl rfl ?_
        refine mm_geti dX9_person_40 fX9_308 rfl rfl ?_
        refine ww_iload_n dX9_person_43 rfl rfl ?_
        refine mm_iast dX9_person_44 rfl hc (by omega) rfl rfl ?_
        refine ww_aload_n dX9_person_45 rfl rfl ?_
        refine mm_getr dX9_person_46 fX9_155 rfl ?_
        refine ww_aload_n dX9_person_49 rfl rfl ?_
        refine mm_geti dX9_person_50 fX9_308 rfl rfl ?_
        refine ww_iload_n dX9_person_53 rfl rfl ?_
        refine mm_iast dX9_person_54 rfl hc (by omega) rfl rfl ?_
        refine ww_aload_n dX9_person_55 rfl rfl ?_
        refine mm_getr dX9_person_56 fX9_158 rfl ?_
        refine ww_aload_n dX9_person_59 rfl rfl ?_
        refine mm_geti dX9_person_60 fX9_308 rfl rfl ?_
        refine ww_iconst (v := -1) dX9_person_63 (by decide) ?_
        refine mm_iast dX9_person_64 rfl hc (by omega) rfl rfl ?_
        refine ww_aload_n dX9_person_65 rfl rfl ?_
        refine mm_getr dX9_person_66 fX9_161 rfl ?_
        refine ww_aload_n dX9_person_69 rfl rfl ?_
        refine mm_geti dX9_person_70 fX9_308 rfl rfl ?_
        refine ww_iconst (v := 0) dX9_person_73 (by decide) ?_
        refine mm_zast dX9_person_74 rfl hc (by omega) rfl rfl ?_
        refine ww_aload_n dX9_person_75 rfl rfl ?_
        refine ww_dup dX9_person_76 rfl ?_
        refine mm_geti dX9_person_77 fX9_308 rfl rfl ?_
        refine ww_iconst (v := 1) dX9_person_80 (by decide) ?_
        refine ww_iadd dX9_person_81 ?_
        refine mm_puti dX9_person_82 fX9_308 rfl rfl ?_
        refine ww_aload_n dX9_person_85 rfl rfl ?_
        refine mm_geti dX9_person_86 fX9_308 rfl rfl ?_
        refine ww_iconst (v := 1) dX9_person_89 (by decide) ?_
        refine ww_isub dX9_person_90 ?_
        exact ww_iret dX9_person_91 rfl ⟨by simp only [w_upd_self, hc]; rw [nI_1, nI_pred], by simp only [hc]; rw [nI_1]; rfl⟩ (Nat.zero_le _) (Nat.zero_le _)
      · exact absurd c30 (by rw [hc]; exact fun q => absurd ((nI_eq (a := c) (b := 8) (by omega) (by decide)).mp q) (by omega))
set_option maxHeartbeats 4000000 in
theorem c9_deputy0 {x y : Int32} {c : Nat} (hc : F 64 = nI c) (hc2 : c ≤ 8) (hno : wIn x c = false) : Sat G mX9_deputy [.ref m, .int x, .int y] (mh m F tl R NL h0, sz) (Det (some (.int 0)) (mh m F tl R NL h0, sz)) := by
  refine Sat.of (by decide) [some (.ref m), some (.int x), some (.int y)] rfl rfl (fun X => ?_)
  refine ww_aload_n dX9_deputy_0 rfl rfl ?_
  refine ww_iload_n dX9_deputy_1 rfl rfl ?_
  refine mm_call1 dX9_deputy_2 kX9_318 rfl (c9_isPerson hc (by omega)) rfl rfl rfl rfl rfl rfl (Nat.zero_le _) (Nat.zero_le _) ?_
  refine ww_if_eq (tgt := 26) dX9_deputy_5 (by decide) (fun c5 => ?_) (fun c5 => ?_)
  · refine ww_iconst (v := 0) dX9_deputy_26 (by decide) ?_
    exact ww_zret dX9_deputy_27 rfl (Or.inl rfl) ⟨rfl, rfl⟩ (Nat.zero_le _) (Nat.zero_le _)
  · exact absurd c5 (fun q => q (wb_eq0.mpr hno))
set_option maxHeartbeats 4000000 in
theorem c9_deputy {x y : Int32} {c p : Nat} (hc : F 64 = nI c) (hc2 : c ≤ 8) (hp : x = nI p) (hpc : p < c) : Sat G mX9_deputy [.ref m, .int x, .int y] (mh m F tl R NL h0, sz) (Det (some (.int (if ¬ y = x ∧ (y = -1 ∨ wIn y c = true) then 1 else 0))) (if ¬ y = x ∧ (y = -1 ∨ wIn y c = true) then (mh m F tl (va_up R 67 (upd (R 67) p y)) NL h0, sz) else (mh m F tl R NL h0, sz))) := by
  refine Sat.of (by decide) [some (.ref m), some (.int x), some (.int y)] rfl rfl (fun X => ?_)
  refine ww_aload_n dX9_deputy_0 rfl rfl ?_
  refine ww_iload_n dX9_deputy_1 rfl rfl ?_
  refine mm_call1 dX9_deputy_2 kX9_318 rfl (c9_isPerson hc (by omega)) rfl rfl rfl rfl rfl rfl (Nat.zero_le _) (Nat.zero_le _) ?_
  refine ww_if_eq (tgt := 26) dX9_deputy_5 (by decide) (fun c5 => ?_) (fun c5 => ?_)
  · exact absurd c5 (by rw [hp, wIn_nI hpc (by omega)]; decide)
  · refine ww_iload_n dX9_deputy_8 rfl rfl ?_
    refine ww_iload_n dX9_deputy_9 rfl rfl ?_
    refine ww_icmp_eq (tgt := 26) dX9_deputy_10 (by decide) (fun c10 => ?_) (fun c10 => ?_)
    · refine ww_iconst (v := 0) dX9_deputy_26 (by decide) ?_
      exact ww_zret dX9_deputy_27 rfl (Or.inl rfl) ⟨by rw [if_neg (fun q => q.1 c10)], by rw [if_neg (fun q => q.1 c10)]⟩ (Nat.zero_le _) (Nat.zero_le _)
    · refine ww_iload_n dX9_deputy_13 rfl rfl ?_
      refine ww_iconst (v := -1) dX9_deputy_14 (by decide) ?_
      refine ww_icmp_eq (tgt := 28) dX9_deputy_15 (by decide) (fun c15 => ?_) (fun c15 => ?_)
      · refine ww_aload_n dX9_deputy_28 rfl rfl ?_
        refine mm_getr dX9_deputy_29 fX9_158 rfl ?_
        refine ww_iload_n dX9_deputy_32 rfl rfl ?_
        refine ww_iload_n dX9_deputy_33 rfl rfl ?_
        refine mm_iast dX9_deputy_34 rfl hp (by omega) rfl rfl ?_
        refine ww_iconst (v := 1) dX9_deputy_35 (by decide) ?_
        exact ww_zret dX9_deputy_36 rfl (Or.inr rfl) ⟨by rw [if_pos ⟨c10, Or.inl c15⟩], by rw [if_pos ⟨c10, Or.inl c15⟩]⟩ (Nat.zero_le _) (Nat.zero_le _)
      · refine ww_aload_n dX9_deputy_18 rfl rfl ?_
        refine ww_iload_n dX9_deputy_19 rfl rfl ?_
        refine mm_call1 dX9_deputy_20 kX9_318 rfl (c9_isPerson hc (by omega)) rfl rfl rfl rfl rfl rfl (Nat.zero_le _) (Nat.zero_le _) ?_
        refine ww_if_ne (tgt := 28) dX9_deputy_23 (by decide) (fun c23 => ?_) (fun c23 => ?_)
        · refine ww_aload_n dX9_deputy_28 rfl rfl ?_
          refine mm_getr dX9_deputy_29 fX9_158 rfl ?_
          refine ww_iload_n dX9_deputy_32 rfl rfl ?_
          refine ww_iload_n dX9_deputy_33 rfl rfl ?_
          refine mm_iast dX9_deputy_34 rfl hp (by omega) rfl rfl ?_
          refine ww_iconst (v := 1) dX9_deputy_35 (by decide) ?_
          exact ww_zret dX9_deputy_36 rfl (Or.inr rfl) ⟨by rw [if_pos ⟨c10, Or.inr (wb_ne0.mp c23)⟩], by rw [if_pos ⟨c10, Or.inr (wb_ne0.mp c23)⟩]⟩ (Nat.zero_le _) (Nat.zero_le _)
        · refine ww_iconst (v := 0) dX9_deputy_26 (by decide) ?_
          exact ww_zret dX9_deputy_27 rfl (Or.inl rfl) ⟨by rw [if_neg (fun q => q.2.elim c15 (wb_nt (wb_eq0.mp c23)))], by rw [if_neg (fun q => q.2.elim c15 (wb_nt (wb_eq0.mp c23)))]⟩ (Nat.zero_le _) (Nat.zero_le _)
set_option maxHeartbeats 4000000 in
theorem c9_hour {x : Int32} : Sat G mX9_hour [.ref m, .int x] (mh m F tl R NL h0, sz) (Det (some (.int (if decide ((F 54).toInt ≤ x.toInt ∧ x.toInt ≤ 20000) = true then 1 else 0))) (if decide ((F 54).toInt ≤ x.toInt ∧ x.toInt ≤ 20000) = true then (mh m (upd F 54 x) tl R NL h0, sz) else (mh m F tl R NL h0, sz))) := by
  refine Sat.of (by decide) [some (.ref m), some (.int x)] rfl rfl (fun X => ?_)
  refine ww_iload_n dX9_hour_0 rfl rfl ?_
  refine ww_i2l dX9_hour_1 ?_
  refine ww_aload_n dX9_hour_2 rfl rfl ?_
  refine mm_geti dX9_hour_3 fX9_321 rfl rfl ?_
  refine ww_i2l dX9_hour_6 ?_
  refine ww_ldc2 dX9_hour_7 qX9_324 ?_
  refine ww_calls1 dX9_hour_10 kX9_177 c9_in rfl rfl rfl rfl rfl rfl (Nat.zero_le _) (Nat.zero_le _) ?_
  refine ww_if_ne (tgt := 18) dX9_hour_13 (by decide) (fun c13 => ?_) (fun c13 => ?_)
  · refine ww_aload_n dX9_hour_18 rfl rfl ?_
    refine ww_iload_n dX9_hour_19 rfl rfl ?_
    refine mm_puti dX9_hour_20 fX9_321 rfl rfl ?_
    refine ww_iconst (v := 1) dX9_hour_23 (by decide) ?_
    exact ww_zret dX9_hour_24 rfl (Or.inr rfl) ⟨by rw [in_c (a := (F 54).toInt) (b := 20000) (Int32.toInt_toInt64 _) rfl] at c13; rw [if_pos (wb_ne0.mp c13)], by rw [in_c (a := (F 54).toInt) (b := 20000) (Int32.toInt_toInt64 _) rfl] at c13; rw [if_pos (wb_ne0.mp c13)]⟩ (Nat.zero_le _) (Nat.zero_le _)
  · refine ww_iconst (v := 0) dX9_hour_16 (by decide) ?_
    exact ww_zret dX9_hour_17 rfl (Or.inl rfl) ⟨by rw [in_c (a := (F 54).toInt) (b := 20000) (Int32.toInt_toInt64 _) rfl] at c13; rw [if_neg (wb_nt (wb_eq0.mp c13))], by rw [in_c (a := (F 54).toInt) (b := 20000) (Int32.toInt_toInt64 _) rfl] at c13; rw [if_neg (wb_nt (wb_eq0.mp c13))]⟩ (Nat.zero_le _) (Nat.zero_le _)
theorem w_lit {x : Int32} {j n : Nat} (h : x.toInt = 0 + (j : Int)) (hj : j = n) (hn : n < 2 ^ 31 := by decide) : x = nI n := by
  subst hj
  apply Int32.toInt_inj.mp
  rw [nI_toInt hn]
  omega
def aboutM (F : Nat → Int32) (x : Int32) : Int32 := if x = nI 0 then F 23 else if x = nI 1 then (if F 23 < 0 then -1 else F 24) else if x = nI 2 then F 64 else if x = nI 3 then F 54 else if x = nI 4 then F 40 else if x = nI 5 then F 55 else if x = nI 6 then F 1 else -1
theorem ab_1 : aboutM F (nI 1) = if F 23 < 0 then -1 else F 24 := rfl
theorem w_nlit {x : Int32} {lo hi : Int} {n : Nat} (h : x.toInt < lo ∨ hi < x.toInt) (h1 : lo ≤ n) (h2 : (n : Int) ≤ hi) (hn : n < 2 ^ 31 := by decide) : ¬ x = nI n := by
  intro e
  rw [e, nI_toInt hn] at h
  omega
theorem ab_out {x : Int32} (h : x.toInt < 0 ∨ 6 < x.toInt) : aboutM F x = -1 := by
  unfold aboutM
  rw [if_neg (w_nlit h (by decide) (by decide)), if_neg (w_nlit h (by decide) (by decide)), if_neg (w_nlit h (by decide) (by decide)), if_neg (w_nlit h (by decide) (by decide)), if_neg (w_nlit h (by decide) (by decide)), if_neg (w_nlit h (by decide) (by decide)), if_neg (w_nlit h (by decide) (by decide))]
set_option maxHeartbeats 4000000 in
theorem c9_about {x : Int32} : Sat G mX9_about [.ref m, .int x] (mh m F tl R NL h0, sz) (Det (some (.int (aboutM F x))) (mh m F tl R NL h0, sz)) := by
  refine Sat.of (by decide) [some (.ref m), some (.int x)] rfl rfl (fun X => ?_)
  refine ww_iload_n dX9_about_0 rfl rfl ?_
  refine ww_table [44, 49, 65, 70, 75, 80, 85] 90 dX9_about_1 (by decide) (by decide) (by decide) (fun j1 t1 ht1 c1 => ?_) (fun c1 => ?_)
  · rcases j1 with _ | _ | _ | _ | _ | _ | _ | j
    · cases ht1
      refine ww_aload_n dX9_about_44 rfl rfl ?_
      refine mm_geti dX9_about_45 fX9_46 rfl rfl ?_
      exact ww_iret dX9_about_48 rfl ⟨by rw [w_lit (n := 0) c1 (by decide)]; rfl, rfl⟩ (Nat.zero_le _) (Nat.zero_le _)
    · cases ht1
      refine ww_aload_n dX9_about_49 rfl rfl ?_
      refine mm_geti dX9_about_50 fX9_46 rfl rfl ?_
      refine ww_if_ge (tgt := 60) dX9_about_53 (by decide) (fun c53 => ?_) (fun c53 => ?_)
      · refine ww_aload_n dX9_about_60 rfl rfl ?_
        refine mm_geti dX9_about_61 fX9_302 rfl rfl ?_
        exact ww_iret dX9_about_64 rfl ⟨by rw [w_lit (n := 1) c1 (by decide), ab_1, if_neg (Int32.not_lt.mpr c53)], rfl⟩ (Nat.zero_le _) (Nat.zero_le _)
      · refine ww_iconst (v := -1) dX9_about_56 (by decide) ?_
        refine ww_goto (tgt := 64) dX9_about_57 (by decide) ?_
        exact ww_iret dX9_about_64 rfl ⟨by rw [w_lit (n := 1) c1 (by decide), ab_1, if_pos (Int32.not_le.mp c53)], rfl⟩ (Nat.zero_le _) (Nat.zero_le _)
    · cases ht1
      refine ww_aload_n dX9_about_65 rfl rfl ?_
      refine mm_geti dX9_about_66 fX9_308 rfl rfl ?_
      exact ww_iret dX9_about_69 rfl ⟨by rw [w_lit (n := 2) c1 (by decide)]; rfl, rfl⟩ (Nat.zero_le _) (Nat.zero_le _)
    · cases ht1
      refine ww_aload_n dX9_about_70 rfl rfl ?_
      refine mm_geti dX9_about_71 fX9_321 rfl rfl ?_
      exact ww_iret dX9_about_74 rfl ⟨by rw [w_lit (n := 3) c1 (by decide)]; rfl, rfl⟩ (Nat.zero_le _) (Nat.zero_le _)
    · cases ht1
      refine ww_aload_n dX9_about_75 rfl rfl ?_
      refine mm_geti dX9_about_76 fX9_339 rfl rfl ?_
      exact ww_iret dX9_about_79 rfl ⟨by rw [w_lit (n := 4) c1 (by decide)]; rfl, rfl⟩ (Nat.zero_le _) (Nat.zero_le _)
    · cases ht1
      refine ww_aload_n dX9_about_80 rfl rfl ?_
      refine mm_geti dX9_about_81 fX9_311 rfl rfl ?_
      exact ww_iret dX9_about_84 rfl ⟨by rw [w_lit (n := 5) c1 (by decide)]; rfl, rfl⟩ (Nat.zero_le _) (Nat.zero_le _)
    · cases ht1
      refine ww_aload_n dX9_about_85 rfl rfl ?_
      refine mm_geti dX9_about_86 fX9_170 rfl rfl ?_
      exact ww_iret dX9_about_89 rfl ⟨by rw [w_lit (n := 6) c1 (by decide)]; rfl, rfl⟩ (Nat.zero_le _) (Nat.zero_le _)
    · cases ht1
  · refine ww_iconst (v := -1) dX9_about_90 (by decide) ?_
    exact ww_iret dX9_about_91 rfl ⟨by rw [ab_out c1], rfl⟩ (Nat.zero_le _) (Nat.zero_le _)
def Pcl (R : Nat → Nat → Int32) (x : Int32) : Nat → Bool := fun j => decide (R 61 j = 1) && decide (R 62 j = x)
set_option maxHeartbeats 4000000 in
theorem L9_claims {x : Int32} {c : Nat} {X : wX} (hc : F 55 = nI c) (hc2 : c ≤ 200) : ∀ (n t : Nat) (x2 x3 : Int32), c - t < n → t ≤ c → x2 = nI (cntB (Pcl R x) t) → x3 = nI t → WW G mX9_claims cX9_claims X (wZ G mX9_claims X (Det (some (.int (nI (cntB (Pcl R x) c)))) (mh m F tl R NL h0, sz))) 4 [some (.ref m), some (.int x), some (.int x2), some (.int x3)] [] (mh m F tl R NL h0, sz) 0 0 := by
  intro n
  induction n with
  | zero => intro t x2 x3 hn; exact absurd hn (by omega)
  | succ n ih =>
    intro t x2 x3 hn ht i2 i3
    refine ww_iload_n dX9_claims_4 rfl rfl ?_
    refine ww_aload_n dX9_claims_5 rfl rfl ?_
    refine mm_geti dX9_claims_6 fX9_311 rfl rfl ?_
    refine ww_icmp_ge (tgt := 46) dX9_claims_9 (by decide) (fun c9 => ?_) (fun c9 => ?_)
    · have e1 := (w_le hc i3 (by omega) (by omega)).mp c9
      have e2 : t = c := by omega
      refine ww_iload_n dX9_claims_46 rfl rfl ?_
      exact ww_iret dX9_claims_47 rfl ⟨by rw [i2, e2], rfl⟩ (Nat.zero_le _) (Nat.zero_le _)
    · have e1 : t < c := by rcases Nat.lt_or_ge t c with q | q; exact q; exact absurd ((w_le hc i3 (by omega) (by omega)).mpr q) c9
      refine ww_iload_n dX9_claims_12 rfl rfl ?_
      refine ww_aload_n dX9_claims_13 rfl rfl ?_
      refine mm_getr dX9_claims_14 fX9_143 rfl ?_
      refine ww_iload_n dX9_claims_17 rfl rfl ?_
      refine mm_iald dX9_claims_18 rfl i3 (by omega) rfl rfl ?_
      refine ww_iconst (v := 1) dX9_claims_19 (by decide) ?_
      refine ww_icmp_ne (tgt := 37) dX9_claims_20 (by decide) (fun c20 => ?_) (fun c20 => ?_)
      · refine ww_iconst (v := 0) dX9_claims_37 (by decide) ?_
        refine ww_iadd dX9_claims_38 ?_
        refine ww_istore_n dX9_claims_39 rfl rfl rfl ?_
        refine ww_iinc dX9_claims_40 rfl rfl rfl rfl ?_
        refine ww_goto (tgt := 4) dX9_claims_43 (by decide) ?_
        exact ih (t + 1) _ _ (by omega) (by omega) (by rw [i2, w_add0, cntB_f (by simp [Pcl, c20])]) (w_inc i3)
      · refine ww_aload_n dX9_claims_23 rfl rfl ?_
        refine mm_getr dX9_claims_24 fX9_146 rfl ?_
        refine ww_iload_n dX9_claims_27 rfl rfl ?_
        refine mm_iald dX9_claims_28 rfl i3 (by omega) rfl rfl ?_
        refine ww_iload_n dX9_claims_29 rfl rfl ?_
        refine ww_icmp_ne (tgt := 37) dX9_claims_30 (by decide) (fun c30 => ?_) (fun c30 => ?_)
        · refine ww_iconst (v := 0) dX9_claims_37 (by decide) ?_
          refine ww_iadd dX9_claims_38 ?_
          refine ww_istore_n dX9_claims_39 rfl rfl rfl ?_
          refine ww_iinc dX9_claims_40 rfl rfl rfl rfl ?_
          refine ww_goto (tgt := 4) dX9_claims_43 (by decide) ?_
          exact ih (t + 1) _ _ (by omega) (by omega) (by rw [i2, w_add0, cntB_f (by simp [Pcl, c30])]) (w_inc i3)
        · refine ww_iconst (v := 1) dX9_claims_33 (by decide) ?_
          refine ww_goto (tgt := 38) dX9_claims_34 (by decide) ?_
          refine ww_iadd dX9_claims_38 ?_
          refine ww_istore_n dX9_claims_39 rfl rfl rfl ?_
          refine ww_iinc dX9_claims_40 rfl rfl rfl rfl ?_
          refine ww_goto (tgt := 4) dX9_claims_43 (by decide) ?_
          exact ih (t + 1) _ _ (by omega) (by omega) (by rw [i2, cntB_t (by simp [Pcl, c20, c30])]; exact nI_1 _) (w_inc i3)
set_option maxHeartbeats 4000000 in
theorem c9_claims {x : Int32} {c : Nat} (hc : F 55 = nI c) (hc2 : c ≤ 200) : Sat G mX9_claims [.ref m, .int x] (mh m F tl R NL h0, sz) (Det (some (.int (nI (cntB (Pcl R x) c)))) (mh m F tl R NL h0, sz)) := by
  refine Sat.of (by decide) [some (.ref m), some (.int x), none, none] rfl rfl (fun X => ?_)
  refine ww_iconst (v := 0) dX9_claims_0 (by decide) ?_
  refine ww_istore_n dX9_claims_1 rfl rfl rfl ?_
  refine ww_iconst (v := 0) dX9_claims_2 (by decide) ?_
  refine ww_istore_n dX9_claims_3 rfl rfl rfl ?_
  exact L9_claims hc hc2 (c + 1) 0 _ _ (by omega) (by omega) rfl rfl
def Plt (F : Nat → Int32) (R : Nat → Nat → Int32) : Nat → Bool := fun j => !decide (R 61 j = 2) && decide (R 60 j < F 54)
set_option maxHeartbeats 4000000 in
theorem L9_late {c : Nat} {X : wX} (hc : F 55 = nI c) (hc2 : c ≤ 200) : ∀ (n t : Nat) (x2 x3 : Int32), c - t < n → t ≤ c → x2 = nI (cntB (Plt F R) t) → x3 = nI t → WW G mX9_late cX9_late X (wZ G mX9_late X (Det (some (.int (nI (cntB (Plt F R) c)))) (mh m F tl R NL h0, sz))) 4 [some (.ref m), some (.int x2), some (.int x3)] [] (mh m F tl R NL h0, sz) 0 0 := by
  intro n
  induction n with
  | zero => intro t x2 x3 hn; exact absurd hn (by omega)
  | succ n ih =>
    intro t x2 x3 hn ht i2 i3
    refine ww_iload_n dX9_late_4 rfl rfl ?_
    refine ww_aload_n dX9_late_5 rfl rfl ?_
    refine mm_geti dX9_late_6 fX9_311 rfl rfl ?_
    refine ww_icmp_ge (tgt := 49) dX9_late_9 (by decide) (fun c9 => ?_) (fun c9 => ?_)
    · have e1 := (w_le hc i3 (by omega) (by omega)).mp c9
      have e2 : t = c := by omega
      refine ww_iload_n dX9_late_49 rfl rfl ?_
      exact ww_iret dX9_late_50 rfl ⟨by rw [i2, e2], rfl⟩ (Nat.zero_le _) (Nat.zero_le _)
    · have e1 : t < c := by rcases Nat.lt_or_ge t c with q | q; exact q; exact absurd ((w_le hc i3 (by omega) (by omega)).mpr q) c9
      refine ww_iload_n dX9_late_12 rfl rfl ?_
      refine ww_aload_n dX9_late_13 rfl rfl ?_
      refine mm_getr dX9_late_14 fX9_143 rfl ?_
      refine ww_iload_n dX9_late_17 rfl rfl ?_
      refine mm_iald dX9_late_18 rfl i3 (by omega) rfl rfl ?_
      refine ww_iconst (v := 2) dX9_late_19 (by decide) ?_
      refine ww_icmp_eq (tgt := 40) dX9_late_20 (by decide) (fun c20 => ?_) (fun c20 => ?_)
      · refine ww_iconst (v := 0) dX9_late_40 (by decide) ?_
        refine ww_iadd dX9_late_41 ?_
        refine ww_istore_n dX9_late_42 rfl rfl rfl ?_
        refine ww_iinc dX9_late_43 rfl rfl rfl rfl ?_
        refine ww_goto (tgt := 4) dX9_late_46 (by decide) ?_
        exact ih (t + 1) _ _ (by omega) (by omega) (by rw [i2, w_add0, cntB_f (by simp [Plt, c20])]) (w_inc i3)
      · refine ww_aload_n dX9_late_23 rfl rfl ?_
        refine mm_getr dX9_late_24 fX9_140 rfl ?_
        refine ww_iload_n dX9_late_27 rfl rfl ?_
        refine mm_iald dX9_late_28 rfl i3 (by omega) rfl rfl ?_
        refine ww_aload_n dX9_late_29 rfl rfl ?_
        refine mm_geti dX9_late_30 fX9_321 rfl rfl ?_
        refine ww_icmp_ge (tgt := 40) dX9_late_33 (by decide) (fun c33 => ?_) (fun c33 => ?_)
        · refine ww_iconst (v := 0) dX9_late_40 (by decide) ?_
          refine ww_iadd dX9_late_41 ?_
          refine ww_istore_n dX9_late_42 rfl rfl rfl ?_
          refine ww_iinc dX9_late_43 rfl rfl rfl rfl ?_
          refine ww_goto (tgt := 4) dX9_late_46 (by decide) ?_
          exact ih (t + 1) _ _ (by omega) (by omega) (by rw [i2, w_add0, cntB_f (by simp [Plt, Int32.not_lt.mpr c33])]) (w_inc i3)
        · refine ww_iconst (v := 1) dX9_late_36 (by decide) ?_
          refine ww_goto (tgt := 41) dX9_late_37 (by decide) ?_
          refine ww_iadd dX9_late_41 ?_
          refine ww_istore_n dX9_late_42 rfl rfl rfl ?_
          refine ww_iinc dX9_late_43 rfl rfl rfl rfl ?_
          refine ww_goto (tgt := 4) dX9_late_46 (by decide) ?_
          exact ih (t + 1) _ _ (by omega) (by omega) (by rw [i2, cntB_t (by simp [Plt, c20, Int32.not_le.mp c33])]; exact nI_1 _) (w_inc i3)
set_option maxHeartbeats 4000000 in
theorem c9_late {c : Nat} (hc : F 55 = nI c) (hc2 : c ≤ 200) : Sat G mX9_late [.ref m] (mh m F tl R NL h0, sz) (Det (some (.int (nI (cntB (Plt F R) c)))) (mh m F tl R NL h0, sz)) := by
  refine Sat.of (by decide) [some (.ref m), none, none] rfl rfl (fun X => ?_)
  refine ww_iconst (v := 0) dX9_late_0 (by decide) ?_
  refine ww_istore_n dX9_late_1 rfl rfl rfl ?_
  refine ww_iconst (v := 0) dX9_late_2 (by decide) ?_
  refine ww_istore_n dX9_late_3 rfl rfl rfl ?_
  exact L9_late hc hc2 (c + 1) 0 _ _ (by omega) (by omega) rfl rfl
set_option maxHeartbeats 4000000 in
theorem c9_giveBack0 {x : Int32} {c : Nat} (hc : F 55 = nI c) (hc2 : c ≤ 200) (hno : wIn x c = false) : Sat G mX9_giveBack [.ref m, .int x] (mh m F tl R NL h0, sz) (Det (some (.int 0)) (mh m F tl R NL h0, sz)) := by
  refine Sat.of (by decide) [some (.ref m), some (.int x)] rfl rfl (fun X => ?_)
  refine ww_aload_n dX9_giveBack_0 rfl rfl ?_
  refine ww_iload_n dX9_giveBack_1 rfl rfl ?_
  refine mm_call1 dX9_giveBack_2 kX9_348 rfl (c9_isTask hc (by omega)) rfl rfl rfl rfl rfl rfl (Nat.zero_le _) (Nat.zero_le _) ?_
  refine ww_if_eq (tgt := 18) dX9_giveBack_5 (by decide) (fun c5 => ?_) (fun c5 => ?_)
  · refine ww_iconst (v := 0) dX9_giveBack_18 (by decide) ?_
    exact ww_zret dX9_giveBack_19 rfl (Or.inl rfl) ⟨rfl, rfl⟩ (Nat.zero_le _) (Nat.zero_le _)
  · exact absurd c5 (fun q => q (wb_eq0.mpr hno))
set_option maxHeartbeats 4000000 in
theorem c9_giveBack {x : Int32} {c t : Nat} (hc : F 55 = nI c) (hc2 : c ≤ 200) (hp : x = nI t) (hpc : t < c) : Sat G mX9_giveBack [.ref m, .int x] (mh m F tl R NL h0, sz) (Det (some (.int (if R 61 t = 1 then 1 else 0))) (if R 61 t = 1 then (mh m F tl (va_up (va_up R 61 (upd (R 61) t 0)) 62 (upd (R 62) t (-1))) NL h0, sz) else (mh m F tl R NL h0, sz))) := by
  refine Sat.of (by decide) [some (.ref m), some (.int x)] rfl rfl (fun X => ?_)
  refine ww_aload_n dX9_giveBack_0 rfl rfl ?_
  refine ww_iload_n dX9_giveBack_1 rfl rfl ?_
  refine mm_call1 dX9_giveBack_2 kX9_348 rfl (c9_isTask hc (by omega)) rfl rfl rfl rfl rfl rfl (Nat.zero_le _) (Nat.zero_le _) ?_
  refine ww_if_eq (tgt := 18) dX9_giveBack_5 (by decide) (fun c5 => ?_) (fun c5 => ?_)
  · exact absurd c5 (by rw [hp, wIn_nI hpc (by omega)]; decide)
  · refine ww_aload_n dX9_giveBack_8 rfl rfl ?_
    refine mm_getr dX9_giveBack_9 fX9_143 rfl ?_
    refine ww_iload_n dX9_giveBack_12 rfl rfl ?_
    refine mm_iald dX9_giveBack_13 rfl hp (by omega) rfl rfl ?_
    refine ww_iconst (v := 1) dX9_giveBack_14 (by decide) ?_
    refine ww_icmp_eq (tgt := 20) dX9_giveBack_15 (by decide) (fun c15 => ?_) (fun c15 => ?_)
    · refine ww_aload_n dX9_giveBack_20 rfl rfl ?_
      refine mm_getr dX9_giveBack_21 fX9_143 rfl ?_
      refine ww_iload_n dX9_giveBack_24 rfl rfl ?_
      refine ww_iconst (v := 0) dX9_giveBack_25 (by decide) ?_
      refine mm_iast dX9_giveBack_26 rfl hp (by omega) rfl rfl ?_
      refine ww_aload_n dX9_giveBack_27 rfl rfl ?_
      refine mm_getr dX9_giveBack_28 fX9_146 rfl ?_
      refine ww_iload_n dX9_giveBack_31 rfl rfl ?_
      refine ww_iconst (v := -1) dX9_giveBack_32 (by decide) ?_
      refine mm_iast dX9_giveBack_33 rfl hp (by omega) rfl rfl ?_
      refine ww_iconst (v := 1) dX9_giveBack_34 (by decide) ?_
      exact ww_zret dX9_giveBack_35 rfl (Or.inr rfl) ⟨by rw [if_pos c15], by rw [if_pos c15]; rfl⟩ (Nat.zero_le _) (Nat.zero_le _)
    · refine ww_iconst (v := 0) dX9_giveBack_18 (by decide) ?_
      exact ww_zret dX9_giveBack_19 rfl (Or.inl rfl) ⟨by rw [if_neg c15], by rw [if_neg c15]⟩ (Nat.zero_le _) (Nat.zero_le _)
end M2
