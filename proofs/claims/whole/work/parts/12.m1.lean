theorem lgc_lt (x y : Int64) : lg_cmp x y < 0 ↔ x < y := by
  unfold lg_cmp
  by_cases h1 : x > y
  · rw [if_pos h1]
    exact ⟨fun h => absurd h (by decide), fun h => absurd h (Int64.lt_asymm h1)⟩
  · rw [if_neg h1]
    by_cases h2 : x = y
    · rw [if_pos h2]
      exact ⟨fun h => absurd h (by decide), fun h => absurd h (by rw [h2]; exact Int64.lt_irrefl)⟩
    · rw [if_neg h2]
      refine ⟨fun _ => ?_, fun _ => by decide⟩
      rcases Int64.lt_or_lt_of_ne h2 with q | q
      · exact q
      · exact absurd q h1
theorem lgc_gt (x y : Int64) : 0 < lg_cmp x y ↔ y < x := by
  unfold lg_cmp
  by_cases h1 : x > y
  · rw [if_pos h1]
    exact ⟨fun _ => h1, fun _ => by decide⟩
  · rw [if_neg h1]
    refine ⟨fun h => ?_, fun h => absurd h h1⟩
    by_cases h2 : x = y
    · rw [if_pos h2] at h; exact absurd h (by decide)
    · rw [if_neg h2] at h; exact absurd h (by decide)
theorem lgc_eq (x y : Int64) : lg_cmp x y = 0 ↔ x = y := by
  unfold lg_cmp
  by_cases h1 : x > y
  · rw [if_pos h1]
    refine ⟨fun h => absurd h (by decide), fun h => absurd h1 (by rw [h]; exact Int64.lt_irrefl)⟩
  · rw [if_neg h1]
    by_cases h2 : x = y
    · rw [if_pos h2]; exact ⟨fun _ => h2, fun _ => rfl⟩
    · rw [if_neg h2]; exact ⟨fun h => absurd h (by decide), fun h => absurd h h2⟩
theorem w_up_self {α : Type} (f : Nat → α) (k : Nat) (v : α) : va_up f k v k = v := by simp [va_up]
theorem w_up_up {α : Type} (f : Nat → α) (k : Nat) (v w : α) : va_up (va_up f k v) k w = va_up f k w := bx_uu f k v w
theorem w_upd_upd (f : Nat → Int32) (k : Nat) (v w : Int32) : upd (upd f k v) k w = upd f k w := by
  funext j
  by_cases h : j = k <;> simp [upd, h]
theorem w_upd_self (f : Nat → Int32) (k : Nat) (v : Int32) : upd f k v k = v := by simp [upd]
theorem w_up_id {α : Type} (f : Nat → α) (k : Nat) : va_up f k (f k) = f := by
  funext j
  by_cases h : j = k <;> simp [va_up, h]
def wb (b : Bool) : Int32 := if b = true then 1 else 0
theorem wb_eq0 {b : Bool} : wb b = 0 ↔ b = false := by cases b <;> simp [wb]
theorem wb_ne0 {b : Bool} : ¬ wb b = 0 ↔ b = true := by cases b <;> simp [wb]
theorem wb_nt {b : Bool} (h : b = false) : ¬ b = true := by rw [h]; decide
theorem wb_01 (b : Bool) : wb b = 0 ∨ wb b = 1 := by cases b <;> simp [wb]
/-- x is a place of a row of n -/
def wIn (x : Int32) (n : Nat) : Bool := decide (0 ≤ x.toInt ∧ x.toInt < n)
theorem in_c {x : Int32} {lo hi : Int64} {a b : Int} (ha : lo.toInt = a) (hb : hi.toInt = b) : decide (lo ≤ x.toInt64 ∧ x.toInt64 ≤ hi) = decide (a ≤ x.toInt ∧ x.toInt ≤ b) := by
  simp only [Int64.le_iff_toInt_le, Int32.toInt_toInt64, ha, hb]
theorem in_ix {x y : Int32} {c : Nat} (hc : y = nI c) (h : c < 2 ^ 30) : decide ((0 : Int64) ≤ x.toInt64 ∧ x.toInt64 ≤ (y - 1).toInt64) = wIn x c := by
  have e : (y - 1).toInt64.toInt = (c : Int) - 1 := by
    rw [Int32.toInt_toInt64, hc]
    exact pk_sub_toInt (a := c) (b := 1) h (by decide)
  rw [in_c (a := 0) (b := (c : Int) - 1) rfl e]
  unfold wIn
  congr 1
  apply propext
  constructor <;> intro q <;> omega
theorem in_ix1 {x y : Int32} {c : Nat} (hc : y = nI c) (h : c < 2 ^ 30) (_ : 0 = 0) : decide ((0 : Int64) ≤ x.toInt64 ∧ x.toInt64 ≤ y.toInt64) = wIn x (c + 1) := by
  have e : y.toInt64.toInt = (c : Int) := by
    rw [Int32.toInt_toInt64, hc]
    exact nI_toInt (by omega)
  rw [in_c (a := 0) (b := (c : Int)) rfl e]
  unfold wIn
  congr 1
  apply propext
  constructor <;> intro q <;> omega
theorem wIn_iff {x : Int32} {n : Nat} (hn : n < 2 ^ 31) : wIn x n = true ↔ ∃ j, j < n ∧ x = nI j := by
  unfold wIn
  rw [decide_eq_true_iff]
  constructor
  · intro h
    obtain ⟨j, h1, h2⟩ := vp_in_of (vp_in_iff.mpr h) hn
    exact ⟨j, h1, h2⟩
  · rintro ⟨j, h1, rfl⟩
    rw [nI_toInt (by omega)]
    omega
theorem wIn_nI {j n : Nat} (h : j < n) (hn : n < 2 ^ 31) : wIn (nI j) n = true := (wIn_iff hn).mpr ⟨j, h, rfl⟩

section M1
variable {G : wG} {m : Nat} {F : Nat → Int32} {tl : Int64} {R : Nat → Nat → Int32} {NL : Nat → Int64} {h0 : Nat → Option wE} {sz : Nat}

set_option maxHeartbeats 4000000 in
theorem c9_in {v lo hi : Int64} {h : wH} : Sat G mX9_in [.long v, .long lo, .long hi] h (Det (some (.int (wb (decide (lo ≤ v ∧ v ≤ hi))))) h) := by
  refine Sat.of (by decide) [some (.long v), none, some (.long lo), none, some (.long hi), none] rfl rfl (fun X => ?_)
  refine ww_lload_n dX9_in_0 rfl rfl ?_
  refine ww_lload_n dX9_in_1 rfl rfl ?_
  refine ww_lcmp dX9_in_2 ?_
  refine ww_if_lt (tgt := 17) dX9_in_3 (by decide) (fun c3 => ?_) (fun c3 => ?_)
  · refine ww_iconst (v := 0) dX9_in_17 (by decide) ?_
    exact ww_zret dX9_in_18 rfl (Or.inl rfl) ⟨by rw [show decide (lo ≤ v ∧ v ≤ hi) = false from decide_eq_false (fun q => Int64.not_lt.mpr q.1 ((lgc_lt _ _).mp c3))]; rfl, rfl⟩ (Nat.zero_le _) (Nat.zero_le _)
  · refine ww_lload_n dX9_in_6 rfl rfl ?_
    refine ww_lload dX9_in_7 rfl ?_
    refine ww_lcmp dX9_in_9 ?_
    refine ww_if_gt (tgt := 17) dX9_in_10 (by decide) (fun c10 => ?_) (fun c10 => ?_)
    · refine ww_iconst (v := 0) dX9_in_17 (by decide) ?_
      exact ww_zret dX9_in_18 rfl (Or.inl rfl) ⟨by rw [show decide (lo ≤ v ∧ v ≤ hi) = false from decide_eq_false (fun q => Int64.not_lt.mpr q.2 ((lgc_gt _ _).mp c10))]; rfl, rfl⟩ (Nat.zero_le _) (Nat.zero_le _)
    · refine ww_iconst (v := 1) dX9_in_13 (by decide) ?_
      refine ww_goto (tgt := 18) dX9_in_14 (by decide) ?_
      exact ww_zret dX9_in_18 rfl (Or.inr rfl) ⟨by rw [show decide (lo ≤ v ∧ v ≤ hi) = true from decide_eq_true ⟨Int64.not_lt.mp (fun q => c3 ((lgc_lt _ _).mpr q)), Int64.not_lt.mp (fun q => c10 ((lgc_gt _ _).mpr q))⟩]; rfl, rfl⟩ (Nat.zero_le _) (Nat.zero_le _)
def put4 (g : Nat → Int32) (c : Nat) (x : Int32) : Nat → Int32 := upd (upd (upd (upd g c (x >>> ((24 : Int32) &&& 31)).toInt8.toInt32) (c + 1) (x >>> ((16 : Int32) &&& 31)).toInt8.toInt32) (c + 2) (x >>> ((8 : Int32) &&& 31)).toInt8.toInt32) (c + 3) x.toInt8.toInt32
set_option maxHeartbeats 4000000 in
theorem c9_put {x : Int32} {c : Nat} (hc : F 1 = nI c) (hc2 : c + 4 ≤ 300) : Sat G mX9_put [.ref m, .int x] (mh m F tl R NL h0, sz) (Det none (mh m (upd F 1 (nI (c + 4))) tl (va_up R 0 (put4 (R 0) c x)) NL h0, sz)) := by
  refine Sat.of (by decide) [some (.ref m), some (.int x)] rfl rfl (fun X => ?_)
  refine ww_aload_n dX9_put_0 rfl rfl ?_
  refine mm_getr dX9_put_1 fX9_7 rfl ?_
  refine ww_aload_n dX9_put_4 rfl rfl ?_
  refine mm_geti dX9_put_5 fX9_170 rfl rfl ?_
  refine ww_iload_n dX9_put_8 rfl rfl ?_
  refine ww_bipush (v := 24) dX9_put_9 (by decide) ?_
  refine ww_ishr dX9_put_11 ?_
  refine ww_i2b dX9_put_12 ?_
  refine mm_bast dX9_put_13 rfl hc (by omega) rfl rfl ?_
  refine ww_aload_n dX9_put_14 rfl rfl ?_
  refine mm_getr dX9_put_15 fX9_7 rfl ?_
  refine ww_aload_n dX9_put_18 rfl rfl ?_
  refine mm_geti dX9_put_19 fX9_170 rfl rfl ?_
  refine ww_iconst (v := 1) dX9_put_22 (by decide) ?_
  refine ww_iadd dX9_put_23 ?_
  refine ww_iload_n dX9_put_24 rfl rfl ?_
  refine ww_bipush (v := 16) dX9_put_25 (by decide) ?_
  refine ww_ishr dX9_put_27 ?_
  refine ww_i2b dX9_put_28 ?_
  refine mm_bast dX9_put_29 rfl (show _ = nI (c + 1) by rw [hc]; first | rfl | exact nI_add _ _) (by omega) rfl rfl ?_
  refine ww_aload_n dX9_put_30 rfl rfl ?_
  refine mm_getr dX9_put_31 fX9_7 rfl ?_
  refine ww_aload_n dX9_put_34 rfl rfl ?_
  refine mm_geti dX9_put_35 fX9_170 rfl rfl ?_
  refine ww_iconst (v := 2) dX9_put_38 (by decide) ?_
  refine ww_iadd dX9_put_39 ?_
  refine ww_iload_n dX9_put_40 rfl rfl ?_
  refine ww_bipush (v := 8) dX9_put_41 (by decide) ?_
  refine ww_ishr dX9_put_43 ?_
  refine ww_i2b dX9_put_44 ?_
  refine mm_bast dX9_put_45 rfl (show _ = nI (c + 2) by rw [hc]; first | rfl | exact nI_add _ _) (by omega) rfl rfl ?_
  refine ww_aload_n dX9_put_46 rfl rfl ?_
  refine mm_getr dX9_put_47 fX9_7 rfl ?_
  refine ww_aload_n dX9_put_50 rfl rfl ?_
  refine mm_geti dX9_put_51 fX9_170 rfl rfl ?_
  refine ww_iconst (v := 3) dX9_put_54 (by decide) ?_
  refine ww_iadd dX9_put_55 ?_
  refine ww_iload_n dX9_put_56 rfl rfl ?_
  refine ww_i2b dX9_put_57 ?_
  refine mm_bast dX9_put_58 rfl (show _ = nI (c + 3) by rw [hc]; first | rfl | exact nI_add _ _) (by omega) rfl rfl ?_
  refine ww_aload_n dX9_put_59 rfl rfl ?_
  refine ww_dup dX9_put_60 rfl ?_
  refine mm_geti dX9_put_61 fX9_170 rfl rfl ?_
  refine ww_iconst (v := 4) dX9_put_64 (by decide) ?_
  refine ww_iadd dX9_put_65 ?_
  refine mm_puti dX9_put_66 fX9_170 rfl rfl ?_
  exact ww_vret dX9_put_69 rfl ⟨rfl, by simp only [w_up_self, w_up_up, pk_vb, put4]; rw [hc, show nI c + 4 = nI (c + 4) from nI_add _ _]⟩ (Nat.zero_le _) (Nat.zero_le _)
set_option maxHeartbeats 4000000 in
theorem c9_isWell  : Sat G mX9_isWell [.ref m] (mh m F tl R NL h0, sz) (Det (some (.int (if F 7 = 0 then 1 else 0))) (mh m F tl R NL h0, sz)) := by
  refine Sat.of (by decide) [some (.ref m)] rfl rfl (fun X => ?_)
  refine ww_aload_n dX9_isWell_0 rfl rfl ?_
  refine mm_geti dX9_isWell_1 fX9_181 rfl rfl ?_
  refine ww_if_ne (tgt := 11) dX9_isWell_4 (by decide) (fun c4 => ?_) (fun c4 => ?_)
  · refine ww_iconst (v := 0) dX9_isWell_11 (by decide) ?_
    exact ww_zret dX9_isWell_12 rfl (Or.inl rfl) ⟨by rw [if_neg c4], rfl⟩ (Nat.zero_le _) (Nat.zero_le _)
  · refine ww_iconst (v := 1) dX9_isWell_7 (by decide) ?_
    refine ww_goto (tgt := 12) dX9_isWell_8 (by decide) ?_
    exact ww_zret dX9_isWell_12 rfl (Or.inr rfl) ⟨by rw [if_pos c4], rfl⟩ (Nat.zero_le _) (Nat.zero_le _)
set_option maxHeartbeats 4000000 in
theorem c9_fails {f : Int32} : Sat G mX9_fails [.ref m, .int f] (mh m F tl R NL h0, sz) (Det none (mh m (if F 7 = 0 then upd (upd F 7 f) 8 (F 3) else F) tl R NL h0, sz)) := by
  refine Sat.of (by decide) [some (.ref m), some (.int f)] rfl rfl (fun X => ?_)
  refine ww_aload_n dX9_fails_0 rfl rfl ?_
  refine mm_geti dX9_fails_1 fX9_181 rfl rfl ?_
  refine ww_if_ne (tgt := 20) dX9_fails_4 (by decide) (fun c4 => ?_) (fun c4 => ?_)
  · exact ww_vret dX9_fails_20 rfl ⟨rfl, by rw [if_neg c4]⟩ (Nat.zero_le _) (Nat.zero_le _)
  · refine ww_aload_n dX9_fails_7 rfl rfl ?_
    refine ww_iload_n dX9_fails_8 rfl rfl ?_
    refine mm_puti dX9_fails_9 fX9_181 rfl rfl ?_
    refine ww_aload_n dX9_fails_12 rfl rfl ?_
    refine ww_aload_n dX9_fails_13 rfl rfl ?_
    refine mm_geti dX9_fails_14 fX9_184 rfl rfl ?_
    refine mm_puti dX9_fails_17 fX9_187 rfl rfl ?_
    exact ww_vret dX9_fails_20 rfl ⟨rfl, by rw [if_pos c4]; rfl⟩ (Nat.zero_le _) (Nat.zero_le _)
def fed (g : Nat → Int32) (c : Nat) (a b d e f : Int32) : Nat → Int32 := put4 (put4 (put4 (put4 (put4 g c a) (c + 4) b) (c + 8) d) (c + 12) e) (c + 16) f
set_option maxHeartbeats 4000000 in
theorem c9_feed {a b d e f : Int32} {c : Nat} (hc : F 1 = nI c) (hc2 : c + 20 ≤ 300) : Sat G mX9_feed [.ref m, .int a, .int b, .int d, .int e, .int f] (mh m F tl R NL h0, sz) (Det (some (.int (nI (c + 20)))) (mh m (upd F 1 (nI (c + 20))) tl (va_up R 0 (fed (R 0) c a b d e f)) NL h0, sz)) := by
  refine Sat.of (by decide) [some (.ref m), some (.int a), some (.int b), some (.int d), some (.int e), some (.int f)] rfl rfl (fun X => ?_)
  refine ww_aload_n dX9_feed_0 rfl rfl ?_
  refine mm_geti dX9_feed_1 fX9_170 rfl rfl ?_
  refine ww_bipush (v := 20) dX9_feed_4 (by decide) ?_
  refine ww_iadd dX9_feed_6 ?_
  refine ww_sipush (v := 300) dX9_feed_7 (by decide) ?_
  refine ww_icmp_le (tgt := 15) dX9_feed_10 (by decide) (fun c10 => ?_) (fun c10 => ?_)
  · refine ww_aload_n dX9_feed_15 rfl rfl ?_
    refine ww_iload_n dX9_feed_16 rfl rfl ?_
    refine mm_call0 dX9_feed_17 kX9_173 rfl (c9_put (c := c) hc (by omega)) rfl rfl rfl rfl rfl rfl (Nat.zero_le _) (Nat.zero_le _) ?_
    refine ww_aload_n dX9_feed_20 rfl rfl ?_
    refine ww_iload_n dX9_feed_21 rfl rfl ?_
    refine mm_call0 dX9_feed_22 kX9_173 rfl (c9_put (c := c + 4) rfl (by omega)) rfl rfl rfl rfl rfl rfl (Nat.zero_le _) (Nat.zero_le _) ?_
    refine ww_aload_n dX9_feed_25 rfl rfl ?_
    refine ww_iload_n dX9_feed_26 rfl rfl ?_
    refine mm_call0 dX9_feed_27 kX9_173 rfl (c9_put (c := c + 8) rfl (by omega)) rfl rfl rfl rfl rfl rfl (Nat.zero_le _) (Nat.zero_le _) ?_
    refine ww_aload_n dX9_feed_30 rfl rfl ?_
    refine ww_iload dX9_feed_31 rfl ?_
    refine mm_call0 dX9_feed_33 kX9_173 rfl (c9_put (c := c + 12) rfl (by omega)) rfl rfl rfl rfl rfl rfl (Nat.zero_le _) (Nat.zero_le _) ?_
    refine ww_aload_n dX9_feed_36 rfl rfl ?_
    refine ww_iload dX9_feed_37 rfl ?_
    refine mm_call0 dX9_feed_39 kX9_173 rfl (c9_put (c := c + 16) rfl (by omega)) rfl rfl rfl rfl rfl rfl (Nat.zero_le _) (Nat.zero_le _) ?_
    refine ww_aload_n dX9_feed_42 rfl rfl ?_
    refine mm_geti dX9_feed_43 fX9_170 rfl rfl ?_
    exact ww_iret dX9_feed_46 rfl ⟨rfl, by simp only [w_up_self, w_up_up, w_upd_upd, fed]⟩ (Nat.zero_le _) (Nat.zero_le _)
  · exact absurd c10 (fun q => q (by rw [hc, show nI c + 20 = nI (c + 20) from nI_add _ _]; exact nI_le (by omega) (by decide)))
set_option maxHeartbeats 4000000 in
theorem c9_feed0 {a b d e f : Int32} {c : Nat} (hc : F 1 = nI c) (hc2 : 300 < c + 20) (hc3 : c ≤ 300) : Sat G mX9_feed [.ref m, .int a, .int b, .int d, .int e, .int f] (mh m F tl R NL h0, sz) (Det (some (.int (-1))) (mh m F tl R NL h0, sz)) := by
  refine Sat.of (by decide) [some (.ref m), some (.int a), some (.int b), some (.int d), some (.int e), some (.int f)] rfl rfl (fun X => ?_)
  refine ww_aload_n dX9_feed_0 rfl rfl ?_
  refine mm_geti dX9_feed_1 fX9_170 rfl rfl ?_
  refine ww_bipush (v := 20) dX9_feed_4 (by decide) ?_
  refine ww_iadd dX9_feed_6 ?_
  refine ww_sipush (v := 300) dX9_feed_7 (by decide) ?_
  refine ww_icmp_le (tgt := 15) dX9_feed_10 (by decide) (fun c10 => ?_) (fun c10 => ?_)
  · exact absurd c10 (fun q => absurd ((nI_leI (a := c + 20) (b := 300) (by omega) (by decide)).mp (by rw [hc, show nI c + 20 = nI (c + 20) from nI_add _ _] at q; exact q)) (by omega))
  · refine ww_iconst (v := -1) dX9_feed_13 (by decide) ?_
    exact ww_iret dX9_feed_14 rfl ⟨rfl, rfl⟩ (Nat.zero_le _) (Nat.zero_le _)
set_option maxHeartbeats 4000000 in
theorem c9_end {x : Int32} {c : Nat} (hc : F 1 = nI c) (hc2 : c ≤ 300) : Sat G mX9_end [.ref m, .int x] (mh m F tl R NL h0, sz) (Det (some (.int (if wIn x (c + 1) = true then x else -1))) (if wIn x (c + 1) = true then (mh m (upd F 1 x) tl R NL h0, sz) else (mh m F tl R NL h0, sz))) := by
  refine Sat.of (by decide) [some (.ref m), some (.int x)] rfl rfl (fun X => ?_)
  refine ww_iload_n dX9_end_0 rfl rfl ?_
  refine ww_i2l dX9_end_1 ?_
  refine ww_lconst (v := 0) dX9_end_2 (by decide) ?_
  refine ww_aload_n dX9_end_3 rfl rfl ?_
  refine mm_geti dX9_end_4 fX9_170 rfl rfl ?_
  refine ww_i2l dX9_end_7 ?_
  refine ww_calls1 dX9_end_8 kX9_177 c9_in rfl rfl rfl rfl rfl rfl (Nat.zero_le _) (Nat.zero_le _) ?_
  refine ww_if_ne (tgt := 16) dX9_end_11 (by decide) (fun c11 => ?_) (fun c11 => ?_)
  · refine ww_aload_n dX9_end_16 rfl rfl ?_
    refine ww_iload_n dX9_end_17 rfl rfl ?_
    refine mm_puti dX9_end_18 fX9_170 rfl rfl ?_
    refine ww_iload_n dX9_end_21 rfl rfl ?_
    exact ww_iret dX9_end_22 rfl ⟨by rw [in_ix1 hc (by omega) (by omega)] at c11; rw [if_pos (wb_ne0.mp c11)], by rw [in_ix1 hc (by omega) (by omega)] at c11; rw [if_pos (wb_ne0.mp c11)]⟩ (Nat.zero_le _) (Nat.zero_le _)
  · refine ww_iconst (v := -1) dX9_end_14 (by decide) ?_
    exact ww_iret dX9_end_15 rfl ⟨by rw [in_ix1 hc (by omega) (by omega)] at c11; rw [if_neg (wb_nt (wb_eq0.mp c11))], by rw [in_ix1 hc (by omega) (by omega)] at c11; rw [if_neg (wb_nt (wb_eq0.mp c11))]⟩ (Nat.zero_le _) (Nat.zero_le _)
set_option maxHeartbeats 4000000 in
theorem c9_fault {x : Int32} : Sat G mX9_fault [.ref m, .int x] (mh m F tl R NL h0, sz) (Det (some (.int (if x = 0 then F 9 else if x = 1 then F 10 else -1))) (mh m F tl R NL h0, sz)) := by
  refine Sat.of (by decide) [some (.ref m), some (.int x)] rfl rfl (fun X => ?_)
  refine ww_iload_n dX9_fault_0 rfl rfl ?_
  refine ww_if_ne (tgt := 11) dX9_fault_1 (by decide) (fun c1 => ?_) (fun c1 => ?_)
  · refine ww_iload_n dX9_fault_11 rfl rfl ?_
    refine ww_iconst (v := 1) dX9_fault_12 (by decide) ?_
    refine ww_icmp_ne (tgt := 23) dX9_fault_13 (by decide) (fun c13 => ?_) (fun c13 => ?_)
    · refine ww_iconst (v := -1) dX9_fault_23 (by decide) ?_
      exact ww_iret dX9_fault_24 rfl ⟨by rw [if_neg c1, if_neg c13], rfl⟩ (Nat.zero_le _) (Nat.zero_le _)
    · refine ww_aload_n dX9_fault_16 rfl rfl ?_
      refine mm_geti dX9_fault_17 fX9_17 rfl rfl ?_
      refine ww_goto (tgt := 24) dX9_fault_20 (by decide) ?_
      exact ww_iret dX9_fault_24 rfl ⟨by rw [if_neg c1, if_pos c13], rfl⟩ (Nat.zero_le _) (Nat.zero_le _)
  · refine ww_aload_n dX9_fault_4 rfl rfl ?_
    refine mm_geti dX9_fault_5 fX9_13 rfl rfl ?_
    refine ww_goto (tgt := 24) dX9_fault_8 (by decide) ?_
    exact ww_iret dX9_fault_24 rfl ⟨by rw [if_pos c1], rfl⟩ (Nat.zero_le _) (Nat.zero_le _)
set_option maxHeartbeats 4000000 in
theorem c9_isPerson {x : Int32} {c : Nat} (hc : F 64 = nI c) (hc2 : c ≤ 1000) : Sat G mX9_isPerson [.ref m, .int x] (mh m F tl R NL h0, sz) (Det (some (.int (wb (wIn x c)))) (mh m F tl R NL h0, sz)) := by
  refine Sat.of (by decide) [some (.ref m), some (.int x)] rfl rfl (fun X => ?_)
  refine ww_iload_n dX9_isPerson_0 rfl rfl ?_
  refine ww_i2l dX9_isPerson_1 ?_
  refine ww_lconst (v := 0) dX9_isPerson_2 (by decide) ?_
  refine ww_aload_n dX9_isPerson_3 rfl rfl ?_
  refine mm_geti dX9_isPerson_4 fX9_308 rfl rfl ?_
  refine ww_iconst (v := 1) dX9_isPerson_7 (by decide) ?_
  refine ww_isub dX9_isPerson_8 ?_
  refine ww_i2l dX9_isPerson_9 ?_
  refine ww_calls1 dX9_isPerson_10 kX9_177 c9_in rfl rfl rfl rfl rfl rfl (Nat.zero_le _) (Nat.zero_le _) ?_
  exact ww_zret dX9_isPerson_13 rfl (wb_01 _) ⟨by rw [in_ix hc (by omega)], rfl⟩ (Nat.zero_le _) (Nat.zero_le _)
set_option maxHeartbeats 4000000 in
theorem c9_isTask {x : Int32} {c : Nat} (hc : F 55 = nI c) (hc2 : c ≤ 1000) : Sat G mX9_isTask [.ref m, .int x] (mh m F tl R NL h0, sz) (Det (some (.int (wb (wIn x c)))) (mh m F tl R NL h0, sz)) := by
  refine Sat.of (by decide) [some (.ref m), some (.int x)] rfl rfl (fun X => ?_)
  refine ww_iload_n dX9_isTask_0 rfl rfl ?_
  refine ww_i2l dX9_isTask_1 ?_
  refine ww_lconst (v := 0) dX9_isTask_2 (by decide) ?_
  refine ww_aload_n dX9_isTask_3 rfl rfl ?_
  refine mm_geti dX9_isTask_4 fX9_311 rfl rfl ?_
  refine ww_iconst (v := 1) dX9_isTask_7 (by decide) ?_
  refine ww_isub dX9_isTask_8 ?_
  refine ww_i2l dX9_isTask_9 ?_
  refine ww_calls1 dX9_isTask_10 kX9_177 c9_in rfl rfl rfl rfl rfl rfl (Nat.zero_le _) (Nat.zero_le _) ?_
  exact ww_zret dX9_isTask_13 rfl (wb_01 _) ⟨by rw [in_ix hc (by omega)], rfl⟩ (Nat.zero_le _) (Nat.zero_le _)
end M1
