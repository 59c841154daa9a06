theorem i8_sh (x : Int32) : (x.toUInt32 >>> ((24 : Int32).toUInt32 &&& Int32.toUInt32 31)).toInt32.toInt8.toInt32 = (x >>> ((24 : Int32) &&& 31)).toInt8.toInt32 ∧ (x.toUInt32 >>> ((16 : Int32).toUInt32 &&& Int32.toUInt32 31)).toInt32.toInt8.toInt32 = (x >>> ((16 : Int32) &&& 31)).toInt8.toInt32 ∧ (x.toUInt32 >>> ((8 : Int32).toUInt32 &&& Int32.toUInt32 31)).toInt32.toInt8.toInt32 = (x >>> ((8 : Int32) &&& 31)).toInt8.toInt32 ∧ (x.toUInt32 >>> ((0 : Int32).toUInt32 &&& Int32.toUInt32 31)).toInt32.toInt8.toInt32 = x.toInt8.toInt32 := by
  refine ⟨?_, ?_, ?_, ?_⟩
  all_goals (
    congr 1
    all_goals (
      apply Int8.toBitVec_inj.mp
      apply BitVec.eq_of_getLsbD_eq
      intro i hi
      have a1 : i < 32 := by omega
      have a2 : ¬ 32 ≤ i := by omega
      have a3 : 24 + i < 32 := by omega
      have a4 : 16 + i < 32 := by omega
      have a5 : 8 + i < 32 := by omega
      try simp [BitVec.getLsbD_sshiftRight, BitVec.getLsbD_signExtend]
      try simp [hi, a1, a2, a3, a4, a5]))
section B5
variable {G : wG} {m : Nat} {F : Nat → Int32} {O : Nat → Option Nat} {R : Nat → Nat → Int32} {h0 : Nat → Option wE} {sz : Nat}
set_option maxHeartbeats 4000000 in
theorem c5_isBlank {x : Int32} {h : wH} : Sat G mX5_isBlank [.int x] h (Det (some (.int (wb (isBl x)))) h) := by
  refine Sat.of (by decide) [some (.int x)] rfl rfl (fun X => ?_)
  refine ww_iload_n dX5_isBlank_0 rfl rfl ?_
  refine ww_bipush (v := 32) dX5_isBlank_1 (by decide) ?_
  refine ww_icmp_eq (tgt := 12) dX5_isBlank_3 (by decide) (fun c3 => ?_) (fun c3 => ?_)
  · refine ww_iconst (v := 1) dX5_isBlank_12 (by decide) ?_
    refine ww_goto (tgt := 17) dX5_isBlank_13 (by decide) ?_
    exact ww_zret dX5_isBlank_17 rfl (Or.inr rfl) ⟨by rw [c3]; rfl, rfl⟩ (Nat.zero_le _) (Nat.zero_le _)
  · refine ww_iload_n dX5_isBlank_6 rfl rfl ?_
    refine ww_bipush (v := 10) dX5_isBlank_7 (by decide) ?_
    refine ww_icmp_ne (tgt := 16) dX5_isBlank_9 (by decide) (fun c9 => ?_) (fun c9 => ?_)
    · refine ww_iconst (v := 0) dX5_isBlank_16 (by decide) ?_
      exact ww_zret dX5_isBlank_17 rfl (Or.inl rfl) ⟨by rw [show isBl x = false by simp [isBl, c3, c9]]; rfl, rfl⟩ (Nat.zero_le _) (Nat.zero_le _)
    · refine ww_iconst (v := 1) dX5_isBlank_12 (by decide) ?_
      refine ww_goto (tgt := 17) dX5_isBlank_13 (by decide) ?_
      exact ww_zret dX5_isBlank_17 rfl (Or.inr rfl) ⟨by rw [c9]; rfl, rfl⟩ (Nat.zero_le _) (Nat.zero_le _)
set_option maxHeartbeats 4000000 in
theorem c5_isLetter {x : Int32} {h : wH} : Sat G mX5_isLetter [.int x] h (Det (some (.int (wb (isLt x)))) h) := by
  refine Sat.of (by decide) [some (.int x)] rfl rfl (fun X => ?_)
  refine ww_iload_n dX5_isLetter_0 rfl rfl ?_
  refine ww_bipush (v := 97) dX5_isLetter_1 (by decide) ?_
  refine ww_icmp_lt (tgt := 16) dX5_isLetter_3 (by decide) (fun c3 => ?_) (fun c3 => ?_)
  · refine ww_iconst (v := 0) dX5_isLetter_16 (by decide) ?_
    exact ww_zret dX5_isLetter_17 rfl (Or.inl rfl) ⟨by rw [show isLt x = false from decide_eq_false (fun q => by have := Int32.lt_iff_toInt_lt.mp c3; have e : (97 : Int32).toInt = 97 := rfl; omega)]; rfl, rfl⟩ (Nat.zero_le _) (Nat.zero_le _)
  · refine ww_iload_n dX5_isLetter_6 rfl rfl ?_
    refine ww_bipush (v := 122) dX5_isLetter_7 (by decide) ?_
    refine ww_icmp_gt (tgt := 16) dX5_isLetter_9 (by decide) (fun c9 => ?_) (fun c9 => ?_)
    · refine ww_iconst (v := 0) dX5_isLetter_16 (by decide) ?_
      exact ww_zret dX5_isLetter_17 rfl (Or.inl rfl) ⟨by rw [show isLt x = false from decide_eq_false (fun q => by have := Int32.lt_iff_toInt_lt.mp c9; have e : (122 : Int32).toInt = 122 := rfl; omega)]; rfl, rfl⟩ (Nat.zero_le _) (Nat.zero_le _)
    · refine ww_iconst (v := 1) dX5_isLetter_12 (by decide) ?_
      refine ww_goto (tgt := 17) dX5_isLetter_13 (by decide) ?_
      exact ww_zret dX5_isLetter_17 rfl (Or.inr rfl) ⟨by rw [show isLt x = true from decide_eq_true (by have h1 := mt Int32.lt_iff_toInt_lt.mpr c3; have h2 := mt Int32.lt_iff_toInt_lt.mpr c9; have e : (97 : Int32).toInt = 97 := rfl; have e2 : (122 : Int32).toInt = 122 := rfl; omega)]; rfl, rfl⟩ (Nat.zero_le _) (Nat.zero_le _)
set_option maxHeartbeats 4000000 in
theorem c5_isDigit {x : Int32} {h : wH} : Sat G mX5_isDigit [.int x] h (Det (some (.int (wb (isDg x)))) h) := by
  refine Sat.of (by decide) [some (.int x)] rfl rfl (fun X => ?_)
  refine ww_iload_n dX5_isDigit_0 rfl rfl ?_
  refine ww_bipush (v := 48) dX5_isDigit_1 (by decide) ?_
  refine ww_icmp_lt (tgt := 16) dX5_isDigit_3 (by decide) (fun c3 => ?_) (fun c3 => ?_)
  · refine ww_iconst (v := 0) dX5_isDigit_16 (by decide) ?_
    exact ww_zret dX5_isDigit_17 rfl (Or.inl rfl) ⟨by rw [show isDg x = false from decide_eq_false (fun q => by have := Int32.lt_iff_toInt_lt.mp c3; have e : (48 : Int32).toInt = 48 := rfl; omega)]; rfl, rfl⟩ (Nat.zero_le _) (Nat.zero_le _)
  · refine ww_iload_n dX5_isDigit_6 rfl rfl ?_
    refine ww_bipush (v := 57) dX5_isDigit_7 (by decide) ?_
    refine ww_icmp_gt (tgt := 16) dX5_isDigit_9 (by decide) (fun c9 => ?_) (fun c9 => ?_)
    · refine ww_iconst (v := 0) dX5_isDigit_16 (by decide) ?_
      exact ww_zret dX5_isDigit_17 rfl (Or.inl rfl) ⟨by rw [show isDg x = false from decide_eq_false (fun q => by have := Int32.lt_iff_toInt_lt.mp c9; have e : (57 : Int32).toInt = 57 := rfl; omega)]; rfl, rfl⟩ (Nat.zero_le _) (Nat.zero_le _)
    · refine ww_iconst (v := 1) dX5_isDigit_12 (by decide) ?_
      refine ww_goto (tgt := 17) dX5_isDigit_13 (by decide) ?_
      exact ww_zret dX5_isDigit_17 rfl (Or.inr rfl) ⟨by rw [show isDg x = true from decide_eq_true (by have h1 := mt Int32.lt_iff_toInt_lt.mpr c3; have h2 := mt Int32.lt_iff_toInt_lt.mpr c9; have e : (48 : Int32).toInt = 48 := rfl; have e2 : (57 : Int32).toInt = 57 := rfl; omega)]; rfl, rfl⟩ (Nat.zero_le _) (Nat.zero_le _)
set_option maxHeartbeats 4000000 in
theorem c5_signKind {x : Int32} {h : wH} : Sat G mX5_signKind [.int x] h (Det (some (.int (nI (sgN x)))) h) := by
  refine Sat.of (by decide) [some (.int x)] rfl rfl (fun X => ?_)
  refine ww_iload_n dX5_signKind_0 rfl rfl ?_
  refine ww_lookupL [(59, 50), (60, 53), (123, 44), (125, 47)] 56 dX5_signKind_1 (by decide) (by decide) (by decide) (fun j1 t1 ht1 c1 => ?_) (fun c1 => ?_)
  · rcases j1 with _ | _ | _ | _ | j
    · cases ht1
      refine ww_bipush (v := 13) dX5_signKind_50 (by decide) ?_
      exact ww_iret dX5_signKind_52 rfl ⟨by rw [show x = 59 from w_litI c1 rfl]; rfl, rfl⟩ (Nat.zero_le _) (Nat.zero_le _)
    · cases ht1
      refine ww_bipush (v := 14) dX5_signKind_53 (by decide) ?_
      exact ww_iret dX5_signKind_55 rfl ⟨by rw [show x = 60 from w_litI c1 rfl]; rfl, rfl⟩ (Nat.zero_le _) (Nat.zero_le _)
    · cases ht1
      refine ww_bipush (v := 11) dX5_signKind_44 (by decide) ?_
      exact ww_iret dX5_signKind_46 rfl ⟨by rw [show x = 123 from w_litI c1 rfl]; rfl, rfl⟩ (Nat.zero_le _) (Nat.zero_le _)
    · cases ht1
      refine ww_bipush (v := 12) dX5_signKind_47 (by decide) ?_
      exact ww_iret dX5_signKind_49 rfl ⟨by rw [show x = 125 from w_litI c1 rfl]; rfl, rfl⟩ (Nat.zero_le _) (Nat.zero_le _)
    · cases ht1
  · refine ww_bipush (v := 16) dX5_signKind_56 (by decide) ?_
    exact ww_iret dX5_signKind_58 rfl ⟨by rw [sgN, if_neg (fun q => c1 (123, 44) (by decide) (by rw [q]; rfl)), if_neg (fun q => c1 (125, 47) (by decide) (by rw [q]; rfl)), if_neg (fun q => c1 (59, 50) (by decide) (by rw [q]; rfl)), if_neg (fun q => c1 (60, 53) (by decide) (by rw [q]; rfl))]; rfl, rfl⟩ (Nat.zero_le _) (Nat.zero_le _)
set_option maxHeartbeats 4000000 in
theorem c5_withLetter {x y : Int32} {h : wH} : Sat G mX5_withLetter [.int x, .int y] h (Det (some (.int (x <<< ((5 : Int32) &&& 31) + y - 97 + 1))) h) := by
  refine Sat.of (by decide) [some (.int x), some (.int y)] rfl rfl (fun X => ?_)
  refine ww_iload_n dX5_withLetter_0 rfl rfl ?_
  refine ww_iconst (v := 5) dX5_withLetter_1 (by decide) ?_
  refine ww_ishl dX5_withLetter_2 ?_
  refine ww_iload_n dX5_withLetter_3 rfl rfl ?_
  refine ww_iadd dX5_withLetter_4 ?_
  refine ww_bipush (v := 97) dX5_withLetter_5 (by decide) ?_
  refine ww_isub dX5_withLetter_7 ?_
  refine ww_iconst (v := 1) dX5_withLetter_8 (by decide) ?_
  refine ww_iadd dX5_withLetter_9 ?_
  exact ww_iret dX5_withLetter_10 rfl ⟨rfl, rfl⟩ (Nat.zero_le _) (Nat.zero_le _)
theorem wl_nI {x y : Int32} {k : Nat} (hx : x = nI k) (hy : isLt y = true) : x <<< ((5 : Int32) &&& 31) + y - 97 + 1 = nI (32 * k + (y.toInt - 96).toNat) := by
  obtain ⟨d, h1, h2, h3⟩ := inR_d (a := 97) (c := 122) hy (by decide)
  have e1 : x <<< ((5 : Int32) &&& 31) = nI (32 * k) := by
    rw [show (nI (32 * k)) = nI 32 * nI k from (pk_mul 32 k).symm, hx]
    apply Int32.toBitVec_inj.mp
    simp
    rw [BitVec.shiftLeft_eq_mul_twoPow, BitVec.mul_comm]
    rfl
  have e2 : y = nI (97 + d) := Int32.toInt_inj.mp (by rw [h2, nI_toInt (by omega)])
  have e3 : (y.toInt - 96).toNat = d + 1 := by omega
  rw [e1, e3, e2, show nI (97 + d) = nI d + nI 97 by rw [nI_add, Nat.add_comm], ← Int32.add_assoc, show (97 : Int32) = nI 97 from rfl, Int32.add_sub_cancel, nI_add, show (1 : Int32) = nI 1 from rfl, nI_add]
  rfl
set_option maxHeartbeats 4000000 in
theorem c5_letters  : Sat G mX5_letters [.ref m] (tah m F O R h0, sz) (Det (some (.int (F 5 - F 3))) (tah m F O R h0, sz)) := by
  refine Sat.of (by decide) [some (.ref m)] rfl rfl (fun X => ?_)
  refine ww_aload_n dX5_letters_0 rfl rfl ?_
  refine ta_geti dX5_letters_1 fX5_28 rfl rfl ?_
  refine ww_aload_n dX5_letters_4 rfl rfl ?_
  refine ta_geti dX5_letters_5 fX5_22 rfl rfl ?_
  refine ww_isub dX5_letters_8 ?_
  exact ww_iret dX5_letters_9 rfl ⟨rfl, rfl⟩ (Nat.zero_le _) (Nat.zero_le _)
set_option maxHeartbeats 4000000 in
theorem c5_byteAt {x : Int32} {j : Nat} (hx : x = nI j) (hj : j < 300) : Sat G mX5_byteAt [.ref m, .int x] (tah m F O R h0, sz) (Det (some (.int (R 0 j))) (tah m F O R h0, sz)) := by
  refine Sat.of (by decide) [some (.ref m), some (.int x)] rfl rfl (fun X => ?_)
  refine ww_iload_n dX5_byteAt_0 rfl rfl ?_
  refine ww_if_lt (tgt := 22) dX5_byteAt_1 (by decide) (fun c1 => ?_) (fun c1 => ?_)
  · exact absurd c1 (by rw [hx]; exact nI_pos (by omega))
  · refine ww_iload_n dX5_byteAt_4 rfl rfl ?_
    refine ww_aload_n dX5_byteAt_5 rfl rfl ?_
    refine ta_getr dX5_byteAt_6 fX5_9 rfl ?_
    refine ww_alen (v := 300) dX5_byteAt_9 (tah_arr (kf := 0) rfl) rfl ?_
    refine ww_icmp_ge (tgt := 22) dX5_byteAt_10 (by decide) (fun c10 => ?_) (fun c10 => ?_)
    · exact absurd c10 (by rw [hx]; exact Int32.not_le.mpr (nI_lt (b := 300) hj (by decide)))
    · refine ww_aload_n dX5_byteAt_13 rfl rfl ?_
      refine ta_getr dX5_byteAt_14 fX5_9 rfl ?_
      refine ww_iload_n dX5_byteAt_17 rfl rfl ?_
      refine ta_bald dX5_byteAt_18 rfl hx hj rfl ?_
      refine ww_goto (tgt := 23) dX5_byteAt_19 (by decide) ?_
      exact ww_iret dX5_byteAt_23 rfl ⟨rfl, rfl⟩ (Nat.zero_le _) (Nat.zero_le _)
def wkN : Nat → Nat := fun k => match k with
  | 0 => 143
  | 1 => 605573
  | 2 => 4773
  | 3 => 189619
  | 4 => 81544
  | 5 => 294
  | 6 => 176741
  | 7 => 1279278
  | _ => 19636
theorem wdN_wk : ∀ t, t < 9 → wdN (wkN t) = t := by decide
theorem wkN_lt : ∀ t, t < 9 → wkN t < 2 ^ 31 := by decide
theorem wdN_no {k : Nat} (h : ∀ t, t < 9 → ¬ k = wkN t) : wdN k = 9 := by
  unfold wdN
  rw [if_neg (show ¬ k = 143 from h 0 (by decide)), if_neg (show ¬ k = 605573 from h 1 (by decide)), if_neg (show ¬ k = 4773 from h 2 (by decide)), if_neg (show ¬ k = 189619 from h 3 (by decide)), if_neg (show ¬ k = 81544 from h 4 (by decide)), if_neg (show ¬ k = 294 from h 5 (by decide)), if_neg (show ¬ k = 176741 from h 6 (by decide)), if_neg (show ¬ k = 1279278 from h 7 (by decide)), if_neg (show ¬ k = 19636 from h 8 (by decide))]
set_option maxHeartbeats 4000000 in
theorem L5_kind {x : Int32} {k : Nat} {X : wX} (hw : ∀ t, t < 9 → R 6 t = nI (wkN t)) (hx : x = nI k) (hk : k < 2 ^ 31) : ∀ (n t : Nat) (x2 : Int32), 9 - t < n → t ≤ 9 → x2 = nI t → (∀ j, j < t → ¬ k = wkN j) → WW G mX5_kindOfKey cX5_kindOfKey X (wZ G mX5_kindOfKey X (Det (some (.int (nI (wdN k)))) (tah m F O R h0, sz))) 2 [some (.ref m), some (.int x), some (.int x2)] [] (tah m F O R h0, sz) 0 0 := by
  intro n
  induction n with
  | zero => intro t x2 hn; exact absurd hn (by omega)
  | succ n ih =>
    intro t x2 hn ht i2 i3
    refine ww_iload_n dX5_kindOfKey_2 rfl rfl ?_
    refine ww_aload_n dX5_kindOfKey_3 rfl rfl ?_
    refine ta_getr dX5_kindOfKey_4 fX5_31 rfl ?_
    refine ww_alen (v := 9) dX5_kindOfKey_7 (tah_arr (kf := 6) rfl) rfl ?_
    refine ww_icmp_ge (tgt := 29) dX5_kindOfKey_8 (by decide) (fun c8 => ?_) (fun c8 => ?_)
    · have e1 := (w_le (show (9 : Int32) = nI 9 from rfl) i2 (by decide) (by omega)).mp c8
      refine ww_bipush (v := 9) dX5_kindOfKey_29 (by decide) ?_
      exact ww_iret dX5_kindOfKey_31 rfl ⟨by rw [wdN_no (fun j hj => i3 j (by omega))]; rfl, rfl⟩ (Nat.zero_le _) (Nat.zero_le _)
    · have e1 : t < 9 := by rcases Nat.lt_or_ge t 9 with q | q; exact q; exact absurd ((w_le (show (9 : Int32) = nI 9 from rfl) i2 (by decide) (by omega)).mpr q) c8
      refine ww_aload_n dX5_kindOfKey_11 rfl rfl ?_
      refine ta_getr dX5_kindOfKey_12 fX5_31 rfl ?_
      refine ww_iload_n dX5_kindOfKey_15 rfl rfl ?_
      refine ta_iald dX5_kindOfKey_16 rfl i2 (by omega) rfl ?_
      refine ww_iload_n dX5_kindOfKey_17 rfl rfl ?_
      refine ww_icmp_ne (tgt := 23) dX5_kindOfKey_18 (by decide) (fun c18 => ?_) (fun c18 => ?_)
      · refine ww_iinc dX5_kindOfKey_23 rfl rfl rfl rfl ?_
        refine ww_goto (tgt := 2) dX5_kindOfKey_26 (by decide) ?_
        exact ih (t + 1) _ (by omega) (by omega) (w_inc i2) (fun j hj => by rcases Nat.lt_or_ge j t with q | q; exact i3 j q; rw [show j = t by omega]; exact fun q2 => c18 (by rw [hw t e1, hx, q2]))
      · refine ww_iload_n dX5_kindOfKey_21 rfl rfl ?_
        exact ww_iret dX5_kindOfKey_22 rfl ⟨by rw [show k = wkN t from ((nI_eq hk (wkN_lt t e1)).mp (by rw [← hx, ← hw t e1]; exact c18.symm)), wdN_wk t e1, i2], rfl⟩ (Nat.zero_le _) (Nat.zero_le _)
set_option maxHeartbeats 4000000 in
theorem c5_kindOfKey {x : Int32} {k : Nat} (hw : ∀ t, t < 9 → R 6 t = nI (wkN t)) (hx : x = nI k) (hk : k < 2 ^ 31) : Sat G mX5_kindOfKey [.ref m, .int x] (tah m F O R h0, sz) (Det (some (.int (nI (wdN k)))) (tah m F O R h0, sz)) := by
  refine Sat.of (by decide) [some (.ref m), some (.int x), none] rfl rfl (fun X => ?_)
  refine ww_iconst (v := 0) dX5_kindOfKey_0 (by decide) ?_
  refine ww_istore_n dX5_kindOfKey_1 rfl rfl rfl ?_
  exact L5_kind hw hx hk 10 0 _ (by omega) (by omega) rfl (fun j hj => absurd hj (by omega))
set_option maxHeartbeats 4000000 in
theorem L5_add {x y : Int32} {c : Nat} {X : wX} {Z : State → Prop} {v : Int32} (hc : F 1 = nI c) (hc2 : c < 300) (h4 : ¬ y < 0) (hb : vp_nar .byte (x.toUInt32 >>> (y.toUInt32 &&& Int32.toUInt32 31)).toInt32.toInt8.toInt32 = v) (hk : WW G mX5_addFour cX5_addFour X Z 3 [some (.ref m), some (.int x), some (.int (y + Int32.ofInt (-8)))] [] (tah m (upd F 1 (nI (c + 1))) O (va_up R 0 (upd (R 0) c v)) h0, sz) 0 0) : WW G mX5_addFour cX5_addFour X Z 3 [some (.ref m), some (.int x), some (.int y)] [] (tah m F O R h0, sz) 0 0 := by
  refine ww_iload_n dX5_addFour_3 rfl rfl ?_
  refine ww_if_lt (tgt := 55) dX5_addFour_4 (by decide) (fun c4 => ?_) (fun c4 => ?_)
  · exact absurd c4 h4
  · refine ww_aload_n dX5_addFour_7 rfl rfl ?_
    refine ta_geti dX5_addFour_8 fX5_15 rfl rfl ?_
    refine ww_if_lt (tgt := 49) dX5_addFour_11 (by decide) (fun c11 => ?_) (fun c11 => ?_)
    · exact absurd c11 (by rw [hc]; exact nI_pos (by omega))
    · refine ww_aload_n dX5_addFour_14 rfl rfl ?_
      refine ta_geti dX5_addFour_15 fX5_15 rfl rfl ?_
      refine ww_aload_n dX5_addFour_18 rfl rfl ?_
      refine ta_getr dX5_addFour_19 fX5_9 rfl ?_
      refine ww_alen (v := 300) dX5_addFour_22 (tah_arr (kf := 0) rfl) rfl ?_
      refine ww_icmp_ge (tgt := 49) dX5_addFour_23 (by decide) (fun c23 => ?_) (fun c23 => ?_)
      · exact absurd c23 (by rw [hc]; exact Int32.not_le.mpr (nI_lt (b := 300) hc2 (by decide)))
      · refine ww_aload_n dX5_addFour_26 rfl rfl ?_
        refine ta_getr dX5_addFour_27 fX5_9 rfl ?_
        refine ww_aload_n dX5_addFour_30 rfl rfl ?_
        refine ta_geti dX5_addFour_31 fX5_15 rfl rfl ?_
        refine ww_iload_n dX5_addFour_34 rfl rfl ?_
        refine ww_iload_n dX5_addFour_35 rfl rfl ?_
        refine ww_iushr dX5_addFour_36 ?_
        refine ww_i2b dX5_addFour_37 ?_
        refine ta_bast dX5_addFour_38 rfl hc hc2 rfl ?_
        refine ww_aload_n dX5_addFour_39 rfl rfl ?_
        refine ww_dup dX5_addFour_40 rfl ?_
        refine ta_geti dX5_addFour_41 fX5_15 rfl rfl ?_
        refine ww_iconst (v := 1) dX5_addFour_44 (by decide) ?_
        refine ww_iadd dX5_addFour_45 ?_
        refine ta_puti dX5_addFour_46 fX5_15 rfl rfl ?_
        refine ww_iinc dX5_addFour_49 rfl rfl rfl rfl ?_
        refine ww_goto (tgt := 3) dX5_addFour_52 (by decide) ?_
        rw [hc, nI_1, hb]
        exact hk
theorem nar8 (x : Int32) : vp_nar .byte x.toInt8.toInt32 = x.toInt8.toInt32 := by
  simp [vp_nar, narrow]
set_option maxHeartbeats 4000000 in
theorem c5_addFour {x : Int32} {c : Nat} (hc : F 1 = nI c) (hc2 : c + 4 ≤ 300) : Sat G mX5_addFour [.ref m, .int x] (tah m F O R h0, sz) (Det none (tah m (upd F 1 (nI (c + 4))) O (va_up R 0 (put4 (R 0) c x)) h0, sz)) := by
  refine Sat.of (by decide) [some (.ref m), some (.int x), none] rfl rfl (fun X => ?_)
  refine ww_bipush (v := 24) dX5_addFour_0 (by decide) ?_
  refine ww_istore_n dX5_addFour_2 rfl rfl rfl ?_
  have h8 := i8_sh x
  refine L5_add hc (by omega) (by decide) ((nar8 _).trans h8.1) ?_
  refine L5_add (c := c + 1) rfl (by omega) (by decide) ((nar8 _).trans h8.2.1) ?_
  refine L5_add (c := c + 2) rfl (by omega) (by decide) ((nar8 _).trans h8.2.2.1) ?_
  refine L5_add (c := c + 3) rfl (by omega) (by decide) ((nar8 _).trans h8.2.2.2) ?_
  refine ww_iload_n dX5_addFour_3 rfl rfl ?_
  refine ww_if_lt (tgt := 55) dX5_addFour_4 (by decide) (fun c4 => ?_) (fun c4 => ?_)
  · exact ww_vret dX5_addFour_55 rfl ⟨rfl, by simp only [w_up_up, w_upd_upd, w_up_self]; rfl⟩ (Nat.zero_le _) (Nat.zero_le _)
  · exact absurd c4 (fun q => q (by decide))
def tvN (b : Nat → Int32) (L p : Nat) : Nat := if nS b L p = L then 0 else if isLt (b (nS b L p)) = true then kv b L p else if isDg (b (nS b L p)) = true then nu b L p else 0
def tkF (F : Nat → Int32) (a s v : Int32) : Nat → Int32 := fun k => if k = 5 then a else if k = 4 then v else if k = 3 then s else F k
def taF (b : Nat → Int32) (L p : Nat) (F : Nat → Int32) : Nat → Int32 := fun k => if k = 2 then nI (kd b L p) else if k = 3 then nI (nS b L p) else if k = 4 then nI (tvN b L p) else if k = 5 then nI (ad b L p) else F k
theorem tkF_a (F : Nat → Int32) (a s v a2 : Int32) : upd (tkF F a s v) 5 a2 = tkF F a2 s v := by
  funext k
  by_cases h : k = 5 <;> simp [upd, tkF, h]
theorem tkF_v (F : Nat → Int32) (a s v v2 : Int32) : upd (tkF F a s v) 4 v2 = tkF F a s v2 := by
  funext k
  by_cases h : k = 4
  · simp [upd, tkF, h]
  · simp [upd, tkF, h]
theorem tkF_i (F : Nat → Int32) (a s v : Int32) : upd (upd (upd F 5 a) 3 s) 4 v = tkF F a s v := by
  funext k
  by_cases h : k = 5
  · simp [upd, tkF, h]
  · by_cases h1 : k = 4
    · simp [upd, tkF, h1]
    · simp [upd, tkF, h1, h]
theorem tkF_f {b : Nat → Int32} {L p : Nat} {F : Nat → Int32} {a s v kk : Int32} (h5 : a = nI (ad b L p)) (h4 : v = nI (tvN b L p)) (h3 : s = nI (nS b L p)) (h2 : kk = nI (kd b L p)) : upd (tkF F a s v) 2 kk = taF b L p F := by
  funext k
  rw [h5, h4, h3, h2]
  by_cases k2 : k = 2
  · simp [upd, taF, k2]
  · by_cases k3 : k = 3
    · simp [upd, tkF, taF, k3]
    · by_cases k4 : k = 4
      · simp [upd, tkF, taF, k4]
      · by_cases k5 : k = 5
        · simp [upd, tkF, taF, k5]
        · simp [upd, tkF, taF, k2, k3, k4, k5]
set_option maxHeartbeats 4000000 in
theorem L5_take1 {L s : Nat} {X : wX} {Z : State → Prop} (hL : F 1 = nI L) (hL2 : L ≤ 300) (hk : WW G mX5_take cX5_take X Z 38 [some (.ref m)] [] (tah m (upd F 5 (nI s)) O R h0, sz) 0 0) : ∀ (n q : Nat), L - q < n → q ≤ L → nS (R 0) L q = s → WW G mX5_take cX5_take X Z 0 [some (.ref m)] [] (tah m (upd F 5 (nI q)) O R h0, sz) 0 0 := by
  intro n
  induction n with
  | zero => intro q hn; exact absurd hn (by omega)
  | succ n ih =>
    intro q hn hq hs
    refine ww_aload_n dX5_take_0 rfl rfl ?_
    refine ta_geti dX5_take_1 fX5_28 rfl rfl ?_
    refine ww_aload_n dX5_take_4 rfl rfl ?_
    refine ta_geti dX5_take_5 fX5_15 rfl rfl ?_
    refine ww_icmp_ge (tgt := 38) dX5_take_8 (by decide) (fun c8 => ?_) (fun c8 => ?_)
    · have e2 := (w_le hL rfl (by omega) (by omega)).mp c8
      have e3 : q = s := by rw [← hs]; exact (scn_stop (fun z => by omega) _).symm
      rw [e3]
      exact hk
    · have e1 : q < L := by rcases Nat.lt_or_ge q L with z | z; exact z; exact absurd ((w_le hL rfl (by omega) (by omega)).mpr z) c8
      refine ww_aload_n dX5_take_11 rfl rfl ?_
      refine ww_aload_n dX5_take_12 rfl rfl ?_
      refine ta_geti dX5_take_13 fX5_28 rfl rfl ?_
      refine ta_call1 dX5_take_16 kX5_60 rfl rfl (c5_byteAt (j := q) rfl (by omega)) rfl rfl rfl rfl rfl rfl (Nat.zero_le _) (Nat.zero_le _) ?_
      refine ww_calls1 dX5_take_19 kX5_64 c5_isBlank rfl rfl rfl rfl rfl rfl (Nat.zero_le _) (Nat.zero_le _) ?_
      refine ww_if_eq (tgt := 38) dX5_take_22 (by decide) (fun c22 => ?_) (fun c22 => ?_)
      · have e3 : q = s := by rw [← hs]; exact (scn_stop (fun z => wb_nt (wb_eq0.mp c22) z.2) _).symm
        rw [e3]
        exact hk
      · refine ww_aload_n dX5_take_25 rfl rfl ?_
        refine ww_dup dX5_take_26 rfl ?_
        refine ta_geti dX5_take_27 fX5_28 rfl rfl ?_
        refine ww_iconst (v := 1) dX5_take_30 (by decide) ?_
        refine ww_iadd dX5_take_31 ?_
        refine ta_puti dX5_take_32 fX5_28 rfl rfl ?_
        refine ww_goto (tgt := 0) dX5_take_35 (by decide) ?_
        rw [show upd (upd F 5 (nI q)) 5 (upd F 5 (nI q) 5 + 1) = upd F 5 (nI (q + 1)) by rw [w_upd_upd, w_upd_self, nI_1]]
        exact ih (q + 1) (by omega) (by omega) ((scn_go e1 (wb_ne0.mp c22)).symm.trans hs)
set_option maxHeartbeats 4000000 in
theorem L5_take2 {L s e : Nat} {X : wX} {Z : State → Prop} (hL : F 1 = nI L) (hL2 : L ≤ 300) (hk : ∀ i, e = s + i → WW G mX5_take cX5_take X Z 108 [some (.ref m)] [] (tah m (tkF F (nI (s + i)) (nI s) (nI (ky (R 0) s i))) O R h0, sz) 0 0) : ∀ (n i : Nat), L - (s + i) < n → s + i ≤ L → scn isLt (R 0) L (L - (s + i)) (s + i) = e → WW G mX5_take cX5_take X Z 51 [some (.ref m)] [] (tah m (tkF F (nI (s + i)) (nI s) (nI (ky (R 0) s i))) O R h0, sz) 0 0 := by
  intro n
  induction n with
  | zero => intro i hn; exact absurd hn (by omega)
  | succ n ih =>
    intro i hn hq hs
    refine ww_aload_n dX5_take_51 rfl rfl ?_
    refine ta_geti dX5_take_52 fX5_28 rfl rfl ?_
    refine ww_aload_n dX5_take_55 rfl rfl ?_
    refine ta_geti dX5_take_56 fX5_15 rfl rfl ?_
    refine ww_icmp_ge (tgt := 108) dX5_take_59 (by decide) (fun c59 => ?_) (fun c59 => ?_)
    · have e2 := (w_le hL rfl (by omega) (by omega)).mp c59
      have e3 : s + i = e := by rw [← hs]; exact (scn_stop (fun z => by omega) _).symm
      exact hk i e3.symm
    · have e1 : s + i < L := by rcases Nat.lt_or_ge (s + i) L with z | z; exact z; exact absurd ((w_le hL rfl (by omega) (by omega)).mpr z) c59
      refine ww_aload_n dX5_take_62 rfl rfl ?_
      refine ww_aload_n dX5_take_63 rfl rfl ?_
      refine ta_geti dX5_take_64 fX5_28 rfl rfl ?_
      refine ta_call1 dX5_take_67 kX5_60 rfl rfl (c5_byteAt (j := s + i) rfl (by omega)) rfl rfl rfl rfl rfl rfl (Nat.zero_le _) (Nat.zero_le _) ?_
      refine ww_calls1 dX5_take_70 kX5_68 c5_isLetter rfl rfl rfl rfl rfl rfl (Nat.zero_le _) (Nat.zero_le _) ?_
      refine ww_if_eq (tgt := 108) dX5_take_73 (by decide) (fun c73 => ?_) (fun c73 => ?_)
      · have e3 : s + i = e := by rw [← hs]; exact (scn_stop (fun z => wb_nt (wb_eq0.mp c73) z.2) _).symm
        exact hk i e3.symm
      · refine ww_aload_n dX5_take_76 rfl rfl ?_
        refine ww_aload_n dX5_take_77 rfl rfl ?_
        refine ta_geti dX5_take_78 fX5_25 rfl rfl ?_
        refine ww_aload_n dX5_take_81 rfl rfl ?_
        refine ww_aload_n dX5_take_82 rfl rfl ?_
        refine ta_geti dX5_take_83 fX5_28 rfl rfl ?_
        refine ta_call1 dX5_take_86 kX5_60 rfl rfl (c5_byteAt (j := s + i) rfl (by omega)) rfl rfl rfl rfl rfl rfl (Nat.zero_le _) (Nat.zero_le _) ?_
        refine ww_calls1 dX5_take_89 kX5_71 c5_withLetter rfl rfl rfl rfl rfl rfl (Nat.zero_le _) (Nat.zero_le _) ?_
        refine ta_puti dX5_take_92 fX5_25 rfl rfl ?_
        refine ww_aload_n dX5_take_95 rfl rfl ?_
        refine ww_dup dX5_take_96 rfl ?_
        refine ta_geti dX5_take_97 fX5_28 rfl rfl ?_
        refine ww_iconst (v := 1) dX5_take_100 (by decide) ?_
        refine ww_iadd dX5_take_101 ?_
        refine ta_puti dX5_take_102 fX5_28 rfl rfl ?_
        refine ww_goto (tgt := 51) dX5_take_105 (by decide) ?_
        rw [tkF_v, tkF_a, show (tkF F (nI (s + i)) (nI s) (nI (ky (R 0) s i))) 4 = nI (ky (R 0) s i) from rfl, wl_nI rfl (wb_ne0.mp c73), show tkF F (nI (s + i)) (nI s) (nI (32 * ky (R 0) s i + ((R 0 (s + i)).toInt - 96).toNat)) 5 + 1 = nI (s + (i + 1)) from nI_1 (s + i)]
        exact ih (i + 1) (by omega) (by omega) ((scn_go e1 (wb_ne0.mp c73)).symm.trans hs)
theorem nv_nI {y : Int32} {v : Nat} (hv : v ≤ 1000) (hy : isDg y = true) : (if (1000 : Int32) < nI v * 10 + y - 48 then (1000 : Int32) else nI v * 10 + y - 48) = nI (min (10 * v + (y.toInt - 48).toNat) 1000) := by
  obtain ⟨d, h1, h2, h3⟩ := inR_d (a := 48) (c := 57) hy (by decide)
  have e2 : y = nI (48 + d) := Int32.toInt_inj.mp (by rw [h2, nI_toInt (by omega)])
  have e3 : (y.toInt - 48).toNat = d := by omega
  have e4 : nI v * 10 + y - 48 = nI (10 * v + d) := by
    rw [show (10 : Int32) = nI 10 from rfl, pk_mul, e2, show nI (48 + d) = nI d + nI 48 by rw [nI_add, Nat.add_comm], ← Int32.add_assoc, show (48 : Int32) = nI 48 from rfl, Int32.add_sub_cancel, nI_add, Nat.mul_comm]
  rw [e4, e3]
  by_cases hc : 1000 < 10 * v + d
  · rw [if_pos (show (1000 : Int32) < nI (10 * v + d) from nI_lt (a := 1000) hc (by omega)), Nat.min_eq_right (by omega)]
    rfl
  · rw [if_neg (show ¬ (1000 : Int32) < nI (10 * v + d) from fun q => hc ((nI_ltI (a := 1000) (by decide) (by omega)).mp q)), Nat.min_eq_left (by omega)]
theorem nvf_le (b : Nat → Int32) (s : Nat) : ∀ i, nvf b s i ≤ 1000
  | 0 => by simp [nvf]
  | i + 1 => by rw [nvf]; exact Nat.min_le_right _ _
set_option maxHeartbeats 4000000 in
theorem L5_take3 {L s e : Nat} {X : wX} {Z : State → Prop} (hL : F 1 = nI L) (hL2 : L ≤ 300) (hk : ∀ i, e = s + i → WW G mX5_take cX5_take X Z 213 [some (.ref m)] [] (tah m (tkF F (nI (s + i)) (nI s) (nI (nvf (R 0) s i))) O R h0, sz) 0 0) : ∀ (n i : Nat), L - (s + i) < n → s + i ≤ L → scn isDg (R 0) L (L - (s + i)) (s + i) = e → WW G mX5_take cX5_take X Z 146 [some (.ref m)] [] (tah m (tkF F (nI (s + i)) (nI s) (nI (nvf (R 0) s i))) O R h0, sz) 0 0 := by
  intro n
  induction n with
  | zero => intro i hn; exact absurd hn (by omega)
  | succ n ih =>
    intro i hn hq hs
    refine ww_aload_n dX5_take_146 rfl rfl ?_
    refine ta_geti dX5_take_147 fX5_28 rfl rfl ?_
    refine ww_aload_n dX5_take_150 rfl rfl ?_
    refine ta_geti dX5_take_151 fX5_15 rfl rfl ?_
    refine ww_icmp_ge (tgt := 213) dX5_take_154 (by decide) (fun c154 => ?_) (fun c154 => ?_)
    · have e2 := (w_le hL rfl (by omega) (by omega)).mp c154
      have e3 : s + i = e := by rw [← hs]; exact (scn_stop (fun z => by omega) _).symm
      exact hk i e3.symm
    · have e1 : s + i < L := by rcases Nat.lt_or_ge (s + i) L with z | z; exact z; exact absurd ((w_le hL rfl (by omega) (by omega)).mpr z) c154
      refine ww_aload_n dX5_take_157 rfl rfl ?_
      refine ww_aload_n dX5_take_158 rfl rfl ?_
      refine ta_geti dX5_take_159 fX5_28 rfl rfl ?_
      refine ta_call1 dX5_take_162 kX5_60 rfl rfl (c5_byteAt (j := s + i) rfl (by omega)) rfl rfl rfl rfl rfl rfl (Nat.zero_le _) (Nat.zero_le _) ?_
      refine ww_calls1 dX5_take_165 kX5_82 c5_isDigit rfl rfl rfl rfl rfl rfl (Nat.zero_le _) (Nat.zero_le _) ?_
      refine ww_if_eq (tgt := 213) dX5_take_168 (by decide) (fun c168 => ?_) (fun c168 => ?_)
      · have e3 : s + i = e := by rw [← hs]; exact (scn_stop (fun z => wb_nt (wb_eq0.mp c168) z.2) _).symm
        exact hk i e3.symm
      · refine ww_aload_n dX5_take_171 rfl rfl ?_
        refine ww_aload_n dX5_take_172 rfl rfl ?_
        refine ta_geti dX5_take_173 fX5_25 rfl rfl ?_
        refine ww_bipush (v := 10) dX5_take_176 (by decide) ?_
        refine ww_imul dX5_take_178 ?_
        refine ww_aload_n dX5_take_179 rfl rfl ?_
        refine ww_aload_n dX5_take_180 rfl rfl ?_
        refine ta_geti dX5_take_181 fX5_28 rfl rfl ?_
        refine ta_call1 dX5_take_184 kX5_60 rfl rfl (c5_byteAt (j := s + i) rfl (by omega)) rfl rfl rfl rfl rfl rfl (Nat.zero_le _) (Nat.zero_le _) ?_
        refine ww_iadd dX5_take_187 ?_
        refine ww_bipush (v := 48) dX5_take_188 (by decide) ?_
        refine ww_isub dX5_take_190 ?_
        refine ww_sipush (v := 1000) dX5_take_191 (by decide) ?_
        refine ww_min dX5_take_194 jX5_85 rfl rfl (Nat.zero_le _) (Nat.zero_le _) ?_
        refine ta_puti dX5_take_197 fX5_25 rfl rfl ?_
        refine ww_aload_n dX5_take_200 rfl rfl ?_
        refine ww_dup dX5_take_201 rfl ?_
        refine ta_geti dX5_take_202 fX5_28 rfl rfl ?_
        refine ww_iconst (v := 1) dX5_take_205 (by decide) ?_
        refine ww_iadd dX5_take_206 ?_
        refine ta_puti dX5_take_207 fX5_28 rfl rfl ?_
        refine ww_goto (tgt := 146) dX5_take_210 (by decide) ?_
        rw [tkF_v, tkF_a, show (tkF F (nI (s + i)) (nI s) (nI (nvf (R 0) s i))) 4 = nI (nvf (R 0) s i) from rfl, nv_nI (nvf_le _ _ _) (wb_ne0.mp c168), show tkF F (nI (s + i)) (nI s) (nI (min (10 * nvf (R 0) s i + ((R 0 (s + i)).toInt - 48).toNat) 1000)) 5 + 1 = nI (s + (i + 1)) from nI_1 (s + i)]
        exact ih (i + 1) (by omega) (by omega) ((scn_go e1 (wb_ne0.mp c168)).symm.trans hs)
theorem scn_st {P : Int32 → Bool} {b : Nat → Int32} {L s i : Nat} (h : scn P b L (L - s) s = s + i) (hi : 0 < i) (hs : s ≤ L) : s < L ∧ P (b s) = true := by
  by_cases q : s < L ∧ P (b s) = true
  · exact q
  · rw [scn_stop q] at h
    omega
theorem scn_st0 {P : Int32 → Bool} {b : Nat → Int32} {L s : Nat} (h : scn P b L (L - s) s = s + 0) : ¬ (s < L ∧ P (b s) = true) := by
  rintro ⟨h1, h2⟩
  rw [scn_go h1 h2] at h
  have := (scn_le (P := P) (b := b) (L := L) (L - (s + 1)) (s + 1) (by omega)).1
  omega
theorem nI_si (s i : Nat) : nI (s + i) - nI s = nI i := by rw [← nI_add, Int32.add_comm, Int32.add_sub_cancel]
theorem upd_25 (f : Nat → Int32) (x y : Int32) : upd (upd f 2 x) 5 y = upd (upd f 5 y) 2 x := by
  funext k
  by_cases h : k = 2
  · subst h; simp [upd]
  · by_cases h2 : k = 5
    · subst h2; simp [upd]
    · simp [upd, h, h2]
set_option maxHeartbeats 4000000 in
theorem L5_takeC {L p s i : Nat} {X : wX} (hL : F 1 = nI L) (hL2 : L ≤ 300) (hs : s = nS (R 0) L p) (hs2 : s ≤ L) (he : scn isDg (R 0) L (L - s) s = s + i) (hiL : s + i ≤ L) (hnl : ¬ (s < L ∧ isLt (R 0 s) = true)) : WW G mX5_take cX5_take X (wZ G mX5_take X (Det none (tah m (taF (R 0) L p F) O R h0, sz))) 213 [some (.ref m)] [] (tah m (tkF F (nI (s + i)) (nI s) (nI (nvf (R 0) s i))) O R h0, sz) 0 0 := by
  refine ww_aload_n dX5_take_213 rfl rfl ?_
  refine ta_geti dX5_take_214 fX5_28 rfl rfl ?_
  refine ww_aload_n dX5_take_217 rfl rfl ?_
  refine ta_geti dX5_take_218 fX5_22 rfl rfl ?_
  refine ww_icmp_le (tgt := 233) dX5_take_221 (by decide) (fun c221 => ?_) (fun c221 => ?_)
  · have hi : i = 0 := by
      have := (w_le (a := s + i) (b := s) rfl rfl (by omega) (by omega)).mp c221
      omega
    subst hi
    refine ww_aload_n dX5_take_233 rfl rfl ?_
    refine ta_geti dX5_take_234 fX5_28 rfl rfl ?_
    refine ww_aload_n dX5_take_237 rfl rfl ?_
    refine ta_geti dX5_take_238 fX5_15 rfl rfl ?_
    refine ww_icmp_lt (tgt := 253) dX5_take_241 (by decide) (fun c241 => ?_) (fun c241 => ?_)
    · have hh : s < L := by
        rcases Nat.lt_or_ge s L with z | z
        · exact z
        · exact absurd c241 (Int32.not_lt.mpr ((w_le (a := L) (b := s) hL rfl (by omega) (by omega)).mpr z))
      have hsl : ¬ s = L := by omega
      have hlt : isLt (R 0 s) = false := by
        cases hb : isLt (R 0 s) with
        | false => rfl
        | true => exact absurd ⟨hh, hb⟩ hnl
      have hdg : isDg (R 0 s) = false := by
        cases hb : isDg (R 0 s) with
        | false => rfl
        | true => exact absurd ⟨hh, hb⟩ (scn_st0 he)
      refine ww_aload_n dX5_take_253 rfl rfl ?_
      refine ww_aload_n dX5_take_254 rfl rfl ?_
      refine ww_aload_n dX5_take_255 rfl rfl ?_
      refine ta_geti dX5_take_256 fX5_28 rfl rfl ?_
      refine ta_call1 dX5_take_259 kX5_60 rfl rfl (c5_byteAt (j := s) rfl (by omega)) rfl rfl rfl rfl rfl rfl (Nat.zero_le _) (Nat.zero_le _) ?_
      refine ww_calls1 dX5_take_262 kX5_90 c5_signKind rfl rfl rfl rfl rfl rfl (Nat.zero_le _) (Nat.zero_le _) ?_
      refine ta_puti dX5_take_265 fX5_19 rfl rfl ?_
      refine ww_aload_n dX5_take_268 rfl rfl ?_
      refine ww_dup dX5_take_269 rfl ?_
      refine ta_geti dX5_take_270 fX5_28 rfl rfl ?_
      refine ww_iconst (v := 1) dX5_take_273 (by decide) ?_
      refine ww_iadd dX5_take_274 ?_
      refine ta_puti dX5_take_275 fX5_28 rfl rfl ?_
      exact ww_vret dX5_take_278 rfl ⟨rfl, by rw [upd_25, tkF_a, tkF_f (b := R 0) (L := L) (p := p) (F := F) (by rw [ad, ← hs, (tk_sgn (x := 0) hsl hlt hdg).1]; exact nI_1 s) (by rw [tvN, ← hs, if_neg hsl, if_neg (wb_nt hlt), if_neg (wb_nt hdg)]; rfl) (by rw [hs]) (by rw [kd, ← hs, if_neg hsl, if_neg (wb_nt hlt), if_neg (wb_nt hdg)])]⟩ (Nat.zero_le _) (Nat.zero_le _)
    · have hsl : s = L := by
        have := (w_le (a := L) (b := s) hL rfl (by omega) (by omega)).mp (Int32.not_lt.mp c241)
        omega
      refine ww_aload_n dX5_take_244 rfl rfl ?_
      refine ww_bipush (v := 15) dX5_take_245 (by decide) ?_
      refine ta_puti dX5_take_247 fX5_19 rfl rfl ?_
      refine ww_goto (tgt := 278) dX5_take_250 (by decide) ?_
      exact ww_vret dX5_take_278 rfl ⟨rfl, by rw [tkF_f (b := R 0) (L := L) (p := p) (F := F) (by rw [ad, ← hs, nE, if_pos hsl]; rfl) (by rw [tvN, ← hs, if_pos hsl]; rfl) (by rw [hs]) (show (15 : Int32) = _ by rw [kd, ← hs, if_pos hsl]; rfl)]⟩ (Nat.zero_le _) (Nat.zero_le _)
  · have hi : 0 < i := by
      rcases Nat.eq_zero_or_pos i with z | z
      · subst z; exact absurd (Int32.le_refl _) c221
      · exact z
    have hh := scn_st he hi hs2
    have hsl : ¬ s = L := by omega
    have hdg := hh.2
    have hlt : isLt (R 0 s) = false := by
      cases hb : isLt (R 0 s) with
      | false => rfl
      | true => exact absurd ⟨hh.1, hb⟩ hnl
    refine ww_aload_n dX5_take_224 rfl rfl ?_
    refine ww_bipush (v := 10) dX5_take_225 (by decide) ?_
    refine ta_puti dX5_take_227 fX5_19 rfl rfl ?_
    refine ww_goto (tgt := 278) dX5_take_230 (by decide) ?_
    exact ww_vret dX5_take_278 rfl ⟨rfl, by rw [tkF_f (b := R 0) (L := L) (p := p) (F := F) (by rw [ad, ← hs, ← nE_dig hsl hlt hdg, Nat.add_zero, he]) (by rw [tvN, ← hs, if_neg hsl, if_neg (wb_nt hlt), if_pos hdg, nu, kl, ← hs, ← nE_dig hsl hlt hdg, Nat.add_zero, he, Nat.add_sub_cancel_left]) (by rw [hs]) (show (10 : Int32) = _ by rw [kd, ← hs, if_neg hsl, if_neg (wb_nt hlt), if_pos hdg]; rfl)]⟩ (Nat.zero_le _) (Nat.zero_le _)
set_option maxHeartbeats 4000000 in
theorem L5_takeB {L p s i : Nat} {X : wX} (hL : F 1 = nI L) (hL2 : L ≤ 300) (hw : ∀ t, t < 9 → R 6 t = nI (wkN t)) (hs : s = nS (R 0) L p) (hs2 : s ≤ L) (he : scn isLt (R 0) L (L - s) s = s + i) (hiL : s + i ≤ L) : WW G mX5_take cX5_take X (wZ G mX5_take X (Det none (tah m (taF (R 0) L p F) O R h0, sz))) 108 [some (.ref m)] [] (tah m (tkF F (nI (s + i)) (nI s) (nI (ky (R 0) s i))) O R h0, sz) 0 0 := by
  refine ww_aload_n dX5_take_108 rfl rfl ?_
  refine ta_geti dX5_take_109 fX5_28 rfl rfl ?_
  refine ww_aload_n dX5_take_112 rfl rfl ?_
  refine ta_geti dX5_take_113 fX5_22 rfl rfl ?_
  refine ww_icmp_le (tgt := 146) dX5_take_116 (by decide) (fun c116 => ?_) (fun c116 => ?_)
  · have hi : i = 0 := by
      have := (w_le (a := s + i) (b := s) rfl rfl (by omega) (by omega)).mp c116
      omega
    subst hi
    exact L5_take3 hL hL2 (fun j hj => L5_takeC hL hL2 hs hs2 hj (by have := (scn_le (P := isDg) (b := R 0) (L := L) (L - s) s hs2).2; omega) (scn_st0 he)) (L + 1) 0 (by omega) (by omega) rfl
  · have hi : 0 < i := by
      rcases Nat.eq_zero_or_pos i with z | z
      · subst z; exact absurd (Int32.le_refl _) c116
      · exact z
    have hh := scn_st he hi hs2
    have hsl : ¬ s = L := by omega
    have hlt := hh.2
    have hall := let_all hsl hlt
    rw [← nE_let hsl hlt, Nat.add_zero, he] at hall
    refine ww_aload_n dX5_take_119 rfl rfl ?_
    refine ww_aload_n dX5_take_120 rfl rfl ?_
    refine ta_call1 dX5_take_121 kX5_75 rfl rfl c5_letters rfl rfl rfl rfl rfl rfl (Nat.zero_le _) (Nat.zero_le _) ?_
    refine ww_bipush (v := 6) dX5_take_124 (by decide) ?_
    rw [show tkF F (nI (s + i)) (nI s) (nI (ky (R 0) s i)) 5 - tkF F (nI (s + i)) (nI s) (nI (ky (R 0) s i)) 3 = nI i from nI_si s i]
    refine ww_icmp_le (tgt := 134) dX5_take_126 (by decide) (fun c126 => ?_) (fun c126 => ?_)
    · have hi6 : i ≤ 6 := (w_le (a := i) (b := 6) rfl rfl (by omega) (by omega)).mp c126
      have hky : ky (R 0) s i < 2 ^ 31 := Nat.lt_of_lt_of_le (ky_lt i (fun j hj => hall j (by omega))) (Nat.le_trans (Nat.pow_le_pow_right (by decide) hi6) (by decide))
      refine ww_aload_n dX5_take_134 rfl rfl ?_
      refine ww_aload_n dX5_take_135 rfl rfl ?_
      refine ta_geti dX5_take_136 fX5_25 rfl rfl ?_
      refine ta_call1 dX5_take_139 kX5_79 rfl rfl (c5_kindOfKey hw rfl hky) rfl rfl rfl rfl rfl rfl (Nat.zero_le _) (Nat.zero_le _) ?_
      refine ta_puti dX5_take_142 fX5_19 rfl rfl ?_
      exact ww_vret dX5_take_145 rfl ⟨rfl, by rw [tkF_f (b := R 0) (L := L) (p := p) (F := F) (by rw [ad, ← hs, ← nE_let hsl hlt, Nat.add_zero, he]) (by rw [tvN, ← hs, if_neg hsl, if_pos hlt, kv, kl, ← hs, ← nE_let hsl hlt, Nat.add_zero, he, Nat.add_sub_cancel_left]) (by rw [hs]) (by rw [kd, ← hs, if_neg hsl, if_pos hlt, kl, ← hs, ← nE_let hsl hlt, Nat.add_zero, he, Nat.add_sub_cancel_left, if_pos hi6, kv, kl, ← hs, ← nE_let hsl hlt, Nat.add_zero, he, Nat.add_sub_cancel_left])]⟩ (Nat.zero_le _) (Nat.zero_le _)
    · have hi6 : 6 < i := by
        rcases Nat.lt_or_ge 6 i with z | z
        · exact z
        · exact absurd ((w_le (a := i) (b := 6) rfl rfl (by omega) (by omega)).mpr z) c126
      refine ww_bipush (v := 16) dX5_take_129 (by decide) ?_
      refine ww_goto (tgt := 142) dX5_take_131 (by decide) ?_
      refine ta_puti dX5_take_142 fX5_19 rfl rfl ?_
      exact ww_vret dX5_take_145 rfl ⟨rfl, by rw [tkF_f (b := R 0) (L := L) (p := p) (F := F) (by rw [ad, ← hs, ← nE_let hsl hlt, Nat.add_zero, he]) (by rw [tvN, ← hs, if_neg hsl, if_pos hlt, kv, kl, ← hs, ← nE_let hsl hlt, Nat.add_zero, he, Nat.add_sub_cancel_left]) (by rw [hs]) (show (16 : Int32) = _ by rw [kd, ← hs, if_neg hsl, if_pos hlt, kl, ← hs, ← nE_let hsl hlt, Nat.add_zero, he, Nat.add_sub_cancel_left, if_neg (by omega)]; rfl)]⟩ (Nat.zero_le _) (Nat.zero_le _)
set_option maxHeartbeats 4000000 in
theorem L5_takeA {L p : Nat} {X : wX} (hL : F 1 = nI L) (hL2 : L ≤ 300) (hw : ∀ t, t < 9 → R 6 t = nI (wkN t)) (hs2 : nS (R 0) L p ≤ L) : WW G mX5_take cX5_take X (wZ G mX5_take X (Det none (tah m (taF (R 0) L p F) O R h0, sz))) 38 [some (.ref m)] [] (tah m (upd F 5 (nI (nS (R 0) L p))) O R h0, sz) 0 0 := by
  refine ww_aload_n dX5_take_38 rfl rfl ?_
  refine ww_aload_n dX5_take_39 rfl rfl ?_
  refine ta_geti dX5_take_40 fX5_28 rfl rfl ?_
  refine ta_puti dX5_take_43 fX5_22 rfl rfl ?_
  refine ww_aload_n dX5_take_46 rfl rfl ?_
  refine ww_iconst (v := 0) dX5_take_47 (by decide) ?_
  refine ta_puti dX5_take_48 fX5_25 rfl rfl ?_
  rw [tkF_i]
  exact L5_take2 hL hL2 (fun j hj => L5_takeB hL hL2 hw rfl hs2 hj (by have := (scn_le (P := isLt) (b := R 0) (L := L) (L - nS (R 0) L p) (nS (R 0) L p) hs2).2; omega)) (L + 1) 0 (by omega) (by omega) rfl
theorem c5_take {L p : Nat} (hL : F 1 = nI L) (hL2 : L ≤ 300) (hw : ∀ t, t < 9 → R 6 t = nI (wkN t)) (hp : F 5 = nI p) (hpL : p ≤ L) : Sat G mX5_take [.ref m] (tah m F O R h0, sz) (Det none (tah m (taF (R 0) L p F) O R h0, sz)) := by
  refine Sat.of (by decide) [some (.ref m)] rfl rfl (fun X => ?_)
  have e := L5_take1 (G := G) (m := m) (O := O) (h0 := h0) (sz := sz) (X := X) hL hL2 (L5_takeA hL hL2 hw (nS_le hpL).2) (L + 1) p (by omega) hpL rfl
  rw [w_upd_id hp] at e
  exact e
theorem taF_5 (b : Nat → Int32) (L p : Nat) (x : Int32) : taF b L p (upd F 5 x) = taF b L p F := by
  funext k
  by_cases h : k = 5
  · simp [taF, h]
  · simp [taF, upd, h]
set_option maxHeartbeats 4000000 in
theorem c5_rewind {L : Nat} (hL : F 1 = nI L) (hL2 : L ≤ 300) (hw : ∀ t, t < 9 → R 6 t = nI (wkN t)) : Sat G mX5_rewind [.ref m] (tah m F O R h0, sz) (Det none (tah m (taF (R 0) L 0 F) O R h0, sz)) := by
  refine Sat.of (by decide) [some (.ref m)] rfl rfl (fun X => ?_)
  refine ww_aload_n dX5_rewind_0 rfl rfl ?_
  refine ww_iconst (v := 0) dX5_rewind_1 (by decide) ?_
  refine ta_puti dX5_rewind_2 fX5_28 rfl rfl ?_
  refine ww_aload_n dX5_rewind_5 rfl rfl ?_
  refine ta_call0 dX5_rewind_6 kX5_57 rfl rfl (c5_take (F := upd F 5 0) (p := 0) hL hL2 hw rfl (by omega)) rfl rfl rfl rfl rfl rfl (Nat.zero_le _) (Nat.zero_le _) ?_
  exact ww_vret dX5_rewind_9 rfl ⟨rfl, by rw [taF_5]⟩ (Nat.zero_le _) (Nat.zero_le _)
set_option maxHeartbeats 4000000 in
theorem c5_isTaskName  : Sat G mX5_isTaskName [.ref m] (tah m F O R h0, sz) (Det (some (.int (wb (decide (F 2 = 9 ∧ 2 ≤ F 5 - F 3))))) (tah m F O R h0, sz)) := by
  refine Sat.of (by decide) [some (.ref m)] rfl rfl (fun X => ?_)
  refine ww_aload_n dX5_isTaskName_0 rfl rfl ?_
  refine ta_geti dX5_isTaskName_1 fX5_19 rfl rfl ?_
  refine ww_bipush (v := 9) dX5_isTaskName_4 (by decide) ?_
  refine ww_icmp_ne (tgt := 21) dX5_isTaskName_6 (by decide) (fun c6 => ?_) (fun c6 => ?_)
  · refine ww_iconst (v := 0) dX5_isTaskName_21 (by decide) ?_
    exact ww_zret dX5_isTaskName_22 rfl (Or.inl rfl) ⟨by rw [decide_eq_false (fun q => c6 q.1)]; rfl, rfl⟩ (Nat.zero_le _) (Nat.zero_le _)
  · refine ww_aload_n dX5_isTaskName_9 rfl rfl ?_
    refine ta_call1 dX5_isTaskName_10 kX5_75 rfl rfl c5_letters rfl rfl rfl rfl rfl rfl (Nat.zero_le _) (Nat.zero_le _) ?_
    refine ww_iconst (v := 2) dX5_isTaskName_13 (by decide) ?_
    refine ww_icmp_lt (tgt := 21) dX5_isTaskName_14 (by decide) (fun c14 => ?_) (fun c14 => ?_)
    · refine ww_iconst (v := 0) dX5_isTaskName_21 (by decide) ?_
      exact ww_zret dX5_isTaskName_22 rfl (Or.inl rfl) ⟨by rw [decide_eq_false (fun q => Int32.not_le.mpr c14 q.2)]; rfl, rfl⟩ (Nat.zero_le _) (Nat.zero_le _)
    · refine ww_iconst (v := 1) dX5_isTaskName_17 (by decide) ?_
      refine ww_goto (tgt := 22) dX5_isTaskName_18 (by decide) ?_
      exact ww_zret dX5_isTaskName_22 rfl (Or.inr rfl) ⟨by rw [decide_eq_true ⟨c6, Int32.not_lt.mp c14⟩]; rfl, rfl⟩ (Nat.zero_le _) (Nat.zero_le _)
end B5
