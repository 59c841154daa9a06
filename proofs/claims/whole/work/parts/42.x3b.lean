/-- what a primitive of the parser leaves -/
def PP (L : Nat) (Y X : cX) : Prop := Y.1 ≤ L ∧ Y.2.2 = X.2.2 ∧ (∀ k, k ≠ 1 → k ≠ 2 → Y.2.1 k = X.2.1 k) ∧ (X.2.1 1 ≠ 0 → Y.2.1 1 = X.2.1 1 ∧ Y.2.1 2 = X.2.1 2)
theorem PP.tr {L : Nat} {Z Y X : cX} (h1 : PP L Z Y) (h2 : PP L Y X) : PP L Z X := ⟨h1.1, h1.2.1.trans h2.2.1, fun k a b => (h1.2.2.1 k a b).trans (h2.2.2.1 k a b), fun h => by
  have e := h2.2.2.2 h
  have e2 := h1.2.2.2 (by rw [e.1]; exact h)
  exact ⟨e2.1.trans e.1, e2.2.trans e.2⟩⟩
theorem flX_P {b : Nat → Int32} {L : Nat} {k : Int32} {X : cX} (hp : X.1 ≤ L) : PP L (flX b L k X) X := by
  refine ⟨hp, rfl, fun k h1 h2 => ?_, fun h => ?_⟩
  · simp only [flX, flF]
    split
    · simp [upd, h1, h2]
    · rfl
  · constructor <;> simp only [flX, flF, if_neg h]
theorem ad_P {b : Nat → Int32} {L : Nat} {X : cX} (hp : X.1 ≤ L) : PP L (ad b L X.1, X.2) X := ⟨(ad_le hp).2, rfl, fun _ _ _ => rfl, fun _ => ⟨rfl, rfl⟩⟩
theorem ndX_P {b : Nat → Int32} {L k : Nat} {X : cX} (hp : X.1 ≤ L) : PP L (ndX b L k X) X := by
  unfold ndX
  split
  · exact ad_P hp
  · exact flX_P hp
theorem nmX_P {b : Nat → Int32} {L lo hi : Nat} {X : cX} (hp : X.1 ≤ L) : PP L (nmX b L lo hi X).2 X := by
  unfold nmX
  split
  · split
    · exact ad_P hp
    · exact flX_P hp
  · exact flX_P hp
theorem nmX_le {b : Nat → Int32} {L lo hi : Nat} {X : cX} (h : lo ≤ hi) : lo ≤ (nmX b L lo hi X).1 ∧ (nmX b L lo hi X).1 ≤ hi := by
  unfold nmX
  split
  · split
    · assumption
    · exact ⟨Nat.le_refl _, h⟩
  · exact ⟨Nat.le_refl _, h⟩
def fdX (b : Nat → Int32) (L : Nat) (X : cX) : Nat × cX := if kd b L X.1 = 9 ∧ kv b L X.1 ≤ 4 then (kv b L X.1 - 1, ad b L X.1, X.2) else (0, flX b L 1 X)
theorem fdX_P {b : Nat → Int32} {L : Nat} {X : cX} (hp : X.1 ≤ L) : PP L (fdX b L X).2 X := by
  unfold fdX
  split
  · exact ad_P hp
  · exact flX_P hp
theorem fdX_le {b : Nat → Int32} {L : Nat} {X : cX} : (fdX b L X).1 ≤ 3 := by
  unfold fdX
  split
  · show kv b L X.1 - 1 ≤ 3
    omega
  · exact Nat.zero_le _
/-- the first place of v in ns from k on, n places -/
def fsM (ns : Nat → Int32) (v : Int32) : Nat → Nat → Option Nat
  | 0, _ => none
  | n + 1, k => if ns k = v then some k else fsM ns v n (k + 1)
theorem fsM_lt {ns : Nat → Int32} {v : Int32} : ∀ {n k i : Nat}, fsM ns v n k = some i → k ≤ i ∧ i < k + n
  | 0, k, i, h => by cases h
  | n + 1, k, i, h => by
    rw [fsM] at h
    split at h
    · cases h; omega
    · have := fsM_lt h; omega
def tdN (X : cX) : Nat := (X.2.1 5).toNatClampNeg
def nnX (b : Nat → Int32) (L : Nat) (X : cX) : cX :=
  if kd b L X.1 = 9 ∧ 2 ≤ kl b L X.1 then (match fsM (X.2.2.2.1 6) (nI (kv b L X.1)) (tdN X) 0 with
    | some _ => flX b L 2 X
    | none => (ad b L X.1, upd X.2.1 5 (nI (tdN X + 1)), X.2.2.1, va_up X.2.2.2.1 6 (upd (X.2.2.2.1 6) (tdN X) (nI (kv b L X.1))), X.2.2.2.2)) else flX b L 1 X
def eyX (b : Nat → Int32) (L : Nat) (X : cX) : Int32 × cX :=
  let X1 : cX := (ad b L X.1, X.2)
  if kd b L X1.1 = 9 ∧ 2 ≤ kl b L X1.1 then (match fsM (X.2.2.2.1 6) (nI (kv b L X1.1)) (tdN X) 0 with
    | some i => (nI i, ad b L X1.1, X.2)
    | none => (-1, flX b L 2 X1)) else (onI (fsM (X.2.2.2.1 6) (nI (tvN b L X1.1)) (tdN X) 0), flX b L 1 X1)
theorem eyX_P {b : Nat → Int32} {L : Nat} {X : cX} (hp : X.1 ≤ L) : PP L (eyX b L X).2 X := by
  have h1 : PP L (ad b L X.1, X.2) X := ad_P hp
  unfold eyX
  dsimp only
  split
  · split
    · exact (ad_P (X := (ad b L X.1, X.2)) h1.1).tr h1
    · exact (flX_P (X := (ad b L X.1, X.2)) h1.1).tr h1
  · exact (flX_P (X := (ad b L X.1, X.2)) h1.1).tr h1
def hdX (o : Nat) (X : cX) : cX := (X.1, X.2.1, X.2.2.1, va_up X.2.2.2.1 13 (upd (X.2.2.2.1 13) o 1), X.2.2.2.2)
section X3B
variable {G : wG} {Λ : wL} {r t d mr mt md L : Nat} {F : Nat → Nat → Int32} {O : Nat → Nat → Option Nat} {R : Nat → Nat → Nat → Int32} {h0 : Nat → Option wE} {sz : Nat} {X : cX}
set_option maxHeartbeats 4000000 in
theorem c3_readField (J : hJ Λ r t d F O R L mr mt md) (hp : X.1 ≤ L) : Sat G mX3_readField [.ref mr] (hX Λ r t d F O R h0 L X, sz) (Det (some (.int (nI (fdX (R t 0) L X).1))) (hX Λ r t d F O R h0 L (fdX (R t 0) L X).2, sz)) := by
  refine Sat.of (by decide) [some (.ref mr), none] rfl rfl (fun Y => ?_)
  refine ww_aload_n dX3_readField_0 rfl rfl ?_
  refine Wrd_geto J.1 dX3_readField_1 fX3_12 rfl rfl J.2.2.2.1 ?_
  refine Xt_geti J dX3_readField_4 fX3_148 rfl rfl ?_
  refine ww_iconst (v := 1) dX3_readField_7 (by decide) ?_
  refine ww_isub dX3_readField_8 ?_
  refine ww_istore_n dX3_readField_9 rfl rfl rfl ?_
  refine ww_aload_n dX3_readField_10 rfl rfl ?_
  refine Wrd_geto J.1 dX3_readField_11 fX3_12 rfl rfl J.2.2.2.1 ?_
  refine Xt_geti J dX3_readField_14 fX3_68 rfl rfl ?_
  refine ww_bipush (v := 9) dX3_readField_17 (by decide) ?_
  refine ww_icmp_ne (tgt := 31) dX3_readField_19 (by decide) (fun c19 => ?_) (fun c19 => ?_)
  · refine ww_aload_n dX3_readField_31 rfl rfl ?_
    refine ww_iconst (v := 1) dX3_readField_32 (by decide) ?_
    refine Wrd_call0 J.1 dX3_readField_33 kX3_90 rfl rfl (c3_fail J) rfl rfl rfl rfl rfl rfl (Nat.zero_le _) (Nat.zero_le _) ?_
    refine ww_iconst (v := 0) dX3_readField_36 (by decide) ?_
    exact ww_iret dX3_readField_37 rfl ⟨by rw [fdX, if_neg (fun q => c19 (by show nI (kd _ _ _) = nI 9; rw [q.1]))]; rfl, by rw [fdX, if_neg (fun q => c19 (by show nI (kd _ _ _) = nI 9; rw [q.1]))]⟩ (Nat.zero_le _) (Nat.zero_le _)
  · have e9 := (kd_eq (b := R t 0) (L := L) (p := X.1) (k := 9) (by decide)).mp c19
    have e10 := tv_9 e9 hp
    have hv : taF (R t 0) L X.1 (F t) 4 - 1 = nI (kv (R t 0) L X.1 - 1) := by
      have e11 : kv (R t 0) L X.1 = kv (R t 0) L X.1 - 1 + 1 := by omega
      show nI (tvN (R t 0) L X.1) - 1 = _
      rw [e10.1, e11, nI_p1]
      rfl
    refine ww_iload_n dX3_readField_22 rfl rfl ?_
    refine ww_if_lt (tgt := 31) dX3_readField_23 (by decide) (fun c23 => ?_) (fun c23 => ?_)
    · exact absurd c23 (by rw [hv]; exact nI_pos (by omega))
    · refine ww_iload_n dX3_readField_26 rfl rfl ?_
      refine ww_iconst (v := 4) dX3_readField_27 (by decide) ?_
      refine ww_icmp_lt (tgt := 38) dX3_readField_28 (by decide) (fun c28 => ?_) (fun c28 => ?_)
      · have e12 : kv (R t 0) L X.1 ≤ 4 := by
          rcases Nat.lt_or_ge 4 (kv (R t 0) L X.1) with z | z
          · rw [hv] at c28; exact absurd c28 (Int32.not_lt.mpr (nI_le (a := 4) (by omega) (by omega)))
          · exact z
        refine ww_aload_n dX3_readField_38 rfl rfl ?_
        refine Wrd_geto J.1 dX3_readField_39 fX3_12 rfl rfl J.2.2.2.1 ?_
        refine Wta_call0 J.2.1 dX3_readField_42 kX3_97 rfl rfl (x3_take J hp) rfl rfl rfl rfl rfl rfl (Nat.zero_le _) (Nat.zero_le _) ?_
        refine ww_iload_n dX3_readField_45 rfl rfl ?_
        exact ww_iret dX3_readField_46 rfl ⟨by rw [fdX, if_pos ⟨e9, e12⟩, hv], by rw [fdX, if_pos ⟨e9, e12⟩]⟩ (Nat.zero_le _) (Nat.zero_le _)
      · refine ww_aload_n dX3_readField_31 rfl rfl ?_
        refine ww_iconst (v := 1) dX3_readField_32 (by decide) ?_
        refine Wrd_call0 J.1 dX3_readField_33 kX3_90 rfl rfl (c3_fail J) rfl rfl rfl rfl rfl rfl (Nat.zero_le _) (Nat.zero_le _) ?_
        refine ww_iconst (v := 0) dX3_readField_36 (by decide) ?_
        exact ww_iret dX3_readField_37 rfl ⟨by rw [fdX, if_neg (fun q => c28 (by rw [hv]; exact nI_lt (b := 4) (by omega) (by decide)))]; rfl, by rw [fdX, if_neg (fun q => c28 (by rw [hv]; exact nI_lt (b := 4) (by omega) (by decide)))]⟩ (Nat.zero_le _) (Nat.zero_le _)
set_option maxHeartbeats 4000000 in
theorem L3_named (J : hJ Λ r t d F O R L mr mt md) {x : Int32} {c : Nat} {Y : wX} (hc : X.2.1 5 = nI c) (hc2 : c ≤ 40) : ∀ (n k : Nat) (x2 : Int32), c - k < n → k ≤ c → x2 = nI k → fsM (X.2.2.2.1 6) x (c - k) k = fsM (X.2.2.2.1 6) x c 0 → WW G mX3_doNamed cX3_doNamed Y (wZ G mX3_doNamed Y (Det (some (.int (onI (fsM (X.2.2.2.1 6) x c 0)))) (hX Λ r t d F O R h0 L X, sz))) 2 [some (.ref mr), some (.int x), some (.int x2)] [] (hX Λ r t d F O R h0 L X, sz) 0 0 := by
  intro n
  induction n with
  | zero => intro k x2 hn; exact absurd hn (by omega)
  | succ n ih =>
    intro k x2 hn hk i2 i3
    refine ww_iload_n dX3_doNamed_2 rfl rfl ?_
    refine ww_aload_n dX3_doNamed_3 rfl rfl ?_
    refine Xr_geti J dX3_doNamed_4 fX3_36 rfl rfl ?_
    refine ww_icmp_ge (tgt := 34) dX3_doNamed_7 (by decide) (fun c7 => ?_) (fun c7 => ?_)
    · refine ww_iconst (v := -1) dX3_doNamed_34 (by decide) ?_
      exact ww_iret dX3_doNamed_35 rfl ⟨by rw [← i3, show c - k = 0 by have := (w_le hc i2 (by omega) (by omega)).mp c7; omega]; rfl, rfl⟩ (Nat.zero_le _) (Nat.zero_le _)
    · have e1 : k < c := by rcases Nat.lt_or_ge k c with q | q; exact q; exact absurd ((w_le hc i2 (by omega) (by omega)).mpr q) c7
      refine ww_iload_n dX3_doNamed_10 rfl rfl ?_
      refine ww_bipush (v := 40) dX3_doNamed_11 (by decide) ?_
      refine ww_icmp_ge (tgt := 34) dX3_doNamed_13 (by decide) (fun c13 => ?_) (fun c13 => ?_)
      · exact absurd c13 (by rw [i2]; exact Int32.not_le.mpr (nI_lt (b := 40) (by omega) (by decide)))
      · refine ww_aload_n dX3_doNamed_16 rfl rfl ?_
        refine Wrd_getr J.1 dX3_doNamed_17 fX3_39 rfl ?_
        refine ww_iload_n dX3_doNamed_20 rfl rfl ?_
        refine Xr_iald J dX3_doNamed_21 (kf := 6) rfl i2 (by omega) rfl ?_
        refine ww_iload_n dX3_doNamed_22 rfl rfl ?_
        refine ww_icmp_ne (tgt := 28) dX3_doNamed_23 (by decide) (fun c23 => ?_) (fun c23 => ?_)
        · refine ww_iinc dX3_doNamed_28 rfl rfl rfl rfl ?_
          refine ww_goto (tgt := 2) dX3_doNamed_31 (by decide) ?_
          exact ih (k + 1) _ (by omega) (by omega) (w_inc i2) (by rw [← i3, show c - k = c - (k + 1) + 1 by omega, fsM, if_neg c23])
        · refine ww_iload_n dX3_doNamed_26 rfl rfl ?_
          exact ww_iret dX3_doNamed_27 rfl ⟨by rw [← i3, show c - k = c - (k + 1) + 1 by omega, fsM, if_pos c23, i2]; rfl, rfl⟩ (Nat.zero_le _) (Nat.zero_le _)
set_option maxHeartbeats 4000000 in
theorem c3_doNamed (J : hJ Λ r t d F O R L mr mt md) {x : Int32} {c : Nat} (hc : X.2.1 5 = nI c) (hc2 : c ≤ 40) : Sat G mX3_doNamed [.ref mr, .int x] (hX Λ r t d F O R h0 L X, sz) (Det (some (.int (onI (fsM (X.2.2.2.1 6) x c 0)))) (hX Λ r t d F O R h0 L X, sz)) := by
  refine Sat.of (by decide) [some (.ref mr), some (.int x), none] rfl rfl (fun Y => ?_)
  refine ww_iconst (v := 0) dX3_doNamed_0 (by decide) ?_
  refine ww_istore_n dX3_doNamed_1 rfl rfl rfl ?_
  exact L3_named J hc hc2 (c + 1) 0 _ (by omega) (by omega) rfl rfl
set_option maxHeartbeats 4000000 in
theorem c3_readNewName (J : hJ Λ r t d F O R L mr mt md) {c : Nat} (hp : X.1 ≤ L) (hc : X.2.1 5 = nI c) (hc2 : c < 40) : Sat G mX3_readNewName [.ref mr] (hX Λ r t d F O R h0 L X, sz) (Det none (hX Λ r t d F O R h0 L (nnX (R t 0) L X), sz)) := by
  refine Sat.of (by decide) [some (.ref mr)] rfl rfl (fun Y => ?_)
  refine ww_aload_n dX3_readNewName_0 rfl rfl ?_
  refine Wrd_geto J.1 dX3_readNewName_1 fX3_12 rfl rfl J.2.2.2.1 ?_
  refine Wta_call1 J.2.1 dX3_readNewName_4 kX3_144 rfl rfl (x3_isTN J hp) rfl rfl rfl rfl rfl rfl (Nat.zero_le _) (Nat.zero_le _) ?_
  refine ww_if_ne (tgt := 18) dX3_readNewName_7 (by decide) (fun c7 => ?_) (fun c7 => ?_)
  · have e7 := of_decide_eq_true (wb_ne0.mp c7)
    have e9 := tv_9 e7.1 hp
    have hT : tdN X = c := by rw [tdN, hc, nI_clamp (by omega)]
    refine ww_aload_n dX3_readNewName_18 rfl rfl ?_
    refine ww_aload_n dX3_readNewName_19 rfl rfl ?_
    refine Wrd_geto J.1 dX3_readNewName_20 fX3_12 rfl rfl J.2.2.2.1 ?_
    refine Xt_geti J dX3_readNewName_23 fX3_148 rfl rfl ?_
    refine Wrd_call1 J.1 dX3_readNewName_26 kX3_151 rfl rfl (c3_doNamed J hc (by omega)) rfl rfl rfl rfl rfl rfl (Nat.zero_le _) (Nat.zero_le _) ?_
    rw [show taF (R t 0) L X.1 (F t) 4 = nI (kv (R t 0) L X.1) from congrArg nI e9.1]
    refine ww_iconst (v := -1) dX3_readNewName_29 (by decide) ?_
    refine ww_icmp_eq (tgt := 41) dX3_readNewName_30 (by decide) (fun c30 => ?_) (fun c30 => ?_)
    · have hf : fsM (X.2.2.2.1 6) (nI (kv (R t 0) L X.1)) c 0 = none := by
        cases hf : fsM (X.2.2.2.1 6) (nI (kv (R t 0) L X.1)) c 0 with
        | none => rfl
        | some i => rw [hf] at c30; exact absurd c30 (onI_ne i (by have := fsM_lt hf; omega))
      refine ww_aload_n dX3_readNewName_41 rfl rfl ?_
      refine Xr_geti J dX3_readNewName_42 fX3_36 rfl rfl ?_
      refine ww_if_lt (tgt := 83) dX3_readNewName_45 (by decide) (fun c45 => ?_) (fun c45 => ?_)
      · exact absurd c45 (by rw [hc]; exact nI_pos (by omega))
      · refine ww_aload_n dX3_readNewName_48 rfl rfl ?_
        refine Xr_geti J dX3_readNewName_49 fX3_36 rfl rfl ?_
        refine ww_bipush (v := 40) dX3_readNewName_52 (by decide) ?_
        refine ww_icmp_ge (tgt := 83) dX3_readNewName_54 (by decide) (fun c54 => ?_) (fun c54 => ?_)
        · exact absurd c54 (by rw [hc]; exact Int32.not_le.mpr (nI_lt (b := 40) hc2 (by decide)))
        · refine ww_aload_n dX3_readNewName_57 rfl rfl ?_
          refine Wrd_getr J.1 dX3_readNewName_58 fX3_39 rfl ?_
          refine ww_aload_n dX3_readNewName_61 rfl rfl ?_
          refine Xr_geti J dX3_readNewName_62 fX3_36 rfl rfl ?_
          refine ww_aload_n dX3_readNewName_65 rfl rfl ?_
          refine Wrd_geto J.1 dX3_readNewName_66 fX3_12 rfl rfl J.2.2.2.1 ?_
          refine Xt_geti J dX3_readNewName_69 fX3_148 rfl rfl ?_
          refine Xr_iast J dX3_readNewName_72 (kf := 6) rfl hc hc2 rfl ?_
          refine ww_aload_n dX3_readNewName_73 rfl rfl ?_
          refine ww_dup dX3_readNewName_74 rfl ?_
          refine Xr_geti J dX3_readNewName_75 fX3_36 rfl rfl ?_
          refine ww_iconst (v := 1) dX3_readNewName_78 (by decide) ?_
          refine ww_iadd dX3_readNewName_79 ?_
          refine Xr_puti J dX3_readNewName_80 fX3_36 rfl rfl ?_
          refine ww_aload_n dX3_readNewName_83 rfl rfl ?_
          refine Wrd_geto J.1 dX3_readNewName_84 fX3_12 rfl rfl J.2.2.2.1 ?_
          refine Wta_call0 J.2.1 dX3_readNewName_87 kX3_97 rfl rfl (x3_take J hp) rfl rfl rfl rfl rfl rfl (Nat.zero_le _) (Nat.zero_le _) ?_
          exact ww_vret dX3_readNewName_90 rfl ⟨rfl, by rw [nnX, if_pos e7, hT, hf, hc, nI_1, show taF (R t 0) L X.1 (F t) 4 = nI (kv (R t 0) L X.1) from congrArg nI e9.1]⟩ (Nat.zero_le _) (Nat.zero_le _)
    · refine ww_aload_n dX3_readNewName_33 rfl rfl ?_
      refine ww_iconst (v := 2) dX3_readNewName_34 (by decide) ?_
      refine Wrd_call0 J.1 dX3_readNewName_35 kX3_90 rfl rfl (c3_fail J) rfl rfl rfl rfl rfl rfl (Nat.zero_le _) (Nat.zero_le _) ?_
      refine ww_goto (tgt := 90) dX3_readNewName_38 (by decide) ?_
      exact ww_vret dX3_readNewName_90 rfl ⟨rfl, by rw [nnX, if_pos e7, hT]; cases hf : fsM (X.2.2.2.1 6) (nI (kv (R t 0) L X.1)) c 0 with | none => exact absurd (by rw [hf]; rfl) c30 | some i => rfl⟩ (Nat.zero_le _) (Nat.zero_le _)
  · refine ww_aload_n dX3_readNewName_10 rfl rfl ?_
    refine ww_iconst (v := 1) dX3_readNewName_11 (by decide) ?_
    refine Wrd_call0 J.1 dX3_readNewName_12 kX3_90 rfl rfl (c3_fail J) rfl rfl rfl rfl rfl rfl (Nat.zero_le _) (Nat.zero_le _) ?_
    refine ww_goto (tgt := 90) dX3_readNewName_15 (by decide) ?_
    exact ww_vret dX3_readNewName_90 rfl ⟨rfl, by rw [nnX, if_neg (of_decide_eq_false (wb_eq0.mp c7))]⟩ (Nat.zero_le _) (Nat.zero_le _)
set_option maxHeartbeats 4000000 in
theorem c3_readEyes (J : hJ Λ r t d F O R L mr mt md) {c : Nat} (hp : X.1 ≤ L) (hc : X.2.1 5 = nI c) (hc2 : c ≤ 40) : Sat G mX3_readEyes [.ref mr] (hX Λ r t d F O R h0 L X, sz) (Det (some (.int (eyX (R t 0) L X).1)) (hX Λ r t d F O R h0 L (eyX (R t 0) L X).2, sz)) := by
  refine Sat.of (by decide) [some (.ref mr), none] rfl rfl (fun Y => ?_)
  have h1 := (ad_le (b := R t 0) hp).2
  have hT : tdN X = c := by rw [tdN, hc, nI_clamp (by omega)]
  refine ww_aload_n dX3_readEyes_0 rfl rfl ?_
  refine Wrd_geto J.1 dX3_readEyes_1 fX3_12 rfl rfl J.2.2.2.1 ?_
  refine Wta_call0 J.2.1 dX3_readEyes_4 kX3_97 rfl rfl (x3_take J hp) rfl rfl rfl rfl rfl rfl (Nat.zero_le _) (Nat.zero_le _) ?_
  refine ww_aload_n dX3_readEyes_7 rfl rfl ?_
  refine ww_aload_n dX3_readEyes_8 rfl rfl ?_
  refine Wrd_geto J.1 dX3_readEyes_9 fX3_12 rfl rfl J.2.2.2.1 ?_
  refine Xt_geti J dX3_readEyes_12 fX3_148 rfl rfl ?_
  refine Wrd_call1 J.1 dX3_readEyes_15 kX3_151 rfl rfl (c3_doNamed (X := (ad (R t 0) L X.1, X.2)) J hc hc2) rfl rfl rfl rfl rfl rfl (Nat.zero_le _) (Nat.zero_le _) ?_
  refine ww_istore_n dX3_readEyes_18 rfl rfl rfl ?_
  refine ww_aload_n dX3_readEyes_19 rfl rfl ?_
  refine Wrd_geto J.1 dX3_readEyes_20 fX3_12 rfl rfl J.2.2.2.1 ?_
  refine Wta_call1 J.2.1 dX3_readEyes_23 kX3_144 rfl rfl (x3_isTN (X := (ad (R t 0) L X.1, X.2)) J h1) rfl rfl rfl rfl rfl rfl (Nat.zero_le _) (Nat.zero_le _) ?_
  refine ww_if_ne (tgt := 37) dX3_readEyes_26 (by decide) (fun c26 => ?_) (fun c26 => ?_)
  · have e7 := of_decide_eq_true (wb_ne0.mp c26)
    have e9 := tv_9 e7.1 h1
    rw [(show taF (R t 0) L (ad (R t 0) L X.1) (F t) 4 = nI (kv (R t 0) L (ad (R t 0) L X.1)) from congrArg nI e9.1)]
    refine ww_iload_n dX3_readEyes_37 rfl rfl ?_
    refine ww_iconst (v := -1) dX3_readEyes_38 (by decide) ?_
    refine ww_icmp_ne (tgt := 50) dX3_readEyes_39 (by decide) (fun c39 => ?_) (fun c39 => ?_)
    · refine ww_aload_n dX3_readEyes_50 rfl rfl ?_
      refine Wrd_geto J.1 dX3_readEyes_51 fX3_12 rfl rfl J.2.2.2.1 ?_
      refine Wta_call0 J.2.1 dX3_readEyes_54 kX3_97 rfl rfl (x3_take (X := (ad (R t 0) L X.1, X.2)) J h1) rfl rfl rfl rfl rfl rfl (Nat.zero_le _) (Nat.zero_le _) ?_
      refine ww_iload_n dX3_readEyes_57 rfl rfl ?_
      exact ww_iret dX3_readEyes_58 rfl ⟨by rw [eyX]; dsimp only; rw [if_pos e7, hT]; cases hf : fsM (X.2.2.2.1 6) (nI (kv (R t 0) L (ad (R t 0) L X.1))) c 0 with | none => exact absurd (by rw [hf]; rfl) c39 | some i => rfl, by rw [eyX]; dsimp only; rw [if_pos e7, hT]; cases hf : fsM (X.2.2.2.1 6) (nI (kv (R t 0) L (ad (R t 0) L X.1))) c 0 with | none => exact absurd (by rw [hf]; rfl) c39 | some i => rfl⟩ (Nat.zero_le _) (Nat.zero_le _)
    · have hf : fsM (X.2.2.2.1 6) (nI (kv (R t 0) L (ad (R t 0) L X.1))) c 0 = none := by
        cases hf : fsM (X.2.2.2.1 6) (nI (kv (R t 0) L (ad (R t 0) L X.1))) c 0 with
        | none => rfl
        | some i => exact absurd (hf ▸ c39 : onI (some i) = -1) (onI_ne i (by have := fsM_lt hf; omega))
      refine ww_aload_n dX3_readEyes_42 rfl rfl ?_
      refine ww_iconst (v := 2) dX3_readEyes_43 (by decide) ?_
      refine Wrd_call0 J.1 dX3_readEyes_44 kX3_90 rfl rfl (c3_fail J) rfl rfl rfl rfl rfl rfl (Nat.zero_le _) (Nat.zero_le _) ?_
      refine ww_goto (tgt := 57) dX3_readEyes_47 (by decide) ?_
      refine ww_iload_n dX3_readEyes_57 rfl rfl ?_
      exact ww_iret dX3_readEyes_58 rfl ⟨by rw [eyX]; dsimp only; rw [if_pos e7, hT, hf]; rfl, by rw [eyX]; dsimp only; rw [if_pos e7, hT, hf]⟩ (Nat.zero_le _) (Nat.zero_le _)
  · refine ww_aload_n dX3_readEyes_29 rfl rfl ?_
    refine ww_iconst (v := 1) dX3_readEyes_30 (by decide) ?_
    refine Wrd_call0 J.1 dX3_readEyes_31 kX3_90 rfl rfl (c3_fail J) rfl rfl rfl rfl rfl rfl (Nat.zero_le _) (Nat.zero_le _) ?_
    refine ww_goto (tgt := 57) dX3_readEyes_34 (by decide) ?_
    refine ww_iload_n dX3_readEyes_57 rfl rfl ?_
    exact ww_iret dX3_readEyes_58 rfl ⟨by rw [eyX]; dsimp only; rw [if_neg (of_decide_eq_false (wb_eq0.mp c26)), hT]; rfl, by rw [eyX]; dsimp only; rw [if_neg (of_decide_eq_false (wb_eq0.mp c26))]⟩ (Nat.zero_le _) (Nat.zero_le _)
set_option maxHeartbeats 4000000 in
theorem c3_hold1 (J : hJ Λ r t d F O R L mr mt md) {o : Nat} (ho : X.2.1 7 = nI o) (ho2 : o ≤ 4) : Sat G mX3_hold [.ref mr, .int 1] (hX Λ r t d F O R h0 L X, sz) (Det none (hX Λ r t d F O R h0 L (hdX o X), sz)) := by
  refine Sat.of (by decide) [some (.ref mr), some (.int 1)] rfl rfl (fun Y => ?_)
  refine ww_iload_n dX3_hold_0 rfl rfl ?_
  refine ww_if_eq (tgt := 29) dX3_hold_1 (by decide) (fun c1 => ?_) (fun c1 => ?_)
  · exact absurd c1 (by decide)
  · refine ww_aload_n dX3_hold_4 rfl rfl ?_
    refine Xr_geti J dX3_hold_5 fX3_43 rfl rfl ?_
    refine ww_if_lt (tgt := 29) dX3_hold_8 (by decide) (fun c8 => ?_) (fun c8 => ?_)
    · exact absurd c8 (by rw [ho]; exact nI_pos (by omega))
    · refine ww_aload_n dX3_hold_11 rfl rfl ?_
      refine Xr_geti J dX3_hold_12 fX3_43 rfl rfl ?_
      refine ww_iconst (v := 4) dX3_hold_15 (by decide) ?_
      refine ww_icmp_gt (tgt := 29) dX3_hold_16 (by decide) (fun c16 => ?_) (fun c16 => ?_)
      · exact absurd c16 (by rw [ho]; exact Int32.not_lt.mpr (nI_le (b := 4) ho2 (by decide)))
      · refine ww_aload_n dX3_hold_19 rfl rfl ?_
        refine Wrd_getr J.1 dX3_hold_20 fX3_62 rfl ?_
        refine ww_aload_n dX3_hold_23 rfl rfl ?_
        refine Xr_geti J dX3_hold_24 fX3_43 rfl rfl ?_
        refine ww_iconst (v := 1) dX3_hold_27 (by decide) ?_
        refine Xr_zast J dX3_hold_28 (kf := 13) rfl ho (by omega) rfl ?_
        exact ww_vret dX3_hold_29 rfl ⟨rfl, rfl⟩ (Nat.zero_le _) (Nat.zero_le _)
set_option maxHeartbeats 4000000 in
theorem c3_hold0 (J : hJ Λ r t d F O R L mr mt md)  : Sat G mX3_hold [.ref mr, .int 0] (hX Λ r t d F O R h0 L X, sz) (Det none (hX Λ r t d F O R h0 L X, sz)) := by
  refine Sat.of (by decide) [some (.ref mr), some (.int 0)] rfl rfl (fun Y => ?_)
  refine ww_iload_n dX3_hold_0 rfl rfl ?_
  refine ww_if_eq (tgt := 29) dX3_hold_1 (by decide) (fun c1 => ?_) (fun c1 => ?_)
  · exact ww_vret dX3_hold_29 rfl ⟨rfl, rfl⟩ (Nat.zero_le _) (Nat.zero_le _)
  · exact absurd c1 (fun q => q rfl)
end X3B
