def lnN (X : cX) : Nat := (X.2.2.1 3).toNatClampNeg
def dsN (X : cX) : Nat := (X.2.2.1 1).toNatClampNeg
def opN (X : cX) : Nat := (X.2.1 7).toNatClampNeg
def adX (q a c tg : Int32) (X : cX) : cX := (X.1, X.2.1, upd X.2.2.1 3 (nI (lnN X + 1)), X.2.2.2.1, adB X.2.2.2.2 (lnN X) q a c tg)
def dX (r h e : Int32) (X : cX) : cX := (X.1, X.2.1, upd (upd X.2.2.1 3 (nI (lnN X + 1))) 1 (nI (dsN X + 1)), X.2.2.2.1, doB X.2.2.2.2 (dsN X) (lnN X) r h e)
def fkX (X : cX) : cX := (X.1, X.2.1, upd (upd X.2.2.1 3 (nI (lnN X + 1))) 2 (X.2.2.1 2 + 1), X.2.2.2.1, adB X.2.2.2.2 (lnN X) 4 (X.2.2.1 2) 0 0)
def setX (b : Nat → Int32) (L : Nat) (X : cX) : cX := adX 1 (nI (fdX b L X).1) (nI (nmX b L 0 99 (fdX b L X).2).1) 0 (ndX b L 13 (nmX b L 0 99 (fdX b L X).2).2)
def tstX (b : Nat → Int32) (L : Nat) (X : cX) : cX := adX 2 (nI (fdX b L X).1) (nI (nmX b L 0 99 (ndX b L 14 (fdX b L X).2)).1) 0 (nmX b L 0 99 (ndX b L 14 (fdX b L X).2)).2
def do1X (b : Nat → Int32) (L : Nat) (X : cX) : Nat × cX := nmX b L 0 5 (ndX b L 1 (nnX b L X))
def do2X (b : Nat → Int32) (L : Nat) (X : cX) : Nat × cX := nmX b L 1 99 (ndX b L 2 X)
def do3X (b : Nat → Int32) (L : Nat) (X : cX) : Int32 × cX := if kd b L X.1 = 3 then eyX b L X else (-1, X)
def doX (b : Nat → Int32) (L : Nat) (X : cX) : cX :=
  hdX (opN X) (dX (nI (do1X b L X).1) (nI (do2X b L (do1X b L X).2).1) (do3X b L (do2X b L (do1X b L X).2).2).1 (ndX b L 13 (do3X b L (do2X b L (do1X b L X).2).2).2))
def opX (b : Nat → Int32) (L : Nat) (w h : Int32) (X : cX) : cX :=
  let Y := ndX b L 11 X
  (Y.1, upd Y.2.1 7 (nI (opN X + 1)), Y.2.2.1, va_up (va_up (va_up (va_up Y.2.2.2.1 8 (upd (Y.2.2.2.1 8) (opN X) w)) 9 (upd (Y.2.2.2.1 9) (opN X) h)) 11 (upd (Y.2.2.2.1 11) (opN X) 0)) 13 (upd (Y.2.2.2.1 13) (opN X + 1) 0), Y.2.2.2.2)
theorem nnX_1 {b : Nat → Int32} {L : Nat} {X : cX} (hp : X.1 ≤ L) : (nnX b L X).1 ≤ L := by
  unfold nnX
  split
  · split
    · exact hp
    · exact (ad_le hp).2
  · exact hp
theorem nnX_o {b : Nat → Int32} {L k : Nat} {X : cX} (h1 : k ≠ 1) (h2 : k ≠ 2) (h5 : k ≠ 5) : (nnX b L X).2.1 k = X.2.1 k := by
  have hf : ∀ e : Int32, (flX b L e X).2.1 k = X.2.1 k := by
    intro e
    simp only [flX, flF]
    split
    · simp [upd, h1, h2]
    · rfl
  unfold nnX
  split
  · split
    · exact hf 2
    · simp [upd, h5]
  · exact hf 1
theorem nnX_d {b : Nat → Int32} {L : Nat} {X : cX} : (nnX b L X).2.2.1 = X.2.2.1 ∧ (nnX b L X).2.2.2.2 = X.2.2.2.2 := by
  unfold nnX
  split
  · split
    · exact ⟨rfl, rfl⟩
    · exact ⟨rfl, rfl⟩
  · exact ⟨rfl, rfl⟩
theorem nnX_5 {b : Nat → Int32} {L c : Nat} {X : cX} (hc : X.2.1 5 = nI c) (hc2 : c < 40) : ∃ c2, (nnX b L X).2.1 5 = nI c2 ∧ c2 ≤ 40 := by
  have hf : ∀ e : Int32, (flX b L e X).2.1 5 = X.2.1 5 := by
    intro e
    simp only [flX, flF]
    split
    · simp [upd]
    · rfl
  unfold nnX
  split
  · split
    · exact ⟨c, (hf 2).trans hc, by omega⟩
    · exact ⟨c + 1, by rw [show tdN X = c by rw [tdN, hc, nI_clamp (by omega)]]; simp [upd], by omega⟩
  · exact ⟨c, (hf 1).trans hc, by omega⟩
section X3C
variable {G : wG} {Λ : wL} {r t d mr mt md L : Nat} {F : Nat → Nat → Int32} {O : Nat → Nat → Option Nat} {R : Nat → Nat → Nat → Int32} {h0 : Nat → Option wE} {sz : Nat} {X : cX}
theorem x3_add (J : hJ Λ r t d F O R L mr mt md) {q a c tg : Int32} {l : Nat} (hl : X.2.2.1 3 = nI l) (hl2 : l < 121) : Sat G mX0_add [.ref md, .int q, .int a, .int c, .int tg] (hX Λ r t d F O R h0 L X, sz) (Det (some (.int (nI l))) (hX Λ r t d F O R h0 L (adX q a c tg X), sz)) := by
  have e := Xd_lift (X := X) (h0 := h0) (sz := sz) (G := G) J (c0_add (q := q) (a := a) (c := c) (t := tg) hl hl2)
  unfold adX
  rw [show lnN X = l by rw [lnN, hl, nI_clamp (by omega)]]
  exact e
theorem x3_addFork (J : hJ Λ r t d F O R L mr mt md) {l : Nat} (hl : X.2.2.1 3 = nI l) (hl2 : l < 121) : Sat G mX0_addFork [.ref md] (hX Λ r t d F O R h0 L X, sz) (Det (some (.int (nI l))) (hX Λ r t d F O R h0 L (fkX X), sz)) := by
  have e := Xd_lift (X := X) (h0 := h0) (sz := sz) (G := G) J (c0_addFork hl hl2)
  unfold fkX
  rw [show lnN X = l by rw [lnN, hl, nI_clamp (by omega)]]
  exact e
theorem x3_addDo (J : hJ Λ r t d F O R L mr mt md) {q h e : Int32} {c l : Nat} (hc : X.2.2.1 1 = nI c) (hc2 : c < 40) (hl : X.2.2.1 3 = nI l) (hl2 : l < 121) : Sat G mX0_addDo [.ref md, .int q, .int h, .int e] (hX Λ r t d F O R h0 L X, sz) (Det none (hX Λ r t d F O R h0 L (dX q h e X), sz)) := by
  have e9 := Xd_lift (X := X) (h0 := h0) (sz := sz) (G := G) J (c0_addDo (r := q) (h := h) (e := e) hc hc2 hl hl2)
  unfold dX
  rw [show lnN X = l by rw [lnN, hl, nI_clamp (by omega)], show dsN X = c by rw [dsN, hc, nI_clamp (by omega)]]
  exact e9
set_option maxHeartbeats 4000000 in
theorem c3_readSet (J : hJ Λ r t d F O R L mr mt md) {l : Nat} (hp : X.1 ≤ L) (hl : X.2.2.1 3 = nI l) (hl2 : l < 121) : Sat G mX3_readSet [.ref mr] (hX Λ r t d F O R h0 L X, sz) (Det none (hX Λ r t d F O R h0 L (setX (R t 0) L X), sz)) := by
  refine Sat.of (by decide) [some (.ref mr), none, none] rfl rfl (fun Y => ?_)
  have P1 := fdX_P (b := R t 0) hp
  have P2 := (nmX_P (b := R t 0) (lo := 0) (hi := 99) P1.1).tr P1
  have P3 := (ndX_P (b := R t 0) (k := 13) P2.1).tr P2
  refine ww_aload_n dX3_readSet_0 rfl rfl ?_
  refine Wrd_call1 J.1 dX3_readSet_1 kX3_141 rfl rfl (c3_readField J hp) rfl rfl rfl rfl rfl rfl (Nat.zero_le _) (Nat.zero_le _) ?_
  refine ww_istore_n dX3_readSet_4 rfl rfl rfl ?_
  refine ww_aload_n dX3_readSet_5 rfl rfl ?_
  refine ww_iconst (v := 0) dX3_readSet_6 (by decide) ?_
  refine ww_bipush (v := 99) dX3_readSet_7 (by decide) ?_
  refine Wrd_call1 J.1 dX3_readSet_9 kX3_126 rfl rfl (c3_readNumber J P1.1 rfl rfl (by decide) (by decide)) rfl rfl rfl rfl rfl rfl (Nat.zero_le _) (Nat.zero_le _) ?_
  refine ww_istore_n dX3_readSet_12 rfl rfl rfl ?_
  refine ww_aload_n dX3_readSet_13 rfl rfl ?_
  refine ww_bipush (v := 13) dX3_readSet_14 (by decide) ?_
  refine Wrd_call0 J.1 dX3_readSet_16 kX3_123 rfl rfl (c3_need J P2.1 rfl (by decide)) rfl rfl rfl rfl rfl rfl (Nat.zero_le _) (Nat.zero_le _) ?_
  refine ww_aload_n dX3_readSet_19 rfl rfl ?_
  refine Wrd_geto J.1 dX3_readSet_20 fX3_28 rfl rfl J.2.2.2.2.1 ?_
  refine ww_iconst (v := 1) dX3_readSet_23 (by decide) ?_
  refine ww_iload_n dX3_readSet_24 rfl rfl ?_
  refine ww_iload_n dX3_readSet_25 rfl rfl ?_
  refine ww_iconst (v := 0) dX3_readSet_26 (by decide) ?_
  refine Wbb_call1 J.2.2.1 dX3_readSet_27 kX3_74 rfl rfl (x3_add J (by rw [P3.2.1]; exact hl) hl2) rfl rfl rfl rfl rfl rfl (Nat.zero_le _) (Nat.zero_le _) ?_
  refine ww_pop dX3_readSet_30 rfl ?_
  exact ww_vret dX3_readSet_31 rfl ⟨rfl, rfl⟩ (Nat.zero_le _) (Nat.zero_le _)
set_option maxHeartbeats 4000000 in
theorem c3_readTest (J : hJ Λ r t d F O R L mr mt md) {l : Nat} (hp : X.1 ≤ L) (hl : X.2.2.1 3 = nI l) (hl2 : l < 121) : Sat G mX3_readTest [.ref mr] (hX Λ r t d F O R h0 L X, sz) (Det (some (.int (nI l))) (hX Λ r t d F O R h0 L (tstX (R t 0) L X), sz)) := by
  refine Sat.of (by decide) [some (.ref mr), none, none] rfl rfl (fun Y => ?_)
  have P1 := fdX_P (b := R t 0) hp
  have P2 := (ndX_P (b := R t 0) (k := 14) P1.1).tr P1
  have P3 := (nmX_P (b := R t 0) (lo := 0) (hi := 99) P2.1).tr P2
  refine ww_aload_n dX3_readTest_0 rfl rfl ?_
  refine Wrd_call1 J.1 dX3_readTest_1 kX3_141 rfl rfl (c3_readField J hp) rfl rfl rfl rfl rfl rfl (Nat.zero_le _) (Nat.zero_le _) ?_
  refine ww_istore_n dX3_readTest_4 rfl rfl rfl ?_
  refine ww_aload_n dX3_readTest_5 rfl rfl ?_
  refine ww_bipush (v := 14) dX3_readTest_6 (by decide) ?_
  refine Wrd_call0 J.1 dX3_readTest_8 kX3_123 rfl rfl (c3_need J P1.1 rfl (by decide)) rfl rfl rfl rfl rfl rfl (Nat.zero_le _) (Nat.zero_le _) ?_
  refine ww_aload_n dX3_readTest_11 rfl rfl ?_
  refine ww_iconst (v := 0) dX3_readTest_12 (by decide) ?_
  refine ww_bipush (v := 99) dX3_readTest_13 (by decide) ?_
  refine Wrd_call1 J.1 dX3_readTest_15 kX3_126 rfl rfl (c3_readNumber J P2.1 rfl rfl (by decide) (by decide)) rfl rfl rfl rfl rfl rfl (Nat.zero_le _) (Nat.zero_le _) ?_
  refine ww_istore_n dX3_readTest_18 rfl rfl rfl ?_
  refine ww_aload_n dX3_readTest_19 rfl rfl ?_
  refine Wrd_geto J.1 dX3_readTest_20 fX3_28 rfl rfl J.2.2.2.2.1 ?_
  refine ww_iconst (v := 2) dX3_readTest_23 (by decide) ?_
  refine ww_iload_n dX3_readTest_24 rfl rfl ?_
  refine ww_iload_n dX3_readTest_25 rfl rfl ?_
  refine ww_iconst (v := 0) dX3_readTest_26 (by decide) ?_
  refine Wbb_call1 J.2.2.1 dX3_readTest_27 kX3_74 rfl rfl (x3_add J (by rw [P3.2.1]; exact hl) hl2) rfl rfl rfl rfl rfl rfl (Nat.zero_le _) (Nat.zero_le _) ?_
  exact ww_iret dX3_readTest_30 rfl ⟨rfl, rfl⟩ (Nat.zero_le _) (Nat.zero_le _)
set_option maxHeartbeats 4000000 in
theorem c3_openSteps (J : hJ Λ r t d F O R L mr mt md) {x y : Int32} {o : Nat} (hp : X.1 ≤ L) (ho : X.2.1 7 = nI o) (ho2 : o < 4) : Sat G mX3_openSteps [.ref mr, .int x, .int y] (hX Λ r t d F O R h0 L X, sz) (Det none (hX Λ r t d F O R h0 L (opX (R t 0) L x y X), sz)) := by
  refine Sat.of (by decide) [some (.ref mr), some (.int x), some (.int y)] rfl rfl (fun Y => ?_)
  have P1 := ndX_P (b := R t 0) (k := 11) hp
  have ho1 : (ndX (R t 0) L 11 X).2.1 7 = nI o := (P1.2.2.1 7 (by decide) (by decide)).trans ho
  have hT : opN X = o := by rw [opN, ho, nI_clamp (by omega)]
  refine ww_aload_n dX3_openSteps_0 rfl rfl ?_
  refine ww_bipush (v := 11) dX3_openSteps_1 (by decide) ?_
  refine Wrd_call0 J.1 dX3_openSteps_3 kX3_123 rfl rfl (c3_need J hp rfl (by decide)) rfl rfl rfl rfl rfl rfl (Nat.zero_le _) (Nat.zero_le _) ?_
  refine ww_aload_n dX3_openSteps_6 rfl rfl ?_
  refine Xr_geti J dX3_openSteps_7 fX3_43 rfl rfl ?_
  refine ww_if_lt (tgt := 21) dX3_openSteps_10 (by decide) (fun c10 => ?_) (fun c10 => ?_)
  · exact absurd c10 (by rw [ho1]; exact nI_pos (by omega))
  · refine ww_aload_n dX3_openSteps_13 rfl rfl ?_
    refine Xr_geti J dX3_openSteps_14 fX3_43 rfl rfl ?_
    refine ww_iconst (v := 4) dX3_openSteps_17 (by decide) ?_
    refine ww_icmp_lt (tgt := 22) dX3_openSteps_18 (by decide) (fun c18 => ?_) (fun c18 => ?_)
    · refine ww_aload_n dX3_openSteps_22 rfl rfl ?_
      refine Wrd_getr J.1 dX3_openSteps_23 fX3_46 rfl ?_
      refine ww_aload_n dX3_openSteps_26 rfl rfl ?_
      refine Xr_geti J dX3_openSteps_27 fX3_43 rfl rfl ?_
      refine ww_iload_n dX3_openSteps_30 rfl rfl ?_
      refine Xr_iast J dX3_openSteps_31 (kf := 8) rfl ho1 ho2 rfl ?_
      refine ww_aload_n dX3_openSteps_32 rfl rfl ?_
      refine Wrd_getr J.1 dX3_openSteps_33 fX3_49 rfl ?_
      refine ww_aload_n dX3_openSteps_36 rfl rfl ?_
      refine Xr_geti J dX3_openSteps_37 fX3_43 rfl rfl ?_
      refine ww_iload_n dX3_openSteps_40 rfl rfl ?_
      refine Xr_iast J dX3_openSteps_41 (kf := 9) rfl ho1 ho2 rfl ?_
      refine ww_aload_n dX3_openSteps_42 rfl rfl ?_
      refine Wrd_getr J.1 dX3_openSteps_43 fX3_55 rfl ?_
      refine ww_aload_n dX3_openSteps_46 rfl rfl ?_
      refine Xr_geti J dX3_openSteps_47 fX3_43 rfl rfl ?_
      refine ww_iconst (v := 0) dX3_openSteps_50 (by decide) ?_
      refine Xr_zast J dX3_openSteps_51 (kf := 11) rfl ho1 ho2 rfl ?_
      refine ww_aload_n dX3_openSteps_52 rfl rfl ?_
      refine ww_dup dX3_openSteps_53 rfl ?_
      refine Xr_geti J dX3_openSteps_54 fX3_43 rfl rfl ?_
      refine ww_iconst (v := 1) dX3_openSteps_57 (by decide) ?_
      refine ww_iadd dX3_openSteps_58 ?_
      refine Xr_puti J dX3_openSteps_59 fX3_43 rfl rfl ?_
      refine ww_aload_n dX3_openSteps_62 rfl rfl ?_
      refine Wrd_getr J.1 dX3_openSteps_63 fX3_62 rfl ?_
      refine ww_aload_n dX3_openSteps_66 rfl rfl ?_
      refine Xr_geti J dX3_openSteps_67 fX3_43 rfl rfl ?_
      refine ww_iconst (v := 0) dX3_openSteps_70 (by decide) ?_
      refine Xr_zast J dX3_openSteps_71 (kf := 13) rfl (show _ = nI (o + 1) by show (ndX (R t 0) L 11 X).2.1 7 + 1 = _; rw [ho1, nI_1]) (by omega) rfl ?_
      exact ww_vret dX3_openSteps_72 rfl ⟨rfl, by unfold opX; dsimp only; rw [hT, ho1, nI_1]; rfl⟩ (Nat.zero_le _) (Nat.zero_le _)
    · exact absurd c18 (fun q => q (by rw [ho1]; exact nI_lt (b := 4) ho2 (by decide)))
theorem do3X_P {b : Nat → Int32} {L : Nat} {X : cX} (hp : X.1 ≤ L) : PP L (do3X b L X).2 X := by
  unfold do3X
  split
  · exact eyX_P hp
  · exact ⟨hp, rfl, fun _ _ _ => rfl, fun _ => ⟨rfl, rfl⟩⟩
set_option maxHeartbeats 1000000 in
theorem L3_doC (J : hJ Λ r t d F O R L mr mt md) {cd o l : Nat} (hp : X.1 ≤ L) (hcd : X.2.2.1 1 = nI cd) (hcd2 : cd < 40) (ho : X.2.1 7 = nI o) (ho2 : o ≤ 4) (hl : X.2.2.1 3 = nI l) (hl2 : l < 121) {n1 n2 e : Int32} {Y : wX} {e9 : Option Value} : WW G mX3_readDo cX3_readDo Y (wZ G mX3_readDo Y (Det none (hX Λ r t d F O R h0 L (hdX o (dX n1 n2 e (ndX (R t 0) L 13 X))), sz))) 49 [some (.ref mr), some (.int n1), some (.int n2), some (.int e)] [] (hX Λ r t d F O R h0 L X, sz) 0 0 := by
  have P1 := ndX_P (b := R t 0) (k := 13) hp
  refine ww_aload_n dX3_readDo_49 rfl rfl ?_
  refine ww_bipush (v := 13) dX3_readDo_50 (by decide) ?_
  refine Wrd_call0 J.1 dX3_readDo_52 kX3_123 rfl rfl (c3_need (X := X) J hp rfl (by decide)) rfl rfl rfl rfl rfl rfl (Nat.zero_le _) (Nat.zero_le _) ?_
  refine ww_aload_n dX3_readDo_55 rfl rfl ?_
  refine Wrd_geto J.1 dX3_readDo_56 fX3_28 rfl rfl J.2.2.2.2.1 ?_
  refine ww_iload_n dX3_readDo_59 rfl rfl ?_
  refine ww_iload_n dX3_readDo_60 rfl rfl ?_
  refine ww_iload_n dX3_readDo_61 rfl rfl ?_
  refine Wbb_call0 J.2.2.1 dX3_readDo_62 kX3_133 rfl rfl (x3_addDo (X := ndX (R t 0) L 13 X) J (by rw [P1.2.1]; exact hcd) hcd2 (by rw [P1.2.1]; exact hl) hl2) rfl rfl rfl rfl rfl rfl (Nat.zero_le _) (Nat.zero_le _) ?_
  refine ww_aload_n dX3_readDo_65 rfl rfl ?_
  refine ww_iconst (v := 1) dX3_readDo_66 (by decide) ?_
  refine Wrd_call0 J.1 dX3_readDo_67 kX3_137 rfl rfl (c3_hold1 (X := dX n1 n2 e (ndX (R t 0) L 13 X)) J ((P1.2.2.1 7 (by decide) (by decide)).trans ho) ho2) rfl rfl rfl rfl rfl rfl (Nat.zero_le _) (Nat.zero_le _) ?_
  exact ww_vret dX3_readDo_70 rfl ⟨rfl, rfl⟩ (Nat.zero_le _) (Nat.zero_le _)
set_option maxHeartbeats 1000000 in
theorem L3_doB (J : hJ Λ r t d F O R L mr mt md) {cd o l : Nat} (hp : X.1 ≤ L) (hcd : X.2.2.1 1 = nI cd) (hcd2 : cd < 40) (ho : X.2.1 7 = nI o) (ho2 : o ≤ 4) (hl : X.2.2.1 3 = nI l) (hl2 : l < 121) {n1 n2 : Int32} {c : Nat} (hc : X.2.1 5 = nI c) (hc2 : c ≤ 40) {Y : wX} {e9 : Option Value} : WW G mX3_readDo cX3_readDo Y (wZ G mX3_readDo Y (Det none (hX Λ r t d F O R h0 L (hdX o (dX n1 n2 (do3X (R t 0) L X).1 (ndX (R t 0) L 13 (do3X (R t 0) L X).2))), sz))) 29 [some (.ref mr), some (.int n1), some (.int n2), e9] [] (hX Λ r t d F O R h0 L X, sz) 0 0 := by
  have P1 := do3X_P (b := R t 0) hp
  refine ww_aload_n dX3_readDo_29 rfl rfl ?_
  refine Wrd_geto J.1 dX3_readDo_30 fX3_12 rfl rfl J.2.2.2.1 ?_
  refine Xt_geti J dX3_readDo_33 fX3_68 rfl rfl ?_
  refine ww_iconst (v := 3) dX3_readDo_36 (by decide) ?_
  refine ww_icmp_ne (tgt := 47) dX3_readDo_37 (by decide) (fun c37 => ?_) (fun c37 => ?_)
  · refine ww_iconst (v := -1) dX3_readDo_47 (by decide) ?_
    refine ww_istore_n dX3_readDo_48 rfl rfl rfl ?_
    have e3 : ¬ kd (R t 0) L X.1 = 3 := fun q => c37 (show nI (kd (R t 0) L X.1) = nI 3 by rw [q])
    have e4 : do3X (R t 0) L X = (-1, X) := if_neg e3
    rw [e4] at P1 ⊢
    exact L3_doC (e9 := none) J P1.1 (by rw [P1.2.1]; exact hcd) hcd2 ((P1.2.2.1 7 (by decide) (by decide)).trans ho) ho2 (by rw [P1.2.1]; exact hl) hl2
  · refine ww_aload_n dX3_readDo_40 rfl rfl ?_
    refine Wrd_call1 J.1 dX3_readDo_41 kX3_130 rfl rfl (c3_readEyes (X := X) J hp hc hc2) rfl rfl rfl rfl rfl rfl (Nat.zero_le _) (Nat.zero_le _) ?_
    refine ww_goto (tgt := 48) dX3_readDo_44 (by decide) ?_
    refine ww_istore_n dX3_readDo_48 rfl rfl rfl ?_
    have e3 : kd (R t 0) L X.1 = 3 := (kd_eq (k := 3) (by decide)).mp c37
    have e4 : do3X (R t 0) L X = eyX (R t 0) L X := if_pos e3
    rw [e4] at P1 ⊢
    exact L3_doC (e9 := none) J P1.1 (by rw [P1.2.1]; exact hcd) hcd2 ((P1.2.2.1 7 (by decide) (by decide)).trans ho) ho2 (by rw [P1.2.1]; exact hl) hl2
set_option maxHeartbeats 1000000 in
theorem L3_doA (J : hJ Λ r t d F O R L mr mt md) {cd o l : Nat} (hp : X.1 ≤ L) (hcd : X.2.2.1 1 = nI cd) (hcd2 : cd < 40) (ho : X.2.1 7 = nI o) (ho2 : o ≤ 4) (hl : X.2.2.1 3 = nI l) (hl2 : l < 121) {n1 : Int32} {e8 : Option Value} {c : Nat} (hc : X.2.1 5 = nI c) (hc2 : c ≤ 40) {Y : wX} {e9 : Option Value} : WW G mX3_readDo cX3_readDo Y (wZ G mX3_readDo Y (Det none (hX Λ r t d F O R h0 L (hdX o (dX n1 (nI (do2X (R t 0) L X).1) (do3X (R t 0) L (do2X (R t 0) L X).2).1 (ndX (R t 0) L 13 (do3X (R t 0) L (do2X (R t 0) L X).2).2))), sz))) 16 [some (.ref mr), some (.int n1), e8, e9] [] (hX Λ r t d F O R h0 L X, sz) 0 0 := by
  have P1 := ndX_P (b := R t 0) (k := 2) hp
  have P2 : PP L (do2X (R t 0) L X).2 X := (nmX_P (b := R t 0) (lo := 1) (hi := 99) P1.1).tr P1
  refine ww_aload_n dX3_readDo_16 rfl rfl ?_
  refine ww_iconst (v := 2) dX3_readDo_17 (by decide) ?_
  refine Wrd_call0 J.1 dX3_readDo_18 kX3_123 rfl rfl (c3_need (X := X) J hp rfl (by decide)) rfl rfl rfl rfl rfl rfl (Nat.zero_le _) (Nat.zero_le _) ?_
  refine ww_aload_n dX3_readDo_21 rfl rfl ?_
  refine ww_iconst (v := 1) dX3_readDo_22 (by decide) ?_
  refine ww_bipush (v := 99) dX3_readDo_23 (by decide) ?_
  refine Wrd_call1 J.1 dX3_readDo_25 kX3_126 rfl rfl (c3_readNumber (X := ndX (R t 0) L 2 X) J P1.1 rfl rfl (by decide) (by decide)) rfl rfl rfl rfl rfl rfl (Nat.zero_le _) (Nat.zero_le _) ?_
  refine ww_istore_n dX3_readDo_28 rfl rfl rfl ?_
  exact L3_doB (X := (do2X (R t 0) L X).2) J P2.1 (by rw [P2.2.1]; exact hcd) hcd2 ((P2.2.2.1 7 (by decide) (by decide)).trans ho) ho2 (by rw [P2.2.1]; exact hl) hl2 ((P2.2.2.1 5 (by decide) (by decide)).trans hc) hc2
set_option maxHeartbeats 4000000 in
theorem c3_readDo (J : hJ Λ r t d F O R L mr mt md) {c cd o l : Nat} (hp : X.1 ≤ L) (hc : X.2.1 5 = nI c) (hc2 : c < 40) (hcd : X.2.2.1 1 = nI cd) (hcd2 : cd < 40) (ho : X.2.1 7 = nI o) (ho2 : o ≤ 4) (hl : X.2.2.1 3 = nI l) (hl2 : l < 121) : Sat G mX3_readDo [.ref mr] (hX Λ r t d F O R h0 L X, sz) (Det none (hX Λ r t d F O R h0 L (doX (R t 0) L X), sz)) := by
  refine Sat.of (by decide) [some (.ref mr), none, none, none] rfl rfl (fun Y => ?_)
  have N1 := nnX_1 (b := R t 0) hp
  obtain ⟨c2, N5, N6⟩ := nnX_5 (b := R t 0) (L := L) hc hc2
  have N7 := nnX_o (b := R t 0) (L := L) (k := 7) (X := X) (by decide) (by decide) (by decide)
  have Nd := nnX_d (b := R t 0) (L := L) (X := X)
  have P1 := ndX_P (b := R t 0) (k := 1) N1
  have P2 : PP L (do1X (R t 0) L X).2 (nnX (R t 0) L X) := (nmX_P (b := R t 0) (lo := 0) (hi := 5) P1.1).tr P1
  refine ww_aload_n dX3_readDo_0 rfl rfl ?_
  refine Wrd_call0 J.1 dX3_readDo_1 kX3_120 rfl rfl (c3_readNewName (X := X) J hp hc hc2) rfl rfl rfl rfl rfl rfl (Nat.zero_le _) (Nat.zero_le _) ?_
  refine ww_aload_n dX3_readDo_4 rfl rfl ?_
  refine ww_iconst (v := 1) dX3_readDo_5 (by decide) ?_
  refine Wrd_call0 J.1 dX3_readDo_6 kX3_123 rfl rfl (c3_need (X := nnX (R t 0) L X) J N1 rfl (by decide)) rfl rfl rfl rfl rfl rfl (Nat.zero_le _) (Nat.zero_le _) ?_
  refine ww_aload_n dX3_readDo_9 rfl rfl ?_
  refine ww_iconst (v := 0) dX3_readDo_10 (by decide) ?_
  refine ww_iconst (v := 5) dX3_readDo_11 (by decide) ?_
  refine Wrd_call1 J.1 dX3_readDo_12 kX3_126 rfl rfl (c3_readNumber (X := ndX (R t 0) L 1 (nnX (R t 0) L X)) J P1.1 rfl rfl (by decide) (by decide)) rfl rfl rfl rfl rfl rfl (Nat.zero_le _) (Nat.zero_le _) ?_
  refine ww_istore_n dX3_readDo_15 rfl rfl rfl ?_
  rw [doX, show opN X = o by rw [opN, ho, nI_clamp (by omega)]]
  exact L3_doA (X := (do1X (R t 0) L X).2) J P2.1 (by rw [P2.2.1, Nd.1]; exact hcd) hcd2 ((P2.2.2.1 7 (by decide) (by decide)).trans (N7.trans ho)) ho2 (by rw [P2.2.1, Nd.1]; exact hl) hl2 ((P2.2.2.1 5 (by decide) (by decide)).trans N5) N6
end X3C
