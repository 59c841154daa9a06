def wkZ (R6 : Nat → Nat → Int32) : Nat → Nat → Int32 := va_up (va_up R6 0 (zrN 4 (R6 0))) 1 (zrN 40 (R6 1))
def rnF (F : Nat → Nat → Int32) (Fw : Nat → Int32) (nu nr : Nat) : Nat → Nat → Int32 := va_up (va_up (va_up F 6 Fw) nu (upd (upd (rF0 (nI nr)) 5 0) 6 0)) 0 (upd (F 0) 5 (nI (nr + 1)))
def rnO (O : Nat → Nat → Option Nat) (nu mb sz nr : Nat) : Nat → Nat → Option Nat := va_up (va_up O nu (rO0 mb)) 7 (va_up (O 7) nr (some sz))
def rnR (R : Nat → Nat → Nat → Int32) (Rw : Nat → Nat → Int32) (nu : Nat) : Nat → Nat → Nat → Int32 := va_up (va_up R 6 Rw) nu (va_up (fun _ _ => 0) 4 (mnN 40 (fun _ => 0)))
section X8I
variable {G : wG} {Λ : wL} {x mr mt mp mk mw ma : Nat} {F : Nat → Nat → Int32} {O : Nat → Nat → Option Nat} {R : Nat → Nat → Nat → Int32} {h0 : Nat → Option wE} {sz : Nat}
theorem hH_add {nu κ m : Nat} {O' : Nat → Option Nat} (H : hH Λ O x mr mt mp mk mw ma) (hfr : ∀ y, Λ.1 y ≠ some nu) (hm : ∀ y, inK κ m y → Λ.1 y = none) : hH (lkA Λ nu κ m) (va_up O nu O') x mr mt mp mk mw ma := by
  obtain ⟨h1, h2, h3, h4, h5, h6, h7, h8, h9, h10, h11, h12, h13⟩ := H
  have n0 := Lk_nn h1 hfr
  have n1 := Lk_nn h2 hfr
  exact ⟨Lk_old h1 hfr hm, Lk_old h2 hfr hm, Lk_old h3 hfr hm, Lk_old h4 hfr hm, Lk_old h5 hfr hm, Lk_old h6 hfr hm, Lk_old h7 hfr hm, by rw [w_up_ne _ _ n0]; exact h8, by rw [w_up_ne _ _ n0]; exact h9, by rw [w_up_ne _ _ n0]; exact h10, by rw [w_up_ne _ _ n0]; exact h11, by rw [w_up_ne _ _ n0]; exact h12, by rw [w_up_ne _ _ n1]; exact h13⟩
theorem hH_7 {O' : Nat → Option Nat} (H : hH Λ O x mr mt mp mk mw ma) : hH Λ (va_up O 7 O') x mr mt mp mk mw ma := H
set_option maxHeartbeats 4000000 in
theorem c8_run0 (H : hH Λ O x mr mt mp mk mw ma) (hcu : O 0 6 = none) : Sat G mX8_run [.ref x] (wld Λ F O R h0, sz) (Det (some (.int (-1))) (wld Λ F O R h0, sz)) := by
  refine Sat.of (by decide) [some (.ref x), none, none] rfl rfl (fun X => ?_)
  refine ww_aload_n dX8_run_0 rfl rfl ?_
  refine Wxx_getn H.1 dX8_run_1 fX8_47 rfl rfl hcu ?_
  refine ww_ifnullN (tgt := 16) dX8_run_4 (by decide) ?_
  refine ww_iconst (v := -1) dX8_run_16 (by decide) ?_
  exact ww_iret dX8_run_17 rfl ⟨rfl, rfl⟩ (Nat.zero_le _) (Nat.zero_le _)
set_option maxHeartbeats 4000000 in
theorem c8_run1 (H : hH Λ O x mr mt mp mk mw ma) {mb nr : Nat} (hcu : O 0 6 = some mb) (hr : F 0 5 = nI nr) (hr2 : nr = 8) : Sat G mX8_run [.ref x] (wld Λ F O R h0, sz) (Det (some (.int (-1))) (wld Λ F O R h0, sz)) := by
  refine Sat.of (by decide) [some (.ref x), none, none] rfl rfl (fun X => ?_)
  refine ww_aload_n dX8_run_0 rfl rfl ?_
  refine Wxx_geto H.1 dX8_run_1 fX8_47 rfl rfl hcu ?_
  refine ww_ifnull dX8_run_4 ?_
  refine ww_aload_n dX8_run_7 rfl rfl ?_
  refine Wxx_geti H.1 dX8_run_8 fX8_43 rfl rfl ?_
  refine ww_bipush (v := 8) dX8_run_11 (by decide) ?_
  refine ww_icmp_lt (tgt := 18) dX8_run_13 (by decide) (fun c13 => ?_) (fun c13 => ?_)
  · exact absurd c13 (by rw [hr]; exact Int32.not_lt.mpr (nI_le (a := 8) (by omega) (by omega)))
  · refine ww_iconst (v := -1) dX8_run_16 (by decide) ?_
    exact ww_iret dX8_run_17 rfl ⟨rfl, rfl⟩ (Nat.zero_le _) (Nat.zero_le _)
set_option maxHeartbeats 4000000 in
theorem c8_runF (H : hH Λ O x mr mt mp mk mw ma) {c : Nat} (hc : F 5 0 = nI c) (hc2 : c ≤ 200){b mb lb : Nat} (hcu : O 0 6 = some mb) (hB : Lk Λ b 3 mb) (hlb : F b 3 = nI lb) (hlb2 : lb ≤ 121) {nr : Nat} (hr : F 0 5 = nI nr) (hr8 : nr < 8) {n : Nat} {Fw : Nat → Int32} {Rw : Nat → Nat → Int32} (hg : cM (R b) lb 1000 (some 0) (wkS (F 6)) (wkZ (R 6)) = some (Fw, Rw)) (hn : Fw 3 = nI n) (hn2 : n ≤ 40) (hfull : 200 < c + n) : Sat G mX8_run [.ref x] (wld Λ F O R h0, sz) (Det (some (.int (-1))) (wld Λ (va_up F 6 Fw) O (va_up R 6 Rw) h0, sz)) := by
  refine Sat.of (by decide) [some (.ref x), none, none] rfl rfl (fun X => ?_)
  have nb6 : b ≠ 6 := Lk_ne hB H.2.2.2.2.2.1 (by decide)
  refine ww_aload_n dX8_run_0 rfl rfl ?_
  refine Wxx_geto H.1 dX8_run_1 fX8_47 rfl rfl hcu ?_
  refine ww_ifnull dX8_run_4 ?_
  refine ww_aload_n dX8_run_7 rfl rfl ?_
  refine Wxx_geti H.1 dX8_run_8 fX8_43 rfl rfl ?_
  refine ww_bipush (v := 8) dX8_run_11 (by decide) ?_
  refine ww_icmp_lt (tgt := 18) dX8_run_13 (by decide) (fun c13 => ?_) (fun c13 => ?_)
  · refine ww_aload_n dX8_run_18 rfl rfl ?_
    refine Wxx_geto H.1 dX8_run_19 fX8_33 rfl rfl H.2.2.2.2.2.2.2.2.2.2.1 ?_
    refine Wwa_call0 H.2.2.2.2.2.1 dX8_run_22 kX8_114 rfl rfl (wa_lB H.2.2.2.2.2.1 c7_startAnew) rfl rfl rfl rfl rfl rfl (Nat.zero_le _) (Nat.zero_le _) ?_
    refine ww_aload_n dX8_run_25 rfl rfl ?_
    refine Wxx_geto H.1 dX8_run_26 fX8_33 rfl rfl H.2.2.2.2.2.2.2.2.2.2.1 ?_
    refine ww_aload_n dX8_run_29 rfl rfl ?_
    refine Wxx_geto H.1 dX8_run_30 fX8_47 rfl rfl hcu ?_
    refine ww_iconst (v := 0) dX8_run_33 (by decide) ?_
    refine Wwa_call0 H.2.2.2.2.2.1 dX8_run_34 kX8_117 rfl rfl (c7_go (F := va_up F 6 (wkS (F 6))) (R := va_up R 6 (wkZ (R 6))) H.2.2.2.2.2.1 hB (by rw [w_up_ne _ _ nb6]; exact hlb) hlb2 (show (0 : Int32) = nI 0 from rfl) (by decide) (by rw [w_up_ne _ _ nb6, w_up_self, w_up_self]; exact hg)) rfl rfl rfl rfl rfl rfl (Nat.zero_le _) (Nat.zero_le _) ?_
    rw [w_up_up, w_up_up]
    refine ww_aload_n dX8_run_37 rfl rfl ?_
    refine Wxx_geto H.1 dX8_run_38 fX8_26 rfl rfl H.2.2.2.2.2.2.2.2.2.1 ?_
    refine ww_aload_n dX8_run_41 rfl rfl ?_
    refine Wxx_geto H.1 dX8_run_42 fX8_33 rfl rfl H.2.2.2.2.2.2.2.2.2.2.1 ?_
    refine Wwa_geti H.2.2.2.2.2.1 dX8_run_45 fX8_121 rfl rfl ?_
    refine Wtt_call1 H.2.2.2.2.1 dX8_run_48 kX8_124 rfl rfl (tt_l0 H.2.2.2.2.1 (c6_hasRoomFor (k := n) hc hc2 hn hn2)) rfl rfl rfl rfl rfl rfl (Nat.zero_le _) (Nat.zero_le _) ?_
    refine ww_if_ne (tgt := 56) dX8_run_51 (by decide) (fun c51 => ?_) (fun c51 => ?_)
    · exact absurd c51 (fun q => q (wb_eq0.mpr (decide_eq_false (by omega))))
    · refine ww_iconst (v := -1) dX8_run_54 (by decide) ?_
      exact ww_iret dX8_run_55 rfl ⟨rfl, rfl⟩ (Nat.zero_le _) (Nat.zero_le _)
  · exact absurd c13 (fun q => q (by rw [hr]; exact nI_lt (b := 8) hr8 (by decide)))
set_option maxHeartbeats 4000000 in
theorem c8_runK (H : hH Λ O x mr mt mp mk mw ma) {c : Nat} (hc : F 5 0 = nI c) (hc2 : c ≤ 200){b mb lb : Nat} (hcu : O 0 6 = some mb) (hB : Lk Λ b 3 mb) (hlb : F b 3 = nI lb) (hlb2 : lb ≤ 121) {nr : Nat} (hr : F 0 5 = nI nr) (hr8 : nr < 8) {n : Nat} {Fw : Nat → Int32} {Rw : Nat → Nat → Int32} (hg : cM (R b) lb 1000 (some 0) (wkS (F 6)) (wkZ (R 6)) = some (Fw, Rw)) (hn : Fw 3 = nI n) (hn2 : n ≤ 40){nu a cd : Nat} (hfr : ∀ y, Λ.1 y ≠ some nu) (htop : ∀ y, sz ≤ y → Λ.1 y = none) (hcd : F b 1 = nI cd) (hcd2 : cd ≤ 40) (ha : F 0 7 = nI a) (ha2 : a ≤ 20000) {cm du : Nat → Nat} (hcm : ∀ k, k < n → Rw 2 k = nI (cm k) ∧ cm k < cd) (hdu : ∀ d, d < cd → R b 9 d = nI (du d) ∧ 1 ≤ du d ∧ du d ≤ 99) (hov : Fw 4 = 0 ∨ Fw 4 = 1) (hroom : c + n ≤ 200) : Sat G mX8_run [.ref x] (wld Λ F O R h0, sz) (Det (some (.int (nI nr))) (wld (lkA Λ nu 7 sz) (kwF (rnF F Fw nu nr) nu c n) (rnO O nu mb sz nr) (kwRR (rnF F Fw nu nr) (rnR R Rw nu) nu b c n a cm du) h0, sz + 4)) := by
  refine Sat.of (by decide) [some (.ref x), none, none] rfl rfl (fun X => ?_)
  have nb6 : b ≠ 6 := Lk_ne hB H.2.2.2.2.2.1 (by decide)
  refine ww_aload_n dX8_run_0 rfl rfl ?_
  refine Wxx_geto H.1 dX8_run_1 fX8_47 rfl rfl hcu ?_
  refine ww_ifnull dX8_run_4 ?_
  refine ww_aload_n dX8_run_7 rfl rfl ?_
  refine Wxx_geti H.1 dX8_run_8 fX8_43 rfl rfl ?_
  refine ww_bipush (v := 8) dX8_run_11 (by decide) ?_
  refine ww_icmp_lt (tgt := 18) dX8_run_13 (by decide) (fun c13 => ?_) (fun c13 => ?_)
  · refine ww_aload_n dX8_run_18 rfl rfl ?_
    refine Wxx_geto H.1 dX8_run_19 fX8_33 rfl rfl H.2.2.2.2.2.2.2.2.2.2.1 ?_
    refine Wwa_call0 H.2.2.2.2.2.1 dX8_run_22 kX8_114 rfl rfl (wa_lB H.2.2.2.2.2.1 c7_startAnew) rfl rfl rfl rfl rfl rfl (Nat.zero_le _) (Nat.zero_le _) ?_
    refine ww_aload_n dX8_run_25 rfl rfl ?_
    refine Wxx_geto H.1 dX8_run_26 fX8_33 rfl rfl H.2.2.2.2.2.2.2.2.2.2.1 ?_
    refine ww_aload_n dX8_run_29 rfl rfl ?_
    refine Wxx_geto H.1 dX8_run_30 fX8_47 rfl rfl hcu ?_
    refine ww_iconst (v := 0) dX8_run_33 (by decide) ?_
    refine Wwa_call0 H.2.2.2.2.2.1 dX8_run_34 kX8_117 rfl rfl (c7_go (F := va_up F 6 (wkS (F 6))) (R := va_up R 6 (wkZ (R 6))) H.2.2.2.2.2.1 hB (by rw [w_up_ne _ _ nb6]; exact hlb) hlb2 (show (0 : Int32) = nI 0 from rfl) (by decide) (by rw [w_up_ne _ _ nb6, w_up_self, w_up_self]; exact hg)) rfl rfl rfl rfl rfl rfl (Nat.zero_le _) (Nat.zero_le _) ?_
    rw [w_up_up, w_up_up]
    refine ww_aload_n dX8_run_37 rfl rfl ?_
    refine Wxx_geto H.1 dX8_run_38 fX8_26 rfl rfl H.2.2.2.2.2.2.2.2.2.1 ?_
    refine ww_aload_n dX8_run_41 rfl rfl ?_
    refine Wxx_geto H.1 dX8_run_42 fX8_33 rfl rfl H.2.2.2.2.2.2.2.2.2.2.1 ?_
    refine Wwa_geti H.2.2.2.2.2.1 dX8_run_45 fX8_121 rfl rfl ?_
    refine Wtt_call1 H.2.2.2.2.1 dX8_run_48 kX8_124 rfl rfl (tt_l0 H.2.2.2.2.1 (c6_hasRoomFor (k := n) hc hc2 hn hn2)) rfl rfl rfl rfl rfl rfl (Nat.zero_le _) (Nat.zero_le _) ?_
    refine ww_if_ne (tgt := 56) dX8_run_51 (by decide) (fun c51 => ?_) (fun c51 => ?_)
    · refine ww_aload_n dX8_run_56 rfl rfl ?_
      refine Wxx_geti H.1 dX8_run_57 fX8_43 rfl rfl ?_
      refine ww_istore_n dX8_run_60 rfl rfl rfl ?_
      have hx : x ≠ sz := fun q => by
        have := htop sz (Nat.le_refl _)
        rw [← q, (H.1.2 x).mp (inK_self 0 x)] at this
        cases this
      have hm : ∀ y, inK 7 sz y → Λ.1 y = none := fun y hy => htop y (by rcases hy with q | q; omega; have : kLo 7 = 1 := rfl; omega)
      refine ww_new dX8_run_61 nX8_37 (by decide) (by decide) ?_
      refine ww_dup dX8_run_64 rfl ?_
      refine ww_iload_n dX8_run_65 rfl rfl ?_
      refine ww_aload_n dX8_run_66 rfl rfl ?_
      refine ww_get dX8_run_67 fX8_47 (show va_up (wld Λ (va_up F 6 Fw) O (va_up R 6 Rw) h0) sz _ x = some (.inr (7, xxV x ((va_up F 6 Fw) 0) (O 0))) by rw [w_up_ne _ _ hx]; exact xx_wo H.1) ?_
      rw [show xxV x ((va_up F 6 Fw) 0) (O 0) 6 = .ref mb by show va_rf (O 0 6) = _; rw [hcu]; rfl]
      refine ww_callI dX8_run_70 kX8_127 (c4_init (m := sz) (a := mb) (x := F 0 5) (h0 := wld Λ (va_up F 6 Fw) O (va_up R 6 Rw) h0)) rfl rfl rfl rfl rfl (by decide) (by decide) (fun v h2 q => ?_)
      obtain ⟨rfl, rfl⟩ := q
      rw [hr]
      have e1 : rrh sz (upd (upd (rF0 (nI nr)) 5 0) 6 0) (rO0 mb) (va_up (fun _ _ => 0) 4 (mnN 40 (fun _ => 0))) (wld Λ (va_up F 6 Fw) O (va_up R 6 Rw) h0) = wld (lkA Λ nu 7 sz) (va_up (va_up F 6 Fw) nu (upd (upd (rF0 (nI nr)) 5 0) 6 0)) (va_up O nu (rO0 mb)) (rnR R Rw nu) h0 := wld_add (κ := 7) hfr hm
      rw [e1]
      refine ww_astore_n dX8_run_73 rfl rfl rfl ?_
      have n0 := Lk_nn H.1 hfr
      have n5 := Lk_nn H.2.2.2.2.1 hfr
      have n6 := Lk_nn H.2.2.2.2.2.1 hfr
      have n7 := Lk_nn H.2.2.2.2.2.2.1 hfr
      have nbn := Lk_nn hB hfr
      have hU := Lk_new (κ := 7) (m := sz) hfr
      have hB2 := Lk_old hB hfr hm
      have nb5 : b ≠ 5 := Lk_ne hB H.2.2.2.2.1 (by decide)
      have nb0 : b ≠ 0 := Lk_ne hB H.1 (by decide)
      have hB := hB2
      have H := hH_add (O' := rO0 mb) H hfr hm
      have k1 : (rnF F Fw nu nr) b 1 = nI cd := by rw [rnF, w_up_ne _ _ nb0, w_up_ne _ _ nbn, w_up_ne _ _ nb6]; exact hcd
      have k2 : (rnF F Fw nu nr) 6 3 = nI n := by rw [rnF, w_up_ne _ _ (by decide), w_up_ne _ _ n6, w_up_self]; exact hn
      have k3 : (rnF F Fw nu nr) 0 7 = nI a := by rw [rnF, w_up_self]; exact ha
      have k4 : ∀ k, k < n → (rnR R Rw nu) 6 2 k = nI (cm k) ∧ cm k < cd := fun k hk => by rw [rnR, w_up_ne _ _ n6, w_up_self]; exact hcm k hk
      have k5 : ∀ d0, d0 < cd → (rnR R Rw nu) b 9 d0 = nI (du d0) ∧ 1 ≤ du d0 ∧ du d0 ≤ 99 := fun d0 hd0 => by rw [rnR, w_up_ne _ _ nbn, w_up_ne _ _ nb6]; exact hdu d0 hd0
      have k6 : (rnF F Fw nu nr) 5 0 = nI c := by rw [rnF, w_up_ne _ _ (by decide), w_up_ne _ _ n5, w_up_ne _ _ (by decide)]; exact hc
      have k7 : (rnF F Fw nu nr) 6 4 = 0 ∨ (rnF F Fw nu nr) 6 4 = 1 := by rw [rnF, w_up_ne _ _ (by decide), w_up_ne _ _ n6, w_up_self]; exact hov
      have e2 : va_up (va_up (va_up F 6 Fw) nu (upd (upd (rF0 (nI nr)) 5 0) 6 0)) 0 (upd (va_up (va_up F 6 Fw) nu (upd (upd (rF0 (nI nr)) 5 0) 6 0) 0) 5 (va_up (va_up F 6 Fw) nu (upd (upd (rF0 (nI nr)) 5 0) 6 0) 0 5 + 1)) = (rnF F Fw nu nr) := by rw [w_up_ne _ _ n0, rnF]; show va_up _ 0 (upd (F 0) 5 (F 0 5 + 1)) = _; rw [hr, nI_1]
      have e3 : va_up (va_up O nu (rO0 mb)) 7 (va_up (va_up O nu (rO0 mb) 7) nr (some sz)) = (rnO O nu mb sz nr) := by rw [w_up_ne _ _ n7]; rfl
      refine ww_aload_n dX8_run_74 rfl rfl ?_
      refine Wxx_geto H.1 dX8_run_75 fX8_39 rfl rfl H.2.2.2.2.2.2.2.2.2.2.2.1 ?_
      refine ww_iload_n dX8_run_78 rfl rfl ?_
      refine ww_aload_n dX8_run_79 rfl rfl ?_
      refine Wra_aast H.2.2.2.2.2.2.1 hU dX8_run_80 (show F 0 5 = nI nr from hr) hr8 ?_
      refine ww_aload_n dX8_run_81 rfl rfl ?_
      refine ww_dup dX8_run_82 rfl ?_
      refine Wxx_geti H.1 dX8_run_83 fX8_43 rfl rfl ?_
      refine ww_iconst (v := 1) dX8_run_86 (by decide) ?_
      refine ww_iadd dX8_run_87 ?_
      refine Wxx_puti H.1 dX8_run_88 fX8_43 rfl rfl ?_
      rw [e3, e2]
      refine ww_aload_n dX8_run_91 rfl rfl ?_
      refine ww_aload_n dX8_run_92 rfl rfl ?_
      refine Wxx_call0 H.1 dX8_run_93 kX8_130 rfl rfl (c8_keepWalk (Λ := lkA Λ nu 7 sz) (O := (rnO O nu mb sz nr)) (F := (rnF F Fw nu nr)) (R := (rnR R Rw nu)) (cm := cm) (du := du) (n := n) (a := a) (c := c) (u := nu) (mu := sz) (b := b) (mb := mb) (hH_7 H) hU (show va_up (va_up O nu (rO0 mb)) 7 _ nu 1 = some mb by rw [w_up_ne _ _ n7.symm, w_up_self]; rfl) hB k1 hcd2 k2 hn2 k3 ha2 (by omega) k4 k5 k6 k7) rfl rfl rfl rfl rfl rfl (by decide) (by decide) ?_
      refine ww_iload_n dX8_run_96 rfl rfl ?_
      exact ww_iret dX8_run_97 rfl ⟨congrArg (fun w => some (Value.int w)) (show F 0 5 = nI nr from hr), rfl⟩ (by decide) (by decide)
    · exact absurd c51 (by rw [decide_eq_true (by omega)]; decide)
  · exact absurd c13 (fun q => q (by rw [hr]; exact nI_lt (b := 8) hr8 (by decide)))
end X8I
