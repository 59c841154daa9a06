def tkX (b : Nat → Int32) (L : Nat) (X : cX) : cX := (ad b L X.1, X.2)
def opeX (e : Int32) (X : cX) : cX := (X.1, upd X.2.1 7 e, X.2.2)
def rwX (kf j : Nat) (v : Int32) (X : cX) : cX := (X.1, X.2.1, X.2.2.1, va_up X.2.2.2.1 kf (upd (X.2.2.2.1 kf) j v), X.2.2.2.2)
def amX (h : Nat) (tg : Int32) (X : cX) : cX := (X.1, X.2.1, X.2.2.1, X.2.2.2.1, va_up X.2.2.2.2 7 (upd (X.2.2.2.2 7) h tg))
section X3E
variable {G : wG} {Λ : wL} {r t d mr mt md L : Nat} {F : Nat → Nat → Int32} {O : Nat → Nat → Option Nat} {R : Nat → Nat → Nat → Int32} {h0 : Nat → Option wE} {sz : Nat} {X : cX}
theorem x3_aim (J : hJ Λ r t d F O R L mr mt md) {x y : Int32} {l h : Nat} (hl : X.2.2.1 3 = nI l) (hl2 : l ≤ 121) (hx : x = nI h) (hh : h < l) : Sat G mX0_aim [.ref md, .int x, .int y] (hX Λ r t d F O R h0 L X, sz) (Det none (hX Λ r t d F O R h0 L (amX h y X), sz)) :=
  Xd_lift (X := X) (h0 := h0) (sz := sz) (G := G) J (c0_aim (y := y) hl hl2 hx hh)
theorem x3_sub (J : hJ Λ r t d F O R L mr mt md) {x : Int32} {l h : Nat} (hl : X.2.2.1 3 = nI l) (hl2 : l ≤ 121) (hx : x = nI h) (hh : h < l) : Sat G mX0_subjectAt [.ref md, .int x] (hX Λ r t d F O R h0 L X, sz) (Det (some (.int (X.2.2.2.2 5 h))) (hX Λ r t d F O R h0 L X, sz)) :=
  Xd_lift (X := X) (h0 := h0) (sz := sz) (G := G) J (c0_subjectAt hl hl2 hx hh)
set_option maxHeartbeats 4000000 in
theorem c3_again0 (J : hJ Λ r t d F O R L mr mt md) {x : Int32} {e l h : Nat} (hp : X.1 ≤ L) (hx : x = nI e) (he : e < 4) (ho : X.2.1 7 = nI (e + 1)) (hl : X.2.2.1 3 = nI l) (hl2 : l < 121) (hh : X.2.2.2.1 9 e = nI h) (hhl : h < l) (hd : X.2.2.2.1 13 (e + 1) = 0) : Sat G mX3_closeAgain [.ref mr, .int x] (hX Λ r t d F O R h0 L X, sz) (Det none (hX Λ r t d F O R h0 L (flX (R t 0) L 5 X), sz)) := by
  refine Sat.of (by decide) [some (.ref mr), some (.int x)] rfl rfl (fun Y => ?_)
  refine ww_aload_n dX3_closeAgain_0 rfl rfl ?_
  refine Wrd_getr J.1 dX3_closeAgain_1 fX3_62 rfl ?_
  refine ww_aload_n dX3_closeAgain_4 rfl rfl ?_
  refine Xr_geti J dX3_closeAgain_5 fX3_43 rfl rfl ?_
  refine Xr_zald J dX3_closeAgain_8 (kf := 13) rfl ho (by omega) rfl ?_
  refine ww_if_ne (tgt := 18) dX3_closeAgain_9 (by decide) (fun c9 => ?_) (fun c9 => ?_)
  · exact absurd c9 (fun q => q hd)
  · refine ww_aload_n dX3_closeAgain_12 rfl rfl ?_
    refine ww_iconst (v := 5) dX3_closeAgain_13 (by decide) ?_
    refine Wrd_call0 J.1 dX3_closeAgain_14 kX3_90 rfl rfl (c3_fail (X := X) J) rfl rfl rfl rfl rfl rfl (Nat.zero_le _) (Nat.zero_le _) ?_
    exact ww_vret dX3_closeAgain_17 rfl ⟨rfl, rfl⟩ (Nat.zero_le _) (Nat.zero_le _)
set_option maxHeartbeats 4000000 in
theorem c3_again1 (J : hJ Λ r t d F O R L mr mt md) {x : Int32} {e l h : Nat} (hp : X.1 ≤ L) (hx : x = nI e) (he : e < 4) (ho : X.2.1 7 = nI (e + 1)) (hl : X.2.2.1 3 = nI l) (hl2 : l < 121) (hh : X.2.2.2.1 9 e = nI h) (hhl : h < l) (hd : ¬ X.2.2.2.1 13 (e + 1) = 0) : Sat G mX3_closeAgain [.ref mr, .int x] (hX Λ r t d F O R h0 L X, sz) (Det none (hX Λ r t d F O R h0 L (hdX e (opeX (nI e) (amX h (nI (l + 1)) (adX 3 0 0 (nI h) (tkX (R t 0) L X))))), sz)) := by
  refine Sat.of (by decide) [some (.ref mr), some (.int x)] rfl rfl (fun Y => ?_)
  have h1 : ad (R t 0) L X.1 ≤ L := (ad_le hp).2
  have hlN : lnN X = l := by rw [lnN, hl, nI_clamp (by omega)]
  refine ww_aload_n dX3_closeAgain_0 rfl rfl ?_
  refine Wrd_getr J.1 dX3_closeAgain_1 fX3_62 rfl ?_
  refine ww_aload_n dX3_closeAgain_4 rfl rfl ?_
  refine Xr_geti J dX3_closeAgain_5 fX3_43 rfl rfl ?_
  refine Xr_zald J dX3_closeAgain_8 (kf := 13) rfl ho (by omega) rfl ?_
  refine ww_if_ne (tgt := 18) dX3_closeAgain_9 (by decide) (fun c9 => ?_) (fun c9 => ?_)
  · refine ww_aload_n dX3_closeAgain_18 rfl rfl ?_
    refine Wrd_geto J.1 dX3_closeAgain_19 fX3_12 rfl rfl J.2.2.2.1 ?_
    refine Wta_call0 J.2.1 dX3_closeAgain_22 kX3_97 rfl rfl (x3_take (X := X) J hp) rfl rfl rfl rfl rfl rfl (Nat.zero_le _) (Nat.zero_le _) ?_
    refine ww_aload_n dX3_closeAgain_25 rfl rfl ?_
    refine Wrd_geto J.1 dX3_closeAgain_26 fX3_28 rfl rfl J.2.2.2.2.1 ?_
    refine ww_iconst (v := 3) dX3_closeAgain_29 (by decide) ?_
    refine ww_iconst (v := 0) dX3_closeAgain_30 (by decide) ?_
    refine ww_iconst (v := 0) dX3_closeAgain_31 (by decide) ?_
    refine ww_aload_n dX3_closeAgain_32 rfl rfl ?_
    refine Wrd_getr J.1 dX3_closeAgain_33 fX3_49 rfl ?_
    refine ww_iload_n dX3_closeAgain_36 rfl rfl ?_
    refine Xr_iald J dX3_closeAgain_37 (kf := 9) rfl hx he rfl ?_
    refine Wbb_call1 J.2.2.1 dX3_closeAgain_38 kX3_74 rfl rfl (x3_add (X := (tkX (R t 0) L X)) (tg := X.2.2.2.1 9 e) J hl hl2) rfl rfl rfl rfl rfl rfl (Nat.zero_le _) (Nat.zero_le _) ?_
    refine ww_pop dX3_closeAgain_41 rfl ?_
    refine ww_aload_n dX3_closeAgain_42 rfl rfl ?_
    refine Wrd_geto J.1 dX3_closeAgain_43 fX3_28 rfl rfl J.2.2.2.2.1 ?_
    refine ww_aload_n dX3_closeAgain_46 rfl rfl ?_
    refine Wrd_getr J.1 dX3_closeAgain_47 fX3_49 rfl ?_
    refine ww_iload_n dX3_closeAgain_50 rfl rfl ?_
    refine Xr_iald J dX3_closeAgain_51 (kf := 9) rfl hx he rfl ?_
    refine ww_aload_n dX3_closeAgain_52 rfl rfl ?_
    refine Wrd_geto J.1 dX3_closeAgain_53 fX3_28 rfl rfl J.2.2.2.2.1 ?_
    refine Xd_geti J dX3_closeAgain_56 fX3_117 rfl rfl ?_
    refine Wbb_call0 J.2.2.1 dX3_closeAgain_59 kX3_164 rfl rfl (x3_aim (X := adX 3 0 0 (X.2.2.2.1 9 e) (tkX (R t 0) L X)) (l := l + 1) (h := h) J (show upd (tkX (R t 0) L X).2.2.1 3 (nI (lnN (tkX (R t 0) L X) + 1)) 3 = nI (l + 1) by rw [show lnN (tkX (R t 0) L X) = l from hlN]; rfl) (by omega) hh (by omega)) rfl rfl rfl rfl rfl rfl (Nat.zero_le _) (Nat.zero_le _) ?_
    refine ww_aload_n dX3_closeAgain_62 rfl rfl ?_
    refine ww_iload_n dX3_closeAgain_63 rfl rfl ?_
    refine Xr_puti J dX3_closeAgain_64 fX3_43 rfl rfl ?_
    refine ww_aload_n dX3_closeAgain_67 rfl rfl ?_
    refine ww_iconst (v := 1) dX3_closeAgain_68 (by decide) ?_
    refine Wrd_call0 J.1 dX3_closeAgain_69 kX3_137 rfl rfl (c3_hold1 (X := opeX x (amX h (upd (tkX (R t 0) L X).2.2.1 3 (nI (lnN (tkX (R t 0) L X) + 1)) 3) (adX 3 0 0 (X.2.2.2.1 9 e) (tkX (R t 0) L X)))) (o := e) J hx (by omega)) rfl rfl rfl rfl rfl rfl (Nat.zero_le _) (Nat.zero_le _) ?_
    exact ww_vret dX3_closeAgain_72 rfl ⟨rfl, by rw [(show upd (tkX (R t 0) L X).2.2.1 3 (nI (lnN (tkX (R t 0) L X) + 1)) 3 = nI (l + 1) by rw [show lnN (tkX (R t 0) L X) = l from hlN]; rfl), hx, hh]⟩ (Nat.zero_le _) (Nat.zero_le _)
  · exact absurd c9 hd
set_option maxHeartbeats 4000000 in
theorem c3_turn5 (J : hJ Λ r t d F O R L mr mt md) {x : Int32} {e l h : Nat} (hp : X.1 ≤ L) (hx : x = nI e) (he : e < 4) (ho : X.2.1 7 = nI (e + 1)) (hl : X.2.2.1 3 = nI l) (hl2 : l < 121) (hh : X.2.2.2.1 9 e = nI h) (hhl : h < l)  (hw : X.2.2.2.1 8 e = 5) : Sat G mX3_turnToSecond [.ref mr, .int x] (hX Λ r t d F O R h0 L X, sz) (Det none (hX Λ r t d F O R h0 L (rwX 13 (e + 1) 0 (rwX 11 e 1 (rwX 12 e (vp_nar .boolean (X.2.2.2.1 13 (e + 1))) (amX h (nI (l + 1)) (ndX (R t 0) L 11 (rwX 10 e (nI l) (adX 3 0 0 0 (ndX (R t 0) L 6 (tkX (R t 0) L X))))))))), sz)) := by
  refine Sat.of (by decide) [some (.ref mr), some (.int x)] rfl rfl (fun Y => ?_)
  have h1 : ad (R t 0) L X.1 ≤ L := (ad_le hp).2
  have hlN : lnN X = l := by rw [lnN, hl, nI_clamp (by omega)]
  have P6 := ndX_P (b := R t 0) (k := 6) (X := tkX (R t 0) L X) h1
  have hlY : lnN (ndX (R t 0) L 6 (tkX (R t 0) L X)) = l := by rw [lnN, P6.2.1]; exact hlN
  have hp1 : (ndX (R t 0) L 6 (tkX (R t 0) L X)).1 ≤ L := P6.1
  have ho1 : (ndX (R t 0) L 6 (tkX (R t 0) L X)).2.1 7 = nI (e + 1) := (P6.2.2.1 7 (by decide) (by decide)).trans ho
  have hh1 : (ndX (R t 0) L 6 (tkX (R t 0) L X)).2.2.2.1 9 e = nI h := by rw [P6.2.1]; exact hh
  have hd1 : (ndX (R t 0) L 6 (tkX (R t 0) L X)).2.2.2.1 13 (e + 1) = X.2.2.2.1 13 (e + 1) := by rw [P6.2.1]; rfl
  have P7 : PP L (ndX (R t 0) L 11 (rwX 10 e (nI l) (adX 3 0 0 0 (ndX (R t 0) L 6 (tkX (R t 0) L X))))) (rwX 10 e (nI l) (adX 3 0 0 0 (ndX (R t 0) L 6 (tkX (R t 0) L X)))) := ndX_P (b := R t 0) (k := 11) (X := (rwX 10 e (nI l) (adX 3 0 0 0 (ndX (R t 0) L 6 (tkX (R t 0) L X))))) hp1
  have hlA : (rwX 10 e (nI l) (adX 3 0 0 0 (ndX (R t 0) L 6 (tkX (R t 0) L X)))).2.2.1 3 = nI (l + 1) := (show upd (ndX (R t 0) L 6 (tkX (R t 0) L X)).2.2.1 3 (nI (lnN (ndX (R t 0) L 6 (tkX (R t 0) L X)) + 1)) 3 = nI (l + 1) by rw [hlY]; rfl)
  have hlN2 : (ndX (R t 0) L 11 (rwX 10 e (nI l) (adX 3 0 0 0 (ndX (R t 0) L 6 (tkX (R t 0) L X))))).2.2.1 3 = nI (l + 1) := by rw [P7.2.1]; exact hlA
  have hoN2 : (ndX (R t 0) L 11 (rwX 10 e (nI l) (adX 3 0 0 0 (ndX (R t 0) L 6 (tkX (R t 0) L X))))).2.1 7 = nI (e + 1) := (P7.2.2.1 7 (by decide) (by decide)).trans (ho1)
  have hR2 : (ndX (R t 0) L 11 (rwX 10 e (nI l) (adX 3 0 0 0 (ndX (R t 0) L 6 (tkX (R t 0) L X))))).2.2.2.1 = (rwX 10 e (nI l) (adX 3 0 0 0 (ndX (R t 0) L 6 (tkX (R t 0) L X)))).2.2.2.1 := by rw [P7.2.1]
  have hh2 : (ndX (R t 0) L 11 (rwX 10 e (nI l) (adX 3 0 0 0 (ndX (R t 0) L 6 (tkX (R t 0) L X))))).2.2.2.1 9 e = nI h := by rw [hR2]; exact hh1
  have hd2 : (ndX (R t 0) L 11 (rwX 10 e (nI l) (adX 3 0 0 0 (ndX (R t 0) L 6 (tkX (R t 0) L X))))).2.2.2.1 13 (e + 1) = X.2.2.2.1 13 (e + 1) := by rw [hR2]; exact hd1
  refine ww_aload_n dX3_turnToSecond_0 rfl rfl ?_
  refine Wrd_geto J.1 dX3_turnToSecond_1 fX3_12 rfl rfl J.2.2.2.1 ?_
  refine Wta_call0 J.2.1 dX3_turnToSecond_4 kX3_97 rfl rfl (x3_take (X := X) J hp) rfl rfl rfl rfl rfl rfl (Nat.zero_le _) (Nat.zero_le _) ?_
  refine ww_aload_n dX3_turnToSecond_7 rfl rfl ?_
  refine Wrd_getr J.1 dX3_turnToSecond_8 fX3_46 rfl ?_
  refine ww_iload_n dX3_turnToSecond_11 rfl rfl ?_
  refine Xr_iald J dX3_turnToSecond_12 (kf := 8) rfl hx he rfl ?_
  refine ww_iconst (v := 5) dX3_turnToSecond_13 (by decide) ?_
  refine ww_icmp_ne (tgt := 43) dX3_turnToSecond_14 (by decide) (fun c14 => ?_) (fun c14 => ?_)
  · exact absurd c14 (fun q => q hw)
  · refine ww_aload_n dX3_turnToSecond_17 rfl rfl ?_
    refine ww_bipush (v := 6) dX3_turnToSecond_18 (by decide) ?_
    refine Wrd_call0 J.1 dX3_turnToSecond_20 kX3_123 rfl rfl (c3_need (X := (tkX (R t 0) L X)) J h1 rfl (by decide)) rfl rfl rfl rfl rfl rfl (Nat.zero_le _) (Nat.zero_le _) ?_
    refine ww_aload_n dX3_turnToSecond_23 rfl rfl ?_
    refine Wrd_getr J.1 dX3_turnToSecond_24 fX3_52 rfl ?_
    refine ww_iload_n dX3_turnToSecond_27 rfl rfl ?_
    refine ww_aload_n dX3_turnToSecond_28 rfl rfl ?_
    refine Wrd_geto J.1 dX3_turnToSecond_29 fX3_28 rfl rfl J.2.2.2.2.1 ?_
    refine ww_iconst (v := 3) dX3_turnToSecond_32 (by decide) ?_
    refine ww_iconst (v := 0) dX3_turnToSecond_33 (by decide) ?_
    refine ww_iconst (v := 0) dX3_turnToSecond_34 (by decide) ?_
    refine ww_iconst (v := 0) dX3_turnToSecond_35 (by decide) ?_
    refine Wbb_call1 J.2.2.1 dX3_turnToSecond_36 kX3_74 rfl rfl (x3_add (X := (ndX (R t 0) L 6 (tkX (R t 0) L X))) J (by rw [P6.2.1]; exact hl) hl2) rfl rfl rfl rfl rfl rfl (Nat.zero_le _) (Nat.zero_le _) ?_
    refine Xr_iast J dX3_turnToSecond_39 (kf := 10) rfl hx he rfl ?_
    refine ww_goto (tgt := 72) dX3_turnToSecond_40 (by decide) ?_
    refine ww_aload_n dX3_turnToSecond_72 rfl rfl ?_
    refine ww_bipush (v := 11) dX3_turnToSecond_73 (by decide) ?_
    refine Wrd_call0 J.1 dX3_turnToSecond_75 kX3_123 rfl rfl (c3_need (X := (rwX 10 e (nI l) (adX 3 0 0 0 (ndX (R t 0) L 6 (tkX (R t 0) L X))))) J hp1 rfl (by decide)) rfl rfl rfl rfl rfl rfl (Nat.zero_le _) (Nat.zero_le _) ?_
    refine ww_aload_n dX3_turnToSecond_78 rfl rfl ?_
    refine Wrd_geto J.1 dX3_turnToSecond_79 fX3_28 rfl rfl J.2.2.2.2.1 ?_
    refine ww_aload_n dX3_turnToSecond_82 rfl rfl ?_
    refine Wrd_getr J.1 dX3_turnToSecond_83 fX3_49 rfl ?_
    refine ww_iload_n dX3_turnToSecond_86 rfl rfl ?_
    refine Xr_iald J dX3_turnToSecond_87 (kf := 9) rfl hx he rfl ?_
    refine ww_aload_n dX3_turnToSecond_88 rfl rfl ?_
    refine Wrd_geto J.1 dX3_turnToSecond_89 fX3_28 rfl rfl J.2.2.2.2.1 ?_
    refine Xd_geti J dX3_turnToSecond_92 fX3_117 rfl rfl ?_
    refine Wbb_call0 J.2.2.1 dX3_turnToSecond_95 kX3_164 rfl rfl (x3_aim (X := (ndX (R t 0) L 11 (rwX 10 e (nI l) (adX 3 0 0 0 (ndX (R t 0) L 6 (tkX (R t 0) L X)))))) (l := l + 1) (h := h) J hlN2 (by omega) hh2 (by omega)) rfl rfl rfl rfl rfl rfl (Nat.zero_le _) (Nat.zero_le _) ?_
    refine ww_aload_n dX3_turnToSecond_98 rfl rfl ?_
    refine Wrd_getr J.1 dX3_turnToSecond_99 fX3_59 rfl ?_
    refine ww_iload_n dX3_turnToSecond_102 rfl rfl ?_
    refine ww_aload_n dX3_turnToSecond_103 rfl rfl ?_
    refine Wrd_getr J.1 dX3_turnToSecond_104 fX3_62 rfl ?_
    refine ww_aload_n dX3_turnToSecond_107 rfl rfl ?_
    refine Xr_geti J dX3_turnToSecond_108 fX3_43 rfl rfl ?_
    refine Xr_zald J dX3_turnToSecond_111 (kf := 13) rfl hoN2 (by omega) rfl ?_
    refine Xr_zast J dX3_turnToSecond_112 (kf := 12) rfl hx he rfl ?_
    refine ww_aload_n dX3_turnToSecond_113 rfl rfl ?_
    refine Wrd_getr J.1 dX3_turnToSecond_114 fX3_55 rfl ?_
    refine ww_iload_n dX3_turnToSecond_117 rfl rfl ?_
    refine ww_iconst (v := 1) dX3_turnToSecond_118 (by decide) ?_
    refine Xr_zast J dX3_turnToSecond_119 (kf := 11) rfl hx he rfl ?_
    refine ww_aload_n dX3_turnToSecond_120 rfl rfl ?_
    refine Wrd_getr J.1 dX3_turnToSecond_121 fX3_62 rfl ?_
    refine ww_aload_n dX3_turnToSecond_124 rfl rfl ?_
    refine Xr_geti J dX3_turnToSecond_125 fX3_43 rfl rfl ?_
    refine ww_iconst (v := 0) dX3_turnToSecond_128 (by decide) ?_
    refine Xr_zast J dX3_turnToSecond_129 (kf := 13) rfl hoN2 (by omega) rfl ?_
    exact ww_vret dX3_turnToSecond_130 rfl ⟨rfl, by rw [← hlN2, ← hd2]; rfl⟩ (Nat.zero_le _) (Nat.zero_le _)
set_option maxHeartbeats 4000000 in
theorem c3_turn4 (J : hJ Λ r t d F O R L mr mt md) {x : Int32} {e l h : Nat} (hp : X.1 ≤ L) (hx : x = nI e) (he : e < 4) (ho : X.2.1 7 = nI (e + 1)) (hl : X.2.2.1 3 = nI l) (hl2 : l < 121) (hh : X.2.2.2.1 9 e = nI h) (hhl : h < l)  (hw : X.2.2.2.1 8 e = 4) : Sat G mX3_turnToSecond [.ref mr, .int x] (hX Λ r t d F O R h0 L X, sz) (Det none (hX Λ r t d F O R h0 L (rwX 13 (e + 1) 0 (rwX 11 e 1 (rwX 12 e (vp_nar .boolean (X.2.2.2.1 13 (e + 1))) (amX h (nI (l + 1)) (ndX (R t 0) L 11 (rwX 10 e (nI l) (adX 5 (X.2.2.2.2 5 h) 0 0 (tkX (R t 0) L X)))))))), sz)) := by
  refine Sat.of (by decide) [some (.ref mr), some (.int x)] rfl rfl (fun Y => ?_)
  have h1 : ad (R t 0) L X.1 ≤ L := (ad_le hp).2
  have hlN : lnN X = l := by rw [lnN, hl, nI_clamp (by omega)]
  have hlY : lnN (tkX (R t 0) L X) = l := hlN
  have hp1 : (tkX (R t 0) L X).1 ≤ L := h1
  have ho1 := ho
  have hh1 := hh
  have hd1 : X.2.2.2.1 13 (e + 1) = X.2.2.2.1 13 (e + 1) := rfl
  have P7 : PP L (ndX (R t 0) L 11 (rwX 10 e (nI l) (adX 5 (X.2.2.2.2 5 h) 0 0 (tkX (R t 0) L X)))) (rwX 10 e (nI l) (adX 5 (X.2.2.2.2 5 h) 0 0 (tkX (R t 0) L X))) := ndX_P (b := R t 0) (k := 11) (X := (rwX 10 e (nI l) (adX 5 (X.2.2.2.2 5 h) 0 0 (tkX (R t 0) L X)))) hp1
  have hlA : (rwX 10 e (nI l) (adX 5 (X.2.2.2.2 5 h) 0 0 (tkX (R t 0) L X))).2.2.1 3 = nI (l + 1) := (show upd (tkX (R t 0) L X).2.2.1 3 (nI (lnN (tkX (R t 0) L X) + 1)) 3 = nI (l + 1) by rw [hlY]; rfl)
  have hlN2 : (ndX (R t 0) L 11 (rwX 10 e (nI l) (adX 5 (X.2.2.2.2 5 h) 0 0 (tkX (R t 0) L X)))).2.2.1 3 = nI (l + 1) := by rw [P7.2.1]; exact hlA
  have hoN2 : (ndX (R t 0) L 11 (rwX 10 e (nI l) (adX 5 (X.2.2.2.2 5 h) 0 0 (tkX (R t 0) L X)))).2.1 7 = nI (e + 1) := (P7.2.2.1 7 (by decide) (by decide)).trans (ho1)
  have hR2 : (ndX (R t 0) L 11 (rwX 10 e (nI l) (adX 5 (X.2.2.2.2 5 h) 0 0 (tkX (R t 0) L X)))).2.2.2.1 = (rwX 10 e (nI l) (adX 5 (X.2.2.2.2 5 h) 0 0 (tkX (R t 0) L X))).2.2.2.1 := by rw [P7.2.1]
  have hh2 : (ndX (R t 0) L 11 (rwX 10 e (nI l) (adX 5 (X.2.2.2.2 5 h) 0 0 (tkX (R t 0) L X)))).2.2.2.1 9 e = nI h := by rw [hR2]; exact hh1
  have hd2 : (ndX (R t 0) L 11 (rwX 10 e (nI l) (adX 5 (X.2.2.2.2 5 h) 0 0 (tkX (R t 0) L X)))).2.2.2.1 13 (e + 1) = X.2.2.2.1 13 (e + 1) := by rw [hR2]; exact hd1
  refine ww_aload_n dX3_turnToSecond_0 rfl rfl ?_
  refine Wrd_geto J.1 dX3_turnToSecond_1 fX3_12 rfl rfl J.2.2.2.1 ?_
  refine Wta_call0 J.2.1 dX3_turnToSecond_4 kX3_97 rfl rfl (x3_take (X := X) J hp) rfl rfl rfl rfl rfl rfl (Nat.zero_le _) (Nat.zero_le _) ?_
  refine ww_aload_n dX3_turnToSecond_7 rfl rfl ?_
  refine Wrd_getr J.1 dX3_turnToSecond_8 fX3_46 rfl ?_
  refine ww_iload_n dX3_turnToSecond_11 rfl rfl ?_
  refine Xr_iald J dX3_turnToSecond_12 (kf := 8) rfl hx he rfl ?_
  refine ww_iconst (v := 5) dX3_turnToSecond_13 (by decide) ?_
  refine ww_icmp_ne (tgt := 43) dX3_turnToSecond_14 (by decide) (fun c14 => ?_) (fun c14 => ?_)
  · refine ww_aload_n dX3_turnToSecond_43 rfl rfl ?_
    refine Wrd_getr J.1 dX3_turnToSecond_44 fX3_52 rfl ?_
    refine ww_iload_n dX3_turnToSecond_47 rfl rfl ?_
    refine ww_aload_n dX3_turnToSecond_48 rfl rfl ?_
    refine Wrd_geto J.1 dX3_turnToSecond_49 fX3_28 rfl rfl J.2.2.2.2.1 ?_
    refine ww_iconst (v := 5) dX3_turnToSecond_52 (by decide) ?_
    refine ww_aload_n dX3_turnToSecond_53 rfl rfl ?_
    refine Wrd_geto J.1 dX3_turnToSecond_54 fX3_28 rfl rfl J.2.2.2.2.1 ?_
    refine ww_aload_n dX3_turnToSecond_57 rfl rfl ?_
    refine Wrd_getr J.1 dX3_turnToSecond_58 fX3_49 rfl ?_
    refine ww_iload_n dX3_turnToSecond_61 rfl rfl ?_
    refine Xr_iald J dX3_turnToSecond_62 (kf := 9) rfl hx he rfl ?_
    refine Wbb_call1 J.2.2.1 dX3_turnToSecond_63 kX3_167 rfl rfl (x3_sub (X := (tkX (R t 0) L X)) J hl (by omega) hh hhl) rfl rfl rfl rfl rfl rfl (Nat.zero_le _) (Nat.zero_le _) ?_
    refine ww_iconst (v := 0) dX3_turnToSecond_66 (by decide) ?_
    refine ww_iconst (v := 0) dX3_turnToSecond_67 (by decide) ?_
    refine Wbb_call1 J.2.2.1 dX3_turnToSecond_68 kX3_74 rfl rfl (x3_add (X := (tkX (R t 0) L X)) J hl hl2) rfl rfl rfl rfl rfl rfl (Nat.zero_le _) (Nat.zero_le _) ?_
    refine Xr_iast J dX3_turnToSecond_71 (kf := 10) rfl hx he rfl ?_
    refine ww_aload_n dX3_turnToSecond_72 rfl rfl ?_
    refine ww_bipush (v := 11) dX3_turnToSecond_73 (by decide) ?_
    refine Wrd_call0 J.1 dX3_turnToSecond_75 kX3_123 rfl rfl (c3_need (X := (rwX 10 e (nI l) (adX 5 (X.2.2.2.2 5 h) 0 0 (tkX (R t 0) L X)))) J hp1 rfl (by decide)) rfl rfl rfl rfl rfl rfl (Nat.zero_le _) (Nat.zero_le _) ?_
    refine ww_aload_n dX3_turnToSecond_78 rfl rfl ?_
    refine Wrd_geto J.1 dX3_turnToSecond_79 fX3_28 rfl rfl J.2.2.2.2.1 ?_
    refine ww_aload_n dX3_turnToSecond_82 rfl rfl ?_
    refine Wrd_getr J.1 dX3_turnToSecond_83 fX3_49 rfl ?_
    refine ww_iload_n dX3_turnToSecond_86 rfl rfl ?_
    refine Xr_iald J dX3_turnToSecond_87 (kf := 9) rfl hx he rfl ?_
    refine ww_aload_n dX3_turnToSecond_88 rfl rfl ?_
    refine Wrd_geto J.1 dX3_turnToSecond_89 fX3_28 rfl rfl J.2.2.2.2.1 ?_
    refine Xd_geti J dX3_turnToSecond_92 fX3_117 rfl rfl ?_
    refine Wbb_call0 J.2.2.1 dX3_turnToSecond_95 kX3_164 rfl rfl (x3_aim (X := (ndX (R t 0) L 11 (rwX 10 e (nI l) (adX 5 (X.2.2.2.2 5 h) 0 0 (tkX (R t 0) L X))))) (l := l + 1) (h := h) J hlN2 (by omega) hh2 (by omega)) rfl rfl rfl rfl rfl rfl (Nat.zero_le _) (Nat.zero_le _) ?_
    refine ww_aload_n dX3_turnToSecond_98 rfl rfl ?_
    refine Wrd_getr J.1 dX3_turnToSecond_99 fX3_59 rfl ?_
    refine ww_iload_n dX3_turnToSecond_102 rfl rfl ?_
    refine ww_aload_n dX3_turnToSecond_103 rfl rfl ?_
    refine Wrd_getr J.1 dX3_turnToSecond_104 fX3_62 rfl ?_
    refine ww_aload_n dX3_turnToSecond_107 rfl rfl ?_
    refine Xr_geti J dX3_turnToSecond_108 fX3_43 rfl rfl ?_
    refine Xr_zald J dX3_turnToSecond_111 (kf := 13) rfl hoN2 (by omega) rfl ?_
    refine Xr_zast J dX3_turnToSecond_112 (kf := 12) rfl hx he rfl ?_
    refine ww_aload_n dX3_turnToSecond_113 rfl rfl ?_
    refine Wrd_getr J.1 dX3_turnToSecond_114 fX3_55 rfl ?_
    refine ww_iload_n dX3_turnToSecond_117 rfl rfl ?_
    refine ww_iconst (v := 1) dX3_turnToSecond_118 (by decide) ?_
    refine Xr_zast J dX3_turnToSecond_119 (kf := 11) rfl hx he rfl ?_
    refine ww_aload_n dX3_turnToSecond_120 rfl rfl ?_
    refine Wrd_getr J.1 dX3_turnToSecond_121 fX3_62 rfl ?_
    refine ww_aload_n dX3_turnToSecond_124 rfl rfl ?_
    refine Xr_geti J dX3_turnToSecond_125 fX3_43 rfl rfl ?_
    refine ww_iconst (v := 0) dX3_turnToSecond_128 (by decide) ?_
    refine Xr_zast J dX3_turnToSecond_129 (kf := 13) rfl hoN2 (by omega) rfl ?_
    exact ww_vret dX3_turnToSecond_130 rfl ⟨rfl, by rw [← hlN2, ← hd2]; rfl⟩ (Nat.zero_le _) (Nat.zero_le _)
  · exact absurd c14 (fun q => absurd (hw.symm.trans q) (by decide))
set_option maxHeartbeats 4000000 in
theorem c3_second500 (J : hJ Λ r t d F O R L mr mt md) {x : Int32} {e l h : Nat} (hp : X.1 ≤ L) (hx : x = nI e) (he : e < 4) (ho : X.2.1 7 = nI (e + 1)) (hl : X.2.2.1 3 = nI l) (hl2 : l < 121) (hh : X.2.2.2.1 9 e = nI h) (hhl : h < l) {j : Nat} (hj : X.2.2.2.1 10 e = nI j) (hjl : j < l) (hw : X.2.2.2.1 8 e = 5) (h1d : X.2.2.2.1 12 e = 0) (h2d : X.2.2.2.1 13 (e + 1) = 0) : Sat G mX3_closeSecond [.ref mr, .int x] (hX Λ r t d F O R h0 L X, sz) (Det none (hX Λ r t d F O R h0 L (amX j (nI l) (opeX (nI e) (tkX (R t 0) L X))), sz)) := by
  refine Sat.of (by decide) [some (.ref mr), some (.int x), none] rfl rfl (fun Y => ?_)
  have h1 : ad (R t 0) L X.1 ≤ L := (ad_le hp).2
  have hlN : lnN X = l := by rw [lnN, hl, nI_clamp (by omega)]
  refine ww_aload_n dX3_closeSecond_0 rfl rfl ?_
  refine Wrd_getr J.1 dX3_closeSecond_1 fX3_62 rfl ?_
  refine ww_aload_n dX3_closeSecond_4 rfl rfl ?_
  refine Xr_geti J dX3_closeSecond_5 fX3_43 rfl rfl ?_
  refine Xr_zald J dX3_closeSecond_8 (kf := 13) rfl ho (by omega) rfl ?_
  refine ww_istore_n dX3_closeSecond_9 rfl rfl rfl ?_
  refine ww_aload_n dX3_closeSecond_10 rfl rfl ?_
  refine Wrd_geto J.1 dX3_closeSecond_11 fX3_12 rfl rfl J.2.2.2.1 ?_
  refine Wta_call0 J.2.1 dX3_closeSecond_14 kX3_97 rfl rfl (x3_take (X := X) J hp) rfl rfl rfl rfl rfl rfl (Nat.zero_le _) (Nat.zero_le _) ?_
  refine ww_aload_n dX3_closeSecond_17 rfl rfl ?_
  refine ww_iload_n dX3_closeSecond_18 rfl rfl ?_
  refine Xr_puti J dX3_closeSecond_19 fX3_43 rfl rfl ?_
  refine ww_aload_n dX3_closeSecond_22 rfl rfl ?_
  refine Wrd_getr J.1 dX3_closeSecond_23 fX3_46 rfl ?_
  refine ww_iload_n dX3_closeSecond_26 rfl rfl ?_
  refine Xr_iald J dX3_closeSecond_27 (kf := 8) rfl hx he rfl ?_
  refine ww_iconst (v := 5) dX3_closeSecond_28 (by decide) ?_
  refine ww_icmp_ne (tgt := 57) dX3_closeSecond_29 (by decide) (fun c29 => ?_) (fun c29 => ?_)
  · exact absurd c29 (fun q => q hw)
  · refine ww_aload_n dX3_closeSecond_32 rfl rfl ?_
    refine ww_aload_n dX3_closeSecond_33 rfl rfl ?_
    refine Wrd_getr J.1 dX3_closeSecond_34 fX3_59 rfl ?_
    refine ww_iload_n dX3_closeSecond_37 rfl rfl ?_
    refine Xr_zald J dX3_closeSecond_38 (kf := 12) rfl hx he rfl ?_
    refine ww_if_eq (tgt := 50) dX3_closeSecond_39 (by decide) (fun c39 => ?_) (fun c39 => ?_)
    · refine ww_iconst (v := 0) dX3_closeSecond_50 (by decide) ?_
      refine Wrd_call0 J.1 dX3_closeSecond_51 kX3_137 rfl rfl (c3_hold0 (X := opeX x (tkX (R t 0) L X)) J) rfl rfl rfl rfl rfl rfl (Nat.zero_le _) (Nat.zero_le _) ?_
      refine ww_goto (tgt := 111) dX3_closeSecond_54 (by decide) ?_
      refine ww_aload_n dX3_closeSecond_111 rfl rfl ?_
      refine Wrd_geto J.1 dX3_closeSecond_112 fX3_28 rfl rfl J.2.2.2.2.1 ?_
      refine ww_aload_n dX3_closeSecond_115 rfl rfl ?_
      refine Wrd_getr J.1 dX3_closeSecond_116 fX3_52 rfl ?_
      refine ww_iload_n dX3_closeSecond_119 rfl rfl ?_
      refine Xr_iald J dX3_closeSecond_120 (kf := 10) rfl hx he rfl ?_
      refine ww_aload_n dX3_closeSecond_121 rfl rfl ?_
      refine Wrd_geto J.1 dX3_closeSecond_122 fX3_28 rfl rfl J.2.2.2.2.1 ?_
      refine Xd_geti J dX3_closeSecond_125 fX3_117 rfl rfl ?_
      refine Wbb_call0 J.2.2.1 dX3_closeSecond_128 kX3_164 rfl rfl (x3_aim (X := (opeX x (tkX (R t 0) L X))) (l := l) (h := j) J hl (by omega) hj hjl) rfl rfl rfl rfl rfl rfl (Nat.zero_le _) (Nat.zero_le _) ?_
      exact ww_vret dX3_closeSecond_131 rfl ⟨rfl, by rw [hx]; exact congrArg (fun z => ((hX Λ r t d F O R h0 L (amX j z _), sz) : wH)) hl⟩ (Nat.zero_le _) (Nat.zero_le _)
    · exact absurd c39 (fun q => q h1d)
set_option maxHeartbeats 4000000 in
theorem c3_second501 (J : hJ Λ r t d F O R L mr mt md) {x : Int32} {e l h : Nat} (hp : X.1 ≤ L) (hx : x = nI e) (he : e < 4) (ho : X.2.1 7 = nI (e + 1)) (hl : X.2.2.1 3 = nI l) (hl2 : l < 121) (hh : X.2.2.2.1 9 e = nI h) (hhl : h < l) {j : Nat} (hj : X.2.2.2.1 10 e = nI j) (hjl : j < l) (hw : X.2.2.2.1 8 e = 5) (h1d : X.2.2.2.1 12 e = 0) (h2d : ¬ X.2.2.2.1 13 (e + 1) = 0) : Sat G mX3_closeSecond [.ref mr, .int x] (hX Λ r t d F O R h0 L X, sz) (Det none (hX Λ r t d F O R h0 L (amX j (nI l) (opeX (nI e) (tkX (R t 0) L X))), sz)) := by
  refine Sat.of (by decide) [some (.ref mr), some (.int x), none] rfl rfl (fun Y => ?_)
  have h1 : ad (R t 0) L X.1 ≤ L := (ad_le hp).2
  have hlN : lnN X = l := by rw [lnN, hl, nI_clamp (by omega)]
  refine ww_aload_n dX3_closeSecond_0 rfl rfl ?_
  refine Wrd_getr J.1 dX3_closeSecond_1 fX3_62 rfl ?_
  refine ww_aload_n dX3_closeSecond_4 rfl rfl ?_
  refine Xr_geti J dX3_closeSecond_5 fX3_43 rfl rfl ?_
  refine Xr_zald J dX3_closeSecond_8 (kf := 13) rfl ho (by omega) rfl ?_
  refine ww_istore_n dX3_closeSecond_9 rfl rfl rfl ?_
  refine ww_aload_n dX3_closeSecond_10 rfl rfl ?_
  refine Wrd_geto J.1 dX3_closeSecond_11 fX3_12 rfl rfl J.2.2.2.1 ?_
  refine Wta_call0 J.2.1 dX3_closeSecond_14 kX3_97 rfl rfl (x3_take (X := X) J hp) rfl rfl rfl rfl rfl rfl (Nat.zero_le _) (Nat.zero_le _) ?_
  refine ww_aload_n dX3_closeSecond_17 rfl rfl ?_
  refine ww_iload_n dX3_closeSecond_18 rfl rfl ?_
  refine Xr_puti J dX3_closeSecond_19 fX3_43 rfl rfl ?_
  refine ww_aload_n dX3_closeSecond_22 rfl rfl ?_
  refine Wrd_getr J.1 dX3_closeSecond_23 fX3_46 rfl ?_
  refine ww_iload_n dX3_closeSecond_26 rfl rfl ?_
  refine Xr_iald J dX3_closeSecond_27 (kf := 8) rfl hx he rfl ?_
  refine ww_iconst (v := 5) dX3_closeSecond_28 (by decide) ?_
  refine ww_icmp_ne (tgt := 57) dX3_closeSecond_29 (by decide) (fun c29 => ?_) (fun c29 => ?_)
  · exact absurd c29 (fun q => q hw)
  · refine ww_aload_n dX3_closeSecond_32 rfl rfl ?_
    refine ww_aload_n dX3_closeSecond_33 rfl rfl ?_
    refine Wrd_getr J.1 dX3_closeSecond_34 fX3_59 rfl ?_
    refine ww_iload_n dX3_closeSecond_37 rfl rfl ?_
    refine Xr_zald J dX3_closeSecond_38 (kf := 12) rfl hx he rfl ?_
    refine ww_if_eq (tgt := 50) dX3_closeSecond_39 (by decide) (fun c39 => ?_) (fun c39 => ?_)
    · refine ww_iconst (v := 0) dX3_closeSecond_50 (by decide) ?_
      refine Wrd_call0 J.1 dX3_closeSecond_51 kX3_137 rfl rfl (c3_hold0 (X := opeX x (tkX (R t 0) L X)) J) rfl rfl rfl rfl rfl rfl (Nat.zero_le _) (Nat.zero_le _) ?_
      refine ww_goto (tgt := 111) dX3_closeSecond_54 (by decide) ?_
      refine ww_aload_n dX3_closeSecond_111 rfl rfl ?_
      refine Wrd_geto J.1 dX3_closeSecond_112 fX3_28 rfl rfl J.2.2.2.2.1 ?_
      refine ww_aload_n dX3_closeSecond_115 rfl rfl ?_
      refine Wrd_getr J.1 dX3_closeSecond_116 fX3_52 rfl ?_
      refine ww_iload_n dX3_closeSecond_119 rfl rfl ?_
      refine Xr_iald J dX3_closeSecond_120 (kf := 10) rfl hx he rfl ?_
      refine ww_aload_n dX3_closeSecond_121 rfl rfl ?_
      refine Wrd_geto J.1 dX3_closeSecond_122 fX3_28 rfl rfl J.2.2.2.2.1 ?_
      refine Xd_geti J dX3_closeSecond_125 fX3_117 rfl rfl ?_
      refine Wbb_call0 J.2.2.1 dX3_closeSecond_128 kX3_164 rfl rfl (x3_aim (X := (opeX x (tkX (R t 0) L X))) (l := l) (h := j) J hl (by omega) hj hjl) rfl rfl rfl rfl rfl rfl (Nat.zero_le _) (Nat.zero_le _) ?_
      exact ww_vret dX3_closeSecond_131 rfl ⟨rfl, by rw [hx]; exact congrArg (fun z => ((hX Λ r t d F O R h0 L (amX j z _), sz) : wH)) hl⟩ (Nat.zero_le _) (Nat.zero_le _)
    · exact absurd c39 (fun q => q h1d)
set_option maxHeartbeats 4000000 in
theorem c3_second510 (J : hJ Λ r t d F O R L mr mt md) {x : Int32} {e l h : Nat} (hp : X.1 ≤ L) (hx : x = nI e) (he : e < 4) (ho : X.2.1 7 = nI (e + 1)) (hl : X.2.2.1 3 = nI l) (hl2 : l < 121) (hh : X.2.2.2.1 9 e = nI h) (hhl : h < l) {j : Nat} (hj : X.2.2.2.1 10 e = nI j) (hjl : j < l) (hw : X.2.2.2.1 8 e = 5) (h1d : ¬ X.2.2.2.1 12 e = 0) (h2d : X.2.2.2.1 13 (e + 1) = 0) : Sat G mX3_closeSecond [.ref mr, .int x] (hX Λ r t d F O R h0 L X, sz) (Det none (hX Λ r t d F O R h0 L (amX j (nI l) (opeX (nI e) (tkX (R t 0) L X))), sz)) := by
  refine Sat.of (by decide) [some (.ref mr), some (.int x), none] rfl rfl (fun Y => ?_)
  have h1 : ad (R t 0) L X.1 ≤ L := (ad_le hp).2
  have hlN : lnN X = l := by rw [lnN, hl, nI_clamp (by omega)]
  refine ww_aload_n dX3_closeSecond_0 rfl rfl ?_
  refine Wrd_getr J.1 dX3_closeSecond_1 fX3_62 rfl ?_
  refine ww_aload_n dX3_closeSecond_4 rfl rfl ?_
  refine Xr_geti J dX3_closeSecond_5 fX3_43 rfl rfl ?_
  refine Xr_zald J dX3_closeSecond_8 (kf := 13) rfl ho (by omega) rfl ?_
  refine ww_istore_n dX3_closeSecond_9 rfl rfl rfl ?_
  refine ww_aload_n dX3_closeSecond_10 rfl rfl ?_
  refine Wrd_geto J.1 dX3_closeSecond_11 fX3_12 rfl rfl J.2.2.2.1 ?_
  refine Wta_call0 J.2.1 dX3_closeSecond_14 kX3_97 rfl rfl (x3_take (X := X) J hp) rfl rfl rfl rfl rfl rfl (Nat.zero_le _) (Nat.zero_le _) ?_
  refine ww_aload_n dX3_closeSecond_17 rfl rfl ?_
  refine ww_iload_n dX3_closeSecond_18 rfl rfl ?_
  refine Xr_puti J dX3_closeSecond_19 fX3_43 rfl rfl ?_
  refine ww_aload_n dX3_closeSecond_22 rfl rfl ?_
  refine Wrd_getr J.1 dX3_closeSecond_23 fX3_46 rfl ?_
  refine ww_iload_n dX3_closeSecond_26 rfl rfl ?_
  refine Xr_iald J dX3_closeSecond_27 (kf := 8) rfl hx he rfl ?_
  refine ww_iconst (v := 5) dX3_closeSecond_28 (by decide) ?_
  refine ww_icmp_ne (tgt := 57) dX3_closeSecond_29 (by decide) (fun c29 => ?_) (fun c29 => ?_)
  · exact absurd c29 (fun q => q hw)
  · refine ww_aload_n dX3_closeSecond_32 rfl rfl ?_
    refine ww_aload_n dX3_closeSecond_33 rfl rfl ?_
    refine Wrd_getr J.1 dX3_closeSecond_34 fX3_59 rfl ?_
    refine ww_iload_n dX3_closeSecond_37 rfl rfl ?_
    refine Xr_zald J dX3_closeSecond_38 (kf := 12) rfl hx he rfl ?_
    refine ww_if_eq (tgt := 50) dX3_closeSecond_39 (by decide) (fun c39 => ?_) (fun c39 => ?_)
    · exact absurd c39 h1d
    · refine ww_iload_n dX3_closeSecond_42 rfl rfl ?_
      refine ww_if_eq (tgt := 50) dX3_closeSecond_43 (by decide) (fun c43 => ?_) (fun c43 => ?_)
      · refine ww_iconst (v := 0) dX3_closeSecond_50 (by decide) ?_
        refine Wrd_call0 J.1 dX3_closeSecond_51 kX3_137 rfl rfl (c3_hold0 (X := opeX x (tkX (R t 0) L X)) J) rfl rfl rfl rfl rfl rfl (Nat.zero_le _) (Nat.zero_le _) ?_
        refine ww_goto (tgt := 111) dX3_closeSecond_54 (by decide) ?_
        refine ww_aload_n dX3_closeSecond_111 rfl rfl ?_
        refine Wrd_geto J.1 dX3_closeSecond_112 fX3_28 rfl rfl J.2.2.2.2.1 ?_
        refine ww_aload_n dX3_closeSecond_115 rfl rfl ?_
        refine Wrd_getr J.1 dX3_closeSecond_116 fX3_52 rfl ?_
        refine ww_iload_n dX3_closeSecond_119 rfl rfl ?_
        refine Xr_iald J dX3_closeSecond_120 (kf := 10) rfl hx he rfl ?_
        refine ww_aload_n dX3_closeSecond_121 rfl rfl ?_
        refine Wrd_geto J.1 dX3_closeSecond_122 fX3_28 rfl rfl J.2.2.2.2.1 ?_
        refine Xd_geti J dX3_closeSecond_125 fX3_117 rfl rfl ?_
        refine Wbb_call0 J.2.2.1 dX3_closeSecond_128 kX3_164 rfl rfl (x3_aim (X := (opeX x (tkX (R t 0) L X))) (l := l) (h := j) J hl (by omega) hj hjl) rfl rfl rfl rfl rfl rfl (Nat.zero_le _) (Nat.zero_le _) ?_
        exact ww_vret dX3_closeSecond_131 rfl ⟨rfl, by rw [hx]; exact congrArg (fun z => ((hX Λ r t d F O R h0 L (amX j z _), sz) : wH)) hl⟩ (Nat.zero_le _) (Nat.zero_le _)
      · exact absurd c43 (fun q => q h2d)
set_option maxHeartbeats 4000000 in
theorem c3_second511 (J : hJ Λ r t d F O R L mr mt md) {x : Int32} {e l h : Nat} (hp : X.1 ≤ L) (hx : x = nI e) (he : e < 4) (ho : X.2.1 7 = nI (e + 1)) (hl : X.2.2.1 3 = nI l) (hl2 : l < 121) (hh : X.2.2.2.1 9 e = nI h) (hhl : h < l) {j : Nat} (hj : X.2.2.2.1 10 e = nI j) (hjl : j < l) (hw : X.2.2.2.1 8 e = 5) (h1d : ¬ X.2.2.2.1 12 e = 0) (h2d : ¬ X.2.2.2.1 13 (e + 1) = 0) : Sat G mX3_closeSecond [.ref mr, .int x] (hX Λ r t d F O R h0 L X, sz) (Det none (hX Λ r t d F O R h0 L (amX j (nI l) (hdX e (opeX (nI e) (tkX (R t 0) L X)))), sz)) := by
  refine Sat.of (by decide) [some (.ref mr), some (.int x), none] rfl rfl (fun Y => ?_)
  have h1 : ad (R t 0) L X.1 ≤ L := (ad_le hp).2
  have hlN : lnN X = l := by rw [lnN, hl, nI_clamp (by omega)]
  refine ww_aload_n dX3_closeSecond_0 rfl rfl ?_
  refine Wrd_getr J.1 dX3_closeSecond_1 fX3_62 rfl ?_
  refine ww_aload_n dX3_closeSecond_4 rfl rfl ?_
  refine Xr_geti J dX3_closeSecond_5 fX3_43 rfl rfl ?_
  refine Xr_zald J dX3_closeSecond_8 (kf := 13) rfl ho (by omega) rfl ?_
  refine ww_istore_n dX3_closeSecond_9 rfl rfl rfl ?_
  refine ww_aload_n dX3_closeSecond_10 rfl rfl ?_
  refine Wrd_geto J.1 dX3_closeSecond_11 fX3_12 rfl rfl J.2.2.2.1 ?_
  refine Wta_call0 J.2.1 dX3_closeSecond_14 kX3_97 rfl rfl (x3_take (X := X) J hp) rfl rfl rfl rfl rfl rfl (Nat.zero_le _) (Nat.zero_le _) ?_
  refine ww_aload_n dX3_closeSecond_17 rfl rfl ?_
  refine ww_iload_n dX3_closeSecond_18 rfl rfl ?_
  refine Xr_puti J dX3_closeSecond_19 fX3_43 rfl rfl ?_
  refine ww_aload_n dX3_closeSecond_22 rfl rfl ?_
  refine Wrd_getr J.1 dX3_closeSecond_23 fX3_46 rfl ?_
  refine ww_iload_n dX3_closeSecond_26 rfl rfl ?_
  refine Xr_iald J dX3_closeSecond_27 (kf := 8) rfl hx he rfl ?_
  refine ww_iconst (v := 5) dX3_closeSecond_28 (by decide) ?_
  refine ww_icmp_ne (tgt := 57) dX3_closeSecond_29 (by decide) (fun c29 => ?_) (fun c29 => ?_)
  · exact absurd c29 (fun q => q hw)
  · refine ww_aload_n dX3_closeSecond_32 rfl rfl ?_
    refine ww_aload_n dX3_closeSecond_33 rfl rfl ?_
    refine Wrd_getr J.1 dX3_closeSecond_34 fX3_59 rfl ?_
    refine ww_iload_n dX3_closeSecond_37 rfl rfl ?_
    refine Xr_zald J dX3_closeSecond_38 (kf := 12) rfl hx he rfl ?_
    refine ww_if_eq (tgt := 50) dX3_closeSecond_39 (by decide) (fun c39 => ?_) (fun c39 => ?_)
    · exact absurd c39 h1d
    · refine ww_iload_n dX3_closeSecond_42 rfl rfl ?_
      refine ww_if_eq (tgt := 50) dX3_closeSecond_43 (by decide) (fun c43 => ?_) (fun c43 => ?_)
      · exact absurd c43 h2d
      · refine ww_iconst (v := 1) dX3_closeSecond_46 (by decide) ?_
        refine ww_goto (tgt := 51) dX3_closeSecond_47 (by decide) ?_
        refine Wrd_call0 J.1 dX3_closeSecond_51 kX3_137 rfl rfl (c3_hold1 (X := opeX x (tkX (R t 0) L X)) (o := e) J hx (by omega)) rfl rfl rfl rfl rfl rfl (Nat.zero_le _) (Nat.zero_le _) ?_
        refine ww_goto (tgt := 111) dX3_closeSecond_54 (by decide) ?_
        refine ww_aload_n dX3_closeSecond_111 rfl rfl ?_
        refine Wrd_geto J.1 dX3_closeSecond_112 fX3_28 rfl rfl J.2.2.2.2.1 ?_
        refine ww_aload_n dX3_closeSecond_115 rfl rfl ?_
        refine Wrd_getr J.1 dX3_closeSecond_116 fX3_52 rfl ?_
        refine ww_iload_n dX3_closeSecond_119 rfl rfl ?_
        refine Xr_iald J dX3_closeSecond_120 (kf := 10) rfl hx he rfl ?_
        refine ww_aload_n dX3_closeSecond_121 rfl rfl ?_
        refine Wrd_geto J.1 dX3_closeSecond_122 fX3_28 rfl rfl J.2.2.2.2.1 ?_
        refine Xd_geti J dX3_closeSecond_125 fX3_117 rfl rfl ?_
        refine Wbb_call0 J.2.2.1 dX3_closeSecond_128 kX3_164 rfl rfl (x3_aim (X := (hdX e (opeX x (tkX (R t 0) L X)))) (l := l) (h := j) J hl (by omega) hj hjl) rfl rfl rfl rfl rfl rfl (Nat.zero_le _) (Nat.zero_le _) ?_
        exact ww_vret dX3_closeSecond_131 rfl ⟨rfl, by rw [hx]; exact congrArg (fun z => ((hX Λ r t d F O R h0 L (amX j z _), sz) : wH)) hl⟩ (Nat.zero_le _) (Nat.zero_le _)
set_option maxHeartbeats 4000000 in
theorem c3_second400 (J : hJ Λ r t d F O R L mr mt md) {x : Int32} {e l h : Nat} (hp : X.1 ≤ L) (hx : x = nI e) (he : e < 4) (ho : X.2.1 7 = nI (e + 1)) (hl : X.2.2.1 3 = nI l) (hl2 : l < 121) (hh : X.2.2.2.1 9 e = nI h) (hhl : h < l) {j : Nat} (hj : X.2.2.2.1 10 e = nI j) (hjl : j < l) (hw : X.2.2.2.1 8 e = 4) (h1d : X.2.2.2.1 12 e = 0) (h2d : X.2.2.2.1 13 (e + 1) = 0) : Sat G mX3_closeSecond [.ref mr, .int x] (hX Λ r t d F O R h0 L X, sz) (Det none (hX Λ r t d F O R h0 L (amX j (nI (l + 1)) (adX 5 (X.2.2.2.2 5 h) 0 (nI (l + 1)) (opeX (nI e) (tkX (R t 0) L X)))), sz)) := by
  refine Sat.of (by decide) [some (.ref mr), some (.int x), none] rfl rfl (fun Y => ?_)
  have h1 : ad (R t 0) L X.1 ≤ L := (ad_le hp).2
  have hlN : lnN X = l := by rw [lnN, hl, nI_clamp (by omega)]
  refine ww_aload_n dX3_closeSecond_0 rfl rfl ?_
  refine Wrd_getr J.1 dX3_closeSecond_1 fX3_62 rfl ?_
  refine ww_aload_n dX3_closeSecond_4 rfl rfl ?_
  refine Xr_geti J dX3_closeSecond_5 fX3_43 rfl rfl ?_
  refine Xr_zald J dX3_closeSecond_8 (kf := 13) rfl ho (by omega) rfl ?_
  refine ww_istore_n dX3_closeSecond_9 rfl rfl rfl ?_
  refine ww_aload_n dX3_closeSecond_10 rfl rfl ?_
  refine Wrd_geto J.1 dX3_closeSecond_11 fX3_12 rfl rfl J.2.2.2.1 ?_
  refine Wta_call0 J.2.1 dX3_closeSecond_14 kX3_97 rfl rfl (x3_take (X := X) J hp) rfl rfl rfl rfl rfl rfl (Nat.zero_le _) (Nat.zero_le _) ?_
  refine ww_aload_n dX3_closeSecond_17 rfl rfl ?_
  refine ww_iload_n dX3_closeSecond_18 rfl rfl ?_
  refine Xr_puti J dX3_closeSecond_19 fX3_43 rfl rfl ?_
  refine ww_aload_n dX3_closeSecond_22 rfl rfl ?_
  refine Wrd_getr J.1 dX3_closeSecond_23 fX3_46 rfl ?_
  refine ww_iload_n dX3_closeSecond_26 rfl rfl ?_
  refine Xr_iald J dX3_closeSecond_27 (kf := 8) rfl hx he rfl ?_
  refine ww_iconst (v := 5) dX3_closeSecond_28 (by decide) ?_
  refine ww_icmp_ne (tgt := 57) dX3_closeSecond_29 (by decide) (fun c29 => ?_) (fun c29 => ?_)
  · refine ww_aload_n dX3_closeSecond_57 rfl rfl ?_
    refine Wrd_geto J.1 dX3_closeSecond_58 fX3_28 rfl rfl J.2.2.2.2.1 ?_
    refine ww_iconst (v := 5) dX3_closeSecond_61 (by decide) ?_
    refine ww_aload_n dX3_closeSecond_62 rfl rfl ?_
    refine Wrd_geto J.1 dX3_closeSecond_63 fX3_28 rfl rfl J.2.2.2.2.1 ?_
    refine ww_aload_n dX3_closeSecond_66 rfl rfl ?_
    refine Wrd_getr J.1 dX3_closeSecond_67 fX3_49 rfl ?_
    refine ww_iload_n dX3_closeSecond_70 rfl rfl ?_
    refine Xr_iald J dX3_closeSecond_71 (kf := 9) rfl hx he rfl ?_
    refine Wbb_call1 J.2.2.1 dX3_closeSecond_72 kX3_167 rfl rfl (x3_sub (X := (opeX x (tkX (R t 0) L X))) J hl (by omega) hh hhl) rfl rfl rfl rfl rfl rfl (Nat.zero_le _) (Nat.zero_le _) ?_
    refine ww_iconst (v := 0) dX3_closeSecond_75 (by decide) ?_
    refine ww_aload_n dX3_closeSecond_76 rfl rfl ?_
    refine Wrd_geto J.1 dX3_closeSecond_77 fX3_28 rfl rfl J.2.2.2.2.1 ?_
    refine Xd_geti J dX3_closeSecond_80 fX3_117 rfl rfl ?_
    refine ww_iconst (v := 1) dX3_closeSecond_83 (by decide) ?_
    refine ww_iadd dX3_closeSecond_84 ?_
    refine Wbb_call1 J.2.2.1 dX3_closeSecond_85 kX3_74 rfl rfl (x3_add (X := (opeX x (tkX (R t 0) L X))) (tg := (opeX x (tkX (R t 0) L X)).2.2.1 3 + 1) J hl hl2) rfl rfl rfl rfl rfl rfl (Nat.zero_le _) (Nat.zero_le _) ?_
    refine ww_pop dX3_closeSecond_88 rfl ?_
    refine ww_aload_n dX3_closeSecond_89 rfl rfl ?_
    refine ww_aload_n dX3_closeSecond_90 rfl rfl ?_
    refine Wrd_getr J.1 dX3_closeSecond_91 fX3_59 rfl ?_
    refine ww_iload_n dX3_closeSecond_94 rfl rfl ?_
    refine Xr_zald J dX3_closeSecond_95 (kf := 12) rfl hx he rfl ?_
    refine ww_if_ne (tgt := 103) dX3_closeSecond_96 (by decide) (fun c96 => ?_) (fun c96 => ?_)
    · exact absurd c96 (fun q => q h1d)
    · refine ww_iload_n dX3_closeSecond_99 rfl rfl ?_
      refine ww_if_eq (tgt := 107) dX3_closeSecond_100 (by decide) (fun c100 => ?_) (fun c100 => ?_)
      · refine ww_iconst (v := 0) dX3_closeSecond_107 (by decide) ?_
        refine Wrd_call0 J.1 dX3_closeSecond_108 kX3_137 rfl rfl (c3_hold0 (X := (adX 5 (X.2.2.2.2 5 h) 0 ((opeX x (tkX (R t 0) L X)).2.2.1 3 + 1) (opeX x (tkX (R t 0) L X)))) J) rfl rfl rfl rfl rfl rfl (Nat.zero_le _) (Nat.zero_le _) ?_
        refine ww_aload_n dX3_closeSecond_111 rfl rfl ?_
        refine Wrd_geto J.1 dX3_closeSecond_112 fX3_28 rfl rfl J.2.2.2.2.1 ?_
        refine ww_aload_n dX3_closeSecond_115 rfl rfl ?_
        refine Wrd_getr J.1 dX3_closeSecond_116 fX3_52 rfl ?_
        refine ww_iload_n dX3_closeSecond_119 rfl rfl ?_
        refine Xr_iald J dX3_closeSecond_120 (kf := 10) rfl hx he rfl ?_
        refine ww_aload_n dX3_closeSecond_121 rfl rfl ?_
        refine Wrd_geto J.1 dX3_closeSecond_122 fX3_28 rfl rfl J.2.2.2.2.1 ?_
        refine Xd_geti J dX3_closeSecond_125 fX3_117 rfl rfl ?_
        refine Wbb_call0 J.2.2.1 dX3_closeSecond_128 kX3_164 rfl rfl (x3_aim (X := (adX 5 (X.2.2.2.2 5 h) 0 ((opeX x (tkX (R t 0) L X)).2.2.1 3 + 1) (opeX x (tkX (R t 0) L X)))) (l := l + 1) (h := j) J (show upd (opeX x (tkX (R t 0) L X)).2.2.1 3 (nI (lnN (opeX x (tkX (R t 0) L X)) + 1)) 3 = nI (l + 1) by rw [show lnN (opeX x (tkX (R t 0) L X)) = l from hlN]; rfl) (by omega) hj (by omega)) rfl rfl rfl rfl rfl rfl (Nat.zero_le _) (Nat.zero_le _) ?_
        exact ww_vret dX3_closeSecond_131 rfl ⟨rfl, by rw [show (adX 5 (X.2.2.2.2 5 h) 0 ((opeX x (tkX (R t 0) L X)).2.2.1 3 + 1) (opeX x (tkX (R t 0) L X))).2.2.1 3 = nI (l + 1) from (show upd (opeX x (tkX (R t 0) L X)).2.2.1 3 (nI (lnN (opeX x (tkX (R t 0) L X)) + 1)) 3 = nI (l + 1) by rw [show lnN (opeX x (tkX (R t 0) L X)) = l from hlN]; rfl), show (opeX x (tkX (R t 0) L X)).2.2.1 3 + 1 = nI (l + 1) by show X.2.2.1 3 + 1 = _; rw [hl, nI_1], hx]⟩ (Nat.zero_le _) (Nat.zero_le _)
      · exact absurd c100 (fun q => q h2d)
  · exact absurd c29 (fun q => absurd (hw.symm.trans q) (by decide))
set_option maxHeartbeats 4000000 in
theorem c3_second401 (J : hJ Λ r t d F O R L mr mt md) {x : Int32} {e l h : Nat} (hp : X.1 ≤ L) (hx : x = nI e) (he : e < 4) (ho : X.2.1 7 = nI (e + 1)) (hl : X.2.2.1 3 = nI l) (hl2 : l < 121) (hh : X.2.2.2.1 9 e = nI h) (hhl : h < l) {j : Nat} (hj : X.2.2.2.1 10 e = nI j) (hjl : j < l) (hw : X.2.2.2.1 8 e = 4) (h1d : X.2.2.2.1 12 e = 0) (h2d : ¬ X.2.2.2.1 13 (e + 1) = 0) : Sat G mX3_closeSecond [.ref mr, .int x] (hX Λ r t d F O R h0 L X, sz) (Det none (hX Λ r t d F O R h0 L (amX j (nI (l + 1)) (hdX e (adX 5 (X.2.2.2.2 5 h) 0 (nI (l + 1)) (opeX (nI e) (tkX (R t 0) L X))))), sz)) := by
  refine Sat.of (by decide) [some (.ref mr), some (.int x), none] rfl rfl (fun Y => ?_)
  have h1 : ad (R t 0) L X.1 ≤ L := (ad_le hp).2
  have hlN : lnN X = l := by rw [lnN, hl, nI_clamp (by omega)]
  refine ww_aload_n dX3_closeSecond_0 rfl rfl ?_
  refine Wrd_getr J.1 dX3_closeSecond_1 fX3_62 rfl ?_
  refine ww_aload_n dX3_closeSecond_4 rfl rfl ?_
  refine Xr_geti J dX3_closeSecond_5 fX3_43 rfl rfl ?_
  refine Xr_zald J dX3_closeSecond_8 (kf := 13) rfl ho (by omega) rfl ?_
  refine ww_istore_n dX3_closeSecond_9 rfl rfl rfl ?_
  refine ww_aload_n dX3_closeSecond_10 rfl rfl ?_
  refine Wrd_geto J.1 dX3_closeSecond_11 fX3_12 rfl rfl J.2.2.2.1 ?_
  refine Wta_call0 J.2.1 dX3_closeSecond_14 kX3_97 rfl rfl (x3_take (X := X) J hp) rfl rfl rfl rfl rfl rfl (Nat.zero_le _) (Nat.zero_le _) ?_
  refine ww_aload_n dX3_closeSecond_17 rfl rfl ?_
  refine ww_iload_n dX3_closeSecond_18 rfl rfl ?_
  refine Xr_puti J dX3_closeSecond_19 fX3_43 rfl rfl ?_
  refine ww_aload_n dX3_closeSecond_22 rfl rfl ?_
  refine Wrd_getr J.1 dX3_closeSecond_23 fX3_46 rfl ?_
  refine ww_iload_n dX3_closeSecond_26 rfl rfl ?_
  refine Xr_iald J dX3_closeSecond_27 (kf := 8) rfl hx he rfl ?_
  refine ww_iconst (v := 5) dX3_closeSecond_28 (by decide) ?_
  refine ww_icmp_ne (tgt := 57) dX3_closeSecond_29 (by decide) (fun c29 => ?_) (fun c29 => ?_)
  · refine ww_aload_n dX3_closeSecond_57 rfl rfl ?_
    refine Wrd_geto J.1 dX3_closeSecond_58 fX3_28 rfl rfl J.2.2.2.2.1 ?_
    refine ww_iconst (v := 5) dX3_closeSecond_61 (by decide) ?_
    refine ww_aload_n dX3_closeSecond_62 rfl rfl ?_
    refine Wrd_geto J.1 dX3_closeSecond_63 fX3_28 rfl rfl J.2.2.2.2.1 ?_
    refine ww_aload_n dX3_closeSecond_66 rfl rfl ?_
    refine Wrd_getr J.1 dX3_closeSecond_67 fX3_49 rfl ?_
    refine ww_iload_n dX3_closeSecond_70 rfl rfl ?_
    refine Xr_iald J dX3_closeSecond_71 (kf := 9) rfl hx he rfl ?_
    refine Wbb_call1 J.2.2.1 dX3_closeSecond_72 kX3_167 rfl rfl (x3_sub (X := (opeX x (tkX (R t 0) L X))) J hl (by omega) hh hhl) rfl rfl rfl rfl rfl rfl (Nat.zero_le _) (Nat.zero_le _) ?_
    refine ww_iconst (v := 0) dX3_closeSecond_75 (by decide) ?_
    refine ww_aload_n dX3_closeSecond_76 rfl rfl ?_
    refine Wrd_geto J.1 dX3_closeSecond_77 fX3_28 rfl rfl J.2.2.2.2.1 ?_
    refine Xd_geti J dX3_closeSecond_80 fX3_117 rfl rfl ?_
    refine ww_iconst (v := 1) dX3_closeSecond_83 (by decide) ?_
    refine ww_iadd dX3_closeSecond_84 ?_
    refine Wbb_call1 J.2.2.1 dX3_closeSecond_85 kX3_74 rfl rfl (x3_add (X := (opeX x (tkX (R t 0) L X))) (tg := (opeX x (tkX (R t 0) L X)).2.2.1 3 + 1) J hl hl2) rfl rfl rfl rfl rfl rfl (Nat.zero_le _) (Nat.zero_le _) ?_
    refine ww_pop dX3_closeSecond_88 rfl ?_
    refine ww_aload_n dX3_closeSecond_89 rfl rfl ?_
    refine ww_aload_n dX3_closeSecond_90 rfl rfl ?_
    refine Wrd_getr J.1 dX3_closeSecond_91 fX3_59 rfl ?_
    refine ww_iload_n dX3_closeSecond_94 rfl rfl ?_
    refine Xr_zald J dX3_closeSecond_95 (kf := 12) rfl hx he rfl ?_
    refine ww_if_ne (tgt := 103) dX3_closeSecond_96 (by decide) (fun c96 => ?_) (fun c96 => ?_)
    · exact absurd c96 (fun q => q h1d)
    · refine ww_iload_n dX3_closeSecond_99 rfl rfl ?_
      refine ww_if_eq (tgt := 107) dX3_closeSecond_100 (by decide) (fun c100 => ?_) (fun c100 => ?_)
      · exact absurd c100 h2d
      · refine ww_iconst (v := 1) dX3_closeSecond_103 (by decide) ?_
        refine ww_goto (tgt := 108) dX3_closeSecond_104 (by decide) ?_
        refine Wrd_call0 J.1 dX3_closeSecond_108 kX3_137 rfl rfl (c3_hold1 (X := (adX 5 (X.2.2.2.2 5 h) 0 ((opeX x (tkX (R t 0) L X)).2.2.1 3 + 1) (opeX x (tkX (R t 0) L X)))) (o := e) J hx (by omega)) rfl rfl rfl rfl rfl rfl (Nat.zero_le _) (Nat.zero_le _) ?_
        refine ww_aload_n dX3_closeSecond_111 rfl rfl ?_
        refine Wrd_geto J.1 dX3_closeSecond_112 fX3_28 rfl rfl J.2.2.2.2.1 ?_
        refine ww_aload_n dX3_closeSecond_115 rfl rfl ?_
        refine Wrd_getr J.1 dX3_closeSecond_116 fX3_52 rfl ?_
        refine ww_iload_n dX3_closeSecond_119 rfl rfl ?_
        refine Xr_iald J dX3_closeSecond_120 (kf := 10) rfl hx he rfl ?_
        refine ww_aload_n dX3_closeSecond_121 rfl rfl ?_
        refine Wrd_geto J.1 dX3_closeSecond_122 fX3_28 rfl rfl J.2.2.2.2.1 ?_
        refine Xd_geti J dX3_closeSecond_125 fX3_117 rfl rfl ?_
        refine Wbb_call0 J.2.2.1 dX3_closeSecond_128 kX3_164 rfl rfl (x3_aim (X := (hdX e (adX 5 (X.2.2.2.2 5 h) 0 ((opeX x (tkX (R t 0) L X)).2.2.1 3 + 1) (opeX x (tkX (R t 0) L X))))) (l := l + 1) (h := j) J (show upd (opeX x (tkX (R t 0) L X)).2.2.1 3 (nI (lnN (opeX x (tkX (R t 0) L X)) + 1)) 3 = nI (l + 1) by rw [show lnN (opeX x (tkX (R t 0) L X)) = l from hlN]; rfl) (by omega) hj (by omega)) rfl rfl rfl rfl rfl rfl (Nat.zero_le _) (Nat.zero_le _) ?_
        exact ww_vret dX3_closeSecond_131 rfl ⟨rfl, by rw [show (hdX e (adX 5 (X.2.2.2.2 5 h) 0 ((opeX x (tkX (R t 0) L X)).2.2.1 3 + 1) (opeX x (tkX (R t 0) L X)))).2.2.1 3 = nI (l + 1) from (show upd (opeX x (tkX (R t 0) L X)).2.2.1 3 (nI (lnN (opeX x (tkX (R t 0) L X)) + 1)) 3 = nI (l + 1) by rw [show lnN (opeX x (tkX (R t 0) L X)) = l from hlN]; rfl), show (opeX x (tkX (R t 0) L X)).2.2.1 3 + 1 = nI (l + 1) by show X.2.2.1 3 + 1 = _; rw [hl, nI_1], hx]⟩ (Nat.zero_le _) (Nat.zero_le _)
  · exact absurd c29 (fun q => absurd (hw.symm.trans q) (by decide))
set_option maxHeartbeats 4000000 in
theorem c3_second412 (J : hJ Λ r t d F O R L mr mt md) {x : Int32} {e l h : Nat} (hp : X.1 ≤ L) (hx : x = nI e) (he : e < 4) (ho : X.2.1 7 = nI (e + 1)) (hl : X.2.2.1 3 = nI l) (hl2 : l < 121) (hh : X.2.2.2.1 9 e = nI h) (hhl : h < l) {j : Nat} (hj : X.2.2.2.1 10 e = nI j) (hjl : j < l) (hw : X.2.2.2.1 8 e = 4) (h1d : ¬ X.2.2.2.1 12 e = 0)  : Sat G mX3_closeSecond [.ref mr, .int x] (hX Λ r t d F O R h0 L X, sz) (Det none (hX Λ r t d F O R h0 L (amX j (nI (l + 1)) (hdX e (adX 5 (X.2.2.2.2 5 h) 0 (nI (l + 1)) (opeX (nI e) (tkX (R t 0) L X))))), sz)) := by
  refine Sat.of (by decide) [some (.ref mr), some (.int x), none] rfl rfl (fun Y => ?_)
  have h1 : ad (R t 0) L X.1 ≤ L := (ad_le hp).2
  have hlN : lnN X = l := by rw [lnN, hl, nI_clamp (by omega)]
  refine ww_aload_n dX3_closeSecond_0 rfl rfl ?_
  refine Wrd_getr J.1 dX3_closeSecond_1 fX3_62 rfl ?_
  refine ww_aload_n dX3_closeSecond_4 rfl rfl ?_
  refine Xr_geti J dX3_closeSecond_5 fX3_43 rfl rfl ?_
  refine Xr_zald J dX3_closeSecond_8 (kf := 13) rfl ho (by omega) rfl ?_
  refine ww_istore_n dX3_closeSecond_9 rfl rfl rfl ?_
  refine ww_aload_n dX3_closeSecond_10 rfl rfl ?_
  refine Wrd_geto J.1 dX3_closeSecond_11 fX3_12 rfl rfl J.2.2.2.1 ?_
  refine Wta_call0 J.2.1 dX3_closeSecond_14 kX3_97 rfl rfl (x3_take (X := X) J hp) rfl rfl rfl rfl rfl rfl (Nat.zero_le _) (Nat.zero_le _) ?_
  refine ww_aload_n dX3_closeSecond_17 rfl rfl ?_
  refine ww_iload_n dX3_closeSecond_18 rfl rfl ?_
  refine Xr_puti J dX3_closeSecond_19 fX3_43 rfl rfl ?_
  refine ww_aload_n dX3_closeSecond_22 rfl rfl ?_
  refine Wrd_getr J.1 dX3_closeSecond_23 fX3_46 rfl ?_
  refine ww_iload_n dX3_closeSecond_26 rfl rfl ?_
  refine Xr_iald J dX3_closeSecond_27 (kf := 8) rfl hx he rfl ?_
  refine ww_iconst (v := 5) dX3_closeSecond_28 (by decide) ?_
  refine ww_icmp_ne (tgt := 57) dX3_closeSecond_29 (by decide) (fun c29 => ?_) (fun c29 => ?_)
  · refine ww_aload_n dX3_closeSecond_57 rfl rfl ?_
    refine Wrd_geto J.1 dX3_closeSecond_58 fX3_28 rfl rfl J.2.2.2.2.1 ?_
    refine ww_iconst (v := 5) dX3_closeSecond_61 (by decide) ?_
    refine ww_aload_n dX3_closeSecond_62 rfl rfl ?_
    refine Wrd_geto J.1 dX3_closeSecond_63 fX3_28 rfl rfl J.2.2.2.2.1 ?_
    refine ww_aload_n dX3_closeSecond_66 rfl rfl ?_
    refine Wrd_getr J.1 dX3_closeSecond_67 fX3_49 rfl ?_
    refine ww_iload_n dX3_closeSecond_70 rfl rfl ?_
    refine Xr_iald J dX3_closeSecond_71 (kf := 9) rfl hx he rfl ?_
    refine Wbb_call1 J.2.2.1 dX3_closeSecond_72 kX3_167 rfl rfl (x3_sub (X := (opeX x (tkX (R t 0) L X))) J hl (by omega) hh hhl) rfl rfl rfl rfl rfl rfl (Nat.zero_le _) (Nat.zero_le _) ?_
    refine ww_iconst (v := 0) dX3_closeSecond_75 (by decide) ?_
    refine ww_aload_n dX3_closeSecond_76 rfl rfl ?_
    refine Wrd_geto J.1 dX3_closeSecond_77 fX3_28 rfl rfl J.2.2.2.2.1 ?_
    refine Xd_geti J dX3_closeSecond_80 fX3_117 rfl rfl ?_
    refine ww_iconst (v := 1) dX3_closeSecond_83 (by decide) ?_
    refine ww_iadd dX3_closeSecond_84 ?_
    refine Wbb_call1 J.2.2.1 dX3_closeSecond_85 kX3_74 rfl rfl (x3_add (X := (opeX x (tkX (R t 0) L X))) (tg := (opeX x (tkX (R t 0) L X)).2.2.1 3 + 1) J hl hl2) rfl rfl rfl rfl rfl rfl (Nat.zero_le _) (Nat.zero_le _) ?_
    refine ww_pop dX3_closeSecond_88 rfl ?_
    refine ww_aload_n dX3_closeSecond_89 rfl rfl ?_
    refine ww_aload_n dX3_closeSecond_90 rfl rfl ?_
    refine Wrd_getr J.1 dX3_closeSecond_91 fX3_59 rfl ?_
    refine ww_iload_n dX3_closeSecond_94 rfl rfl ?_
    refine Xr_zald J dX3_closeSecond_95 (kf := 12) rfl hx he rfl ?_
    refine ww_if_ne (tgt := 103) dX3_closeSecond_96 (by decide) (fun c96 => ?_) (fun c96 => ?_)
    · refine ww_iconst (v := 1) dX3_closeSecond_103 (by decide) ?_
      refine ww_goto (tgt := 108) dX3_closeSecond_104 (by decide) ?_
      refine Wrd_call0 J.1 dX3_closeSecond_108 kX3_137 rfl rfl (c3_hold1 (X := (adX 5 (X.2.2.2.2 5 h) 0 ((opeX x (tkX (R t 0) L X)).2.2.1 3 + 1) (opeX x (tkX (R t 0) L X)))) (o := e) J hx (by omega)) rfl rfl rfl rfl rfl rfl (Nat.zero_le _) (Nat.zero_le _) ?_
      refine ww_aload_n dX3_closeSecond_111 rfl rfl ?_
      refine Wrd_geto J.1 dX3_closeSecond_112 fX3_28 rfl rfl J.2.2.2.2.1 ?_
      refine ww_aload_n dX3_closeSecond_115 rfl rfl ?_
      refine Wrd_getr J.1 dX3_closeSecond_116 fX3_52 rfl ?_
      refine ww_iload_n dX3_closeSecond_119 rfl rfl ?_
      refine Xr_iald J dX3_closeSecond_120 (kf := 10) rfl hx he rfl ?_
      refine ww_aload_n dX3_closeSecond_121 rfl rfl ?_
      refine Wrd_geto J.1 dX3_closeSecond_122 fX3_28 rfl rfl J.2.2.2.2.1 ?_
      refine Xd_geti J dX3_closeSecond_125 fX3_117 rfl rfl ?_
      refine Wbb_call0 J.2.2.1 dX3_closeSecond_128 kX3_164 rfl rfl (x3_aim (X := (hdX e (adX 5 (X.2.2.2.2 5 h) 0 ((opeX x (tkX (R t 0) L X)).2.2.1 3 + 1) (opeX x (tkX (R t 0) L X))))) (l := l + 1) (h := j) J (show upd (opeX x (tkX (R t 0) L X)).2.2.1 3 (nI (lnN (opeX x (tkX (R t 0) L X)) + 1)) 3 = nI (l + 1) by rw [show lnN (opeX x (tkX (R t 0) L X)) = l from hlN]; rfl) (by omega) hj (by omega)) rfl rfl rfl rfl rfl rfl (Nat.zero_le _) (Nat.zero_le _) ?_
      exact ww_vret dX3_closeSecond_131 rfl ⟨rfl, by rw [show (hdX e (adX 5 (X.2.2.2.2 5 h) 0 ((opeX x (tkX (R t 0) L X)).2.2.1 3 + 1) (opeX x (tkX (R t 0) L X)))).2.2.1 3 = nI (l + 1) from (show upd (opeX x (tkX (R t 0) L X)).2.2.1 3 (nI (lnN (opeX x (tkX (R t 0) L X)) + 1)) 3 = nI (l + 1) by rw [show lnN (opeX x (tkX (R t 0) L X)) = l from hlN]; rfl), show (opeX x (tkX (R t 0) L X)).2.2.1 3 + 1 = nI (l + 1) by show X.2.2.1 3 + 1 = _; rw [hl, nI_1], hx]⟩ (Nat.zero_le _) (Nat.zero_le _)
    · exact absurd c96 h1d
  · exact absurd c29 (fun q => absurd (hw.symm.trans q) (by decide))
end X3E
