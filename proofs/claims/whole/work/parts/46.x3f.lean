section X3F
variable {G : wG} {Λ : wL} {r t d mr mt md L : Nat} {F : Nat → Nat → Int32} {O : Nat → Nat → Option Nat} {R : Nat → Nat → Nat → Int32} {h0 : Nat → Option wE} {sz : Nat} {X : cX}
set_option maxHeartbeats 4000000 in
theorem c3_closeA (J : hJ Λ r t d F O R L mr mt md) {e : Nat} {h2 : wH} (he : e < 4) (ho : X.2.1 7 = nI (e + 1)) (hw : X.2.2.2.1 8 e = 7) (hs : ∀ x, x = nI e → Sat G mX3_closeAgain [.ref mr, .int x] (hX Λ r t d F O R h0 L X, sz) (Det none h2)) : Sat G mX3_closeSteps [.ref mr] (hX Λ r t d F O R h0 L X, sz) (Det none h2) := by
  refine Sat.of (by decide) [some (.ref mr), none] rfl rfl (fun Y => ?_)
  have ix : X.2.1 7 - 1 = nI e := by rw [ho, nI_p1]
  refine ww_aload_n dX3_closeSteps_0 rfl rfl ?_
  refine Xr_geti J dX3_closeSteps_1 fX3_43 rfl rfl ?_
  refine ww_iconst (v := 1) dX3_closeSteps_4 (by decide) ?_
  refine ww_isub dX3_closeSteps_5 ?_
  refine ww_istore_n dX3_closeSteps_6 rfl rfl rfl ?_
  refine ww_iload_n dX3_closeSteps_7 rfl rfl ?_
  refine ww_if_lt (tgt := 16) dX3_closeSteps_8 (by decide) (fun c8 => ?_) (fun c8 => ?_)
  · exact absurd c8 (by rw [ix]; exact nI_pos (by omega))
  · refine ww_iload_n dX3_closeSteps_11 rfl rfl ?_
    refine ww_iconst (v := 4) dX3_closeSteps_12 (by decide) ?_
    refine ww_icmp_lt (tgt := 17) dX3_closeSteps_13 (by decide) (fun c13 => ?_) (fun c13 => ?_)
    · refine ww_aload_n dX3_closeSteps_17 rfl rfl ?_
      refine Wrd_getr J.1 dX3_closeSteps_18 fX3_46 rfl ?_
      refine ww_iload_n dX3_closeSteps_21 rfl rfl ?_
      refine Xr_iald J dX3_closeSteps_22 (kf := 8) rfl ix he rfl ?_
      refine ww_bipush (v := 7) dX3_closeSteps_23 (by decide) ?_
      refine ww_icmp_ne (tgt := 36) dX3_closeSteps_25 (by decide) (fun c25 => ?_) (fun c25 => ?_)
      · exact absurd c25 (fun q => q hw)
      · refine ww_aload_n dX3_closeSteps_28 rfl rfl ?_
        refine ww_iload_n dX3_closeSteps_29 rfl rfl ?_
        refine Wrd_call0 J.1 dX3_closeSteps_30 kX3_155 rfl rfl (hs _ ix) rfl rfl rfl rfl rfl rfl (Nat.zero_le _) (Nat.zero_le _) ?_
        refine ww_goto (tgt := 58) dX3_closeSteps_33 (by decide) ?_
        exact ww_vret dX3_closeSteps_58 rfl ⟨rfl, rfl⟩ (Nat.zero_le _) (Nat.zero_le _)
    · exact absurd c13 (fun q => q (by rw [ix]; exact nI_lt (b := 4) he (by decide)))
set_option maxHeartbeats 4000000 in
theorem c3_closeS (J : hJ Λ r t d F O R L mr mt md) {e : Nat} {h2 : wH} (he : e < 4) (ho : X.2.1 7 = nI (e + 1)) (hw : ¬ X.2.2.2.1 8 e = 7) (hi : ¬ X.2.2.2.1 11 e = 0) (hs : ∀ x, x = nI e → Sat G mX3_closeSecond [.ref mr, .int x] (hX Λ r t d F O R h0 L X, sz) (Det none h2)) : Sat G mX3_closeSteps [.ref mr] (hX Λ r t d F O R h0 L X, sz) (Det none h2) := by
  refine Sat.of (by decide) [some (.ref mr), none] rfl rfl (fun Y => ?_)
  have ix : X.2.1 7 - 1 = nI e := by rw [ho, nI_p1]
  refine ww_aload_n dX3_closeSteps_0 rfl rfl ?_
  refine Xr_geti J dX3_closeSteps_1 fX3_43 rfl rfl ?_
  refine ww_iconst (v := 1) dX3_closeSteps_4 (by decide) ?_
  refine ww_isub dX3_closeSteps_5 ?_
  refine ww_istore_n dX3_closeSteps_6 rfl rfl rfl ?_
  refine ww_iload_n dX3_closeSteps_7 rfl rfl ?_
  refine ww_if_lt (tgt := 16) dX3_closeSteps_8 (by decide) (fun c8 => ?_) (fun c8 => ?_)
  · exact absurd c8 (by rw [ix]; exact nI_pos (by omega))
  · refine ww_iload_n dX3_closeSteps_11 rfl rfl ?_
    refine ww_iconst (v := 4) dX3_closeSteps_12 (by decide) ?_
    refine ww_icmp_lt (tgt := 17) dX3_closeSteps_13 (by decide) (fun c13 => ?_) (fun c13 => ?_)
    · refine ww_aload_n dX3_closeSteps_17 rfl rfl ?_
      refine Wrd_getr J.1 dX3_closeSteps_18 fX3_46 rfl ?_
      refine ww_iload_n dX3_closeSteps_21 rfl rfl ?_
      refine Xr_iald J dX3_closeSteps_22 (kf := 8) rfl ix he rfl ?_
      refine ww_bipush (v := 7) dX3_closeSteps_23 (by decide) ?_
      refine ww_icmp_ne (tgt := 36) dX3_closeSteps_25 (by decide) (fun c25 => ?_) (fun c25 => ?_)
      · refine ww_aload_n dX3_closeSteps_36 rfl rfl ?_
        refine Wrd_getr J.1 dX3_closeSteps_37 fX3_55 rfl ?_
        refine ww_iload_n dX3_closeSteps_40 rfl rfl ?_
        refine Xr_zald J dX3_closeSteps_41 (kf := 11) rfl ix he rfl ?_
        refine ww_if_eq (tgt := 53) dX3_closeSteps_42 (by decide) (fun c42 => ?_) (fun c42 => ?_)
        · exact absurd c42 hi
        · refine ww_aload_n dX3_closeSteps_45 rfl rfl ?_
          refine ww_iload_n dX3_closeSteps_46 rfl rfl ?_
          refine Wrd_call0 J.1 dX3_closeSteps_47 kX3_158 rfl rfl (hs _ ix) rfl rfl rfl rfl rfl rfl (Nat.zero_le _) (Nat.zero_le _) ?_
          refine ww_goto (tgt := 58) dX3_closeSteps_50 (by decide) ?_
          exact ww_vret dX3_closeSteps_58 rfl ⟨rfl, rfl⟩ (Nat.zero_le _) (Nat.zero_le _)
      · exact absurd c25 hw
    · exact absurd c13 (fun q => q (by rw [ix]; exact nI_lt (b := 4) he (by decide)))
set_option maxHeartbeats 4000000 in
theorem c3_closeT (J : hJ Λ r t d F O R L mr mt md) {e : Nat} {h2 : wH} (he : e < 4) (ho : X.2.1 7 = nI (e + 1)) (hw : ¬ X.2.2.2.1 8 e = 7) (hi : X.2.2.2.1 11 e = 0) (hs : ∀ x, x = nI e → Sat G mX3_turnToSecond [.ref mr, .int x] (hX Λ r t d F O R h0 L X, sz) (Det none h2)) : Sat G mX3_closeSteps [.ref mr] (hX Λ r t d F O R h0 L X, sz) (Det none h2) := by
  refine Sat.of (by decide) [some (.ref mr), none] rfl rfl (fun Y => ?_)
  have ix : X.2.1 7 - 1 = nI e := by rw [ho, nI_p1]
  refine ww_aload_n dX3_closeSteps_0 rfl rfl ?_
  refine Xr_geti J dX3_closeSteps_1 fX3_43 rfl rfl ?_
  refine ww_iconst (v := 1) dX3_closeSteps_4 (by decide) ?_
  refine ww_isub dX3_closeSteps_5 ?_
  refine ww_istore_n dX3_closeSteps_6 rfl rfl rfl ?_
  refine ww_iload_n dX3_closeSteps_7 rfl rfl ?_
  refine ww_if_lt (tgt := 16) dX3_closeSteps_8 (by decide) (fun c8 => ?_) (fun c8 => ?_)
  · exact absurd c8 (by rw [ix]; exact nI_pos (by omega))
  · refine ww_iload_n dX3_closeSteps_11 rfl rfl ?_
    refine ww_iconst (v := 4) dX3_closeSteps_12 (by decide) ?_
    refine ww_icmp_lt (tgt := 17) dX3_closeSteps_13 (by decide) (fun c13 => ?_) (fun c13 => ?_)
    · refine ww_aload_n dX3_closeSteps_17 rfl rfl ?_
      refine Wrd_getr J.1 dX3_closeSteps_18 fX3_46 rfl ?_
      refine ww_iload_n dX3_closeSteps_21 rfl rfl ?_
      refine Xr_iald J dX3_closeSteps_22 (kf := 8) rfl ix he rfl ?_
      refine ww_bipush (v := 7) dX3_closeSteps_23 (by decide) ?_
      refine ww_icmp_ne (tgt := 36) dX3_closeSteps_25 (by decide) (fun c25 => ?_) (fun c25 => ?_)
      · refine ww_aload_n dX3_closeSteps_36 rfl rfl ?_
        refine Wrd_getr J.1 dX3_closeSteps_37 fX3_55 rfl ?_
        refine ww_iload_n dX3_closeSteps_40 rfl rfl ?_
        refine Xr_zald J dX3_closeSteps_41 (kf := 11) rfl ix he rfl ?_
        refine ww_if_eq (tgt := 53) dX3_closeSteps_42 (by decide) (fun c42 => ?_) (fun c42 => ?_)
        · refine ww_aload_n dX3_closeSteps_53 rfl rfl ?_
          refine ww_iload_n dX3_closeSteps_54 rfl rfl ?_
          refine Wrd_call0 J.1 dX3_closeSteps_55 kX3_161 rfl rfl (hs _ ix) rfl rfl rfl rfl rfl rfl (Nat.zero_le _) (Nat.zero_le _) ?_
          exact ww_vret dX3_closeSteps_58 rfl ⟨rfl, rfl⟩ (Nat.zero_le _) (Nat.zero_le _)
        · exact absurd c42 (fun q => q hi)
      · exact absurd c25 hw
    · exact absurd c13 (fun q => q (by rw [ix]; exact nI_lt (b := 4) he (by decide)))
def begX (X : cX) : cX := (0, upd (upd (upd (upd (upd X.2.1 1 0) 2 (-1)) 4 0) 5 0) 7 0, upd (upd (upd (upd X.2.2.1 0 0) 1 0) 2 0) 3 0, va_up X.2.2.2.1 13 (upd (X.2.2.2.1 13) 0 0), X.2.2.2.2)
theorem Xd_clear (J : hJ Λ r t d F O R L mr mt md) : Sat G mX0_clear [.ref md] (hX Λ r t d F O R h0 L X, sz) (Det none (hX Λ r t d F O R h0 L (X.1, X.2.1, upd (upd (upd (upd X.2.2.1 0 0) 1 0) 2 0) 3 0, X.2.2.2), sz)) :=
  Xd_lift (X := X) (h0 := h0) (sz := sz) (G := G) J c0_clear
theorem Xt_rewind (J : hJ Λ r t d F O R L mr mt md) : Sat G mX5_rewind [.ref mt] (hX Λ r t d F O R h0 L X, sz) (Det none (hX Λ r t d F O R h0 L (0, X.2), sz)) :=
  Xt_lF (X := X) (q := 0) J (c5_rewind (F := taF (R t 0) L X.1 (F t)) J.2.2.2.2.2.1 J.2.2.2.2.2.2.1 J.2.2.2.2.2.2.2)
set_option maxHeartbeats 4000000 in
theorem c3_begin (J : hJ Λ r t d F O R L mr mt md)  : Sat G mX3_begin [.ref mr] (hX Λ r t d F O R h0 L X, sz) (Det none (hX Λ r t d F O R h0 L (begX X), sz)) := by
  refine Sat.of (by decide) [some (.ref mr)] rfl rfl (fun Y => ?_)
  refine ww_aload_n dX3_begin_0 rfl rfl ?_
  refine ww_iconst (v := 0) dX3_begin_1 (by decide) ?_
  refine Xr_puti J dX3_begin_2 fX3_18 rfl rfl ?_
  refine ww_aload_n dX3_begin_5 rfl rfl ?_
  refine ww_iconst (v := -1) dX3_begin_6 (by decide) ?_
  refine Xr_puti J dX3_begin_7 fX3_22 rfl rfl ?_
  refine ww_aload_n dX3_begin_10 rfl rfl ?_
  refine ww_iconst (v := 0) dX3_begin_11 (by decide) ?_
  refine Xr_putz J dX3_begin_12 fX3_32 rfl rfl (Or.inl rfl) ?_
  refine ww_aload_n dX3_begin_15 rfl rfl ?_
  refine ww_iconst (v := 0) dX3_begin_16 (by decide) ?_
  refine Xr_puti J dX3_begin_17 fX3_36 rfl rfl ?_
  refine ww_aload_n dX3_begin_20 rfl rfl ?_
  refine ww_iconst (v := 0) dX3_begin_21 (by decide) ?_
  refine Xr_puti J dX3_begin_22 fX3_43 rfl rfl ?_
  refine ww_aload_n dX3_begin_25 rfl rfl ?_
  refine Wrd_getr J.1 dX3_begin_26 fX3_62 rfl ?_
  refine ww_iconst (v := 0) dX3_begin_29 (by decide) ?_
  refine ww_iconst (v := 0) dX3_begin_30 (by decide) ?_
  refine Xr_zast J dX3_begin_31 (kf := 13) rfl (show _ = nI 0 from rfl) (by decide) rfl ?_
  refine ww_aload_n dX3_begin_32 rfl rfl ?_
  refine Wrd_geto J.1 dX3_begin_33 fX3_28 rfl rfl J.2.2.2.2.1 ?_
  refine Wbb_call0 J.2.2.1 dX3_begin_36 kX3_81 rfl rfl (Xd_clear (X := (X.1, upd (upd (upd (upd (upd X.2.1 1 0) 2 (-1)) 4 0) 5 0) 7 0, X.2.2.1, va_up X.2.2.2.1 13 (upd (X.2.2.2.1 13) 0 0), X.2.2.2.2)) J) rfl rfl rfl rfl rfl rfl (Nat.zero_le _) (Nat.zero_le _) ?_
  refine ww_aload_n dX3_begin_39 rfl rfl ?_
  refine Wrd_geto J.1 dX3_begin_40 fX3_12 rfl rfl J.2.2.2.1 ?_
  refine Wta_call0 J.2.1 dX3_begin_43 kX3_84 rfl rfl (Xt_rewind (X := (X.1, upd (upd (upd (upd (upd X.2.1 1 0) 2 (-1)) 4 0) 5 0) 7 0, upd (upd (upd (upd X.2.2.1 0 0) 1 0) 2 0) 3 0, va_up X.2.2.2.1 13 (upd (X.2.2.2.1 13) 0 0), X.2.2.2.2)) J) rfl rfl rfl rfl rfl rfl (Nat.zero_le _) (Nat.zero_le _) ?_
  exact ww_vret dX3_begin_46 rfl ⟨rfl, rfl⟩ (Nat.zero_le _) (Nat.zero_le _)
end X3F
