section X8J
variable {G : wG} {Λ : wL} {r t d mr mt md L : Nat} {F : Nat → Nat → Int32} {O : Nat → Nat → Option Nat} {R : Nat → Nat → Nat → Int32} {h0 : Nat → Option wE} {sz : Nat} {nb : Nat}
theorem up_sw {α : Type} {f : Nat → α} {i j : Nat} {a b : α} (h : i ≠ j) : va_up (va_up f j b) i a = va_up (va_up f i a) j b := by
  funext q
  by_cases e : q = i
  · subst e; simp [va_up, h]
  · simp [va_up, e]
set_option maxHeartbeats 4000000 in
theorem c3_begin2 (J : hJ Λ r t d F O R L mr mt md) : Sat G mX3_begin [.ref mr] (wld Λ F O R h0, sz) (Det none (hX Λ r t d F O R h0 L (begX (0, F r, F d, R r, R d)), sz)) := by
  refine Sat.of (by decide) [some (.ref mr)] rfl rfl (fun X => ?_)
  refine ww_aload_n dX3_begin_0 rfl rfl ?_
  refine ww_iconst (v := 0) dX3_begin_1 (by decide) ?_
  refine Wrd_puti J.1 dX3_begin_2 fX3_18 rfl rfl ?_
  refine ww_aload_n dX3_begin_5 rfl rfl ?_
  refine ww_iconst (v := -1) dX3_begin_6 (by decide) ?_
  refine Wrd_puti J.1 dX3_begin_7 fX3_22 rfl rfl ?_
  refine ww_aload_n dX3_begin_10 rfl rfl ?_
  refine ww_iconst (v := 0) dX3_begin_11 (by decide) ?_
  refine Wrd_putz J.1 dX3_begin_12 fX3_32 rfl rfl (Or.inl rfl) ?_
  refine ww_aload_n dX3_begin_15 rfl rfl ?_
  refine ww_iconst (v := 0) dX3_begin_16 (by decide) ?_
  refine Wrd_puti J.1 dX3_begin_17 fX3_36 rfl rfl ?_
  refine ww_aload_n dX3_begin_20 rfl rfl ?_
  refine ww_iconst (v := 0) dX3_begin_21 (by decide) ?_
  refine Wrd_puti J.1 dX3_begin_22 fX3_43 rfl rfl ?_
  refine ww_aload_n dX3_begin_25 rfl rfl ?_
  refine Wrd_getr J.1 dX3_begin_26 fX3_62 rfl ?_
  refine ww_iconst (v := 0) dX3_begin_29 (by decide) ?_
  refine ww_iconst (v := 0) dX3_begin_30 (by decide) ?_
  refine Wrd_zast J.1 dX3_begin_31 rfl (show _ = nI 0 from rfl) (by decide) rfl ?_
  rw [w_up_up, w_up_up, w_up_up, w_up_up]
  simp only [w_up_self]
  refine ww_aload_n dX3_begin_32 rfl rfl ?_
  refine Wrd_geto J.1 dX3_begin_33 fX3_28 rfl rfl J.2.2.2.2.1 ?_
  refine Wbb_call0 J.2.2.1 dX3_begin_36 kX3_81 rfl rfl (bb_lF J.2.2.1 (F := va_up F r (upd (upd (upd (upd (upd (F r) 1 0) 2 (-1)) 4 0) 5 0) 7 0)) (R := va_up R r (va_up (R r) 13 (upd (R r 13) 0 0))) (c0_clear)) rfl rfl rfl rfl rfl rfl (Nat.zero_le _) (Nat.zero_le _) ?_
  refine ww_aload_n dX3_begin_39 rfl rfl ?_
  refine Wrd_geto J.1 dX3_begin_40 fX3_12 rfl rfl J.2.2.2.1 ?_
  refine Wta_call0 J.2.1 dX3_begin_43 kX3_84 rfl rfl (ta_lF J.2.1 (F := va_up (va_up F r (upd (upd (upd (upd (upd (F r) 1 0) 2 (-1)) 4 0) 5 0) 7 0)) d (upd (upd (upd (upd (va_up F r (upd (upd (upd (upd (upd (F r) 1 0) 2 (-1)) 4 0) 5 0) 7 0) d) 0 0) 1 0) 2 0) 3 0)) (R := va_up R r (va_up (R r) 13 (upd (R r 13) 0 0))) (c5_rewind (L := L) (by rw [w_up_ne _ _ (J_td J), w_up_ne _ _ (J_rt J).symm]; exact J.2.2.2.2.2.1) J.2.2.2.2.2.2.1 (by rw [w_up_ne _ _ (J_rt J).symm]; exact J.2.2.2.2.2.2.2))) rfl rfl rfl rfl rfl rfl (Nat.zero_le _) (Nat.zero_le _) ?_
  exact ww_vret dX3_begin_46 rfl ⟨rfl, by unfold hX begX; rw [w_up_ne _ _ (J_td J), w_up_ne _ _ (J_rt J).symm, w_up_ne _ _ (J_rt J).symm, w_up_ne _ _ (J_rd J).symm, up_sw (J_td J), show va_up (va_up R r (va_up (R r) 13 (upd (R r 13) 0 0))) d (R d) = va_up R r (va_up (R r) 13 (upd (R r 13) 0 0)) by rw [show R d = va_up R r (va_up (R r) 13 (upd (R r 13) 0 0)) d by rw [w_up_ne _ _ (J_rd J).symm], w_up_id]]⟩ (Nat.zero_le _) (Nat.zero_le _)
set_option maxHeartbeats 4000000 in
theorem c3_read2 (J : hJ Λ r t d F O R L mr mt md) (hfr : ∀ x, Λ.1 x ≠ some nb) (htop : ∀ x, sz ≤ x → Λ.1 x = none) : Sat G mX3_read [.ref mr] (wld Λ F O R h0, sz) (rdQ Λ r t d F O R h0 L nb sz md (apL (R t 0) L (L + 1) aT0)) := by
  refine Sat.of (by decide) [some (.ref mr), none] rfl rfl (fun Y => ?_)
  refine ww_aload_n dX3_read_0 rfl rfl ?_
  refine Wrd_call0 J.1 dX3_read_1 kX3_65 rfl rfl (c3_begin2 J) rfl rfl rfl rfl rfl rfl (Nat.zero_le _) (Nat.zero_le _) ?_
  refine ww_iconst (v := 0) dX3_read_4 (by decide) ?_
  refine ww_istore_n dX3_read_5 rfl rfl rfl ?_
  have hI0 : IC aT0 (begX (0, F r, F d, R r, R d)) := ⟨rfl, rfl, rfl, rfl, rfl, rfl, rfl, rfl, rfl, rfl, fun i hi => absurd hi (by omega), fun i hi => absurd hi (by omega), trivial, trivial, trivial, rfl⟩
  have hw0 : wfA L aT0 := ⟨Nat.zero_le _, rfl, by decide, gd_skip, trivial, by decide, rfl, rfl, Nat.le_refl _, Nat.le_refl _, fun i hi => absurd hi (by omega), fun i j hi => absurd hi (by omega)⟩
  have hL := J.2.2.2.2.2.2.1
  exact L3_rd J hfr htop (L + 1) aT0 (begX (0, F r, F d, R r, R d)) 0 _ (by show L - 0 < L + 1; omega) (by omega) rfl hw0 hI0 rfl
end X8J
