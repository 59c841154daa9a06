section RA
variable {Λ : wL} {F : Nat → Nat → Int32} {O : Nat → Nat → Option Nat} {R : Nat → Nat → Nat → Int32} {h0 : Nat → Option wE} {i m : Nat}
variable {G : wG} {M : wM} {cc : ByteArray} {X : wX} {Z : State → Prop} {pc : Nat} {lv : List (Option Value)} {st : List Value} {k n sz : Nat}
theorem Wra_at (hk : Lk Λ i 8 m) : wld Λ F O R h0 m = some (.inl (.object "TaskHouse$Run", 8, .inr (.inr (.inr (.inr (O i)))))) := by
  rw [wld_at hk (inK_self 8 m)]
  show rah m (O i) h0 m = _
  simp [rah]
theorem Wra_aald {j b : Nat} {x : Int32} (hk : Lk Λ i 8 m) (hd : decode cc pc = .ok (.aaload, 1)) (hi : x = nI j) (hj : j < 8) (ho : O i j = some b) (kq : WW G M cc X Z (pc + 1) lv (.ref b :: st) (wld Λ F O R h0, sz) k n) : WW G M cc X Z pc lv (.int x :: .ref m :: st) (wld Λ F O R h0, sz) k n := by
  refine ww_aald hd (Wra_at hk) hi hj (by decide) ?_
  rw [ho]
  exact kq
end RA
section X8C
variable {G : wG} {Λ : wL} {x mr mt mp mk mw ma : Nat} {F : Nat → Nat → Int32} {O : Nat → Nat → Option Nat} {R : Nat → Nat → Nat → Int32} {h0 : Nat → Option wE} {sz : Nat}
set_option maxHeartbeats 4000000 in
theorem c8_runAt (H : hH Λ O x mr mt mp mk mw ma) {y : Int32} {j mu : Nat} {nr : Nat} (hr : F 0 5 = nI nr) (hr2 : nr ≤ 8) (hy : y = nI j) (hj : j < nr) (ho : O 7 j = some mu) : Sat G mX8_runAt [.ref x, .int y] (wld Λ F O R h0, sz) (Det (some (.ref mu)) (wld Λ F O R h0, sz)) := by
  refine Sat.of (by decide) [some (.ref x), some (.int y)] rfl rfl (fun X => ?_)
  refine ww_iload_n dX8_runAt_0 rfl rfl ?_
  refine ww_if_lt (tgt := 27) dX8_runAt_1 (by decide) (fun c1 => ?_) (fun c1 => ?_)
  · exact absurd c1 (by rw [hy]; exact nI_pos (by omega))
  · refine ww_iload_n dX8_runAt_4 rfl rfl ?_
    refine ww_aload_n dX8_runAt_5 rfl rfl ?_
    refine Wxx_geti H.1 dX8_runAt_6 fX8_43 rfl rfl ?_
    refine ww_icmp_ge (tgt := 27) dX8_runAt_9 (by decide) (fun c9 => ?_) (fun c9 => ?_)
    · exact absurd c9 (by rw [hy, hr]; exact Int32.not_le.mpr (nI_lt hj (by omega)))
    · refine ww_iload_n dX8_runAt_12 rfl rfl ?_
      refine ww_bipush (v := 8) dX8_runAt_13 (by decide) ?_
      refine ww_icmp_ge (tgt := 27) dX8_runAt_15 (by decide) (fun c15 => ?_) (fun c15 => ?_)
      · exact absurd c15 (by rw [hy]; exact Int32.not_le.mpr (nI_lt (b := 8) (by omega) (by decide)))
      · refine ww_aload_n dX8_runAt_18 rfl rfl ?_
        refine Wxx_geto H.1 dX8_runAt_19 fX8_39 rfl rfl H.2.2.2.2.2.2.2.2.2.2.2.1 ?_
        refine ww_iload_n dX8_runAt_22 rfl rfl ?_
        refine Wra_aald H.2.2.2.2.2.2.1 dX8_runAt_23 hy (by omega) ho ?_
        refine ww_goto (tgt := 28) dX8_runAt_24 (by decide) ?_
        exact ww_aret dX8_runAt_28 rfl (Or.inr ⟨_, rfl⟩) ⟨rfl, rfl⟩ (Nat.zero_le _) (Nat.zero_le _)
set_option maxHeartbeats 4000000 in
theorem c8_runAt0 (H : hH Λ O x mr mt mp mk mw ma) {y : Int32} {nr : Nat} (hr : F 0 5 = nI nr) (hr2 : nr ≤ 8) (hno : wIn y nr = false) : Sat G mX8_runAt [.ref x, .int y] (wld Λ F O R h0, sz) (Det (some .null) (wld Λ F O R h0, sz)) := by
  refine Sat.of (by decide) [some (.ref x), some (.int y)] rfl rfl (fun X => ?_)
  refine ww_iload_n dX8_runAt_0 rfl rfl ?_
  refine ww_if_lt (tgt := 27) dX8_runAt_1 (by decide) (fun c1 => ?_) (fun c1 => ?_)
  · refine ww_null dX8_runAt_27 ?_
    exact ww_aret dX8_runAt_28 rfl (Or.inl rfl) ⟨rfl, rfl⟩ (Nat.zero_le _) (Nat.zero_le _)
  · refine ww_iload_n dX8_runAt_4 rfl rfl ?_
    refine ww_aload_n dX8_runAt_5 rfl rfl ?_
    refine Wxx_geti H.1 dX8_runAt_6 fX8_43 rfl rfl ?_
    refine ww_icmp_ge (tgt := 27) dX8_runAt_9 (by decide) (fun c9 => ?_) (fun c9 => ?_)
    · refine ww_null dX8_runAt_27 ?_
      exact ww_aret dX8_runAt_28 rfl (Or.inl rfl) ⟨rfl, rfl⟩ (Nat.zero_le _) (Nat.zero_le _)
    · exact absurd (wIn_t hr (by omega) c1 c9) (wb_nt hno)
/-- task t of the class: its run, that run's business, its do; e the person who last did the do that it must not be done by -/
def tkC (Λ : wL) (F : Nat → Nat → Int32) (O : Nat → Nat → Option Nat) (R : Nat → Nat → Nat → Int32) (nr t : Nat) (e : Int32) : Prop := ∃ r u mu b mb d cd, R 5 1 t = nI r ∧ r < nr ∧ O 7 r = some mu ∧ Lk Λ u 7 mu ∧ O u 1 = some mb ∧ Lk Λ b 3 mb ∧ R 5 2 t = nI d ∧ F b 1 = nI cd ∧ d < cd ∧ cd ≤ 40 ∧ ((R b 10 d = -1 ∧ e = -1) ∨ ∃ i, i < 40 ∧ R b 10 d = nI i ∧ e = R u 4 i)
def alC (R : Nat → Nat → Nat → Int32) (y s : Int32) (t : Nat) (e : Int32) : Bool := !decide ((s >>> (R 5 3 t &&& 31)) &&& 1 = 0) && !decide (e = y)
set_option maxHeartbeats 4000000 in
theorem c8_isAllowedA (H : hH Λ O x mr mt mp mk mw ma) {y s z e : Int32} {c : Nat} (hc : F 5 0 = nI c) (hc2 : c ≤ 200){nr : Nat} (hr : F 0 5 = nI nr) (hr2 : nr ≤ 8){j : Nat} (hz : z = nI j) (hj : j < c){r u mu b mb d cd : Nat} (h1 : R 5 1 j = nI r) (h2 : r < nr) (hOu : O 7 r = some mu) (hU : Lk Λ u 7 mu) (hOb : O u 1 = some mb) (hB : Lk Λ b 3 mb) (hd : R 5 2 j = nI d) (hcd : F b 1 = nI cd) (hd2 : d < cd) (hcd2 : cd ≤ 40) (he : R b 10 d = -1) (hee : e = -1) : Sat G mX8_isAllowed [.ref x, .int y, .int s, .int z] (wld Λ F O R h0, sz) (Det (some (.int (wb (alC R y s j e)))) (wld Λ F O R h0, sz)) := by
  refine Sat.of (by decide) [some (.ref x), some (.int y), some (.int s), some (.int z), none] rfl rfl (fun X => ?_)
  refine ww_aload_n dX8_isAllowed_0 rfl rfl ?_
  refine Wxx_geto H.1 dX8_isAllowed_1 fX8_26 rfl rfl H.2.2.2.2.2.2.2.2.2.1 ?_
  refine ww_iload_n dX8_isAllowed_4 rfl rfl ?_
  refine Wtt_call1 H.2.2.2.2.1 dX8_isAllowed_5 kX8_148 rfl rfl (tt_l0 H.2.2.2.2.1 (c6_has hc hc2)) rfl rfl rfl rfl rfl rfl (Nat.zero_le _) (Nat.zero_le _) ?_
  refine ww_if_eq (tgt := 27) dX8_isAllowed_8 (by decide) (fun c8 => ?_) (fun c8 => ?_)
  · exact absurd c8 (by rw [hz, wIn_nI hj (by omega)]; decide)
  · refine ww_iload_n dX8_isAllowed_11 rfl rfl ?_
    refine ww_aload_n dX8_isAllowed_12 rfl rfl ?_
    refine Wxx_geto H.1 dX8_isAllowed_13 fX8_26 rfl rfl H.2.2.2.2.2.2.2.2.2.1 ?_
    refine Wtt_getr H.2.2.2.2.1 dX8_isAllowed_16 fX8_154 rfl ?_
    refine ww_iload_n dX8_isAllowed_19 rfl rfl ?_
    refine Wtt_iald H.2.2.2.2.1 dX8_isAllowed_20 rfl hz (by omega) rfl ?_
    refine ww_ishr dX8_isAllowed_21 ?_
    refine ww_iconst (v := 1) dX8_isAllowed_22 (by decide) ?_
    refine ww_iand dX8_isAllowed_23 ?_
    refine ww_if_ne (tgt := 29) dX8_isAllowed_24 (by decide) (fun c24 => ?_) (fun c24 => ?_)
    · refine ww_aload_n dX8_isAllowed_29 rfl rfl ?_
      refine ww_aload_n dX8_isAllowed_30 rfl rfl ?_
      refine Wxx_geto H.1 dX8_isAllowed_31 fX8_26 rfl rfl H.2.2.2.2.2.2.2.2.2.1 ?_
      refine Wtt_getr H.2.2.2.2.1 dX8_isAllowed_34 fX8_149 rfl ?_
      refine ww_iload_n dX8_isAllowed_37 rfl rfl ?_
      refine Wtt_iald H.2.2.2.2.1 dX8_isAllowed_38 rfl hz (by omega) rfl ?_
      refine Wxx_call1 H.1 dX8_isAllowed_39 kX8_134 rfl rfl (c8_runAt H hr hr2 h1 h2 hOu) rfl rfl rfl rfl rfl rfl (Nat.zero_le _) (Nat.zero_le _) ?_
      refine ww_astore dX8_isAllowed_42 rfl rfl ?_
      refine ww_aload dX8_isAllowed_44 rfl ?_
      refine ww_ifnonnull (tgt := 51) dX8_isAllowed_46 (by decide) ?_
      refine ww_aload dX8_isAllowed_51 rfl ?_
      refine ww_aload dX8_isAllowed_53 rfl ?_
      refine Wrr_geto hU dX8_isAllowed_55 fX8_202 rfl rfl hOb ?_
      refine ww_aload_n dX8_isAllowed_58 rfl rfl ?_
      refine Wxx_geto H.1 dX8_isAllowed_59 fX8_26 rfl rfl H.2.2.2.2.2.2.2.2.2.1 ?_
      refine Wtt_getr H.2.2.2.2.1 dX8_isAllowed_62 fX8_151 rfl ?_
      refine ww_iload_n dX8_isAllowed_65 rfl rfl ?_
      refine Wtt_iald H.2.2.2.2.1 dX8_isAllowed_66 rfl hz (by omega) rfl ?_
      refine Wbb_call1 hB dX8_isAllowed_67 kX8_236 rfl rfl (bb_l0 hB (c0_eyesOf hcd hcd2 hd hd2)) rfl rfl rfl rfl rfl rfl (Nat.zero_le _) (Nat.zero_le _) ?_
      refine Wrr_call1 hU dX8_isAllowed_70 kX8_239 rfl rfl (rr_l0 hU (c4_lastDoerOf0 (by rw [he]; rfl))) rfl rfl rfl rfl rfl rfl (Nat.zero_le _) (Nat.zero_le _) ?_
      rw [show (-1 : Int32) = e from hee.symm]
      refine ww_iload_n dX8_isAllowed_73 rfl rfl ?_
      refine ww_icmp_eq (tgt := 81) dX8_isAllowed_74 (by decide) (fun c74 => ?_) (fun c74 => ?_)
      · refine ww_iconst (v := 0) dX8_isAllowed_81 (by decide) ?_
        exact ww_zret dX8_isAllowed_82 rfl (Or.inl rfl) ⟨by rw [alC, decide_eq_true (show e = y from c74), decide_eq_false c24]; rfl, rfl⟩ (Nat.zero_le _) (Nat.zero_le _)
      · refine ww_iconst (v := 1) dX8_isAllowed_77 (by decide) ?_
        refine ww_goto (tgt := 82) dX8_isAllowed_78 (by decide) ?_
        exact ww_zret dX8_isAllowed_82 rfl (Or.inr rfl) ⟨by rw [alC, decide_eq_false (show ¬ e = y from c74), decide_eq_false c24]; rfl, rfl⟩ (Nat.zero_le _) (Nat.zero_le _)
    · refine ww_iconst (v := 0) dX8_isAllowed_27 (by decide) ?_
      exact ww_zret dX8_isAllowed_28 rfl (Or.inl rfl) ⟨by rw [alC, decide_eq_true c24]; rfl, rfl⟩ (Nat.zero_le _) (Nat.zero_le _)
set_option maxHeartbeats 4000000 in
theorem c8_isAllowedB (H : hH Λ O x mr mt mp mk mw ma) {y s z e : Int32} {i : Nat} {c : Nat} (hc : F 5 0 = nI c) (hc2 : c ≤ 200){nr : Nat} (hr : F 0 5 = nI nr) (hr2 : nr ≤ 8){j : Nat} (hz : z = nI j) (hj : j < c){r u mu b mb d cd : Nat} (h1 : R 5 1 j = nI r) (h2 : r < nr) (hOu : O 7 r = some mu) (hU : Lk Λ u 7 mu) (hOb : O u 1 = some mb) (hB : Lk Λ b 3 mb) (hd : R 5 2 j = nI d) (hcd : F b 1 = nI cd) (hd2 : d < cd) (hcd2 : cd ≤ 40) (he : R b 10 d = nI i) (hi : i < 40) (hee : e = R u 4 i) : Sat G mX8_isAllowed [.ref x, .int y, .int s, .int z] (wld Λ F O R h0, sz) (Det (some (.int (wb (alC R y s j e)))) (wld Λ F O R h0, sz)) := by
  refine Sat.of (by decide) [some (.ref x), some (.int y), some (.int s), some (.int z), none] rfl rfl (fun X => ?_)
  refine ww_aload_n dX8_isAllowed_0 rfl rfl ?_
  refine Wxx_geto H.1 dX8_isAllowed_1 fX8_26 rfl rfl H.2.2.2.2.2.2.2.2.2.1 ?_
  refine ww_iload_n dX8_isAllowed_4 rfl rfl ?_
  refine Wtt_call1 H.2.2.2.2.1 dX8_isAllowed_5 kX8_148 rfl rfl (tt_l0 H.2.2.2.2.1 (c6_has hc hc2)) rfl rfl rfl rfl rfl rfl (Nat.zero_le _) (Nat.zero_le _) ?_
  refine ww_if_eq (tgt := 27) dX8_isAllowed_8 (by decide) (fun c8 => ?_) (fun c8 => ?_)
  · exact absurd c8 (by rw [hz, wIn_nI hj (by omega)]; decide)
  · refine ww_iload_n dX8_isAllowed_11 rfl rfl ?_
    refine ww_aload_n dX8_isAllowed_12 rfl rfl ?_
    refine Wxx_geto H.1 dX8_isAllowed_13 fX8_26 rfl rfl H.2.2.2.2.2.2.2.2.2.1 ?_
    refine Wtt_getr H.2.2.2.2.1 dX8_isAllowed_16 fX8_154 rfl ?_
    refine ww_iload_n dX8_isAllowed_19 rfl rfl ?_
    refine Wtt_iald H.2.2.2.2.1 dX8_isAllowed_20 rfl hz (by omega) rfl ?_
    refine ww_ishr dX8_isAllowed_21 ?_
    refine ww_iconst (v := 1) dX8_isAllowed_22 (by decide) ?_
    refine ww_iand dX8_isAllowed_23 ?_
    refine ww_if_ne (tgt := 29) dX8_isAllowed_24 (by decide) (fun c24 => ?_) (fun c24 => ?_)
    · refine ww_aload_n dX8_isAllowed_29 rfl rfl ?_
      refine ww_aload_n dX8_isAllowed_30 rfl rfl ?_
      refine Wxx_geto H.1 dX8_isAllowed_31 fX8_26 rfl rfl H.2.2.2.2.2.2.2.2.2.1 ?_
      refine Wtt_getr H.2.2.2.2.1 dX8_isAllowed_34 fX8_149 rfl ?_
      refine ww_iload_n dX8_isAllowed_37 rfl rfl ?_
      refine Wtt_iald H.2.2.2.2.1 dX8_isAllowed_38 rfl hz (by omega) rfl ?_
      refine Wxx_call1 H.1 dX8_isAllowed_39 kX8_134 rfl rfl (c8_runAt H hr hr2 h1 h2 hOu) rfl rfl rfl rfl rfl rfl (Nat.zero_le _) (Nat.zero_le _) ?_
      refine ww_astore dX8_isAllowed_42 rfl rfl ?_
      refine ww_aload dX8_isAllowed_44 rfl ?_
      refine ww_ifnonnull (tgt := 51) dX8_isAllowed_46 (by decide) ?_
      refine ww_aload dX8_isAllowed_51 rfl ?_
      refine ww_aload dX8_isAllowed_53 rfl ?_
      refine Wrr_geto hU dX8_isAllowed_55 fX8_202 rfl rfl hOb ?_
      refine ww_aload_n dX8_isAllowed_58 rfl rfl ?_
      refine Wxx_geto H.1 dX8_isAllowed_59 fX8_26 rfl rfl H.2.2.2.2.2.2.2.2.2.1 ?_
      refine Wtt_getr H.2.2.2.2.1 dX8_isAllowed_62 fX8_151 rfl ?_
      refine ww_iload_n dX8_isAllowed_65 rfl rfl ?_
      refine Wtt_iald H.2.2.2.2.1 dX8_isAllowed_66 rfl hz (by omega) rfl ?_
      refine Wbb_call1 hB dX8_isAllowed_67 kX8_236 rfl rfl (bb_l0 hB (c0_eyesOf hcd hcd2 hd hd2)) rfl rfl rfl rfl rfl rfl (Nat.zero_le _) (Nat.zero_le _) ?_
      refine Wrr_call1 hU dX8_isAllowed_70 kX8_239 rfl rfl (rr_l0 hU (c4_lastDoerOf he hi)) rfl rfl rfl rfl rfl rfl (Nat.zero_le _) (Nat.zero_le _) ?_
      rw [← hee]
      refine ww_iload_n dX8_isAllowed_73 rfl rfl ?_
      refine ww_icmp_eq (tgt := 81) dX8_isAllowed_74 (by decide) (fun c74 => ?_) (fun c74 => ?_)
      · refine ww_iconst (v := 0) dX8_isAllowed_81 (by decide) ?_
        exact ww_zret dX8_isAllowed_82 rfl (Or.inl rfl) ⟨by rw [alC, decide_eq_true (show e = y from c74), decide_eq_false c24]; rfl, rfl⟩ (Nat.zero_le _) (Nat.zero_le _)
      · refine ww_iconst (v := 1) dX8_isAllowed_77 (by decide) ?_
        refine ww_goto (tgt := 82) dX8_isAllowed_78 (by decide) ?_
        exact ww_zret dX8_isAllowed_82 rfl (Or.inr rfl) ⟨by rw [alC, decide_eq_false (show ¬ e = y from c74), decide_eq_false c24]; rfl, rfl⟩ (Nat.zero_le _) (Nat.zero_le _)
    · refine ww_iconst (v := 0) dX8_isAllowed_27 (by decide) ?_
      exact ww_zret dX8_isAllowed_28 rfl (Or.inl rfl) ⟨by rw [alC, decide_eq_true c24]; rfl, rfl⟩ (Nat.zero_le _) (Nat.zero_le _)
theorem c8_isAllowed (H : hH Λ O x mr mt mp mk mw ma) {y s z e : Int32} {c : Nat} (hc : F 5 0 = nI c) (hc2 : c ≤ 200) {nr : Nat} (hr : F 0 5 = nI nr) (hr2 : nr ≤ 8) {j : Nat} (hz : z = nI j) (hj : j < c) (hT : tkC Λ F O R nr j e) : Sat G mX8_isAllowed [.ref x, .int y, .int s, .int z] (wld Λ F O R h0, sz) (Det (some (.int (wb (alC R y s j e)))) (wld Λ F O R h0, sz)) := by
  obtain ⟨r, u, mu, b, mb, d, cd, h1, h2, h3, h4, h5, h6, h7, h8, h9, h10, h11⟩ := hT
  rcases h11 with ⟨q1, q2⟩ | ⟨i, q1, q2, q3⟩
  · exact c8_isAllowedA H hc hc2 hr hr2 hz hj h1 h2 h3 h4 h5 h6 h7 h8 h9 h10 q1 q2
  · exact c8_isAllowedB H hc hc2 hr hr2 hz hj h1 h2 h3 h4 h5 h6 h7 h8 h9 h10 q2 q1 q3
/-- the roles that person j serves -/
def rsV (R : Nat → Nat → Nat → Int32) (l j : Nat) : Int32 := if R 4 6 j = 0 then rsC (R 4) l (nI j) (R 4 1 j) l else 0
theorem c8_served (H : hH Λ O x mr mt mp mk mw ma) {y : Int32} {l : Nat} (hl : F 4 0 = nI l) (hl2 : l ≤ 8) {j : Nat} (hy : y = nI j) (hj : j < l) : Sat G mX2_rolesServed [.ref mp, .int y] (wld Λ F O R h0, sz) (Det (some (.int (rsV R l j))) (wld Λ F O R h0, sz)) := by
  unfold rsV
  by_cases hg : R 4 6 j = 0
  · rw [if_pos hg, ← hy]
    exact pp_l0 H.2.2.2.1 (c2_rolesServed hl hl2 hy hj hg)
  · rw [if_neg hg]
    exact pp_l0 H.2.2.2.1 (c2_rolesServed0 hl hl2 hy hj hg)
set_option maxHeartbeats 4000000 in
theorem c8_isListed (H : hH Λ O x mr mt mp mk mw ma) {y s z e : Int32} {c : Nat} (hc : F 5 0 = nI c) (hc2 : c ≤ 200){nr : Nat} (hr : F 0 5 = nI nr) (hr2 : nr ≤ 8){j : Nat} (hz : z = nI j) (hj : j < c) (hT : tkC Λ F O R nr j e) : Sat G mX8_isListed [.ref x, .int y, .int s, .int z] (wld Λ F O R h0, sz) (Det (some (.int (wb (decide (R 5 6 j = 0) && alC R y s j e)))) (wld Λ F O R h0, sz)) := by
  refine Sat.of (by decide) [some (.ref x), some (.int y), some (.int s), some (.int z)] rfl rfl (fun X => ?_)
  refine ww_aload_n dX8_isListed_0 rfl rfl ?_
  refine Wxx_geto H.1 dX8_isListed_1 fX8_26 rfl rfl H.2.2.2.2.2.2.2.2.2.1 ?_
  refine ww_iload_n dX8_isListed_4 rfl rfl ?_
  refine ww_iconst (v := 0) dX8_isListed_5 (by decide) ?_
  refine Wtt_call1 H.2.2.2.2.1 dX8_isListed_6 kX8_179 rfl rfl (tt_l0 H.2.2.2.2.1 (c6_isIn (y := 0) hc hc2 hz hj)) rfl rfl rfl rfl rfl rfl (Nat.zero_le _) (Nat.zero_le _) ?_
  refine ww_if_eq (tgt := 26) dX8_isListed_9 (by decide) (fun c9 => ?_) (fun c9 => ?_)
  · refine ww_iconst (v := 0) dX8_isListed_26 (by decide) ?_
    exact ww_zret dX8_isListed_27 rfl (Or.inl rfl) ⟨by rw [wb_eq0.mp c9]; rfl, rfl⟩ (Nat.zero_le _) (Nat.zero_le _)
  · refine ww_aload_n dX8_isListed_12 rfl rfl ?_
    refine ww_iload_n dX8_isListed_13 rfl rfl ?_
    refine ww_iload_n dX8_isListed_14 rfl rfl ?_
    refine ww_iload_n dX8_isListed_15 rfl rfl ?_
    refine Wxx_call1 H.1 dX8_isListed_16 kX8_175 rfl rfl (c8_isAllowed (e := e) H hc hc2 hr hr2 hz hj hT) rfl rfl rfl rfl rfl rfl (Nat.zero_le _) (Nat.zero_le _) ?_
    refine ww_if_eq (tgt := 26) dX8_isListed_19 (by decide) (fun c19 => ?_) (fun c19 => ?_)
    · refine ww_iconst (v := 0) dX8_isListed_26 (by decide) ?_
      exact ww_zret dX8_isListed_27 rfl (Or.inl rfl) ⟨by rw [wb_ne0.mp c9, wb_eq0.mp c19]; rfl, rfl⟩ (Nat.zero_le _) (Nat.zero_le _)
    · refine ww_iconst (v := 1) dX8_isListed_22 (by decide) ?_
      refine ww_goto (tgt := 27) dX8_isListed_23 (by decide) ?_
      exact ww_zret dX8_isListed_27 rfl (Or.inr rfl) ⟨by rw [wb_ne0.mp c9, wb_ne0.mp c19]; rfl, rfl⟩ (Nat.zero_le _) (Nat.zero_le _)
set_option maxHeartbeats 4000000 in
theorem c8_may0 (H : hH Λ O x mr mt mp mk mw ma) {y z : Int32} {l : Nat} (hl : F 4 0 = nI l) (hl2 : l ≤ 8) (hno : wIn y l = false) : Sat G mX8_may [.ref x, .int y, .int z] (wld Λ F O R h0, sz) (Det (some (.int (-1))) (wld Λ F O R h0, sz)) := by
  refine Sat.of (by decide) [some (.ref x), some (.int y), some (.int z)] rfl rfl (fun X => ?_)
  refine ww_aload_n dX8_may_0 rfl rfl ?_
  refine Wxx_geto H.1 dX8_may_1 fX8_19 rfl rfl H.2.2.2.2.2.2.2.2.1 ?_
  refine ww_iload_n dX8_may_4 rfl rfl ?_
  refine Wpp_call1 H.2.2.2.1 dX8_may_5 kX8_92 rfl rfl (pp_l0 H.2.2.2.1 (c2_has hl hl2)) rfl rfl rfl rfl rfl rfl (Nat.zero_le _) (Nat.zero_le _) ?_
  refine ww_if_eq (tgt := 22) dX8_may_8 (by decide) (fun c8 => ?_) (fun c8 => ?_)
  · refine ww_iconst (v := -1) dX8_may_22 (by decide) ?_
    exact ww_iret dX8_may_23 rfl ⟨rfl, rfl⟩ (Nat.zero_le _) (Nat.zero_le _)
  · exact absurd c8 (fun q => q (wb_eq0.mpr hno))
set_option maxHeartbeats 4000000 in
theorem c8_may1 (H : hH Λ O x mr mt mp mk mw ma) {y z : Int32} {l : Nat} (hl : F 4 0 = nI l) (hl2 : l ≤ 8){p : Nat} (hy : y = nI p) (hp : p < l){c : Nat} (hc : F 5 0 = nI c) (hc2 : c ≤ 200) (hno : wIn z c = false) : Sat G mX8_may [.ref x, .int y, .int z] (wld Λ F O R h0, sz) (Det (some (.int (-1))) (wld Λ F O R h0, sz)) := by
  refine Sat.of (by decide) [some (.ref x), some (.int y), some (.int z)] rfl rfl (fun X => ?_)
  refine ww_aload_n dX8_may_0 rfl rfl ?_
  refine Wxx_geto H.1 dX8_may_1 fX8_19 rfl rfl H.2.2.2.2.2.2.2.2.1 ?_
  refine ww_iload_n dX8_may_4 rfl rfl ?_
  refine Wpp_call1 H.2.2.2.1 dX8_may_5 kX8_92 rfl rfl (pp_l0 H.2.2.2.1 (c2_has hl hl2)) rfl rfl rfl rfl rfl rfl (Nat.zero_le _) (Nat.zero_le _) ?_
  refine ww_if_eq (tgt := 22) dX8_may_8 (by decide) (fun c8 => ?_) (fun c8 => ?_)
  · exact absurd c8 (by rw [hy, wIn_nI hp (by omega)]; decide)
  · refine ww_aload_n dX8_may_11 rfl rfl ?_
    refine Wxx_geto H.1 dX8_may_12 fX8_26 rfl rfl H.2.2.2.2.2.2.2.2.2.1 ?_
    refine ww_iload_n dX8_may_15 rfl rfl ?_
    refine Wtt_call1 H.2.2.2.2.1 dX8_may_16 kX8_148 rfl rfl (tt_l0 H.2.2.2.2.1 (c6_has hc hc2)) rfl rfl rfl rfl rfl rfl (Nat.zero_le _) (Nat.zero_le _) ?_
    refine ww_if_ne (tgt := 24) dX8_may_19 (by decide) (fun c19 => ?_) (fun c19 => ?_)
    · exact absurd c19 (fun q => q (wb_eq0.mpr hno))
    · refine ww_iconst (v := -1) dX8_may_22 (by decide) ?_
      exact ww_iret dX8_may_23 rfl ⟨rfl, rfl⟩ (Nat.zero_le _) (Nat.zero_le _)
set_option maxHeartbeats 4000000 in
theorem c8_may (H : hH Λ O x mr mt mp mk mw ma) {y z e : Int32} {l : Nat} (hl : F 4 0 = nI l) (hl2 : l ≤ 8){p : Nat} (hy : y = nI p) (hp : p < l){c : Nat} (hc : F 5 0 = nI c) (hc2 : c ≤ 200){nr : Nat} (hr : F 0 5 = nI nr) (hr2 : nr ≤ 8){j : Nat} (hz : z = nI j) (hj : j < c) (hT : tkC Λ F O R nr j e) : Sat G mX8_may [.ref x, .int y, .int z] (wld Λ F O R h0, sz) (Det (some (.int (wb (alC R y (rsV R l p) j e)))) (wld Λ F O R h0, sz)) := by
  refine Sat.of (by decide) [some (.ref x), some (.int y), some (.int z)] rfl rfl (fun X => ?_)
  refine ww_aload_n dX8_may_0 rfl rfl ?_
  refine Wxx_geto H.1 dX8_may_1 fX8_19 rfl rfl H.2.2.2.2.2.2.2.2.1 ?_
  refine ww_iload_n dX8_may_4 rfl rfl ?_
  refine Wpp_call1 H.2.2.2.1 dX8_may_5 kX8_92 rfl rfl (pp_l0 H.2.2.2.1 (c2_has hl hl2)) rfl rfl rfl rfl rfl rfl (Nat.zero_le _) (Nat.zero_le _) ?_
  refine ww_if_eq (tgt := 22) dX8_may_8 (by decide) (fun c8 => ?_) (fun c8 => ?_)
  · exact absurd c8 (by rw [hy, wIn_nI hp (by omega)]; decide)
  · refine ww_aload_n dX8_may_11 rfl rfl ?_
    refine Wxx_geto H.1 dX8_may_12 fX8_26 rfl rfl H.2.2.2.2.2.2.2.2.2.1 ?_
    refine ww_iload_n dX8_may_15 rfl rfl ?_
    refine Wtt_call1 H.2.2.2.2.1 dX8_may_16 kX8_148 rfl rfl (tt_l0 H.2.2.2.2.1 (c6_has hc hc2)) rfl rfl rfl rfl rfl rfl (Nat.zero_le _) (Nat.zero_le _) ?_
    refine ww_if_ne (tgt := 24) dX8_may_19 (by decide) (fun c19 => ?_) (fun c19 => ?_)
    · refine ww_aload_n dX8_may_24 rfl rfl ?_
      refine ww_iload_n dX8_may_25 rfl rfl ?_
      refine ww_aload_n dX8_may_26 rfl rfl ?_
      refine Wxx_geto H.1 dX8_may_27 fX8_19 rfl rfl H.2.2.2.2.2.2.2.2.1 ?_
      refine ww_iload_n dX8_may_30 rfl rfl ?_
      refine Wpp_call1 H.2.2.2.1 dX8_may_31 kX8_172 rfl rfl (c8_served H hl hl2 hy hp) rfl rfl rfl rfl rfl rfl (Nat.zero_le _) (Nat.zero_le _) ?_
      refine ww_iload_n dX8_may_34 rfl rfl ?_
      refine Wxx_call1 H.1 dX8_may_35 kX8_175 rfl rfl (c8_isAllowed (e := e) H hc hc2 hr hr2 hz hj hT) rfl rfl rfl rfl rfl rfl (Nat.zero_le _) (Nat.zero_le _) ?_
      refine ww_if_eq (tgt := 45) dX8_may_38 (by decide) (fun c38 => ?_) (fun c38 => ?_)
      · refine ww_iconst (v := 0) dX8_may_45 (by decide) ?_
        exact ww_iret dX8_may_46 rfl ⟨by rw [wb_eq0.mp c38]; rfl, rfl⟩ (Nat.zero_le _) (Nat.zero_le _)
      · refine ww_iconst (v := 1) dX8_may_41 (by decide) ?_
        refine ww_goto (tgt := 46) dX8_may_42 (by decide) ?_
        exact ww_iret dX8_may_46 rfl ⟨by rw [wb_ne0.mp c38]; rfl, rfl⟩ (Nat.zero_le _) (Nat.zero_le _)
    · exact absurd c19 (by rw [hz, wIn_nI hj (by omega)]; decide)
set_option maxHeartbeats 4000000 in
theorem c8_claim0 (H : hH Λ O x mr mt mp mk mw ma) {y z : Int32} {l : Nat} (hl : F 4 0 = nI l) (hl2 : l ≤ 8) (hno : wIn y l = false) : Sat G mX8_claim [.ref x, .int y, .int z] (wld Λ F O R h0, sz) (Det (some (.int (-1))) (wld Λ F O R h0, sz)) := by
  refine Sat.of (by decide) [some (.ref x), some (.int y), some (.int z)] rfl rfl (fun X => ?_)
  refine ww_aload_n dX8_claim_0 rfl rfl ?_
  refine Wxx_geto H.1 dX8_claim_1 fX8_19 rfl rfl H.2.2.2.2.2.2.2.2.1 ?_
  refine ww_iload_n dX8_claim_4 rfl rfl ?_
  refine Wpp_call1 H.2.2.2.1 dX8_claim_5 kX8_92 rfl rfl (pp_l0 H.2.2.2.1 (c2_has hl hl2)) rfl rfl rfl rfl rfl rfl (Nat.zero_le _) (Nat.zero_le _) ?_
  refine ww_if_eq (tgt := 23) dX8_claim_8 (by decide) (fun c8 => ?_) (fun c8 => ?_)
  · refine ww_iconst (v := -1) dX8_claim_23 (by decide) ?_
    exact ww_iret dX8_claim_24 rfl ⟨rfl, rfl⟩ (Nat.zero_le _) (Nat.zero_le _)
  · exact absurd c8 (fun q => q (wb_eq0.mpr hno))
set_option maxHeartbeats 4000000 in
theorem c8_claim1 (H : hH Λ O x mr mt mp mk mw ma) {y z : Int32} {l : Nat} (hl : F 4 0 = nI l) (hl2 : l ≤ 8){p : Nat} (hy : y = nI p) (hp : p < l){c : Nat} (hc : F 5 0 = nI c) (hc2 : c ≤ 200) (hno : wIn z c = false) : Sat G mX8_claim [.ref x, .int y, .int z] (wld Λ F O R h0, sz) (Det (some (.int (-1))) (wld Λ F O R h0, sz)) := by
  refine Sat.of (by decide) [some (.ref x), some (.int y), some (.int z)] rfl rfl (fun X => ?_)
  refine ww_aload_n dX8_claim_0 rfl rfl ?_
  refine Wxx_geto H.1 dX8_claim_1 fX8_19 rfl rfl H.2.2.2.2.2.2.2.2.1 ?_
  refine ww_iload_n dX8_claim_4 rfl rfl ?_
  refine Wpp_call1 H.2.2.2.1 dX8_claim_5 kX8_92 rfl rfl (pp_l0 H.2.2.2.1 (c2_has hl hl2)) rfl rfl rfl rfl rfl rfl (Nat.zero_le _) (Nat.zero_le _) ?_
  refine ww_if_eq (tgt := 23) dX8_claim_8 (by decide) (fun c8 => ?_) (fun c8 => ?_)
  · exact absurd c8 (by rw [hy, wIn_nI hp (by omega)]; decide)
  · refine ww_aload_n dX8_claim_11 rfl rfl ?_
    refine Wxx_geto H.1 dX8_claim_12 fX8_26 rfl rfl H.2.2.2.2.2.2.2.2.2.1 ?_
    refine ww_iload_n dX8_claim_15 rfl rfl ?_
    refine ww_iconst (v := 0) dX8_claim_16 (by decide) ?_
    refine Wtt_call1 H.2.2.2.2.1 dX8_claim_17 kX8_179 rfl rfl (tt_l0 H.2.2.2.2.1 (c6_isIn0 hc hc2 hno)) rfl rfl rfl rfl rfl rfl (Nat.zero_le _) (Nat.zero_le _) ?_
    refine ww_if_ne (tgt := 25) dX8_claim_20 (by decide) (fun c20 => ?_) (fun c20 => ?_)
    · exact absurd c20 (fun q => q rfl)
    · refine ww_iconst (v := -1) dX8_claim_23 (by decide) ?_
      exact ww_iret dX8_claim_24 rfl ⟨rfl, rfl⟩ (Nat.zero_le _) (Nat.zero_le _)
set_option maxHeartbeats 4000000 in
theorem c8_claim2 (H : hH Λ O x mr mt mp mk mw ma) {y z : Int32} {l : Nat} (hl : F 4 0 = nI l) (hl2 : l ≤ 8){p : Nat} (hy : y = nI p) (hp : p < l){c : Nat} (hc : F 5 0 = nI c) (hc2 : c ≤ 200){j : Nat} (hz : z = nI j) (hj : j < c) (hs : ¬ R 5 6 j = 0) : Sat G mX8_claim [.ref x, .int y, .int z] (wld Λ F O R h0, sz) (Det (some (.int (-1))) (wld Λ F O R h0, sz)) := by
  refine Sat.of (by decide) [some (.ref x), some (.int y), some (.int z)] rfl rfl (fun X => ?_)
  refine ww_aload_n dX8_claim_0 rfl rfl ?_
  refine Wxx_geto H.1 dX8_claim_1 fX8_19 rfl rfl H.2.2.2.2.2.2.2.2.1 ?_
  refine ww_iload_n dX8_claim_4 rfl rfl ?_
  refine Wpp_call1 H.2.2.2.1 dX8_claim_5 kX8_92 rfl rfl (pp_l0 H.2.2.2.1 (c2_has hl hl2)) rfl rfl rfl rfl rfl rfl (Nat.zero_le _) (Nat.zero_le _) ?_
  refine ww_if_eq (tgt := 23) dX8_claim_8 (by decide) (fun c8 => ?_) (fun c8 => ?_)
  · exact absurd c8 (by rw [hy, wIn_nI hp (by omega)]; decide)
  · refine ww_aload_n dX8_claim_11 rfl rfl ?_
    refine Wxx_geto H.1 dX8_claim_12 fX8_26 rfl rfl H.2.2.2.2.2.2.2.2.2.1 ?_
    refine ww_iload_n dX8_claim_15 rfl rfl ?_
    refine ww_iconst (v := 0) dX8_claim_16 (by decide) ?_
    refine Wtt_call1 H.2.2.2.2.1 dX8_claim_17 kX8_179 rfl rfl (tt_l0 H.2.2.2.2.1 (c6_isIn (y := 0) hc hc2 hz hj)) rfl rfl rfl rfl rfl rfl (Nat.zero_le _) (Nat.zero_le _) ?_
    refine ww_if_ne (tgt := 25) dX8_claim_20 (by decide) (fun c20 => ?_) (fun c20 => ?_)
    · exact absurd c20 (fun q => q (wb_eq0.mpr (decide_eq_false hs)))
    · refine ww_iconst (v := -1) dX8_claim_23 (by decide) ?_
      exact ww_iret dX8_claim_24 rfl ⟨rfl, rfl⟩ (Nat.zero_le _) (Nat.zero_le _)
set_option maxHeartbeats 4000000 in
theorem c8_claim3 (H : hH Λ O x mr mt mp mk mw ma) {y z : Int32} {l : Nat} (hl : F 4 0 = nI l) (hl2 : l ≤ 8){p : Nat} (hy : y = nI p) (hp : p < l){c : Nat} (hc : F 5 0 = nI c) (hc2 : c ≤ 200){j : Nat} (hz : z = nI j) (hj : j < c) (hs : R 5 6 j = 0) (hm : ¬ R 4 3 p < R 4 2 p) : Sat G mX8_claim [.ref x, .int y, .int z] (wld Λ F O R h0, sz) (Det (some (.int (-1))) (wld Λ F O R h0, sz)) := by
  refine Sat.of (by decide) [some (.ref x), some (.int y), some (.int z)] rfl rfl (fun X => ?_)
  refine ww_aload_n dX8_claim_0 rfl rfl ?_
  refine Wxx_geto H.1 dX8_claim_1 fX8_19 rfl rfl H.2.2.2.2.2.2.2.2.1 ?_
  refine ww_iload_n dX8_claim_4 rfl rfl ?_
  refine Wpp_call1 H.2.2.2.1 dX8_claim_5 kX8_92 rfl rfl (pp_l0 H.2.2.2.1 (c2_has hl hl2)) rfl rfl rfl rfl rfl rfl (Nat.zero_le _) (Nat.zero_le _) ?_
  refine ww_if_eq (tgt := 23) dX8_claim_8 (by decide) (fun c8 => ?_) (fun c8 => ?_)
  · exact absurd c8 (by rw [hy, wIn_nI hp (by omega)]; decide)
  · refine ww_aload_n dX8_claim_11 rfl rfl ?_
    refine Wxx_geto H.1 dX8_claim_12 fX8_26 rfl rfl H.2.2.2.2.2.2.2.2.2.1 ?_
    refine ww_iload_n dX8_claim_15 rfl rfl ?_
    refine ww_iconst (v := 0) dX8_claim_16 (by decide) ?_
    refine Wtt_call1 H.2.2.2.2.1 dX8_claim_17 kX8_179 rfl rfl (tt_l0 H.2.2.2.2.1 (c6_isIn (y := 0) hc hc2 hz hj)) rfl rfl rfl rfl rfl rfl (Nat.zero_le _) (Nat.zero_le _) ?_
    refine ww_if_ne (tgt := 25) dX8_claim_20 (by decide) (fun c20 => ?_) (fun c20 => ?_)
    · refine ww_aload_n dX8_claim_25 rfl rfl ?_
      refine Wxx_geto H.1 dX8_claim_26 fX8_19 rfl rfl H.2.2.2.2.2.2.2.2.1 ?_
      refine ww_iload_n dX8_claim_29 rfl rfl ?_
      refine Wpp_call1 H.2.2.2.1 dX8_claim_30 kX8_183 rfl rfl (pp_l0 H.2.2.2.1 (c2_hasRoom hl hl2 hy hp)) rfl rfl rfl rfl rfl rfl (Nat.zero_le _) (Nat.zero_le _) ?_
      refine ww_if_eq (tgt := 53) dX8_claim_33 (by decide) (fun c33 => ?_) (fun c33 => ?_)
      · refine ww_iconst (v := -1) dX8_claim_53 (by decide) ?_
        exact ww_iret dX8_claim_54 rfl ⟨rfl, rfl⟩ (Nat.zero_le _) (Nat.zero_le _)
      · exact absurd c33 (fun q => q (wb_eq0.mpr (decide_eq_false hm)))
    · exact absurd c20 (by rw [decide_eq_true hs]; decide)
set_option maxHeartbeats 4000000 in
theorem c8_claim4 (H : hH Λ O x mr mt mp mk mw ma) {y z e : Int32} {l : Nat} (hl : F 4 0 = nI l) (hl2 : l ≤ 8){p : Nat} (hy : y = nI p) (hp : p < l){c : Nat} (hc : F 5 0 = nI c) (hc2 : c ≤ 200){nr : Nat} (hr : F 0 5 = nI nr) (hr2 : nr ≤ 8){j : Nat} (hz : z = nI j) (hj : j < c) (hT : tkC Λ F O R nr j e) (hs : R 5 6 j = 0) (hm : R 4 3 p < R 4 2 p) (ha : alC R y (rsV R l p) j e = false) : Sat G mX8_claim [.ref x, .int y, .int z] (wld Λ F O R h0, sz) (Det (some (.int (-1))) (wld Λ F O R h0, sz)) := by
  refine Sat.of (by decide) [some (.ref x), some (.int y), some (.int z)] rfl rfl (fun X => ?_)
  refine ww_aload_n dX8_claim_0 rfl rfl ?_
  refine Wxx_geto H.1 dX8_claim_1 fX8_19 rfl rfl H.2.2.2.2.2.2.2.2.1 ?_
  refine ww_iload_n dX8_claim_4 rfl rfl ?_
  refine Wpp_call1 H.2.2.2.1 dX8_claim_5 kX8_92 rfl rfl (pp_l0 H.2.2.2.1 (c2_has hl hl2)) rfl rfl rfl rfl rfl rfl (Nat.zero_le _) (Nat.zero_le _) ?_
  refine ww_if_eq (tgt := 23) dX8_claim_8 (by decide) (fun c8 => ?_) (fun c8 => ?_)
  · exact absurd c8 (by rw [hy, wIn_nI hp (by omega)]; decide)
  · refine ww_aload_n dX8_claim_11 rfl rfl ?_
    refine Wxx_geto H.1 dX8_claim_12 fX8_26 rfl rfl H.2.2.2.2.2.2.2.2.2.1 ?_
    refine ww_iload_n dX8_claim_15 rfl rfl ?_
    refine ww_iconst (v := 0) dX8_claim_16 (by decide) ?_
    refine Wtt_call1 H.2.2.2.2.1 dX8_claim_17 kX8_179 rfl rfl (tt_l0 H.2.2.2.2.1 (c6_isIn (y := 0) hc hc2 hz hj)) rfl rfl rfl rfl rfl rfl (Nat.zero_le _) (Nat.zero_le _) ?_
    refine ww_if_ne (tgt := 25) dX8_claim_20 (by decide) (fun c20 => ?_) (fun c20 => ?_)
    · refine ww_aload_n dX8_claim_25 rfl rfl ?_
      refine Wxx_geto H.1 dX8_claim_26 fX8_19 rfl rfl H.2.2.2.2.2.2.2.2.1 ?_
      refine ww_iload_n dX8_claim_29 rfl rfl ?_
      refine Wpp_call1 H.2.2.2.1 dX8_claim_30 kX8_183 rfl rfl (pp_l0 H.2.2.2.1 (c2_hasRoom hl hl2 hy hp)) rfl rfl rfl rfl rfl rfl (Nat.zero_le _) (Nat.zero_le _) ?_
      refine ww_if_eq (tgt := 53) dX8_claim_33 (by decide) (fun c33 => ?_) (fun c33 => ?_)
      · exact absurd c33 (by rw [decide_eq_true hm]; decide)
      · refine ww_aload_n dX8_claim_36 rfl rfl ?_
        refine ww_iload_n dX8_claim_37 rfl rfl ?_
        refine ww_aload_n dX8_claim_38 rfl rfl ?_
        refine Wxx_geto H.1 dX8_claim_39 fX8_19 rfl rfl H.2.2.2.2.2.2.2.2.1 ?_
        refine ww_iload_n dX8_claim_42 rfl rfl ?_
        refine Wpp_call1 H.2.2.2.1 dX8_claim_43 kX8_172 rfl rfl (c8_served H hl hl2 hy hp) rfl rfl rfl rfl rfl rfl (Nat.zero_le _) (Nat.zero_le _) ?_
        refine ww_iload_n dX8_claim_46 rfl rfl ?_
        refine Wxx_call1 H.1 dX8_claim_47 kX8_175 rfl rfl (c8_isAllowed (e := e) H hc hc2 hr hr2 hz hj hT) rfl rfl rfl rfl rfl rfl (Nat.zero_le _) (Nat.zero_le _) ?_
        refine ww_if_ne (tgt := 55) dX8_claim_50 (by decide) (fun c50 => ?_) (fun c50 => ?_)
        · exact absurd c50 (fun q => q (wb_eq0.mpr ha))
        · refine ww_iconst (v := -1) dX8_claim_53 (by decide) ?_
          exact ww_iret dX8_claim_54 rfl ⟨rfl, rfl⟩ (Nat.zero_le _) (Nat.zero_le _)
    · exact absurd c20 (by rw [decide_eq_true hs]; decide)
set_option maxHeartbeats 4000000 in
theorem c8_claim (H : hH Λ O x mr mt mp mk mw ma) {y z e : Int32} {l : Nat} (hl : F 4 0 = nI l) (hl2 : l ≤ 8){p : Nat} (hy : y = nI p) (hp : p < l){c : Nat} (hc : F 5 0 = nI c) (hc2 : c ≤ 200){nr : Nat} (hr : F 0 5 = nI nr) (hr2 : nr ≤ 8){j : Nat} (hz : z = nI j) (hj : j < c) (hT : tkC Λ F O R nr j e) (hs : R 5 6 j = 0) (hm : R 4 3 p < R 4 2 p) (ha : alC R y (rsV R l p) j e = true) : Sat G mX8_claim [.ref x, .int y, .int z] (wld Λ F O R h0, sz) (Det (some (.int (R 4 3 p + 1))) (wld Λ F O (va_up (va_up R 5 (va_up (va_up (R 5) 6 (upd (R 5 6) j 1)) 7 (upd (R 5 7) j y))) 4 (va_up (R 4) 3 (upd (R 4 3) p (R 4 3 p + 1)))) h0, sz)) := by
  refine Sat.of (by decide) [some (.ref x), some (.int y), some (.int z)] rfl rfl (fun X => ?_)
  refine ww_aload_n dX8_claim_0 rfl rfl ?_
  refine Wxx_geto H.1 dX8_claim_1 fX8_19 rfl rfl H.2.2.2.2.2.2.2.2.1 ?_
  refine ww_iload_n dX8_claim_4 rfl rfl ?_
  refine Wpp_call1 H.2.2.2.1 dX8_claim_5 kX8_92 rfl rfl (pp_l0 H.2.2.2.1 (c2_has hl hl2)) rfl rfl rfl rfl rfl rfl (Nat.zero_le _) (Nat.zero_le _) ?_
  refine ww_if_eq (tgt := 23) dX8_claim_8 (by decide) (fun c8 => ?_) (fun c8 => ?_)
  · exact absurd c8 (by rw [hy, wIn_nI hp (by omega)]; decide)
  · refine ww_aload_n dX8_claim_11 rfl rfl ?_
    refine Wxx_geto H.1 dX8_claim_12 fX8_26 rfl rfl H.2.2.2.2.2.2.2.2.2.1 ?_
    refine ww_iload_n dX8_claim_15 rfl rfl ?_
    refine ww_iconst (v := 0) dX8_claim_16 (by decide) ?_
    refine Wtt_call1 H.2.2.2.2.1 dX8_claim_17 kX8_179 rfl rfl (tt_l0 H.2.2.2.2.1 (c6_isIn (y := 0) hc hc2 hz hj)) rfl rfl rfl rfl rfl rfl (Nat.zero_le _) (Nat.zero_le _) ?_
    refine ww_if_ne (tgt := 25) dX8_claim_20 (by decide) (fun c20 => ?_) (fun c20 => ?_)
    · refine ww_aload_n dX8_claim_25 rfl rfl ?_
      refine Wxx_geto H.1 dX8_claim_26 fX8_19 rfl rfl H.2.2.2.2.2.2.2.2.1 ?_
      refine ww_iload_n dX8_claim_29 rfl rfl ?_
      refine Wpp_call1 H.2.2.2.1 dX8_claim_30 kX8_183 rfl rfl (pp_l0 H.2.2.2.1 (c2_hasRoom hl hl2 hy hp)) rfl rfl rfl rfl rfl rfl (Nat.zero_le _) (Nat.zero_le _) ?_
      refine ww_if_eq (tgt := 53) dX8_claim_33 (by decide) (fun c33 => ?_) (fun c33 => ?_)
      · exact absurd c33 (by rw [decide_eq_true hm]; decide)
      · refine ww_aload_n dX8_claim_36 rfl rfl ?_
        refine ww_iload_n dX8_claim_37 rfl rfl ?_
        refine ww_aload_n dX8_claim_38 rfl rfl ?_
        refine Wxx_geto H.1 dX8_claim_39 fX8_19 rfl rfl H.2.2.2.2.2.2.2.2.1 ?_
        refine ww_iload_n dX8_claim_42 rfl rfl ?_
        refine Wpp_call1 H.2.2.2.1 dX8_claim_43 kX8_172 rfl rfl (c8_served H hl hl2 hy hp) rfl rfl rfl rfl rfl rfl (Nat.zero_le _) (Nat.zero_le _) ?_
        refine ww_iload_n dX8_claim_46 rfl rfl ?_
        refine Wxx_call1 H.1 dX8_claim_47 kX8_175 rfl rfl (c8_isAllowed (e := e) H hc hc2 hr hr2 hz hj hT) rfl rfl rfl rfl rfl rfl (Nat.zero_le _) (Nat.zero_le _) ?_
        refine ww_if_ne (tgt := 55) dX8_claim_50 (by decide) (fun c50 => ?_) (fun c50 => ?_)
        · refine ww_aload_n dX8_claim_55 rfl rfl ?_
          refine Wxx_geto H.1 dX8_claim_56 fX8_26 rfl rfl H.2.2.2.2.2.2.2.2.2.1 ?_
          refine ww_iload_n dX8_claim_59 rfl rfl ?_
          refine ww_iload_n dX8_claim_60 rfl rfl ?_
          refine Wtt_call0 H.2.2.2.2.1 dX8_claim_61 kX8_186 rfl rfl (tt_lR H.2.2.2.2.1 (c6_give hc hc2 hz hj)) rfl rfl rfl rfl rfl rfl (Nat.zero_le _) (Nat.zero_le _) ?_
          refine ww_aload_n dX8_claim_64 rfl rfl ?_
          refine Wxx_geto H.1 dX8_claim_65 fX8_19 rfl rfl H.2.2.2.2.2.2.2.2.1 ?_
          refine Wpp_getr H.2.2.2.1 dX8_claim_68 fX8_107 rfl ?_
          refine ww_iload_n dX8_claim_71 rfl rfl ?_
          refine ww_dup2 dX8_claim_72 rfl rfl ?_
          refine Wpp_iald H.2.2.2.1 dX8_claim_73 rfl hy (by omega) rfl ?_
          refine ww_iconst (v := 1) dX8_claim_74 (by decide) ?_
          refine ww_iadd dX8_claim_75 ?_
          refine Wpp_iast H.2.2.2.1 dX8_claim_76 rfl hy (by omega) rfl ?_
          refine ww_aload_n dX8_claim_77 rfl rfl ?_
          refine Wxx_geto H.1 dX8_claim_78 fX8_19 rfl rfl H.2.2.2.2.2.2.2.2.1 ?_
          refine Wpp_getr H.2.2.2.1 dX8_claim_81 fX8_107 rfl ?_
          refine ww_iload_n dX8_claim_84 rfl rfl ?_
          refine Wpp_iald H.2.2.2.1 dX8_claim_85 rfl hy (by omega) rfl ?_
          exact ww_iret dX8_claim_86 rfl ⟨by simp only [w_up_self, w_upd_self]; rfl, rfl⟩ (Nat.zero_le _) (Nat.zero_le _)
        · exact absurd c50 (by rw [ha]; decide)
    · exact absurd c20 (by rw [decide_eq_true hs]; decide)
end X8C
