def spX (X : cX) (b : Nat → Int32) (L s : Nat) : cX := (ad b L X.1, X.2.1, upd X.2.2.1 0 (nI (s + 1)), X.2.2.2)
def stpN (X : cX) : Nat := (X.2.2.1 0).toNatClampNeg
def stepX (b : Nat → Int32) (L : Nat) (X : cX) : cX :=
  if kd b L X.1 = 0 ∨ kd b L X.1 = 8 then
    (if stpN X = 40 then flX b L 4 X else if kd b L X.1 = 0 then doX b L (spX X b L (stpN X)) else setX b L (spX X b L (stpN X)))
  else if kd b L X.1 = 4 ∨ kd b L X.1 = 5 ∨ kd b L X.1 = 7 then
    (if stpN X = 40 ∨ opN X = 4 then flX b L 4 X else if kd b L X.1 = 4 then opX b L 4 (nI (lnN X)) (fkX (spX X b L (stpN X))) else if kd b L X.1 = 5 then opX b L 5 (nI (lnN X)) (tstX b L (spX X b L (stpN X))) else opX b L 7 (nI (lnN X + 1)) (tstX b L (adX 3 0 0 (nI (lnN X + 2)) (spX X b L (stpN X)))))
  else flX b L 1 X
section X3D
variable {G : wG} {Λ : wL} {r t d mr mt md L : Nat} {F : Nat → Nat → Int32} {O : Nat → Nat → Option Nat} {R : Nat → Nat → Nat → Int32} {h0 : Nat → Option wE} {sz : Nat} {X : cX}
set_option maxHeartbeats 4000000 in
theorem c3_step0s40 (J : hJ Λ r t d F O R L mr mt md) {c s o l : Nat} (hp : X.1 ≤ L) (hc : X.2.1 5 = nI c) (hcd : X.2.2.1 1 = nI c) (hcs : c ≤ s) (hs : X.2.2.1 0 = nI s) (hs2 : s ≤ 40) (hl : X.2.2.1 3 = nI l) (hl2 : l ≤ 3 * s) (ho : X.2.1 7 = nI o) (ho2 : o ≤ 4) (hk : kd (R t 0) L X.1 = 0) (h40 : s = 40) : Sat G mX3_readStep [.ref mr] (hX Λ r t d F O R h0 L X, sz) (Det none (hX Λ r t d F O R h0 L (flX (R t 0) L 4 X), sz)) := by
  refine Sat.of (by decide) [some (.ref mr), none, none] rfl rfl (fun Y => ?_)
  have hsN : stpN X = s := by rw [stpN, hs, nI_clamp (by omega)]
  have hlN : lnN X = l := by rw [lnN, hl, nI_clamp (by omega)]
  have h1 : (ad (R t 0) L X.1) ≤ L := (ad_le hp).2
  refine ww_aload_n dX3_readStep_0 rfl rfl ?_
  refine Wrd_geto J.1 dX3_readStep_1 fX3_12 rfl rfl J.2.2.2.1 ?_
  refine Xt_geti J dX3_readStep_4 fX3_68 rfl rfl ?_
  refine ww_istore_n dX3_readStep_7 rfl rfl rfl ?_
  refine ww_iload_n dX3_readStep_8 rfl rfl ?_
  refine ww_iconst (v := 4) dX3_readStep_9 (by decide) ?_
  refine ww_icmp_eq (tgt := 24) dX3_readStep_10 (by decide) (fun c10 => ?_) (fun c10 => ?_)
  · exact absurd c10 (by show ¬ nI (kd (R t 0) L X.1) = nI 4; rw [hk]; decide)
  · refine ww_iload_n dX3_readStep_13 rfl rfl ?_
    refine ww_iconst (v := 5) dX3_readStep_14 (by decide) ?_
    refine ww_icmp_eq (tgt := 24) dX3_readStep_15 (by decide) (fun c15 => ?_) (fun c15 => ?_)
    · exact absurd c15 (by show ¬ nI (kd (R t 0) L X.1) = nI 5; rw [hk]; decide)
    · refine ww_iload_n dX3_readStep_18 rfl rfl ?_
      refine ww_bipush (v := 7) dX3_readStep_19 (by decide) ?_
      refine ww_icmp_ne (tgt := 28) dX3_readStep_21 (by decide) (fun c21 => ?_) (fun c21 => ?_)
      · refine ww_iconst (v := 0) dX3_readStep_28 (by decide) ?_
        refine ww_istore_n dX3_readStep_29 rfl rfl rfl ?_
        refine ww_iload_n dX3_readStep_30 rfl rfl ?_
        refine ww_if_ne (tgt := 50) dX3_readStep_31 (by decide) (fun c31 => ?_) (fun c31 => ?_)
        · exact absurd c31 (fun q => q rfl)
        · refine ww_iload_n dX3_readStep_34 rfl rfl ?_
          refine ww_if_eq (tgt := 50) dX3_readStep_35 (by decide) (fun c35 => ?_) (fun c35 => ?_)
          · refine ww_aload_n dX3_readStep_50 rfl rfl ?_
            refine Wrd_geto J.1 dX3_readStep_51 fX3_28 rfl rfl J.2.2.2.2.1 ?_
            refine Xd_geti J dX3_readStep_54 fX3_94 rfl rfl ?_
            refine ww_bipush (v := 40) dX3_readStep_57 (by decide) ?_
            refine ww_icmp_ge (tgt := 74) dX3_readStep_59 (by decide) (fun c59 => ?_) (fun c59 => ?_)
            · refine ww_aload_n dX3_readStep_74 rfl rfl ?_
              refine ww_iconst (v := 4) dX3_readStep_75 (by decide) ?_
              refine Wrd_call0 J.1 dX3_readStep_76 kX3_90 rfl rfl (c3_fail (X := X) J) rfl rfl rfl rfl rfl rfl (Nat.zero_le _) (Nat.zero_le _) ?_
              exact ww_vret dX3_readStep_79 rfl ⟨rfl, rfl⟩ (Nat.zero_le _) (Nat.zero_le _)
            · exact absurd c59 (fun q => q (by rw [hs]; exact nI_le (a := 40) (by omega) (by omega)))
          · exact absurd c35 (fun q => q (by show nI (kd (R t 0) L X.1) = nI 0; rw [hk]))
      · exact absurd c21 (by show ¬ nI (kd (R t 0) L X.1) = nI 7; rw [hk]; decide)
set_option maxHeartbeats 4000000 in
theorem c3_step8s40 (J : hJ Λ r t d F O R L mr mt md) {c s o l : Nat} (hp : X.1 ≤ L) (hc : X.2.1 5 = nI c) (hcd : X.2.2.1 1 = nI c) (hcs : c ≤ s) (hs : X.2.2.1 0 = nI s) (hs2 : s ≤ 40) (hl : X.2.2.1 3 = nI l) (hl2 : l ≤ 3 * s) (ho : X.2.1 7 = nI o) (ho2 : o ≤ 4) (hk : kd (R t 0) L X.1 = 8) (h40 : s = 40) : Sat G mX3_readStep [.ref mr] (hX Λ r t d F O R h0 L X, sz) (Det none (hX Λ r t d F O R h0 L (flX (R t 0) L 4 X), sz)) := by
  refine Sat.of (by decide) [some (.ref mr), none, none] rfl rfl (fun Y => ?_)
  have hsN : stpN X = s := by rw [stpN, hs, nI_clamp (by omega)]
  have hlN : lnN X = l := by rw [lnN, hl, nI_clamp (by omega)]
  have h1 : (ad (R t 0) L X.1) ≤ L := (ad_le hp).2
  refine ww_aload_n dX3_readStep_0 rfl rfl ?_
  refine Wrd_geto J.1 dX3_readStep_1 fX3_12 rfl rfl J.2.2.2.1 ?_
  refine Xt_geti J dX3_readStep_4 fX3_68 rfl rfl ?_
  refine ww_istore_n dX3_readStep_7 rfl rfl rfl ?_
  refine ww_iload_n dX3_readStep_8 rfl rfl ?_
  refine ww_iconst (v := 4) dX3_readStep_9 (by decide) ?_
  refine ww_icmp_eq (tgt := 24) dX3_readStep_10 (by decide) (fun c10 => ?_) (fun c10 => ?_)
  · exact absurd c10 (by show ¬ nI (kd (R t 0) L X.1) = nI 4; rw [hk]; decide)
  · refine ww_iload_n dX3_readStep_13 rfl rfl ?_
    refine ww_iconst (v := 5) dX3_readStep_14 (by decide) ?_
    refine ww_icmp_eq (tgt := 24) dX3_readStep_15 (by decide) (fun c15 => ?_) (fun c15 => ?_)
    · exact absurd c15 (by show ¬ nI (kd (R t 0) L X.1) = nI 5; rw [hk]; decide)
    · refine ww_iload_n dX3_readStep_18 rfl rfl ?_
      refine ww_bipush (v := 7) dX3_readStep_19 (by decide) ?_
      refine ww_icmp_ne (tgt := 28) dX3_readStep_21 (by decide) (fun c21 => ?_) (fun c21 => ?_)
      · refine ww_iconst (v := 0) dX3_readStep_28 (by decide) ?_
        refine ww_istore_n dX3_readStep_29 rfl rfl rfl ?_
        refine ww_iload_n dX3_readStep_30 rfl rfl ?_
        refine ww_if_ne (tgt := 50) dX3_readStep_31 (by decide) (fun c31 => ?_) (fun c31 => ?_)
        · exact absurd c31 (fun q => q rfl)
        · refine ww_iload_n dX3_readStep_34 rfl rfl ?_
          refine ww_if_eq (tgt := 50) dX3_readStep_35 (by decide) (fun c35 => ?_) (fun c35 => ?_)
          · exact absurd c35 (by show ¬ nI (kd (R t 0) L X.1) = nI 0; rw [hk]; decide)
          · refine ww_iload_n dX3_readStep_38 rfl rfl ?_
            refine ww_bipush (v := 8) dX3_readStep_39 (by decide) ?_
            refine ww_icmp_eq (tgt := 50) dX3_readStep_41 (by decide) (fun c41 => ?_) (fun c41 => ?_)
            · refine ww_aload_n dX3_readStep_50 rfl rfl ?_
              refine Wrd_geto J.1 dX3_readStep_51 fX3_28 rfl rfl J.2.2.2.2.1 ?_
              refine Xd_geti J dX3_readStep_54 fX3_94 rfl rfl ?_
              refine ww_bipush (v := 40) dX3_readStep_57 (by decide) ?_
              refine ww_icmp_ge (tgt := 74) dX3_readStep_59 (by decide) (fun c59 => ?_) (fun c59 => ?_)
              · refine ww_aload_n dX3_readStep_74 rfl rfl ?_
                refine ww_iconst (v := 4) dX3_readStep_75 (by decide) ?_
                refine Wrd_call0 J.1 dX3_readStep_76 kX3_90 rfl rfl (c3_fail (X := X) J) rfl rfl rfl rfl rfl rfl (Nat.zero_le _) (Nat.zero_le _) ?_
                exact ww_vret dX3_readStep_79 rfl ⟨rfl, rfl⟩ (Nat.zero_le _) (Nat.zero_le _)
              · exact absurd c59 (fun q => q (by rw [hs]; exact nI_le (a := 40) (by omega) (by omega)))
            · exact absurd c41 (fun q => q (by show nI (kd (R t 0) L X.1) = nI 8; rw [hk]))
      · exact absurd c21 (by show ¬ nI (kd (R t 0) L X.1) = nI 7; rw [hk]; decide)
set_option maxHeartbeats 4000000 in
theorem c3_step4s40 (J : hJ Λ r t d F O R L mr mt md) {c s o l : Nat} (hp : X.1 ≤ L) (hc : X.2.1 5 = nI c) (hcd : X.2.2.1 1 = nI c) (hcs : c ≤ s) (hs : X.2.2.1 0 = nI s) (hs2 : s ≤ 40) (hl : X.2.2.1 3 = nI l) (hl2 : l ≤ 3 * s) (ho : X.2.1 7 = nI o) (ho2 : o ≤ 4) (hk : kd (R t 0) L X.1 = 4) (h40 : s = 40) : Sat G mX3_readStep [.ref mr] (hX Λ r t d F O R h0 L X, sz) (Det none (hX Λ r t d F O R h0 L (flX (R t 0) L 4 X), sz)) := by
  refine Sat.of (by decide) [some (.ref mr), none, none] rfl rfl (fun Y => ?_)
  have hsN : stpN X = s := by rw [stpN, hs, nI_clamp (by omega)]
  have hlN : lnN X = l := by rw [lnN, hl, nI_clamp (by omega)]
  have h1 : (ad (R t 0) L X.1) ≤ L := (ad_le hp).2
  refine ww_aload_n dX3_readStep_0 rfl rfl ?_
  refine Wrd_geto J.1 dX3_readStep_1 fX3_12 rfl rfl J.2.2.2.1 ?_
  refine Xt_geti J dX3_readStep_4 fX3_68 rfl rfl ?_
  refine ww_istore_n dX3_readStep_7 rfl rfl rfl ?_
  refine ww_iload_n dX3_readStep_8 rfl rfl ?_
  refine ww_iconst (v := 4) dX3_readStep_9 (by decide) ?_
  refine ww_icmp_eq (tgt := 24) dX3_readStep_10 (by decide) (fun c10 => ?_) (fun c10 => ?_)
  · refine ww_iconst (v := 1) dX3_readStep_24 (by decide) ?_
    refine ww_goto (tgt := 29) dX3_readStep_25 (by decide) ?_
    refine ww_istore_n dX3_readStep_29 rfl rfl rfl ?_
    refine ww_iload_n dX3_readStep_30 rfl rfl ?_
    refine ww_if_ne (tgt := 50) dX3_readStep_31 (by decide) (fun c31 => ?_) (fun c31 => ?_)
    · refine ww_aload_n dX3_readStep_50 rfl rfl ?_
      refine Wrd_geto J.1 dX3_readStep_51 fX3_28 rfl rfl J.2.2.2.2.1 ?_
      refine Xd_geti J dX3_readStep_54 fX3_94 rfl rfl ?_
      refine ww_bipush (v := 40) dX3_readStep_57 (by decide) ?_
      refine ww_icmp_ge (tgt := 74) dX3_readStep_59 (by decide) (fun c59 => ?_) (fun c59 => ?_)
      · refine ww_aload_n dX3_readStep_74 rfl rfl ?_
        refine ww_iconst (v := 4) dX3_readStep_75 (by decide) ?_
        refine Wrd_call0 J.1 dX3_readStep_76 kX3_90 rfl rfl (c3_fail (X := X) J) rfl rfl rfl rfl rfl rfl (Nat.zero_le _) (Nat.zero_le _) ?_
        exact ww_vret dX3_readStep_79 rfl ⟨rfl, rfl⟩ (Nat.zero_le _) (Nat.zero_le _)
      · exact absurd c59 (fun q => q (by rw [hs]; exact nI_le (a := 40) (by omega) (by omega)))
    · exact absurd c31 (by decide)
  · exact absurd c10 (fun q => q (by show nI (kd (R t 0) L X.1) = nI 4; rw [hk]))
set_option maxHeartbeats 4000000 in
theorem c3_step4o4 (J : hJ Λ r t d F O R L mr mt md) {c s o l : Nat} (hp : X.1 ≤ L) (hc : X.2.1 5 = nI c) (hcd : X.2.2.1 1 = nI c) (hcs : c ≤ s) (hs : X.2.2.1 0 = nI s) (hs2 : s ≤ 40) (hl : X.2.2.1 3 = nI l) (hl2 : l ≤ 3 * s) (ho : X.2.1 7 = nI o) (ho2 : o ≤ 4) (hk : kd (R t 0) L X.1 = 4) (h40 : s < 40) (h4 : o = 4) : Sat G mX3_readStep [.ref mr] (hX Λ r t d F O R h0 L X, sz) (Det none (hX Λ r t d F O R h0 L (flX (R t 0) L 4 X), sz)) := by
  refine Sat.of (by decide) [some (.ref mr), none, none] rfl rfl (fun Y => ?_)
  have hsN : stpN X = s := by rw [stpN, hs, nI_clamp (by omega)]
  have hlN : lnN X = l := by rw [lnN, hl, nI_clamp (by omega)]
  have h1 : (ad (R t 0) L X.1) ≤ L := (ad_le hp).2
  refine ww_aload_n dX3_readStep_0 rfl rfl ?_
  refine Wrd_geto J.1 dX3_readStep_1 fX3_12 rfl rfl J.2.2.2.1 ?_
  refine Xt_geti J dX3_readStep_4 fX3_68 rfl rfl ?_
  refine ww_istore_n dX3_readStep_7 rfl rfl rfl ?_
  refine ww_iload_n dX3_readStep_8 rfl rfl ?_
  refine ww_iconst (v := 4) dX3_readStep_9 (by decide) ?_
  refine ww_icmp_eq (tgt := 24) dX3_readStep_10 (by decide) (fun c10 => ?_) (fun c10 => ?_)
  · refine ww_iconst (v := 1) dX3_readStep_24 (by decide) ?_
    refine ww_goto (tgt := 29) dX3_readStep_25 (by decide) ?_
    refine ww_istore_n dX3_readStep_29 rfl rfl rfl ?_
    refine ww_iload_n dX3_readStep_30 rfl rfl ?_
    refine ww_if_ne (tgt := 50) dX3_readStep_31 (by decide) (fun c31 => ?_) (fun c31 => ?_)
    · refine ww_aload_n dX3_readStep_50 rfl rfl ?_
      refine Wrd_geto J.1 dX3_readStep_51 fX3_28 rfl rfl J.2.2.2.2.1 ?_
      refine Xd_geti J dX3_readStep_54 fX3_94 rfl rfl ?_
      refine ww_bipush (v := 40) dX3_readStep_57 (by decide) ?_
      refine ww_icmp_ge (tgt := 74) dX3_readStep_59 (by decide) (fun c59 => ?_) (fun c59 => ?_)
      · exact absurd c59 (by rw [hs]; exact Int32.not_le.mpr (nI_lt (b := 40) (by omega) (by decide)))
      · refine ww_iload_n dX3_readStep_62 rfl rfl ?_
        refine ww_if_eq (tgt := 80) dX3_readStep_63 (by decide) (fun c63 => ?_) (fun c63 => ?_)
        · exact absurd c63 (by decide)
        · refine ww_aload_n dX3_readStep_66 rfl rfl ?_
          refine Xr_geti J dX3_readStep_67 fX3_43 rfl rfl ?_
          refine ww_iconst (v := 4) dX3_readStep_70 (by decide) ?_
          refine ww_icmp_lt (tgt := 80) dX3_readStep_71 (by decide) (fun c71 => ?_) (fun c71 => ?_)
          · exact absurd c71 (by rw [ho]; exact Int32.not_lt.mpr (nI_le (a := 4) (by omega) (by omega)))
          · refine ww_aload_n dX3_readStep_74 rfl rfl ?_
            refine ww_iconst (v := 4) dX3_readStep_75 (by decide) ?_
            refine Wrd_call0 J.1 dX3_readStep_76 kX3_90 rfl rfl (c3_fail (X := X) J) rfl rfl rfl rfl rfl rfl (Nat.zero_le _) (Nat.zero_le _) ?_
            exact ww_vret dX3_readStep_79 rfl ⟨rfl, rfl⟩ (Nat.zero_le _) (Nat.zero_le _)
    · exact absurd c31 (by decide)
  · exact absurd c10 (fun q => q (by show nI (kd (R t 0) L X.1) = nI 4; rw [hk]))
set_option maxHeartbeats 4000000 in
theorem c3_step5s40 (J : hJ Λ r t d F O R L mr mt md) {c s o l : Nat} (hp : X.1 ≤ L) (hc : X.2.1 5 = nI c) (hcd : X.2.2.1 1 = nI c) (hcs : c ≤ s) (hs : X.2.2.1 0 = nI s) (hs2 : s ≤ 40) (hl : X.2.2.1 3 = nI l) (hl2 : l ≤ 3 * s) (ho : X.2.1 7 = nI o) (ho2 : o ≤ 4) (hk : kd (R t 0) L X.1 = 5) (h40 : s = 40) : Sat G mX3_readStep [.ref mr] (hX Λ r t d F O R h0 L X, sz) (Det none (hX Λ r t d F O R h0 L (flX (R t 0) L 4 X), sz)) := by
  refine Sat.of (by decide) [some (.ref mr), none, none] rfl rfl (fun Y => ?_)
  have hsN : stpN X = s := by rw [stpN, hs, nI_clamp (by omega)]
  have hlN : lnN X = l := by rw [lnN, hl, nI_clamp (by omega)]
  have h1 : (ad (R t 0) L X.1) ≤ L := (ad_le hp).2
  refine ww_aload_n dX3_readStep_0 rfl rfl ?_
  refine Wrd_geto J.1 dX3_readStep_1 fX3_12 rfl rfl J.2.2.2.1 ?_
  refine Xt_geti J dX3_readStep_4 fX3_68 rfl rfl ?_
  refine ww_istore_n dX3_readStep_7 rfl rfl rfl ?_
  refine ww_iload_n dX3_readStep_8 rfl rfl ?_
  refine ww_iconst (v := 4) dX3_readStep_9 (by decide) ?_
  refine ww_icmp_eq (tgt := 24) dX3_readStep_10 (by decide) (fun c10 => ?_) (fun c10 => ?_)
  · exact absurd c10 (by show ¬ nI (kd (R t 0) L X.1) = nI 4; rw [hk]; decide)
  · refine ww_iload_n dX3_readStep_13 rfl rfl ?_
    refine ww_iconst (v := 5) dX3_readStep_14 (by decide) ?_
    refine ww_icmp_eq (tgt := 24) dX3_readStep_15 (by decide) (fun c15 => ?_) (fun c15 => ?_)
    · refine ww_iconst (v := 1) dX3_readStep_24 (by decide) ?_
      refine ww_goto (tgt := 29) dX3_readStep_25 (by decide) ?_
      refine ww_istore_n dX3_readStep_29 rfl rfl rfl ?_
      refine ww_iload_n dX3_readStep_30 rfl rfl ?_
      refine ww_if_ne (tgt := 50) dX3_readStep_31 (by decide) (fun c31 => ?_) (fun c31 => ?_)
      · refine ww_aload_n dX3_readStep_50 rfl rfl ?_
        refine Wrd_geto J.1 dX3_readStep_51 fX3_28 rfl rfl J.2.2.2.2.1 ?_
        refine Xd_geti J dX3_readStep_54 fX3_94 rfl rfl ?_
        refine ww_bipush (v := 40) dX3_readStep_57 (by decide) ?_
        refine ww_icmp_ge (tgt := 74) dX3_readStep_59 (by decide) (fun c59 => ?_) (fun c59 => ?_)
        · refine ww_aload_n dX3_readStep_74 rfl rfl ?_
          refine ww_iconst (v := 4) dX3_readStep_75 (by decide) ?_
          refine Wrd_call0 J.1 dX3_readStep_76 kX3_90 rfl rfl (c3_fail (X := X) J) rfl rfl rfl rfl rfl rfl (Nat.zero_le _) (Nat.zero_le _) ?_
          exact ww_vret dX3_readStep_79 rfl ⟨rfl, rfl⟩ (Nat.zero_le _) (Nat.zero_le _)
        · exact absurd c59 (fun q => q (by rw [hs]; exact nI_le (a := 40) (by omega) (by omega)))
      · exact absurd c31 (by decide)
    · exact absurd c15 (fun q => q (by show nI (kd (R t 0) L X.1) = nI 5; rw [hk]))
set_option maxHeartbeats 4000000 in
theorem c3_step5o4 (J : hJ Λ r t d F O R L mr mt md) {c s o l : Nat} (hp : X.1 ≤ L) (hc : X.2.1 5 = nI c) (hcd : X.2.2.1 1 = nI c) (hcs : c ≤ s) (hs : X.2.2.1 0 = nI s) (hs2 : s ≤ 40) (hl : X.2.2.1 3 = nI l) (hl2 : l ≤ 3 * s) (ho : X.2.1 7 = nI o) (ho2 : o ≤ 4) (hk : kd (R t 0) L X.1 = 5) (h40 : s < 40) (h4 : o = 4) : Sat G mX3_readStep [.ref mr] (hX Λ r t d F O R h0 L X, sz) (Det none (hX Λ r t d F O R h0 L (flX (R t 0) L 4 X), sz)) := by
  refine Sat.of (by decide) [some (.ref mr), none, none] rfl rfl (fun Y => ?_)
  have hsN : stpN X = s := by rw [stpN, hs, nI_clamp (by omega)]
  have hlN : lnN X = l := by rw [lnN, hl, nI_clamp (by omega)]
  have h1 : (ad (R t 0) L X.1) ≤ L := (ad_le hp).2
  refine ww_aload_n dX3_readStep_0 rfl rfl ?_
  refine Wrd_geto J.1 dX3_readStep_1 fX3_12 rfl rfl J.2.2.2.1 ?_
  refine Xt_geti J dX3_readStep_4 fX3_68 rfl rfl ?_
  refine ww_istore_n dX3_readStep_7 rfl rfl rfl ?_
  refine ww_iload_n dX3_readStep_8 rfl rfl ?_
  refine ww_iconst (v := 4) dX3_readStep_9 (by decide) ?_
  refine ww_icmp_eq (tgt := 24) dX3_readStep_10 (by decide) (fun c10 => ?_) (fun c10 => ?_)
  · exact absurd c10 (by show ¬ nI (kd (R t 0) L X.1) = nI 4; rw [hk]; decide)
  · refine ww_iload_n dX3_readStep_13 rfl rfl ?_
    refine ww_iconst (v := 5) dX3_readStep_14 (by decide) ?_
    refine ww_icmp_eq (tgt := 24) dX3_readStep_15 (by decide) (fun c15 => ?_) (fun c15 => ?_)
    · refine ww_iconst (v := 1) dX3_readStep_24 (by decide) ?_
      refine ww_goto (tgt := 29) dX3_readStep_25 (by decide) ?_
      refine ww_istore_n dX3_readStep_29 rfl rfl rfl ?_
      refine ww_iload_n dX3_readStep_30 rfl rfl ?_
      refine ww_if_ne (tgt := 50) dX3_readStep_31 (by decide) (fun c31 => ?_) (fun c31 => ?_)
      · refine ww_aload_n dX3_readStep_50 rfl rfl ?_
        refine Wrd_geto J.1 dX3_readStep_51 fX3_28 rfl rfl J.2.2.2.2.1 ?_
        refine Xd_geti J dX3_readStep_54 fX3_94 rfl rfl ?_
        refine ww_bipush (v := 40) dX3_readStep_57 (by decide) ?_
        refine ww_icmp_ge (tgt := 74) dX3_readStep_59 (by decide) (fun c59 => ?_) (fun c59 => ?_)
        · exact absurd c59 (by rw [hs]; exact Int32.not_le.mpr (nI_lt (b := 40) (by omega) (by decide)))
        · refine ww_iload_n dX3_readStep_62 rfl rfl ?_
          refine ww_if_eq (tgt := 80) dX3_readStep_63 (by decide) (fun c63 => ?_) (fun c63 => ?_)
          · exact absurd c63 (by decide)
          · refine ww_aload_n dX3_readStep_66 rfl rfl ?_
            refine Xr_geti J dX3_readStep_67 fX3_43 rfl rfl ?_
            refine ww_iconst (v := 4) dX3_readStep_70 (by decide) ?_
            refine ww_icmp_lt (tgt := 80) dX3_readStep_71 (by decide) (fun c71 => ?_) (fun c71 => ?_)
            · exact absurd c71 (by rw [ho]; exact Int32.not_lt.mpr (nI_le (a := 4) (by omega) (by omega)))
            · refine ww_aload_n dX3_readStep_74 rfl rfl ?_
              refine ww_iconst (v := 4) dX3_readStep_75 (by decide) ?_
              refine Wrd_call0 J.1 dX3_readStep_76 kX3_90 rfl rfl (c3_fail (X := X) J) rfl rfl rfl rfl rfl rfl (Nat.zero_le _) (Nat.zero_le _) ?_
              exact ww_vret dX3_readStep_79 rfl ⟨rfl, rfl⟩ (Nat.zero_le _) (Nat.zero_le _)
      · exact absurd c31 (by decide)
    · exact absurd c15 (fun q => q (by show nI (kd (R t 0) L X.1) = nI 5; rw [hk]))
set_option maxHeartbeats 4000000 in
theorem c3_step7s40 (J : hJ Λ r t d F O R L mr mt md) {c s o l : Nat} (hp : X.1 ≤ L) (hc : X.2.1 5 = nI c) (hcd : X.2.2.1 1 = nI c) (hcs : c ≤ s) (hs : X.2.2.1 0 = nI s) (hs2 : s ≤ 40) (hl : X.2.2.1 3 = nI l) (hl2 : l ≤ 3 * s) (ho : X.2.1 7 = nI o) (ho2 : o ≤ 4) (hk : kd (R t 0) L X.1 = 7) (h40 : s = 40) : Sat G mX3_readStep [.ref mr] (hX Λ r t d F O R h0 L X, sz) (Det none (hX Λ r t d F O R h0 L (flX (R t 0) L 4 X), sz)) := by
  refine Sat.of (by decide) [some (.ref mr), none, none] rfl rfl (fun Y => ?_)
  have hsN : stpN X = s := by rw [stpN, hs, nI_clamp (by omega)]
  have hlN : lnN X = l := by rw [lnN, hl, nI_clamp (by omega)]
  have h1 : (ad (R t 0) L X.1) ≤ L := (ad_le hp).2
  refine ww_aload_n dX3_readStep_0 rfl rfl ?_
  refine Wrd_geto J.1 dX3_readStep_1 fX3_12 rfl rfl J.2.2.2.1 ?_
  refine Xt_geti J dX3_readStep_4 fX3_68 rfl rfl ?_
  refine ww_istore_n dX3_readStep_7 rfl rfl rfl ?_
  refine ww_iload_n dX3_readStep_8 rfl rfl ?_
  refine ww_iconst (v := 4) dX3_readStep_9 (by decide) ?_
  refine ww_icmp_eq (tgt := 24) dX3_readStep_10 (by decide) (fun c10 => ?_) (fun c10 => ?_)
  · exact absurd c10 (by show ¬ nI (kd (R t 0) L X.1) = nI 4; rw [hk]; decide)
  · refine ww_iload_n dX3_readStep_13 rfl rfl ?_
    refine ww_iconst (v := 5) dX3_readStep_14 (by decide) ?_
    refine ww_icmp_eq (tgt := 24) dX3_readStep_15 (by decide) (fun c15 => ?_) (fun c15 => ?_)
    · exact absurd c15 (by show ¬ nI (kd (R t 0) L X.1) = nI 5; rw [hk]; decide)
    · refine ww_iload_n dX3_readStep_18 rfl rfl ?_
      refine ww_bipush (v := 7) dX3_readStep_19 (by decide) ?_
      refine ww_icmp_ne (tgt := 28) dX3_readStep_21 (by decide) (fun c21 => ?_) (fun c21 => ?_)
      · exact absurd c21 (fun q => q (by show nI (kd (R t 0) L X.1) = nI 7; rw [hk]))
      · refine ww_iconst (v := 1) dX3_readStep_24 (by decide) ?_
        refine ww_goto (tgt := 29) dX3_readStep_25 (by decide) ?_
        refine ww_istore_n dX3_readStep_29 rfl rfl rfl ?_
        refine ww_iload_n dX3_readStep_30 rfl rfl ?_
        refine ww_if_ne (tgt := 50) dX3_readStep_31 (by decide) (fun c31 => ?_) (fun c31 => ?_)
        · refine ww_aload_n dX3_readStep_50 rfl rfl ?_
          refine Wrd_geto J.1 dX3_readStep_51 fX3_28 rfl rfl J.2.2.2.2.1 ?_
          refine Xd_geti J dX3_readStep_54 fX3_94 rfl rfl ?_
          refine ww_bipush (v := 40) dX3_readStep_57 (by decide) ?_
          refine ww_icmp_ge (tgt := 74) dX3_readStep_59 (by decide) (fun c59 => ?_) (fun c59 => ?_)
          · refine ww_aload_n dX3_readStep_74 rfl rfl ?_
            refine ww_iconst (v := 4) dX3_readStep_75 (by decide) ?_
            refine Wrd_call0 J.1 dX3_readStep_76 kX3_90 rfl rfl (c3_fail (X := X) J) rfl rfl rfl rfl rfl rfl (Nat.zero_le _) (Nat.zero_le _) ?_
            exact ww_vret dX3_readStep_79 rfl ⟨rfl, rfl⟩ (Nat.zero_le _) (Nat.zero_le _)
          · exact absurd c59 (fun q => q (by rw [hs]; exact nI_le (a := 40) (by omega) (by omega)))
        · exact absurd c31 (by decide)
set_option maxHeartbeats 4000000 in
theorem c3_step7o4 (J : hJ Λ r t d F O R L mr mt md) {c s o l : Nat} (hp : X.1 ≤ L) (hc : X.2.1 5 = nI c) (hcd : X.2.2.1 1 = nI c) (hcs : c ≤ s) (hs : X.2.2.1 0 = nI s) (hs2 : s ≤ 40) (hl : X.2.2.1 3 = nI l) (hl2 : l ≤ 3 * s) (ho : X.2.1 7 = nI o) (ho2 : o ≤ 4) (hk : kd (R t 0) L X.1 = 7) (h40 : s < 40) (h4 : o = 4) : Sat G mX3_readStep [.ref mr] (hX Λ r t d F O R h0 L X, sz) (Det none (hX Λ r t d F O R h0 L (flX (R t 0) L 4 X), sz)) := by
  refine Sat.of (by decide) [some (.ref mr), none, none] rfl rfl (fun Y => ?_)
  have hsN : stpN X = s := by rw [stpN, hs, nI_clamp (by omega)]
  have hlN : lnN X = l := by rw [lnN, hl, nI_clamp (by omega)]
  have h1 : (ad (R t 0) L X.1) ≤ L := (ad_le hp).2
  refine ww_aload_n dX3_readStep_0 rfl rfl ?_
  refine Wrd_geto J.1 dX3_readStep_1 fX3_12 rfl rfl J.2.2.2.1 ?_
  refine Xt_geti J dX3_readStep_4 fX3_68 rfl rfl ?_
  refine ww_istore_n dX3_readStep_7 rfl rfl rfl ?_
  refine ww_iload_n dX3_readStep_8 rfl rfl ?_
  refine ww_iconst (v := 4) dX3_readStep_9 (by decide) ?_
  refine ww_icmp_eq (tgt := 24) dX3_readStep_10 (by decide) (fun c10 => ?_) (fun c10 => ?_)
  · exact absurd c10 (by show ¬ nI (kd (R t 0) L X.1) = nI 4; rw [hk]; decide)
  · refine ww_iload_n dX3_readStep_13 rfl rfl ?_
    refine ww_iconst (v := 5) dX3_readStep_14 (by decide) ?_
    refine ww_icmp_eq (tgt := 24) dX3_readStep_15 (by decide) (fun c15 => ?_) (fun c15 => ?_)
    · exact absurd c15 (by show ¬ nI (kd (R t 0) L X.1) = nI 5; rw [hk]; decide)
    · refine ww_iload_n dX3_readStep_18 rfl rfl ?_
      refine ww_bipush (v := 7) dX3_readStep_19 (by decide) ?_
      refine ww_icmp_ne (tgt := 28) dX3_readStep_21 (by decide) (fun c21 => ?_) (fun c21 => ?_)
      · exact absurd c21 (fun q => q (by show nI (kd (R t 0) L X.1) = nI 7; rw [hk]))
      · refine ww_iconst (v := 1) dX3_readStep_24 (by decide) ?_
        refine ww_goto (tgt := 29) dX3_readStep_25 (by decide) ?_
        refine ww_istore_n dX3_readStep_29 rfl rfl rfl ?_
        refine ww_iload_n dX3_readStep_30 rfl rfl ?_
        refine ww_if_ne (tgt := 50) dX3_readStep_31 (by decide) (fun c31 => ?_) (fun c31 => ?_)
        · refine ww_aload_n dX3_readStep_50 rfl rfl ?_
          refine Wrd_geto J.1 dX3_readStep_51 fX3_28 rfl rfl J.2.2.2.2.1 ?_
          refine Xd_geti J dX3_readStep_54 fX3_94 rfl rfl ?_
          refine ww_bipush (v := 40) dX3_readStep_57 (by decide) ?_
          refine ww_icmp_ge (tgt := 74) dX3_readStep_59 (by decide) (fun c59 => ?_) (fun c59 => ?_)
          · exact absurd c59 (by rw [hs]; exact Int32.not_le.mpr (nI_lt (b := 40) (by omega) (by decide)))
          · refine ww_iload_n dX3_readStep_62 rfl rfl ?_
            refine ww_if_eq (tgt := 80) dX3_readStep_63 (by decide) (fun c63 => ?_) (fun c63 => ?_)
            · exact absurd c63 (by decide)
            · refine ww_aload_n dX3_readStep_66 rfl rfl ?_
              refine Xr_geti J dX3_readStep_67 fX3_43 rfl rfl ?_
              refine ww_iconst (v := 4) dX3_readStep_70 (by decide) ?_
              refine ww_icmp_lt (tgt := 80) dX3_readStep_71 (by decide) (fun c71 => ?_) (fun c71 => ?_)
              · exact absurd c71 (by rw [ho]; exact Int32.not_lt.mpr (nI_le (a := 4) (by omega) (by omega)))
              · refine ww_aload_n dX3_readStep_74 rfl rfl ?_
                refine ww_iconst (v := 4) dX3_readStep_75 (by decide) ?_
                refine Wrd_call0 J.1 dX3_readStep_76 kX3_90 rfl rfl (c3_fail (X := X) J) rfl rfl rfl rfl rfl rfl (Nat.zero_le _) (Nat.zero_le _) ?_
                exact ww_vret dX3_readStep_79 rfl ⟨rfl, rfl⟩ (Nat.zero_le _) (Nat.zero_le _)
        · exact absurd c31 (by decide)
set_option maxHeartbeats 4000000 in
theorem c3_step0ok (J : hJ Λ r t d F O R L mr mt md) {c s o l : Nat} (hp : X.1 ≤ L) (hc : X.2.1 5 = nI c) (hcd : X.2.2.1 1 = nI c) (hcs : c ≤ s) (hs : X.2.2.1 0 = nI s) (hs2 : s ≤ 40) (hl : X.2.2.1 3 = nI l) (hl2 : l ≤ 3 * s) (ho : X.2.1 7 = nI o) (ho2 : o ≤ 4) (hk : kd (R t 0) L X.1 = 0) (h40 : s < 40) : Sat G mX3_readStep [.ref mr] (hX Λ r t d F O R h0 L X, sz) (Det none (hX Λ r t d F O R h0 L (doX (R t 0) L (spX X (R t 0) L s)), sz)) := by
  refine Sat.of (by decide) [some (.ref mr), none, none] rfl rfl (fun Y => ?_)
  have hsN : stpN X = s := by rw [stpN, hs, nI_clamp (by omega)]
  have hlN : lnN X = l := by rw [lnN, hl, nI_clamp (by omega)]
  have h1 : (ad (R t 0) L X.1) ≤ L := (ad_le hp).2
  refine ww_aload_n dX3_readStep_0 rfl rfl ?_
  refine Wrd_geto J.1 dX3_readStep_1 fX3_12 rfl rfl J.2.2.2.1 ?_
  refine Xt_geti J dX3_readStep_4 fX3_68 rfl rfl ?_
  refine ww_istore_n dX3_readStep_7 rfl rfl rfl ?_
  refine ww_iload_n dX3_readStep_8 rfl rfl ?_
  refine ww_iconst (v := 4) dX3_readStep_9 (by decide) ?_
  refine ww_icmp_eq (tgt := 24) dX3_readStep_10 (by decide) (fun c10 => ?_) (fun c10 => ?_)
  · exact absurd c10 (by show ¬ nI (kd (R t 0) L X.1) = nI 4; rw [hk]; decide)
  · refine ww_iload_n dX3_readStep_13 rfl rfl ?_
    refine ww_iconst (v := 5) dX3_readStep_14 (by decide) ?_
    refine ww_icmp_eq (tgt := 24) dX3_readStep_15 (by decide) (fun c15 => ?_) (fun c15 => ?_)
    · exact absurd c15 (by show ¬ nI (kd (R t 0) L X.1) = nI 5; rw [hk]; decide)
    · refine ww_iload_n dX3_readStep_18 rfl rfl ?_
      refine ww_bipush (v := 7) dX3_readStep_19 (by decide) ?_
      refine ww_icmp_ne (tgt := 28) dX3_readStep_21 (by decide) (fun c21 => ?_) (fun c21 => ?_)
      · refine ww_iconst (v := 0) dX3_readStep_28 (by decide) ?_
        refine ww_istore_n dX3_readStep_29 rfl rfl rfl ?_
        refine ww_iload_n dX3_readStep_30 rfl rfl ?_
        refine ww_if_ne (tgt := 50) dX3_readStep_31 (by decide) (fun c31 => ?_) (fun c31 => ?_)
        · exact absurd c31 (fun q => q rfl)
        · refine ww_iload_n dX3_readStep_34 rfl rfl ?_
          refine ww_if_eq (tgt := 50) dX3_readStep_35 (by decide) (fun c35 => ?_) (fun c35 => ?_)
          · refine ww_aload_n dX3_readStep_50 rfl rfl ?_
            refine Wrd_geto J.1 dX3_readStep_51 fX3_28 rfl rfl J.2.2.2.2.1 ?_
            refine Xd_geti J dX3_readStep_54 fX3_94 rfl rfl ?_
            refine ww_bipush (v := 40) dX3_readStep_57 (by decide) ?_
            refine ww_icmp_ge (tgt := 74) dX3_readStep_59 (by decide) (fun c59 => ?_) (fun c59 => ?_)
            · exact absurd c59 (by rw [hs]; exact Int32.not_le.mpr (nI_lt (b := 40) (by omega) (by decide)))
            · refine ww_iload_n dX3_readStep_62 rfl rfl ?_
              refine ww_if_eq (tgt := 80) dX3_readStep_63 (by decide) (fun c63 => ?_) (fun c63 => ?_)
              · refine ww_aload_n dX3_readStep_80 rfl rfl ?_
                refine Wrd_geto J.1 dX3_readStep_81 fX3_28 rfl rfl J.2.2.2.2.1 ?_
                refine ww_dup dX3_readStep_84 rfl ?_
                refine Xd_geti J dX3_readStep_85 fX3_94 rfl rfl ?_
                refine ww_iconst (v := 1) dX3_readStep_88 (by decide) ?_
                refine ww_iadd dX3_readStep_89 ?_
                refine Xd_puti J dX3_readStep_90 fX3_94 rfl rfl ?_
                refine ww_aload_n dX3_readStep_93 rfl rfl ?_
                refine Wrd_geto J.1 dX3_readStep_94 fX3_12 rfl rfl J.2.2.2.1 ?_
                refine Wta_call0 J.2.1 dX3_readStep_97 kX3_97 rfl rfl (x3_take (X := (X.1, X.2.1, upd X.2.2.1 0 (X.2.2.1 0 + 1), X.2.2.2)) J hp) rfl rfl rfl rfl rfl rfl (Nat.zero_le _) (Nat.zero_le _) ?_
                rw [hs, nI_1]
                refine ww_iload_n dX3_readStep_100 rfl rfl ?_
                refine ww_table [152, 193, 193, 193, 166, 181, 193, 193, 159] 193 dX3_readStep_101 (by decide) (by decide) (by decide) (fun j101 t101 ht101 c101 => ?_) (fun c101 => ?_)
                · rcases j101 with _ | _ | _ | _ | _ | _ | _ | _ | _ | j
                  · cases ht101
                    refine ww_aload_n dX3_readStep_152 rfl rfl ?_
                    refine Wrd_call0 J.1 dX3_readStep_153 kX3_100 rfl rfl (c3_readDo (X := (spX X (R t 0) L s)) J h1 hc (by omega) hcd (by omega) ho ho2 hl (by omega)) rfl rfl rfl rfl rfl rfl (Nat.zero_le _) (Nat.zero_le _) ?_
                    refine ww_goto (tgt := 222) dX3_readStep_156 (by decide) ?_
                    exact ww_vret dX3_readStep_222 rfl ⟨rfl, rfl⟩ (Nat.zero_le _) (Nat.zero_le _)
                  · cases ht101
                    rw [show taF (R t 0) L X.1 (F t) 2 = nI 0 from congrArg nI hk] at c101
                    exact absurd c101 (by decide)
                  · cases ht101
                    rw [show taF (R t 0) L X.1 (F t) 2 = nI 0 from congrArg nI hk] at c101
                    exact absurd c101 (by decide)
                  · cases ht101
                    rw [show taF (R t 0) L X.1 (F t) 2 = nI 0 from congrArg nI hk] at c101
                    exact absurd c101 (by decide)
                  · cases ht101
                    rw [show taF (R t 0) L X.1 (F t) 2 = nI 0 from congrArg nI hk] at c101
                    exact absurd c101 (by decide)
                  · cases ht101
                    rw [show taF (R t 0) L X.1 (F t) 2 = nI 0 from congrArg nI hk] at c101
                    exact absurd c101 (by decide)
                  · cases ht101
                    rw [show taF (R t 0) L X.1 (F t) 2 = nI 0 from congrArg nI hk] at c101
                    exact absurd c101 (by decide)
                  · cases ht101
                    rw [show taF (R t 0) L X.1 (F t) 2 = nI 0 from congrArg nI hk] at c101
                    exact absurd c101 (by decide)
                  · cases ht101
                    rw [show taF (R t 0) L X.1 (F t) 2 = nI 0 from congrArg nI hk] at c101
                    exact absurd c101 (by decide)
                  · cases ht101
                · rw [show taF (R t 0) L X.1 (F t) 2 = nI 0 from congrArg nI hk] at c101
                  exact absurd c101 (by decide)
              · exact absurd c63 (fun q => q rfl)
          · exact absurd c35 (fun q => q (by show nI (kd (R t 0) L X.1) = nI 0; rw [hk]))
      · exact absurd c21 (by show ¬ nI (kd (R t 0) L X.1) = nI 7; rw [hk]; decide)
set_option maxHeartbeats 4000000 in
theorem c3_step8ok (J : hJ Λ r t d F O R L mr mt md) {c s o l : Nat} (hp : X.1 ≤ L) (hc : X.2.1 5 = nI c) (hcd : X.2.2.1 1 = nI c) (hcs : c ≤ s) (hs : X.2.2.1 0 = nI s) (hs2 : s ≤ 40) (hl : X.2.2.1 3 = nI l) (hl2 : l ≤ 3 * s) (ho : X.2.1 7 = nI o) (ho2 : o ≤ 4) (hk : kd (R t 0) L X.1 = 8) (h40 : s < 40) : Sat G mX3_readStep [.ref mr] (hX Λ r t d F O R h0 L X, sz) (Det none (hX Λ r t d F O R h0 L (setX (R t 0) L (spX X (R t 0) L s)), sz)) := by
  refine Sat.of (by decide) [some (.ref mr), none, none] rfl rfl (fun Y => ?_)
  have hsN : stpN X = s := by rw [stpN, hs, nI_clamp (by omega)]
  have hlN : lnN X = l := by rw [lnN, hl, nI_clamp (by omega)]
  have h1 : (ad (R t 0) L X.1) ≤ L := (ad_le hp).2
  refine ww_aload_n dX3_readStep_0 rfl rfl ?_
  refine Wrd_geto J.1 dX3_readStep_1 fX3_12 rfl rfl J.2.2.2.1 ?_
  refine Xt_geti J dX3_readStep_4 fX3_68 rfl rfl ?_
  refine ww_istore_n dX3_readStep_7 rfl rfl rfl ?_
  refine ww_iload_n dX3_readStep_8 rfl rfl ?_
  refine ww_iconst (v := 4) dX3_readStep_9 (by decide) ?_
  refine ww_icmp_eq (tgt := 24) dX3_readStep_10 (by decide) (fun c10 => ?_) (fun c10 => ?_)
  · exact absurd c10 (by show ¬ nI (kd (R t 0) L X.1) = nI 4; rw [hk]; decide)
  · refine ww_iload_n dX3_readStep_13 rfl rfl ?_
    refine ww_iconst (v := 5) dX3_readStep_14 (by decide) ?_
    refine ww_icmp_eq (tgt := 24) dX3_readStep_15 (by decide) (fun c15 => ?_) (fun c15 => ?_)
    · exact absurd c15 (by show ¬ nI (kd (R t 0) L X.1) = nI 5; rw [hk]; decide)
    · refine ww_iload_n dX3_readStep_18 rfl rfl ?_
      refine ww_bipush (v := 7) dX3_readStep_19 (by decide) ?_
      refine ww_icmp_ne (tgt := 28) dX3_readStep_21 (by decide) (fun c21 => ?_) (fun c21 => ?_)
      · refine ww_iconst (v := 0) dX3_readStep_28 (by decide) ?_
        refine ww_istore_n dX3_readStep_29 rfl rfl rfl ?_
        refine ww_iload_n dX3_readStep_30 rfl rfl ?_
        refine ww_if_ne (tgt := 50) dX3_readStep_31 (by decide) (fun c31 => ?_) (fun c31 => ?_)
        · exact absurd c31 (fun q => q rfl)
        · refine ww_iload_n dX3_readStep_34 rfl rfl ?_
          refine ww_if_eq (tgt := 50) dX3_readStep_35 (by decide) (fun c35 => ?_) (fun c35 => ?_)
          · exact absurd c35 (by show ¬ nI (kd (R t 0) L X.1) = nI 0; rw [hk]; decide)
          · refine ww_iload_n dX3_readStep_38 rfl rfl ?_
            refine ww_bipush (v := 8) dX3_readStep_39 (by decide) ?_
            refine ww_icmp_eq (tgt := 50) dX3_readStep_41 (by decide) (fun c41 => ?_) (fun c41 => ?_)
            · refine ww_aload_n dX3_readStep_50 rfl rfl ?_
              refine Wrd_geto J.1 dX3_readStep_51 fX3_28 rfl rfl J.2.2.2.2.1 ?_
              refine Xd_geti J dX3_readStep_54 fX3_94 rfl rfl ?_
              refine ww_bipush (v := 40) dX3_readStep_57 (by decide) ?_
              refine ww_icmp_ge (tgt := 74) dX3_readStep_59 (by decide) (fun c59 => ?_) (fun c59 => ?_)
              · exact absurd c59 (by rw [hs]; exact Int32.not_le.mpr (nI_lt (b := 40) (by omega) (by decide)))
              · refine ww_iload_n dX3_readStep_62 rfl rfl ?_
                refine ww_if_eq (tgt := 80) dX3_readStep_63 (by decide) (fun c63 => ?_) (fun c63 => ?_)
                · refine ww_aload_n dX3_readStep_80 rfl rfl ?_
                  refine Wrd_geto J.1 dX3_readStep_81 fX3_28 rfl rfl J.2.2.2.2.1 ?_
                  refine ww_dup dX3_readStep_84 rfl ?_
                  refine Xd_geti J dX3_readStep_85 fX3_94 rfl rfl ?_
                  refine ww_iconst (v := 1) dX3_readStep_88 (by decide) ?_
                  refine ww_iadd dX3_readStep_89 ?_
                  refine Xd_puti J dX3_readStep_90 fX3_94 rfl rfl ?_
                  refine ww_aload_n dX3_readStep_93 rfl rfl ?_
                  refine Wrd_geto J.1 dX3_readStep_94 fX3_12 rfl rfl J.2.2.2.1 ?_
                  refine Wta_call0 J.2.1 dX3_readStep_97 kX3_97 rfl rfl (x3_take (X := (X.1, X.2.1, upd X.2.2.1 0 (X.2.2.1 0 + 1), X.2.2.2)) J hp) rfl rfl rfl rfl rfl rfl (Nat.zero_le _) (Nat.zero_le _) ?_
                  rw [hs, nI_1]
                  refine ww_iload_n dX3_readStep_100 rfl rfl ?_
                  refine ww_table [152, 193, 193, 193, 166, 181, 193, 193, 159] 193 dX3_readStep_101 (by decide) (by decide) (by decide) (fun j101 t101 ht101 c101 => ?_) (fun c101 => ?_)
                  · rcases j101 with _ | _ | _ | _ | _ | _ | _ | _ | _ | j
                    · cases ht101
                      rw [show taF (R t 0) L X.1 (F t) 2 = nI 8 from congrArg nI hk] at c101
                      exact absurd c101 (by decide)
                    · cases ht101
                      rw [show taF (R t 0) L X.1 (F t) 2 = nI 8 from congrArg nI hk] at c101
                      exact absurd c101 (by decide)
                    · cases ht101
                      rw [show taF (R t 0) L X.1 (F t) 2 = nI 8 from congrArg nI hk] at c101
                      exact absurd c101 (by decide)
                    · cases ht101
                      rw [show taF (R t 0) L X.1 (F t) 2 = nI 8 from congrArg nI hk] at c101
                      exact absurd c101 (by decide)
                    · cases ht101
                      rw [show taF (R t 0) L X.1 (F t) 2 = nI 8 from congrArg nI hk] at c101
                      exact absurd c101 (by decide)
                    · cases ht101
                      rw [show taF (R t 0) L X.1 (F t) 2 = nI 8 from congrArg nI hk] at c101
                      exact absurd c101 (by decide)
                    · cases ht101
                      rw [show taF (R t 0) L X.1 (F t) 2 = nI 8 from congrArg nI hk] at c101
                      exact absurd c101 (by decide)
                    · cases ht101
                      rw [show taF (R t 0) L X.1 (F t) 2 = nI 8 from congrArg nI hk] at c101
                      exact absurd c101 (by decide)
                    · cases ht101
                      refine ww_aload_n dX3_readStep_159 rfl rfl ?_
                      refine Wrd_call0 J.1 dX3_readStep_160 kX3_103 rfl rfl (c3_readSet (X := (spX X (R t 0) L s)) J h1 hl (by omega)) rfl rfl rfl rfl rfl rfl (Nat.zero_le _) (Nat.zero_le _) ?_
                      refine ww_goto (tgt := 222) dX3_readStep_163 (by decide) ?_
                      exact ww_vret dX3_readStep_222 rfl ⟨rfl, rfl⟩ (Nat.zero_le _) (Nat.zero_le _)
                    · cases ht101
                  · rw [show taF (R t 0) L X.1 (F t) 2 = nI 8 from congrArg nI hk] at c101
                    exact absurd c101 (by decide)
                · exact absurd c63 (fun q => q rfl)
            · exact absurd c41 (fun q => q (by show nI (kd (R t 0) L X.1) = nI 8; rw [hk]))
      · exact absurd c21 (by show ¬ nI (kd (R t 0) L X.1) = nI 7; rw [hk]; decide)
set_option maxHeartbeats 4000000 in
theorem c3_step4ok (J : hJ Λ r t d F O R L mr mt md) {c s o l : Nat} (hp : X.1 ≤ L) (hc : X.2.1 5 = nI c) (hcd : X.2.2.1 1 = nI c) (hcs : c ≤ s) (hs : X.2.2.1 0 = nI s) (hs2 : s ≤ 40) (hl : X.2.2.1 3 = nI l) (hl2 : l ≤ 3 * s) (ho : X.2.1 7 = nI o) (ho2 : o ≤ 4) (hk : kd (R t 0) L X.1 = 4) (h40 : s < 40) (h4 : o < 4) : Sat G mX3_readStep [.ref mr] (hX Λ r t d F O R h0 L X, sz) (Det none (hX Λ r t d F O R h0 L (opX (R t 0) L 4 (nI l) (fkX (spX X (R t 0) L s))), sz)) := by
  refine Sat.of (by decide) [some (.ref mr), none, none] rfl rfl (fun Y => ?_)
  have hsN : stpN X = s := by rw [stpN, hs, nI_clamp (by omega)]
  have hlN : lnN X = l := by rw [lnN, hl, nI_clamp (by omega)]
  have h1 : (ad (R t 0) L X.1) ≤ L := (ad_le hp).2
  refine ww_aload_n dX3_readStep_0 rfl rfl ?_
  refine Wrd_geto J.1 dX3_readStep_1 fX3_12 rfl rfl J.2.2.2.1 ?_
  refine Xt_geti J dX3_readStep_4 fX3_68 rfl rfl ?_
  refine ww_istore_n dX3_readStep_7 rfl rfl rfl ?_
  refine ww_iload_n dX3_readStep_8 rfl rfl ?_
  refine ww_iconst (v := 4) dX3_readStep_9 (by decide) ?_
  refine ww_icmp_eq (tgt := 24) dX3_readStep_10 (by decide) (fun c10 => ?_) (fun c10 => ?_)
  · refine ww_iconst (v := 1) dX3_readStep_24 (by decide) ?_
    refine ww_goto (tgt := 29) dX3_readStep_25 (by decide) ?_
    refine ww_istore_n dX3_readStep_29 rfl rfl rfl ?_
    refine ww_iload_n dX3_readStep_30 rfl rfl ?_
    refine ww_if_ne (tgt := 50) dX3_readStep_31 (by decide) (fun c31 => ?_) (fun c31 => ?_)
    · refine ww_aload_n dX3_readStep_50 rfl rfl ?_
      refine Wrd_geto J.1 dX3_readStep_51 fX3_28 rfl rfl J.2.2.2.2.1 ?_
      refine Xd_geti J dX3_readStep_54 fX3_94 rfl rfl ?_
      refine ww_bipush (v := 40) dX3_readStep_57 (by decide) ?_
      refine ww_icmp_ge (tgt := 74) dX3_readStep_59 (by decide) (fun c59 => ?_) (fun c59 => ?_)
      · exact absurd c59 (by rw [hs]; exact Int32.not_le.mpr (nI_lt (b := 40) (by omega) (by decide)))
      · refine ww_iload_n dX3_readStep_62 rfl rfl ?_
        refine ww_if_eq (tgt := 80) dX3_readStep_63 (by decide) (fun c63 => ?_) (fun c63 => ?_)
        · exact absurd c63 (by decide)
        · refine ww_aload_n dX3_readStep_66 rfl rfl ?_
          refine Xr_geti J dX3_readStep_67 fX3_43 rfl rfl ?_
          refine ww_iconst (v := 4) dX3_readStep_70 (by decide) ?_
          refine ww_icmp_lt (tgt := 80) dX3_readStep_71 (by decide) (fun c71 => ?_) (fun c71 => ?_)
          · refine ww_aload_n dX3_readStep_80 rfl rfl ?_
            refine Wrd_geto J.1 dX3_readStep_81 fX3_28 rfl rfl J.2.2.2.2.1 ?_
            refine ww_dup dX3_readStep_84 rfl ?_
            refine Xd_geti J dX3_readStep_85 fX3_94 rfl rfl ?_
            refine ww_iconst (v := 1) dX3_readStep_88 (by decide) ?_
            refine ww_iadd dX3_readStep_89 ?_
            refine Xd_puti J dX3_readStep_90 fX3_94 rfl rfl ?_
            refine ww_aload_n dX3_readStep_93 rfl rfl ?_
            refine Wrd_geto J.1 dX3_readStep_94 fX3_12 rfl rfl J.2.2.2.1 ?_
            refine Wta_call0 J.2.1 dX3_readStep_97 kX3_97 rfl rfl (x3_take (X := (X.1, X.2.1, upd X.2.2.1 0 (X.2.2.1 0 + 1), X.2.2.2)) J hp) rfl rfl rfl rfl rfl rfl (Nat.zero_le _) (Nat.zero_le _) ?_
            rw [hs, nI_1]
            refine ww_iload_n dX3_readStep_100 rfl rfl ?_
            refine ww_table [152, 193, 193, 193, 166, 181, 193, 193, 159] 193 dX3_readStep_101 (by decide) (by decide) (by decide) (fun j101 t101 ht101 c101 => ?_) (fun c101 => ?_)
            · rcases j101 with _ | _ | _ | _ | _ | _ | _ | _ | _ | j
              · cases ht101
                rw [show taF (R t 0) L X.1 (F t) 2 = nI 4 from congrArg nI hk] at c101
                exact absurd c101 (by decide)
              · cases ht101
                rw [show taF (R t 0) L X.1 (F t) 2 = nI 4 from congrArg nI hk] at c101
                exact absurd c101 (by decide)
              · cases ht101
                rw [show taF (R t 0) L X.1 (F t) 2 = nI 4 from congrArg nI hk] at c101
                exact absurd c101 (by decide)
              · cases ht101
                rw [show taF (R t 0) L X.1 (F t) 2 = nI 4 from congrArg nI hk] at c101
                exact absurd c101 (by decide)
              · cases ht101
                refine ww_aload_n dX3_readStep_166 rfl rfl ?_
                refine ww_iload_n dX3_readStep_167 rfl rfl ?_
                refine ww_aload_n dX3_readStep_168 rfl rfl ?_
                refine Wrd_geto J.1 dX3_readStep_169 fX3_28 rfl rfl J.2.2.2.2.1 ?_
                refine Wbb_call1 J.2.2.1 dX3_readStep_172 kX3_106 rfl rfl (x3_addFork (X := (spX X (R t 0) L s)) J hl (by omega)) rfl rfl rfl rfl rfl rfl (Nat.zero_le _) (Nat.zero_le _) ?_
                refine Wrd_call0 J.1 dX3_readStep_175 kX3_110 rfl rfl (c3_openSteps (X := fkX (spX X (R t 0) L s)) J h1 ho h4) rfl rfl rfl rfl rfl rfl (Nat.zero_le _) (Nat.zero_le _) ?_
                refine ww_goto (tgt := 222) dX3_readStep_178 (by decide) ?_
                exact ww_vret dX3_readStep_222 rfl ⟨rfl, by rw [show taF (R t 0) L X.1 (F t) 2 = 4 from congrArg nI hk]⟩ (Nat.zero_le _) (Nat.zero_le _)
              · cases ht101
                rw [show taF (R t 0) L X.1 (F t) 2 = nI 4 from congrArg nI hk] at c101
                exact absurd c101 (by decide)
              · cases ht101
                rw [show taF (R t 0) L X.1 (F t) 2 = nI 4 from congrArg nI hk] at c101
                exact absurd c101 (by decide)
              · cases ht101
                rw [show taF (R t 0) L X.1 (F t) 2 = nI 4 from congrArg nI hk] at c101
                exact absurd c101 (by decide)
              · cases ht101
                rw [show taF (R t 0) L X.1 (F t) 2 = nI 4 from congrArg nI hk] at c101
                exact absurd c101 (by decide)
              · cases ht101
            · rw [show taF (R t 0) L X.1 (F t) 2 = nI 4 from congrArg nI hk] at c101
              exact absurd c101 (by decide)
          · exact absurd c71 (fun q => q (by rw [ho]; exact nI_lt (b := 4) (by omega) (by decide)))
    · exact absurd c31 (by decide)
  · exact absurd c10 (fun q => q (by show nI (kd (R t 0) L X.1) = nI 4; rw [hk]))
theorem tstX_P {b : Nat → Int32} {L : Nat} {X : cX} (hp : X.1 ≤ L) : (tstX b L X).1 ≤ L ∧ ∀ k, k ≠ 1 → k ≠ 2 → (tstX b L X).2.1 k = X.2.1 k := by
  have P1 := fdX_P (b := b) hp
  have P2 := (ndX_P (b := b) (k := 14) P1.1).tr P1
  have P3 := (nmX_P (b := b) (lo := 0) (hi := 99) P2.1).tr P2
  simp only [tstX, adX]
  exact ⟨P3.1, P3.2.2.1⟩
set_option maxHeartbeats 4000000 in
theorem c3_step5ok (J : hJ Λ r t d F O R L mr mt md) {c s o l : Nat} (hp : X.1 ≤ L) (hc : X.2.1 5 = nI c) (hcd : X.2.2.1 1 = nI c) (hcs : c ≤ s) (hs : X.2.2.1 0 = nI s) (hs2 : s ≤ 40) (hl : X.2.2.1 3 = nI l) (hl2 : l ≤ 3 * s) (ho : X.2.1 7 = nI o) (ho2 : o ≤ 4) (hk : kd (R t 0) L X.1 = 5) (h40 : s < 40) (h4 : o < 4) : Sat G mX3_readStep [.ref mr] (hX Λ r t d F O R h0 L X, sz) (Det none (hX Λ r t d F O R h0 L (opX (R t 0) L 5 (nI l) (tstX (R t 0) L (spX X (R t 0) L s))), sz)) := by
  refine Sat.of (by decide) [some (.ref mr), none, none] rfl rfl (fun Y => ?_)
  have hsN : stpN X = s := by rw [stpN, hs, nI_clamp (by omega)]
  have hlN : lnN X = l := by rw [lnN, hl, nI_clamp (by omega)]
  have h1 : (ad (R t 0) L X.1) ≤ L := (ad_le hp).2
  refine ww_aload_n dX3_readStep_0 rfl rfl ?_
  refine Wrd_geto J.1 dX3_readStep_1 fX3_12 rfl rfl J.2.2.2.1 ?_
  refine Xt_geti J dX3_readStep_4 fX3_68 rfl rfl ?_
  refine ww_istore_n dX3_readStep_7 rfl rfl rfl ?_
  refine ww_iload_n dX3_readStep_8 rfl rfl ?_
  refine ww_iconst (v := 4) dX3_readStep_9 (by decide) ?_
  refine ww_icmp_eq (tgt := 24) dX3_readStep_10 (by decide) (fun c10 => ?_) (fun c10 => ?_)
  · exact absurd c10 (by show ¬ nI (kd (R t 0) L X.1) = nI 4; rw [hk]; decide)
  · refine ww_iload_n dX3_readStep_13 rfl rfl ?_
    refine ww_iconst (v := 5) dX3_readStep_14 (by decide) ?_
    refine ww_icmp_eq (tgt := 24) dX3_readStep_15 (by decide) (fun c15 => ?_) (fun c15 => ?_)
    · refine ww_iconst (v := 1) dX3_readStep_24 (by decide) ?_
      refine ww_goto (tgt := 29) dX3_readStep_25 (by decide) ?_
      refine ww_istore_n dX3_readStep_29 rfl rfl rfl ?_
      refine ww_iload_n dX3_readStep_30 rfl rfl ?_
      refine ww_if_ne (tgt := 50) dX3_readStep_31 (by decide) (fun c31 => ?_) (fun c31 => ?_)
      · refine ww_aload_n dX3_readStep_50 rfl rfl ?_
        refine Wrd_geto J.1 dX3_readStep_51 fX3_28 rfl rfl J.2.2.2.2.1 ?_
        refine Xd_geti J dX3_readStep_54 fX3_94 rfl rfl ?_
        refine ww_bipush (v := 40) dX3_readStep_57 (by decide) ?_
        refine ww_icmp_ge (tgt := 74) dX3_readStep_59 (by decide) (fun c59 => ?_) (fun c59 => ?_)
        · exact absurd c59 (by rw [hs]; exact Int32.not_le.mpr (nI_lt (b := 40) (by omega) (by decide)))
        · refine ww_iload_n dX3_readStep_62 rfl rfl ?_
          refine ww_if_eq (tgt := 80) dX3_readStep_63 (by decide) (fun c63 => ?_) (fun c63 => ?_)
          · exact absurd c63 (by decide)
          · refine ww_aload_n dX3_readStep_66 rfl rfl ?_
            refine Xr_geti J dX3_readStep_67 fX3_43 rfl rfl ?_
            refine ww_iconst (v := 4) dX3_readStep_70 (by decide) ?_
            refine ww_icmp_lt (tgt := 80) dX3_readStep_71 (by decide) (fun c71 => ?_) (fun c71 => ?_)
            · refine ww_aload_n dX3_readStep_80 rfl rfl ?_
              refine Wrd_geto J.1 dX3_readStep_81 fX3_28 rfl rfl J.2.2.2.2.1 ?_
              refine ww_dup dX3_readStep_84 rfl ?_
              refine Xd_geti J dX3_readStep_85 fX3_94 rfl rfl ?_
              refine ww_iconst (v := 1) dX3_readStep_88 (by decide) ?_
              refine ww_iadd dX3_readStep_89 ?_
              refine Xd_puti J dX3_readStep_90 fX3_94 rfl rfl ?_
              refine ww_aload_n dX3_readStep_93 rfl rfl ?_
              refine Wrd_geto J.1 dX3_readStep_94 fX3_12 rfl rfl J.2.2.2.1 ?_
              refine Wta_call0 J.2.1 dX3_readStep_97 kX3_97 rfl rfl (x3_take (X := (X.1, X.2.1, upd X.2.2.1 0 (X.2.2.1 0 + 1), X.2.2.2)) J hp) rfl rfl rfl rfl rfl rfl (Nat.zero_le _) (Nat.zero_le _) ?_
              rw [hs, nI_1]
              refine ww_iload_n dX3_readStep_100 rfl rfl ?_
              refine ww_table [152, 193, 193, 193, 166, 181, 193, 193, 159] 193 dX3_readStep_101 (by decide) (by decide) (by decide) (fun j101 t101 ht101 c101 => ?_) (fun c101 => ?_)
              · rcases j101 with _ | _ | _ | _ | _ | _ | _ | _ | _ | j
                · cases ht101
                  rw [show taF (R t 0) L X.1 (F t) 2 = nI 5 from congrArg nI hk] at c101
                  exact absurd c101 (by decide)
                · cases ht101
                  rw [show taF (R t 0) L X.1 (F t) 2 = nI 5 from congrArg nI hk] at c101
                  exact absurd c101 (by decide)
                · cases ht101
                  rw [show taF (R t 0) L X.1 (F t) 2 = nI 5 from congrArg nI hk] at c101
                  exact absurd c101 (by decide)
                · cases ht101
                  rw [show taF (R t 0) L X.1 (F t) 2 = nI 5 from congrArg nI hk] at c101
                  exact absurd c101 (by decide)
                · cases ht101
                  rw [show taF (R t 0) L X.1 (F t) 2 = nI 5 from congrArg nI hk] at c101
                  exact absurd c101 (by decide)
                · cases ht101
                  refine ww_aload_n dX3_readStep_181 rfl rfl ?_
                  refine ww_iload_n dX3_readStep_182 rfl rfl ?_
                  refine ww_aload_n dX3_readStep_183 rfl rfl ?_
                  refine Wrd_call1 J.1 dX3_readStep_184 kX3_114 rfl rfl (c3_readTest (X := (spX X (R t 0) L s)) J h1 hl (by omega)) rfl rfl rfl rfl rfl rfl (Nat.zero_le _) (Nat.zero_le _) ?_
                  refine Wrd_call0 J.1 dX3_readStep_187 kX3_110 rfl rfl (c3_openSteps (X := tstX (R t 0) L (spX X (R t 0) L s)) J (tstX_P (X := (spX X (R t 0) L s)) h1).1 (((tstX_P (X := (spX X (R t 0) L s)) h1).2 7 (by decide) (by decide)).trans ho) h4) rfl rfl rfl rfl rfl rfl (Nat.zero_le _) (Nat.zero_le _) ?_
                  refine ww_goto (tgt := 222) dX3_readStep_190 (by decide) ?_
                  exact ww_vret dX3_readStep_222 rfl ⟨rfl, by rw [show taF (R t 0) L X.1 (F t) 2 = 5 from congrArg nI hk]⟩ (Nat.zero_le _) (Nat.zero_le _)
                · cases ht101
                  rw [show taF (R t 0) L X.1 (F t) 2 = nI 5 from congrArg nI hk] at c101
                  exact absurd c101 (by decide)
                · cases ht101
                  rw [show taF (R t 0) L X.1 (F t) 2 = nI 5 from congrArg nI hk] at c101
                  exact absurd c101 (by decide)
                · cases ht101
                  rw [show taF (R t 0) L X.1 (F t) 2 = nI 5 from congrArg nI hk] at c101
                  exact absurd c101 (by decide)
                · cases ht101
              · rw [show taF (R t 0) L X.1 (F t) 2 = nI 5 from congrArg nI hk] at c101
                exact absurd c101 (by decide)
            · exact absurd c71 (fun q => q (by rw [ho]; exact nI_lt (b := 4) (by omega) (by decide)))
      · exact absurd c31 (by decide)
    · exact absurd c15 (fun q => q (by show nI (kd (R t 0) L X.1) = nI 5; rw [hk]))
set_option maxHeartbeats 4000000 in
theorem c3_step7ok (J : hJ Λ r t d F O R L mr mt md) {c s o l : Nat} (hp : X.1 ≤ L) (hc : X.2.1 5 = nI c) (hcd : X.2.2.1 1 = nI c) (hcs : c ≤ s) (hs : X.2.2.1 0 = nI s) (hs2 : s ≤ 40) (hl : X.2.2.1 3 = nI l) (hl2 : l ≤ 3 * s) (ho : X.2.1 7 = nI o) (ho2 : o ≤ 4) (hk : kd (R t 0) L X.1 = 7) (h40 : s < 40) (h4 : o < 4) : Sat G mX3_readStep [.ref mr] (hX Λ r t d F O R h0 L X, sz) (Det none (hX Λ r t d F O R h0 L (opX (R t 0) L 7 (nI (l + 1)) (tstX (R t 0) L (adX 3 0 0 (nI (l + 2)) (spX X (R t 0) L s)))), sz)) := by
  refine Sat.of (by decide) [some (.ref mr), none, none] rfl rfl (fun Y => ?_)
  have hsN : stpN X = s := by rw [stpN, hs, nI_clamp (by omega)]
  have hlN : lnN X = l := by rw [lnN, hl, nI_clamp (by omega)]
  have h1 : (ad (R t 0) L X.1) ≤ L := (ad_le hp).2
  refine ww_aload_n dX3_readStep_0 rfl rfl ?_
  refine Wrd_geto J.1 dX3_readStep_1 fX3_12 rfl rfl J.2.2.2.1 ?_
  refine Xt_geti J dX3_readStep_4 fX3_68 rfl rfl ?_
  refine ww_istore_n dX3_readStep_7 rfl rfl rfl ?_
  refine ww_iload_n dX3_readStep_8 rfl rfl ?_
  refine ww_iconst (v := 4) dX3_readStep_9 (by decide) ?_
  refine ww_icmp_eq (tgt := 24) dX3_readStep_10 (by decide) (fun c10 => ?_) (fun c10 => ?_)
  · exact absurd c10 (by show ¬ nI (kd (R t 0) L X.1) = nI 4; rw [hk]; decide)
  · refine ww_iload_n dX3_readStep_13 rfl rfl ?_
    refine ww_iconst (v := 5) dX3_readStep_14 (by decide) ?_
    refine ww_icmp_eq (tgt := 24) dX3_readStep_15 (by decide) (fun c15 => ?_) (fun c15 => ?_)
    · exact absurd c15 (by show ¬ nI (kd (R t 0) L X.1) = nI 5; rw [hk]; decide)
    · refine ww_iload_n dX3_readStep_18 rfl rfl ?_
      refine ww_bipush (v := 7) dX3_readStep_19 (by decide) ?_
      refine ww_icmp_ne (tgt := 28) dX3_readStep_21 (by decide) (fun c21 => ?_) (fun c21 => ?_)
      · exact absurd c21 (fun q => q (by show nI (kd (R t 0) L X.1) = nI 7; rw [hk]))
      · refine ww_iconst (v := 1) dX3_readStep_24 (by decide) ?_
        refine ww_goto (tgt := 29) dX3_readStep_25 (by decide) ?_
        refine ww_istore_n dX3_readStep_29 rfl rfl rfl ?_
        refine ww_iload_n dX3_readStep_30 rfl rfl ?_
        refine ww_if_ne (tgt := 50) dX3_readStep_31 (by decide) (fun c31 => ?_) (fun c31 => ?_)
        · refine ww_aload_n dX3_readStep_50 rfl rfl ?_
          refine Wrd_geto J.1 dX3_readStep_51 fX3_28 rfl rfl J.2.2.2.2.1 ?_
          refine Xd_geti J dX3_readStep_54 fX3_94 rfl rfl ?_
          refine ww_bipush (v := 40) dX3_readStep_57 (by decide) ?_
          refine ww_icmp_ge (tgt := 74) dX3_readStep_59 (by decide) (fun c59 => ?_) (fun c59 => ?_)
          · exact absurd c59 (by rw [hs]; exact Int32.not_le.mpr (nI_lt (b := 40) (by omega) (by decide)))
          · refine ww_iload_n dX3_readStep_62 rfl rfl ?_
            refine ww_if_eq (tgt := 80) dX3_readStep_63 (by decide) (fun c63 => ?_) (fun c63 => ?_)
            · exact absurd c63 (by decide)
            · refine ww_aload_n dX3_readStep_66 rfl rfl ?_
              refine Xr_geti J dX3_readStep_67 fX3_43 rfl rfl ?_
              refine ww_iconst (v := 4) dX3_readStep_70 (by decide) ?_
              refine ww_icmp_lt (tgt := 80) dX3_readStep_71 (by decide) (fun c71 => ?_) (fun c71 => ?_)
              · refine ww_aload_n dX3_readStep_80 rfl rfl ?_
                refine Wrd_geto J.1 dX3_readStep_81 fX3_28 rfl rfl J.2.2.2.2.1 ?_
                refine ww_dup dX3_readStep_84 rfl ?_
                refine Xd_geti J dX3_readStep_85 fX3_94 rfl rfl ?_
                refine ww_iconst (v := 1) dX3_readStep_88 (by decide) ?_
                refine ww_iadd dX3_readStep_89 ?_
                refine Xd_puti J dX3_readStep_90 fX3_94 rfl rfl ?_
                refine ww_aload_n dX3_readStep_93 rfl rfl ?_
                refine Wrd_geto J.1 dX3_readStep_94 fX3_12 rfl rfl J.2.2.2.1 ?_
                refine Wta_call0 J.2.1 dX3_readStep_97 kX3_97 rfl rfl (x3_take (X := (X.1, X.2.1, upd X.2.2.1 0 (X.2.2.1 0 + 1), X.2.2.2)) J hp) rfl rfl rfl rfl rfl rfl (Nat.zero_le _) (Nat.zero_le _) ?_
                rw [hs, nI_1]
                refine ww_iload_n dX3_readStep_100 rfl rfl ?_
                refine ww_table [152, 193, 193, 193, 166, 181, 193, 193, 159] 193 dX3_readStep_101 (by decide) (by decide) (by decide) (fun j101 t101 ht101 c101 => ?_) (fun c101 => ?_)
                · rcases j101 with _ | _ | _ | _ | _ | _ | _ | _ | _ | j
                  · cases ht101
                    rw [show taF (R t 0) L X.1 (F t) 2 = nI 7 from congrArg nI hk] at c101
                    exact absurd c101 (by decide)
                  · cases ht101
                    rw [show taF (R t 0) L X.1 (F t) 2 = nI 7 from congrArg nI hk] at c101
                    exact absurd c101 (by decide)
                  · cases ht101
                    rw [show taF (R t 0) L X.1 (F t) 2 = nI 7 from congrArg nI hk] at c101
                    exact absurd c101 (by decide)
                  · cases ht101
                    rw [show taF (R t 0) L X.1 (F t) 2 = nI 7 from congrArg nI hk] at c101
                    exact absurd c101 (by decide)
                  · cases ht101
                    rw [show taF (R t 0) L X.1 (F t) 2 = nI 7 from congrArg nI hk] at c101
                    exact absurd c101 (by decide)
                  · cases ht101
                    rw [show taF (R t 0) L X.1 (F t) 2 = nI 7 from congrArg nI hk] at c101
                    exact absurd c101 (by decide)
                  · cases ht101
                    rw [show taF (R t 0) L X.1 (F t) 2 = nI 7 from congrArg nI hk] at c101
                    exact absurd c101 (by decide)
                  · cases ht101
                    refine ww_aload_n dX3_readStep_193 rfl rfl ?_
                    refine Wrd_geto J.1 dX3_readStep_194 fX3_28 rfl rfl J.2.2.2.2.1 ?_
                    refine ww_iconst (v := 3) dX3_readStep_197 (by decide) ?_
                    refine ww_iconst (v := 0) dX3_readStep_198 (by decide) ?_
                    refine ww_iconst (v := 0) dX3_readStep_199 (by decide) ?_
                    refine ww_aload_n dX3_readStep_200 rfl rfl ?_
                    refine Wrd_geto J.1 dX3_readStep_201 fX3_28 rfl rfl J.2.2.2.2.1 ?_
                    refine Xd_geti J dX3_readStep_204 fX3_117 rfl rfl ?_
                    refine ww_iconst (v := 2) dX3_readStep_207 (by decide) ?_
                    refine ww_iadd dX3_readStep_208 ?_
                    refine Wbb_call1 J.2.2.1 dX3_readStep_209 kX3_74 rfl rfl (x3_add (X := (spX X (R t 0) L s)) J hl (by omega)) rfl rfl rfl rfl rfl rfl (Nat.zero_le _) (Nat.zero_le _) ?_
                    refine ww_pop dX3_readStep_212 rfl ?_
                    refine ww_aload_n dX3_readStep_213 rfl rfl ?_
                    refine ww_iload_n dX3_readStep_214 rfl rfl ?_
                    refine ww_aload_n dX3_readStep_215 rfl rfl ?_
                    refine Wrd_call1 J.1 dX3_readStep_216 kX3_114 rfl rfl (c3_readTest (X := (adX 3 0 0 ((spX X (R t 0) L s).2.2.1 3 + 2) (spX X (R t 0) L s))) J h1 (show upd (spX X (R t 0) L s).2.2.1 3 (nI (lnN (spX X (R t 0) L s) + 1)) 3 = nI (l + 1) by rw [show lnN (spX X (R t 0) L s) = l from hlN]; rfl) (by omega)) rfl rfl rfl rfl rfl rfl (Nat.zero_le _) (Nat.zero_le _) ?_
                    refine Wrd_call0 J.1 dX3_readStep_219 kX3_110 rfl rfl (c3_openSteps (X := tstX (R t 0) L (adX 3 0 0 ((spX X (R t 0) L s).2.2.1 3 + 2) (spX X (R t 0) L s))) J (tstX_P (X := (adX 3 0 0 ((spX X (R t 0) L s).2.2.1 3 + 2) (spX X (R t 0) L s))) h1).1 (((tstX_P (X := (adX 3 0 0 ((spX X (R t 0) L s).2.2.1 3 + 2) (spX X (R t 0) L s))) h1).2 7 (by decide) (by decide)).trans ho) h4) rfl rfl rfl rfl rfl rfl (Nat.zero_le _) (Nat.zero_le _) ?_
                    exact ww_vret dX3_readStep_222 rfl ⟨rfl, by rw [show taF (R t 0) L X.1 (F t) 2 = 7 from congrArg nI hk, show (spX X (R t 0) L s).2.2.1 3 + 2 = nI (l + 2) by show X.2.2.1 3 + nI 2 = _; rw [hl, nI_add]]⟩ (Nat.zero_le _) (Nat.zero_le _)
                  · cases ht101
                    rw [show taF (R t 0) L X.1 (F t) 2 = nI 7 from congrArg nI hk] at c101
                    exact absurd c101 (by decide)
                  · cases ht101
                · rw [show taF (R t 0) L X.1 (F t) 2 = nI 7 from congrArg nI hk] at c101
                  exact absurd c101 (by decide)
              · exact absurd c71 (fun q => q (by rw [ho]; exact nI_lt (b := 4) (by omega) (by decide)))
        · exact absurd c31 (by decide)
set_option maxHeartbeats 4000000 in
theorem c3_stepBad (J : hJ Λ r t d F O R L mr mt md) (hk : ∀ k, k ∈ [0, 8, 4, 5, 7] → ¬ kd (R t 0) L X.1 = k) : Sat G mX3_readStep [.ref mr] (hX Λ r t d F O R h0 L X, sz) (Det none (hX Λ r t d F O R h0 L (flX (R t 0) L 1 X), sz)) := by
  refine Sat.of (by decide) [some (.ref mr), none, none] rfl rfl (fun Y => ?_)
  refine ww_aload_n dX3_readStep_0 rfl rfl ?_
  refine Wrd_geto J.1 dX3_readStep_1 fX3_12 rfl rfl J.2.2.2.1 ?_
  refine Xt_geti J dX3_readStep_4 fX3_68 rfl rfl ?_
  refine ww_istore_n dX3_readStep_7 rfl rfl rfl ?_
  refine ww_iload_n dX3_readStep_8 rfl rfl ?_
  refine ww_iconst (v := 4) dX3_readStep_9 (by decide) ?_
  refine ww_icmp_eq (tgt := 24) dX3_readStep_10 (by decide) (fun c10 => ?_) (fun c10 => ?_)
  · exact absurd c10 (fun q => hk 4 (by decide) ((kd_eq (k := 4) (by decide)).mp q))
  · refine ww_iload_n dX3_readStep_13 rfl rfl ?_
    refine ww_iconst (v := 5) dX3_readStep_14 (by decide) ?_
    refine ww_icmp_eq (tgt := 24) dX3_readStep_15 (by decide) (fun c15 => ?_) (fun c15 => ?_)
    · exact absurd c15 (fun q => hk 5 (by decide) ((kd_eq (k := 5) (by decide)).mp q))
    · refine ww_iload_n dX3_readStep_18 rfl rfl ?_
      refine ww_bipush (v := 7) dX3_readStep_19 (by decide) ?_
      refine ww_icmp_ne (tgt := 28) dX3_readStep_21 (by decide) (fun c21 => ?_) (fun c21 => ?_)
      · refine ww_iconst (v := 0) dX3_readStep_28 (by decide) ?_
        refine ww_istore_n dX3_readStep_29 rfl rfl rfl ?_
        refine ww_iload_n dX3_readStep_30 rfl rfl ?_
        refine ww_if_ne (tgt := 50) dX3_readStep_31 (by decide) (fun c31 => ?_) (fun c31 => ?_)
        · exact absurd c31 (fun q => q rfl)
        · refine ww_iload_n dX3_readStep_34 rfl rfl ?_
          refine ww_if_eq (tgt := 50) dX3_readStep_35 (by decide) (fun c35 => ?_) (fun c35 => ?_)
          · exact absurd c35 (fun q => hk 0 (by decide) ((kd_eq (k := 0) (by decide)).mp q))
          · refine ww_iload_n dX3_readStep_38 rfl rfl ?_
            refine ww_bipush (v := 8) dX3_readStep_39 (by decide) ?_
            refine ww_icmp_eq (tgt := 50) dX3_readStep_41 (by decide) (fun c41 => ?_) (fun c41 => ?_)
            · exact absurd c41 (fun q => hk 8 (by decide) ((kd_eq (k := 8) (by decide)).mp q))
            · refine ww_aload_n dX3_readStep_44 rfl rfl ?_
              refine ww_iconst (v := 1) dX3_readStep_45 (by decide) ?_
              refine Wrd_call0 J.1 dX3_readStep_46 kX3_90 rfl rfl (c3_fail (X := X) J) rfl rfl rfl rfl rfl rfl (Nat.zero_le _) (Nat.zero_le _) ?_
              exact ww_vret dX3_readStep_49 rfl ⟨rfl, rfl⟩ (Nat.zero_le _) (Nat.zero_le _)
      · exact absurd c21 (fun q => hk 7 (by decide) ((kd_eq (k := 7) (by decide)).mp q))
theorem c3_readStep (J : hJ Λ r t d F O R L mr mt md) {c s o l : Nat} (hp : X.1 ≤ L) (hc : X.2.1 5 = nI c) (hcd : X.2.2.1 1 = nI c) (hcs : c ≤ s) (hs : X.2.2.1 0 = nI s) (hs2 : s ≤ 40) (hl : X.2.2.1 3 = nI l) (hl2 : l ≤ 3 * s) (ho : X.2.1 7 = nI o) (ho2 : o ≤ 4) : Sat G mX3_readStep [.ref mr] (hX Λ r t d F O R h0 L X, sz) (Det none (hX Λ r t d F O R h0 L (stepX (R t 0) L X), sz)) := by
  have hsN : stpN X = s := by rw [stpN, hs, nI_clamp (by omega)]
  have hlN : lnN X = l := by rw [lnN, hl, nI_clamp (by omega)]
  have hoN : opN X = o := by rw [opN, ho, nI_clamp (by omega)]
  unfold stepX
  rw [hsN, hlN, hoN]
  by_cases h1 : kd (R t 0) L X.1 = 0 ∨ kd (R t 0) L X.1 = 8
  · rw [if_pos h1]
    by_cases h2 : s = 40
    · rw [if_pos h2]
      rcases h1 with h1 | h1
      · exact c3_step0s40 J hp hc hcd hcs hs hs2 hl hl2 ho ho2 h1 h2
      · exact c3_step8s40 J hp hc hcd hcs hs hs2 hl hl2 ho ho2 h1 h2
    · rw [if_neg h2]
      by_cases h3 : kd (R t 0) L X.1 = 0
      · rw [if_pos h3]
        exact c3_step0ok J hp hc hcd hcs hs hs2 hl hl2 ho ho2 h3 (by omega)
      · rw [if_neg h3]
        exact c3_step8ok J hp hc hcd hcs hs hs2 hl hl2 ho ho2 (h1.resolve_left h3) (by omega)
  · rw [if_neg h1]
    by_cases h4 : kd (R t 0) L X.1 = 4 ∨ kd (R t 0) L X.1 = 5 ∨ kd (R t 0) L X.1 = 7
    · rw [if_pos h4]
      by_cases h2 : s = 40 ∨ o = 4
      · rw [if_pos h2]
        by_cases h5 : s = 40
        · rcases h4 with h4 | h4 | h4
          · exact c3_step4s40 J hp hc hcd hcs hs hs2 hl hl2 ho ho2 h4 h5
          · exact c3_step5s40 J hp hc hcd hcs hs hs2 hl hl2 ho ho2 h4 h5
          · exact c3_step7s40 J hp hc hcd hcs hs hs2 hl hl2 ho ho2 h4 h5
        · have h6 := h2.resolve_left h5
          rcases h4 with h4 | h4 | h4
          · exact c3_step4o4 J hp hc hcd hcs hs hs2 hl hl2 ho ho2 h4 (by omega) h6
          · exact c3_step5o4 J hp hc hcd hcs hs hs2 hl hl2 ho ho2 h4 (by omega) h6
          · exact c3_step7o4 J hp hc hcd hcs hs hs2 hl hl2 ho ho2 h4 (by omega) h6
      · rw [if_neg h2]
        by_cases h5 : kd (R t 0) L X.1 = 4
        · rw [if_pos h5]
          exact c3_step4ok J hp hc hcd hcs hs hs2 hl hl2 ho ho2 h5 (by omega) (by omega)
        · rw [if_neg h5]
          by_cases h6 : kd (R t 0) L X.1 = 5
          · rw [if_pos h6]
            exact c3_step5ok J hp hc hcd hcs hs hs2 hl hl2 ho ho2 h6 (by omega) (by omega)
          · rw [if_neg h6]
            exact c3_step7ok J hp hc hcd hcs hs hs2 hl hl2 ho ho2 ((h4.resolve_left h5).resolve_left h6) (by omega) (by omega)
    · rw [if_neg h4]
      refine c3_stepBad J ?_
      intro k hk
      simp only [List.mem_cons, List.mem_nil_iff, or_false] at hk
      rcases hk with rfl | rfl | rfl | rfl | rfl
      · exact fun q => h1 (Or.inl q)
      · exact fun q => h1 (Or.inr q)
      · exact fun q => h4 (Or.inl q)
      · exact fun q => h4 (Or.inr (Or.inl q))
      · exact fun q => h4 (Or.inr (Or.inr q))
end X3D
