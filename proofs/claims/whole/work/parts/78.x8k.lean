def bsF (F : Nat → Nat → Int32) : Nat → Nat → Int32 := va_up (va_up F 2 (upd (F 2) 1 0)) 0 (upd (upd (F 0) 8 (F 1 1)) 9 (F 1 2))
def rdF (F : Nat → Nat → Int32) (R : Nat → Nat → Nat → Int32) (d L : Nat) (X : cX) : Nat → Nat → Int32 := va_up (va_up (va_up F 1 X.2.1) 2 (taF (R 2 0) L X.1 (F 2))) d X.2.2.1
def rdR (R : Nat → Nat → Nat → Int32) (d : Nat) (X : cX) : Nat → Nat → Nat → Int32 := va_up (va_up R 1 X.2.2.2.1) d X.2.2.2.2
def bsO (O : Nat → Nat → Option Nat) (nb sz md : Nat) : Nat → Nat → Option Nat := va_up (va_up (va_up O nb (fun _ => none)) 1 (va_up (O 1) 3 (some sz))) 0 (va_up (O 0) 6 (some md))
/-- what business leaves -/
def bsQ (Λ : wL) (F : Nat → Nat → Int32) (O : Nat → Nat → Option Nat) (R : Nat → Nat → Nat → Int32) (h0 : Nat → Option wE) (d L nb sz md : Nat) (res : (Nat × Nat) ⊕ aT) : Option Value → wH → Prop := fun v h2 => match res with
  | .inl e => v = some (.int (-1)) ∧ ∃ X2 : cX, h2 = (wld Λ (bsF (rdF F R d L X2)) O (rdR R d X2) h0, sz) ∧ Dd e X2
  | .inr A => ∃ X2 : cX, IC A X2 ∧ wfA L A ∧ A.2.2.2.2.2.2.1 = [] ∧ v = some (.int (nI A.2.1)) ∧ h2 = (wld (lkA Λ nb 3 sz) (bsF (va_up (rdF F R d L (finX X2)) nb (fun _ => 0))) (bsO O nb sz md) (va_up (rdR R d (finX X2)) nb (fun _ _ => 0)) h0, sz + 9)
section X8K
variable {G : wG} {Λ : wL} {x mr mt mp mk mw ma : Nat} {F : Nat → Nat → Int32} {O : Nat → Nat → Option Nat} {R : Nat → Nat → Nat → Int32} {h0 : Nat → Option wE} {sz : Nat}
theorem hH_1 {q : Option Nat} (H : hH Λ O x mr mt mp mk mw ma) {O1 : Nat → Option Nat} (h1 : O1 0 = O 1 0) : hH Λ (va_up O 1 (va_up O1 3 q)) x mr mt mp mk mw ma := by
  obtain ⟨a1, a2, a3, a4, a5, a6, a7, a8, a9, a10, a11, a12, a13⟩ := H
  exact ⟨a1, a2, a3, a4, a5, a6, a7, a8, a9, a10, a11, a12, h1.trans a13⟩
set_option maxHeartbeats 4000000 in
theorem L8_bsN (H : hH Λ O x mr mt mp mk mw ma) {X : wX} {Q : Option Value → wH → Prop} (hq : Q (some (.int (-1))) (wld Λ (bsF F) O R h0, sz)) : WW G mX8_business cX8_business X (wZ G mX8_business X Q) 8 [some (.ref x), some .null] [] (wld Λ F O R h0, sz) 9 656 := by
  refine ww_aload_n dX8_business_8 rfl rfl ?_
  refine Wxx_geto H.1 dX8_business_9 fX8_10 rfl rfl H.2.2.2.2.2.2.2.1 ?_
  refine Wrd_geto H.2.1 dX8_business_12 fX8_60 rfl rfl H.2.2.2.2.2.2.2.2.2.2.2.2 ?_
  refine ww_iconst (v := 0) dX8_business_15 (by decide) ?_
  refine Wta_puti H.2.2.1 dX8_business_16 fX8_64 rfl rfl ?_
  refine ww_aload_n dX8_business_19 rfl rfl ?_
  refine ww_aload_n dX8_business_20 rfl rfl ?_
  refine Wxx_geto H.1 dX8_business_21 fX8_10 rfl rfl H.2.2.2.2.2.2.2.1 ?_
  refine Wrd_geti H.2.1 dX8_business_24 fX8_77 rfl rfl ?_
  refine Wxx_puti H.1 dX8_business_27 fX8_54 rfl rfl ?_
  refine ww_aload_n dX8_business_30 rfl rfl ?_
  refine ww_aload_n dX8_business_31 rfl rfl ?_
  refine Wxx_geto H.1 dX8_business_32 fX8_10 rfl rfl H.2.2.2.2.2.2.2.1 ?_
  refine Wrd_geti H.2.1 dX8_business_35 fX8_80 rfl rfl ?_
  refine Wxx_puti H.1 dX8_business_38 fX8_57 rfl rfl ?_
  have eF : va_up (va_up (va_up F 2 (upd (F 2) 1 0)) 0 (upd ((va_up F 2 (upd (F 2) 1 0)) 0) 8 ((va_up F 2 (upd (F 2) 1 0)) 1 1))) 0 (upd ((va_up (va_up F 2 (upd (F 2) 1 0)) 0 (upd ((va_up F 2 (upd (F 2) 1 0)) 0) 8 ((va_up F 2 (upd (F 2) 1 0)) 1 1))) 0) 9 ((va_up (va_up F 2 (upd (F 2) 1 0)) 0 (upd ((va_up F 2 (upd (F 2) 1 0)) 0) 8 ((va_up F 2 (upd (F 2) 1 0)) 1 1))) 1 2)) = bsF F := by rw [w_up_up]; rfl
  rw [eF]
  refine ww_aload_nN dX8_business_41 rfl rfl ?_
  refine ww_ifnonnullN dX8_business_42 ?_
  refine ww_iconst (v := -1) dX8_business_45 (by decide) ?_
  exact ww_iret dX8_business_46 rfl hq (by decide) (by decide)
set_option maxHeartbeats 4000000 in
theorem L8_bsK (H : hH Λ O x mr mt mp mk mw ma) {b mb : Nat} (hB : Lk Λ b 3 mb) (nb0 : b ≠ 0) (nb2 : b ≠ 2) {X : wX} {Q : Option Value → wH → Prop} (hq : Q (some (.int (bsF F b 0))) (wld Λ (bsF F) (va_up O 0 (va_up (O 0) 6 (some mb))) R h0, sz)) : WW G mX8_business cX8_business X (wZ G mX8_business X Q) 8 [some (.ref x), some (.ref mb)] [] (wld Λ F O R h0, sz) 9 656 := by
  refine ww_aload_n dX8_business_8 rfl rfl ?_
  refine Wxx_geto H.1 dX8_business_9 fX8_10 rfl rfl H.2.2.2.2.2.2.2.1 ?_
  refine Wrd_geto H.2.1 dX8_business_12 fX8_60 rfl rfl H.2.2.2.2.2.2.2.2.2.2.2.2 ?_
  refine ww_iconst (v := 0) dX8_business_15 (by decide) ?_
  refine Wta_puti H.2.2.1 dX8_business_16 fX8_64 rfl rfl ?_
  refine ww_aload_n dX8_business_19 rfl rfl ?_
  refine ww_aload_n dX8_business_20 rfl rfl ?_
  refine Wxx_geto H.1 dX8_business_21 fX8_10 rfl rfl H.2.2.2.2.2.2.2.1 ?_
  refine Wrd_geti H.2.1 dX8_business_24 fX8_77 rfl rfl ?_
  refine Wxx_puti H.1 dX8_business_27 fX8_54 rfl rfl ?_
  refine ww_aload_n dX8_business_30 rfl rfl ?_
  refine ww_aload_n dX8_business_31 rfl rfl ?_
  refine Wxx_geto H.1 dX8_business_32 fX8_10 rfl rfl H.2.2.2.2.2.2.2.1 ?_
  refine Wrd_geti H.2.1 dX8_business_35 fX8_80 rfl rfl ?_
  refine Wxx_puti H.1 dX8_business_38 fX8_57 rfl rfl ?_
  have eF : va_up (va_up (va_up F 2 (upd (F 2) 1 0)) 0 (upd ((va_up F 2 (upd (F 2) 1 0)) 0) 8 ((va_up F 2 (upd (F 2) 1 0)) 1 1))) 0 (upd ((va_up (va_up F 2 (upd (F 2) 1 0)) 0 (upd ((va_up F 2 (upd (F 2) 1 0)) 0) 8 ((va_up F 2 (upd (F 2) 1 0)) 1 1))) 0) 9 ((va_up (va_up F 2 (upd (F 2) 1 0)) 0 (upd ((va_up F 2 (upd (F 2) 1 0)) 0) 8 ((va_up F 2 (upd (F 2) 1 0)) 1 1))) 1 2)) = bsF F := by rw [w_up_up]; rfl
  rw [eF]
  refine ww_aload_n dX8_business_41 rfl rfl ?_
  refine ww_ifnonnull (tgt := 47) dX8_business_42 (by decide) ?_
  refine ww_aload_n dX8_business_47 rfl rfl ?_
  refine ww_aload_n dX8_business_48 rfl rfl ?_
  refine Wxx_puto H.1 dX8_business_49 fX8_47 rfl rfl rfl rfl ?_
  refine ww_aload_n dX8_business_52 rfl rfl ?_
  refine Wbb_geti hB dX8_business_53 fX8_83 rfl rfl ?_
  exact ww_iret dX8_business_56 rfl hq (by decide) (by decide)
set_option maxHeartbeats 4000000 in
theorem c8_business (H : hH Λ O x mr mt mp mk mw ma) {d md L nb : Nat} (hD : Lk Λ d 3 md) (ho3 : O 1 3 = some md) (hL : F 2 1 = nI L) (hL2 : L ≤ 300) (hwk : ∀ j, j < 9 → R 2 6 j = nI (wkN j)) (hfr : ∀ y, Λ.1 y ≠ some nb) (htop : ∀ y, sz ≤ y → Λ.1 y = none) : Sat G mX8_business [.ref x] (wld Λ F O R h0, sz) (bsQ Λ F O R h0 d L nb sz md (apL (R 2 0) L (L + 1) aT0)) := by
  have J : hJ Λ 1 2 d F O R L mr mt md := ⟨H.2.1, H.2.2.1, hD, H.2.2.2.2.2.2.2.2.2.2.2.2, ho3, hL, hL2, hwk⟩
  refine Sat.of (by decide) [some (.ref x), none] rfl rfl (fun X => ?_)
  refine ww_aload_n dX8_business_0 rfl rfl ?_
  refine Wxx_geto H.1 dX8_business_1 fX8_10 rfl rfl H.2.2.2.2.2.2.2.1 ?_
  refine ww_callV dX8_business_4 kX8_73 (rd_wo H.2.1) rfl rfl (c3_read2 J hfr htop) rfl rfl rfl rfl rfl (by decide) (by decide) (fun v h2 q => ?_)
  cases hres : apL (R 2 0) L (L + 1) aT0 with
  | inl e =>
    rw [hres] at q
    obtain ⟨rfl, X2, rfl, hDd⟩ := q
    refine ww_astore_nN dX8_business_7 rfl rfl rfl ?_
    exact L8_bsN (F := rdF F R d L X2) (R := rdR R d X2) H ⟨rfl, X2, rfl, hDd⟩
  | inr A =>
    rw [hres] at q
    obtain ⟨rfl, X2, hI, hw, hG, rfl⟩ := q
    refine ww_astore_n dX8_business_7 rfl rfl rfl ?_
    have hm : ∀ y, inK 3 sz y → Λ.1 y = none := fun y hy => htop y (by rcases hy with q | q; omega; have : kLo 3 = 1 := rfl; omega)
    have H2 := hH_1 (q := some sz) (O1 := O 1) (hH_add (O' := fun _ => none) H hfr hm) (by rw [w_up_ne _ _ (Lk_nn H.2.1 hfr)])
    have nd0 : d ≠ 0 := Lk_ne hD H.1 (by decide)
    have nd2 : d ≠ 2 := Lk_ne hD H.2.2.1 (by decide)
    have nd := Lk_nn hD hfr
    have n0 := Lk_nn H.1 hfr
    refine L8_bsK (F := va_up (rdF F R d L (finX X2)) nb (fun _ => 0)) (R := va_up (rdR R d (finX X2)) nb (fun _ _ => 0)) H2 (Lk_old hD hfr hm) nd0 nd2 ⟨X2, hI, hw, hG, ?_, ?_⟩
    · rw [bsF, w_up_ne _ _ nd0, w_up_ne _ _ nd2, w_up_ne _ _ nd, rdF, w_up_self]
      obtain ⟨p, s, c, f, ns, cur, Γ, ro, du, ey⟩ := A
      have h7 : X2.2.2.1 0 = nI s := hI.2.2.2.2.2.2.1
      exact congrArg (fun w => some (Value.int w)) h7
    · have e : va_up (va_up (va_up O nb (fun _ => none)) 1 (va_up (O 1) 3 (some sz))) 0 (va_up (va_up (va_up O nb (fun _ => none)) 1 (va_up (O 1) 3 (some sz)) 0) 6 (some md)) = bsO O nb sz md := by
        unfold bsO
        rw [show va_up (va_up O nb (fun _ => none)) 1 (va_up (O 1) 3 (some sz)) 0 = O 0 by rw [w_up_ne _ _ (by decide), w_up_ne _ _ n0]]
      rw [e]

end X8K
