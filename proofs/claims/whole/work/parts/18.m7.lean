/-! how a run goes on: the reference's walk, a fuel a turn; none where an index would be out of its row -/
def comR (R : Nat → Nat → Int32) (a r w l : Nat) (z : Int32) (c : Nat) : Nat → Nat → Int32 := va_up (va_up (va_up (va_up (va_up (va_up (va_up (va_up R 56 (upd (R 56) c (nI r))) 57 (upd (R 57) c (nI w))) 58 (upd (R 58) c z)) 59 (upd (R 59) c (nI a))) 60 (upd (R 60) c (nI (wEn (wHr a + l - 1))))) 61 (upd (R 61) c 0)) 62 (upd (R 62) c (-1))) 63 (upd (R 63) c (-1))
def gI (x : Int32) (n : Nat) : Option Nat := if wIn x n = true then some x.toNatClampNeg else none
theorem gI_eq {x : Int32} {n j : Nat} (hn : n < 2 ^ 31) (h : gI x n = some j) : j < n ∧ x = nI j := by
  unfold gI at h
  by_cases hw : wIn x n = true
  · rw [if_pos hw] at h
    obtain ⟨i, h1, h2⟩ := (wIn_iff hn).mp hw
    rw [h2, nI_clamp (by omega)] at h
    cases h
    exact ⟨h1, h2⟩
  · rw [if_neg hw] at h
    cases h
theorem gI_nI {n j : Nat} (hn : n < 2 ^ 31) (h : j < n) : gI (nI j) n = some j := by
  unfold gI
  rw [if_pos (wIn_nI h hn), nI_clamp (by omega)]
abbrev gT : Type := Bool × Nat × (Nat → Nat → Int32)
def gM (a r : Nat) : Nat → Option Nat → Nat → Nat → (Nat → Nat → Int32) → Option gT
  | 0, _, _, _, _ => none
  | _ + 1, none, 0, c, R => some (true, c, R)
  | n + 1, none, hg + 1, c, R => (gI (R 69 hg) 200).bind fun k => gM a r n (some k) hg c R
  | n + 1, some k, hg, c, R =>
    if nI k = R 41 r then gM a r n none hg c (va_up R 51 (upd (R 51) r 1)) else
    if 200 ≤ k then none else
    if R 42 (200 * r + k) = nI 0 then
      (if c = 200 then some (false, c, R) else (gI (R 43 (200 * r + k)) 40).bind fun w => (gI (R 47 (40 * r + w)) 100).bind fun l => if l = 0 then none else gM a r n none hg (c + 1) (comR R a r w l (nI (k + 1)) c)) else
    if R 42 (200 * r + k) = nI 1 then (gI (R 43 (200 * r + k)) 4).bind fun f => gM a r n (some (k + 1)) hg c (va_up R 49 (upd (R 49) (4 * r + f) (R 44 (200 * r + k)))) else
    if R 42 (200 * r + k) = nI 2 then (gI (R 43 (200 * r + k)) 4).bind fun f => if R 49 (4 * r + f) < R 44 (200 * r + k) then gM a r n (some (k + 1)) hg c R else (gI (R 45 (200 * r + k)) 200).bind fun j => gM a r n (some j) hg c R else
    if R 42 (200 * r + k) = nI 3 then (gI (R 45 (200 * r + k)) 200).bind fun j => gM a r n (some j) hg c R else
    if R 42 (200 * r + k) = nI 4 then (gI (R 43 (200 * r + k)) 4).bind fun f => if R 49 (4 * r + f) < R 44 (200 * r + k) then (gI (R 45 (200 * r + k)) 200).bind fun j => gM a r n (some j) hg c R else gM a r n (some (k + 1)) hg c R else
    if R 42 (200 * r + k) = nI 5 then (if 63 ≤ hg then none else gM a r n (some (k + 1)) (hg + 1) c (va_up R 69 (upd (R 69) hg (R 45 (200 * r + k))))) else
    (gI (R 43 (200 * r + k)) 40).bind fun e => if R 50 (40 * r + e) + 1 = 2 then (gI (R 45 (200 * r + k)) 200).bind fun j => gM a r n (some j) hg c (va_up R 50 (upd (R 50) (40 * r + e) 0)) else gM a r n none hg c (va_up R 50 (upd (R 50) (40 * r + e) (R 50 (40 * r + e) + 1)))
theorem ob_some {α β : Type} {x : Option α} {f : α → Option β} {y : β} (h : x.bind f = some y) : ∃ z, x = some z ∧ f z = some y := by
  cases x with
  | none => cases h
  | some z => exact ⟨z, rfl, h⟩
section M7
variable {G : wG} {m : Nat} {F : Nat → Int32} {tl : Int64} {R : Nat → Nat → Int32} {NL : Nat → Int64} {h0 : Nat → Option wE} {sz : Nat}

set_option maxHeartbeats 4000000 in
theorem c9_comes {x y z : Int32} {a r w l c : Nat} (hc : F 55 = nI c) (hc2 : c < 200) (ha : F 54 = nI a) (ha2 : a ≤ 20000) (hx : x = nI r) (hr : r < 8) (hy : y = nI w) (hw : w < 40) (hl : R 47 (40 * r + w) = nI l) (hl1 : 0 < l) (hl2 : l < 100) : Sat G mX9_comes [.ref m, .int x, .int y, .int z] (mh m F tl R NL h0, sz) (Det none (mh m (upd F 55 (nI (c + 1))) tl (comR R a r w l z c) NL h0, sz)) := by
  refine Sat.of (by decide) [some (.ref m), some (.int x), some (.int y), some (.int z)] rfl rfl (fun X => ?_)
  refine ww_aload_n dX9_comes_0 rfl rfl ?_
  refine mm_getr dX9_comes_1 fX9_128 rfl ?_
  refine ww_aload_n dX9_comes_4 rfl rfl ?_
  refine mm_geti dX9_comes_5 fX9_311 rfl rfl ?_
  refine ww_iload_n dX9_comes_8 rfl rfl ?_
  refine mm_iast dX9_comes_9 rfl hc (by omega) rfl rfl ?_
  refine ww_aload_n dX9_comes_10 rfl rfl ?_
  refine mm_getr dX9_comes_11 fX9_131 rfl ?_
  refine ww_aload_n dX9_comes_14 rfl rfl ?_
  refine mm_geti dX9_comes_15 fX9_311 rfl rfl ?_
  refine ww_iload_n dX9_comes_18 rfl rfl ?_
  refine mm_iast dX9_comes_19 rfl hc (by omega) rfl rfl ?_
  refine ww_aload_n dX9_comes_20 rfl rfl ?_
  refine mm_getr dX9_comes_21 fX9_134 rfl ?_
  refine ww_aload_n dX9_comes_24 rfl rfl ?_
  refine mm_geti dX9_comes_25 fX9_311 rfl rfl ?_
  refine ww_iload_n dX9_comes_28 rfl rfl ?_
  refine mm_iast dX9_comes_29 rfl hc (by omega) rfl rfl ?_
  refine ww_aload_n dX9_comes_30 rfl rfl ?_
  refine mm_getr dX9_comes_31 fX9_137 rfl ?_
  refine ww_aload_n dX9_comes_34 rfl rfl ?_
  refine mm_geti dX9_comes_35 fX9_311 rfl rfl ?_
  refine ww_aload_n dX9_comes_38 rfl rfl ?_
  refine mm_geti dX9_comes_39 fX9_321 rfl rfl ?_
  refine mm_iast dX9_comes_42 rfl hc (by omega) rfl rfl ?_
  refine ww_aload_n dX9_comes_43 rfl rfl ?_
  refine mm_getr dX9_comes_44 fX9_140 rfl ?_
  refine ww_aload_n dX9_comes_47 rfl rfl ?_
  refine mm_geti dX9_comes_48 fX9_311 rfl rfl ?_
  refine ww_aload_n dX9_comes_51 rfl rfl ?_
  refine mm_geti dX9_comes_52 fX9_321 rfl rfl ?_
  refine ww_aload_n dX9_comes_55 rfl rfl ?_
  refine mm_getr dX9_comes_56 fX9_107 rfl ?_
  refine ww_bipush (v := 40) dX9_comes_59 (by decide) ?_
  refine ww_iload_n dX9_comes_61 rfl rfl ?_
  refine ww_imul dX9_comes_62 ?_
  refine ww_iload_n dX9_comes_63 rfl rfl ?_
  refine ww_iadd dX9_comes_64 ?_
  refine mm_iald dX9_comes_65 rfl (show _ = nI (40 * r + w) by rw [hx, hy]; exact w_40 r w) (by omega) rfl rfl ?_
  refine ww_calls1 dX9_comes_66 kX9_331 (c9_behind ha hl (by omega) (by omega) (wEn_lt (by omega) (by omega))) rfl rfl rfl rfl rfl rfl (Nat.zero_le _) (Nat.zero_le _) ?_
  refine mm_iast dX9_comes_69 rfl hc (by omega) rfl rfl ?_
  refine ww_aload_n dX9_comes_70 rfl rfl ?_
  refine mm_getr dX9_comes_71 fX9_143 rfl ?_
  refine ww_aload_n dX9_comes_74 rfl rfl ?_
  refine mm_geti dX9_comes_75 fX9_311 rfl rfl ?_
  refine ww_iconst (v := 0) dX9_comes_78 (by decide) ?_
  refine mm_iast dX9_comes_79 rfl hc (by omega) rfl rfl ?_
  refine ww_aload_n dX9_comes_80 rfl rfl ?_
  refine mm_getr dX9_comes_81 fX9_146 rfl ?_
  refine ww_aload_n dX9_comes_84 rfl rfl ?_
  refine mm_geti dX9_comes_85 fX9_311 rfl rfl ?_
  refine ww_iconst (v := -1) dX9_comes_88 (by decide) ?_
  refine mm_iast dX9_comes_89 rfl hc (by omega) rfl rfl ?_
  refine ww_aload_n dX9_comes_90 rfl rfl ?_
  refine mm_getr dX9_comes_91 fX9_149 rfl ?_
  refine ww_aload_n dX9_comes_94 rfl rfl ?_
  refine mm_geti dX9_comes_95 fX9_311 rfl rfl ?_
  refine ww_iconst (v := -1) dX9_comes_98 (by decide) ?_
  refine mm_iast dX9_comes_99 rfl hc (by omega) rfl rfl ?_
  refine ww_aload_n dX9_comes_100 rfl rfl ?_
  refine ww_dup dX9_comes_101 rfl ?_
  refine mm_geti dX9_comes_102 fX9_311 rfl rfl ?_
  refine ww_iconst (v := 1) dX9_comes_105 (by decide) ?_
  refine ww_iadd dX9_comes_106 ?_
  refine mm_puti dX9_comes_107 fX9_311 rfl rfl ?_
  exact ww_vret dX9_comes_110 rfl ⟨rfl, by rw [hc, hx, hy, ha, show nI c + 1 = nI (c + 1) from nI_1 c]; rfl⟩ (Nat.zero_le _) (Nat.zero_le _)
theorem w_200 (r k : Nat) : (200 : Int32) * nI r + nI k = nI (200 * r + k) := by rw [show (200 : Int32) = nI 200 from rfl, pk_mul, nI_add]
theorem w_cR (a r w l : Nat) (z : Int32) (c k : Nat) (h : k < 56 ∨ 63 < k) : comR R a r w l z c k = R k := by
  simp only [comR, va_up]
  rw [if_neg (by omega), if_neg (by omega), if_neg (by omega), if_neg (by omega), if_neg (by omega), if_neg (by omega), if_neg (by omega), if_neg (by omega)]
set_option maxHeartbeats 8000000 in
set_option maxRecDepth 4000 in
theorem L9_goes {x y : Int32} {a r c2 : Nat} {b : Bool} {R2 : Nat → Nat → Int32} {X : wX} (ha : F 54 = nI a) (ha2 : a ≤ 20000) (hx : x = nI r) (hr : r < 8) : ∀ n : Nat,
    (∀ (hgt c : Nat) (R : Nat → Nat → Int32) (x3 : Int32) (l4 l5 l6 l7 : Option Value), x3 = nI hgt → c ≤ 200 → gM a r n none hgt c R = some (b, c2, R2) → hgt ≤ 64 → WW G mX9_goes cX9_goes X (wZ G mX9_goes X (Det (some (.int (wb b))) (mh m (upd F 55 (nI c2)) tl R2 NL h0, sz))) 9 [some (.ref m), some (.int x), some (.int y), some (.int x3), l4, l5, l6, l7] [] (mh m (upd F 55 (nI c)) tl R NL h0, sz) 0 0) ∧
    (∀ (k hgt c : Nat) (R : Nat → Nat → Int32) (x3 x4 : Int32) (l6 l7 : Option Value), x3 = nI hgt → x4 = nI k → c ≤ 200 → gM a r n (some k) hgt c R = some (b, c2, R2) → hgt ≤ 64 → WW G mX9_goes cX9_goes X (wZ G mX9_goes X (Det (some (.int (wb b))) (mh m (upd F 55 (nI c2)) tl R2 NL h0, sz))) 27 [some (.ref m), some (.int x), some (.int y), some (.int x3), some (.int x4), some (.int 1), l6, l7] [] (mh m (upd F 55 (nI c)) tl R NL h0, sz) 0 0) := by
  intro n
  induction n with
  | zero => exact ⟨fun _ _ _ _ _ _ _ _ _ _ h => absurd h (by simp [gM]), fun _ _ _ _ _ _ _ _ _ _ _ h => absurd h (by simp [gM])⟩
  | succ n ih =>
    refine ⟨?_, ?_⟩
    · intro hgt c R x3 l4 l5 l6 l7 i3 hc200 hg h64
      refine ww_iload_n dX9_goes_9 rfl rfl ?_
      refine ww_if_le (tgt := 375) dX9_goes_10 (by decide) (fun c10 => ?_) (fun c10 => ?_)
      · have e0 : hgt = 0 := by rcases Nat.eq_zero_or_pos hgt with q | q; exact q; exact absurd c10 (by rw [i3]; exact nI_nle q (by omega))
        subst e0
        rw [gM] at hg
        cases hg
        refine ww_iconst (v := 1) dX9_goes_375 (by decide) ?_
        exact ww_zret dX9_goes_376 rfl (Or.inr rfl) ⟨rfl, rfl⟩ (Nat.zero_le _) (Nat.zero_le _)
      · obtain ⟨g, rfl⟩ : ∃ g, hgt = g + 1 := by cases hgt with | zero => exact absurd (by rw [i3]; decide) c10 | succ g => exact ⟨g, rfl⟩
        rw [gM] at hg
        obtain ⟨k, hk, hg⟩ := ob_some hg
        obtain ⟨hk2, hk⟩ := gI_eq (by decide) hk
        refine ww_iinc dX9_goes_13 rfl rfl rfl rfl ?_
        refine ww_aload_n dX9_goes_16 rfl rfl ?_
        refine mm_getr dX9_goes_17 fX9_164 rfl ?_
        refine ww_iload_n dX9_goes_20 rfl rfl ?_
        refine mm_iald dX9_goes_21 rfl (show _ = nI g by rw [i3]; exact pk_m1 g) (by omega) rfl rfl ?_
        refine ww_istore dX9_goes_22 rfl rfl ?_
        refine ww_iconst (v := 1) dX9_goes_24 (by decide) ?_
        refine ww_istore dX9_goes_25 rfl rfl ?_
        exact ih.2 k g c R _ _ _ _ (by rw [i3]; exact pk_m1 g) hk hc200 hg (by omega)
    · intro k hgt c R x3 x4 l6 l7 i3 i4 hc200b hg h64
      refine ww_iload dX9_goes_27 rfl ?_
      refine ww_if_eq (tgt := 372) dX9_goes_29 (by decide) (fun c29 => ?_) (fun c29 => ?_)
      · exact absurd c29 (by decide)
      · refine ww_iload dX9_goes_32 rfl ?_
        refine ww_aload_n dX9_goes_34 rfl rfl ?_
        refine mm_getr dX9_goes_35 fX9_89 rfl ?_
        refine ww_iload_n dX9_goes_38 rfl rfl ?_
        refine mm_iald dX9_goes_39 rfl hx (by omega) rfl rfl ?_
        refine ww_icmp_ne (tgt := 56) dX9_goes_40 (by decide) (fun c40 => ?_) (fun c40 => ?_)
        · rw [i4] at c40
          have hk2 : k < 200 := by rcases Nat.lt_or_ge k 200 with q | q; exact q; rw [gM, if_neg c40, if_pos q] at hg; cases hg
          refine ww_sipush (v := 200) dX9_goes_56 (by decide) ?_
          refine ww_iload_n dX9_goes_59 rfl rfl ?_
          refine ww_imul dX9_goes_60 ?_
          refine ww_iload dX9_goes_61 rfl ?_
          refine ww_iadd dX9_goes_63 ?_
          refine ww_istore dX9_goes_64 rfl rfl ?_
          refine ww_iinc dX9_goes_66 rfl rfl rfl rfl ?_
          refine ww_aload_n dX9_goes_69 rfl rfl ?_
          refine mm_getr dX9_goes_70 fX9_92 rfl ?_
          refine ww_iload dX9_goes_73 rfl ?_
          refine mm_iald dX9_goes_75 rfl (show _ = nI (200 * r + k) by rw [hx, i4]; exact w_200 r k) (by omega) rfl rfl ?_
          refine ww_table [116, 148, 174, 217, 229, 272] 291 dX9_goes_76 (by decide) (by decide) (by decide) (fun j76 t76 ht76 c76 => ?_) (fun c76 => ?_)
          · rcases j76 with _ | _ | _ | _ | _ | _ | j
            · cases ht76
              have eo : R 42 (200 * r + k) = nI 0 := w_lit c76 (by decide)
              rw [gM, if_neg c40, if_neg (by omega), if_pos eo] at hg
              refine ww_aload_n dX9_goes_116 rfl rfl ?_
              refine mm_geti dX9_goes_117 fX9_311 rfl rfl ?_
              refine ww_sipush (v := 200) dX9_goes_120 (by decide) ?_
              refine ww_icmp_ne (tgt := 128) dX9_goes_123 (by decide) (fun c123 => ?_) (fun c123 => ?_)
              · rw [if_neg (fun q => c123 (by rw [q]; rfl))] at hg
                obtain ⟨w, hw, hg⟩ := ob_some hg
                obtain ⟨hw4, hw⟩ := gI_eq (by decide) hw
                obtain ⟨l, hl, hg⟩ := ob_some hg
                obtain ⟨hl4, hl⟩ := gI_eq (by decide) hl
                by_cases hl0 : l = 0
                · rw [if_pos hl0] at hg; cases hg
                rw [if_neg hl0] at hg
                have hc200 : c < 200 := by
                  rcases Nat.lt_or_ge c 200 with q | q
                  · exact q
                  · exact absurd (show nI c = 200 by rw [show c = 200 by omega]; rfl) c123
                refine ww_aload_n dX9_goes_128 rfl rfl ?_
                refine ww_iload_n dX9_goes_129 rfl rfl ?_
                refine ww_aload_n dX9_goes_130 rfl rfl ?_
                refine mm_getr dX9_goes_131 fX9_95 rfl ?_
                refine ww_iload dX9_goes_134 rfl ?_
                refine mm_iald dX9_goes_136 rfl (show _ = nI (200 * r + k) by rw [hx, i4]; exact w_200 r k) (by omega) rfl rfl ?_
                refine ww_iload dX9_goes_137 rfl ?_
                refine mm_call0 dX9_goes_139 kX9_335 rfl (c9_comes rfl hc200 ha ha2 hx hr hw hw4 hl (by omega) hl4) rfl rfl rfl rfl rfl rfl (Nat.zero_le _) (Nat.zero_le _) ?_
                refine ww_iconst (v := 0) dX9_goes_142 (by decide) ?_
                refine ww_istore dX9_goes_143 rfl rfl ?_
                refine ww_goto (tgt := 369) dX9_goes_145 (by decide) ?_
                refine ww_goto (tgt := 27) dX9_goes_369 (by decide) ?_
                refine ww_iload dX9_goes_27 rfl ?_
                refine ww_if_eq (tgt := 372) dX9_goes_29 (by decide) (fun c29 => ?_) (fun c29 => ?_)
                · refine ww_goto (tgt := 9) dX9_goes_372 (by decide) ?_
                  rw [show upd (upd F 55 (nI c)) 55 (nI (c + 1)) = upd F 55 (nI (c + 1)) from w_upd_upd _ _ _ _, w_inc i4]
                  exact ih.1 hgt (c + 1) _ _ _ _ _ _ i3 (by omega) hg (by omega)
                · exact absurd c29 (fun q => q rfl)
              · rw [if_pos ((nI_eq (by omega) (by decide)).mp c123 : c = 200)] at hg
                cases hg
                refine ww_iconst (v := 0) dX9_goes_126 (by decide) ?_
                exact ww_zret dX9_goes_127 rfl (Or.inl rfl) ⟨rfl, rfl⟩ (Nat.zero_le _) (Nat.zero_le _)
            · cases ht76
              have eo : R 42 (200 * r + k) = nI 1 := w_lit c76 (by decide)
              rw [gM, if_neg c40, if_neg (by omega), if_neg (by rw [eo]; decide), if_pos eo] at hg
              obtain ⟨f, hf, hg⟩ := ob_some hg
              obtain ⟨hf4, hf⟩ := gI_eq (by decide) hf
              refine ww_aload_n dX9_goes_148 rfl rfl ?_
              refine mm_getr dX9_goes_149 fX9_113 rfl ?_
              refine ww_iconst (v := 4) dX9_goes_152 (by decide) ?_
              refine ww_iload_n dX9_goes_153 rfl rfl ?_
              refine ww_imul dX9_goes_154 ?_
              refine ww_aload_n dX9_goes_155 rfl rfl ?_
              refine mm_getr dX9_goes_156 fX9_95 rfl ?_
              refine ww_iload dX9_goes_159 rfl ?_
              refine mm_iald dX9_goes_161 rfl (show _ = nI (200 * r + k) by rw [hx, i4]; exact w_200 r k) (by omega) rfl rfl ?_
              refine ww_iadd dX9_goes_162 ?_
              refine ww_aload_n dX9_goes_163 rfl rfl ?_
              refine mm_getr dX9_goes_164 fX9_98 rfl ?_
              refine ww_iload dX9_goes_167 rfl ?_
              refine mm_iald dX9_goes_169 rfl (show _ = nI (200 * r + k) by rw [hx, i4]; exact w_200 r k) (by omega) rfl rfl ?_
              refine mm_iast dX9_goes_170 rfl (show _ = nI (4 * r + f) by rw [hx, hf]; exact w_4 r f) (by omega) rfl rfl ?_
              refine ww_goto (tgt := 369) dX9_goes_171 (by decide) ?_
              refine ww_goto (tgt := 27) dX9_goes_369 (by decide) ?_
              exact ih.2 (k + 1) hgt c _ _ _ _ _ i3 (w_inc i4) (by omega) hg (by omega)
            · cases ht76
              have eo : R 42 (200 * r + k) = nI 2 := w_lit c76 (by decide)
              rw [gM, if_neg c40, if_neg (by omega), if_neg (by rw [eo]; decide), if_neg (by rw [eo]; decide), if_pos eo] at hg
              obtain ⟨f, hf, hg⟩ := ob_some hg
              obtain ⟨hf4, hf⟩ := gI_eq (by decide) hf
              refine ww_aload_n dX9_goes_174 rfl rfl ?_
              refine mm_getr dX9_goes_175 fX9_113 rfl ?_
              refine ww_iconst (v := 4) dX9_goes_178 (by decide) ?_
              refine ww_iload_n dX9_goes_179 rfl rfl ?_
              refine ww_imul dX9_goes_180 ?_
              refine ww_aload_n dX9_goes_181 rfl rfl ?_
              refine mm_getr dX9_goes_182 fX9_95 rfl ?_
              refine ww_iload dX9_goes_185 rfl ?_
              refine mm_iald dX9_goes_187 rfl (show _ = nI (200 * r + k) by rw [hx, i4]; exact w_200 r k) (by omega) rfl rfl ?_
              refine ww_iadd dX9_goes_188 ?_
              refine mm_iald dX9_goes_189 rfl (show _ = nI (4 * r + f) by rw [hx, hf]; exact w_4 r f) (by omega) rfl rfl ?_
              refine ww_aload_n dX9_goes_190 rfl rfl ?_
              refine mm_getr dX9_goes_191 fX9_98 rfl ?_
              refine ww_iload dX9_goes_194 rfl ?_
              refine mm_iald dX9_goes_196 rfl (show _ = nI (200 * r + k) by rw [hx, i4]; exact w_200 r k) (by omega) rfl rfl ?_
              refine ww_icmp_ge (tgt := 205) dX9_goes_197 (by decide) (fun c197 => ?_) (fun c197 => ?_)
              · rw [if_neg (Int32.not_lt.mpr c197)] at hg
                obtain ⟨j, hj, hg⟩ := ob_some hg
                obtain ⟨hj2, hj⟩ := gI_eq (by decide) hj
                refine ww_aload_n dX9_goes_205 rfl rfl ?_
                refine mm_getr dX9_goes_206 fX9_101 rfl ?_
                refine ww_iload dX9_goes_209 rfl ?_
                refine mm_iald dX9_goes_211 rfl (show _ = nI (200 * r + k) by rw [hx, i4]; exact w_200 r k) (by omega) rfl rfl ?_
                refine ww_istore dX9_goes_212 rfl rfl ?_
                refine ww_goto (tgt := 369) dX9_goes_214 (by decide) ?_
                refine ww_goto (tgt := 27) dX9_goes_369 (by decide) ?_
                exact ih.2 j hgt c _ _ _ _ _ i3 hj (by omega) hg (by omega)
              · rw [if_pos (Int32.not_le.mp c197)] at hg
                refine ww_iload dX9_goes_200 rfl ?_
                refine ww_goto (tgt := 212) dX9_goes_202 (by decide) ?_
                refine ww_istore dX9_goes_212 rfl rfl ?_
                refine ww_goto (tgt := 369) dX9_goes_214 (by decide) ?_
                refine ww_goto (tgt := 27) dX9_goes_369 (by decide) ?_
                exact ih.2 (k + 1) hgt c _ _ _ _ _ i3 (w_inc i4) (by omega) hg (by omega)
            · cases ht76
              have eo : R 42 (200 * r + k) = nI 3 := w_lit c76 (by decide)
              rw [gM, if_neg c40, if_neg (by omega), if_neg (by rw [eo]; decide), if_neg (by rw [eo]; decide), if_neg (by rw [eo]; decide), if_pos eo] at hg
              obtain ⟨j, hj, hg⟩ := ob_some hg
              obtain ⟨hj2, hj⟩ := gI_eq (by decide) hj
              refine ww_aload_n dX9_goes_217 rfl rfl ?_
              refine mm_getr dX9_goes_218 fX9_101 rfl ?_
              refine ww_iload dX9_goes_221 rfl ?_
              refine mm_iald dX9_goes_223 rfl (show _ = nI (200 * r + k) by rw [hx, i4]; exact w_200 r k) (by omega) rfl rfl ?_
              refine ww_istore dX9_goes_224 rfl rfl ?_
              refine ww_goto (tgt := 369) dX9_goes_226 (by decide) ?_
              refine ww_goto (tgt := 27) dX9_goes_369 (by decide) ?_
              exact ih.2 j hgt c _ _ _ _ _ i3 hj (by omega) hg (by omega)
            · cases ht76
              have eo : R 42 (200 * r + k) = nI 4 := w_lit c76 (by decide)
              rw [gM, if_neg c40, if_neg (by omega), if_neg (by rw [eo]; decide), if_neg (by rw [eo]; decide), if_neg (by rw [eo]; decide), if_neg (by rw [eo]; decide), if_pos eo] at hg
              obtain ⟨f, hf, hg⟩ := ob_some hg
              obtain ⟨hf4, hf⟩ := gI_eq (by decide) hf
              refine ww_aload_n dX9_goes_229 rfl rfl ?_
              refine mm_getr dX9_goes_230 fX9_113 rfl ?_
              refine ww_iconst (v := 4) dX9_goes_233 (by decide) ?_
              refine ww_iload_n dX9_goes_234 rfl rfl ?_
              refine ww_imul dX9_goes_235 ?_
              refine ww_aload_n dX9_goes_236 rfl rfl ?_
              refine mm_getr dX9_goes_237 fX9_95 rfl ?_
              refine ww_iload dX9_goes_240 rfl ?_
              refine mm_iald dX9_goes_242 rfl (show _ = nI (200 * r + k) by rw [hx, i4]; exact w_200 r k) (by omega) rfl rfl ?_
              refine ww_iadd dX9_goes_243 ?_
              refine mm_iald dX9_goes_244 rfl (show _ = nI (4 * r + f) by rw [hx, hf]; exact w_4 r f) (by omega) rfl rfl ?_
              refine ww_aload_n dX9_goes_245 rfl rfl ?_
              refine mm_getr dX9_goes_246 fX9_98 rfl ?_
              refine ww_iload dX9_goes_249 rfl ?_
              refine mm_iald dX9_goes_251 rfl (show _ = nI (200 * r + k) by rw [hx, i4]; exact w_200 r k) (by omega) rfl rfl ?_
              refine ww_icmp_ge (tgt := 265) dX9_goes_252 (by decide) (fun c252 => ?_) (fun c252 => ?_)
              · rw [if_neg (Int32.not_lt.mpr c252)] at hg
                refine ww_iload dX9_goes_265 rfl ?_
                refine ww_istore dX9_goes_267 rfl rfl ?_
                refine ww_goto (tgt := 369) dX9_goes_269 (by decide) ?_
                refine ww_goto (tgt := 27) dX9_goes_369 (by decide) ?_
                exact ih.2 (k + 1) hgt c _ _ _ _ _ i3 (w_inc i4) (by omega) hg (by omega)
              · rw [if_pos (Int32.not_le.mp c252)] at hg
                obtain ⟨j, hj, hg⟩ := ob_some hg
                obtain ⟨hj2, hj⟩ := gI_eq (by decide) hj
                refine ww_aload_n dX9_goes_255 rfl rfl ?_
                refine mm_getr dX9_goes_256 fX9_101 rfl ?_
                refine ww_iload dX9_goes_259 rfl ?_
                refine mm_iald dX9_goes_261 rfl (show _ = nI (200 * r + k) by rw [hx, i4]; exact w_200 r k) (by omega) rfl rfl ?_
                refine ww_goto (tgt := 267) dX9_goes_262 (by decide) ?_
                refine ww_istore dX9_goes_267 rfl rfl ?_
                refine ww_goto (tgt := 369) dX9_goes_269 (by decide) ?_
                refine ww_goto (tgt := 27) dX9_goes_369 (by decide) ?_
                exact ih.2 j hgt c _ _ _ _ _ i3 hj (by omega) hg (by omega)
            · cases ht76
              have eo : R 42 (200 * r + k) = nI 5 := w_lit c76 (by decide)
              rw [gM, if_neg c40, if_neg (by omega), if_neg (by rw [eo]; decide), if_neg (by rw [eo]; decide), if_neg (by rw [eo]; decide), if_neg (by rw [eo]; decide), if_neg (by rw [eo]; decide), if_pos eo] at hg
              by_cases h63 : 63 ≤ hgt
              · rw [if_pos h63] at hg; cases hg
              rw [if_neg h63] at hg
              refine ww_aload_n dX9_goes_272 rfl rfl ?_
              refine mm_getr dX9_goes_273 fX9_164 rfl ?_
              refine ww_iload_n dX9_goes_276 rfl rfl ?_
              refine ww_aload_n dX9_goes_277 rfl rfl ?_
              refine mm_getr dX9_goes_278 fX9_101 rfl ?_
              refine ww_iload dX9_goes_281 rfl ?_
              refine mm_iald dX9_goes_283 rfl (show _ = nI (200 * r + k) by rw [hx, i4]; exact w_200 r k) (by omega) rfl rfl ?_
              refine mm_iast dX9_goes_284 rfl i3 (by omega) rfl rfl ?_
              refine ww_iinc dX9_goes_285 rfl rfl rfl rfl ?_
              refine ww_goto (tgt := 369) dX9_goes_288 (by decide) ?_
              refine ww_goto (tgt := 27) dX9_goes_369 (by decide) ?_
              exact ih.2 (k + 1) (hgt + 1) c _ _ _ _ _ (w_inc i3) (w_inc i4) (by omega) hg (by omega)
            · cases ht76
          · rw [gM, if_neg c40, if_neg (by omega), if_neg (w_nlit c76 (by decide) (by decide)), if_neg (w_nlit c76 (by decide) (by decide)), if_neg (w_nlit c76 (by decide) (by decide)), if_neg (w_nlit c76 (by decide) (by decide)), if_neg (w_nlit c76 (by decide) (by decide)), if_neg (w_nlit c76 (by decide) (by decide))] at hg
            obtain ⟨e, he, hg⟩ := ob_some hg
            obtain ⟨he4, he⟩ := gI_eq (by decide) he
            refine ww_bipush (v := 40) dX9_goes_291 (by decide) ?_
            refine ww_iload_n dX9_goes_293 rfl rfl ?_
            refine ww_imul dX9_goes_294 ?_
            refine ww_aload_n dX9_goes_295 rfl rfl ?_
            refine mm_getr dX9_goes_296 fX9_95 rfl ?_
            refine ww_iload dX9_goes_299 rfl ?_
            refine mm_iald dX9_goes_301 rfl (show _ = nI (200 * r + k) by rw [hx, i4]; exact w_200 r k) (by omega) rfl rfl ?_
            refine ww_iadd dX9_goes_302 ?_
            refine ww_istore dX9_goes_303 rfl rfl ?_
            refine ww_aload_n dX9_goes_305 rfl rfl ?_
            refine mm_getr dX9_goes_306 fX9_116 rfl ?_
            refine ww_iload dX9_goes_309 rfl ?_
            refine ww_dup2 dX9_goes_311 rfl rfl ?_
            refine mm_iald dX9_goes_312 rfl (show _ = nI (40 * r + e) by rw [hx, he]; exact w_40 r e) (by omega) rfl rfl ?_
            refine ww_iconst (v := 1) dX9_goes_313 (by decide) ?_
            refine ww_iadd dX9_goes_314 ?_
            refine mm_iast dX9_goes_315 rfl (show _ = nI (40 * r + e) by rw [hx, he]; exact w_40 r e) (by omega) rfl rfl ?_
            refine ww_aload_n dX9_goes_316 rfl rfl ?_
            refine mm_getr dX9_goes_317 fX9_116 rfl ?_
            refine ww_iload dX9_goes_320 rfl ?_
            refine mm_iald dX9_goes_322 rfl (show _ = nI (40 * r + e) by rw [hx, he]; exact w_40 r e) (by omega) rfl rfl ?_
            refine ww_iconst (v := 2) dX9_goes_323 (by decide) ?_
            refine ww_icmp_ne (tgt := 331) dX9_goes_324 (by decide) (fun c324 => ?_) (fun c324 => ?_)
            · rw [w_up_self, w_upd_self] at c324
              rw [if_neg c324] at hg
              refine ww_iconst (v := 0) dX9_goes_331 (by decide) ?_
              refine ww_istore dX9_goes_332 rfl rfl ?_
              refine ww_aload_n dX9_goes_334 rfl rfl ?_
              refine mm_getr dX9_goes_335 fX9_116 rfl ?_
              refine ww_iload dX9_goes_338 rfl ?_
              refine ww_iload dX9_goes_340 rfl ?_
              refine ww_if_eq (tgt := 349) dX9_goes_342 (by decide) (fun c342 => ?_) (fun c342 => ?_)
              · refine ww_aload_n dX9_goes_349 rfl rfl ?_
                refine mm_getr dX9_goes_350 fX9_116 rfl ?_
                refine ww_iload dX9_goes_353 rfl ?_
                refine mm_iald dX9_goes_355 rfl (show _ = nI (40 * r + e) by rw [hx, he]; exact w_40 r e) (by omega) rfl rfl ?_
                refine mm_iast dX9_goes_356 rfl (show _ = nI (40 * r + e) by rw [hx, he]; exact w_40 r e) (by omega) rfl rfl ?_
                refine ww_aload_n dX9_goes_357 rfl rfl ?_
                refine mm_getr dX9_goes_358 fX9_101 rfl ?_
                refine ww_iload dX9_goes_361 rfl ?_
                refine mm_iald dX9_goes_363 rfl (show _ = nI (200 * r + k) by rw [hx, i4]; exact w_200 r k) (by omega) rfl rfl ?_
                refine ww_istore dX9_goes_364 rfl rfl ?_
                refine ww_goto (tgt := 369) dX9_goes_366 (by decide) ?_
                refine ww_goto (tgt := 27) dX9_goes_369 (by decide) ?_
                refine ww_iload dX9_goes_27 rfl ?_
                refine ww_if_eq (tgt := 372) dX9_goes_29 (by decide) (fun c29 => ?_) (fun c29 => ?_)
                · refine ww_goto (tgt := 9) dX9_goes_372 (by decide) ?_
                  have e9 : va_up (va_up R 50 (upd (R 50) (40 * r + e) (R 50 (40 * r + e) + 1))) 50 (upd (va_up R 50 (upd (R 50) (40 * r + e) (R 50 (40 * r + e) + 1)) 50) (40 * r + e) (va_up R 50 (upd (R 50) (40 * r + e) (R 50 (40 * r + e) + 1)) 50 (40 * r + e))) = va_up R 50 (upd (R 50) (40 * r + e) (R 50 (40 * r + e) + 1)) := by rw [w_up_self, w_up_up, w_upd_upd, w_upd_self]
                  rw [e9]
                  exact ih.1 hgt c _ _ _ _ _ _ i3 (by omega) hg (by omega)
                · exact absurd c29 (fun q => q rfl)
              · exact absurd c342 (fun q => q rfl)
            · rw [w_up_self, w_upd_self] at c324
              rw [if_pos c324] at hg
              obtain ⟨j, hj, hg⟩ := ob_some hg
              obtain ⟨hj2, hj⟩ := gI_eq (by decide) hj
              refine ww_iconst (v := 1) dX9_goes_327 (by decide) ?_
              refine ww_goto (tgt := 332) dX9_goes_328 (by decide) ?_
              refine ww_istore dX9_goes_332 rfl rfl ?_
              refine ww_aload_n dX9_goes_334 rfl rfl ?_
              refine mm_getr dX9_goes_335 fX9_116 rfl ?_
              refine ww_iload dX9_goes_338 rfl ?_
              refine ww_iload dX9_goes_340 rfl ?_
              refine ww_if_eq (tgt := 349) dX9_goes_342 (by decide) (fun c342 => ?_) (fun c342 => ?_)
              · exact absurd c342 (by decide)
              · refine ww_iconst (v := 0) dX9_goes_345 (by decide) ?_
                refine ww_goto (tgt := 356) dX9_goes_346 (by decide) ?_
                refine mm_iast dX9_goes_356 rfl (show _ = nI (40 * r + e) by rw [hx, he]; exact w_40 r e) (by omega) rfl rfl ?_
                refine ww_aload_n dX9_goes_357 rfl rfl ?_
                refine mm_getr dX9_goes_358 fX9_101 rfl ?_
                refine ww_iload dX9_goes_361 rfl ?_
                refine mm_iald dX9_goes_363 rfl (show _ = nI (200 * r + k) by rw [hx, i4]; exact w_200 r k) (by omega) rfl rfl ?_
                refine ww_istore dX9_goes_364 rfl rfl ?_
                refine ww_goto (tgt := 369) dX9_goes_366 (by decide) ?_
                refine ww_goto (tgt := 27) dX9_goes_369 (by decide) ?_
                have e9 : va_up (va_up R 50 (upd (R 50) (40 * r + e) (R 50 (40 * r + e) + 1))) 50 (upd (va_up R 50 (upd (R 50) (40 * r + e) (R 50 (40 * r + e) + 1)) 50) (40 * r + e) 0) = va_up R 50 (upd (R 50) (40 * r + e) 0) := by rw [w_up_self, w_up_up, w_upd_upd]
                rw [e9]
                exact ih.2 j hgt c _ _ _ _ _ i3 hj (by omega) hg (by omega)
        · rw [i4] at c40
          rw [gM, if_pos c40] at hg
          refine ww_aload_n dX9_goes_43 rfl rfl ?_
          refine mm_getr dX9_goes_44 fX9_119 rfl ?_
          refine ww_iload_n dX9_goes_47 rfl rfl ?_
          refine ww_iconst (v := 1) dX9_goes_48 (by decide) ?_
          refine mm_zast dX9_goes_49 rfl hx (by omega) rfl rfl ?_
          refine ww_iconst (v := 0) dX9_goes_50 (by decide) ?_
          refine ww_istore dX9_goes_51 rfl rfl ?_
          refine ww_goto (tgt := 27) dX9_goes_53 (by decide) ?_
          refine ww_iload dX9_goes_27 rfl ?_
          refine ww_if_eq (tgt := 372) dX9_goes_29 (by decide) (fun c29 => ?_) (fun c29 => ?_)
          · refine ww_goto (tgt := 9) dX9_goes_372 (by decide) ?_
            exact ih.1 hgt c _ _ _ _ _ _ i3 (by omega) hg (by omega)
          · exact absurd c29 (fun q => q rfl)
set_option maxHeartbeats 4000000 in
theorem c9_goes {x y : Int32} {a r k c c2 n : Nat} {b : Bool} {R2 : Nat → Nat → Int32} (ha : F 54 = nI a) (ha2 : a ≤ 20000) (hx : x = nI r) (hr : r < 8) (hy : y = nI k) (hk : k < 200) (hc : F 55 = nI c) (hc2 : c ≤ 200) (hg : gM a r n (some k) 0 c (va_up R 69 (upd (R 69) 0 y)) = some (b, c2, R2)) : Sat G mX9_goes [.ref m, .int x, .int y] (mh m F tl R NL h0, sz) (Det (some (.int (wb b))) (mh m (upd F 55 (nI c2)) tl R2 NL h0, sz)) := by
  refine Sat.of (by decide) [some (.ref m), some (.int x), some (.int y), none, none, none, none, none] rfl rfl (fun X => ?_)
  refine ww_iconst (v := 1) dX9_goes_0 (by decide) ?_
  refine ww_istore_n dX9_goes_1 rfl rfl rfl ?_
  refine ww_aload_n dX9_goes_2 rfl rfl ?_
  refine mm_getr dX9_goes_3 fX9_164 rfl ?_
  refine ww_iconst (v := 0) dX9_goes_6 (by decide) ?_
  refine ww_iload_n dX9_goes_7 rfl rfl ?_
  refine mm_iast dX9_goes_8 rfl (show (0 : Int32) = nI 0 from rfl) (by decide) rfl rfl ?_
  have hg2 : gM a r (n + 1) none 1 c (va_up R 69 (upd (R 69) 0 y)) = some (b, c2, R2) := by
    rw [gM, show gI (va_up R 69 (upd (R 69) 0 y) 69 0) 200 = some k by rw [w_up_self, w_upd_self, hy]; exact gI_nI (by decide) hk]
    exact hg
  have e9 := (L9_goes (y := y) (X := X) (G := G) (m := m) (tl := tl) (NL := NL) (h0 := h0) (sz := sz) (F := F) ha ha2 hx hr (n + 1)).1 1 c _ (1 : Int32) none none none none rfl hc2 hg2 (by decide)
  rw [show upd F 55 (nI c) = F by funext j; by_cases q : j = 55; subst q; simp [upd, hc]; simp [upd, q]] at e9
  exact e9
end M7
