section M6
variable {G : wG} {m : Nat} {F : Nat → Int32} {tl : Int64} {R : Nat → Nat → Int32} {NL : Nat → Int64} {h0 : Nat → Option wE} {sz : Nat}
def Pah (R : Nat → Nat → Int32) (np c p t : Nat) : Nat → Bool := fun u => !decide (u = t) && lstT R np c p u && (decide (R 60 u < R 60 t) || (decide (R 60 u = R 60 t) && decide (u < t)))
def lsM (P : Nat → Bool) : Nat → Nat → Int32
  | 0, _ => -1
  | n + 1, t => if P t = true then nI t else lsM P n (t + 1)
def Pls (R : Nat → Nat → Int32) (np c p : Nat) (y : Int32) : Nat → Bool := fun t => lstT R np c p t && decide (nI (cntB (Pah R np c p t) c) = y)

set_option maxHeartbeats 4000000 in
theorem L9_listed1 {x y x3 : Int32} {np c p t : Nat} {X : wX} {Z : State → Prop} (hP : F 64 = nI np) (hP2 : np ≤ 8) (hc : F 55 = nI c) (hc2 : c ≤ 200) (hdp : ∀ q, q < np → okP np (R 67 q)) (hp : x = nI p) (hpn : p < np) (hT : ∀ t, t < c → tskOk R t) (i3 : x3 = nI t) (htc : t < c) (hk : ∀ (x5 : Int32) (l6 : Option Value), WW G mX9_listed cX9_listed X Z 129 [some (.ref m), some (.int x), some (.int y), some (.int x3), some (.int (nI (cntB (Pah R np c p t) c))), some (.int x5), l6] [] (mh m F tl R NL h0, sz) 0 0) : ∀ (n u : Nat) (x4 x5 : Int32) (l6 : Option Value), c - u < n → u ≤ c → x4 = nI (cntB (Pah R np c p t) u) → x5 = nI u → WW G mX9_listed cX9_listed X Z 38 [some (.ref m), some (.int x), some (.int y), some (.int x3), some (.int x4), some (.int x5), l6] [] (mh m F tl R NL h0, sz) 0 0 := by
  intro n
  induction n with
  | zero => intro u x4 x5 l6 hn; exact absurd hn (by omega)
  | succ n ih =>
    intro u x4 x5 l6 hn hu i4 i5
    refine ww_iload dX9_listed_38 rfl ?_
    refine ww_aload_n dX9_listed_40 rfl rfl ?_
    refine mm_geti dX9_listed_41 fX9_311 rfl rfl ?_
    refine ww_icmp_ge (tgt := 129) dX9_listed_44 (by decide) (fun c44 => ?_) (fun c44 => ?_)
    · have e1 := (w_le hc i5 (by omega) (by omega)).mp c44
      have e2 : u = c := by omega
      rw [i4, e2]
      exact hk _ _
    · have e1 : u < c := by rcases Nat.lt_or_ge u c with q | q; exact q; exact absurd ((w_le hc i5 (by omega) (by omega)).mpr q) c44
      refine ww_iload dX9_listed_47 rfl ?_
      refine ww_iload_n dX9_listed_49 rfl rfl ?_
      refine ww_icmp_eq (tgt := 105) dX9_listed_50 (by decide) (fun c50 => ?_) (fun c50 => ?_)
      · refine ww_iconst (v := 0) dX9_listed_105 (by decide) ?_
        refine ww_istore dX9_listed_106 rfl rfl ?_
        refine ww_iload dX9_listed_108 rfl ?_
        refine ww_iload dX9_listed_110 rfl ?_
        refine ww_if_eq (tgt := 119) dX9_listed_112 (by decide) (fun c112 => ?_) (fun c112 => ?_)
        · refine ww_iconst (v := 0) dX9_listed_119 (by decide) ?_
          refine ww_iadd dX9_listed_120 ?_
          refine ww_istore dX9_listed_121 rfl rfl ?_
          refine ww_iinc dX9_listed_123 rfl rfl rfl rfl ?_
          refine ww_goto (tgt := 38) dX9_listed_126 (by decide) ?_
          exact ih (u + 1) _ _ _ (by omega) (by omega) (by rw [i4, w_add0, cntB_f (by simp [Pah, show u = t from (nI_eq (by omega) (by omega)).mp (by rw [← i5, ← i3]; exact c50)])]) (w_inc i5)
        · exact absurd c112 (fun q => q rfl)
      · refine ww_aload_n dX9_listed_53 rfl rfl ?_
        refine ww_iload_n dX9_listed_54 rfl rfl ?_
        refine ww_iload dX9_listed_55 rfl ?_
        refine mm_call1 dX9_listed_57 kX9_368 rfl (c9_isListed hP hP2 hc hc2 hdp hp hpn i5 (by omega) (hT u e1)) rfl rfl rfl rfl rfl rfl (Nat.zero_le _) (Nat.zero_le _) ?_
        refine ww_if_eq (tgt := 105) dX9_listed_60 (by decide) (fun c60 => ?_) (fun c60 => ?_)
        · refine ww_iconst (v := 0) dX9_listed_105 (by decide) ?_
          refine ww_istore dX9_listed_106 rfl rfl ?_
          refine ww_iload dX9_listed_108 rfl ?_
          refine ww_iload dX9_listed_110 rfl ?_
          refine ww_if_eq (tgt := 119) dX9_listed_112 (by decide) (fun c112 => ?_) (fun c112 => ?_)
          · refine ww_iconst (v := 0) dX9_listed_119 (by decide) ?_
            refine ww_iadd dX9_listed_120 ?_
            refine ww_istore dX9_listed_121 rfl rfl ?_
            refine ww_iinc dX9_listed_123 rfl rfl rfl rfl ?_
            refine ww_goto (tgt := 38) dX9_listed_126 (by decide) ?_
            exact ih (u + 1) _ _ _ (by omega) (by omega) (by rw [i4, w_add0, cntB_f (by simp [Pah, wb_eq0.mp c60])]) (w_inc i5)
          · exact absurd c112 (fun q => q rfl)
        · refine ww_aload_n dX9_listed_63 rfl rfl ?_
          refine mm_getr dX9_listed_64 fX9_140 rfl ?_
          refine ww_iload dX9_listed_67 rfl ?_
          refine mm_iald dX9_listed_69 rfl i5 (by omega) rfl rfl ?_
          refine ww_aload_n dX9_listed_70 rfl rfl ?_
          refine mm_getr dX9_listed_71 fX9_140 rfl ?_
          refine ww_iload_n dX9_listed_74 rfl rfl ?_
          refine mm_iald dX9_listed_75 rfl i3 (by omega) rfl rfl ?_
          refine ww_icmp_lt (tgt := 101) dX9_listed_76 (by decide) (fun c76 => ?_) (fun c76 => ?_)
          · refine ww_iconst (v := 1) dX9_listed_101 (by decide) ?_
            refine ww_goto (tgt := 106) dX9_listed_102 (by decide) ?_
            refine ww_istore dX9_listed_106 rfl rfl ?_
            refine ww_iload dX9_listed_108 rfl ?_
            refine ww_iload dX9_listed_110 rfl ?_
            refine ww_if_eq (tgt := 119) dX9_listed_112 (by decide) (fun c112 => ?_) (fun c112 => ?_)
            · exact absurd c112 (by decide)
            · refine ww_iconst (v := 1) dX9_listed_115 (by decide) ?_
              refine ww_goto (tgt := 120) dX9_listed_116 (by decide) ?_
              refine ww_iadd dX9_listed_120 ?_
              refine ww_istore dX9_listed_121 rfl rfl ?_
              refine ww_iinc dX9_listed_123 rfl rfl rfl rfl ?_
              refine ww_goto (tgt := 38) dX9_listed_126 (by decide) ?_
              exact ih (u + 1) _ _ _ (by omega) (by omega) (by rw [i4, cntB_t (by simp [Pah, show ¬ u = t from fun e => c50 (by rw [i5, i3, e]), wb_ne0.mp c60, c76])]; exact nI_1 _) (w_inc i5)
          · refine ww_aload_n dX9_listed_79 rfl rfl ?_
            refine mm_getr dX9_listed_80 fX9_140 rfl ?_
            refine ww_iload dX9_listed_83 rfl ?_
            refine mm_iald dX9_listed_85 rfl i5 (by omega) rfl rfl ?_
            refine ww_aload_n dX9_listed_86 rfl rfl ?_
            refine mm_getr dX9_listed_87 fX9_140 rfl ?_
            refine ww_iload_n dX9_listed_90 rfl rfl ?_
            refine mm_iald dX9_listed_91 rfl i3 (by omega) rfl rfl ?_
            refine ww_icmp_ne (tgt := 105) dX9_listed_92 (by decide) (fun c92 => ?_) (fun c92 => ?_)
            · refine ww_iconst (v := 0) dX9_listed_105 (by decide) ?_
              refine ww_istore dX9_listed_106 rfl rfl ?_
              refine ww_iload dX9_listed_108 rfl ?_
              refine ww_iload dX9_listed_110 rfl ?_
              refine ww_if_eq (tgt := 119) dX9_listed_112 (by decide) (fun c112 => ?_) (fun c112 => ?_)
              · refine ww_iconst (v := 0) dX9_listed_119 (by decide) ?_
                refine ww_iadd dX9_listed_120 ?_
                refine ww_istore dX9_listed_121 rfl rfl ?_
                refine ww_iinc dX9_listed_123 rfl rfl rfl rfl ?_
                refine ww_goto (tgt := 38) dX9_listed_126 (by decide) ?_
                exact ih (u + 1) _ _ _ (by omega) (by omega) (by rw [i4, w_add0, cntB_f (by simp [Pah, c76, c92])]) (w_inc i5)
              · exact absurd c112 (fun q => q rfl)
            · refine ww_iload dX9_listed_95 rfl ?_
              refine ww_iload_n dX9_listed_97 rfl rfl ?_
              refine ww_icmp_ge (tgt := 105) dX9_listed_98 (by decide) (fun c98 => ?_) (fun c98 => ?_)
              · refine ww_iconst (v := 0) dX9_listed_105 (by decide) ?_
                refine ww_istore dX9_listed_106 rfl rfl ?_
                refine ww_iload dX9_listed_108 rfl ?_
                refine ww_iload dX9_listed_110 rfl ?_
                refine ww_if_eq (tgt := 119) dX9_listed_112 (by decide) (fun c112 => ?_) (fun c112 => ?_)
                · refine ww_iconst (v := 0) dX9_listed_119 (by decide) ?_
                  refine ww_iadd dX9_listed_120 ?_
                  refine ww_istore dX9_listed_121 rfl rfl ?_
                  refine ww_iinc dX9_listed_123 rfl rfl rfl rfl ?_
                  refine ww_goto (tgt := 38) dX9_listed_126 (by decide) ?_
                  exact ih (u + 1) _ _ _ (by omega) (by omega) (by rw [i4, w_add0, cntB_f (by simp [Pah, c76, show ¬ u < t from Nat.not_lt.mpr ((w_le i3 i5 (by omega) (by omega)).mp c98)])]) (w_inc i5)
                · exact absurd c112 (fun q => q rfl)
              · refine ww_iconst (v := 1) dX9_listed_101 (by decide) ?_
                refine ww_goto (tgt := 106) dX9_listed_102 (by decide) ?_
                refine ww_istore dX9_listed_106 rfl rfl ?_
                refine ww_iload dX9_listed_108 rfl ?_
                refine ww_iload dX9_listed_110 rfl ?_
                refine ww_if_eq (tgt := 119) dX9_listed_112 (by decide) (fun c112 => ?_) (fun c112 => ?_)
                · exact absurd c112 (by decide)
                · refine ww_iconst (v := 1) dX9_listed_115 (by decide) ?_
                  refine ww_goto (tgt := 120) dX9_listed_116 (by decide) ?_
                  refine ww_iadd dX9_listed_120 ?_
                  refine ww_istore dX9_listed_121 rfl rfl ?_
                  refine ww_iinc dX9_listed_123 rfl rfl rfl rfl ?_
                  refine ww_goto (tgt := 38) dX9_listed_126 (by decide) ?_
                  exact ih (u + 1) _ _ _ (by omega) (by omega) (by rw [i4, cntB_t (by simp [Pah, show ¬ u = t from fun e => c50 (by rw [i5, i3, e]), wb_ne0.mp c60, c92, show u < t from Nat.not_le.mp (fun e => c98 ((w_le i3 i5 (by omega) (by omega)).mpr e))])]; exact nI_1 _) (w_inc i5)
set_option maxHeartbeats 4000000 in
theorem L9_listed2 {x y : Int32} {np c p : Nat} {X : wX} (hP : F 64 = nI np) (hP2 : np ≤ 8) (hc : F 55 = nI c) (hc2 : c ≤ 200) (hdp : ∀ q, q < np → okP np (R 67 q)) (hp : x = nI p) (hpn : p < np) (hT : ∀ t, t < c → tskOk R t) : ∀ (n t : Nat) (x3 : Int32) (l4 l5 l6 : Option Value), c - t < n → t ≤ c → x3 = nI t → lsM (Pls R np c p y) (c - t) t = lsM (Pls R np c p y) c 0 → WW G mX9_listed cX9_listed X (wZ G mX9_listed X (Det (some (.int (lsM (Pls R np c p y) c 0))) (mh m F tl R NL h0, sz))) 12 [some (.ref m), some (.int x), some (.int y), some (.int x3), l4, l5, l6] [] (mh m F tl R NL h0, sz) 0 0 := by
  intro n
  induction n with
  | zero => intro t x3 l4 l5 l6 hn; exact absurd hn (by omega)
  | succ n ih =>
    intro t x3 l4 l5 l6 hn ht i3 iS
    refine ww_iload_n dX9_listed_12 rfl rfl ?_
    refine ww_aload_n dX9_listed_13 rfl rfl ?_
    refine mm_geti dX9_listed_14 fX9_311 rfl rfl ?_
    refine ww_icmp_ge (tgt := 143) dX9_listed_17 (by decide) (fun c17 => ?_) (fun c17 => ?_)
    · have e1 := (w_le hc i3 (by omega) (by omega)).mp c17
      refine ww_iconst (v := -1) dX9_listed_143 (by decide) ?_
      exact ww_iret dX9_listed_144 rfl ⟨by rw [← iS, show c - t = 0 by omega]; rfl, rfl⟩ (Nat.zero_le _) (Nat.zero_le _)
    · have e1 : t < c := by rcases Nat.lt_or_ge t c with q | q; exact q; exact absurd ((w_le hc i3 (by omega) (by omega)).mpr q) c17
      refine ww_aload_n dX9_listed_20 rfl rfl ?_
      refine ww_iload_n dX9_listed_21 rfl rfl ?_
      refine ww_iload_n dX9_listed_22 rfl rfl ?_
      refine mm_call1 dX9_listed_23 kX9_368 rfl (c9_isListed hP hP2 hc hc2 hdp hp hpn i3 (by omega) (hT t e1)) rfl rfl rfl rfl rfl rfl (Nat.zero_le _) (Nat.zero_le _) ?_
      refine ww_if_ne (tgt := 32) dX9_listed_26 (by decide) (fun c26 => ?_) (fun c26 => ?_)
      · refine ww_iconst (v := 0) dX9_listed_32 (by decide) ?_
        refine ww_istore dX9_listed_33 rfl rfl ?_
        refine ww_iconst (v := 0) dX9_listed_35 (by decide) ?_
        refine ww_istore dX9_listed_36 rfl rfl ?_
        refine L9_listed1 hP hP2 hc hc2 hdp hp hpn hT i3 e1 (fun x5 l6 => ?_) (c + 1) 0 _ _ _ (by omega) (by omega) rfl rfl
        refine ww_iload dX9_listed_129 rfl ?_
        refine ww_iload_n dX9_listed_131 rfl rfl ?_
        refine ww_icmp_ne (tgt := 137) dX9_listed_132 (by decide) (fun c132 => ?_) (fun c132 => ?_)
        · refine ww_iinc dX9_listed_137 rfl rfl rfl rfl ?_
          refine ww_goto (tgt := 12) dX9_listed_140 (by decide) ?_
          exact ih (t + 1) _ _ _ _ (by omega) (by omega) (w_inc i3) (by rw [← iS, show c - t = c - (t + 1) + 1 by omega, lsM, if_neg (wb_nt (by simp [Pls, c132]))])
        · refine ww_iload_n dX9_listed_135 rfl rfl ?_
          exact ww_iret dX9_listed_136 rfl ⟨by rw [← iS, show c - t = c - (t + 1) + 1 by omega, lsM, if_pos (by simp [Pls, wb_ne0.mp c26, c132]), i3], rfl⟩ (Nat.zero_le _) (Nat.zero_le _)
      · refine ww_goto (tgt := 137) dX9_listed_29 (by decide) ?_
        refine ww_iinc dX9_listed_137 rfl rfl rfl rfl ?_
        refine ww_goto (tgt := 12) dX9_listed_140 (by decide) ?_
        exact ih (t + 1) _ _ _ _ (by omega) (by omega) (w_inc i3) (by rw [← iS, show c - t = c - (t + 1) + 1 by omega, lsM, if_neg (wb_nt (by simp [Pls, wb_eq0.mp c26]))])
set_option maxHeartbeats 4000000 in
theorem c9_listed {x y : Int32} {np c p : Nat} (hP : F 64 = nI np) (hP2 : np ≤ 8) (hc : F 55 = nI c) (hc2 : c ≤ 200) (hdp : ∀ q, q < np → okP np (R 67 q)) (hp : x = nI p) (hpn : p < np) (hT : ∀ t, t < c → tskOk R t) : Sat G mX9_listed [.ref m, .int x, .int y] (mh m F tl R NL h0, sz) (Det (some (.int (lsM (Pls R np c p y) c 0))) (mh m F tl R NL h0, sz)) := by
  refine Sat.of (by decide) [some (.ref m), some (.int x), some (.int y), none, none, none, none] rfl rfl (fun X => ?_)
  refine ww_aload_n dX9_listed_0 rfl rfl ?_
  refine ww_iload_n dX9_listed_1 rfl rfl ?_
  refine mm_call1 dX9_listed_2 kX9_318 rfl (c9_isPerson hP (by omega)) rfl rfl rfl rfl rfl rfl (Nat.zero_le _) (Nat.zero_le _) ?_
  refine ww_if_ne (tgt := 10) dX9_listed_5 (by decide) (fun c5 => ?_) (fun c5 => ?_)
  · refine ww_iconst (v := 0) dX9_listed_10 (by decide) ?_
    refine ww_istore_n dX9_listed_11 rfl rfl rfl ?_
    exact L9_listed2 hP hP2 hc hc2 hdp hp hpn hT (c + 1) 0 _ _ _ _ (by omega) (by omega) rfl rfl
  · exact absurd c5 (by rw [hp, wIn_nI hpn (by omega)]; decide)
set_option maxHeartbeats 4000000 in
theorem c9_listed0 {x y : Int32} {np : Nat} (hP : F 64 = nI np) (hP2 : np ≤ 8) (hno : wIn x np = false) : Sat G mX9_listed [.ref m, .int x, .int y] (mh m F tl R NL h0, sz) (Det (some (.int (-1))) (mh m F tl R NL h0, sz)) := by
  refine Sat.of (by decide) [some (.ref m), some (.int x), some (.int y), none, none, none, none] rfl rfl (fun X => ?_)
  refine ww_aload_n dX9_listed_0 rfl rfl ?_
  refine ww_iload_n dX9_listed_1 rfl rfl ?_
  refine mm_call1 dX9_listed_2 kX9_318 rfl (c9_isPerson hP (by omega)) rfl rfl rfl rfl rfl rfl (Nat.zero_le _) (Nat.zero_le _) ?_
  refine ww_if_ne (tgt := 10) dX9_listed_5 (by decide) (fun c5 => ?_) (fun c5 => ?_)
  · exact absurd c5 (fun q => q (wb_eq0.mpr hno))
  · refine ww_iconst (v := -1) dX9_listed_8 (by decide) ?_
    exact ww_iret dX9_listed_9 rfl ⟨rfl, rfl⟩ (Nat.zero_le _) (Nat.zero_le _)
def awR (R : Nat → Nat → Int32) (x : Int32) (t : Nat) : Nat → Nat → Int32 := va_up (va_up R 61 (fun j => if j < t ∧ R 61 j = 1 ∧ R 62 j = x then 0 else R 61 j)) 62 (fun j => if j < t ∧ R 61 j = 1 ∧ R 62 j = x then -1 else R 62 j)
theorem awR_0 (x : Int32) : awR R x 0 = R := by
  funext k j
  by_cases h1 : k = 62
  · subst h1; simp [awR, va_up]
  · by_cases h2 : k = 61
    · subst h2; simp [awR, va_up]
    · simp [awR, va_up, h1, h2]
theorem awR_61 (x : Int32) (t : Nat) : awR R x t 61 t = R 61 t := by simp [awR, va_up]
theorem awR_62 (x : Int32) (t : Nat) : awR R x t 62 t = R 62 t := by simp [awR, va_up]
theorem awR_no {x : Int32} {t : Nat} (h : ¬ (R 61 t = 1 ∧ R 62 t = x)) : awR R x (t + 1) = awR R x t := by
  have e : ∀ j, (j < t + 1 ∧ R 61 j = 1 ∧ R 62 j = x) ↔ (j < t ∧ R 61 j = 1 ∧ R 62 j = x) := by
    intro j
    constructor
    · rintro ⟨h1, h2⟩
      rcases Nat.lt_or_ge j t with q | q
      · exact ⟨q, h2⟩
      · have : j = t := by omega
        subst this
        exact absurd h2 h
    · rintro ⟨h1, h2⟩
      exact ⟨by omega, h2⟩
  simp only [awR, e]
theorem awR_yes {x : Int32} {t : Nat} (h : R 61 t = 1 ∧ R 62 t = x) : va_up (va_up (awR R x t) 61 (upd (awR R x t 61) t 0)) 62 (upd (va_up (awR R x t) 61 (upd (awR R x t 61) t 0) 62) t (-1)) = awR R x (t + 1) := by
  have e : ∀ j, j ≠ t → ((j < t + 1 ∧ R 61 j = 1 ∧ R 62 j = x) ↔ (j < t ∧ R 61 j = 1 ∧ R 62 j = x)) := fun j hj => ⟨fun q => ⟨by omega, q.2⟩, fun q => ⟨by omega, q.2⟩⟩
  funext k j
  by_cases h1 : k = 62
  · subst h1
    by_cases hj : j = t
    · subst hj; simp [awR, va_up, upd, h]
    · simp [awR, va_up, upd, hj, e j hj]
  · by_cases h2 : k = 61
    · subst h2
      by_cases hj : j = t
      · subst hj; simp [awR, va_up, upd, h]
      · simp [awR, va_up, upd, hj, e j hj]
    · simp [awR, va_up, h1, h2]
set_option maxHeartbeats 4000000 in
theorem L9_away {x : Int32} {c : Nat} {X : wX} (hc : F 55 = nI c) (hc2 : c ≤ 200) : ∀ (n t : Nat) (x3 : Int32), c - t < n → t ≤ c → ∀ S, S = awR R x t → x3 = nI t → WW G mX9_away cX9_away X (wZ G mX9_away X (Det (some (.int 1)) (mh m F tl (awR R x c) NL h0, sz))) 19 [some (.ref m), some (.int x), some (.int 1), some (.int x3)] [] (mh m F tl S NL h0, sz) 0 0 := by
  intro n
  induction n with
  | zero => intro t x3 hn; exact absurd hn (by omega)
  | succ n ih =>
    intro t x3 hn ht S iS i3
    subst iS
    refine ww_iload_n dX9_away_19 rfl rfl ?_
    refine ww_aload_n dX9_away_20 rfl rfl ?_
    refine mm_geti dX9_away_21 fX9_311 rfl rfl ?_
    refine ww_icmp_ge (tgt := 71) dX9_away_24 (by decide) (fun c24 => ?_) (fun c24 => ?_)
    · refine ww_iconst (v := 1) dX9_away_71 (by decide) ?_
      exact ww_zret dX9_away_72 rfl (Or.inr rfl) ⟨rfl, by have e1 := (w_le hc i3 (by omega) (by omega)).mp c24; rw [show t = c by omega]⟩ (Nat.zero_le _) (Nat.zero_le _)
    · refine ww_iload_n dX9_away_27 rfl rfl ?_
      refine ww_if_eq (tgt := 71) dX9_away_28 (by decide) (fun c28 => ?_) (fun c28 => ?_)
      · exact absurd c28 (by decide)
      · have e1 : t < c := by rcases Nat.lt_or_ge t c with q | q; exact q; exact absurd ((w_le hc i3 (by omega) (by omega)).mpr q) c24
        refine ww_aload_n dX9_away_31 rfl rfl ?_
        refine mm_getr dX9_away_32 fX9_143 rfl ?_
        refine ww_iload_n dX9_away_35 rfl rfl ?_
        refine mm_iald dX9_away_36 rfl i3 (by omega) rfl rfl ?_
        refine ww_iconst (v := 1) dX9_away_37 (by decide) ?_
        refine ww_icmp_ne (tgt := 65) dX9_away_38 (by decide) (fun c38 => ?_) (fun c38 => ?_)
        · refine ww_iinc dX9_away_65 rfl rfl rfl rfl ?_
          refine ww_goto (tgt := 19) dX9_away_68 (by decide) ?_
          exact ih (t + 1) _ (by omega) (by omega) _ (awR_no (fun q => c38 (by rw [awR_61]; exact q.1))).symm (w_inc i3)
        · refine ww_aload_n dX9_away_41 rfl rfl ?_
          refine mm_getr dX9_away_42 fX9_146 rfl ?_
          refine ww_iload_n dX9_away_45 rfl rfl ?_
          refine mm_iald dX9_away_46 rfl i3 (by omega) rfl rfl ?_
          refine ww_iload_n dX9_away_47 rfl rfl ?_
          refine ww_icmp_ne (tgt := 65) dX9_away_48 (by decide) (fun c48 => ?_) (fun c48 => ?_)
          · refine ww_iinc dX9_away_65 rfl rfl rfl rfl ?_
            refine ww_goto (tgt := 19) dX9_away_68 (by decide) ?_
            exact ih (t + 1) _ (by omega) (by omega) _ (awR_no (fun q => c48 (by rw [awR_62]; exact q.2))).symm (w_inc i3)
          · refine ww_aload_n dX9_away_51 rfl rfl ?_
            refine mm_getr dX9_away_52 fX9_143 rfl ?_
            refine ww_iload_n dX9_away_55 rfl rfl ?_
            refine ww_iconst (v := 0) dX9_away_56 (by decide) ?_
            refine mm_iast dX9_away_57 rfl i3 (by omega) rfl rfl ?_
            refine ww_aload_n dX9_away_58 rfl rfl ?_
            refine mm_getr dX9_away_59 fX9_146 rfl ?_
            refine ww_iload_n dX9_away_62 rfl rfl ?_
            refine ww_iconst (v := -1) dX9_away_63 (by decide) ?_
            refine mm_iast dX9_away_64 rfl i3 (by omega) rfl rfl ?_
            refine ww_iinc dX9_away_65 rfl rfl rfl rfl ?_
            refine ww_goto (tgt := 19) dX9_away_68 (by decide) ?_
            exact ih (t + 1) _ (by omega) (by omega) _ (awR_yes ⟨(awR_61 x t).symm.trans c38, (awR_62 x t).symm.trans c48⟩) (w_inc i3)
set_option maxHeartbeats 4000000 in
theorem c9_awayT {x : Int32} {np c p : Nat} (hP : F 64 = nI np) (hP2 : np ≤ 8) (hc : F 55 = nI c) (hc2 : c ≤ 200) (hp : x = nI p) (hpn : p < np) : Sat G mX9_away [.ref m, .int x, .int 1] (mh m F tl R NL h0, sz) (Det (some (.int 1)) (mh m F tl (awR (va_up R 68 (upd (R 68) p 1)) x c) NL h0, sz)) := by
  refine Sat.of (by decide) [some (.ref m), some (.int x), some (.int 1), none] rfl rfl (fun X => ?_)
  refine ww_aload_n dX9_away_0 rfl rfl ?_
  refine ww_iload_n dX9_away_1 rfl rfl ?_
  refine mm_call1 dX9_away_2 kX9_318 rfl (c9_isPerson hP (by omega)) rfl rfl rfl rfl rfl rfl (Nat.zero_le _) (Nat.zero_le _) ?_
  refine ww_if_ne (tgt := 10) dX9_away_5 (by decide) (fun c5 => ?_) (fun c5 => ?_)
  · refine ww_aload_n dX9_away_10 rfl rfl ?_
    refine mm_getr dX9_away_11 fX9_161 rfl ?_
    refine ww_iload_n dX9_away_14 rfl rfl ?_
    refine ww_iload_n dX9_away_15 rfl rfl ?_
    refine mm_zast dX9_away_16 rfl hp (by omega) rfl rfl ?_
    refine ww_iconst (v := 0) dX9_away_17 (by decide) ?_
    refine ww_istore_n dX9_away_18 rfl rfl rfl ?_
    exact L9_away (x := x) hc hc2 (c + 1) 0 _ (by omega) (by omega) _ (awR_0 _).symm rfl
  · exact absurd c5 (by rw [hp, wIn_nI hpn (by omega)]; decide)
set_option maxHeartbeats 4000000 in
theorem c9_awayF {x : Int32} {np p : Nat} (hP : F 64 = nI np) (hP2 : np ≤ 8) (hp : x = nI p) (hpn : p < np) : Sat G mX9_away [.ref m, .int x, .int 0] (mh m F tl R NL h0, sz) (Det (some (.int 1)) (mh m F tl (va_up R 68 (upd (R 68) p 0)) NL h0, sz)) := by
  refine Sat.of (by decide) [some (.ref m), some (.int x), some (.int 0), none] rfl rfl (fun X => ?_)
  refine ww_aload_n dX9_away_0 rfl rfl ?_
  refine ww_iload_n dX9_away_1 rfl rfl ?_
  refine mm_call1 dX9_away_2 kX9_318 rfl (c9_isPerson hP (by omega)) rfl rfl rfl rfl rfl rfl (Nat.zero_le _) (Nat.zero_le _) ?_
  refine ww_if_ne (tgt := 10) dX9_away_5 (by decide) (fun c5 => ?_) (fun c5 => ?_)
  · refine ww_aload_n dX9_away_10 rfl rfl ?_
    refine mm_getr dX9_away_11 fX9_161 rfl ?_
    refine ww_iload_n dX9_away_14 rfl rfl ?_
    refine ww_iload_n dX9_away_15 rfl rfl ?_
    refine mm_zast dX9_away_16 rfl hp (by omega) rfl rfl ?_
    refine ww_iconst (v := 0) dX9_away_17 (by decide) ?_
    refine ww_istore_n dX9_away_18 rfl rfl rfl ?_
    refine ww_iload_n dX9_away_19 rfl rfl ?_
    refine ww_aload_n dX9_away_20 rfl rfl ?_
    refine mm_geti dX9_away_21 fX9_311 rfl rfl ?_
    refine ww_icmp_ge (tgt := 71) dX9_away_24 (by decide) (fun c24 => ?_) (fun c24 => ?_)
    · refine ww_iconst (v := 1) dX9_away_71 (by decide) ?_
      exact ww_zret dX9_away_72 rfl (Or.inr rfl) ⟨rfl, rfl⟩ (Nat.zero_le _) (Nat.zero_le _)
    · refine ww_iload_n dX9_away_27 rfl rfl ?_
      refine ww_if_eq (tgt := 71) dX9_away_28 (by decide) (fun c28 => ?_) (fun c28 => ?_)
      · refine ww_iconst (v := 1) dX9_away_71 (by decide) ?_
        exact ww_zret dX9_away_72 rfl (Or.inr rfl) ⟨rfl, rfl⟩ (Nat.zero_le _) (Nat.zero_le _)
      · exact absurd c28 (fun q => q rfl)
  · exact absurd c5 (by rw [hp, wIn_nI hpn (by omega)]; decide)
set_option maxHeartbeats 4000000 in
theorem c9_away0 {x y : Int32} {np : Nat} (hP : F 64 = nI np) (hP2 : np ≤ 8) (hno : wIn x np = false) : Sat G mX9_away [.ref m, .int x, .int y] (mh m F tl R NL h0, sz) (Det (some (.int 0)) (mh m F tl R NL h0, sz)) := by
  refine Sat.of (by decide) [some (.ref m), some (.int x), some (.int y), none] rfl rfl (fun X => ?_)
  refine ww_aload_n dX9_away_0 rfl rfl ?_
  refine ww_iload_n dX9_away_1 rfl rfl ?_
  refine mm_call1 dX9_away_2 kX9_318 rfl (c9_isPerson hP (by omega)) rfl rfl rfl rfl rfl rfl (Nat.zero_le _) (Nat.zero_le _) ?_
  refine ww_if_ne (tgt := 10) dX9_away_5 (by decide) (fun c5 => ?_) (fun c5 => ?_)
  · exact absurd c5 (fun q => q (wb_eq0.mpr hno))
  · refine ww_iconst (v := 0) dX9_away_8 (by decide) ?_
    exact ww_zret dX9_away_9 rfl (Or.inl rfl) ⟨rfl, rfl⟩ (Nat.zero_le _) (Nat.zero_le _)
end M6
