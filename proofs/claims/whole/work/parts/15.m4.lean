def Pms (R : Nat → Nat → Int32) (x w : Int32) : Nat → Bool := fun j => decide (stR (R 68) (R 67) (nI j) = x) && decide ((R 65 j >>> (w &&& 31)) &&& 1 = 1)
def mayM (R : Nat → Nat → Int32) (np c p : Nat) (rr : Int32) (k : Nat) : Bool := decide (R 68 p = 0) && anyB (Pms R (nI p) (R 46 k)) np && (decide (R 48 k < 0) || !decide ((dlM R rr (R 48 k) c).1 = nI p))
def mayT (R : Nat → Nat → Int32) (np c p t : Nat) : Bool := mayM R np c p (R 56 t) (40 * (R 56 t).toNatClampNeg + (R 57 t).toNatClampNeg)
def tskOk (R : Nat → Nat → Int32) (t : Nat) : Prop := ∃ r d, r < 8 ∧ d < 40 ∧ R 56 t = nI r ∧ R 57 t = nI d
theorem w_40 (r d : Nat) : (40 : Int32) * nI r + nI d = nI (40 * r + d) := by rw [show (40 : Int32) = nI 40 from rfl, pk_mul, nI_add]
theorem mayT_eq {R : Nat → Nat → Int32} {np c p t r d : Nat} (hr : R 56 t = nI r) (hr8 : r < 8) (hd : R 57 t = nI d) (hd4 : d < 40) : mayT R np c p t = mayM R np c p (R 56 t) (40 * r + d) := by
  unfold mayT
  rw [hr, hd, nI_clamp (by omega), nI_clamp (by omega)]
section M4
variable {G : wG} {m : Nat} {F : Nat → Int32} {tl : Int64} {R : Nat → Nat → Int32} {NL : Nat → Int64} {h0 : Nat → Option wE} {sz : Nat}

set_option maxHeartbeats 4000000 in
theorem L9_mayDo {x y : Int32} {np c p t r d : Nat} {X : wX} (hP : F 64 = nI np) (hP2 : np ≤ 8) (hdp : ∀ q, q < np → okP np (R 67 q)) (hc : F 55 = nI c) (hc2 : c ≤ 200) (hp : x = nI p) (hr : R 56 t = nI r) (hr8 : r < 8) (hd : R 57 t = nI d) (hd4 : d < 40) (haw : R 68 p = 0) : ∀ (n q : Nat) (x6 x7 : Int32), np - q < n → q ≤ np → x6 = wb (anyB (Pms R x (R 46 (40 * r + d))) q) → x7 = nI q → WW G mX9_mayDo cX9_mayDo X (wZ G mX9_mayDo X (Det (some (.int (wb (mayT R np c p t)))) (mh m F tl R NL h0, sz))) 60 [some (.ref m), some (.int x), some (.int y), some (.int (R 56 t)), some (.int (R 46 (40 * r + d))), some (.int (R 48 (40 * r + d))), some (.int x6), some (.int x7)] [] (mh m F tl R NL h0, sz) 0 0 := by
  intro n
  induction n with
  | zero => intro q x6 x7 hn; exact absurd hn (by omega)
  | succ n ih =>
    intro q x6 x7 hn hq i6 i7
    refine ww_iload dX9_mayDo_60 rfl ?_
    refine ww_aload_n dX9_mayDo_62 rfl rfl ?_
    refine mm_geti dX9_mayDo_63 fX9_308 rfl rfl ?_
    refine ww_icmp_ge (tgt := 113) dX9_mayDo_66 (by decide) (fun c66 => ?_) (fun c66 => ?_)
    · have e1 := (w_le hP i7 (by omega) (by omega)).mp c66
      have e2 : q = np := by omega
      refine ww_iload dX9_mayDo_113 rfl ?_
      refine ww_if_eq (tgt := 138) dX9_mayDo_115 (by decide) (fun c115 => ?_) (fun c115 => ?_)
      · refine ww_iconst (v := 0) dX9_mayDo_138 (by decide) ?_
        exact ww_zret dX9_mayDo_139 rfl (Or.inl rfl) ⟨by rw [mayT_eq hr hr8 hd hd4, mayM, ← hp, show anyB (Pms R x (R 46 (40 * r + d))) np = false from wb_eq0.mp (by rw [← e2, ← i6]; exact c115)]; simp [wb], rfl⟩ (Nat.zero_le _) (Nat.zero_le _)
      · refine ww_iload dX9_mayDo_118 rfl ?_
        refine ww_if_lt (tgt := 134) dX9_mayDo_120 (by decide) (fun c120 => ?_) (fun c120 => ?_)
        · refine ww_iconst (v := 1) dX9_mayDo_134 (by decide) ?_
          refine ww_goto (tgt := 139) dX9_mayDo_135 (by decide) ?_
          exact ww_zret dX9_mayDo_139 rfl (Or.inr rfl) ⟨by rw [mayT_eq hr hr8 hd hd4, mayM, ← hp, show anyB (Pms R x (R 46 (40 * r + d))) np = true from wb_ne0.mp (by rw [← e2, ← i6]; exact c115)]; simp [wb, haw, c120], rfl⟩ (Nat.zero_le _) (Nat.zero_le _)
        · refine ww_aload_n dX9_mayDo_123 rfl rfl ?_
          refine ww_iload_n dX9_mayDo_124 rfl rfl ?_
          refine ww_iload dX9_mayDo_125 rfl ?_
          refine mm_call1 dX9_mayDo_127 kX9_354 rfl (c9_didLast hc hc2) rfl rfl rfl rfl rfl rfl (Nat.zero_le _) (Nat.zero_le _) ?_
          refine ww_iload_n dX9_mayDo_130 rfl rfl ?_
          refine ww_icmp_eq (tgt := 138) dX9_mayDo_131 (by decide) (fun c131 => ?_) (fun c131 => ?_)
          · refine ww_iconst (v := 0) dX9_mayDo_138 (by decide) ?_
            exact ww_zret dX9_mayDo_139 rfl (Or.inl rfl) ⟨by rw [mayT_eq hr hr8 hd hd4, mayM, ← hp, show anyB (Pms R x (R 46 (40 * r + d))) np = true from wb_ne0.mp (by rw [← e2, ← i6]; exact c115)]; simp [wb, c120, c131], rfl⟩ (Nat.zero_le _) (Nat.zero_le _)
          · refine ww_iconst (v := 1) dX9_mayDo_134 (by decide) ?_
            refine ww_goto (tgt := 139) dX9_mayDo_135 (by decide) ?_
            exact ww_zret dX9_mayDo_139 rfl (Or.inr rfl) ⟨by rw [mayT_eq hr hr8 hd hd4, mayM, ← hp, show anyB (Pms R x (R 46 (40 * r + d))) np = true from wb_ne0.mp (by rw [← e2, ← i6]; exact c115)]; simp [wb, haw, c120, c131], rfl⟩ (Nat.zero_le _) (Nat.zero_le _)
    · have e1 : q < np := by rcases Nat.lt_or_ge q np with z | z; exact z; exact absurd ((w_le hP i7 (by omega) (by omega)).mpr z) c66
      refine ww_iload dX9_mayDo_69 rfl ?_
      refine ww_if_ne (tgt := 100) dX9_mayDo_71 (by decide) (fun c71 => ?_) (fun c71 => ?_)
      · refine ww_iconst (v := 1) dX9_mayDo_100 (by decide) ?_
        refine ww_goto (tgt := 105) dX9_mayDo_101 (by decide) ?_
        refine ww_istore dX9_mayDo_105 rfl rfl ?_
        refine ww_iinc dX9_mayDo_107 rfl rfl rfl rfl ?_
        refine ww_goto (tgt := 60) dX9_mayDo_110 (by decide) ?_
        exact ih (q + 1) _ _ (by omega) (by omega) (by rw [show anyB (Pms R x (R 46 (40 * r + d))) (q + 1) = true by rw [anyB, show anyB (Pms R x (R 46 (40 * r + d))) q = true from wb_ne0.mp (by rw [← i6]; exact c71)]; rfl]; rfl) (w_inc i7)
      · refine ww_aload_n dX9_mayDo_74 rfl rfl ?_
        refine ww_iload dX9_mayDo_75 rfl ?_
        refine mm_call1 dX9_mayDo_77 kX9_351 rfl (c9_stands hP hP2 hdp i7 e1) rfl rfl rfl rfl rfl rfl (Nat.zero_le _) (Nat.zero_le _) ?_
        refine ww_iload_n dX9_mayDo_80 rfl rfl ?_
        refine ww_icmp_ne (tgt := 104) dX9_mayDo_81 (by decide) (fun c81 => ?_) (fun c81 => ?_)
        · refine ww_iconst (v := 0) dX9_mayDo_104 (by decide) ?_
          refine ww_istore dX9_mayDo_105 rfl rfl ?_
          refine ww_iinc dX9_mayDo_107 rfl rfl rfl rfl ?_
          refine ww_goto (tgt := 60) dX9_mayDo_110 (by decide) ?_
          exact ih (q + 1) _ _ (by omega) (by omega) (by rw [show anyB (Pms R x (R 46 (40 * r + d))) (q + 1) = false by rw [anyB, show anyB (Pms R x (R 46 (40 * r + d))) q = false from wb_eq0.mp (by rw [← i6]; exact c71)]; simp [Pms, ← i7, c81]]; rfl) (w_inc i7)
        · refine ww_aload_n dX9_mayDo_84 rfl rfl ?_
          refine mm_getr dX9_mayDo_85 fX9_152 rfl ?_
          refine ww_iload dX9_mayDo_88 rfl ?_
          refine mm_iald dX9_mayDo_90 rfl i7 (by omega) rfl rfl ?_
          refine ww_iload dX9_mayDo_91 rfl ?_
          refine ww_ishr dX9_mayDo_93 ?_
          refine ww_iconst (v := 1) dX9_mayDo_94 (by decide) ?_
          refine ww_iand dX9_mayDo_95 ?_
          refine ww_iconst (v := 1) dX9_mayDo_96 (by decide) ?_
          refine ww_icmp_ne (tgt := 104) dX9_mayDo_97 (by decide) (fun c97 => ?_) (fun c97 => ?_)
          · refine ww_iconst (v := 0) dX9_mayDo_104 (by decide) ?_
            refine ww_istore dX9_mayDo_105 rfl rfl ?_
            refine ww_iinc dX9_mayDo_107 rfl rfl rfl rfl ?_
            refine ww_goto (tgt := 60) dX9_mayDo_110 (by decide) ?_
            exact ih (q + 1) _ _ (by omega) (by omega) (by rw [show anyB (Pms R x (R 46 (40 * r + d))) (q + 1) = false by rw [anyB, show anyB (Pms R x (R 46 (40 * r + d))) q = false from wb_eq0.mp (by rw [← i6]; exact c71)]; simp [Pms, c97]]; rfl) (w_inc i7)
          · refine ww_iconst (v := 1) dX9_mayDo_100 (by decide) ?_
            refine ww_goto (tgt := 105) dX9_mayDo_101 (by decide) ?_
            refine ww_istore dX9_mayDo_105 rfl rfl ?_
            refine ww_iinc dX9_mayDo_107 rfl rfl rfl rfl ?_
            refine ww_goto (tgt := 60) dX9_mayDo_110 (by decide) ?_
            exact ih (q + 1) _ _ (by omega) (by omega) (by rw [show anyB (Pms R x (R 46 (40 * r + d))) (q + 1) = true by simp [anyB, Pms, ← i7, c81, c97]]; rfl) (w_inc i7)
set_option maxHeartbeats 4000000 in
theorem c9_mayDo {x y : Int32} {np c p t : Nat} (hP : F 64 = nI np) (hP2 : np ≤ 8) (hdp : ∀ q, q < np → okP np (R 67 q)) (hc : F 55 = nI c) (hc2 : c ≤ 200) (hp : x = nI p) (hpn : p < np) (ht : y = nI t) (htc : t < 200) (hT : tskOk R t) : Sat G mX9_mayDo [.ref m, .int x, .int y] (mh m F tl R NL h0, sz) (Det (some (.int (wb (mayT R np c p t)))) (mh m F tl R NL h0, sz)) := by
  refine Sat.of (by decide) [some (.ref m), some (.int x), some (.int y), none, none, none, none, none] rfl rfl (fun X => ?_)
  obtain ⟨r, d, hr8, hd4, hr, hd⟩ := hT
  refine ww_aload_n dX9_mayDo_0 rfl rfl ?_
  refine mm_getr dX9_mayDo_1 fX9_161 rfl ?_
  refine ww_iload_n dX9_mayDo_4 rfl rfl ?_
  refine mm_zald dX9_mayDo_5 rfl hp (by omega) rfl rfl ?_
  refine ww_if_eq (tgt := 11) dX9_mayDo_6 (by decide) (fun c6 => ?_) (fun c6 => ?_)
  · refine ww_aload_n dX9_mayDo_11 rfl rfl ?_
    refine mm_getr dX9_mayDo_12 fX9_128 rfl ?_
    refine ww_iload_n dX9_mayDo_15 rfl rfl ?_
    refine mm_iald dX9_mayDo_16 rfl ht (by omega) rfl rfl ?_
    refine ww_istore_n dX9_mayDo_17 rfl rfl rfl ?_
    refine ww_aload_n dX9_mayDo_18 rfl rfl ?_
    refine mm_getr dX9_mayDo_19 fX9_104 rfl ?_
    refine ww_bipush (v := 40) dX9_mayDo_22 (by decide) ?_
    refine ww_iload_n dX9_mayDo_24 rfl rfl ?_
    refine ww_imul dX9_mayDo_25 ?_
    refine ww_aload_n dX9_mayDo_26 rfl rfl ?_
    refine mm_getr dX9_mayDo_27 fX9_131 rfl ?_
    refine ww_iload_n dX9_mayDo_30 rfl rfl ?_
    refine mm_iald dX9_mayDo_31 rfl ht (by omega) rfl rfl ?_
    refine ww_iadd dX9_mayDo_32 ?_
    refine mm_iald dX9_mayDo_33 rfl (show _ = nI (40 * r + d) by rw [hr, hd]; exact w_40 r d) (by omega) rfl rfl ?_
    refine ww_istore dX9_mayDo_34 rfl rfl ?_
    refine ww_aload_n dX9_mayDo_36 rfl rfl ?_
    refine mm_getr dX9_mayDo_37 fX9_110 rfl ?_
    refine ww_bipush (v := 40) dX9_mayDo_40 (by decide) ?_
    refine ww_iload_n dX9_mayDo_42 rfl rfl ?_
    refine ww_imul dX9_mayDo_43 ?_
    refine ww_aload_n dX9_mayDo_44 rfl rfl ?_
    refine mm_getr dX9_mayDo_45 fX9_131 rfl ?_
    refine ww_iload_n dX9_mayDo_48 rfl rfl ?_
    refine mm_iald dX9_mayDo_49 rfl ht (by omega) rfl rfl ?_
    refine ww_iadd dX9_mayDo_50 ?_
    refine mm_iald dX9_mayDo_51 rfl (show _ = nI (40 * r + d) by rw [hr, hd]; exact w_40 r d) (by omega) rfl rfl ?_
    refine ww_istore dX9_mayDo_52 rfl rfl ?_
    refine ww_iconst (v := 0) dX9_mayDo_54 (by decide) ?_
    refine ww_istore dX9_mayDo_55 rfl rfl ?_
    refine ww_iconst (v := 0) dX9_mayDo_57 (by decide) ?_
    refine ww_istore dX9_mayDo_58 rfl rfl ?_
    exact L9_mayDo hP hP2 hdp hc hc2 hp hr hr8 hd hd4 c6 (np + 1) 0 _ _ (by omega) (by omega) rfl rfl
  · refine ww_iconst (v := 0) dX9_mayDo_9 (by decide) ?_
    exact ww_zret dX9_mayDo_10 rfl (Or.inl rfl) ⟨by rw [mayT_eq hr hr8 hd hd4, mayM, decide_eq_false c6]; rfl, rfl⟩ (Nat.zero_le _) (Nat.zero_le _)
set_option maxHeartbeats 4000000 in
theorem c9_may0 {x y : Int32} {np c : Nat} (hP : F 64 = nI np) (hP2 : np ≤ 8) (hc : F 55 = nI c) (hc2 : c ≤ 200) (hno : (wIn x np && wIn y c) = false) : Sat G mX9_may [.ref m, .int x, .int y] (mh m F tl R NL h0, sz) (Det (some (.int (-1))) (mh m F tl R NL h0, sz)) := by
  refine Sat.of (by decide) [some (.ref m), some (.int x), some (.int y)] rfl rfl (fun X => ?_)
  refine ww_aload_n dX9_may_0 rfl rfl ?_
  refine ww_iload_n dX9_may_1 rfl rfl ?_
  refine mm_call1 dX9_may_2 kX9_318 rfl (c9_isPerson hP (by omega)) rfl rfl rfl rfl rfl rfl (Nat.zero_le _) (Nat.zero_le _) ?_
  refine ww_if_eq (tgt := 16) dX9_may_5 (by decide) (fun c5 => ?_) (fun c5 => ?_)
  · refine ww_iconst (v := -1) dX9_may_16 (by decide) ?_
    refine ww_goto (tgt := 34) dX9_may_17 (by decide) ?_
    exact ww_iret dX9_may_34 rfl ⟨rfl, rfl⟩ (Nat.zero_le _) (Nat.zero_le _)
  · refine ww_aload_n dX9_may_8 rfl rfl ?_
    refine ww_iload_n dX9_may_9 rfl rfl ?_
    refine mm_call1 dX9_may_10 kX9_348 rfl (c9_isTask hc (by omega)) rfl rfl rfl rfl rfl rfl (Nat.zero_le _) (Nat.zero_le _) ?_
    refine ww_if_ne (tgt := 20) dX9_may_13 (by decide) (fun c13 => ?_) (fun c13 => ?_)
    · exact absurd hno (by rw [wb_ne0.mp c5, wb_ne0.mp c13]; decide)
    · refine ww_iconst (v := -1) dX9_may_16 (by decide) ?_
      refine ww_goto (tgt := 34) dX9_may_17 (by decide) ?_
      exact ww_iret dX9_may_34 rfl ⟨rfl, rfl⟩ (Nat.zero_le _) (Nat.zero_le _)
set_option maxHeartbeats 4000000 in
theorem c9_may {x y : Int32} {np c p t : Nat} (hP : F 64 = nI np) (hP2 : np ≤ 8) (hc : F 55 = nI c) (hc2 : c ≤ 200) (hdp : ∀ q, q < np → okP np (R 67 q)) (hp : x = nI p) (hpn : p < np) (ht : y = nI t) (htc : t < c) (hT : tskOk R t) : Sat G mX9_may [.ref m, .int x, .int y] (mh m F tl R NL h0, sz) (Det (some (.int (wb (mayT R np c p t)))) (mh m F tl R NL h0, sz)) := by
  refine Sat.of (by decide) [some (.ref m), some (.int x), some (.int y)] rfl rfl (fun X => ?_)
  refine ww_aload_n dX9_may_0 rfl rfl ?_
  refine ww_iload_n dX9_may_1 rfl rfl ?_
  refine mm_call1 dX9_may_2 kX9_318 rfl (c9_isPerson hP (by omega)) rfl rfl rfl rfl rfl rfl (Nat.zero_le _) (Nat.zero_le _) ?_
  refine ww_if_eq (tgt := 16) dX9_may_5 (by decide) (fun c5 => ?_) (fun c5 => ?_)
  · exact absurd c5 (by rw [hp, wIn_nI hpn (by omega)]; decide)
  · refine ww_aload_n dX9_may_8 rfl rfl ?_
    refine ww_iload_n dX9_may_9 rfl rfl ?_
    refine mm_call1 dX9_may_10 kX9_348 rfl (c9_isTask hc (by omega)) rfl rfl rfl rfl rfl rfl (Nat.zero_le _) (Nat.zero_le _) ?_
    refine ww_if_ne (tgt := 20) dX9_may_13 (by decide) (fun c13 => ?_) (fun c13 => ?_)
    · refine ww_aload_n dX9_may_20 rfl rfl ?_
      refine ww_iload_n dX9_may_21 rfl rfl ?_
      refine ww_iload_n dX9_may_22 rfl rfl ?_
      refine mm_call1 dX9_may_23 kX9_357 rfl (c9_mayDo hP hP2 hdp hc hc2 hp hpn ht (by omega) hT) rfl rfl rfl rfl rfl rfl (Nat.zero_le _) (Nat.zero_le _) ?_
      refine ww_if_eq (tgt := 33) dX9_may_26 (by decide) (fun c26 => ?_) (fun c26 => ?_)
      · refine ww_iconst (v := 0) dX9_may_33 (by decide) ?_
        exact ww_iret dX9_may_34 rfl ⟨by rw [wb_eq0.mp c26]; rfl, rfl⟩ (Nat.zero_le _) (Nat.zero_le _)
      · refine ww_iconst (v := 1) dX9_may_29 (by decide) ?_
        refine ww_goto (tgt := 34) dX9_may_30 (by decide) ?_
        exact ww_iret dX9_may_34 rfl ⟨by rw [wb_ne0.mp c26]; rfl, rfl⟩ (Nat.zero_le _) (Nat.zero_le _)
    · exact absurd c13 (by rw [ht, wIn_nI htc (by omega)]; decide)
def lstT (R : Nat → Nat → Int32) (np c p : Nat) : Nat → Bool := fun t => decide (R 61 t = 0) && mayT R np c p t
set_option maxHeartbeats 4000000 in
theorem c9_isListed {x y : Int32} {np c p t : Nat} (hP : F 64 = nI np) (hP2 : np ≤ 8) (hc : F 55 = nI c) (hc2 : c ≤ 200) (hdp : ∀ q, q < np → okP np (R 67 q)) (hp : x = nI p) (hpn : p < np) (ht : y = nI t) (htc : t < 200) (hT : tskOk R t) : Sat G mX9_isListed [.ref m, .int x, .int y] (mh m F tl R NL h0, sz) (Det (some (.int (wb (lstT R np c p t)))) (mh m F tl R NL h0, sz)) := by
  refine Sat.of (by decide) [some (.ref m), some (.int x), some (.int y)] rfl rfl (fun X => ?_)
  refine ww_aload_n dX9_isListed_0 rfl rfl ?_
  refine mm_getr dX9_isListed_1 fX9_143 rfl ?_
  refine ww_iload_n dX9_isListed_4 rfl rfl ?_
  refine mm_iald dX9_isListed_5 rfl ht (by omega) rfl rfl ?_
  refine ww_if_ne (tgt := 22) dX9_isListed_6 (by decide) (fun c6 => ?_) (fun c6 => ?_)
  · refine ww_iconst (v := 0) dX9_isListed_22 (by decide) ?_
    exact ww_zret dX9_isListed_23 rfl (Or.inl rfl) ⟨by rw [lstT, decide_eq_false c6]; rfl, rfl⟩ (Nat.zero_le _) (Nat.zero_le _)
  · refine ww_aload_n dX9_isListed_9 rfl rfl ?_
    refine ww_iload_n dX9_isListed_10 rfl rfl ?_
    refine ww_iload_n dX9_isListed_11 rfl rfl ?_
    refine mm_call1 dX9_isListed_12 kX9_357 rfl (c9_mayDo hP hP2 hdp hc hc2 hp hpn ht htc hT) rfl rfl rfl rfl rfl rfl (Nat.zero_le _) (Nat.zero_le _) ?_
    refine ww_if_eq (tgt := 22) dX9_isListed_15 (by decide) (fun c15 => ?_) (fun c15 => ?_)
    · refine ww_iconst (v := 0) dX9_isListed_22 (by decide) ?_
      exact ww_zret dX9_isListed_23 rfl (Or.inl rfl) ⟨by rw [lstT, wb_eq0.mp c15]; simp [wb], rfl⟩ (Nat.zero_le _) (Nat.zero_le _)
    · refine ww_iconst (v := 1) dX9_isListed_18 (by decide) ?_
      refine ww_goto (tgt := 23) dX9_isListed_19 (by decide) ?_
      exact ww_zret dX9_isListed_23 rfl (Or.inr rfl) ⟨by rw [lstT, wb_ne0.mp c15, decide_eq_true c6]; rfl, rfl⟩ (Nat.zero_le _) (Nat.zero_le _)
set_option maxHeartbeats 4000000 in
theorem L9_list {x : Int32} {np c p : Nat} {X : wX} (hP : F 64 = nI np) (hP2 : np ≤ 8) (hc : F 55 = nI c) (hc2 : c ≤ 200) (hdp : ∀ q, q < np → okP np (R 67 q)) (hp : x = nI p) (hpn : p < np) (hT : ∀ t, t < c → tskOk R t) : ∀ (n t : Nat) (x2 x3 : Int32), c - t < n → t ≤ c → x2 = nI (cntB (lstT R np c p) t) → x3 = nI t → WW G mX9_list cX9_list X (wZ G mX9_list X (Det (some (.int (nI (cntB (lstT R np c p) c)))) (mh m F tl R NL h0, sz))) 14 [some (.ref m), some (.int x), some (.int x2), some (.int x3)] [] (mh m F tl R NL h0, sz) 0 0 := by
  intro n
  induction n with
  | zero => intro t x2 x3 hn; exact absurd hn (by omega)
  | succ n ih =>
    intro t x2 x3 hn ht i2 i3
    refine ww_iload_n dX9_list_14 rfl rfl ?_
    refine ww_aload_n dX9_list_15 rfl rfl ?_
    refine mm_geti dX9_list_16 fX9_311 rfl rfl ?_
    refine ww_icmp_ge (tgt := 45) dX9_list_19 (by decide) (fun c19 => ?_) (fun c19 => ?_)
    · have e1 := (w_le hc i3 (by omega) (by omega)).mp c19
      have e2 : t = c := by omega
      refine ww_iload_n dX9_list_45 rfl rfl ?_
      exact ww_iret dX9_list_46 rfl ⟨by rw [i2, e2], rfl⟩ (Nat.zero_le _) (Nat.zero_le _)
    · have e1 : t < c := by rcases Nat.lt_or_ge t c with q | q; exact q; exact absurd ((w_le hc i3 (by omega) (by omega)).mpr q) c19
      refine ww_iload_n dX9_list_22 rfl rfl ?_
      refine ww_aload_n dX9_list_23 rfl rfl ?_
      refine ww_iload_n dX9_list_24 rfl rfl ?_
      refine ww_iload_n dX9_list_25 rfl rfl ?_
      refine mm_call1 dX9_list_26 kX9_368 rfl (c9_isListed hP hP2 hc hc2 hdp hp hpn i3 (by omega) (hT t e1)) rfl rfl rfl rfl rfl rfl (Nat.zero_le _) (Nat.zero_le _) ?_
      refine ww_if_eq (tgt := 36) dX9_list_29 (by decide) (fun c29 => ?_) (fun c29 => ?_)
      · refine ww_iconst (v := 0) dX9_list_36 (by decide) ?_
        refine ww_iadd dX9_list_37 ?_
        refine ww_istore_n dX9_list_38 rfl rfl rfl ?_
        refine ww_iinc dX9_list_39 rfl rfl rfl rfl ?_
        refine ww_goto (tgt := 14) dX9_list_42 (by decide) ?_
        exact ih (t + 1) _ _ (by omega) (by omega) (by rw [i2, w_add0, cntB_f (wb_eq0.mp c29)]) (w_inc i3)
      · refine ww_iconst (v := 1) dX9_list_32 (by decide) ?_
        refine ww_goto (tgt := 37) dX9_list_33 (by decide) ?_
        refine ww_iadd dX9_list_37 ?_
        refine ww_istore_n dX9_list_38 rfl rfl rfl ?_
        refine ww_iinc dX9_list_39 rfl rfl rfl rfl ?_
        refine ww_goto (tgt := 14) dX9_list_42 (by decide) ?_
        exact ih (t + 1) _ _ (by omega) (by omega) (by rw [i2, cntB_t (wb_ne0.mp c29)]; exact nI_1 _) (w_inc i3)
set_option maxHeartbeats 4000000 in
theorem c9_list {x : Int32} {np c p : Nat} (hP : F 64 = nI np) (hP2 : np ≤ 8) (hc : F 55 = nI c) (hc2 : c ≤ 200) (hdp : ∀ q, q < np → okP np (R 67 q)) (hp : x = nI p) (hpn : p < np) (hT : ∀ t, t < c → tskOk R t) : Sat G mX9_list [.ref m, .int x] (mh m F tl R NL h0, sz) (Det (some (.int (nI (cntB (lstT R np c p) c)))) (mh m F tl R NL h0, sz)) := by
  refine Sat.of (by decide) [some (.ref m), some (.int x), none, none] rfl rfl (fun X => ?_)
  refine ww_aload_n dX9_list_0 rfl rfl ?_
  refine ww_iload_n dX9_list_1 rfl rfl ?_
  refine mm_call1 dX9_list_2 kX9_318 rfl (c9_isPerson hP (by omega)) rfl rfl rfl rfl rfl rfl (Nat.zero_le _) (Nat.zero_le _) ?_
  refine ww_if_ne (tgt := 10) dX9_list_5 (by decide) (fun c5 => ?_) (fun c5 => ?_)
  · refine ww_iconst (v := 0) dX9_list_10 (by decide) ?_
    refine ww_istore_n dX9_list_11 rfl rfl rfl ?_
    refine ww_iconst (v := 0) dX9_list_12 (by decide) ?_
    refine ww_istore_n dX9_list_13 rfl rfl rfl ?_
    exact L9_list hP hP2 hc hc2 hdp hp hpn hT (c + 1) 0 _ _ (by omega) (by omega) rfl rfl
  · exact absurd c5 (by rw [hp, wIn_nI hpn (by omega)]; decide)
set_option maxHeartbeats 4000000 in
theorem c9_list0 {x : Int32} {np : Nat} (hP : F 64 = nI np) (hP2 : np ≤ 8) (hno : wIn x np = false) : Sat G mX9_list [.ref m, .int x] (mh m F tl R NL h0, sz) (Det (some (.int (-1))) (mh m F tl R NL h0, sz)) := by
  refine Sat.of (by decide) [some (.ref m), some (.int x), none, none] rfl rfl (fun X => ?_)
  refine ww_aload_n dX9_list_0 rfl rfl ?_
  refine ww_iload_n dX9_list_1 rfl rfl ?_
  refine mm_call1 dX9_list_2 kX9_318 rfl (c9_isPerson hP (by omega)) rfl rfl rfl rfl rfl rfl (Nat.zero_le _) (Nat.zero_le _) ?_
  refine ww_if_ne (tgt := 10) dX9_list_5 (by decide) (fun c5 => ?_) (fun c5 => ?_)
  · exact absurd c5 (fun q => q (wb_eq0.mpr hno))
  · refine ww_iconst (v := -1) dX9_list_8 (by decide) ?_
    exact ww_iret dX9_list_9 rfl ⟨rfl, rfl⟩ (Nat.zero_le _) (Nat.zero_le _)
set_option maxHeartbeats 4000000 in
theorem c9_claim {x y : Int32} {np c p t : Nat} (hP : F 64 = nI np) (hP2 : np ≤ 8) (hc : F 55 = nI c) (hc2 : c ≤ 200) (hdp : ∀ q, q < np → okP np (R 67 q)) (hp : x = nI p) (hpn : p < np) (ht : y = nI t) (htc : t < c) (hT : tskOk R t) : Sat G mX9_claim [.ref m, .int x, .int y] (mh m F tl R NL h0, sz) (Det (some (.int (if (R 61 t = 0 ∧ mayT R np c p t = true ∧ nI (cntB (Pcl R x) c) < R 66 p) then nI (cntB (Pcl (va_up (va_up R 61 (upd (R 61) t 1)) 62 (upd (R 62) t x)) x) c) else -1))) (if (R 61 t = 0 ∧ mayT R np c p t = true ∧ nI (cntB (Pcl R x) c) < R 66 p) then (mh m F tl (va_up (va_up R 61 (upd (R 61) t 1)) 62 (upd (R 62) t x)) NL h0, sz) else (mh m F tl R NL h0, sz))) := by
  refine Sat.of (by decide) [some (.ref m), some (.int x), some (.int y)] rfl rfl (fun X => ?_)
  refine ww_aload_n dX9_claim_0 rfl rfl ?_
  refine ww_iload_n dX9_claim_1 rfl rfl ?_
  refine mm_call1 dX9_claim_2 kX9_318 rfl (c9_isPerson hP (by omega)) rfl rfl rfl rfl rfl rfl (Nat.zero_le _) (Nat.zero_le _) ?_
  refine ww_if_eq (tgt := 48) dX9_claim_5 (by decide) (fun c5 => ?_) (fun c5 => ?_)
  · exact absurd c5 (by rw [hp, wIn_nI hpn (by omega)]; decide)
  · refine ww_aload_n dX9_claim_8 rfl rfl ?_
    refine ww_iload_n dX9_claim_9 rfl rfl ?_
    refine mm_call1 dX9_claim_10 kX9_348 rfl (c9_isTask hc (by omega)) rfl rfl rfl rfl rfl rfl (Nat.zero_le _) (Nat.zero_le _) ?_
    refine ww_if_eq (tgt := 48) dX9_claim_13 (by decide) (fun c13 => ?_) (fun c13 => ?_)
    · exact absurd c13 (by rw [ht, wIn_nI htc (by omega)]; decide)
    · refine ww_aload_n dX9_claim_16 rfl rfl ?_
      refine mm_getr dX9_claim_17 fX9_143 rfl ?_
      refine ww_iload_n dX9_claim_20 rfl rfl ?_
      refine mm_iald dX9_claim_21 rfl ht (by omega) rfl rfl ?_
      refine ww_if_ne (tgt := 48) dX9_claim_22 (by decide) (fun c22 => ?_) (fun c22 => ?_)
      · refine ww_iconst (v := -1) dX9_claim_48 (by decide) ?_
        exact ww_iret dX9_claim_49 rfl ⟨by rw [if_neg (fun q => c22 q.1)], by rw [if_neg (fun q => c22 q.1)]⟩ (Nat.zero_le _) (Nat.zero_le _)
      · refine ww_aload_n dX9_claim_25 rfl rfl ?_
        refine ww_iload_n dX9_claim_26 rfl rfl ?_
        refine ww_iload_n dX9_claim_27 rfl rfl ?_
        refine mm_call1 dX9_claim_28 kX9_357 rfl (c9_mayDo hP hP2 hdp hc hc2 hp hpn ht (by omega) hT) rfl rfl rfl rfl rfl rfl (Nat.zero_le _) (Nat.zero_le _) ?_
        refine ww_if_eq (tgt := 48) dX9_claim_31 (by decide) (fun c31 => ?_) (fun c31 => ?_)
        · refine ww_iconst (v := -1) dX9_claim_48 (by decide) ?_
          exact ww_iret dX9_claim_49 rfl ⟨by rw [if_neg (fun q => wb_nt (wb_eq0.mp c31) q.2.1)], by rw [if_neg (fun q => wb_nt (wb_eq0.mp c31) q.2.1)]⟩ (Nat.zero_le _) (Nat.zero_le _)
        · refine ww_aload_n dX9_claim_34 rfl rfl ?_
          refine ww_iload_n dX9_claim_35 rfl rfl ?_
          refine mm_call1 dX9_claim_36 kX9_360 rfl (c9_claims hc hc2) rfl rfl rfl rfl rfl rfl (Nat.zero_le _) (Nat.zero_le _) ?_
          refine ww_aload_n dX9_claim_39 rfl rfl ?_
          refine mm_getr dX9_claim_40 fX9_155 rfl ?_
          refine ww_iload_n dX9_claim_43 rfl rfl ?_
          refine mm_iald dX9_claim_44 rfl hp (by omega) rfl rfl ?_
          refine ww_icmp_lt (tgt := 50) dX9_claim_45 (by decide) (fun c45 => ?_) (fun c45 => ?_)
          · refine ww_aload_n dX9_claim_50 rfl rfl ?_
            refine mm_getr dX9_claim_51 fX9_143 rfl ?_
            refine ww_iload_n dX9_claim_54 rfl rfl ?_
            refine ww_iconst (v := 1) dX9_claim_55 (by decide) ?_
            refine mm_iast dX9_claim_56 rfl ht (by omega) rfl rfl ?_
            refine ww_aload_n dX9_claim_57 rfl rfl ?_
            refine mm_getr dX9_claim_58 fX9_146 rfl ?_
            refine ww_iload_n dX9_claim_61 rfl rfl ?_
            refine ww_iload_n dX9_claim_62 rfl rfl ?_
            refine mm_iast dX9_claim_63 rfl ht (by omega) rfl rfl ?_
            refine ww_aload_n dX9_claim_64 rfl rfl ?_
            refine ww_iload_n dX9_claim_65 rfl rfl ?_
            refine mm_call1 dX9_claim_66 kX9_360 rfl (c9_claims hc hc2) rfl rfl rfl rfl rfl rfl (Nat.zero_le _) (Nat.zero_le _) ?_
            exact ww_iret dX9_claim_69 rfl ⟨by rw [if_pos ⟨c22, wb_ne0.mp c31, c45⟩]; rfl, by rw [if_pos ⟨c22, wb_ne0.mp c31, c45⟩]; rfl⟩ (Nat.zero_le _) (Nat.zero_le _)
          · refine ww_iconst (v := -1) dX9_claim_48 (by decide) ?_
            exact ww_iret dX9_claim_49 rfl ⟨by rw [if_neg (fun q => c45 q.2.2)], by rw [if_neg (fun q => c45 q.2.2)]⟩ (Nat.zero_le _) (Nat.zero_le _)
set_option maxHeartbeats 4000000 in
theorem c9_claim0 {x y : Int32} {np c : Nat} (hP : F 64 = nI np) (hP2 : np ≤ 8) (hc : F 55 = nI c) (hc2 : c ≤ 200) (hno : (wIn x np && wIn y c) = false) : Sat G mX9_claim [.ref m, .int x, .int y] (mh m F tl R NL h0, sz) (Det (some (.int (-1))) (mh m F tl R NL h0, sz)) := by
  refine Sat.of (by decide) [some (.ref m), some (.int x), some (.int y)] rfl rfl (fun X => ?_)
  refine ww_aload_n dX9_claim_0 rfl rfl ?_
  refine ww_iload_n dX9_claim_1 rfl rfl ?_
  refine mm_call1 dX9_claim_2 kX9_318 rfl (c9_isPerson hP (by omega)) rfl rfl rfl rfl rfl rfl (Nat.zero_le _) (Nat.zero_le _) ?_
  refine ww_if_eq (tgt := 48) dX9_claim_5 (by decide) (fun c5 => ?_) (fun c5 => ?_)
  · refine ww_iconst (v := -1) dX9_claim_48 (by decide) ?_
    exact ww_iret dX9_claim_49 rfl ⟨rfl, rfl⟩ (Nat.zero_le _) (Nat.zero_le _)
  · refine ww_aload_n dX9_claim_8 rfl rfl ?_
    refine ww_iload_n dX9_claim_9 rfl rfl ?_
    refine mm_call1 dX9_claim_10 kX9_348 rfl (c9_isTask hc (by omega)) rfl rfl rfl rfl rfl rfl (Nat.zero_le _) (Nat.zero_le _) ?_
    refine ww_if_eq (tgt := 48) dX9_claim_13 (by decide) (fun c13 => ?_) (fun c13 => ?_)
    · refine ww_iconst (v := -1) dX9_claim_48 (by decide) ?_
      exact ww_iret dX9_claim_49 rfl ⟨rfl, rfl⟩ (Nat.zero_le _) (Nat.zero_le _)
    · exact absurd hno (by rw [wb_ne0.mp c5, wb_ne0.mp c13]; decide)
def taskM (R : Nat → Nat → Int32) (t : Nat) (x : Int32) : Int32 := if x = nI 0 then R 56 t else if x = nI 1 then R 57 t else if x = nI 2 then R 46 (40 * (R 56 t).toNatClampNeg + (R 57 t).toNatClampNeg) else if x = nI 3 then R 59 t else if x = nI 4 then R 60 t else if x = nI 5 then R 61 t else if x = nI 6 then R 62 t else if x = nI 7 then R 63 t else -1
theorem tk_2 {t : Nat} : taskM R t (nI 2) = R 46 (40 * (R 56 t).toNatClampNeg + (R 57 t).toNatClampNeg) := rfl
theorem tk_out {t : Nat} {x : Int32} (h : x.toInt < 0 ∨ 7 < x.toInt) : taskM R t x = -1 := by
  unfold taskM
  rw [if_neg (w_nlit h (by decide) (by decide)), if_neg (w_nlit h (by decide) (by decide)), if_neg (w_nlit h (by decide) (by decide)), if_neg (w_nlit h (by decide) (by decide)), if_neg (w_nlit h (by decide) (by decide)), if_neg (w_nlit h (by decide) (by decide)), if_neg (w_nlit h (by decide) (by decide)), if_neg (w_nlit h (by decide) (by decide))]
set_option maxHeartbeats 4000000 in
theorem c9_task {x y : Int32} {c t : Nat} (hc : F 55 = nI c) (hc2 : c ≤ 200) (ht : x = nI t) (htc : t < c) (hT : tskOk R t) : Sat G mX9_task [.ref m, .int x, .int y] (mh m F tl R NL h0, sz) (Det (some (.int (taskM R t y))) (mh m F tl R NL h0, sz)) := by
  refine Sat.of (by decide) [some (.ref m), some (.int x), some (.int y)] rfl rfl (fun X => ?_)
  obtain ⟨r, d, hr8, hd4, hr, hd⟩ := hT
  refine ww_aload_n dX9_task_0 rfl rfl ?_
  refine ww_iload_n dX9_task_1 rfl rfl ?_
  refine mm_call1 dX9_task_2 kX9_348 rfl (c9_isTask hc (by omega)) rfl rfl rfl rfl rfl rfl (Nat.zero_le _) (Nat.zero_le _) ?_
  refine ww_if_ne (tgt := 10) dX9_task_5 (by decide) (fun c5 => ?_) (fun c5 => ?_)
  · refine ww_iload_n dX9_task_10 rfl rfl ?_
    refine ww_table [56, 63, 70, 92, 99, 106, 113, 120] 127 dX9_task_11 (by decide) (by decide) (by decide) (fun j11 t11 ht11 c11 => ?_) (fun c11 => ?_)
    · rcases j11 with _ | _ | _ | _ | _ | _ | _ | _ | j
      · cases ht11
        refine ww_aload_n dX9_task_56 rfl rfl ?_
        refine mm_getr dX9_task_57 fX9_128 rfl ?_
        refine ww_iload_n dX9_task_60 rfl rfl ?_
        refine mm_iald dX9_task_61 rfl ht (by omega) rfl rfl ?_
        exact ww_iret dX9_task_62 rfl ⟨by rw [w_lit (n := 0) c11 (by decide)]; rfl, rfl⟩ (Nat.zero_le _) (Nat.zero_le _)
      · cases ht11
        refine ww_aload_n dX9_task_63 rfl rfl ?_
        refine mm_getr dX9_task_64 fX9_131 rfl ?_
        refine ww_iload_n dX9_task_67 rfl rfl ?_
        refine mm_iald dX9_task_68 rfl ht (by omega) rfl rfl ?_
        exact ww_iret dX9_task_69 rfl ⟨by rw [w_lit (n := 1) c11 (by decide)]; rfl, rfl⟩ (Nat.zero_le _) (Nat.zero_le _)
      · cases ht11
        refine ww_aload_n dX9_task_70 rfl rfl ?_
        refine mm_getr dX9_task_71 fX9_104 rfl ?_
        refine ww_bipush (v := 40) dX9_task_74 (by decide) ?_
        refine ww_aload_n dX9_task_76 rfl rfl ?_
        refine mm_getr dX9_task_77 fX9_128 rfl ?_
        refine ww_iload_n dX9_task_80 rfl rfl ?_
        refine mm_iald dX9_task_81 rfl ht (by omega) rfl rfl ?_
        refine ww_imul dX9_task_82 ?_
        refine ww_aload_n dX9_task_83 rfl rfl ?_
        refine mm_getr dX9_task_84 fX9_131 rfl ?_
        refine ww_iload_n dX9_task_87 rfl rfl ?_
        refine mm_iald dX9_task_88 rfl ht (by omega) rfl rfl ?_
        refine ww_iadd dX9_task_89 ?_
        refine mm_iald dX9_task_90 rfl (show _ = nI (40 * r + d) by rw [hr, hd]; exact w_40 r d) (by omega) rfl rfl ?_
        exact ww_iret dX9_task_91 rfl ⟨by rw [w_lit (n := 2) c11 (by decide), tk_2, hr, hd, nI_clamp (by omega), nI_clamp (by omega)], rfl⟩ (Nat.zero_le _) (Nat.zero_le _)
      · cases ht11
        refine ww_aload_n dX9_task_92 rfl rfl ?_
        refine mm_getr dX9_task_93 fX9_137 rfl ?_
        refine ww_iload_n dX9_task_96 rfl rfl ?_
        refine mm_iald dX9_task_97 rfl ht (by omega) rfl rfl ?_
        exact ww_iret dX9_task_98 rfl ⟨by rw [w_lit (n := 3) c11 (by decide)]; rfl, rfl⟩ (Nat.zero_le _) (Nat.zero_le _)
      · cases ht11
        refine ww_aload_n dX9_task_99 rfl rfl ?_
        refine mm_getr dX9_task_100 fX9_140 rfl ?_
        refine ww_iload_n dX9_task_103 rfl rfl ?_
        refine mm_iald dX9_task_104 rfl ht (by omega) rfl rfl ?_
        exact ww_iret dX9_task_105 rfl ⟨by rw [w_lit (n := 4) c11 (by decide)]; rfl, rfl⟩ (Nat.zero_le _) (Nat.zero_le _)
      · cases ht11
        refine ww_aload_n dX9_task_106 rfl rfl ?_
        refine mm_getr dX9_task_107 fX9_143 rfl ?_
        refine ww_iload_n dX9_task_110 rfl rfl ?_
        refine mm_iald dX9_task_111 rfl ht (by omega) rfl rfl ?_
        exact ww_iret dX9_task_112 rfl ⟨by rw [w_lit (n := 5) c11 (by decide)]; rfl, rfl⟩ (Nat.zero_le _) (Nat.zero_le _)
      · cases ht11
        refine ww_aload_n dX9_task_113 rfl rfl ?_
        refine mm_getr dX9_task_114 fX9_146 rfl ?_
        refine ww_iload_n dX9_task_117 rfl rfl ?_
        refine mm_iald dX9_task_118 rfl ht (by omega) rfl rfl ?_
        exact ww_iret dX9_task_119 rfl ⟨by rw [w_lit (n := 6) c11 (by decide)]; rfl, rfl⟩ (Nat.zero_le _) (Nat.zero_le _)
      · cases ht11
        refine ww_aload_n dX9_task_120 rfl rfl ?_
        refine mm_getr dX9_task_121 fX9_149 rfl ?_
        refine ww_iload_n dX9_task_124 rfl rfl ?_
        refine mm_iald dX9_task_125 rfl ht (by omega) rfl rfl ?_
        exact ww_iret dX9_task_126 rfl ⟨by rw [w_lit (n := 7) c11 (by decide)]; rfl, rfl⟩ (Nat.zero_le _) (Nat.zero_le _)
      · cases ht11
    · refine ww_iconst (v := -1) dX9_task_127 (by decide) ?_
      exact ww_iret dX9_task_128 rfl ⟨by rw [tk_out c11], rfl⟩ (Nat.zero_le _) (Nat.zero_le _)
  · exact absurd c5 (by rw [ht, wIn_nI htc (by omega)]; decide)
set_option maxHeartbeats 4000000 in
theorem c9_task0 {x y : Int32} {c : Nat} (hc : F 55 = nI c) (hc2 : c ≤ 200) (hno : wIn x c = false) : Sat G mX9_task [.ref m, .int x, .int y] (mh m F tl R NL h0, sz) (Det (some (.int (-1))) (mh m F tl R NL h0, sz)) := by
  refine Sat.of (by decide) [some (.ref m), some (.int x), some (.int y)] rfl rfl (fun X => ?_)
  refine ww_aload_n dX9_task_0 rfl rfl ?_
  refine ww_iload_n dX9_task_1 rfl rfl ?_
  refine mm_call1 dX9_task_2 kX9_348 rfl (c9_isTask hc (by omega)) rfl rfl rfl rfl rfl rfl (Nat.zero_le _) (Nat.zero_le _) ?_
  refine ww_if_ne (tgt := 10) dX9_task_5 (by decide) (fun c5 => ?_) (fun c5 => ?_)
  · exact absurd c5 (fun q => q (wb_eq0.mpr hno))
  · refine ww_iconst (v := -1) dX9_task_8 (by decide) ?_
    exact ww_iret dX9_task_9 rfl ⟨rfl, rfl⟩ (Nat.zero_le _) (Nat.zero_le _)
end M4
