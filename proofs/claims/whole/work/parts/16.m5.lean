section M5
variable {G : wG} {m : Nat} {F : Nat → Int32} {tl : Int64} {R : Nat → Nat → Int32} {NL : Nat → Int64} {h0 : Nat → Option wE} {sz : Nat}

def Prn (R : Nat → Nat → Int32) (x : Int32) : Nat → Bool := fun j => decide (R 56 j = x) && !decide (R 61 j = 2)
def runM (R : Nat → Nat → Int32) (c r : Nat) (y : Int32) : Int32 := if inR y 0 3 = true then R 49 (4 * r + y.toNatClampNeg) else if y = 4 then (if R 51 r = 0 then 0 else 1) else if y = 5 then nI (cntB (Prn R (nI r)) c) else -1
theorem inR_ex {y : Int32} {b : Nat} (hb : b < 2 ^ 30) (h : inR y 0 b = true) : ∃ j, j ≤ b ∧ y = nI j := by
  have h' := of_decide_eq_true h
  obtain ⟨j, h1, h2⟩ := (wIn_iff (x := y) (n := b + 1) (by omega)).mp (decide_eq_true ⟨h'.1, by omega⟩)
  exact ⟨j, by omega, h2⟩
theorem w_4 (r d : Nat) : (4 : Int32) * nI r + nI d = nI (4 * r + d) := by rw [show (4 : Int32) = nI 4 from rfl, pk_mul, nI_add]
set_option maxHeartbeats 4000000 in
theorem L9_runOf {x y : Int32} {c r : Nat} {X : wX} (hc : F 55 = nI c) (hc2 : c ≤ 200) (hp : x = nI r) (hr8 : r < 8) : ∀ (n t : Nat) (x3 x4 : Int32), c - t < n → t ≤ c → x3 = nI (cntB (Prn R (nI r)) t) → x4 = nI t → WW G mX9_runOf cX9_runOf X (wZ G mX9_runOf X (Det (some (.int (runM R c r y))) (mh m F tl R NL h0, sz))) 23 [some (.ref m), some (.int x), some (.int y), some (.int x3), some (.int x4)] [] (mh m F tl R NL h0, sz) 0 0 := by
  intro n
  induction n with
  | zero => intro t x3 x4 hn; exact absurd hn (by omega)
  | succ n ih =>
    intro t x3 x4 hn ht i3 i4
    refine ww_iload dX9_runOf_23 rfl ?_
    refine ww_aload_n dX9_runOf_25 rfl rfl ?_
    refine mm_geti dX9_runOf_26 fX9_311 rfl rfl ?_
    refine ww_icmp_ge (tgt := 68) dX9_runOf_29 (by decide) (fun c29 => ?_) (fun c29 => ?_)
    · have e1 := (w_le hc i4 (by omega) (by omega)).mp c29
      have e2 : t = c := by omega
      refine ww_iload_n dX9_runOf_68 rfl rfl ?_
      refine ww_i2l dX9_runOf_69 ?_
      refine ww_lconst (v := 0) dX9_runOf_70 (by decide) ?_
      refine ww_ldc2 dX9_runOf_71 qX9_346 ?_
      refine ww_calls1 dX9_runOf_74 kX9_177 c9_in rfl rfl rfl rfl rfl rfl (Nat.zero_le _) (Nat.zero_le _) ?_
      refine ww_if_eq (tgt := 93) dX9_runOf_77 (by decide) (fun c77 => ?_) (fun c77 => ?_)
      · refine ww_iload_n dX9_runOf_93 rfl rfl ?_
        refine ww_iconst (v := 4) dX9_runOf_94 (by decide) ?_
        refine ww_icmp_ne (tgt := 115) dX9_runOf_95 (by decide) (fun c95 => ?_) (fun c95 => ?_)
        · refine ww_iload_n dX9_runOf_115 rfl rfl ?_
          refine ww_iconst (v := 5) dX9_runOf_116 (by decide) ?_
          refine ww_icmp_ne (tgt := 124) dX9_runOf_117 (by decide) (fun c117 => ?_) (fun c117 => ?_)
          · refine ww_iconst (v := -1) dX9_runOf_124 (by decide) ?_
            exact ww_iret dX9_runOf_125 rfl ⟨by rw [runM, if_neg (wb_nt (wb_eq0.mp (by rw [in_c (a := 0) (b := 3) rfl rfl] at c77; exact c77 : wb (inR y 0 3) = 0))), if_neg c95, if_neg c117], rfl⟩ (Nat.zero_le _) (Nat.zero_le _)
          · refine ww_iload_n dX9_runOf_120 rfl rfl ?_
            refine ww_goto (tgt := 125) dX9_runOf_121 (by decide) ?_
            exact ww_iret dX9_runOf_125 rfl ⟨by rw [runM, if_neg (wb_nt (wb_eq0.mp (by rw [in_c (a := 0) (b := 3) rfl rfl] at c77; exact c77 : wb (inR y 0 3) = 0))), if_neg c95, if_pos c117, i3, e2], rfl⟩ (Nat.zero_le _) (Nat.zero_le _)
        · refine ww_aload_n dX9_runOf_98 rfl rfl ?_
          refine mm_getr dX9_runOf_99 fX9_119 rfl ?_
          refine ww_iload_n dX9_runOf_102 rfl rfl ?_
          refine mm_zald dX9_runOf_103 rfl hp (by omega) rfl rfl ?_
          refine ww_if_eq (tgt := 111) dX9_runOf_104 (by decide) (fun c104 => ?_) (fun c104 => ?_)
          · refine ww_iconst (v := 0) dX9_runOf_111 (by decide) ?_
            refine ww_goto (tgt := 125) dX9_runOf_112 (by decide) ?_
            exact ww_iret dX9_runOf_125 rfl ⟨by rw [runM, if_neg (wb_nt (wb_eq0.mp (by rw [in_c (a := 0) (b := 3) rfl rfl] at c77; exact c77 : wb (inR y 0 3) = 0))), if_pos c95, if_pos c104], rfl⟩ (Nat.zero_le _) (Nat.zero_le _)
          · refine ww_iconst (v := 1) dX9_runOf_107 (by decide) ?_
            refine ww_goto (tgt := 125) dX9_runOf_108 (by decide) ?_
            exact ww_iret dX9_runOf_125 rfl ⟨by rw [runM, if_neg (wb_nt (wb_eq0.mp (by rw [in_c (a := 0) (b := 3) rfl rfl] at c77; exact c77 : wb (inR y 0 3) = 0))), if_pos c95, if_neg c104], rfl⟩ (Nat.zero_le _) (Nat.zero_le _)
      · have hj0 : inR y 0 3 = true := wb_ne0.mp (by rw [in_c (a := 0) (b := 3) rfl rfl] at c77; exact c77)
        obtain ⟨j, hj, ej⟩ := inR_ex (b := 3) (by omega) hj0
        refine ww_aload_n dX9_runOf_80 rfl rfl ?_
        refine mm_getr dX9_runOf_81 fX9_113 rfl ?_
        refine ww_iconst (v := 4) dX9_runOf_84 (by decide) ?_
        refine ww_iload_n dX9_runOf_85 rfl rfl ?_
        refine ww_imul dX9_runOf_86 ?_
        refine ww_iload_n dX9_runOf_87 rfl rfl ?_
        refine ww_iadd dX9_runOf_88 ?_
        refine mm_iald dX9_runOf_89 rfl (show _ = nI (4 * r + j) by rw [hp, ej]; exact w_4 r j) (by omega) rfl rfl ?_
        refine ww_goto (tgt := 125) dX9_runOf_90 (by decide) ?_
        exact ww_iret dX9_runOf_125 rfl ⟨by rw [runM, if_pos hj0, ej, nI_clamp (by omega)], rfl⟩ (Nat.zero_le _) (Nat.zero_le _)
    · have e1 : t < c := by rcases Nat.lt_or_ge t c with q | q; exact q; exact absurd ((w_le hc i4 (by omega) (by omega)).mpr q) c29
      refine ww_iload_n dX9_runOf_32 rfl rfl ?_
      refine ww_aload_n dX9_runOf_33 rfl rfl ?_
      refine mm_getr dX9_runOf_34 fX9_128 rfl ?_
      refine ww_iload dX9_runOf_37 rfl ?_
      refine mm_iald dX9_runOf_39 rfl i4 (by omega) rfl rfl ?_
      refine ww_iload_n dX9_runOf_40 rfl rfl ?_
      refine ww_icmp_ne (tgt := 59) dX9_runOf_41 (by decide) (fun c41 => ?_) (fun c41 => ?_)
      · refine ww_iconst (v := 0) dX9_runOf_59 (by decide) ?_
        refine ww_iadd dX9_runOf_60 ?_
        refine ww_istore_n dX9_runOf_61 rfl rfl rfl ?_
        refine ww_iinc dX9_runOf_62 rfl rfl rfl rfl ?_
        refine ww_goto (tgt := 23) dX9_runOf_65 (by decide) ?_
        exact ih (t + 1) _ _ (by omega) (by omega) (by rw [i3, w_add0, cntB_f (by simp [Prn, ← hp, c41])]) (w_inc i4)
      · refine ww_aload_n dX9_runOf_44 rfl rfl ?_
        refine mm_getr dX9_runOf_45 fX9_143 rfl ?_
        refine ww_iload dX9_runOf_48 rfl ?_
        refine mm_iald dX9_runOf_50 rfl i4 (by omega) rfl rfl ?_
        refine ww_iconst (v := 2) dX9_runOf_51 (by decide) ?_
        refine ww_icmp_eq (tgt := 59) dX9_runOf_52 (by decide) (fun c52 => ?_) (fun c52 => ?_)
        · refine ww_iconst (v := 0) dX9_runOf_59 (by decide) ?_
          refine ww_iadd dX9_runOf_60 ?_
          refine ww_istore_n dX9_runOf_61 rfl rfl rfl ?_
          refine ww_iinc dX9_runOf_62 rfl rfl rfl rfl ?_
          refine ww_goto (tgt := 23) dX9_runOf_65 (by decide) ?_
          exact ih (t + 1) _ _ (by omega) (by omega) (by rw [i3, w_add0, cntB_f (by simp [Prn, c52])]) (w_inc i4)
        · refine ww_iconst (v := 1) dX9_runOf_55 (by decide) ?_
          refine ww_goto (tgt := 60) dX9_runOf_56 (by decide) ?_
          refine ww_iadd dX9_runOf_60 ?_
          refine ww_istore_n dX9_runOf_61 rfl rfl rfl ?_
          refine ww_iinc dX9_runOf_62 rfl rfl rfl rfl ?_
          refine ww_goto (tgt := 23) dX9_runOf_65 (by decide) ?_
          exact ih (t + 1) _ _ (by omega) (by omega) (by rw [i3, cntB_t (by simp [Prn, ← hp, c41, c52])]; exact nI_1 _) (w_inc i4)
set_option maxHeartbeats 4000000 in
theorem c9_runOf {x y : Int32} {nr c r : Nat} (hN : F 40 = nI nr) (hN2 : nr ≤ 8) (hc : F 55 = nI c) (hc2 : c ≤ 200) (hp : x = nI r) (hrn : r < nr) : Sat G mX9_runOf [.ref m, .int x, .int y] (mh m F tl R NL h0, sz) (Det (some (.int (runM R c r y))) (mh m F tl R NL h0, sz)) := by
  refine Sat.of (by decide) [some (.ref m), some (.int x), some (.int y), none, none] rfl rfl (fun X => ?_)
  refine ww_iload_n dX9_runOf_0 rfl rfl ?_
  refine ww_i2l dX9_runOf_1 ?_
  refine ww_lconst (v := 0) dX9_runOf_2 (by decide) ?_
  refine ww_aload_n dX9_runOf_3 rfl rfl ?_
  refine mm_geti dX9_runOf_4 fX9_339 rfl rfl ?_
  refine ww_iconst (v := 1) dX9_runOf_7 (by decide) ?_
  refine ww_isub dX9_runOf_8 ?_
  refine ww_i2l dX9_runOf_9 ?_
  refine ww_calls1 dX9_runOf_10 kX9_177 c9_in rfl rfl rfl rfl rfl rfl (Nat.zero_le _) (Nat.zero_le _) ?_
  refine ww_if_ne (tgt := 18) dX9_runOf_13 (by decide) (fun c13 => ?_) (fun c13 => ?_)
  · refine ww_iconst (v := 0) dX9_runOf_18 (by decide) ?_
    refine ww_istore_n dX9_runOf_19 rfl rfl rfl ?_
    refine ww_iconst (v := 0) dX9_runOf_20 (by decide) ?_
    refine ww_istore dX9_runOf_21 rfl rfl ?_
    exact L9_runOf hc hc2 hp (by omega) (c + 1) 0 _ _ (by omega) (by omega) rfl rfl
  · exact absurd c13 (by rw [in_ix hN (by omega), hp, wIn_nI hrn (by omega)]; decide)
set_option maxHeartbeats 4000000 in
theorem c9_runOf0 {x y : Int32} {nr : Nat} (hN : F 40 = nI nr) (hN2 : nr ≤ 8) (hno : wIn x nr = false) : Sat G mX9_runOf [.ref m, .int x, .int y] (mh m F tl R NL h0, sz) (Det (some (.int (-1))) (mh m F tl R NL h0, sz)) := by
  refine Sat.of (by decide) [some (.ref m), some (.int x), some (.int y), none, none] rfl rfl (fun X => ?_)
  refine ww_iload_n dX9_runOf_0 rfl rfl ?_
  refine ww_i2l dX9_runOf_1 ?_
  refine ww_lconst (v := 0) dX9_runOf_2 (by decide) ?_
  refine ww_aload_n dX9_runOf_3 rfl rfl ?_
  refine mm_geti dX9_runOf_4 fX9_339 rfl rfl ?_
  refine ww_iconst (v := 1) dX9_runOf_7 (by decide) ?_
  refine ww_isub dX9_runOf_8 ?_
  refine ww_i2l dX9_runOf_9 ?_
  refine ww_calls1 dX9_runOf_10 kX9_177 c9_in rfl rfl rfl rfl rfl rfl (Nat.zero_le _) (Nat.zero_le _) ?_
  refine ww_if_ne (tgt := 18) dX9_runOf_13 (by decide) (fun c13 => ?_) (fun c13 => ?_)
  · exact absurd c13 (by rw [in_ix hN (by omega)]; exact fun q => q (wb_eq0.mpr hno))
  · refine ww_iconst (v := -1) dX9_runOf_16 (by decide) ?_
    exact ww_iret dX9_runOf_17 rfl ⟨rfl, rfl⟩ (Nat.zero_le _) (Nat.zero_le _)
def Pdn (R : Nat → Nat → Int32) (x : Int32) : Nat → Bool := fun j => decide (R 61 j = 2) && decide (R 62 j = x)
def psnM (R : Nat → Nat → Int32) (c p : Nat) (y : Int32) : Int32 := if y = nI 0 then R 65 p else if y = nI 1 then R 66 p else if y = nI 2 then nI (cntB (Pcl R (nI p)) c) else if y = nI 3 then (if R 68 p = 0 then 0 else 1) else if y = nI 4 then R 67 p else if y = nI 5 then nI (cntB (Pdn R (nI p)) c) else -1
theorem ps_2 {c p : Nat} : psnM R c p (nI 2) = nI (cntB (Pcl R (nI p)) c) := rfl
theorem ps_3 {c p : Nat} : psnM R c p (nI 3) = if R 68 p = 0 then 0 else 1 := rfl
theorem ps_5 {c p : Nat} : psnM R c p (nI 5) = nI (cntB (Pdn R (nI p)) c) := rfl
theorem ps_out {c p : Nat} {x : Int32} (h : x.toInt < 0 ∨ 5 < x.toInt) : psnM R c p x = -1 := by
  unfold psnM
  rw [if_neg (w_nlit h (by decide) (by decide)), if_neg (w_nlit h (by decide) (by decide)), if_neg (w_nlit h (by decide) (by decide)), if_neg (w_nlit h (by decide) (by decide)), if_neg (w_nlit h (by decide) (by decide)), if_neg (w_nlit h (by decide) (by decide))]
set_option maxHeartbeats 4000000 in
theorem L9_personOf {x y : Int32} {c p : Nat} {X : wX} (hc : F 55 = nI c) (hc2 : c ≤ 200) (hp : x = nI p) (hp8 : p < 8) : ∀ (n t : Nat) (x3 x4 : Int32), c - t < n → t ≤ c → x3 = nI (cntB (Pdn R (nI p)) t) → x4 = nI t → WW G mX9_personOf cX9_personOf X (wZ G mX9_personOf X (Det (some (.int (psnM R c p y))) (mh m F tl R NL h0, sz))) 15 [some (.ref m), some (.int x), some (.int y), some (.int x3), some (.int x4)] [] (mh m F tl R NL h0, sz) 0 0 := by
  intro n
  induction n with
  | zero => intro t x3 x4 hn; exact absurd hn (by omega)
  | succ n ih =>
    intro t x3 x4 hn ht i3 i4
    refine ww_iload dX9_personOf_15 rfl ?_
    refine ww_aload_n dX9_personOf_17 rfl rfl ?_
    refine mm_geti dX9_personOf_18 fX9_311 rfl rfl ?_
    refine ww_icmp_ge (tgt := 60) dX9_personOf_21 (by decide) (fun c21 => ?_) (fun c21 => ?_)
    · have e1 := (w_le hc i4 (by omega) (by omega)).mp c21
      have e2 : t = c := by omega
      refine ww_iload_n dX9_personOf_60 rfl rfl ?_
      refine ww_table [100, 107, 114, 120, 135, 142] 144 dX9_personOf_61 (by decide) (by decide) (by decide) (fun j61 t61 ht61 c61 => ?_) (fun c61 => ?_)
      · rcases j61 with _ | _ | _ | _ | _ | _ | j
        · cases ht61
          refine ww_aload_n dX9_personOf_100 rfl rfl ?_
          refine mm_getr dX9_personOf_101 fX9_152 rfl ?_
          refine ww_iload_n dX9_personOf_104 rfl rfl ?_
          refine mm_iald dX9_personOf_105 rfl hp (by omega) rfl rfl ?_
          exact ww_iret dX9_personOf_106 rfl ⟨by rw [w_lit (n := 0) c61 (by decide)]; rfl, rfl⟩ (Nat.zero_le _) (Nat.zero_le _)
        · cases ht61
          refine ww_aload_n dX9_personOf_107 rfl rfl ?_
          refine mm_getr dX9_personOf_108 fX9_155 rfl ?_
          refine ww_iload_n dX9_personOf_111 rfl rfl ?_
          refine mm_iald dX9_personOf_112 rfl hp (by omega) rfl rfl ?_
          exact ww_iret dX9_personOf_113 rfl ⟨by rw [w_lit (n := 1) c61 (by decide)]; rfl, rfl⟩ (Nat.zero_le _) (Nat.zero_le _)
        · cases ht61
          refine ww_aload_n dX9_personOf_114 rfl rfl ?_
          refine ww_iload_n dX9_personOf_115 rfl rfl ?_
          refine mm_call1 dX9_personOf_116 kX9_360 rfl (c9_claims hc hc2) rfl rfl rfl rfl rfl rfl (Nat.zero_le _) (Nat.zero_le _) ?_
          exact ww_iret dX9_personOf_119 rfl ⟨by rw [w_lit (n := 2) c61 (by decide), ps_2, hp], rfl⟩ (Nat.zero_le _) (Nat.zero_le _)
        · cases ht61
          refine ww_aload_n dX9_personOf_120 rfl rfl ?_
          refine mm_getr dX9_personOf_121 fX9_161 rfl ?_
          refine ww_iload_n dX9_personOf_124 rfl rfl ?_
          refine mm_zald dX9_personOf_125 rfl hp (by omega) rfl rfl ?_
          refine ww_if_eq (tgt := 133) dX9_personOf_126 (by decide) (fun c126 => ?_) (fun c126 => ?_)
          · refine ww_iconst (v := 0) dX9_personOf_133 (by decide) ?_
            exact ww_iret dX9_personOf_134 rfl ⟨by rw [w_lit (n := 3) c61 (by decide), ps_3, if_pos c126], rfl⟩ (Nat.zero_le _) (Nat.zero_le _)
          · refine ww_iconst (v := 1) dX9_personOf_129 (by decide) ?_
            refine ww_goto (tgt := 134) dX9_personOf_130 (by decide) ?_
            exact ww_iret dX9_personOf_134 rfl ⟨by rw [w_lit (n := 3) c61 (by decide), ps_3, if_neg c126], rfl⟩ (Nat.zero_le _) (Nat.zero_le _)
        · cases ht61
          refine ww_aload_n dX9_personOf_135 rfl rfl ?_
          refine mm_getr dX9_personOf_136 fX9_158 rfl ?_
          refine ww_iload_n dX9_personOf_139 rfl rfl ?_
          refine mm_iald dX9_personOf_140 rfl hp (by omega) rfl rfl ?_
          exact ww_iret dX9_personOf_141 rfl ⟨by rw [w_lit (n := 4) c61 (by decide)]; rfl, rfl⟩ (Nat.zero_le _) (Nat.zero_le _)
        · cases ht61
          refine ww_iload_n dX9_personOf_142 rfl rfl ?_
          exact ww_iret dX9_personOf_143 rfl ⟨by rw [w_lit (n := 5) c61 (by decide), ps_5, i3, e2], rfl⟩ (Nat.zero_le _) (Nat.zero_le _)
        · cases ht61
      · refine ww_iconst (v := -1) dX9_personOf_144 (by decide) ?_
        exact ww_iret dX9_personOf_145 rfl ⟨by rw [ps_out c61], rfl⟩ (Nat.zero_le _) (Nat.zero_le _)
    · have e1 : t < c := by rcases Nat.lt_or_ge t c with q | q; exact q; exact absurd ((w_le hc i4 (by omega) (by omega)).mpr q) c21
      refine ww_iload_n dX9_personOf_24 rfl rfl ?_
      refine ww_aload_n dX9_personOf_25 rfl rfl ?_
      refine mm_getr dX9_personOf_26 fX9_143 rfl ?_
      refine ww_iload dX9_personOf_29 rfl ?_
      refine mm_iald dX9_personOf_31 rfl i4 (by omega) rfl rfl ?_
      refine ww_iconst (v := 2) dX9_personOf_32 (by decide) ?_
      refine ww_icmp_ne (tgt := 51) dX9_personOf_33 (by decide) (fun c33 => ?_) (fun c33 => ?_)
      · refine ww_iconst (v := 0) dX9_personOf_51 (by decide) ?_
        refine ww_iadd dX9_personOf_52 ?_
        refine ww_istore_n dX9_personOf_53 rfl rfl rfl ?_
        refine ww_iinc dX9_personOf_54 rfl rfl rfl rfl ?_
        refine ww_goto (tgt := 15) dX9_personOf_57 (by decide) ?_
        exact ih (t + 1) _ _ (by omega) (by omega) (by rw [i3, w_add0, cntB_f (by simp [Pdn, c33])]) (w_inc i4)
      · refine ww_aload_n dX9_personOf_36 rfl rfl ?_
        refine mm_getr dX9_personOf_37 fX9_146 rfl ?_
        refine ww_iload dX9_personOf_40 rfl ?_
        refine mm_iald dX9_personOf_42 rfl i4 (by omega) rfl rfl ?_
        refine ww_iload_n dX9_personOf_43 rfl rfl ?_
        refine ww_icmp_ne (tgt := 51) dX9_personOf_44 (by decide) (fun c44 => ?_) (fun c44 => ?_)
        · refine ww_iconst (v := 0) dX9_personOf_51 (by decide) ?_
          refine ww_iadd dX9_personOf_52 ?_
          refine ww_istore_n dX9_personOf_53 rfl rfl rfl ?_
          refine ww_iinc dX9_personOf_54 rfl rfl rfl rfl ?_
          refine ww_goto (tgt := 15) dX9_personOf_57 (by decide) ?_
          exact ih (t + 1) _ _ (by omega) (by omega) (by rw [i3, w_add0, cntB_f (by simp [Pdn, ← hp, c44])]) (w_inc i4)
        · refine ww_iconst (v := 1) dX9_personOf_47 (by decide) ?_
          refine ww_goto (tgt := 52) dX9_personOf_48 (by decide) ?_
          refine ww_iadd dX9_personOf_52 ?_
          refine ww_istore_n dX9_personOf_53 rfl rfl rfl ?_
          refine ww_iinc dX9_personOf_54 rfl rfl rfl rfl ?_
          refine ww_goto (tgt := 15) dX9_personOf_57 (by decide) ?_
          exact ih (t + 1) _ _ (by omega) (by omega) (by rw [i3, cntB_t (by simp [Pdn, ← hp, c33, c44])]; exact nI_1 _) (w_inc i4)
set_option maxHeartbeats 4000000 in
theorem c9_personOf {x y : Int32} {np c p : Nat} (hP : F 64 = nI np) (hP2 : np ≤ 8) (hc : F 55 = nI c) (hc2 : c ≤ 200) (hp : x = nI p) (hpn : p < np) : Sat G mX9_personOf [.ref m, .int x, .int y] (mh m F tl R NL h0, sz) (Det (some (.int (psnM R c p y))) (mh m F tl R NL h0, sz)) := by
  refine Sat.of (by decide) [some (.ref m), some (.int x), some (.int y), none, none] rfl rfl (fun X => ?_)
  refine ww_aload_n dX9_personOf_0 rfl rfl ?_
  refine ww_iload_n dX9_personOf_1 rfl rfl ?_
  refine mm_call1 dX9_personOf_2 kX9_318 rfl (c9_isPerson hP (by omega)) rfl rfl rfl rfl rfl rfl (Nat.zero_le _) (Nat.zero_le _) ?_
  refine ww_if_ne (tgt := 10) dX9_personOf_5 (by decide) (fun c5 => ?_) (fun c5 => ?_)
  · refine ww_iconst (v := 0) dX9_personOf_10 (by decide) ?_
    refine ww_istore_n dX9_personOf_11 rfl rfl rfl ?_
    refine ww_iconst (v := 0) dX9_personOf_12 (by decide) ?_
    refine ww_istore dX9_personOf_13 rfl rfl ?_
    exact L9_personOf hc hc2 hp (by omega) (c + 1) 0 _ _ (by omega) (by omega) rfl rfl
  · exact absurd c5 (by rw [hp, wIn_nI hpn (by omega)]; decide)
set_option maxHeartbeats 4000000 in
theorem c9_personOf0 {x y : Int32} {np : Nat} (hP : F 64 = nI np) (hP2 : np ≤ 8) (hno : wIn x np = false) : Sat G mX9_personOf [.ref m, .int x, .int y] (mh m F tl R NL h0, sz) (Det (some (.int (-1))) (mh m F tl R NL h0, sz)) := by
  refine Sat.of (by decide) [some (.ref m), some (.int x), some (.int y), none, none] rfl rfl (fun X => ?_)
  refine ww_aload_n dX9_personOf_0 rfl rfl ?_
  refine ww_iload_n dX9_personOf_1 rfl rfl ?_
  refine mm_call1 dX9_personOf_2 kX9_318 rfl (c9_isPerson hP (by omega)) rfl rfl rfl rfl rfl rfl (Nat.zero_le _) (Nat.zero_le _) ?_
  refine ww_if_ne (tgt := 10) dX9_personOf_5 (by decide) (fun c5 => ?_) (fun c5 => ?_)
  · exact absurd c5 (fun q => q (wb_eq0.mpr hno))
  · refine ww_iconst (v := -1) dX9_personOf_8 (by decide) ?_
    exact ww_iret dX9_personOf_9 rfl ⟨rfl, rfl⟩ (Nat.zero_le _) (Nat.zero_le _)
def ofM (R : Nat → Nat → Int32) (np c t : Nat) : Nat → Int32
  | 0 => -1
  | q + 1 => if mayT R np c q t = true ∧ nI (cntB (Pcl R (nI q)) c) < R 66 q ∧ (ofM R np c t q < 0 ∨ nI (cntB (Pcl R (nI q)) c) < nI (cntB (Pcl R (ofM R np c t q)) c)) then nI q else ofM R np c t q
set_option maxHeartbeats 4000000 in
theorem L9_offer {x : Int32} {np c t : Nat} {X : wX} (hP : F 64 = nI np) (hP2 : np ≤ 8) (hc : F 55 = nI c) (hc2 : c ≤ 200) (hdp : ∀ q, q < np → okP np (R 67 q)) (ht : x = nI t) (htc : t < 200) (hT : tskOk R t) : ∀ (n q : Nat) (x2 x3 : Int32) (l4 : Option Value), np - q < n → q ≤ np → x2 = ofM R np c t q → x3 = nI q → WW G mX9_offer cX9_offer X (wZ G mX9_offer X (Det (some (.int (ofM R np c t np))) (mh m F tl R NL h0, sz))) 23 [some (.ref m), some (.int x), some (.int x2), some (.int x3), l4] [] (mh m F tl R NL h0, sz) 0 0 := by
  intro n
  induction n with
  | zero => intro q x2 x3 l4 hn; exact absurd hn (by omega)
  | succ n ih =>
    intro q x2 x3 l4 hn hq i2 i3
    refine ww_iload_n dX9_offer_23 rfl rfl ?_
    refine ww_aload_n dX9_offer_24 rfl rfl ?_
    refine mm_geti dX9_offer_25 fX9_308 rfl rfl ?_
    refine ww_icmp_ge (tgt := 91) dX9_offer_28 (by decide) (fun c28 => ?_) (fun c28 => ?_)
    · have e1 := (w_le hP i3 (by omega) (by omega)).mp c28
      have e2 : q = np := by omega
      refine ww_iload_n dX9_offer_91 rfl rfl ?_
      exact ww_iret dX9_offer_92 rfl ⟨by rw [i2, e2], rfl⟩ (Nat.zero_le _) (Nat.zero_le _)
    · have e1 : q < np := by rcases Nat.lt_or_ge q np with z | z; exact z; exact absurd ((w_le hP i3 (by omega) (by omega)).mpr z) c28
      refine ww_aload_n dX9_offer_31 rfl rfl ?_
      refine ww_iload_n dX9_offer_32 rfl rfl ?_
      refine ww_iload_n dX9_offer_33 rfl rfl ?_
      refine mm_call1 dX9_offer_34 kX9_357 rfl (c9_mayDo hP hP2 hdp hc hc2 i3 e1 ht htc hT) rfl rfl rfl rfl rfl rfl (Nat.zero_le _) (Nat.zero_le _) ?_
      refine ww_if_eq (tgt := 58) dX9_offer_37 (by decide) (fun c37 => ?_) (fun c37 => ?_)
      · refine ww_iconst (v := 0) dX9_offer_58 (by decide) ?_
        refine ww_istore dX9_offer_59 rfl rfl ?_
        refine ww_iload dX9_offer_61 rfl ?_
        refine ww_if_eq (tgt := 85) dX9_offer_63 (by decide) (fun c63 => ?_) (fun c63 => ?_)
        · refine ww_iinc dX9_offer_85 rfl rfl rfl rfl ?_
          refine ww_goto (tgt := 23) dX9_offer_88 (by decide) ?_
          exact ih (q + 1) _ _ _ (by omega) (by omega) (by rw [ofM, if_neg (fun z => wb_nt (wb_eq0.mp c37) z.1)]; exact i2) (w_inc i3)
        · exact absurd c63 (fun q => q rfl)
      · refine ww_aload_n dX9_offer_40 rfl rfl ?_
        refine ww_iload_n dX9_offer_41 rfl rfl ?_
        refine mm_call1 dX9_offer_42 kX9_360 rfl (c9_claims hc hc2) rfl rfl rfl rfl rfl rfl (Nat.zero_le _) (Nat.zero_le _) ?_
        refine ww_aload_n dX9_offer_45 rfl rfl ?_
        refine mm_getr dX9_offer_46 fX9_155 rfl ?_
        refine ww_iload_n dX9_offer_49 rfl rfl ?_
        refine mm_iald dX9_offer_50 rfl i3 (by omega) rfl rfl ?_
        refine ww_icmp_ge (tgt := 58) dX9_offer_51 (by decide) (fun c51 => ?_) (fun c51 => ?_)
        · refine ww_iconst (v := 0) dX9_offer_58 (by decide) ?_
          refine ww_istore dX9_offer_59 rfl rfl ?_
          refine ww_iload dX9_offer_61 rfl ?_
          refine ww_if_eq (tgt := 85) dX9_offer_63 (by decide) (fun c63 => ?_) (fun c63 => ?_)
          · refine ww_iinc dX9_offer_85 rfl rfl rfl rfl ?_
            refine ww_goto (tgt := 23) dX9_offer_88 (by decide) ?_
            exact ih (q + 1) _ _ _ (by omega) (by omega) (by rw [ofM, if_neg (fun z => Int32.not_lt.mpr c51 (by rw [i3]; exact z.2.1))]; exact i2) (w_inc i3)
          · exact absurd c63 (fun q => q rfl)
        · refine ww_iconst (v := 1) dX9_offer_54 (by decide) ?_
          refine ww_goto (tgt := 59) dX9_offer_55 (by decide) ?_
          refine ww_istore dX9_offer_59 rfl rfl ?_
          refine ww_iload dX9_offer_61 rfl ?_
          refine ww_if_eq (tgt := 85) dX9_offer_63 (by decide) (fun c63 => ?_) (fun c63 => ?_)
          · exact absurd c63 (by decide)
          · refine ww_iload_n dX9_offer_66 rfl rfl ?_
            refine ww_if_lt (tgt := 83) dX9_offer_67 (by decide) (fun c67 => ?_) (fun c67 => ?_)
            · refine ww_iload_n dX9_offer_83 rfl rfl ?_
              refine ww_istore_n dX9_offer_84 rfl rfl rfl ?_
              refine ww_iinc dX9_offer_85 rfl rfl rfl rfl ?_
              refine ww_goto (tgt := 23) dX9_offer_88 (by decide) ?_
              exact ih (q + 1) _ _ _ (by omega) (by omega) (by rw [ofM, if_pos ⟨wb_ne0.mp c37, by rw [← i3]; exact Int32.not_le.mp c51, Or.inl (by rw [← i2]; exact c67)⟩]; exact i3) (w_inc i3)
            · refine ww_aload_n dX9_offer_70 rfl rfl ?_
              refine ww_iload_n dX9_offer_71 rfl rfl ?_
              refine mm_call1 dX9_offer_72 kX9_360 rfl (c9_claims hc hc2) rfl rfl rfl rfl rfl rfl (Nat.zero_le _) (Nat.zero_le _) ?_
              refine ww_aload_n dX9_offer_75 rfl rfl ?_
              refine ww_iload_n dX9_offer_76 rfl rfl ?_
              refine mm_call1 dX9_offer_77 kX9_360 rfl (c9_claims hc hc2) rfl rfl rfl rfl rfl rfl (Nat.zero_le _) (Nat.zero_le _) ?_
              refine ww_icmp_ge (tgt := 85) dX9_offer_80 (by decide) (fun c80 => ?_) (fun c80 => ?_)
              · refine ww_iinc dX9_offer_85 rfl rfl rfl rfl ?_
                refine ww_goto (tgt := 23) dX9_offer_88 (by decide) ?_
                exact ih (q + 1) _ _ _ (by omega) (by omega) (by rw [ofM, if_neg (fun z => z.2.2.elim (by rw [← i2]; exact c67) (fun z => Int32.not_lt.mpr c80 (by rw [i2, i3]; exact z)))]; exact i2) (w_inc i3)
              · refine ww_iload_n dX9_offer_83 rfl rfl ?_
                refine ww_istore_n dX9_offer_84 rfl rfl rfl ?_
                refine ww_iinc dX9_offer_85 rfl rfl rfl rfl ?_
                refine ww_goto (tgt := 23) dX9_offer_88 (by decide) ?_
                exact ih (q + 1) _ _ _ (by omega) (by omega) (by rw [ofM, if_pos ⟨wb_ne0.mp c37, by rw [← i3]; exact Int32.not_le.mp c51, Or.inr (by rw [← i2, ← i3]; exact Int32.not_le.mp c80)⟩]; exact i3) (w_inc i3)
set_option maxHeartbeats 4000000 in
theorem c9_offer1 {x : Int32} {np c t : Nat} (hP : F 64 = nI np) (hP2 : np ≤ 8) (hc : F 55 = nI c) (hc2 : c ≤ 200) (hdp : ∀ q, q < np → okP np (R 67 q)) (ht : x = nI t) (htc : t < c) (hT : tskOk R t) (hs : R 61 t = 0) : Sat G mX9_offer [.ref m, .int x] (mh m F tl R NL h0, sz) (Det (some (.int (ofM R np c t np))) (mh m F tl R NL h0, sz)) := by
  refine Sat.of (by decide) [some (.ref m), some (.int x), none, none, none] rfl rfl (fun X => ?_)
  refine ww_aload_n dX9_offer_0 rfl rfl ?_
  refine ww_iload_n dX9_offer_1 rfl rfl ?_
  refine mm_call1 dX9_offer_2 kX9_348 rfl (c9_isTask hc (by omega)) rfl rfl rfl rfl rfl rfl (Nat.zero_le _) (Nat.zero_le _) ?_
  refine ww_if_eq (tgt := 17) dX9_offer_5 (by decide) (fun c5 => ?_) (fun c5 => ?_)
  · exact absurd c5 (by rw [ht, wIn_nI htc (by omega)]; decide)
  · refine ww_aload_n dX9_offer_8 rfl rfl ?_
    refine mm_getr dX9_offer_9 fX9_143 rfl ?_
    refine ww_iload_n dX9_offer_12 rfl rfl ?_
    refine mm_iald dX9_offer_13 rfl ht (by omega) rfl rfl ?_
    refine ww_if_eq (tgt := 19) dX9_offer_14 (by decide) (fun c14 => ?_) (fun c14 => ?_)
    · refine ww_iconst (v := -1) dX9_offer_19 (by decide) ?_
      refine ww_istore_n dX9_offer_20 rfl rfl rfl ?_
      refine ww_iconst (v := 0) dX9_offer_21 (by decide) ?_
      refine ww_istore_n dX9_offer_22 rfl rfl rfl ?_
      exact L9_offer hP hP2 hc hc2 hdp ht (by omega) hT (np + 1) 0 _ _ _ (by omega) (by omega) rfl rfl
    · exact absurd c14 (fun q => q hs)
set_option maxHeartbeats 4000000 in
theorem c9_offer2 {x : Int32} {c t : Nat} (hc : F 55 = nI c) (hc2 : c ≤ 200) (ht : x = nI t) (htc : t < c) (hs : ¬ R 61 t = 0) : Sat G mX9_offer [.ref m, .int x] (mh m F tl R NL h0, sz) (Det (some (.int (-1))) (mh m F tl R NL h0, sz)) := by
  refine Sat.of (by decide) [some (.ref m), some (.int x), none, none, none] rfl rfl (fun X => ?_)
  refine ww_aload_n dX9_offer_0 rfl rfl ?_
  refine ww_iload_n dX9_offer_1 rfl rfl ?_
  refine mm_call1 dX9_offer_2 kX9_348 rfl (c9_isTask hc (by omega)) rfl rfl rfl rfl rfl rfl (Nat.zero_le _) (Nat.zero_le _) ?_
  refine ww_if_eq (tgt := 17) dX9_offer_5 (by decide) (fun c5 => ?_) (fun c5 => ?_)
  · exact absurd c5 (by rw [ht, wIn_nI htc (by omega)]; decide)
  · refine ww_aload_n dX9_offer_8 rfl rfl ?_
    refine mm_getr dX9_offer_9 fX9_143 rfl ?_
    refine ww_iload_n dX9_offer_12 rfl rfl ?_
    refine mm_iald dX9_offer_13 rfl ht (by omega) rfl rfl ?_
    refine ww_if_eq (tgt := 19) dX9_offer_14 (by decide) (fun c14 => ?_) (fun c14 => ?_)
    · exact absurd c14 hs
    · refine ww_iconst (v := -1) dX9_offer_17 (by decide) ?_
      exact ww_iret dX9_offer_18 rfl ⟨rfl, rfl⟩ (Nat.zero_le _) (Nat.zero_le _)
set_option maxHeartbeats 4000000 in
theorem c9_offer0 {x : Int32} {c : Nat} (hc : F 55 = nI c) (hc2 : c ≤ 200) (hno : wIn x c = false) : Sat G mX9_offer [.ref m, .int x] (mh m F tl R NL h0, sz) (Det (some (.int (-1))) (mh m F tl R NL h0, sz)) := by
  refine Sat.of (by decide) [some (.ref m), some (.int x), none, none, none] rfl rfl (fun X => ?_)
  refine ww_aload_n dX9_offer_0 rfl rfl ?_
  refine ww_iload_n dX9_offer_1 rfl rfl ?_
  refine mm_call1 dX9_offer_2 kX9_348 rfl (c9_isTask hc (by omega)) rfl rfl rfl rfl rfl rfl (Nat.zero_le _) (Nat.zero_le _) ?_
  refine ww_if_eq (tgt := 17) dX9_offer_5 (by decide) (fun c5 => ?_) (fun c5 => ?_)
  · refine ww_iconst (v := -1) dX9_offer_17 (by decide) ?_
    exact ww_iret dX9_offer_18 rfl ⟨rfl, rfl⟩ (Nat.zero_le _) (Nat.zero_le _)
  · exact absurd c5 (fun q => q (wb_eq0.mpr hno))
end M5
