section M9
variable {G : wG} {m : Nat} {F : Nat → Int32} {tl : Int64} {R : Nat → Nat → Int32} {NL : Nat → Int64} {h0 : Nat → Option wE} {sz : Nat}

set_option maxHeartbeats 4000000 in
theorem L9_done1 {x y z xr x5 : Int32} {r : Nat} (hr : xr = nI r) (hr8 : r < 8) {X : wX} {Z : State → Prop} (hk : ∀ x0 : Int32, WW G mX9_done cX9_done X Z 99 [some (.ref m), some (.int x), some (.int y), some (.int z), some (.int xr), some (.int x5), some (.int x0)] [] (mh m F tl (dn1 r 4 R) NL h0, sz) 0 0) : ∀ (n t : Nat) (x0 : Int32), 4 - t < n → t ≤ 4 → x0 = nI t → WW G mX9_done cX9_done X Z 68 [some (.ref m), some (.int x), some (.int y), some (.int z), some (.int xr), some (.int x5), some (.int x0)] [] (mh m F tl (dn1 r t R) NL h0, sz) 0 0 := by
  intro n
  induction n with
  | zero => intro t x0 hn; exact absurd hn (by omega)
  | succ n ih =>
    intro t x0 hn ht i0
    refine ww_iload dX9_done_68 rfl ?_
    refine ww_iconst (v := 4) dX9_done_70 (by decide) ?_
    refine ww_icmp_ge (tgt := 99) dX9_done_71 (by decide) (fun c71 => ?_) (fun c71 => ?_)
    · have e1 := (w_le (show (4 : Int32) = nI 4 from rfl) i0 (by decide) (by omega)).mp c71
      have e2 : t = 4 := by omega
      subst e2
      exact hk _
    · have e1 : t < 4 := by rcases Nat.lt_or_ge t 4 with q | q; exact q; exact absurd ((w_le (show (4 : Int32) = nI 4 from rfl) i0 (by decide) (by omega)).mpr q) c71
      refine ww_aload_n dX9_done_74 rfl rfl ?_
      refine mm_getr dX9_done_75 fX9_122 rfl ?_
      refine ww_iload dX9_done_78 rfl ?_
      refine ww_aload_n dX9_done_80 rfl rfl ?_
      refine mm_getr dX9_done_81 fX9_113 rfl ?_
      refine ww_iconst (v := 4) dX9_done_84 (by decide) ?_
      refine ww_iload dX9_done_85 rfl ?_
      refine ww_imul dX9_done_87 ?_
      refine ww_iload dX9_done_88 rfl ?_
      refine ww_iadd dX9_done_90 ?_
      refine mm_iald dX9_done_91 rfl (show _ = nI (4 * r + t) by rw [hr, i0]; exact w_4 r t) (by omega) rfl rfl ?_
      refine mm_iast dX9_done_92 rfl i0 (by omega) rfl rfl ?_
      refine ww_iinc dX9_done_93 rfl rfl rfl rfl ?_
      refine ww_goto (tgt := 68) dX9_done_96 (by decide) ?_
      rw [dn1_s]
      exact ih (t + 1) _ (by omega) (by omega) (w_inc i0)
theorem L9_done1z {x y z xr x5 : Int32} {r : Nat} (hr : xr = nI r) (hr8 : r < 8) {X : wX} {Z : State → Prop} (hk : ∀ x0 : Int32, WW G mX9_done cX9_done X Z 99 [some (.ref m), some (.int x), some (.int y), some (.int z), some (.int xr), some (.int x5), some (.int x0)] [] (mh m F tl (dn1 r 4 R) NL h0, sz) 0 0) : WW G mX9_done cX9_done X Z 68 [some (.ref m), some (.int x), some (.int y), some (.int z), some (.int xr), some (.int x5), some (.int 0)] [] (mh m F tl R NL h0, sz) 0 0 := by
  have e := L9_done1 hr hr8 hk 5 0 0 (by omega) (by omega) rfl
  rw [dn1_0] at e
  exact e
set_option maxHeartbeats 4000000 in
theorem L9_done2 {x y z xr x5 : Int32} {r : Nat} (hr : xr = nI r) (hr8 : r < 8) {X : wX} {Z : State → Prop} (hk : ∀ x0 : Int32, WW G mX9_done cX9_done X Z 135 [some (.ref m), some (.int x), some (.int y), some (.int z), some (.int xr), some (.int x5), some (.int x0)] [] (mh m F tl (dn2 r 40 R) NL h0, sz) 0 0) : ∀ (n t : Nat) (x0 : Int32), 40 - t < n → t ≤ 40 → x0 = nI t → WW G mX9_done cX9_done X Z 102 [some (.ref m), some (.int x), some (.int y), some (.int z), some (.int xr), some (.int x5), some (.int x0)] [] (mh m F tl (dn2 r t R) NL h0, sz) 0 0 := by
  intro n
  induction n with
  | zero => intro t x0 hn; exact absurd hn (by omega)
  | succ n ih =>
    intro t x0 hn ht i0
    refine ww_iload dX9_done_102 rfl ?_
    refine ww_bipush (v := 40) dX9_done_104 (by decide) ?_
    refine ww_icmp_ge (tgt := 135) dX9_done_106 (by decide) (fun c106 => ?_) (fun c106 => ?_)
    · have e1 := (w_le (show (40 : Int32) = nI 40 from rfl) i0 (by decide) (by omega)).mp c106
      have e2 : t = 40 := by omega
      subst e2
      exact hk _
    · have e1 : t < 40 := by rcases Nat.lt_or_ge t 40 with q | q; exact q; exact absurd ((w_le (show (40 : Int32) = nI 40 from rfl) i0 (by decide) (by omega)).mpr q) c106
      refine ww_aload_n dX9_done_109 rfl rfl ?_
      refine mm_getr dX9_done_110 fX9_125 rfl ?_
      refine ww_iload dX9_done_113 rfl ?_
      refine ww_aload_n dX9_done_115 rfl rfl ?_
      refine mm_getr dX9_done_116 fX9_116 rfl ?_
      refine ww_bipush (v := 40) dX9_done_119 (by decide) ?_
      refine ww_iload dX9_done_121 rfl ?_
      refine ww_imul dX9_done_123 ?_
      refine ww_iload dX9_done_124 rfl ?_
      refine ww_iadd dX9_done_126 ?_
      refine mm_iald dX9_done_127 rfl (show _ = nI (40 * r + t) by rw [hr, i0]; exact w_40 r t) (by omega) rfl rfl ?_
      refine mm_iast dX9_done_128 rfl i0 (by omega) rfl rfl ?_
      refine ww_iinc dX9_done_129 rfl rfl rfl rfl ?_
      refine ww_goto (tgt := 102) dX9_done_132 (by decide) ?_
      rw [dn2_s]
      exact ih (t + 1) _ (by omega) (by omega) (w_inc i0)
theorem L9_done2z {x y z xr x5 : Int32} {r : Nat} (hr : xr = nI r) (hr8 : r < 8) {X : wX} {Z : State → Prop} (hk : ∀ x0 : Int32, WW G mX9_done cX9_done X Z 135 [some (.ref m), some (.int x), some (.int y), some (.int z), some (.int xr), some (.int x5), some (.int x0)] [] (mh m F tl (dn2 r 40 R) NL h0, sz) 0 0) : WW G mX9_done cX9_done X Z 102 [some (.ref m), some (.int x), some (.int y), some (.int z), some (.int xr), some (.int x5), some (.int 0)] [] (mh m F tl R NL h0, sz) 0 0 := by
  have e := L9_done2 hr hr8 hk 41 0 0 (by omega) (by omega) rfl
  rw [dn2_0] at e
  exact e
set_option maxHeartbeats 4000000 in
theorem L9_done3 {x y z xr x5 : Int32} {r : Nat} (hr : xr = nI r) (hr8 : r < 8) {X : wX} {Z : State → Prop} (hk : ∀ x0 : Int32, WW G mX9_done cX9_done X Z 274 [some (.ref m), some (.int x), some (.int y), some (.int z), some (.int xr), some (.int x5), some (.int x0)] [] (mh m F tl (dn3 r 4 R) NL h0, sz) 0 0) : ∀ (n t : Nat) (x0 : Int32), 4 - t < n → t ≤ 4 → x0 = nI t → WW G mX9_done cX9_done X Z 243 [some (.ref m), some (.int x), some (.int y), some (.int z), some (.int xr), some (.int x5), some (.int x0)] [] (mh m F tl (dn3 r t R) NL h0, sz) 0 0 := by
  intro n
  induction n with
  | zero => intro t x0 hn; exact absurd hn (by omega)
  | succ n ih =>
    intro t x0 hn ht i0
    refine ww_iload dX9_done_243 rfl ?_
    refine ww_iconst (v := 4) dX9_done_245 (by decide) ?_
    refine ww_icmp_ge (tgt := 274) dX9_done_246 (by decide) (fun c246 => ?_) (fun c246 => ?_)
    · have e1 := (w_le (show (4 : Int32) = nI 4 from rfl) i0 (by decide) (by omega)).mp c246
      have e2 : t = 4 := by omega
      subst e2
      exact hk _
    · have e1 : t < 4 := by rcases Nat.lt_or_ge t 4 with q | q; exact q; exact absurd ((w_le (show (4 : Int32) = nI 4 from rfl) i0 (by decide) (by omega)).mpr q) c246
      refine ww_aload_n dX9_done_249 rfl rfl ?_
      refine mm_getr dX9_done_250 fX9_113 rfl ?_
      refine ww_iconst (v := 4) dX9_done_253 (by decide) ?_
      refine ww_iload dX9_done_254 rfl ?_
      refine ww_imul dX9_done_256 ?_
      refine ww_iload dX9_done_257 rfl ?_
      refine ww_iadd dX9_done_259 ?_
      refine ww_aload_n dX9_done_260 rfl rfl ?_
      refine mm_getr dX9_done_261 fX9_122 rfl ?_
      refine ww_iload dX9_done_264 rfl ?_
      refine mm_iald dX9_done_266 rfl i0 (by omega) rfl rfl ?_
      refine mm_iast dX9_done_267 rfl (show _ = nI (4 * r + t) by rw [hr, i0]; exact w_4 r t) (by omega) rfl rfl ?_
      refine ww_iinc dX9_done_268 rfl rfl rfl rfl ?_
      refine ww_goto (tgt := 243) dX9_done_271 (by decide) ?_
      rw [dn3_s]
      exact ih (t + 1) _ (by omega) (by omega) (w_inc i0)
theorem L9_done3z {x y z xr x5 : Int32} {r : Nat} (hr : xr = nI r) (hr8 : r < 8) {X : wX} {Z : State → Prop} (hk : ∀ x0 : Int32, WW G mX9_done cX9_done X Z 274 [some (.ref m), some (.int x), some (.int y), some (.int z), some (.int xr), some (.int x5), some (.int x0)] [] (mh m F tl (dn3 r 4 R) NL h0, sz) 0 0) : WW G mX9_done cX9_done X Z 243 [some (.ref m), some (.int x), some (.int y), some (.int z), some (.int xr), some (.int x5), some (.int 0)] [] (mh m F tl R NL h0, sz) 0 0 := by
  have e := L9_done3 hr hr8 hk 5 0 0 (by omega) (by omega) rfl
  rw [dn3_0] at e
  exact e
set_option maxHeartbeats 4000000 in
theorem L9_done4 {x y z xr x5 : Int32} {r : Nat} (hr : xr = nI r) (hr8 : r < 8) {X : wX} {Z : State → Prop} (hk : ∀ x0 : Int32, WW G mX9_done cX9_done X Z 310 [some (.ref m), some (.int x), some (.int y), some (.int z), some (.int xr), some (.int x5), some (.int x0)] [] (mh m F tl (dn4 r 40 R) NL h0, sz) 0 0) : ∀ (n t : Nat) (x0 : Int32), 40 - t < n → t ≤ 40 → x0 = nI t → WW G mX9_done cX9_done X Z 277 [some (.ref m), some (.int x), some (.int y), some (.int z), some (.int xr), some (.int x5), some (.int x0)] [] (mh m F tl (dn4 r t R) NL h0, sz) 0 0 := by
  intro n
  induction n with
  | zero => intro t x0 hn; exact absurd hn (by omega)
  | succ n ih =>
    intro t x0 hn ht i0
    refine ww_iload dX9_done_277 rfl ?_
    refine ww_bipush (v := 40) dX9_done_279 (by decide) ?_
    refine ww_icmp_ge (tgt := 310) dX9_done_281 (by decide) (fun c281 => ?_) (fun c281 => ?_)
    · have e1 := (w_le (show (40 : Int32) = nI 40 from rfl) i0 (by decide) (by omega)).mp c281
      have e2 : t = 40 := by omega
      subst e2
      exact hk _
    · have e1 : t < 40 := by rcases Nat.lt_or_ge t 40 with q | q; exact q; exact absurd ((w_le (show (40 : Int32) = nI 40 from rfl) i0 (by decide) (by omega)).mpr q) c281
      refine ww_aload_n dX9_done_284 rfl rfl ?_
      refine mm_getr dX9_done_285 fX9_116 rfl ?_
      refine ww_bipush (v := 40) dX9_done_288 (by decide) ?_
      refine ww_iload dX9_done_290 rfl ?_
      refine ww_imul dX9_done_292 ?_
      refine ww_iload dX9_done_293 rfl ?_
      refine ww_iadd dX9_done_295 ?_
      refine ww_aload_n dX9_done_296 rfl rfl ?_
      refine mm_getr dX9_done_297 fX9_125 rfl ?_
      refine ww_iload dX9_done_300 rfl ?_
      refine mm_iald dX9_done_302 rfl i0 (by omega) rfl rfl ?_
      refine mm_iast dX9_done_303 rfl (show _ = nI (40 * r + t) by rw [hr, i0]; exact w_40 r t) (by omega) rfl rfl ?_
      refine ww_iinc dX9_done_304 rfl rfl rfl rfl ?_
      refine ww_goto (tgt := 277) dX9_done_307 (by decide) ?_
      rw [dn4_s]
      exact ih (t + 1) _ (by omega) (by omega) (w_inc i0)
theorem L9_done4z {x y z xr x5 : Int32} {r : Nat} (hr : xr = nI r) (hr8 : r < 8) {X : wX} {Z : State → Prop} (hk : ∀ x0 : Int32, WW G mX9_done cX9_done X Z 310 [some (.ref m), some (.int x), some (.int y), some (.int z), some (.int xr), some (.int x5), some (.int x0)] [] (mh m F tl (dn4 r 40 R) NL h0, sz) 0 0) : WW G mX9_done cX9_done X Z 277 [some (.ref m), some (.int x), some (.int y), some (.int z), some (.int xr), some (.int x5), some (.int 0)] [] (mh m F tl R NL h0, sz) 0 0 := by
  have e := L9_done4 hr hr8 hk 41 0 0 (by omega) (by omega) rfl
  rw [dn4_0] at e
  exact e
/-- the rows as done leaves them before the run goes on; what it keeps aside; and as it puts them back -/
def dnS (f v ck : Int32) (r t : Nat) (R : Nat → Nat → Int32) : Nat → Nat → Int32 :=
  let R1 := if f = -1 then dn2 r 40 (dn1 r 4 R) else va_up (dn2 r 40 (dn1 r 4 R)) 49 (upd (dn2 r 40 (dn1 r 4 R) 49) (4 * r + f.toNatClampNeg) v)
  let R2 := va_up R1 61 (upd (R1 61) t 2)
  va_up R2 63 (upd (R2 63) t ck)
def dnB (r t : Nat) (R : Nat → Nat → Int32) : Nat → Nat → Int32 :=
  let R1 := va_up R 61 (upd (R 61) t 1)
  let R2 := va_up R1 63 (upd (R1 63) t (-1))
  let R3 := va_up R2 51 (upd (R2 51) r 0)
  dn4 r 40 (dn3 r 4 R3)
set_option maxHeartbeats 4000000 in
theorem c9_doneN {x y z : Int32} {a r t k c c2 n : Nat} {b : Bool} {R2 : Nat → Nat → Int32} (hc : F 55 = nI c) (hc2 : c ≤ 200) (ht : x = nI t) (htc : t < c) (hs : R 61 t = 1) (hrt : R 56 t = nI r) (hr8 : r < 8) (ha : F 54 = nI a) (ha2 : a ≤ 20000) (hk : R 58 t = nI k) (hk2 : k < 200) (hf : y = -1) (hg : gM a r n (some k) 0 c (va_up (dnS y z (F 54) r t R) 69 (upd (dnS y z (F 54) r t R 69) 0 (R 58 t))) = some (b, c2, R2)) : Sat G mX9_done [.ref m, .int x, .int y, .int z] (mh m F tl R NL h0, sz) (Det (some (.int (if b = true then nI c2 - nI c else -1))) (if b = true then (mh m (upd (upd F 55 (nI c2)) 71 (F 71 + 1)) tl (va_up R2 70 (upd (R2 70) t (F 71))) NL h0, sz) else (mh m (upd F 55 (nI c)) tl (dnB r t R2) NL h0, sz))) := by
  refine Sat.of (by decide) [some (.ref m), some (.int x), some (.int y), some (.int z), none, none, none] rfl rfl (fun X => ?_)
  have eS : dnS y z (F 54) r t R = va_up (va_up (dn2 r 40 (dn1 r 4 R)) 61 (upd (dn2 r 40 (dn1 r 4 R) 61) t 2)) 63 (upd (va_up (dn2 r 40 (dn1 r 4 R)) 61 (upd (dn2 r 40 (dn1 r 4 R) 61) t 2) 63) t (F 54)) := by simp only [dnS]; rw [if_pos hf]
  rw [eS] at hg
  refine ww_aload_n dX9_done_0 rfl rfl ?_
  refine ww_iload_n dX9_done_1 rfl rfl ?_
  refine mm_call1 dX9_done_2 kX9_348 rfl (c9_isTask hc (by omega)) rfl rfl rfl rfl rfl rfl (Nat.zero_le _) (Nat.zero_le _) ?_
  refine ww_if_eq (tgt := 49) dX9_done_5 (by decide) (fun c5 => ?_) (fun c5 => ?_)
  · exact absurd c5 (by rw [ht, wIn_nI htc (by omega)]; decide)
  · refine ww_aload_n dX9_done_8 rfl rfl ?_
    refine mm_getr dX9_done_9 fX9_143 rfl ?_
    refine ww_iload_n dX9_done_12 rfl rfl ?_
    refine mm_iald dX9_done_13 rfl ht (by omega) rfl rfl ?_
    refine ww_iconst (v := 1) dX9_done_14 (by decide) ?_
    refine ww_icmp_ne (tgt := 49) dX9_done_15 (by decide) (fun c15 => ?_) (fun c15 => ?_)
    · exact absurd c15 (fun q => q hs)
    · refine ww_iload_n dX9_done_18 rfl rfl ?_
      refine ww_i2l dX9_done_19 ?_
      refine ww_ldc2 dX9_done_20 qX9_363 ?_
      refine ww_ldc2 dX9_done_23 qX9_346 ?_
      refine ww_calls1 dX9_done_26 kX9_177 c9_in rfl rfl rfl rfl rfl rfl (Nat.zero_le _) (Nat.zero_le _) ?_
      refine ww_if_eq (tgt := 49) dX9_done_29 (by decide) (fun c29 => ?_) (fun c29 => ?_)
      · exact absurd c29 (by rw [hf]; decide)
      · refine ww_iload_n dX9_done_32 rfl rfl ?_
        refine ww_iconst (v := -1) dX9_done_33 (by decide) ?_
        refine ww_icmp_eq (tgt := 51) dX9_done_34 (by decide) (fun c34 => ?_) (fun c34 => ?_)
        · refine ww_aload_n dX9_done_51 rfl rfl ?_
          refine mm_getr dX9_done_52 fX9_128 rfl ?_
          refine ww_iload_n dX9_done_55 rfl rfl ?_
          refine mm_iald dX9_done_56 rfl ht (by omega) rfl rfl ?_
          refine ww_istore dX9_done_57 rfl rfl ?_
          refine ww_aload_n dX9_done_59 rfl rfl ?_
          refine mm_geti dX9_done_60 fX9_311 rfl rfl ?_
          refine ww_istore dX9_done_63 rfl rfl ?_
          refine ww_iconst (v := 0) dX9_done_65 (by decide) ?_
          refine ww_istore dX9_done_66 rfl rfl ?_
          refine L9_done1z hrt hr8 (fun x0 => ?_)
          refine ww_iconst (v := 0) dX9_done_99 (by decide) ?_
          refine ww_istore dX9_done_100 rfl rfl ?_
          refine L9_done2z hrt hr8 (fun x0 => ?_)
          refine ww_iload_n dX9_done_135 rfl rfl ?_
          refine ww_iconst (v := -1) dX9_done_136 (by decide) ?_
          refine ww_icmp_eq (tgt := 152) dX9_done_137 (by decide) (fun c137 => ?_) (fun c137 => ?_)
          · refine ww_aload_n dX9_done_152 rfl rfl ?_
            refine mm_getr dX9_done_153 fX9_143 rfl ?_
            refine ww_iload_n dX9_done_156 rfl rfl ?_
            refine ww_iconst (v := 2) dX9_done_157 (by decide) ?_
            refine mm_iast dX9_done_158 rfl ht (by omega) rfl rfl ?_
            refine ww_aload_n dX9_done_159 rfl rfl ?_
            refine mm_getr dX9_done_160 fX9_149 rfl ?_
            refine ww_iload_n dX9_done_163 rfl rfl ?_
            refine ww_aload_n dX9_done_164 rfl rfl ?_
            refine mm_geti dX9_done_165 fX9_321 rfl rfl ?_
            refine mm_iast dX9_done_168 rfl ht (by omega) rfl rfl ?_
            refine ww_aload_n dX9_done_169 rfl rfl ?_
            refine ww_iload dX9_done_170 rfl ?_
            refine ww_aload_n dX9_done_172 rfl rfl ?_
            refine mm_getr dX9_done_173 fX9_134 rfl ?_
            refine ww_iload_n dX9_done_176 rfl rfl ?_
            refine mm_iald dX9_done_177 rfl ht (by omega) rfl rfl ?_
            refine mm_call1 dX9_done_178 kX9_342 rfl (c9_goes (n := n) ha ha2 hrt hr8 hk hk2 hc hc2 hg) rfl rfl rfl rfl rfl rfl (Nat.zero_le _) (Nat.zero_le _) ?_
            refine ww_if_eq (tgt := 212) dX9_done_181 (by decide) (fun c181 => ?_) (fun c181 => ?_)
            · refine ww_aload_n dX9_done_212 rfl rfl ?_
              refine ww_iload dX9_done_213 rfl ?_
              refine mm_puti dX9_done_215 fX9_311 rfl rfl ?_
              refine ww_aload_n dX9_done_218 rfl rfl ?_
              refine mm_getr dX9_done_219 fX9_143 rfl ?_
              refine ww_iload_n dX9_done_222 rfl rfl ?_
              refine ww_iconst (v := 1) dX9_done_223 (by decide) ?_
              refine mm_iast dX9_done_224 rfl ht (by omega) rfl rfl ?_
              refine ww_aload_n dX9_done_225 rfl rfl ?_
              refine mm_getr dX9_done_226 fX9_149 rfl ?_
              refine ww_iload_n dX9_done_229 rfl rfl ?_
              refine ww_iconst (v := -1) dX9_done_230 (by decide) ?_
              refine mm_iast dX9_done_231 rfl ht (by omega) rfl rfl ?_
              refine ww_aload_n dX9_done_232 rfl rfl ?_
              refine mm_getr dX9_done_233 fX9_119 rfl ?_
              refine ww_iload dX9_done_236 rfl ?_
              refine ww_iconst (v := 0) dX9_done_238 (by decide) ?_
              refine mm_zast dX9_done_239 rfl hrt (by omega) rfl rfl ?_
              refine ww_iconst (v := 0) dX9_done_240 (by decide) ?_
              refine ww_istore dX9_done_241 rfl rfl ?_
              refine L9_done3z hrt hr8 (fun x0 => ?_)
              refine ww_iconst (v := 0) dX9_done_274 (by decide) ?_
              refine ww_istore dX9_done_275 rfl rfl ?_
              refine L9_done4z hrt hr8 (fun x0 => ?_)
              refine ww_iconst (v := -1) dX9_done_310 (by decide) ?_
              exact ww_iret dX9_done_311 rfl ⟨by rw [wb_eq0.mp c181]; rfl, by rw [wb_eq0.mp c181]; exact congrArg (fun f => ((mh m f tl _ NL h0, sz) : wH)) (by rw [hc]; exact w_upd_upd _ _ _ _)⟩ (Nat.zero_le _) (Nat.zero_le _)
            · refine ww_aload_n dX9_done_184 rfl rfl ?_
              refine mm_getr dX9_done_185 fX9_167 rfl ?_
              refine ww_iload_n dX9_done_188 rfl rfl ?_
              refine ww_aload_n dX9_done_189 rfl rfl ?_
              refine mm_geti dX9_done_190 fX9_365 rfl rfl ?_
              refine mm_iast dX9_done_193 rfl ht (by omega) rfl rfl ?_
              refine ww_aload_n dX9_done_194 rfl rfl ?_
              refine ww_dup dX9_done_195 rfl ?_
              refine mm_geti dX9_done_196 fX9_365 rfl rfl ?_
              refine ww_iconst (v := 1) dX9_done_199 (by decide) ?_
              refine ww_iadd dX9_done_200 ?_
              refine mm_puti dX9_done_201 fX9_365 rfl rfl ?_
              refine ww_aload_n dX9_done_204 rfl rfl ?_
              refine mm_geti dX9_done_205 fX9_311 rfl rfl ?_
              refine ww_iload dX9_done_208 rfl ?_
              refine ww_isub dX9_done_210 ?_
              exact ww_iret dX9_done_211 rfl ⟨by rw [wb_ne0.mp c181, hc]; rfl, by rw [wb_ne0.mp c181]; rfl⟩ (Nat.zero_le _) (Nat.zero_le _)
          · exact absurd c137 (fun q => q hf)
        · exact absurd c34 (fun q => q hf)
set_option maxHeartbeats 4000000 in
theorem c9_doneF {x y z : Int32} {a r t k c c2 n j : Nat} {b : Bool} {R2 : Nat → Nat → Int32} (hc : F 55 = nI c) (hc2 : c ≤ 200) (ht : x = nI t) (htc : t < c) (hs : R 61 t = 1) (hrt : R 56 t = nI r) (hr8 : r < 8) (ha : F 54 = nI a) (ha2 : a ≤ 20000) (hk : R 58 t = nI k) (hk2 : k < 200) (hf : y = nI j) (hj : j < 4) (hv : inR z 0 99 = true) (hg : gM a r n (some k) 0 c (va_up (dnS y z (F 54) r t R) 69 (upd (dnS y z (F 54) r t R 69) 0 (R 58 t))) = some (b, c2, R2)) : Sat G mX9_done [.ref m, .int x, .int y, .int z] (mh m F tl R NL h0, sz) (Det (some (.int (if b = true then nI c2 - nI c else -1))) (if b = true then (mh m (upd (upd F 55 (nI c2)) 71 (F 71 + 1)) tl (va_up R2 70 (upd (R2 70) t (F 71))) NL h0, sz) else (mh m (upd F 55 (nI c)) tl (dnB r t R2) NL h0, sz))) := by
  refine Sat.of (by decide) [some (.ref m), some (.int x), some (.int y), some (.int z), none, none, none] rfl rfl (fun X => ?_)
  have hne : ¬ y = -1 := by rw [hf]; intro q; have := congrArg Int32.toInt q; rw [nI_toInt (by omega)] at this; exact absurd this (by simp)
  have eS : dnS y z (F 54) r t R = va_up (va_up (va_up (dn2 r 40 (dn1 r 4 R)) 49 (upd (dn2 r 40 (dn1 r 4 R) 49) (4 * r + j) z)) 61 (upd (va_up (dn2 r 40 (dn1 r 4 R)) 49 (upd (dn2 r 40 (dn1 r 4 R) 49) (4 * r + j) z) 61) t 2)) 63 (upd (va_up (va_up (dn2 r 40 (dn1 r 4 R)) 49 (upd (dn2 r 40 (dn1 r 4 R) 49) (4 * r + j) z)) 61 (upd (va_up (dn2 r 40 (dn1 r 4 R)) 49 (upd (dn2 r 40 (dn1 r 4 R) 49) (4 * r + j) z) 61) t 2) 63) t (F 54)) := by simp only [dnS]; rw [if_neg hne, hf, nI_clamp (by omega)]
  rw [eS] at hg
  refine ww_aload_n dX9_done_0 rfl rfl ?_
  refine ww_iload_n dX9_done_1 rfl rfl ?_
  refine mm_call1 dX9_done_2 kX9_348 rfl (c9_isTask hc (by omega)) rfl rfl rfl rfl rfl rfl (Nat.zero_le _) (Nat.zero_le _) ?_
  refine ww_if_eq (tgt := 49) dX9_done_5 (by decide) (fun c5 => ?_) (fun c5 => ?_)
  · exact absurd c5 (by rw [ht, wIn_nI htc (by omega)]; decide)
  · refine ww_aload_n dX9_done_8 rfl rfl ?_
    refine mm_getr dX9_done_9 fX9_143 rfl ?_
    refine ww_iload_n dX9_done_12 rfl rfl ?_
    refine mm_iald dX9_done_13 rfl ht (by omega) rfl rfl ?_
    refine ww_iconst (v := 1) dX9_done_14 (by decide) ?_
    refine ww_icmp_ne (tgt := 49) dX9_done_15 (by decide) (fun c15 => ?_) (fun c15 => ?_)
    · exact absurd c15 (fun q => q hs)
    · refine ww_iload_n dX9_done_18 rfl rfl ?_
      refine ww_i2l dX9_done_19 ?_
      refine ww_ldc2 dX9_done_20 qX9_363 ?_
      refine ww_ldc2 dX9_done_23 qX9_346 ?_
      refine ww_calls1 dX9_done_26 kX9_177 c9_in rfl rfl rfl rfl rfl rfl (Nat.zero_le _) (Nat.zero_le _) ?_
      refine ww_if_eq (tgt := 49) dX9_done_29 (by decide) (fun c29 => ?_) (fun c29 => ?_)
      · exact absurd c29 (by rw [in_c (a := -1) (b := 3) rfl rfl, hf, nI_toInt (by omega)]; exact wb_ne0.mpr (decide_eq_true ⟨by omega, by omega⟩))
      · refine ww_iload_n dX9_done_32 rfl rfl ?_
        refine ww_iconst (v := -1) dX9_done_33 (by decide) ?_
        refine ww_icmp_eq (tgt := 51) dX9_done_34 (by decide) (fun c34 => ?_) (fun c34 => ?_)
        · exact absurd c34 hne
        · refine ww_iload_n dX9_done_37 rfl rfl ?_
          refine ww_i2l dX9_done_38 ?_
          refine ww_lconst (v := 0) dX9_done_39 (by decide) ?_
          refine ww_ldc2 dX9_done_40 qX9_329 ?_
          refine ww_calls1 dX9_done_43 kX9_177 c9_in rfl rfl rfl rfl rfl rfl (Nat.zero_le _) (Nat.zero_le _) ?_
          refine ww_if_ne (tgt := 51) dX9_done_46 (by decide) (fun c46 => ?_) (fun c46 => ?_)
          · refine ww_aload_n dX9_done_51 rfl rfl ?_
            refine mm_getr dX9_done_52 fX9_128 rfl ?_
            refine ww_iload_n dX9_done_55 rfl rfl ?_
            refine mm_iald dX9_done_56 rfl ht (by omega) rfl rfl ?_
            refine ww_istore dX9_done_57 rfl rfl ?_
            refine ww_aload_n dX9_done_59 rfl rfl ?_
            refine mm_geti dX9_done_60 fX9_311 rfl rfl ?_
            refine ww_istore dX9_done_63 rfl rfl ?_
            refine ww_iconst (v := 0) dX9_done_65 (by decide) ?_
            refine ww_istore dX9_done_66 rfl rfl ?_
            refine L9_done1z hrt hr8 (fun x0 => ?_)
            refine ww_iconst (v := 0) dX9_done_99 (by decide) ?_
            refine ww_istore dX9_done_100 rfl rfl ?_
            refine L9_done2z hrt hr8 (fun x0 => ?_)
            refine ww_iload_n dX9_done_135 rfl rfl ?_
            refine ww_iconst (v := -1) dX9_done_136 (by decide) ?_
            refine ww_icmp_eq (tgt := 152) dX9_done_137 (by decide) (fun c137 => ?_) (fun c137 => ?_)
            · exact absurd c137 hne
            · refine ww_aload_n dX9_done_140 rfl rfl ?_
              refine mm_getr dX9_done_141 fX9_113 rfl ?_
              refine ww_iconst (v := 4) dX9_done_144 (by decide) ?_
              refine ww_iload dX9_done_145 rfl ?_
              refine ww_imul dX9_done_147 ?_
              refine ww_iload_n dX9_done_148 rfl rfl ?_
              refine ww_iadd dX9_done_149 ?_
              refine ww_iload_n dX9_done_150 rfl rfl ?_
              refine mm_iast dX9_done_151 rfl (show _ = nI (4 * r + j) by rw [hrt, hf]; exact w_4 r j) (by omega) rfl rfl ?_
              refine ww_aload_n dX9_done_152 rfl rfl ?_
              refine mm_getr dX9_done_153 fX9_143 rfl ?_
              refine ww_iload_n dX9_done_156 rfl rfl ?_
              refine ww_iconst (v := 2) dX9_done_157 (by decide) ?_
              refine mm_iast dX9_done_158 rfl ht (by omega) rfl rfl ?_
              refine ww_aload_n dX9_done_159 rfl rfl ?_
              refine mm_getr dX9_done_160 fX9_149 rfl ?_
              refine ww_iload_n dX9_done_163 rfl rfl ?_
              refine ww_aload_n dX9_done_164 rfl rfl ?_
              refine mm_geti dX9_done_165 fX9_321 rfl rfl ?_
              refine mm_iast dX9_done_168 rfl ht (by omega) rfl rfl ?_
              refine ww_aload_n dX9_done_169 rfl rfl ?_
              refine ww_iload dX9_done_170 rfl ?_
              refine ww_aload_n dX9_done_172 rfl rfl ?_
              refine mm_getr dX9_done_173 fX9_134 rfl ?_
              refine ww_iload_n dX9_done_176 rfl rfl ?_
              refine mm_iald dX9_done_177 rfl ht (by omega) rfl rfl ?_
              refine mm_call1 dX9_done_178 kX9_342 rfl (c9_goes (n := n) ha ha2 hrt hr8 hk hk2 hc hc2 hg) rfl rfl rfl rfl rfl rfl (Nat.zero_le _) (Nat.zero_le _) ?_
              refine ww_if_eq (tgt := 212) dX9_done_181 (by decide) (fun c181 => ?_) (fun c181 => ?_)
              · refine ww_aload_n dX9_done_212 rfl rfl ?_
                refine ww_iload dX9_done_213 rfl ?_
                refine mm_puti dX9_done_215 fX9_311 rfl rfl ?_
                refine ww_aload_n dX9_done_218 rfl rfl ?_
                refine mm_getr dX9_done_219 fX9_143 rfl ?_
                refine ww_iload_n dX9_done_222 rfl rfl ?_
                refine ww_iconst (v := 1) dX9_done_223 (by decide) ?_
                refine mm_iast dX9_done_224 rfl ht (by omega) rfl rfl ?_
                refine ww_aload_n dX9_done_225 rfl rfl ?_
                refine mm_getr dX9_done_226 fX9_149 rfl ?_
                refine ww_iload_n dX9_done_229 rfl rfl ?_
                refine ww_iconst (v := -1) dX9_done_230 (by decide) ?_
                refine mm_iast dX9_done_231 rfl ht (by omega) rfl rfl ?_
                refine ww_aload_n dX9_done_232 rfl rfl ?_
                refine mm_getr dX9_done_233 fX9_119 rfl ?_
                refine ww_iload dX9_done_236 rfl ?_
                refine ww_iconst (v := 0) dX9_done_238 (by decide) ?_
                refine mm_zast dX9_done_239 rfl hrt (by omega) rfl rfl ?_
                refine ww_iconst (v := 0) dX9_done_240 (by decide) ?_
                refine ww_istore dX9_done_241 rfl rfl ?_
                refine L9_done3z hrt hr8 (fun x0 => ?_)
                refine ww_iconst (v := 0) dX9_done_274 (by decide) ?_
                refine ww_istore dX9_done_275 rfl rfl ?_
                refine L9_done4z hrt hr8 (fun x0 => ?_)
                refine ww_iconst (v := -1) dX9_done_310 (by decide) ?_
                exact ww_iret dX9_done_311 rfl ⟨by rw [wb_eq0.mp c181]; rfl, by rw [wb_eq0.mp c181]; exact congrArg (fun f => ((mh m f tl _ NL h0, sz) : wH)) (by rw [hc]; exact w_upd_upd _ _ _ _)⟩ (Nat.zero_le _) (Nat.zero_le _)
              · refine ww_aload_n dX9_done_184 rfl rfl ?_
                refine mm_getr dX9_done_185 fX9_167 rfl ?_
                refine ww_iload_n dX9_done_188 rfl rfl ?_
                refine ww_aload_n dX9_done_189 rfl rfl ?_
                refine mm_geti dX9_done_190 fX9_365 rfl rfl ?_
                refine mm_iast dX9_done_193 rfl ht (by omega) rfl rfl ?_
                refine ww_aload_n dX9_done_194 rfl rfl ?_
                refine ww_dup dX9_done_195 rfl ?_
                refine mm_geti dX9_done_196 fX9_365 rfl rfl ?_
                refine ww_iconst (v := 1) dX9_done_199 (by decide) ?_
                refine ww_iadd dX9_done_200 ?_
                refine mm_puti dX9_done_201 fX9_365 rfl rfl ?_
                refine ww_aload_n dX9_done_204 rfl rfl ?_
                refine mm_geti dX9_done_205 fX9_311 rfl rfl ?_
                refine ww_iload dX9_done_208 rfl ?_
                refine ww_isub dX9_done_210 ?_
                exact ww_iret dX9_done_211 rfl ⟨by rw [wb_ne0.mp c181, hc]; rfl, by rw [wb_ne0.mp c181]; rfl⟩ (Nat.zero_le _) (Nat.zero_le _)
          · exact absurd c46 (by rw [in_c (a := 0) (b := 99) rfl rfl]; exact wb_ne0.mpr hv)
set_option maxHeartbeats 4000000 in
theorem c9_done0 {x y z : Int32} {c : Nat} (hc : F 55 = nI c) (hc2 : c ≤ 200) (hno : wIn x c = false) : Sat G mX9_done [.ref m, .int x, .int y, .int z] (mh m F tl R NL h0, sz) (Det (some (.int (-1))) (mh m F tl R NL h0, sz)) := by
  refine Sat.of (by decide) [some (.ref m), some (.int x), some (.int y), some (.int z), none, none, none] rfl rfl (fun X => ?_)
  refine ww_aload_n dX9_done_0 rfl rfl ?_
  refine ww_iload_n dX9_done_1 rfl rfl ?_
  refine mm_call1 dX9_done_2 kX9_348 rfl (c9_isTask hc (by omega)) rfl rfl rfl rfl rfl rfl (Nat.zero_le _) (Nat.zero_le _) ?_
  refine ww_if_eq (tgt := 49) dX9_done_5 (by decide) (fun c5 => ?_) (fun c5 => ?_)
  · refine ww_iconst (v := -1) dX9_done_49 (by decide) ?_
    exact ww_iret dX9_done_50 rfl ⟨rfl, rfl⟩ (Nat.zero_le _) (Nat.zero_le _)
  · exact absurd c5 (fun q => q (wb_eq0.mpr hno))
set_option maxHeartbeats 4000000 in
theorem c9_done1 {x y z : Int32} {c t : Nat} (hc : F 55 = nI c) (hc2 : c ≤ 200) (ht : x = nI t) (htc : t < c) (hno : (decide (R 61 t = 1) && inR y (-1) 3 && (decide (y = -1) || inR z 0 99)) = false) : Sat G mX9_done [.ref m, .int x, .int y, .int z] (mh m F tl R NL h0, sz) (Det (some (.int (-1))) (mh m F tl R NL h0, sz)) := by
  refine Sat.of (by decide) [some (.ref m), some (.int x), some (.int y), some (.int z), none, none, none] rfl rfl (fun X => ?_)
  refine ww_aload_n dX9_done_0 rfl rfl ?_
  refine ww_iload_n dX9_done_1 rfl rfl ?_
  refine mm_call1 dX9_done_2 kX9_348 rfl (c9_isTask hc (by omega)) rfl rfl rfl rfl rfl rfl (Nat.zero_le _) (Nat.zero_le _) ?_
  refine ww_if_eq (tgt := 49) dX9_done_5 (by decide) (fun c5 => ?_) (fun c5 => ?_)
  · exact absurd c5 (by rw [ht, wIn_nI htc (by omega)]; decide)
  · refine ww_aload_n dX9_done_8 rfl rfl ?_
    refine mm_getr dX9_done_9 fX9_143 rfl ?_
    refine ww_iload_n dX9_done_12 rfl rfl ?_
    refine mm_iald dX9_done_13 rfl ht (by omega) rfl rfl ?_
    refine ww_iconst (v := 1) dX9_done_14 (by decide) ?_
    refine ww_icmp_ne (tgt := 49) dX9_done_15 (by decide) (fun c15 => ?_) (fun c15 => ?_)
    · refine ww_iconst (v := -1) dX9_done_49 (by decide) ?_
      exact ww_iret dX9_done_50 rfl ⟨rfl, rfl⟩ (Nat.zero_le _) (Nat.zero_le _)
    · refine ww_iload_n dX9_done_18 rfl rfl ?_
      refine ww_i2l dX9_done_19 ?_
      refine ww_ldc2 dX9_done_20 qX9_363 ?_
      refine ww_ldc2 dX9_done_23 qX9_346 ?_
      refine ww_calls1 dX9_done_26 kX9_177 c9_in rfl rfl rfl rfl rfl rfl (Nat.zero_le _) (Nat.zero_le _) ?_
      refine ww_if_eq (tgt := 49) dX9_done_29 (by decide) (fun c29 => ?_) (fun c29 => ?_)
      · refine ww_iconst (v := -1) dX9_done_49 (by decide) ?_
        exact ww_iret dX9_done_50 rfl ⟨rfl, rfl⟩ (Nat.zero_le _) (Nat.zero_le _)
      · refine ww_iload_n dX9_done_32 rfl rfl ?_
        refine ww_iconst (v := -1) dX9_done_33 (by decide) ?_
        refine ww_icmp_eq (tgt := 51) dX9_done_34 (by decide) (fun c34 => ?_) (fun c34 => ?_)
        · exact absurd hno (by rw [decide_eq_true c15, wb_ne0.mp (by rw [in_c (a := -1) (b := 3) rfl rfl] at c29; exact c29 : ¬ wb (inR y (-1) 3) = 0), decide_eq_true c34]; simp)
        · refine ww_iload_n dX9_done_37 rfl rfl ?_
          refine ww_i2l dX9_done_38 ?_
          refine ww_lconst (v := 0) dX9_done_39 (by decide) ?_
          refine ww_ldc2 dX9_done_40 qX9_329 ?_
          refine ww_calls1 dX9_done_43 kX9_177 c9_in rfl rfl rfl rfl rfl rfl (Nat.zero_le _) (Nat.zero_le _) ?_
          refine ww_if_ne (tgt := 51) dX9_done_46 (by decide) (fun c46 => ?_) (fun c46 => ?_)
          · exact absurd hno (by rw [decide_eq_true c15, wb_ne0.mp (by rw [in_c (a := -1) (b := 3) rfl rfl] at c29; exact c29 : ¬ wb (inR y (-1) 3) = 0), wb_ne0.mp (by rw [in_c (a := 0) (b := 99) rfl rfl] at c46; exact c46 : ¬ wb (inR z 0 99) = 0)]; simp)
          · refine ww_iconst (v := -1) dX9_done_49 (by decide) ?_
            exact ww_iret dX9_done_50 rfl ⟨rfl, rfl⟩ (Nat.zero_le _) (Nat.zero_le _)
end M9
