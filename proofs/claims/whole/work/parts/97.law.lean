/-! the law's loop: every call's pair -/
abbrev mLN (nm : String) : wM := (⟨RL, nm, "([I)Z"⟩, cL_law, 4, some .boolean, 11, 600000, 7302250)
theorem inv_0 (B : Nat) : Inv B (iL8 B) (iF B) (iO B) (iRw B) (B + 94) mF0 (fun _ _ => 0) := by
  refine ⟨8, 3, B + 5, 0, 0, 0, 0, 0, 0, none, fun _ => ((tSkip, 0, fun _ => 0, fun _ => 0, fun _ => 0), (0, 0, 0, 0), sg0, true), fun k => k, ⟨i_hH B, fun y hy => i_top B y (by omega), fun y h1 h2 => i_top B y h1, fun k hk y => i_fr B k y hk, iK3 B, rfl, Nat.le_refl _, fun j hj => wkR_6 j hj⟩, ⟨rfl, rfl, by omega, rfl, rfl, rfl, by omega, rfl, rfl⟩, ⟨rfl, rfl, by omega, rfl, rfl, rfl, rfl, fun p hp => by omega, fun p hp => by omega⟩, ⟨rfl, rfl, by omega, rfl, rfl, by omega, rfl, rfl⟩, ⟨rfl, rfl⟩, fun r hr => by omega, fun t ht => by omega, fun k hk => by omega, fun i j h1 h2 => by omega⟩
section LR
variable {G : wG} {M : wM} {cc : ByteArray} {X : wX} {Z : State → Prop} {pc : Nat} {lv : List (Option Value)} {st : List Value} {h : wH} {k n k2 n2 : Nat}
theorem ww_widen (hk : k ≤ k2) (hn : n ≤ n2) (kk : WW G M cc X Z pc lv st h k2 n2) : WW G M cc X Z pc lv st h k n := by
  obtain ⟨p, e, R, s, m, args, below, meth, c⟩ := X
  intro O H locs ls hR hS hl
  exact W.widen hk hn (kk O H locs ls hR hS hl)
theorem ww_sld {b L j : Nat} {xs : Nat → Int32} {i : Int32} (hX : va_X b L xs X.2.2.2.1 X.2.2.2.1.heap) (hb : b < G.2.2.1) (hd : decode cc pc = .ok (.iaload, 1)) (hi : i = nI j) (hj : j < L) (hL : L < 2 ^ 31) (kk : WW G M cc X Z (pc + 1) lv (.int (xs j) :: st) h k n) : WW G M cc X Z pc lv (.int i :: .ref b :: st) h k n := by
  obtain ⟨p, e, R, s, m, args, below, meth, c⟩ := X
  intro O H locs ls hR hS hl
  have hB := O.2.2.2.2.2.2.2.2.2.2.1
  obtain ⟨a1, a2⟩ := w_ix hi hj hL
  refine va_sld O.1 O.2.1 hX (Nat.lt_of_lt_of_le hb hB) (Nat.not_le.mpr hb) hS a1 hd ?_
  rw [a2]
  exact kk O H locs ls hR hS hl
theorem ww_slen {b L : Nat} {xs : Nat → Int32} (hX : va_X b L xs X.2.2.2.1 X.2.2.2.1.heap) (hb : b < G.2.2.1) (hd : decode cc pc = .ok (.arraylength, 1)) (kk : WW G M cc X Z (pc + 1) lv (.int (nI L) :: st) h k n) : WW G M cc X Z pc lv (.ref b :: st) h k n := by
  obtain ⟨p, e, R, s, m, args, below, meth, c⟩ := X
  intro O H locs ls hR hS hl
  have hB := O.2.2.2.2.2.2.2.2.2.2.1
  exact va_slen O.1 O.2.1 hX (Nat.lt_of_lt_of_le hb hB) (Nat.not_le.mpr hb) hS hd (kk O H locs ls hR hS hl)
end LR
section LC
variable {G : wG} {nm : String} {X : wX} {Z : State → Prop} {b L B : Nat} {xs : Nat → Int32} {Λ : wL} {F : Nat → Nat → Int32} {O : Nat → Nat → Option Nat} {R : Nat → Nat → Nat → Int32} {sz : Nat} {F9 : Nat → Int32} {tl : Int64} {R9 : Nat → Nat → Int32} {NL : Nat → Int64} {k n i : Nat}
theorem Inv.obj (I : Inv B Λ F O R sz F9 R9) : (hp B Λ F O R sz F9 tl R9 NL).1 B = some (.inr (7, xxV B (F 0) (O 0))) := by
  obtain ⟨nb, d, md, L, a, np, c, nr, dm, cu, q, bd, I1, -⟩ := I
  exact xx_wo I1.1.1
theorem lc_feed (hX : va_X b L xs X.2.2.2.1 X.2.2.2.1.heap) (hbG : b < G.2.2.1) (hL : L ≤ 3072) (I : Inv B Λ F O R sz F9 R9) (hi : i + 6 ≤ L) (hk : k + 9 ≤ 600000) (hn : n + 656 ≤ 7302250) (K : ∀ (Λ : wL) (F : Nat → Nat → Int32) (O : Nat → Nat → Option Nat) (R : Nat → Nat → Nat → Int32) (sz : Nat) (F9 : Nat → Int32) (tl : Int64) (R9 : Nat → Nat → Int32) (NL : Nat → Int64), Inv B Λ F O R sz F9 R9 → WW G (mLN nm) cL_law X Z 815 [some (.ref b), some (.ref B), some (.ref (B + 44)), some (.int (nI i))] [] (hp B Λ F O R sz F9 tl R9 NL) (k + 9) (n + 656)) : WW G (mLN nm) cL_law X Z 140 [some (.ref b), some (.ref B), some (.ref (B + 44)), some (.int (nI i))] [] (hp B Λ F O R sz F9 tl R9 NL) k n := by
  obtain ⟨v, P⟩ := pr_feed (G := G) (tl := tl) (NL := NL) I (xs (i + 1)) (xs (i + 2)) (xs (i + 3)) (xs (i + 4)) (xs (i + 5))
  refine ww_aload_n dL_law_140 rfl rfl ?_
  refine ww_aload_n dL_law_141 rfl rfl ?_
  refine ww_iload_n dL_law_142 rfl rfl ?_
  refine ww_iconst (v := 1) dL_law_143 (by decide) ?_
  refine ww_iadd dL_law_144 ?_
  refine ww_sld (j := i + 1) hX hbG dL_law_145 (nI_add i 1) (by omega) (by omega) ?_
  refine ww_aload_n dL_law_146 rfl rfl ?_
  refine ww_iload_n dL_law_147 rfl rfl ?_
  refine ww_iconst (v := 2) dL_law_148 (by decide) ?_
  refine ww_iadd dL_law_149 ?_
  refine ww_sld (j := i + 2) hX hbG dL_law_150 (nI_add i 2) (by omega) (by omega) ?_
  refine ww_aload_n dL_law_151 rfl rfl ?_
  refine ww_iload_n dL_law_152 rfl rfl ?_
  refine ww_iconst (v := 3) dL_law_153 (by decide) ?_
  refine ww_iadd dL_law_154 ?_
  refine ww_sld (j := i + 3) hX hbG dL_law_155 (nI_add i 3) (by omega) (by omega) ?_
  refine ww_aload_n dL_law_156 rfl rfl ?_
  refine ww_iload_n dL_law_157 rfl rfl ?_
  refine ww_iconst (v := 4) dL_law_158 (by decide) ?_
  refine ww_iadd dL_law_159 ?_
  refine ww_sld (j := i + 4) hX hbG dL_law_160 (nI_add i 4) (by omega) (by omega) ?_
  refine ww_aload_n dL_law_161 rfl rfl ?_
  refine ww_iload_n dL_law_162 rfl rfl ?_
  refine ww_iconst (v := 5) dL_law_163 (by decide) ?_
  refine ww_iadd dL_law_164 ?_
  refine ww_sld (j := i + 5) hX hbG dL_law_165 (nI_add i 5) (by omega) (by omega) ?_
  refine ww_callV (As := [.int (xs (i + 1)), .int (xs (i + 2)), .int (xs (i + 3)), .int (xs (i + 4)), .int (xs (i + 5))]) (st := []) dL_law_166 kL_13 (Inv.obj I) rfl rfl P rfl rfl rfl rfl rfl (by show k + 0 ≤ 600000; omega) (by show n + 0 ≤ 7302250; omega) ?_
  rintro a h1 ⟨rfl, ⟨V, hV⟩, P2⟩
  refine ww_aload_n dL_law_169 rfl rfl ?_
  refine ww_aload_n dL_law_170 rfl rfl ?_
  refine ww_iload_n dL_law_171 rfl rfl ?_
  refine ww_iconst (v := 1) dL_law_172 (by decide) ?_
  refine ww_iadd dL_law_173 ?_
  refine ww_sld (j := i + 1) hX hbG dL_law_174 (nI_add i 1) (by omega) (by omega) ?_
  refine ww_aload_n dL_law_175 rfl rfl ?_
  refine ww_iload_n dL_law_176 rfl rfl ?_
  refine ww_iconst (v := 2) dL_law_177 (by decide) ?_
  refine ww_iadd dL_law_178 ?_
  refine ww_sld (j := i + 2) hX hbG dL_law_179 (nI_add i 2) (by omega) (by omega) ?_
  refine ww_aload_n dL_law_180 rfl rfl ?_
  refine ww_iload_n dL_law_181 rfl rfl ?_
  refine ww_iconst (v := 3) dL_law_182 (by decide) ?_
  refine ww_iadd dL_law_183 ?_
  refine ww_sld (j := i + 3) hX hbG dL_law_184 (nI_add i 3) (by omega) (by omega) ?_
  refine ww_aload_n dL_law_185 rfl rfl ?_
  refine ww_iload_n dL_law_186 rfl rfl ?_
  refine ww_iconst (v := 4) dL_law_187 (by decide) ?_
  refine ww_iadd dL_law_188 ?_
  refine ww_sld (j := i + 4) hX hbG dL_law_189 (nI_add i 4) (by omega) (by omega) ?_
  refine ww_aload_n dL_law_190 rfl rfl ?_
  refine ww_iload_n dL_law_191 rfl rfl ?_
  refine ww_iconst (v := 5) dL_law_192 (by decide) ?_
  refine ww_iadd dL_law_193 ?_
  refine ww_sld (j := i + 5) hX hbG dL_law_194 (nI_add i 5) (by omega) (by omega) ?_
  refine ww_callV (As := [.int (xs (i + 1)), .int (xs (i + 2)), .int (xs (i + 3)), .int (xs (i + 4)), .int (xs (i + 5))]) (st := [.int v]) dL_law_195 kL_17 hV rfl rfl P2 rfl rfl rfl rfl rfl (by show k + 0 + 0 ≤ 600000; omega) (by show n + 0 + 0 ≤ 7302250; omega) ?_
  rintro a2 h2 ⟨rfl, Λ2, F2, O2, R2, sz2, F92, tl2, R92, NL2, rfl, I2⟩
  refine ww_icmp_eq (tgt := 815) dL_law_198 (by decide) (fun _ => ?_) (fun c0 => absurd rfl c0)
  exact ww_widen (by show k + 0 + 0 ≤ k + 9; omega) (by show n + 0 + 0 ≤ n + 656; omega) (K _ _ _ _ _ _ _ _ _ I2)
theorem lc_end (hX : va_X b L xs X.2.2.2.1 X.2.2.2.1.heap) (hbG : b < G.2.2.1) (hL : L ≤ 3072) (I : Inv B Λ F O R sz F9 R9) (hi : i + 6 ≤ L) (hk : k + 9 ≤ 600000) (hn : n + 656 ≤ 7302250) (K : ∀ (Λ : wL) (F : Nat → Nat → Int32) (O : Nat → Nat → Option Nat) (R : Nat → Nat → Nat → Int32) (sz : Nat) (F9 : Nat → Int32) (tl : Int64) (R9 : Nat → Nat → Int32) (NL : Nat → Int64), Inv B Λ F O R sz F9 R9 → WW G (mLN nm) cL_law X Z 815 [some (.ref b), some (.ref B), some (.ref (B + 44)), some (.int (nI i))] [] (hp B Λ F O R sz F9 tl R9 NL) (k + 9) (n + 656)) : WW G (mLN nm) cL_law X Z 203 [some (.ref b), some (.ref B), some (.ref (B + 44)), some (.int (nI i))] [] (hp B Λ F O R sz F9 tl R9 NL) k n := by
  obtain ⟨v, P⟩ := pr_end (G := G) (tl := tl) (NL := NL) I (xs (i + 1))
  refine ww_aload_n dL_law_203 rfl rfl ?_
  refine ww_aload_n dL_law_204 rfl rfl ?_
  refine ww_iload_n dL_law_205 rfl rfl ?_
  refine ww_iconst (v := 1) dL_law_206 (by decide) ?_
  refine ww_iadd dL_law_207 ?_
  refine ww_sld (j := i + 1) hX hbG dL_law_208 (nI_add i 1) (by omega) (by omega) ?_
  refine ww_callV (As := [.int (xs (i + 1))]) (st := []) dL_law_209 kL_18 (Inv.obj I) rfl rfl P rfl rfl rfl rfl rfl (by show k + 0 ≤ 600000; omega) (by show n + 0 ≤ 7302250; omega) ?_
  rintro a h1 ⟨rfl, ⟨V, hV⟩, P2⟩
  refine ww_aload_n dL_law_212 rfl rfl ?_
  refine ww_aload_n dL_law_213 rfl rfl ?_
  refine ww_iload_n dL_law_214 rfl rfl ?_
  refine ww_iconst (v := 1) dL_law_215 (by decide) ?_
  refine ww_iadd dL_law_216 ?_
  refine ww_sld (j := i + 1) hX hbG dL_law_217 (nI_add i 1) (by omega) (by omega) ?_
  refine ww_callV (As := [.int (xs (i + 1))]) (st := [.int v]) dL_law_218 kL_22 hV rfl rfl P2 rfl rfl rfl rfl rfl (by show k + 0 + 0 ≤ 600000; omega) (by show n + 0 + 0 ≤ 7302250; omega) ?_
  rintro a2 h2 ⟨rfl, Λ2, F2, O2, R2, sz2, F92, tl2, R92, NL2, rfl, I2⟩
  refine ww_icmp_eq (tgt := 815) dL_law_221 (by decide) (fun _ => ?_) (fun c0 => absurd rfl c0)
  exact ww_widen (by show k + 0 + 0 ≤ k + 9; omega) (by show n + 0 + 0 ≤ n + 656; omega) (K _ _ _ _ _ _ _ _ _ I2)
theorem lc_business (hX : va_X b L xs X.2.2.2.1 X.2.2.2.1.heap) (hbG : b < G.2.2.1) (hL : L ≤ 3072) (I : Inv B Λ F O R sz F9 R9) (hi : i + 6 ≤ L) (hk : k + 9 ≤ 600000) (hn : n + 656 ≤ 7302250) (K : ∀ (Λ : wL) (F : Nat → Nat → Int32) (O : Nat → Nat → Option Nat) (R : Nat → Nat → Nat → Int32) (sz : Nat) (F9 : Nat → Int32) (tl : Int64) (R9 : Nat → Nat → Int32) (NL : Nat → Int64), Inv B Λ F O R sz F9 R9 → WW G (mLN nm) cL_law X Z 815 [some (.ref b), some (.ref B), some (.ref (B + 44)), some (.int (nI i))] [] (hp B Λ F O R sz F9 tl R9 NL) (k + 9) (n + 656)) : WW G (mLN nm) cL_law X Z 226 [some (.ref b), some (.ref B), some (.ref (B + 44)), some (.int (nI i))] [] (hp B Λ F O R sz F9 tl R9 NL) k n := by
  obtain ⟨v, P⟩ := pr_business (G := G) (tl := tl) (NL := NL) I 
  refine ww_aload_n dL_law_226 rfl rfl ?_
  refine ww_callV (As := []) (st := []) dL_law_227 kL_23 (Inv.obj I) rfl rfl P rfl rfl rfl rfl rfl (by show k + 9 ≤ 600000; omega) (by show n + 656 ≤ 7302250; omega) ?_
  rintro a h1 ⟨rfl, ⟨V, hV⟩, P2⟩
  refine ww_aload_n dL_law_230 rfl rfl ?_
  refine ww_callV (As := []) (st := [.int v]) dL_law_231 kL_27 hV rfl rfl P2 rfl rfl rfl rfl rfl (by show k + 9 + 0 ≤ 600000; omega) (by show n + 656 + 0 ≤ 7302250; omega) ?_
  rintro a2 h2 ⟨rfl, Λ2, F2, O2, R2, sz2, F92, tl2, R92, NL2, rfl, I2⟩
  refine ww_icmp_eq (tgt := 815) dL_law_234 (by decide) (fun _ => ?_) (fun c0 => absurd rfl c0)
  exact ww_widen (by show k + 9 + 0 ≤ k + 9; omega) (by show n + 656 + 0 ≤ n + 656; omega) (K _ _ _ _ _ _ _ _ _ I2)
theorem lc_fault (hX : va_X b L xs X.2.2.2.1 X.2.2.2.1.heap) (hbG : b < G.2.2.1) (hL : L ≤ 3072) (I : Inv B Λ F O R sz F9 R9) (hi : i + 6 ≤ L) (hk : k + 9 ≤ 600000) (hn : n + 656 ≤ 7302250) (K : ∀ (Λ : wL) (F : Nat → Nat → Int32) (O : Nat → Nat → Option Nat) (R : Nat → Nat → Nat → Int32) (sz : Nat) (F9 : Nat → Int32) (tl : Int64) (R9 : Nat → Nat → Int32) (NL : Nat → Int64), Inv B Λ F O R sz F9 R9 → WW G (mLN nm) cL_law X Z 815 [some (.ref b), some (.ref B), some (.ref (B + 44)), some (.int (nI i))] [] (hp B Λ F O R sz F9 tl R9 NL) (k + 9) (n + 656)) : WW G (mLN nm) cL_law X Z 239 [some (.ref b), some (.ref B), some (.ref (B + 44)), some (.int (nI i))] [] (hp B Λ F O R sz F9 tl R9 NL) k n := by
  obtain ⟨v, P⟩ := pr_fault (G := G) (tl := tl) (NL := NL) I (xs (i + 1))
  refine ww_aload_n dL_law_239 rfl rfl ?_
  refine ww_aload_n dL_law_240 rfl rfl ?_
  refine ww_iload_n dL_law_241 rfl rfl ?_
  refine ww_iconst (v := 1) dL_law_242 (by decide) ?_
  refine ww_iadd dL_law_243 ?_
  refine ww_sld (j := i + 1) hX hbG dL_law_244 (nI_add i 1) (by omega) (by omega) ?_
  refine ww_callV (As := [.int (xs (i + 1))]) (st := []) dL_law_245 kL_28 (Inv.obj I) rfl rfl P rfl rfl rfl rfl rfl (by show k + 0 ≤ 600000; omega) (by show n + 0 ≤ 7302250; omega) ?_
  rintro a h1 ⟨rfl, ⟨V, hV⟩, P2⟩
  refine ww_aload_n dL_law_248 rfl rfl ?_
  refine ww_aload_n dL_law_249 rfl rfl ?_
  refine ww_iload_n dL_law_250 rfl rfl ?_
  refine ww_iconst (v := 1) dL_law_251 (by decide) ?_
  refine ww_iadd dL_law_252 ?_
  refine ww_sld (j := i + 1) hX hbG dL_law_253 (nI_add i 1) (by omega) (by omega) ?_
  refine ww_callV (As := [.int (xs (i + 1))]) (st := [.int v]) dL_law_254 kL_31 hV rfl rfl P2 rfl rfl rfl rfl rfl (by show k + 0 + 0 ≤ 600000; omega) (by show n + 0 + 0 ≤ 7302250; omega) ?_
  rintro a2 h2 ⟨rfl, Λ2, F2, O2, R2, sz2, F92, tl2, R92, NL2, rfl, I2⟩
  refine ww_icmp_eq (tgt := 815) dL_law_257 (by decide) (fun _ => ?_) (fun c0 => absurd rfl c0)
  exact ww_widen (by show k + 0 + 0 ≤ k + 9; omega) (by show n + 0 + 0 ≤ n + 656; omega) (K _ _ _ _ _ _ _ _ _ I2)
theorem lc_person (hX : va_X b L xs X.2.2.2.1 X.2.2.2.1.heap) (hbG : b < G.2.2.1) (hL : L ≤ 3072) (I : Inv B Λ F O R sz F9 R9) (hi : i + 6 ≤ L) (hk : k + 9 ≤ 600000) (hn : n + 656 ≤ 7302250) (K : ∀ (Λ : wL) (F : Nat → Nat → Int32) (O : Nat → Nat → Option Nat) (R : Nat → Nat → Nat → Int32) (sz : Nat) (F9 : Nat → Int32) (tl : Int64) (R9 : Nat → Nat → Int32) (NL : Nat → Int64), Inv B Λ F O R sz F9 R9 → WW G (mLN nm) cL_law X Z 815 [some (.ref b), some (.ref B), some (.ref (B + 44)), some (.int (nI i))] [] (hp B Λ F O R sz F9 tl R9 NL) (k + 9) (n + 656)) : WW G (mLN nm) cL_law X Z 262 [some (.ref b), some (.ref B), some (.ref (B + 44)), some (.int (nI i))] [] (hp B Λ F O R sz F9 tl R9 NL) k n := by
  obtain ⟨v, P⟩ := pr_person (G := G) (tl := tl) (NL := NL) I (xs (i + 1)) (xs (i + 2))
  refine ww_aload_n dL_law_262 rfl rfl ?_
  refine ww_aload_n dL_law_263 rfl rfl ?_
  refine ww_iload_n dL_law_264 rfl rfl ?_
  refine ww_iconst (v := 1) dL_law_265 (by decide) ?_
  refine ww_iadd dL_law_266 ?_
  refine ww_sld (j := i + 1) hX hbG dL_law_267 (nI_add i 1) (by omega) (by omega) ?_
  refine ww_aload_n dL_law_268 rfl rfl ?_
  refine ww_iload_n dL_law_269 rfl rfl ?_
  refine ww_iconst (v := 2) dL_law_270 (by decide) ?_
  refine ww_iadd dL_law_271 ?_
  refine ww_sld (j := i + 2) hX hbG dL_law_272 (nI_add i 2) (by omega) (by omega) ?_
  refine ww_callV (As := [.int (xs (i + 1)), .int (xs (i + 2))]) (st := []) dL_law_273 kL_32 (Inv.obj I) rfl rfl P rfl rfl rfl rfl rfl (by show k + 0 ≤ 600000; omega) (by show n + 0 ≤ 7302250; omega) ?_
  rintro a h1 ⟨rfl, ⟨V, hV⟩, P2⟩
  refine ww_aload_n dL_law_276 rfl rfl ?_
  refine ww_aload_n dL_law_277 rfl rfl ?_
  refine ww_iload_n dL_law_278 rfl rfl ?_
  refine ww_iconst (v := 1) dL_law_279 (by decide) ?_
  refine ww_iadd dL_law_280 ?_
  refine ww_sld (j := i + 1) hX hbG dL_law_281 (nI_add i 1) (by omega) (by omega) ?_
  refine ww_aload_n dL_law_282 rfl rfl ?_
  refine ww_iload_n dL_law_283 rfl rfl ?_
  refine ww_iconst (v := 2) dL_law_284 (by decide) ?_
  refine ww_iadd dL_law_285 ?_
  refine ww_sld (j := i + 2) hX hbG dL_law_286 (nI_add i 2) (by omega) (by omega) ?_
  refine ww_callV (As := [.int (xs (i + 1)), .int (xs (i + 2))]) (st := [.int v]) dL_law_287 kL_36 hV rfl rfl P2 rfl rfl rfl rfl rfl (by show k + 0 + 0 ≤ 600000; omega) (by show n + 0 + 0 ≤ 7302250; omega) ?_
  rintro a2 h2 ⟨rfl, Λ2, F2, O2, R2, sz2, F92, tl2, R92, NL2, rfl, I2⟩
  refine ww_icmp_eq (tgt := 815) dL_law_290 (by decide) (fun _ => ?_) (fun c0 => absurd rfl c0)
  exact ww_widen (by show k + 0 + 0 ≤ k + 9; omega) (by show n + 0 + 0 ≤ n + 656; omega) (K _ _ _ _ _ _ _ _ _ I2)
theorem lc_deputy (hX : va_X b L xs X.2.2.2.1 X.2.2.2.1.heap) (hbG : b < G.2.2.1) (hL : L ≤ 3072) (I : Inv B Λ F O R sz F9 R9) (hi : i + 6 ≤ L) (hk : k + 9 ≤ 600000) (hn : n + 656 ≤ 7302250) (K : ∀ (Λ : wL) (F : Nat → Nat → Int32) (O : Nat → Nat → Option Nat) (R : Nat → Nat → Nat → Int32) (sz : Nat) (F9 : Nat → Int32) (tl : Int64) (R9 : Nat → Nat → Int32) (NL : Nat → Int64), Inv B Λ F O R sz F9 R9 → WW G (mLN nm) cL_law X Z 815 [some (.ref b), some (.ref B), some (.ref (B + 44)), some (.int (nI i))] [] (hp B Λ F O R sz F9 tl R9 NL) (k + 9) (n + 656)) : WW G (mLN nm) cL_law X Z 295 [some (.ref b), some (.ref B), some (.ref (B + 44)), some (.int (nI i))] [] (hp B Λ F O R sz F9 tl R9 NL) k n := by
  obtain ⟨v, P⟩ := pr_deputy (G := G) (tl := tl) (NL := NL) I (xs (i + 1)) (xs (i + 2))
  refine ww_aload_n dL_law_295 rfl rfl ?_
  refine ww_aload_n dL_law_296 rfl rfl ?_
  refine ww_iload_n dL_law_297 rfl rfl ?_
  refine ww_iconst (v := 1) dL_law_298 (by decide) ?_
  refine ww_iadd dL_law_299 ?_
  refine ww_sld (j := i + 1) hX hbG dL_law_300 (nI_add i 1) (by omega) (by omega) ?_
  refine ww_aload_n dL_law_301 rfl rfl ?_
  refine ww_iload_n dL_law_302 rfl rfl ?_
  refine ww_iconst (v := 2) dL_law_303 (by decide) ?_
  refine ww_iadd dL_law_304 ?_
  refine ww_sld (j := i + 2) hX hbG dL_law_305 (nI_add i 2) (by omega) (by omega) ?_
  refine ww_callV (As := [.int (xs (i + 1)), .int (xs (i + 2))]) (st := []) dL_law_306 kL_37 (Inv.obj I) rfl rfl P rfl rfl rfl rfl rfl (by show k + 0 ≤ 600000; omega) (by show n + 0 ≤ 7302250; omega) ?_
  rintro a h1 ⟨rfl, ⟨V, hV⟩, P2⟩
  refine ww_aload_n dL_law_309 rfl rfl ?_
  refine ww_aload_n dL_law_310 rfl rfl ?_
  refine ww_iload_n dL_law_311 rfl rfl ?_
  refine ww_iconst (v := 1) dL_law_312 (by decide) ?_
  refine ww_iadd dL_law_313 ?_
  refine ww_sld (j := i + 1) hX hbG dL_law_314 (nI_add i 1) (by omega) (by omega) ?_
  refine ww_aload_n dL_law_315 rfl rfl ?_
  refine ww_iload_n dL_law_316 rfl rfl ?_
  refine ww_iconst (v := 2) dL_law_317 (by decide) ?_
  refine ww_iadd dL_law_318 ?_
  refine ww_sld (j := i + 2) hX hbG dL_law_319 (nI_add i 2) (by omega) (by omega) ?_
  refine ww_callV (As := [.int (xs (i + 1)), .int (xs (i + 2))]) (st := [.int v]) dL_law_320 kL_41 hV rfl rfl P2 rfl rfl rfl rfl rfl (by show k + 0 + 0 ≤ 600000; omega) (by show n + 0 + 0 ≤ 7302250; omega) ?_
  rintro a2 h2 ⟨rfl, Λ2, F2, O2, R2, sz2, F92, tl2, R92, NL2, rfl, I2⟩
  refine ww_icmp_eq (tgt := 815) dL_law_323 (by decide) (fun _ => ?_) (fun c0 => absurd rfl c0)
  exact ww_widen (by show k + 0 + 0 ≤ k + 9; omega) (by show n + 0 + 0 ≤ n + 656; omega) (K _ _ _ _ _ _ _ _ _ I2)
theorem lc_away (hX : va_X b L xs X.2.2.2.1 X.2.2.2.1.heap) (hbG : b < G.2.2.1) (hL : L ≤ 3072) (I : Inv B Λ F O R sz F9 R9) (hi : i + 6 ≤ L) (hk : k + 9 ≤ 600000) (hn : n + 656 ≤ 7302250) (K : ∀ (Λ : wL) (F : Nat → Nat → Int32) (O : Nat → Nat → Option Nat) (R : Nat → Nat → Nat → Int32) (sz : Nat) (F9 : Nat → Int32) (tl : Int64) (R9 : Nat → Nat → Int32) (NL : Nat → Int64), Inv B Λ F O R sz F9 R9 → WW G (mLN nm) cL_law X Z 815 [some (.ref b), some (.ref B), some (.ref (B + 44)), some (.int (nI i))] [] (hp B Λ F O R sz F9 tl R9 NL) (k + 9) (n + 656)) : WW G (mLN nm) cL_law X Z 328 [some (.ref b), some (.ref B), some (.ref (B + 44)), some (.int (nI i))] [] (hp B Λ F O R sz F9 tl R9 NL) k n := by
  by_cases h0 : xs (i + 2) = 0
  · obtain ⟨v, P⟩ := pr_away (G := G) (tl := tl) (NL := NL) I (xs (i + 1)) (0) (Or.inl rfl)
    refine ww_aload_n dL_law_328 rfl rfl ?_
    refine ww_aload_n dL_law_329 rfl rfl ?_
    refine ww_iload_n dL_law_330 rfl rfl ?_
    refine ww_iconst (v := 1) dL_law_331 (by decide) ?_
    refine ww_iadd dL_law_332 ?_
    refine ww_sld (j := i + 1) hX hbG dL_law_333 (nI_add i 1) (by omega) (by omega) ?_
    refine ww_aload_n dL_law_334 rfl rfl ?_
    refine ww_iload_n dL_law_335 rfl rfl ?_
    refine ww_iconst (v := 2) dL_law_336 (by decide) ?_
    refine ww_iadd dL_law_337 ?_
    refine ww_sld (j := i + 2) hX hbG dL_law_338 (nI_add i 2) (by omega) (by omega) ?_
    refine ww_if_eq (tgt := 346) dL_law_339 (by decide) (fun _ => ?_) (fun c0 => absurd h0 c0)
    refine ww_iconst (v := 0) dL_law_346 (by decide) ?_
    refine ww_callV (As := [.int (xs (i + 1)), .int (0)]) (st := []) dL_law_347 kL_42 (Inv.obj I) rfl rfl P rfl rfl rfl rfl rfl (by show k + 0 ≤ 600000; omega) (by show n + 0 ≤ 7302250; omega) ?_
    rintro a h1 ⟨rfl, ⟨V, hV⟩, P2⟩
    refine ww_aload_n dL_law_350 rfl rfl ?_
    refine ww_aload_n dL_law_351 rfl rfl ?_
    refine ww_iload_n dL_law_352 rfl rfl ?_
    refine ww_iconst (v := 1) dL_law_353 (by decide) ?_
    refine ww_iadd dL_law_354 ?_
    refine ww_sld (j := i + 1) hX hbG dL_law_355 (nI_add i 1) (by omega) (by omega) ?_
    refine ww_aload_n dL_law_356 rfl rfl ?_
    refine ww_iload_n dL_law_357 rfl rfl ?_
    refine ww_iconst (v := 2) dL_law_358 (by decide) ?_
    refine ww_iadd dL_law_359 ?_
    refine ww_sld (j := i + 2) hX hbG dL_law_360 (nI_add i 2) (by omega) (by omega) ?_
    refine ww_if_eq (tgt := 368) dL_law_361 (by decide) (fun _ => ?_) (fun c0 => absurd h0 c0)
    refine ww_iconst (v := 0) dL_law_368 (by decide) ?_
    refine ww_callV (As := [.int (xs (i + 1)), .int (0)]) (st := [.int v]) dL_law_369 kL_46 hV rfl rfl P2 rfl rfl rfl rfl rfl (by show k + 0 + 0 ≤ 600000; omega) (by show n + 0 + 0 ≤ 7302250; omega) ?_
    rintro a2 h2 ⟨rfl, Λ2, F2, O2, R2, sz2, F92, tl2, R92, NL2, rfl, I2⟩
    refine ww_icmp_eq (tgt := 815) dL_law_372 (by decide) (fun _ => ?_) (fun c0 => absurd rfl c0)
    exact ww_widen (by show k + 0 + 0 ≤ k + 9; omega) (by show n + 0 + 0 ≤ n + 656; omega) (K _ _ _ _ _ _ _ _ _ I2)
  · obtain ⟨v, P⟩ := pr_away (G := G) (tl := tl) (NL := NL) I (xs (i + 1)) (1) (Or.inr rfl)
    refine ww_aload_n dL_law_328 rfl rfl ?_
    refine ww_aload_n dL_law_329 rfl rfl ?_
    refine ww_iload_n dL_law_330 rfl rfl ?_
    refine ww_iconst (v := 1) dL_law_331 (by decide) ?_
    refine ww_iadd dL_law_332 ?_
    refine ww_sld (j := i + 1) hX hbG dL_law_333 (nI_add i 1) (by omega) (by omega) ?_
    refine ww_aload_n dL_law_334 rfl rfl ?_
    refine ww_iload_n dL_law_335 rfl rfl ?_
    refine ww_iconst (v := 2) dL_law_336 (by decide) ?_
    refine ww_iadd dL_law_337 ?_
    refine ww_sld (j := i + 2) hX hbG dL_law_338 (nI_add i 2) (by omega) (by omega) ?_
    refine ww_if_eq (tgt := 346) dL_law_339 (by decide) (fun c0 => absurd c0 h0) (fun _ => ?_)
    refine ww_iconst (v := 1) dL_law_342 (by decide) ?_
    refine ww_goto (tgt := 347) dL_law_343 (by decide) ?_
    refine ww_callV (As := [.int (xs (i + 1)), .int (1)]) (st := []) dL_law_347 kL_42 (Inv.obj I) rfl rfl P rfl rfl rfl rfl rfl (by show k + 0 ≤ 600000; omega) (by show n + 0 ≤ 7302250; omega) ?_
    rintro a h1 ⟨rfl, ⟨V, hV⟩, P2⟩
    refine ww_aload_n dL_law_350 rfl rfl ?_
    refine ww_aload_n dL_law_351 rfl rfl ?_
    refine ww_iload_n dL_law_352 rfl rfl ?_
    refine ww_iconst (v := 1) dL_law_353 (by decide) ?_
    refine ww_iadd dL_law_354 ?_
    refine ww_sld (j := i + 1) hX hbG dL_law_355 (nI_add i 1) (by omega) (by omega) ?_
    refine ww_aload_n dL_law_356 rfl rfl ?_
    refine ww_iload_n dL_law_357 rfl rfl ?_
    refine ww_iconst (v := 2) dL_law_358 (by decide) ?_
    refine ww_iadd dL_law_359 ?_
    refine ww_sld (j := i + 2) hX hbG dL_law_360 (nI_add i 2) (by omega) (by omega) ?_
    refine ww_if_eq (tgt := 368) dL_law_361 (by decide) (fun c0 => absurd c0 h0) (fun _ => ?_)
    refine ww_iconst (v := 1) dL_law_364 (by decide) ?_
    refine ww_goto (tgt := 369) dL_law_365 (by decide) ?_
    refine ww_callV (As := [.int (xs (i + 1)), .int (1)]) (st := [.int v]) dL_law_369 kL_46 hV rfl rfl P2 rfl rfl rfl rfl rfl (by show k + 0 + 0 ≤ 600000; omega) (by show n + 0 + 0 ≤ 7302250; omega) ?_
    rintro a2 h2 ⟨rfl, Λ2, F2, O2, R2, sz2, F92, tl2, R92, NL2, rfl, I2⟩
    refine ww_icmp_eq (tgt := 815) dL_law_372 (by decide) (fun _ => ?_) (fun c0 => absurd rfl c0)
    exact ww_widen (by show k + 0 + 0 ≤ k + 9; omega) (by show n + 0 + 0 ≤ n + 656; omega) (K _ _ _ _ _ _ _ _ _ I2)
theorem lc_stands (hX : va_X b L xs X.2.2.2.1 X.2.2.2.1.heap) (hbG : b < G.2.2.1) (hL : L ≤ 3072) (I : Inv B Λ F O R sz F9 R9) (hi : i + 6 ≤ L) (hk : k + 9 ≤ 600000) (hn : n + 656 ≤ 7302250) (K : ∀ (Λ : wL) (F : Nat → Nat → Int32) (O : Nat → Nat → Option Nat) (R : Nat → Nat → Nat → Int32) (sz : Nat) (F9 : Nat → Int32) (tl : Int64) (R9 : Nat → Nat → Int32) (NL : Nat → Int64), Inv B Λ F O R sz F9 R9 → WW G (mLN nm) cL_law X Z 815 [some (.ref b), some (.ref B), some (.ref (B + 44)), some (.int (nI i))] [] (hp B Λ F O R sz F9 tl R9 NL) (k + 9) (n + 656)) : WW G (mLN nm) cL_law X Z 377 [some (.ref b), some (.ref B), some (.ref (B + 44)), some (.int (nI i))] [] (hp B Λ F O R sz F9 tl R9 NL) k n := by
  obtain ⟨v, P⟩ := pr_stands (G := G) (tl := tl) (NL := NL) I (xs (i + 1))
  refine ww_aload_n dL_law_377 rfl rfl ?_
  refine ww_aload_n dL_law_378 rfl rfl ?_
  refine ww_iload_n dL_law_379 rfl rfl ?_
  refine ww_iconst (v := 1) dL_law_380 (by decide) ?_
  refine ww_iadd dL_law_381 ?_
  refine ww_sld (j := i + 1) hX hbG dL_law_382 (nI_add i 1) (by omega) (by omega) ?_
  refine ww_callV (As := [.int (xs (i + 1))]) (st := []) dL_law_383 kL_47 (Inv.obj I) rfl rfl P rfl rfl rfl rfl rfl (by show k + 0 ≤ 600000; omega) (by show n + 0 ≤ 7302250; omega) ?_
  rintro a h1 ⟨rfl, ⟨V, hV⟩, P2⟩
  refine ww_aload_n dL_law_386 rfl rfl ?_
  refine ww_aload_n dL_law_387 rfl rfl ?_
  refine ww_iload_n dL_law_388 rfl rfl ?_
  refine ww_iconst (v := 1) dL_law_389 (by decide) ?_
  refine ww_iadd dL_law_390 ?_
  refine ww_sld (j := i + 1) hX hbG dL_law_391 (nI_add i 1) (by omega) (by omega) ?_
  refine ww_callV (As := [.int (xs (i + 1))]) (st := [.int v]) dL_law_392 kL_50 hV rfl rfl P2 rfl rfl rfl rfl rfl (by show k + 0 + 0 ≤ 600000; omega) (by show n + 0 + 0 ≤ 7302250; omega) ?_
  rintro a2 h2 ⟨rfl, Λ2, F2, O2, R2, sz2, F92, tl2, R92, NL2, rfl, I2⟩
  refine ww_icmp_eq (tgt := 815) dL_law_395 (by decide) (fun _ => ?_) (fun c0 => absurd rfl c0)
  exact ww_widen (by show k + 0 + 0 ≤ k + 9; omega) (by show n + 0 + 0 ≤ n + 656; omega) (K _ _ _ _ _ _ _ _ _ I2)
theorem lc_hour (hX : va_X b L xs X.2.2.2.1 X.2.2.2.1.heap) (hbG : b < G.2.2.1) (hL : L ≤ 3072) (I : Inv B Λ F O R sz F9 R9) (hi : i + 6 ≤ L) (hk : k + 9 ≤ 600000) (hn : n + 656 ≤ 7302250) (K : ∀ (Λ : wL) (F : Nat → Nat → Int32) (O : Nat → Nat → Option Nat) (R : Nat → Nat → Nat → Int32) (sz : Nat) (F9 : Nat → Int32) (tl : Int64) (R9 : Nat → Nat → Int32) (NL : Nat → Int64), Inv B Λ F O R sz F9 R9 → WW G (mLN nm) cL_law X Z 815 [some (.ref b), some (.ref B), some (.ref (B + 44)), some (.int (nI i))] [] (hp B Λ F O R sz F9 tl R9 NL) (k + 9) (n + 656)) : WW G (mLN nm) cL_law X Z 400 [some (.ref b), some (.ref B), some (.ref (B + 44)), some (.int (nI i))] [] (hp B Λ F O R sz F9 tl R9 NL) k n := by
  obtain ⟨v, P⟩ := pr_hour (G := G) (tl := tl) (NL := NL) I (xs (i + 1))
  refine ww_aload_n dL_law_400 rfl rfl ?_
  refine ww_aload_n dL_law_401 rfl rfl ?_
  refine ww_iload_n dL_law_402 rfl rfl ?_
  refine ww_iconst (v := 1) dL_law_403 (by decide) ?_
  refine ww_iadd dL_law_404 ?_
  refine ww_sld (j := i + 1) hX hbG dL_law_405 (nI_add i 1) (by omega) (by omega) ?_
  refine ww_callV (As := [.int (xs (i + 1))]) (st := []) dL_law_406 kL_51 (Inv.obj I) rfl rfl P rfl rfl rfl rfl rfl (by show k + 0 ≤ 600000; omega) (by show n + 0 ≤ 7302250; omega) ?_
  rintro a h1 ⟨rfl, ⟨V, hV⟩, P2⟩
  refine ww_aload_n dL_law_409 rfl rfl ?_
  refine ww_aload_n dL_law_410 rfl rfl ?_
  refine ww_iload_n dL_law_411 rfl rfl ?_
  refine ww_iconst (v := 1) dL_law_412 (by decide) ?_
  refine ww_iadd dL_law_413 ?_
  refine ww_sld (j := i + 1) hX hbG dL_law_414 (nI_add i 1) (by omega) (by omega) ?_
  refine ww_callV (As := [.int (xs (i + 1))]) (st := [.int v]) dL_law_415 kL_55 hV rfl rfl P2 rfl rfl rfl rfl rfl (by show k + 0 + 0 ≤ 600000; omega) (by show n + 0 + 0 ≤ 7302250; omega) ?_
  rintro a2 h2 ⟨rfl, Λ2, F2, O2, R2, sz2, F92, tl2, R92, NL2, rfl, I2⟩
  refine ww_icmp_eq (tgt := 815) dL_law_418 (by decide) (fun _ => ?_) (fun c0 => absurd rfl c0)
  exact ww_widen (by show k + 0 + 0 ≤ k + 9; omega) (by show n + 0 + 0 ≤ n + 656; omega) (K _ _ _ _ _ _ _ _ _ I2)
theorem lc_run (hX : va_X b L xs X.2.2.2.1 X.2.2.2.1.heap) (hbG : b < G.2.2.1) (hL : L ≤ 3072) (I : Inv B Λ F O R sz F9 R9) (hi : i + 6 ≤ L) (hk : k + 9 ≤ 600000) (hn : n + 656 ≤ 7302250) (K : ∀ (Λ : wL) (F : Nat → Nat → Int32) (O : Nat → Nat → Option Nat) (R : Nat → Nat → Nat → Int32) (sz : Nat) (F9 : Nat → Int32) (tl : Int64) (R9 : Nat → Nat → Int32) (NL : Nat → Int64), Inv B Λ F O R sz F9 R9 → WW G (mLN nm) cL_law X Z 815 [some (.ref b), some (.ref B), some (.ref (B + 44)), some (.int (nI i))] [] (hp B Λ F O R sz F9 tl R9 NL) (k + 9) (n + 656)) : WW G (mLN nm) cL_law X Z 423 [some (.ref b), some (.ref B), some (.ref (B + 44)), some (.int (nI i))] [] (hp B Λ F O R sz F9 tl R9 NL) k n := by
  obtain ⟨v, P⟩ := pr_run (G := G) (tl := tl) (NL := NL) I 
  refine ww_aload_n dL_law_423 rfl rfl ?_
  refine ww_callV (As := []) (st := []) dL_law_424 kL_56 (Inv.obj I) rfl rfl P rfl rfl rfl rfl rfl (by show k + 4 ≤ 600000; omega) (by show n + 91 ≤ 7302250; omega) ?_
  rintro a h1 ⟨rfl, ⟨V, hV⟩, P2⟩
  refine ww_aload_n dL_law_427 rfl rfl ?_
  refine ww_callV (As := []) (st := [.int v]) dL_law_428 kL_59 hV rfl rfl P2 rfl rfl rfl rfl rfl (by show k + 4 + 0 ≤ 600000; omega) (by show n + 91 + 0 ≤ 7302250; omega) ?_
  rintro a2 h2 ⟨rfl, Λ2, F2, O2, R2, sz2, F92, tl2, R92, NL2, rfl, I2⟩
  refine ww_icmp_eq (tgt := 815) dL_law_431 (by decide) (fun _ => ?_) (fun c0 => absurd rfl c0)
  exact ww_widen (by show k + 4 + 0 ≤ k + 9; omega) (by show n + 91 + 0 ≤ n + 656; omega) (K _ _ _ _ _ _ _ _ _ I2)
theorem lc_runOf (hX : va_X b L xs X.2.2.2.1 X.2.2.2.1.heap) (hbG : b < G.2.2.1) (hL : L ≤ 3072) (I : Inv B Λ F O R sz F9 R9) (hi : i + 6 ≤ L) (hk : k + 9 ≤ 600000) (hn : n + 656 ≤ 7302250) (K : ∀ (Λ : wL) (F : Nat → Nat → Int32) (O : Nat → Nat → Option Nat) (R : Nat → Nat → Nat → Int32) (sz : Nat) (F9 : Nat → Int32) (tl : Int64) (R9 : Nat → Nat → Int32) (NL : Nat → Int64), Inv B Λ F O R sz F9 R9 → WW G (mLN nm) cL_law X Z 815 [some (.ref b), some (.ref B), some (.ref (B + 44)), some (.int (nI i))] [] (hp B Λ F O R sz F9 tl R9 NL) (k + 9) (n + 656)) : WW G (mLN nm) cL_law X Z 436 [some (.ref b), some (.ref B), some (.ref (B + 44)), some (.int (nI i))] [] (hp B Λ F O R sz F9 tl R9 NL) k n := by
  obtain ⟨v, P⟩ := pr_runOf (G := G) (tl := tl) (NL := NL) I (xs (i + 1)) (xs (i + 2))
  refine ww_aload_n dL_law_436 rfl rfl ?_
  refine ww_aload_n dL_law_437 rfl rfl ?_
  refine ww_iload_n dL_law_438 rfl rfl ?_
  refine ww_iconst (v := 1) dL_law_439 (by decide) ?_
  refine ww_iadd dL_law_440 ?_
  refine ww_sld (j := i + 1) hX hbG dL_law_441 (nI_add i 1) (by omega) (by omega) ?_
  refine ww_aload_n dL_law_442 rfl rfl ?_
  refine ww_iload_n dL_law_443 rfl rfl ?_
  refine ww_iconst (v := 2) dL_law_444 (by decide) ?_
  refine ww_iadd dL_law_445 ?_
  refine ww_sld (j := i + 2) hX hbG dL_law_446 (nI_add i 2) (by omega) (by omega) ?_
  refine ww_callV (As := [.int (xs (i + 1)), .int (xs (i + 2))]) (st := []) dL_law_447 kL_60 (Inv.obj I) rfl rfl P rfl rfl rfl rfl rfl (by show k + 0 ≤ 600000; omega) (by show n + 0 ≤ 7302250; omega) ?_
  rintro a h1 ⟨rfl, ⟨V, hV⟩, P2⟩
  refine ww_aload_n dL_law_450 rfl rfl ?_
  refine ww_aload_n dL_law_451 rfl rfl ?_
  refine ww_iload_n dL_law_452 rfl rfl ?_
  refine ww_iconst (v := 1) dL_law_453 (by decide) ?_
  refine ww_iadd dL_law_454 ?_
  refine ww_sld (j := i + 1) hX hbG dL_law_455 (nI_add i 1) (by omega) (by omega) ?_
  refine ww_aload_n dL_law_456 rfl rfl ?_
  refine ww_iload_n dL_law_457 rfl rfl ?_
  refine ww_iconst (v := 2) dL_law_458 (by decide) ?_
  refine ww_iadd dL_law_459 ?_
  refine ww_sld (j := i + 2) hX hbG dL_law_460 (nI_add i 2) (by omega) (by omega) ?_
  refine ww_callV (As := [.int (xs (i + 1)), .int (xs (i + 2))]) (st := [.int v]) dL_law_461 kL_63 hV rfl rfl P2 rfl rfl rfl rfl rfl (by show k + 0 + 0 ≤ 600000; omega) (by show n + 0 + 0 ≤ 7302250; omega) ?_
  rintro a2 h2 ⟨rfl, Λ2, F2, O2, R2, sz2, F92, tl2, R92, NL2, rfl, I2⟩
  refine ww_icmp_eq (tgt := 815) dL_law_464 (by decide) (fun _ => ?_) (fun c0 => absurd rfl c0)
  exact ww_widen (by show k + 0 + 0 ≤ k + 9; omega) (by show n + 0 + 0 ≤ n + 656; omega) (K _ _ _ _ _ _ _ _ _ I2)
theorem lc_task (hX : va_X b L xs X.2.2.2.1 X.2.2.2.1.heap) (hbG : b < G.2.2.1) (hL : L ≤ 3072) (I : Inv B Λ F O R sz F9 R9) (hi : i + 6 ≤ L) (hk : k + 9 ≤ 600000) (hn : n + 656 ≤ 7302250) (K : ∀ (Λ : wL) (F : Nat → Nat → Int32) (O : Nat → Nat → Option Nat) (R : Nat → Nat → Nat → Int32) (sz : Nat) (F9 : Nat → Int32) (tl : Int64) (R9 : Nat → Nat → Int32) (NL : Nat → Int64), Inv B Λ F O R sz F9 R9 → WW G (mLN nm) cL_law X Z 815 [some (.ref b), some (.ref B), some (.ref (B + 44)), some (.int (nI i))] [] (hp B Λ F O R sz F9 tl R9 NL) (k + 9) (n + 656)) : WW G (mLN nm) cL_law X Z 469 [some (.ref b), some (.ref B), some (.ref (B + 44)), some (.int (nI i))] [] (hp B Λ F O R sz F9 tl R9 NL) k n := by
  obtain ⟨v, P⟩ := pr_task (G := G) (tl := tl) (NL := NL) I (xs (i + 1)) (xs (i + 2))
  refine ww_aload_n dL_law_469 rfl rfl ?_
  refine ww_aload_n dL_law_470 rfl rfl ?_
  refine ww_iload_n dL_law_471 rfl rfl ?_
  refine ww_iconst (v := 1) dL_law_472 (by decide) ?_
  refine ww_iadd dL_law_473 ?_
  refine ww_sld (j := i + 1) hX hbG dL_law_474 (nI_add i 1) (by omega) (by omega) ?_
  refine ww_aload_n dL_law_475 rfl rfl ?_
  refine ww_iload_n dL_law_476 rfl rfl ?_
  refine ww_iconst (v := 2) dL_law_477 (by decide) ?_
  refine ww_iadd dL_law_478 ?_
  refine ww_sld (j := i + 2) hX hbG dL_law_479 (nI_add i 2) (by omega) (by omega) ?_
  refine ww_callV (As := [.int (xs (i + 1)), .int (xs (i + 2))]) (st := []) dL_law_480 kL_64 (Inv.obj I) rfl rfl P rfl rfl rfl rfl rfl (by show k + 0 ≤ 600000; omega) (by show n + 0 ≤ 7302250; omega) ?_
  rintro a h1 ⟨rfl, ⟨V, hV⟩, P2⟩
  refine ww_aload_n dL_law_483 rfl rfl ?_
  refine ww_aload_n dL_law_484 rfl rfl ?_
  refine ww_iload_n dL_law_485 rfl rfl ?_
  refine ww_iconst (v := 1) dL_law_486 (by decide) ?_
  refine ww_iadd dL_law_487 ?_
  refine ww_sld (j := i + 1) hX hbG dL_law_488 (nI_add i 1) (by omega) (by omega) ?_
  refine ww_aload_n dL_law_489 rfl rfl ?_
  refine ww_iload_n dL_law_490 rfl rfl ?_
  refine ww_iconst (v := 2) dL_law_491 (by decide) ?_
  refine ww_iadd dL_law_492 ?_
  refine ww_sld (j := i + 2) hX hbG dL_law_493 (nI_add i 2) (by omega) (by omega) ?_
  refine ww_callV (As := [.int (xs (i + 1)), .int (xs (i + 2))]) (st := [.int v]) dL_law_494 kL_67 hV rfl rfl P2 rfl rfl rfl rfl rfl (by show k + 0 + 0 ≤ 600000; omega) (by show n + 0 + 0 ≤ 7302250; omega) ?_
  rintro a2 h2 ⟨rfl, Λ2, F2, O2, R2, sz2, F92, tl2, R92, NL2, rfl, I2⟩
  refine ww_icmp_eq (tgt := 815) dL_law_497 (by decide) (fun _ => ?_) (fun c0 => absurd rfl c0)
  exact ww_widen (by show k + 0 + 0 ≤ k + 9; omega) (by show n + 0 + 0 ≤ n + 656; omega) (K _ _ _ _ _ _ _ _ _ I2)
theorem lc_may (hX : va_X b L xs X.2.2.2.1 X.2.2.2.1.heap) (hbG : b < G.2.2.1) (hL : L ≤ 3072) (I : Inv B Λ F O R sz F9 R9) (hi : i + 6 ≤ L) (hk : k + 9 ≤ 600000) (hn : n + 656 ≤ 7302250) (K : ∀ (Λ : wL) (F : Nat → Nat → Int32) (O : Nat → Nat → Option Nat) (R : Nat → Nat → Nat → Int32) (sz : Nat) (F9 : Nat → Int32) (tl : Int64) (R9 : Nat → Nat → Int32) (NL : Nat → Int64), Inv B Λ F O R sz F9 R9 → WW G (mLN nm) cL_law X Z 815 [some (.ref b), some (.ref B), some (.ref (B + 44)), some (.int (nI i))] [] (hp B Λ F O R sz F9 tl R9 NL) (k + 9) (n + 656)) : WW G (mLN nm) cL_law X Z 502 [some (.ref b), some (.ref B), some (.ref (B + 44)), some (.int (nI i))] [] (hp B Λ F O R sz F9 tl R9 NL) k n := by
  obtain ⟨v, P⟩ := pr_may (G := G) (tl := tl) (NL := NL) I (xs (i + 1)) (xs (i + 2))
  refine ww_aload_n dL_law_502 rfl rfl ?_
  refine ww_aload_n dL_law_503 rfl rfl ?_
  refine ww_iload_n dL_law_504 rfl rfl ?_
  refine ww_iconst (v := 1) dL_law_505 (by decide) ?_
  refine ww_iadd dL_law_506 ?_
  refine ww_sld (j := i + 1) hX hbG dL_law_507 (nI_add i 1) (by omega) (by omega) ?_
  refine ww_aload_n dL_law_508 rfl rfl ?_
  refine ww_iload_n dL_law_509 rfl rfl ?_
  refine ww_iconst (v := 2) dL_law_510 (by decide) ?_
  refine ww_iadd dL_law_511 ?_
  refine ww_sld (j := i + 2) hX hbG dL_law_512 (nI_add i 2) (by omega) (by omega) ?_
  refine ww_callV (As := [.int (xs (i + 1)), .int (xs (i + 2))]) (st := []) dL_law_513 kL_68 (Inv.obj I) rfl rfl P rfl rfl rfl rfl rfl (by show k + 0 ≤ 600000; omega) (by show n + 0 ≤ 7302250; omega) ?_
  rintro a h1 ⟨rfl, ⟨V, hV⟩, P2⟩
  refine ww_aload_n dL_law_516 rfl rfl ?_
  refine ww_aload_n dL_law_517 rfl rfl ?_
  refine ww_iload_n dL_law_518 rfl rfl ?_
  refine ww_iconst (v := 1) dL_law_519 (by decide) ?_
  refine ww_iadd dL_law_520 ?_
  refine ww_sld (j := i + 1) hX hbG dL_law_521 (nI_add i 1) (by omega) (by omega) ?_
  refine ww_aload_n dL_law_522 rfl rfl ?_
  refine ww_iload_n dL_law_523 rfl rfl ?_
  refine ww_iconst (v := 2) dL_law_524 (by decide) ?_
  refine ww_iadd dL_law_525 ?_
  refine ww_sld (j := i + 2) hX hbG dL_law_526 (nI_add i 2) (by omega) (by omega) ?_
  refine ww_callV (As := [.int (xs (i + 1)), .int (xs (i + 2))]) (st := [.int v]) dL_law_527 kL_71 hV rfl rfl P2 rfl rfl rfl rfl rfl (by show k + 0 + 0 ≤ 600000; omega) (by show n + 0 + 0 ≤ 7302250; omega) ?_
  rintro a2 h2 ⟨rfl, Λ2, F2, O2, R2, sz2, F92, tl2, R92, NL2, rfl, I2⟩
  refine ww_icmp_eq (tgt := 815) dL_law_530 (by decide) (fun _ => ?_) (fun c0 => absurd rfl c0)
  exact ww_widen (by show k + 0 + 0 ≤ k + 9; omega) (by show n + 0 + 0 ≤ n + 656; omega) (K _ _ _ _ _ _ _ _ _ I2)
theorem lc_claim (hX : va_X b L xs X.2.2.2.1 X.2.2.2.1.heap) (hbG : b < G.2.2.1) (hL : L ≤ 3072) (I : Inv B Λ F O R sz F9 R9) (hi : i + 6 ≤ L) (hk : k + 9 ≤ 600000) (hn : n + 656 ≤ 7302250) (K : ∀ (Λ : wL) (F : Nat → Nat → Int32) (O : Nat → Nat → Option Nat) (R : Nat → Nat → Nat → Int32) (sz : Nat) (F9 : Nat → Int32) (tl : Int64) (R9 : Nat → Nat → Int32) (NL : Nat → Int64), Inv B Λ F O R sz F9 R9 → WW G (mLN nm) cL_law X Z 815 [some (.ref b), some (.ref B), some (.ref (B + 44)), some (.int (nI i))] [] (hp B Λ F O R sz F9 tl R9 NL) (k + 9) (n + 656)) : WW G (mLN nm) cL_law X Z 535 [some (.ref b), some (.ref B), some (.ref (B + 44)), some (.int (nI i))] [] (hp B Λ F O R sz F9 tl R9 NL) k n := by
  obtain ⟨v, P⟩ := pr_claim (G := G) (tl := tl) (NL := NL) I (xs (i + 1)) (xs (i + 2))
  refine ww_aload_n dL_law_535 rfl rfl ?_
  refine ww_aload_n dL_law_536 rfl rfl ?_
  refine ww_iload_n dL_law_537 rfl rfl ?_
  refine ww_iconst (v := 1) dL_law_538 (by decide) ?_
  refine ww_iadd dL_law_539 ?_
  refine ww_sld (j := i + 1) hX hbG dL_law_540 (nI_add i 1) (by omega) (by omega) ?_
  refine ww_aload_n dL_law_541 rfl rfl ?_
  refine ww_iload_n dL_law_542 rfl rfl ?_
  refine ww_iconst (v := 2) dL_law_543 (by decide) ?_
  refine ww_iadd dL_law_544 ?_
  refine ww_sld (j := i + 2) hX hbG dL_law_545 (nI_add i 2) (by omega) (by omega) ?_
  refine ww_callV (As := [.int (xs (i + 1)), .int (xs (i + 2))]) (st := []) dL_law_546 kL_72 (Inv.obj I) rfl rfl P rfl rfl rfl rfl rfl (by show k + 0 ≤ 600000; omega) (by show n + 0 ≤ 7302250; omega) ?_
  rintro a h1 ⟨rfl, ⟨V, hV⟩, P2⟩
  refine ww_aload_n dL_law_549 rfl rfl ?_
  refine ww_aload_n dL_law_550 rfl rfl ?_
  refine ww_iload_n dL_law_551 rfl rfl ?_
  refine ww_iconst (v := 1) dL_law_552 (by decide) ?_
  refine ww_iadd dL_law_553 ?_
  refine ww_sld (j := i + 1) hX hbG dL_law_554 (nI_add i 1) (by omega) (by omega) ?_
  refine ww_aload_n dL_law_555 rfl rfl ?_
  refine ww_iload_n dL_law_556 rfl rfl ?_
  refine ww_iconst (v := 2) dL_law_557 (by decide) ?_
  refine ww_iadd dL_law_558 ?_
  refine ww_sld (j := i + 2) hX hbG dL_law_559 (nI_add i 2) (by omega) (by omega) ?_
  refine ww_callV (As := [.int (xs (i + 1)), .int (xs (i + 2))]) (st := [.int v]) dL_law_560 kL_75 hV rfl rfl P2 rfl rfl rfl rfl rfl (by show k + 0 + 0 ≤ 600000; omega) (by show n + 0 + 0 ≤ 7302250; omega) ?_
  rintro a2 h2 ⟨rfl, Λ2, F2, O2, R2, sz2, F92, tl2, R92, NL2, rfl, I2⟩
  refine ww_icmp_eq (tgt := 815) dL_law_563 (by decide) (fun _ => ?_) (fun c0 => absurd rfl c0)
  exact ww_widen (by show k + 0 + 0 ≤ k + 9; omega) (by show n + 0 + 0 ≤ n + 656; omega) (K _ _ _ _ _ _ _ _ _ I2)
theorem lc_giveBack (hX : va_X b L xs X.2.2.2.1 X.2.2.2.1.heap) (hbG : b < G.2.2.1) (hL : L ≤ 3072) (I : Inv B Λ F O R sz F9 R9) (hi : i + 6 ≤ L) (hk : k + 9 ≤ 600000) (hn : n + 656 ≤ 7302250) (K : ∀ (Λ : wL) (F : Nat → Nat → Int32) (O : Nat → Nat → Option Nat) (R : Nat → Nat → Nat → Int32) (sz : Nat) (F9 : Nat → Int32) (tl : Int64) (R9 : Nat → Nat → Int32) (NL : Nat → Int64), Inv B Λ F O R sz F9 R9 → WW G (mLN nm) cL_law X Z 815 [some (.ref b), some (.ref B), some (.ref (B + 44)), some (.int (nI i))] [] (hp B Λ F O R sz F9 tl R9 NL) (k + 9) (n + 656)) : WW G (mLN nm) cL_law X Z 568 [some (.ref b), some (.ref B), some (.ref (B + 44)), some (.int (nI i))] [] (hp B Λ F O R sz F9 tl R9 NL) k n := by
  obtain ⟨v, P⟩ := pr_giveBack (G := G) (tl := tl) (NL := NL) I (xs (i + 1))
  refine ww_aload_n dL_law_568 rfl rfl ?_
  refine ww_aload_n dL_law_569 rfl rfl ?_
  refine ww_iload_n dL_law_570 rfl rfl ?_
  refine ww_iconst (v := 1) dL_law_571 (by decide) ?_
  refine ww_iadd dL_law_572 ?_
  refine ww_sld (j := i + 1) hX hbG dL_law_573 (nI_add i 1) (by omega) (by omega) ?_
  refine ww_callV (As := [.int (xs (i + 1))]) (st := []) dL_law_574 kL_76 (Inv.obj I) rfl rfl P rfl rfl rfl rfl rfl (by show k + 0 ≤ 600000; omega) (by show n + 0 ≤ 7302250; omega) ?_
  rintro a h1 ⟨rfl, ⟨V, hV⟩, P2⟩
  refine ww_aload_n dL_law_577 rfl rfl ?_
  refine ww_aload_n dL_law_578 rfl rfl ?_
  refine ww_iload_n dL_law_579 rfl rfl ?_
  refine ww_iconst (v := 1) dL_law_580 (by decide) ?_
  refine ww_iadd dL_law_581 ?_
  refine ww_sld (j := i + 1) hX hbG dL_law_582 (nI_add i 1) (by omega) (by omega) ?_
  refine ww_callV (As := [.int (xs (i + 1))]) (st := [.int v]) dL_law_583 kL_79 hV rfl rfl P2 rfl rfl rfl rfl rfl (by show k + 0 + 0 ≤ 600000; omega) (by show n + 0 + 0 ≤ 7302250; omega) ?_
  rintro a2 h2 ⟨rfl, Λ2, F2, O2, R2, sz2, F92, tl2, R92, NL2, rfl, I2⟩
  refine ww_icmp_eq (tgt := 815) dL_law_586 (by decide) (fun _ => ?_) (fun c0 => absurd rfl c0)
  exact ww_widen (by show k + 0 + 0 ≤ k + 9; omega) (by show n + 0 + 0 ≤ n + 656; omega) (K _ _ _ _ _ _ _ _ _ I2)
theorem lc_done (hX : va_X b L xs X.2.2.2.1 X.2.2.2.1.heap) (hbG : b < G.2.2.1) (hL : L ≤ 3072) (I : Inv B Λ F O R sz F9 R9) (hi : i + 6 ≤ L) (hk : k + 9 ≤ 600000) (hn : n + 656 ≤ 7302250) (K : ∀ (Λ : wL) (F : Nat → Nat → Int32) (O : Nat → Nat → Option Nat) (R : Nat → Nat → Nat → Int32) (sz : Nat) (F9 : Nat → Int32) (tl : Int64) (R9 : Nat → Nat → Int32) (NL : Nat → Int64), Inv B Λ F O R sz F9 R9 → WW G (mLN nm) cL_law X Z 815 [some (.ref b), some (.ref B), some (.ref (B + 44)), some (.int (nI i))] [] (hp B Λ F O R sz F9 tl R9 NL) (k + 9) (n + 656)) : WW G (mLN nm) cL_law X Z 591 [some (.ref b), some (.ref B), some (.ref (B + 44)), some (.int (nI i))] [] (hp B Λ F O R sz F9 tl R9 NL) k n := by
  obtain ⟨v, P⟩ := pr_done (G := G) (tl := tl) (NL := NL) I (xs (i + 1)) (xs (i + 2)) (xs (i + 3))
  refine ww_aload_n dL_law_591 rfl rfl ?_
  refine ww_aload_n dL_law_592 rfl rfl ?_
  refine ww_iload_n dL_law_593 rfl rfl ?_
  refine ww_iconst (v := 1) dL_law_594 (by decide) ?_
  refine ww_iadd dL_law_595 ?_
  refine ww_sld (j := i + 1) hX hbG dL_law_596 (nI_add i 1) (by omega) (by omega) ?_
  refine ww_aload_n dL_law_597 rfl rfl ?_
  refine ww_iload_n dL_law_598 rfl rfl ?_
  refine ww_iconst (v := 2) dL_law_599 (by decide) ?_
  refine ww_iadd dL_law_600 ?_
  refine ww_sld (j := i + 2) hX hbG dL_law_601 (nI_add i 2) (by omega) (by omega) ?_
  refine ww_aload_n dL_law_602 rfl rfl ?_
  refine ww_iload_n dL_law_603 rfl rfl ?_
  refine ww_iconst (v := 3) dL_law_604 (by decide) ?_
  refine ww_iadd dL_law_605 ?_
  refine ww_sld (j := i + 3) hX hbG dL_law_606 (nI_add i 3) (by omega) (by omega) ?_
  refine ww_callV (As := [.int (xs (i + 1)), .int (xs (i + 2)), .int (xs (i + 3))]) (st := []) dL_law_607 kL_80 (Inv.obj I) rfl rfl P rfl rfl rfl rfl rfl (by show k + 0 ≤ 600000; omega) (by show n + 0 ≤ 7302250; omega) ?_
  rintro a h1 ⟨rfl, ⟨V, hV⟩, P2⟩
  refine ww_aload_n dL_law_610 rfl rfl ?_
  refine ww_aload_n dL_law_611 rfl rfl ?_
  refine ww_iload_n dL_law_612 rfl rfl ?_
  refine ww_iconst (v := 1) dL_law_613 (by decide) ?_
  refine ww_iadd dL_law_614 ?_
  refine ww_sld (j := i + 1) hX hbG dL_law_615 (nI_add i 1) (by omega) (by omega) ?_
  refine ww_aload_n dL_law_616 rfl rfl ?_
  refine ww_iload_n dL_law_617 rfl rfl ?_
  refine ww_iconst (v := 2) dL_law_618 (by decide) ?_
  refine ww_iadd dL_law_619 ?_
  refine ww_sld (j := i + 2) hX hbG dL_law_620 (nI_add i 2) (by omega) (by omega) ?_
  refine ww_aload_n dL_law_621 rfl rfl ?_
  refine ww_iload_n dL_law_622 rfl rfl ?_
  refine ww_iconst (v := 3) dL_law_623 (by decide) ?_
  refine ww_iadd dL_law_624 ?_
  refine ww_sld (j := i + 3) hX hbG dL_law_625 (nI_add i 3) (by omega) (by omega) ?_
  refine ww_callV (As := [.int (xs (i + 1)), .int (xs (i + 2)), .int (xs (i + 3))]) (st := [.int v]) dL_law_626 kL_84 hV rfl rfl P2 rfl rfl rfl rfl rfl (by show k + 0 + 0 ≤ 600000; omega) (by show n + 0 + 0 ≤ 7302250; omega) ?_
  rintro a2 h2 ⟨rfl, Λ2, F2, O2, R2, sz2, F92, tl2, R92, NL2, rfl, I2⟩
  refine ww_icmp_eq (tgt := 815) dL_law_629 (by decide) (fun _ => ?_) (fun c0 => absurd rfl c0)
  exact ww_widen (by show k + 0 + 0 ≤ k + 9; omega) (by show n + 0 + 0 ≤ n + 656; omega) (K _ _ _ _ _ _ _ _ _ I2)
theorem lc_list (hX : va_X b L xs X.2.2.2.1 X.2.2.2.1.heap) (hbG : b < G.2.2.1) (hL : L ≤ 3072) (I : Inv B Λ F O R sz F9 R9) (hi : i + 6 ≤ L) (hk : k + 9 ≤ 600000) (hn : n + 656 ≤ 7302250) (K : ∀ (Λ : wL) (F : Nat → Nat → Int32) (O : Nat → Nat → Option Nat) (R : Nat → Nat → Nat → Int32) (sz : Nat) (F9 : Nat → Int32) (tl : Int64) (R9 : Nat → Nat → Int32) (NL : Nat → Int64), Inv B Λ F O R sz F9 R9 → WW G (mLN nm) cL_law X Z 815 [some (.ref b), some (.ref B), some (.ref (B + 44)), some (.int (nI i))] [] (hp B Λ F O R sz F9 tl R9 NL) (k + 9) (n + 656)) : WW G (mLN nm) cL_law X Z 634 [some (.ref b), some (.ref B), some (.ref (B + 44)), some (.int (nI i))] [] (hp B Λ F O R sz F9 tl R9 NL) k n := by
  obtain ⟨v, P⟩ := pr_list (G := G) (tl := tl) (NL := NL) I (xs (i + 1))
  refine ww_aload_n dL_law_634 rfl rfl ?_
  refine ww_aload_n dL_law_635 rfl rfl ?_
  refine ww_iload_n dL_law_636 rfl rfl ?_
  refine ww_iconst (v := 1) dL_law_637 (by decide) ?_
  refine ww_iadd dL_law_638 ?_
  refine ww_sld (j := i + 1) hX hbG dL_law_639 (nI_add i 1) (by omega) (by omega) ?_
  refine ww_callV (As := [.int (xs (i + 1))]) (st := []) dL_law_640 kL_85 (Inv.obj I) rfl rfl P rfl rfl rfl rfl rfl (by show k + 0 ≤ 600000; omega) (by show n + 0 ≤ 7302250; omega) ?_
  rintro a h1 ⟨rfl, ⟨V, hV⟩, P2⟩
  refine ww_aload_n dL_law_643 rfl rfl ?_
  refine ww_aload_n dL_law_644 rfl rfl ?_
  refine ww_iload_n dL_law_645 rfl rfl ?_
  refine ww_iconst (v := 1) dL_law_646 (by decide) ?_
  refine ww_iadd dL_law_647 ?_
  refine ww_sld (j := i + 1) hX hbG dL_law_648 (nI_add i 1) (by omega) (by omega) ?_
  refine ww_callV (As := [.int (xs (i + 1))]) (st := [.int v]) dL_law_649 kL_88 hV rfl rfl P2 rfl rfl rfl rfl rfl (by show k + 0 + 0 ≤ 600000; omega) (by show n + 0 + 0 ≤ 7302250; omega) ?_
  rintro a2 h2 ⟨rfl, Λ2, F2, O2, R2, sz2, F92, tl2, R92, NL2, rfl, I2⟩
  refine ww_icmp_eq (tgt := 815) dL_law_652 (by decide) (fun _ => ?_) (fun c0 => absurd rfl c0)
  exact ww_widen (by show k + 0 + 0 ≤ k + 9; omega) (by show n + 0 + 0 ≤ n + 656; omega) (K _ _ _ _ _ _ _ _ _ I2)
theorem lc_listed (hX : va_X b L xs X.2.2.2.1 X.2.2.2.1.heap) (hbG : b < G.2.2.1) (hL : L ≤ 3072) (I : Inv B Λ F O R sz F9 R9) (hi : i + 6 ≤ L) (hk : k + 9 ≤ 600000) (hn : n + 656 ≤ 7302250) (K : ∀ (Λ : wL) (F : Nat → Nat → Int32) (O : Nat → Nat → Option Nat) (R : Nat → Nat → Nat → Int32) (sz : Nat) (F9 : Nat → Int32) (tl : Int64) (R9 : Nat → Nat → Int32) (NL : Nat → Int64), Inv B Λ F O R sz F9 R9 → WW G (mLN nm) cL_law X Z 815 [some (.ref b), some (.ref B), some (.ref (B + 44)), some (.int (nI i))] [] (hp B Λ F O R sz F9 tl R9 NL) (k + 9) (n + 656)) : WW G (mLN nm) cL_law X Z 657 [some (.ref b), some (.ref B), some (.ref (B + 44)), some (.int (nI i))] [] (hp B Λ F O R sz F9 tl R9 NL) k n := by
  obtain ⟨v, P⟩ := pr_listed (G := G) (tl := tl) (NL := NL) I (xs (i + 1)) (xs (i + 2))
  refine ww_aload_n dL_law_657 rfl rfl ?_
  refine ww_aload_n dL_law_658 rfl rfl ?_
  refine ww_iload_n dL_law_659 rfl rfl ?_
  refine ww_iconst (v := 1) dL_law_660 (by decide) ?_
  refine ww_iadd dL_law_661 ?_
  refine ww_sld (j := i + 1) hX hbG dL_law_662 (nI_add i 1) (by omega) (by omega) ?_
  refine ww_aload_n dL_law_663 rfl rfl ?_
  refine ww_iload_n dL_law_664 rfl rfl ?_
  refine ww_iconst (v := 2) dL_law_665 (by decide) ?_
  refine ww_iadd dL_law_666 ?_
  refine ww_sld (j := i + 2) hX hbG dL_law_667 (nI_add i 2) (by omega) (by omega) ?_
  refine ww_callV (As := [.int (xs (i + 1)), .int (xs (i + 2))]) (st := []) dL_law_668 kL_89 (Inv.obj I) rfl rfl P rfl rfl rfl rfl rfl (by show k + 0 ≤ 600000; omega) (by show n + 0 ≤ 7302250; omega) ?_
  rintro a h1 ⟨rfl, ⟨V, hV⟩, P2⟩
  refine ww_aload_n dL_law_671 rfl rfl ?_
  refine ww_aload_n dL_law_672 rfl rfl ?_
  refine ww_iload_n dL_law_673 rfl rfl ?_
  refine ww_iconst (v := 1) dL_law_674 (by decide) ?_
  refine ww_iadd dL_law_675 ?_
  refine ww_sld (j := i + 1) hX hbG dL_law_676 (nI_add i 1) (by omega) (by omega) ?_
  refine ww_aload_n dL_law_677 rfl rfl ?_
  refine ww_iload_n dL_law_678 rfl rfl ?_
  refine ww_iconst (v := 2) dL_law_679 (by decide) ?_
  refine ww_iadd dL_law_680 ?_
  refine ww_sld (j := i + 2) hX hbG dL_law_681 (nI_add i 2) (by omega) (by omega) ?_
  refine ww_callV (As := [.int (xs (i + 1)), .int (xs (i + 2))]) (st := [.int v]) dL_law_682 kL_92 hV rfl rfl P2 rfl rfl rfl rfl rfl (by show k + 0 + 0 ≤ 600000; omega) (by show n + 0 + 0 ≤ 7302250; omega) ?_
  rintro a2 h2 ⟨rfl, Λ2, F2, O2, R2, sz2, F92, tl2, R92, NL2, rfl, I2⟩
  refine ww_icmp_eq (tgt := 815) dL_law_685 (by decide) (fun _ => ?_) (fun c0 => absurd rfl c0)
  exact ww_widen (by show k + 0 + 0 ≤ k + 9; omega) (by show n + 0 + 0 ≤ n + 656; omega) (K _ _ _ _ _ _ _ _ _ I2)
theorem lc_offer (hX : va_X b L xs X.2.2.2.1 X.2.2.2.1.heap) (hbG : b < G.2.2.1) (hL : L ≤ 3072) (I : Inv B Λ F O R sz F9 R9) (hi : i + 6 ≤ L) (hk : k + 9 ≤ 600000) (hn : n + 656 ≤ 7302250) (K : ∀ (Λ : wL) (F : Nat → Nat → Int32) (O : Nat → Nat → Option Nat) (R : Nat → Nat → Nat → Int32) (sz : Nat) (F9 : Nat → Int32) (tl : Int64) (R9 : Nat → Nat → Int32) (NL : Nat → Int64), Inv B Λ F O R sz F9 R9 → WW G (mLN nm) cL_law X Z 815 [some (.ref b), some (.ref B), some (.ref (B + 44)), some (.int (nI i))] [] (hp B Λ F O R sz F9 tl R9 NL) (k + 9) (n + 656)) : WW G (mLN nm) cL_law X Z 690 [some (.ref b), some (.ref B), some (.ref (B + 44)), some (.int (nI i))] [] (hp B Λ F O R sz F9 tl R9 NL) k n := by
  obtain ⟨v, P⟩ := pr_offer (G := G) (tl := tl) (NL := NL) I (xs (i + 1))
  refine ww_aload_n dL_law_690 rfl rfl ?_
  refine ww_aload_n dL_law_691 rfl rfl ?_
  refine ww_iload_n dL_law_692 rfl rfl ?_
  refine ww_iconst (v := 1) dL_law_693 (by decide) ?_
  refine ww_iadd dL_law_694 ?_
  refine ww_sld (j := i + 1) hX hbG dL_law_695 (nI_add i 1) (by omega) (by omega) ?_
  refine ww_callV (As := [.int (xs (i + 1))]) (st := []) dL_law_696 kL_93 (Inv.obj I) rfl rfl P rfl rfl rfl rfl rfl (by show k + 0 ≤ 600000; omega) (by show n + 0 ≤ 7302250; omega) ?_
  rintro a h1 ⟨rfl, ⟨V, hV⟩, P2⟩
  refine ww_aload_n dL_law_699 rfl rfl ?_
  refine ww_aload_n dL_law_700 rfl rfl ?_
  refine ww_iload_n dL_law_701 rfl rfl ?_
  refine ww_iconst (v := 1) dL_law_702 (by decide) ?_
  refine ww_iadd dL_law_703 ?_
  refine ww_sld (j := i + 1) hX hbG dL_law_704 (nI_add i 1) (by omega) (by omega) ?_
  refine ww_callV (As := [.int (xs (i + 1))]) (st := [.int v]) dL_law_705 kL_96 hV rfl rfl P2 rfl rfl rfl rfl rfl (by show k + 0 + 0 ≤ 600000; omega) (by show n + 0 + 0 ≤ 7302250; omega) ?_
  rintro a2 h2 ⟨rfl, Λ2, F2, O2, R2, sz2, F92, tl2, R92, NL2, rfl, I2⟩
  refine ww_icmp_eq (tgt := 815) dL_law_708 (by decide) (fun _ => ?_) (fun c0 => absurd rfl c0)
  exact ww_widen (by show k + 0 + 0 ≤ k + 9; omega) (by show n + 0 + 0 ≤ n + 656; omega) (K _ _ _ _ _ _ _ _ _ I2)
theorem lc_late (hX : va_X b L xs X.2.2.2.1 X.2.2.2.1.heap) (hbG : b < G.2.2.1) (hL : L ≤ 3072) (I : Inv B Λ F O R sz F9 R9) (hi : i + 6 ≤ L) (hk : k + 9 ≤ 600000) (hn : n + 656 ≤ 7302250) (K : ∀ (Λ : wL) (F : Nat → Nat → Int32) (O : Nat → Nat → Option Nat) (R : Nat → Nat → Nat → Int32) (sz : Nat) (F9 : Nat → Int32) (tl : Int64) (R9 : Nat → Nat → Int32) (NL : Nat → Int64), Inv B Λ F O R sz F9 R9 → WW G (mLN nm) cL_law X Z 815 [some (.ref b), some (.ref B), some (.ref (B + 44)), some (.int (nI i))] [] (hp B Λ F O R sz F9 tl R9 NL) (k + 9) (n + 656)) : WW G (mLN nm) cL_law X Z 713 [some (.ref b), some (.ref B), some (.ref (B + 44)), some (.int (nI i))] [] (hp B Λ F O R sz F9 tl R9 NL) k n := by
  obtain ⟨v, P⟩ := pr_late (G := G) (tl := tl) (NL := NL) I 
  refine ww_aload_n dL_law_713 rfl rfl ?_
  refine ww_callV (As := []) (st := []) dL_law_714 kL_97 (Inv.obj I) rfl rfl P rfl rfl rfl rfl rfl (by show k + 0 ≤ 600000; omega) (by show n + 0 ≤ 7302250; omega) ?_
  rintro a h1 ⟨rfl, ⟨V, hV⟩, P2⟩
  refine ww_aload_n dL_law_717 rfl rfl ?_
  refine ww_callV (As := []) (st := [.int v]) dL_law_718 kL_100 hV rfl rfl P2 rfl rfl rfl rfl rfl (by show k + 0 + 0 ≤ 600000; omega) (by show n + 0 + 0 ≤ 7302250; omega) ?_
  rintro a2 h2 ⟨rfl, Λ2, F2, O2, R2, sz2, F92, tl2, R92, NL2, rfl, I2⟩
  refine ww_icmp_eq (tgt := 815) dL_law_721 (by decide) (fun _ => ?_) (fun c0 => absurd rfl c0)
  exact ww_widen (by show k + 0 + 0 ≤ k + 9; omega) (by show n + 0 + 0 ≤ n + 656; omega) (K _ _ _ _ _ _ _ _ _ I2)
theorem lc_personOf (hX : va_X b L xs X.2.2.2.1 X.2.2.2.1.heap) (hbG : b < G.2.2.1) (hL : L ≤ 3072) (I : Inv B Λ F O R sz F9 R9) (hi : i + 6 ≤ L) (hk : k + 9 ≤ 600000) (hn : n + 656 ≤ 7302250) (K : ∀ (Λ : wL) (F : Nat → Nat → Int32) (O : Nat → Nat → Option Nat) (R : Nat → Nat → Nat → Int32) (sz : Nat) (F9 : Nat → Int32) (tl : Int64) (R9 : Nat → Nat → Int32) (NL : Nat → Int64), Inv B Λ F O R sz F9 R9 → WW G (mLN nm) cL_law X Z 815 [some (.ref b), some (.ref B), some (.ref (B + 44)), some (.int (nI i))] [] (hp B Λ F O R sz F9 tl R9 NL) (k + 9) (n + 656)) : WW G (mLN nm) cL_law X Z 726 [some (.ref b), some (.ref B), some (.ref (B + 44)), some (.int (nI i))] [] (hp B Λ F O R sz F9 tl R9 NL) k n := by
  obtain ⟨v, P⟩ := pr_personOf (G := G) (tl := tl) (NL := NL) I (xs (i + 1)) (xs (i + 2))
  refine ww_aload_n dL_law_726 rfl rfl ?_
  refine ww_aload_n dL_law_727 rfl rfl ?_
  refine ww_iload_n dL_law_728 rfl rfl ?_
  refine ww_iconst (v := 1) dL_law_729 (by decide) ?_
  refine ww_iadd dL_law_730 ?_
  refine ww_sld (j := i + 1) hX hbG dL_law_731 (nI_add i 1) (by omega) (by omega) ?_
  refine ww_aload_n dL_law_732 rfl rfl ?_
  refine ww_iload_n dL_law_733 rfl rfl ?_
  refine ww_iconst (v := 2) dL_law_734 (by decide) ?_
  refine ww_iadd dL_law_735 ?_
  refine ww_sld (j := i + 2) hX hbG dL_law_736 (nI_add i 2) (by omega) (by omega) ?_
  refine ww_callV (As := [.int (xs (i + 1)), .int (xs (i + 2))]) (st := []) dL_law_737 kL_101 (Inv.obj I) rfl rfl P rfl rfl rfl rfl rfl (by show k + 0 ≤ 600000; omega) (by show n + 0 ≤ 7302250; omega) ?_
  rintro a h1 ⟨rfl, ⟨V, hV⟩, P2⟩
  refine ww_aload_n dL_law_740 rfl rfl ?_
  refine ww_aload_n dL_law_741 rfl rfl ?_
  refine ww_iload_n dL_law_742 rfl rfl ?_
  refine ww_iconst (v := 1) dL_law_743 (by decide) ?_
  refine ww_iadd dL_law_744 ?_
  refine ww_sld (j := i + 1) hX hbG dL_law_745 (nI_add i 1) (by omega) (by omega) ?_
  refine ww_aload_n dL_law_746 rfl rfl ?_
  refine ww_iload_n dL_law_747 rfl rfl ?_
  refine ww_iconst (v := 2) dL_law_748 (by decide) ?_
  refine ww_iadd dL_law_749 ?_
  refine ww_sld (j := i + 2) hX hbG dL_law_750 (nI_add i 2) (by omega) (by omega) ?_
  refine ww_callV (As := [.int (xs (i + 1)), .int (xs (i + 2))]) (st := [.int v]) dL_law_751 kL_104 hV rfl rfl P2 rfl rfl rfl rfl rfl (by show k + 0 + 0 ≤ 600000; omega) (by show n + 0 + 0 ≤ 7302250; omega) ?_
  rintro a2 h2 ⟨rfl, Λ2, F2, O2, R2, sz2, F92, tl2, R92, NL2, rfl, I2⟩
  refine ww_icmp_eq (tgt := 815) dL_law_754 (by decide) (fun _ => ?_) (fun c0 => absurd rfl c0)
  exact ww_widen (by show k + 0 + 0 ≤ k + 9; omega) (by show n + 0 + 0 ≤ n + 656; omega) (K _ _ _ _ _ _ _ _ _ I2)
theorem lc_due (hX : va_X b L xs X.2.2.2.1 X.2.2.2.1.heap) (hbG : b < G.2.2.1) (hL : L ≤ 3072) (I : Inv B Λ F O R sz F9 R9) (hi : i + 6 ≤ L) (hk : k + 9 ≤ 600000) (hn : n + 656 ≤ 7302250) (K : ∀ (Λ : wL) (F : Nat → Nat → Int32) (O : Nat → Nat → Option Nat) (R : Nat → Nat → Nat → Int32) (sz : Nat) (F9 : Nat → Int32) (tl : Int64) (R9 : Nat → Nat → Int32) (NL : Nat → Int64), Inv B Λ F O R sz F9 R9 → WW G (mLN nm) cL_law X Z 815 [some (.ref b), some (.ref B), some (.ref (B + 44)), some (.int (nI i))] [] (hp B Λ F O R sz F9 tl R9 NL) (k + 9) (n + 656)) : WW G (mLN nm) cL_law X Z 759 [some (.ref b), some (.ref B), some (.ref (B + 44)), some (.int (nI i))] [] (hp B Λ F O R sz F9 tl R9 NL) k n := by
  obtain ⟨v, P⟩ := pr_due (G := G) (tl := tl) (NL := NL) I (xs (i + 1)) (xs (i + 2))
  refine ww_aload_n dL_law_759 rfl rfl ?_
  refine ww_aload_n dL_law_760 rfl rfl ?_
  refine ww_iload_n dL_law_761 rfl rfl ?_
  refine ww_iconst (v := 1) dL_law_762 (by decide) ?_
  refine ww_iadd dL_law_763 ?_
  refine ww_sld (j := i + 1) hX hbG dL_law_764 (nI_add i 1) (by omega) (by omega) ?_
  refine ww_aload_n dL_law_765 rfl rfl ?_
  refine ww_iload_n dL_law_766 rfl rfl ?_
  refine ww_iconst (v := 2) dL_law_767 (by decide) ?_
  refine ww_iadd dL_law_768 ?_
  refine ww_sld (j := i + 2) hX hbG dL_law_769 (nI_add i 2) (by omega) (by omega) ?_
  refine ww_callV (As := [.int (xs (i + 1)), .int (xs (i + 2))]) (st := []) dL_law_770 kL_105 (Inv.obj I) rfl rfl P rfl rfl rfl rfl rfl (by show k + 0 ≤ 600000; omega) (by show n + 0 ≤ 7302250; omega) ?_
  rintro a h1 ⟨rfl, ⟨V, hV⟩, P2⟩
  refine ww_aload_n dL_law_773 rfl rfl ?_
  refine ww_aload_n dL_law_774 rfl rfl ?_
  refine ww_iload_n dL_law_775 rfl rfl ?_
  refine ww_iconst (v := 1) dL_law_776 (by decide) ?_
  refine ww_iadd dL_law_777 ?_
  refine ww_sld (j := i + 1) hX hbG dL_law_778 (nI_add i 1) (by omega) (by omega) ?_
  refine ww_aload_n dL_law_779 rfl rfl ?_
  refine ww_iload_n dL_law_780 rfl rfl ?_
  refine ww_iconst (v := 2) dL_law_781 (by decide) ?_
  refine ww_iadd dL_law_782 ?_
  refine ww_sld (j := i + 2) hX hbG dL_law_783 (nI_add i 2) (by omega) (by omega) ?_
  refine ww_callV (As := [.int (xs (i + 1)), .int (xs (i + 2))]) (st := [.int v]) dL_law_784 kL_108 hV rfl rfl P2 rfl rfl rfl rfl rfl (by show k + 0 + 0 ≤ 600000; omega) (by show n + 0 + 0 ≤ 7302250; omega) ?_
  rintro a2 h2 ⟨rfl, Λ2, F2, O2, R2, sz2, F92, tl2, R92, NL2, rfl, I2⟩
  refine ww_icmp_eq (tgt := 815) dL_law_787 (by decide) (fun _ => ?_) (fun c0 => absurd rfl c0)
  exact ww_widen (by show k + 0 + 0 ≤ k + 9; omega) (by show n + 0 + 0 ≤ n + 656; omega) (K _ _ _ _ _ _ _ _ _ I2)
theorem lc_about (hX : va_X b L xs X.2.2.2.1 X.2.2.2.1.heap) (hbG : b < G.2.2.1) (hL : L ≤ 3072) (I : Inv B Λ F O R sz F9 R9) (hi : i + 6 ≤ L) (hk : k + 9 ≤ 600000) (hn : n + 656 ≤ 7302250) (K : ∀ (Λ : wL) (F : Nat → Nat → Int32) (O : Nat → Nat → Option Nat) (R : Nat → Nat → Nat → Int32) (sz : Nat) (F9 : Nat → Int32) (tl : Int64) (R9 : Nat → Nat → Int32) (NL : Nat → Int64), Inv B Λ F O R sz F9 R9 → WW G (mLN nm) cL_law X Z 815 [some (.ref b), some (.ref B), some (.ref (B + 44)), some (.int (nI i))] [] (hp B Λ F O R sz F9 tl R9 NL) (k + 9) (n + 656)) : WW G (mLN nm) cL_law X Z 792 [some (.ref b), some (.ref B), some (.ref (B + 44)), some (.int (nI i))] [] (hp B Λ F O R sz F9 tl R9 NL) k n := by
  obtain ⟨v, P⟩ := pr_about (G := G) (tl := tl) (NL := NL) I (xs (i + 1))
  refine ww_aload_n dL_law_792 rfl rfl ?_
  refine ww_aload_n dL_law_793 rfl rfl ?_
  refine ww_iload_n dL_law_794 rfl rfl ?_
  refine ww_iconst (v := 1) dL_law_795 (by decide) ?_
  refine ww_iadd dL_law_796 ?_
  refine ww_sld (j := i + 1) hX hbG dL_law_797 (nI_add i 1) (by omega) (by omega) ?_
  refine ww_callV (As := [.int (xs (i + 1))]) (st := []) dL_law_798 kL_109 (Inv.obj I) rfl rfl P rfl rfl rfl rfl rfl (by show k + 0 ≤ 600000; omega) (by show n + 0 ≤ 7302250; omega) ?_
  rintro a h1 ⟨rfl, ⟨V, hV⟩, P2⟩
  refine ww_aload_n dL_law_801 rfl rfl ?_
  refine ww_aload_n dL_law_802 rfl rfl ?_
  refine ww_iload_n dL_law_803 rfl rfl ?_
  refine ww_iconst (v := 1) dL_law_804 (by decide) ?_
  refine ww_iadd dL_law_805 ?_
  refine ww_sld (j := i + 1) hX hbG dL_law_806 (nI_add i 1) (by omega) (by omega) ?_
  refine ww_callV (As := [.int (xs (i + 1))]) (st := [.int v]) dL_law_807 kL_112 hV rfl rfl P2 rfl rfl rfl rfl rfl (by show k + 0 + 0 ≤ 600000; omega) (by show n + 0 + 0 ≤ 7302250; omega) ?_
  rintro a2 h2 ⟨rfl, Λ2, F2, O2, R2, sz2, F92, tl2, R92, NL2, rfl, I2⟩
  refine ww_icmp_eq (tgt := 815) dL_law_810 (by decide) (fun _ => ?_) (fun c0 => absurd rfl c0)
  exact ww_widen (by show k + 0 + 0 ≤ k + 9; omega) (by show n + 0 + 0 ≤ n + 656; omega) (K _ _ _ _ _ _ _ _ _ I2)
end LC
set_option maxHeartbeats 4000000 in
theorem law_loop {G : wG} {nm : String} {X : wX} {Z : State → Prop} {b L B : Nat} {xs : Nat → Int32} (hX : va_X b L xs X.2.2.2.1 X.2.2.2.1.heap) (hbG : b < G.2.2.1) (hL : L ≤ 3072) (hEnd : ∀ (lv : List (Option Value)) (h : wH) (k n : Nat), k ≤ 600000 → n ≤ 7302250 → WW G (mLN nm) cL_law X Z 822 lv [.int 1] h k n) : ∀ (f j : Nat) (Λ : wL) (F : Nat → Nat → Int32) (O : Nat → Nat → Option Nat) (R : Nat → Nat → Nat → Int32) (sz : Nat) (F9 : Nat → Int32) (tl : Int64) (R9 : Nat → Nat → Int32) (NL : Nat → Int64), 520 - j < f → j ≤ 512 → Inv B Λ F O R sz F9 R9 → WW G (mLN nm) cL_law X Z 18 [some (.ref b), some (.ref B), some (.ref (B + 44)), some (.int (nI (6 * j)))] [] (hp B Λ F O R sz F9 tl R9 NL) (94 + 9 * j) (15021 + 656 * j) := by
  intro f
  induction f with
  | zero => intro j Λ F O R sz F9 tl R9 NL h1; omega
  | succ f ih =>
    intro j Λ F O R sz F9 tl R9 NL h1 h2 I
    refine ww_iload_n dL_law_18 rfl rfl ?_
    refine ww_aload_n dL_law_19 rfl rfl ?_
    refine ww_slen hX hbG dL_law_20 ?_
    refine ww_bipush (v := 6) dL_law_21 (by decide) ?_
    refine ww_isub dL_law_23 ?_
    have hlt : (nI L - 6 < nI (6 * j)) ↔ L < 6 * j + 6 := by
      have e := pk_sub_toInt (a := L) (b := 6) (by omega) (by decide)
      have e2 : (nI L - 6).toInt = (L : Int) - 6 := e
      rw [Int32.lt_iff_toInt_lt, e2, nI_toInt (by omega)]
      omega
    refine ww_icmp_gt (tgt := 821) dL_law_24 (by decide) (fun c24 => ?_) (fun c24 => ?_)
    · refine ww_iconst (v := 1) dL_law_821 (by decide) ?_
      exact hEnd _ _ _ _ (by omega) (by omega)
    · have hi : 6 * j + 6 ≤ L := by
        rcases Nat.lt_or_ge L (6 * j + 6) with q | q
        · exact absurd (hlt.mpr q) c24
        · exact q
      have K : ∀ (Λ : wL) (F : Nat → Nat → Int32) (O : Nat → Nat → Option Nat) (R : Nat → Nat → Nat → Int32) (sz : Nat) (F9 : Nat → Int32) (tl : Int64) (R9 : Nat → Nat → Int32) (NL : Nat → Int64), Inv B Λ F O R sz F9 R9 → WW G (mLN nm) cL_law X Z 815 [some (.ref b), some (.ref B), some (.ref (B + 44)), some (.int (nI (6 * j)))] [] (hp B Λ F O R sz F9 tl R9 NL) (94 + 9 * j + 9) (15021 + 656 * j + 656) := by
        intro Λ F O R sz F9 tl R9 NL I
        refine ww_iinc (v := nI (6 * (j + 1))) dL_law_815 rfl (nI_add (6 * j) 6) rfl rfl ?_
        refine ww_goto (tgt := 18) dL_law_818 (by decide) ?_
        by_cases hj : j + 1 ≤ 512
        · have := ih (j + 1) Λ F O R sz F9 tl R9 NL (by omega) hj I
          rw [show 94 + 9 * (j + 1) = 94 + 9 * j + 9 by omega, show 15021 + 656 * (j + 1) = 15021 + 656 * j + 656 by omega] at this
          exact this
        · exact absurd hj (by omega)
      have hk : 94 + 9 * j + 9 ≤ 600000 := by omega
      have hn : 15021 + 656 * j + 656 ≤ 7302250 := by omega
      refine ww_aload_n dL_law_27 rfl rfl ?_
      refine ww_iload_n dL_law_28 rfl rfl ?_
      refine ww_sld (j := 6 * j) hX hbG dL_law_29 rfl (by omega) (by omega) ?_
      refine ww_bipush (v := 31) dL_law_30 (by decide) ?_
      refine ww_iand dL_law_32 ?_
      refine ww_table [140, 203, 226, 239, 262, 295, 328, 377, 400, 423, 436, 469, 502, 535, 568, 591, 634, 657, 690, 713, 726, 759, 792] 815 dL_law_33 (by decide) (by decide) (by decide) (fun c t hc hx => ?_) (fun _ => ww_widen (by omega) (by omega) (K _ _ _ _ _ _ _ _ _ I))
      match c, hc with
      | 0, hc => cases hc; exact lc_feed hX hbG hL I hi hk hn K
      | 1, hc => cases hc; exact lc_end hX hbG hL I hi hk hn K
      | 2, hc => cases hc; exact lc_business hX hbG hL I hi hk hn K
      | 3, hc => cases hc; exact lc_fault hX hbG hL I hi hk hn K
      | 4, hc => cases hc; exact lc_person hX hbG hL I hi hk hn K
      | 5, hc => cases hc; exact lc_deputy hX hbG hL I hi hk hn K
      | 6, hc => cases hc; exact lc_away hX hbG hL I hi hk hn K
      | 7, hc => cases hc; exact lc_stands hX hbG hL I hi hk hn K
      | 8, hc => cases hc; exact lc_hour hX hbG hL I hi hk hn K
      | 9, hc => cases hc; exact lc_run hX hbG hL I hi hk hn K
      | 10, hc => cases hc; exact lc_runOf hX hbG hL I hi hk hn K
      | 11, hc => cases hc; exact lc_task hX hbG hL I hi hk hn K
      | 12, hc => cases hc; exact lc_may hX hbG hL I hi hk hn K
      | 13, hc => cases hc; exact lc_claim hX hbG hL I hi hk hn K
      | 14, hc => cases hc; exact lc_giveBack hX hbG hL I hi hk hn K
      | 15, hc => cases hc; exact lc_done hX hbG hL I hi hk hn K
      | 16, hc => cases hc; exact lc_list hX hbG hL I hi hk hn K
      | 17, hc => cases hc; exact lc_listed hX hbG hL I hi hk hn K
      | 18, hc => cases hc; exact lc_offer hX hbG hL I hi hk hn K
      | 19, hc => cases hc; exact lc_late hX hbG hL I hi hk hn K
      | 20, hc => cases hc; exact lc_personOf hX hbG hL I hi hk hn K
      | 21, hc => cases hc; exact lc_due hX hbG hL I hi hk hn K
      | 22, hc => cases hc; exact lc_about hX hbG hL I hi hk hn K
      | c + 23, hc => simp at hc
