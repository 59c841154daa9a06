def pSet (b : Nat → Int32) (L p : Nat) : (Nat × Nat) ⊕ (Nat × Nat × Nat) := sb (fd b L p) fun f => sb (nm b L 0 99 f.2) fun n => sb (nd b L 13 n.2) fun q => .inr (f.1, n.1, q)
def pTst (b : Nat → Int32) (L p : Nat) : (Nat × Nat) ⊕ (Nat × Nat × Nat) := sb (fd b L p) fun f => sb (nd b L 14 f.2) fun q => sb (nm b L 0 99 q) fun n => sb (nd b L 11 n.2) fun z => .inr (f.1, n.1, z)
section M14
variable {G : wG} {m : Nat} {F : Nat → Int32} {tl : Int64} {R : Nat → Nat → Int32} {NL : Nat → Int64} {h0 : Nat → Option wE} {sz : Nat}

set_option maxRecDepth 40000 in
set_option maxHeartbeats 4000000 in
theorem L9_stSet {x : Int32} {b : Nat → Int32} {L p k d : Nat} {X : wX} {Q : Option Value → wH → Prop} (hb : R 0 = b) (hL : x = nI L) (hL2 : L ≤ 300) (hp : p ≤ L) (T : tokS b L p F tl) (hw : F 7 = 0) (hk : F 14 = nI k) (hk200 : k < 200) 
    (hqF : ∀ (F2 : Nat → Int32) (tl2 : Int64) (R2 : Nat → Nat → Int32) (NL2 : Nat → Int64) (e : Nat × Nat), KF F2 F → KR R2 R → pSet b L (ad b L p) = .inl e → F2 7 = nI e.1 → F2 8 = nI e.2 → Q none (mh m F2 tl2 R2 NL2 h0, sz))
    (hqS : ∀ (F2 : Nat → Int32) (tl2 : Int64) (r : Nat × Nat × Nat), KF F2 F → pSet b L (ad b L p) = .inr r → F2 7 = 0 ∧ F2 8 = F 8 ∧ tokS b L r.2.2 F2 tl2 ∧ r.2.2 ≤ L ∧ F2 11 = F 11 + 1 ∧ F2 12 = F 12 ∧ F2 13 = F 13 ∧ F2 14 = nI (k + 1) ∧ F2 33 = F 33 → Q none (mh m F2 tl2 (emR R k 1 (nI r.1) (nI r.2.1)) NL h0, sz)) :
    WW G mX9_step cX9_step X (wZ G mX9_step X Q) 116 [some (.ref m), some (.int x), some (.int 1), some (.int 8), none, none, none] [] (mh m F tl R NL h0, sz) 0 0 := by
  refine ww_aload_n dX9_step_116 rfl rfl ?_
  refine ww_dup dX9_step_117 rfl ?_
  refine mm_geti dX9_step_118 fX9_277 rfl rfl ?_
  refine ww_iconst (v := 1) dX9_step_121 (by decide) ?_
  refine ww_iadd dX9_step_122 ?_
  refine mm_puti dX9_step_123 fX9_277 rfl rfl ?_
  refine ww_aload_n dX9_step_126 rfl rfl ?_
  refine ww_iload_n dX9_step_127 rfl rfl ?_
  obtain ⟨p1, e1⟩ : ∃ q, q = ad b L p := ⟨_, rfl⟩
  have hp1 : p1 ≤ L := by rw [e1]; exact (ad_le hp).2
  refine mm_call0 dX9_step_128 kX9_233 rfl (a9_next (p := p1) (by exact hb) hL hL2 (by rw [e1]; exact T.1) hp1) rfl rfl rfl rfl rfl rfl (Nat.zero_le _) (Nat.zero_le _) ?_
  refine ww_iload_n dX9_step_131 rfl rfl ?_
  refine ww_lookupL [(0, 168), (4, 214), (8, 176)] 249 dX9_step_132 (by decide) (by decide) (by decide) (fun j132 t132 ht132 c132 => ?_) (fun c132 => ?_)
  · rcases j132 with _ | _ | _ | j
    · cases ht132
      exact absurd c132 (by decide)
    · cases ht132
      exact absurd c132 (by decide)
    · cases ht132
      refine ww_aload_n dX9_step_176 rfl rfl ?_
      refine ww_iload_n dX9_step_177 rfl rfl ?_
      obtain ⟨p2, e2⟩ : ∃ q, q = ad b L p1 := ⟨_, rfl⟩
      have hp2 : p2 ≤ L := by rw [e2]; exact (ad_le hp1).2
      by_cases h178 : kd b L p1 = 9 ∧ kv b L p1 ≤ 4
      · refine mm_call1 dX9_step_178 kX9_283 rfl (a9_fdK (by exact hb) hL hL2 hp1 (by exact tokS_nx hp1) (by exact hw) h178) rfl rfl rfl rfl rfl rfl (Nat.zero_le _) (Nat.zero_le _) ?_
        rw [← e2]
        refine ww_istore dX9_step_181 rfl rfl ?_
        refine ww_aload_n dX9_step_183 rfl rfl ?_
        refine ww_iconst (v := 0) dX9_step_184 (by decide) ?_
        refine ww_bipush (v := 99) dX9_step_185 (by decide) ?_
        refine ww_iload_n dX9_step_187 rfl rfl ?_
        obtain ⟨p3, e3⟩ : ∃ q, q = ad b L p2 := ⟨_, rfl⟩
        have hp3 : p3 ≤ L := by rw [e3]; exact (ad_le hp2).2
        rcases or3 (kd b L p2 = 10) (0 ≤ nu b L p2 ∧ nu b L p2 ≤ 99) with h188 | ⟨h188, g188⟩ | ⟨h188, g188⟩
        · refine mm_call1 dX9_step_188 kX9_264 rfl (a9_nmB1 hp2 (by exact tokS_nx hp2) (by exact hw) h188) rfl rfl rfl rfl rfl rfl (Nat.zero_le _) (Nat.zero_le _) ?_
          refine ww_istore dX9_step_191 rfl rfl ?_
          refine ww_aload_n dX9_step_193 rfl rfl ?_
          refine ww_bipush (v := 59) dX9_step_194 (by decide) ?_
          refine ww_iload_n dX9_step_196 rfl rfl ?_
          refine mm_call0 dX9_step_197 kX9_247 rfl (c9_takesD (by exact (show ¬ (1 : Int32) = 0 by decide))) rfl rfl rfl rfl rfl rfl (Nat.zero_le _) (Nat.zero_le _) ?_
          refine ww_aload_n dX9_step_200 rfl rfl ?_
          refine ww_iconst (v := 1) dX9_step_201 (by decide) ?_
          refine ww_iload dX9_step_202 rfl ?_
          refine ww_iload dX9_step_204 rfl ?_
          refine mm_call1 dX9_step_206 kX9_268 rfl (c9_emits (k := k) (by exact hk) hk200) rfl rfl rfl rfl rfl rfl (Nat.zero_le _) (Nat.zero_le _) ?_
          refine ww_istore dX9_step_209 rfl rfl ?_
          refine ww_goto (tgt := 320) dX9_step_211 (by decide) ?_
          exact ww_vret dX9_step_320 rfl (hqF _ _ _ _ (1, nS b L p2) (by repeat with_reducible first | exact KF.rf | apply KF.nx | apply KF.up (by decide)) (by repeat with_reducible first | exact KR.rf | apply KR.em | apply KR.op | apply KR.up (by decide)) (show pSet b L (ad b L p) = .inl (1, nS b L p2) by rw [← e1, pSet, fd_ok h178 e2, sb_r, nm_1 h188, sb_l]) rfl rfl) (Nat.zero_le _) (Nat.zero_le _)
        · refine mm_call1 dX9_step_188 kX9_264 rfl (a9_nmB3 (lo := 0) (hi := 99) hp2 (by exact tokS_nx hp2) (by exact hw) (by decide) (by decide) rfl rfl h188 g188) rfl rfl rfl rfl rfl rfl (Nat.zero_le _) (Nat.zero_le _) ?_
          refine ww_istore dX9_step_191 rfl rfl ?_
          refine ww_aload_n dX9_step_193 rfl rfl ?_
          refine ww_bipush (v := 59) dX9_step_194 (by decide) ?_
          refine ww_iload_n dX9_step_196 rfl rfl ?_
          refine mm_call0 dX9_step_197 kX9_247 rfl (c9_takesD (by exact (show ¬ (3 : Int32) = 0 by decide))) rfl rfl rfl rfl rfl rfl (Nat.zero_le _) (Nat.zero_le _) ?_
          refine ww_aload_n dX9_step_200 rfl rfl ?_
          refine ww_iconst (v := 1) dX9_step_201 (by decide) ?_
          refine ww_iload dX9_step_202 rfl ?_
          refine ww_iload dX9_step_204 rfl ?_
          refine mm_call1 dX9_step_206 kX9_268 rfl (c9_emits (k := k) (by exact hk) hk200) rfl rfl rfl rfl rfl rfl (Nat.zero_le _) (Nat.zero_le _) ?_
          refine ww_istore dX9_step_209 rfl rfl ?_
          refine ww_goto (tgt := 320) dX9_step_211 (by decide) ?_
          exact ww_vret dX9_step_320 rfl (hqF _ _ _ _ (3, nS b L p2) (by repeat with_reducible first | exact KF.rf | apply KF.nx | apply KF.up (by decide)) (by repeat with_reducible first | exact KR.rf | apply KR.em | apply KR.op | apply KR.up (by decide)) (show pSet b L (ad b L p) = .inl (3, nS b L p2) by rw [← e1, pSet, fd_ok h178 e2, sb_r, nm_3 h188 g188, sb_l]) rfl rfl) (Nat.zero_le _) (Nat.zero_le _)
        · refine mm_call1 dX9_step_188 kX9_264 rfl (a9_nmK (lo := 0) (hi := 99) (by exact hb) hL hL2 hp2 (by exact tokS_nx hp2) (by exact hw) (by decide) (by decide) rfl rfl h188 g188) rfl rfl rfl rfl rfl rfl (Nat.zero_le _) (Nat.zero_le _) ?_
          rw [← e3]
          refine ww_istore dX9_step_191 rfl rfl ?_
          refine ww_aload_n dX9_step_193 rfl rfl ?_
          refine ww_bipush (v := 59) dX9_step_194 (by decide) ?_
          refine ww_iload_n dX9_step_196 rfl rfl ?_
          obtain ⟨p4, e4⟩ : ∃ q, q = ad b L p3 := ⟨_, rfl⟩
          have hp4 : p4 ≤ L := by rw [e4]; exact (ad_le hp3).2
          by_cases h197 : kd b L p3 = 13
          · refine mm_call0 dX9_step_197 kX9_247 rfl (a9_tsK (c := 59) (k := 13) (by exact hb) hL hL2 hp3 (by exact tokS_nx hp3) (by exact hw) (by decide) rfl h197) rfl rfl rfl rfl rfl rfl (Nat.zero_le _) (Nat.zero_le _) ?_
            rw [← e4]
            refine ww_aload_n dX9_step_200 rfl rfl ?_
            refine ww_iconst (v := 1) dX9_step_201 (by decide) ?_
            refine ww_iload dX9_step_202 rfl ?_
            refine ww_iload dX9_step_204 rfl ?_
            refine mm_call1 dX9_step_206 kX9_268 rfl (c9_emits (k := k) (by exact hk) hk200) rfl rfl rfl rfl rfl rfl (Nat.zero_le _) (Nat.zero_le _) ?_
            refine ww_istore dX9_step_209 rfl rfl ?_
            refine ww_goto (tgt := 320) dX9_step_211 (by decide) ?_
            exact ww_vret dX9_step_320 rfl (hqS _ _ (kv b L p1 - 1, nu b L p2, p4) (by repeat with_reducible first | exact KF.rf | apply KF.nx | apply KF.up (by decide)) (show pSet b L (ad b L p) = .inr _ by rw [← e1, pSet, fd_ok h178 e2, sb_r, nm_ok h188 g188 e3, sb_r, nd_ok h197 e4, sb_r]) ⟨hw, rfl, tokS_up (tokS_nx hp4), hp4, rfl, rfl, rfl, rfl, rfl⟩) (Nat.zero_le _) (Nat.zero_le _)
          · refine mm_call0 dX9_step_197 kX9_247 rfl (a9_tsB (c := 59) (k := 13) hp3 (by exact tokS_nx hp3) (by exact hw) (by decide) rfl h197) rfl rfl rfl rfl rfl rfl (Nat.zero_le _) (Nat.zero_le _) ?_
            refine ww_aload_n dX9_step_200 rfl rfl ?_
            refine ww_iconst (v := 1) dX9_step_201 (by decide) ?_
            refine ww_iload dX9_step_202 rfl ?_
            refine ww_iload dX9_step_204 rfl ?_
            refine mm_call1 dX9_step_206 kX9_268 rfl (c9_emits (k := k) (by exact hk) hk200) rfl rfl rfl rfl rfl rfl (Nat.zero_le _) (Nat.zero_le _) ?_
            refine ww_istore dX9_step_209 rfl rfl ?_
            refine ww_goto (tgt := 320) dX9_step_211 (by decide) ?_
            exact ww_vret dX9_step_320 rfl (hqF _ _ _ _ (1, nS b L p3) (by repeat with_reducible first | exact KF.rf | apply KF.nx | apply KF.up (by decide)) (by repeat with_reducible first | exact KR.rf | apply KR.em | apply KR.op | apply KR.up (by decide)) (show pSet b L (ad b L p) = .inl (1, nS b L p3) by rw [← e1, pSet, fd_ok h178 e2, sb_r, nm_ok h188 g188 e3, sb_r, nd_no h197, sb_l]) rfl rfl) (Nat.zero_le _) (Nat.zero_le _)
      · refine mm_call1 dX9_step_178 kX9_283 rfl (a9_fdB hp1 (by exact tokS_nx hp1) (by exact hw) h178) rfl rfl rfl rfl rfl rfl (Nat.zero_le _) (Nat.zero_le _) ?_
        refine ww_istore dX9_step_181 rfl rfl ?_
        refine ww_aload_n dX9_step_183 rfl rfl ?_
        refine ww_iconst (v := 0) dX9_step_184 (by decide) ?_
        refine ww_bipush (v := 99) dX9_step_185 (by decide) ?_
        refine ww_iload_n dX9_step_187 rfl rfl ?_
        refine mm_call1 dX9_step_188 kX9_264 rfl (c9_numberD (by exact (show ¬ (1 : Int32) = 0 by decide))) rfl rfl rfl rfl rfl rfl (Nat.zero_le _) (Nat.zero_le _) ?_
        refine ww_istore dX9_step_191 rfl rfl ?_
        refine ww_aload_n dX9_step_193 rfl rfl ?_
        refine ww_bipush (v := 59) dX9_step_194 (by decide) ?_
        refine ww_iload_n dX9_step_196 rfl rfl ?_
        refine mm_call0 dX9_step_197 kX9_247 rfl (c9_takesD (by exact (show ¬ (1 : Int32) = 0 by decide))) rfl rfl rfl rfl rfl rfl (Nat.zero_le _) (Nat.zero_le _) ?_
        refine ww_aload_n dX9_step_200 rfl rfl ?_
        refine ww_iconst (v := 1) dX9_step_201 (by decide) ?_
        refine ww_iload dX9_step_202 rfl ?_
        refine ww_iload dX9_step_204 rfl ?_
        refine mm_call1 dX9_step_206 kX9_268 rfl (c9_emits (k := k) (by exact hk) hk200) rfl rfl rfl rfl rfl rfl (Nat.zero_le _) (Nat.zero_le _) ?_
        refine ww_istore dX9_step_209 rfl rfl ?_
        refine ww_goto (tgt := 320) dX9_step_211 (by decide) ?_
        exact ww_vret dX9_step_320 rfl (hqF _ _ _ _ (1, nS b L p1) (by repeat with_reducible first | exact KF.rf | apply KF.nx | apply KF.up (by decide)) (by repeat with_reducible first | exact KR.rf | apply KR.em | apply KR.op | apply KR.up (by decide)) (show pSet b L (ad b L p) = .inl (1, nS b L p1) by rw [← e1, pSet, fd_no h178, sb_l]) rfl rfl) (Nat.zero_le _) (Nat.zero_le _)
    · cases ht132
  · exact absurd rfl (c132 (8, 176) (by decide))
set_option maxRecDepth 40000 in
set_option maxHeartbeats 4000000 in
theorem L9_stBth {x : Int32} {b : Nat → Int32} {L p k d : Nat} {X : wX} {Q : Option Value → wH → Prop} (hb : R 0 = b) (hL : x = nI L) (hL2 : L ≤ 300) (hp : p ≤ L) (T : tokS b L p F tl) (hw : F 7 = 0) (hk : F 14 = nI k) (hk200 : k < 200) (hd : F 33 = nI d) (hd5 : d < 5)
    (hqF : ∀ (F2 : Nat → Int32) (tl2 : Int64) (R2 : Nat → Nat → Int32) (NL2 : Nat → Int64) (e : Nat × Nat), KF F2 F → KR R2 R → nd b L 11 (ad b L p) = .inl e → F2 7 = nI e.1 → F2 8 = nI e.2 → Q none (mh m F2 tl2 R2 NL2 h0, sz))
    (hqS : ∀ (F2 : Nat → Int32) (tl2 : Int64) (r : Nat), KF F2 F → nd b L 11 (ad b L p) = .inr r → F2 7 = 0 ∧ F2 8 = F 8 ∧ tokS b L r F2 tl2 ∧ r ≤ L ∧ F2 11 = F 11 + 1 ∧ F2 12 = F 12 ∧ F2 13 = F 13 + 1 ∧ F2 14 = nI (k + 1) ∧ F2 33 = nI (d + 1) → Q none (mh m F2 tl2 (opR (emR R k 5 (F 13) 0) (d + 1) 1 (nI k) 0 0) NL h0, sz)) :
    WW G mX9_step cX9_step X (wZ G mX9_step X Q) 116 [some (.ref m), some (.int x), some (.int 1), some (.int 4), none, none, none] [] (mh m F tl R NL h0, sz) 0 0 := by
  refine ww_aload_n dX9_step_116 rfl rfl ?_
  refine ww_dup dX9_step_117 rfl ?_
  refine mm_geti dX9_step_118 fX9_277 rfl rfl ?_
  refine ww_iconst (v := 1) dX9_step_121 (by decide) ?_
  refine ww_iadd dX9_step_122 ?_
  refine mm_puti dX9_step_123 fX9_277 rfl rfl ?_
  refine ww_aload_n dX9_step_126 rfl rfl ?_
  refine ww_iload_n dX9_step_127 rfl rfl ?_
  obtain ⟨p1, e1⟩ : ∃ q, q = ad b L p := ⟨_, rfl⟩
  have hp1 : p1 ≤ L := by rw [e1]; exact (ad_le hp).2
  refine mm_call0 dX9_step_128 kX9_233 rfl (a9_next (p := p1) (by exact hb) hL hL2 (by rw [e1]; exact T.1) hp1) rfl rfl rfl rfl rfl rfl (Nat.zero_le _) (Nat.zero_le _) ?_
  refine ww_iload_n dX9_step_131 rfl rfl ?_
  refine ww_lookupL [(0, 168), (4, 214), (8, 176)] 249 dX9_step_132 (by decide) (by decide) (by decide) (fun j132 t132 ht132 c132 => ?_) (fun c132 => ?_)
  · rcases j132 with _ | _ | _ | j
    · cases ht132
      exact absurd c132 (by decide)
    · cases ht132
      refine ww_aload_n dX9_step_214 rfl rfl ?_
      refine ww_iconst (v := 5) dX9_step_215 (by decide) ?_
      refine ww_aload_n dX9_step_216 rfl rfl ?_
      refine mm_geti dX9_step_217 fX9_286 rfl rfl ?_
      refine ww_iconst (v := 0) dX9_step_220 (by decide) ?_
      refine mm_call1 dX9_step_221 kX9_268 rfl (c9_emits (k := k) (by exact hk) hk200) rfl rfl rfl rfl rfl rfl (Nat.zero_le _) (Nat.zero_le _) ?_
      refine ww_istore dX9_step_224 rfl rfl ?_
      refine ww_aload_n dX9_step_226 rfl rfl ?_
      refine ww_dup dX9_step_227 rfl ?_
      refine mm_geti dX9_step_228 fX9_286 rfl rfl ?_
      refine ww_iconst (v := 1) dX9_step_231 (by decide) ?_
      refine ww_iadd dX9_step_232 ?_
      refine mm_puti dX9_step_233 fX9_286 rfl rfl ?_
      refine ww_aload_n dX9_step_236 rfl rfl ?_
      refine ww_iconst (v := 1) dX9_step_237 (by decide) ?_
      refine ww_iload dX9_step_238 rfl ?_
      refine ww_iconst (v := 0) dX9_step_240 (by decide) ?_
      refine ww_iconst (v := 0) dX9_step_241 (by decide) ?_
      refine ww_iload_n dX9_step_242 rfl rfl ?_
      obtain ⟨p2, e2⟩ : ∃ q, q = ad b L p1 := ⟨_, rfl⟩
      have hp2 : p2 ≤ L := by rw [e2]; exact (ad_le hp1).2
      by_cases h243 : kd b L p1 = 11
      · refine mm_call0 dX9_step_243 kX9_289 rfl (c9_opens (d := d) (a9_tsK (c := 123) (k := 11) (by exact hb) hL hL2 hp1 (by exact tokS_up (tokS_up (tokS_nx hp1))) (by exact hw) (by decide) rfl h243) (by exact hd) hd5) rfl rfl rfl rfl rfl rfl (Nat.zero_le _) (Nat.zero_le _) ?_
        rw [← e2]
        refine ww_goto (tgt := 320) dX9_step_246 (by decide) ?_
        exact ww_vret dX9_step_320 rfl (hqS _ _ p2 (by repeat with_reducible first | exact KF.rf | apply KF.nx | apply KF.up (by decide)) (show nd b L 11 (ad b L p) = .inr _ by rw [← e1, nd_ok h243 e2]) ⟨hw, rfl, tokS_up (tokS_nx hp2), hp2, rfl, rfl, rfl, rfl, rfl⟩) (Nat.zero_le _) (Nat.zero_le _)
      · refine mm_call0 dX9_step_243 kX9_289 rfl (c9_opens (d := d) (a9_tsB (c := 123) (k := 11) hp1 (by exact tokS_up (tokS_up (tokS_nx hp1))) (by exact hw) (by decide) rfl h243) (by exact hd) hd5) rfl rfl rfl rfl rfl rfl (Nat.zero_le _) (Nat.zero_le _) ?_
        refine ww_goto (tgt := 320) dX9_step_246 (by decide) ?_
        exact ww_vret dX9_step_320 rfl (hqF _ _ _ _ (1, nS b L p1) (by repeat with_reducible first | exact KF.rf | apply KF.nx | apply KF.up (by decide)) (by repeat with_reducible first | exact KR.rf | apply KR.em | apply KR.op | apply KR.up (by decide)) (show nd b L 11 (ad b L p) = .inl (1, nS b L p1) by rw [← e1, nd_no h243]) rfl rfl) (Nat.zero_le _) (Nat.zero_le _)
    · cases ht132
      exact absurd c132 (by decide)
    · cases ht132
  · exact absurd rfl (c132 (4, 214) (by decide))
set_option maxRecDepth 40000 in
set_option maxHeartbeats 4000000 in
theorem L9_stIf {x : Int32} {b : Nat → Int32} {L p k d : Nat} {X : wX} {Q : Option Value → wH → Prop} (hb : R 0 = b) (hL : x = nI L) (hL2 : L ≤ 300) (hp : p ≤ L) (T : tokS b L p F tl) (hw : F 7 = 0) (hk : F 14 = nI k) (hk200 : k < 200) (hd : F 33 = nI d) (hd5 : d < 5)
    (hqF : ∀ (F2 : Nat → Int32) (tl2 : Int64) (R2 : Nat → Nat → Int32) (NL2 : Nat → Int64) (e : Nat × Nat), KF F2 F → KR R2 R → pTst b L (ad b L p) = .inl e → F2 7 = nI e.1 → F2 8 = nI e.2 → Q none (mh m F2 tl2 R2 NL2 h0, sz))
    (hqS : ∀ (F2 : Nat → Int32) (tl2 : Int64) (r : Nat × Nat × Nat), KF F2 F → pTst b L (ad b L p) = .inr r → F2 7 = 0 ∧ F2 8 = F 8 ∧ tokS b L r.2.2 F2 tl2 ∧ r.2.2 ≤ L ∧ F2 11 = F 11 + 1 ∧ F2 12 = F 12 ∧ F2 13 = F 13 ∧ F2 14 = nI (k + 1) ∧ F2 33 = nI (d + 1) → Q none (mh m F2 tl2 (opR (emR R k 2 (nI r.1) (nI r.2.1)) (d + 1) 3 (nI k) (nI r.1) (nI r.2.1)) NL h0, sz)) :
    WW G mX9_step cX9_step X (wZ G mX9_step X Q) 116 [some (.ref m), some (.int x), some (.int 1), some (.int 5), none, none, none] [] (mh m F tl R NL h0, sz) 0 0 := by
  refine ww_aload_n dX9_step_116 rfl rfl ?_
  refine ww_dup dX9_step_117 rfl ?_
  refine mm_geti dX9_step_118 fX9_277 rfl rfl ?_
  refine ww_iconst (v := 1) dX9_step_121 (by decide) ?_
  refine ww_iadd dX9_step_122 ?_
  refine mm_puti dX9_step_123 fX9_277 rfl rfl ?_
  refine ww_aload_n dX9_step_126 rfl rfl ?_
  refine ww_iload_n dX9_step_127 rfl rfl ?_
  obtain ⟨p1, e1⟩ : ∃ q, q = ad b L p := ⟨_, rfl⟩
  have hp1 : p1 ≤ L := by rw [e1]; exact (ad_le hp).2
  refine mm_call0 dX9_step_128 kX9_233 rfl (a9_next (p := p1) (by exact hb) hL hL2 (by rw [e1]; exact T.1) hp1) rfl rfl rfl rfl rfl rfl (Nat.zero_le _) (Nat.zero_le _) ?_
  refine ww_iload_n dX9_step_131 rfl rfl ?_
  refine ww_lookupL [(0, 168), (4, 214), (8, 176)] 249 dX9_step_132 (by decide) (by decide) (by decide) (fun j132 t132 ht132 c132 => ?_) (fun c132 => ?_)
  · rcases j132 with _ | _ | _ | j
    · cases ht132
      exact absurd c132 (by decide)
    · cases ht132
      exact absurd c132 (by decide)
    · cases ht132
      exact absurd c132 (by decide)
    · cases ht132
  · refine ww_aload_n dX9_step_249 rfl rfl ?_
    refine ww_iload_n dX9_step_250 rfl rfl ?_
    obtain ⟨p2, e2⟩ : ∃ q, q = ad b L p1 := ⟨_, rfl⟩
    have hp2 : p2 ≤ L := by rw [e2]; exact (ad_le hp1).2
    by_cases h251 : kd b L p1 = 9 ∧ kv b L p1 ≤ 4
    · refine mm_call1 dX9_step_251 kX9_283 rfl (a9_fdK (by exact hb) hL hL2 hp1 (by exact tokS_nx hp1) (by exact hw) h251) rfl rfl rfl rfl rfl rfl (Nat.zero_le _) (Nat.zero_le _) ?_
      rw [← e2]
      refine ww_istore dX9_step_254 rfl rfl ?_
      refine ww_aload_n dX9_step_256 rfl rfl ?_
      refine ww_bipush (v := 60) dX9_step_257 (by decide) ?_
      refine ww_iload_n dX9_step_259 rfl rfl ?_
      obtain ⟨p3, e3⟩ : ∃ q, q = ad b L p2 := ⟨_, rfl⟩
      have hp3 : p3 ≤ L := by rw [e3]; exact (ad_le hp2).2
      by_cases h260 : kd b L p2 = 14
      · refine mm_call0 dX9_step_260 kX9_247 rfl (a9_tsK (c := 60) (k := 14) (by exact hb) hL hL2 hp2 (by exact tokS_nx hp2) (by exact hw) (by decide) rfl h260) rfl rfl rfl rfl rfl rfl (Nat.zero_le _) (Nat.zero_le _) ?_
        rw [← e3]
        refine ww_aload_n dX9_step_263 rfl rfl ?_
        refine ww_iconst (v := 0) dX9_step_264 (by decide) ?_
        refine ww_bipush (v := 99) dX9_step_265 (by decide) ?_
        refine ww_iload_n dX9_step_267 rfl rfl ?_
        obtain ⟨p4, e4⟩ : ∃ q, q = ad b L p3 := ⟨_, rfl⟩
        have hp4 : p4 ≤ L := by rw [e4]; exact (ad_le hp3).2
        rcases or3 (kd b L p3 = 10) (0 ≤ nu b L p3 ∧ nu b L p3 ≤ 99) with h268 | ⟨h268, g268⟩ | ⟨h268, g268⟩
        · refine mm_call1 dX9_step_268 kX9_264 rfl (a9_nmB1 hp3 (by exact tokS_nx hp3) (by exact hw) h268) rfl rfl rfl rfl rfl rfl (Nat.zero_le _) (Nat.zero_le _) ?_
          refine ww_istore dX9_step_271 rfl rfl ?_
          refine ww_iload_n dX9_step_273 rfl rfl ?_
          refine ww_iconst (v := 5) dX9_step_274 (by decide) ?_
          refine ww_icmp_ne (tgt := 290) dX9_step_275 (by decide) (fun c275 => ?_) (fun c275 => ?_)
          · exact absurd c275 (fun q => q rfl)
          · refine ww_aload_n dX9_step_278 rfl rfl ?_
            refine ww_iconst (v := 2) dX9_step_279 (by decide) ?_
            refine ww_iload dX9_step_280 rfl ?_
            refine ww_iload dX9_step_282 rfl ?_
            refine mm_call1 dX9_step_284 kX9_268 rfl (c9_emits (k := k) (by exact hk) hk200) rfl rfl rfl rfl rfl rfl (Nat.zero_le _) (Nat.zero_le _) ?_
            refine ww_goto (tgt := 294) dX9_step_287 (by decide) ?_
            refine ww_istore dX9_step_294 rfl rfl ?_
            refine ww_aload_n dX9_step_296 rfl rfl ?_
            refine ww_iload_n dX9_step_297 rfl rfl ?_
            refine ww_iconst (v := 5) dX9_step_298 (by decide) ?_
            refine ww_icmp_ne (tgt := 306) dX9_step_299 (by decide) (fun c299 => ?_) (fun c299 => ?_)
            · exact absurd c299 (fun q => q rfl)
            · refine ww_iconst (v := 3) dX9_step_302 (by decide) ?_
              refine ww_goto (tgt := 307) dX9_step_303 (by decide) ?_
              refine ww_iload dX9_step_307 rfl ?_
              refine ww_iload dX9_step_309 rfl ?_
              refine ww_iload dX9_step_311 rfl ?_
              refine ww_iload_n dX9_step_313 rfl rfl ?_
              refine mm_call0 dX9_step_314 kX9_289 rfl (c9_opens (d := d) (c9_takesD (by exact (show ¬ (1 : Int32) = 0 by decide))) (by exact hd) hd5) rfl rfl rfl rfl rfl rfl (Nat.zero_le _) (Nat.zero_le _) ?_
              refine ww_goto (tgt := 320) dX9_step_317 (by decide) ?_
              exact ww_vret dX9_step_320 rfl (hqF _ _ _ _ (1, nS b L p3) (by repeat with_reducible first | exact KF.rf | apply KF.nx | apply KF.up (by decide)) (by repeat with_reducible first | exact KR.rf | apply KR.em | apply KR.op | apply KR.up (by decide)) (show pTst b L (ad b L p) = .inl (1, nS b L p3) by rw [← e1, pTst, fd_ok h251 e2, sb_r, nd_ok h260 e3, sb_r, nm_1 h268, sb_l]) rfl rfl) (Nat.zero_le _) (Nat.zero_le _)
        · refine mm_call1 dX9_step_268 kX9_264 rfl (a9_nmB3 (lo := 0) (hi := 99) hp3 (by exact tokS_nx hp3) (by exact hw) (by decide) (by decide) rfl rfl h268 g268) rfl rfl rfl rfl rfl rfl (Nat.zero_le _) (Nat.zero_le _) ?_
          refine ww_istore dX9_step_271 rfl rfl ?_
          refine ww_iload_n dX9_step_273 rfl rfl ?_
          refine ww_iconst (v := 5) dX9_step_274 (by decide) ?_
          refine ww_icmp_ne (tgt := 290) dX9_step_275 (by decide) (fun c275 => ?_) (fun c275 => ?_)
          · exact absurd c275 (fun q => q rfl)
          · refine ww_aload_n dX9_step_278 rfl rfl ?_
            refine ww_iconst (v := 2) dX9_step_279 (by decide) ?_
            refine ww_iload dX9_step_280 rfl ?_
            refine ww_iload dX9_step_282 rfl ?_
            refine mm_call1 dX9_step_284 kX9_268 rfl (c9_emits (k := k) (by exact hk) hk200) rfl rfl rfl rfl rfl rfl (Nat.zero_le _) (Nat.zero_le _) ?_
            refine ww_goto (tgt := 294) dX9_step_287 (by decide) ?_
            refine ww_istore dX9_step_294 rfl rfl ?_
            refine ww_aload_n dX9_step_296 rfl rfl ?_
            refine ww_iload_n dX9_step_297 rfl rfl ?_
            refine ww_iconst (v := 5) dX9_step_298 (by decide) ?_
            refine ww_icmp_ne (tgt := 306) dX9_step_299 (by decide) (fun c299 => ?_) (fun c299 => ?_)
            · exact absurd c299 (fun q => q rfl)
            · refine ww_iconst (v := 3) dX9_step_302 (by decide) ?_
              refine ww_goto (tgt := 307) dX9_step_303 (by decide) ?_
              refine ww_iload dX9_step_307 rfl ?_
              refine ww_iload dX9_step_309 rfl ?_
              refine ww_iload dX9_step_311 rfl ?_
              refine ww_iload_n dX9_step_313 rfl rfl ?_
              refine mm_call0 dX9_step_314 kX9_289 rfl (c9_opens (d := d) (c9_takesD (by exact (show ¬ (3 : Int32) = 0 by decide))) (by exact hd) hd5) rfl rfl rfl rfl rfl rfl (Nat.zero_le _) (Nat.zero_le _) ?_
              refine ww_goto (tgt := 320) dX9_step_317 (by decide) ?_
              exact ww_vret dX9_step_320 rfl (hqF _ _ _ _ (3, nS b L p3) (by repeat with_reducible first | exact KF.rf | apply KF.nx | apply KF.up (by decide)) (by repeat with_reducible first | exact KR.rf | apply KR.em | apply KR.op | apply KR.up (by decide)) (show pTst b L (ad b L p) = .inl (3, nS b L p3) by rw [← e1, pTst, fd_ok h251 e2, sb_r, nd_ok h260 e3, sb_r, nm_3 h268 g268, sb_l]) rfl rfl) (Nat.zero_le _) (Nat.zero_le _)
        · refine mm_call1 dX9_step_268 kX9_264 rfl (a9_nmK (lo := 0) (hi := 99) (by exact hb) hL hL2 hp3 (by exact tokS_nx hp3) (by exact hw) (by decide) (by decide) rfl rfl h268 g268) rfl rfl rfl rfl rfl rfl (Nat.zero_le _) (Nat.zero_le _) ?_
          rw [← e4]
          refine ww_istore dX9_step_271 rfl rfl ?_
          refine ww_iload_n dX9_step_273 rfl rfl ?_
          refine ww_iconst (v := 5) dX9_step_274 (by decide) ?_
          refine ww_icmp_ne (tgt := 290) dX9_step_275 (by decide) (fun c275 => ?_) (fun c275 => ?_)
          · exact absurd c275 (fun q => q rfl)
          · refine ww_aload_n dX9_step_278 rfl rfl ?_
            refine ww_iconst (v := 2) dX9_step_279 (by decide) ?_
            refine ww_iload dX9_step_280 rfl ?_
            refine ww_iload dX9_step_282 rfl ?_
            refine mm_call1 dX9_step_284 kX9_268 rfl (c9_emits (k := k) (by exact hk) hk200) rfl rfl rfl rfl rfl rfl (Nat.zero_le _) (Nat.zero_le _) ?_
            refine ww_goto (tgt := 294) dX9_step_287 (by decide) ?_
            refine ww_istore dX9_step_294 rfl rfl ?_
            refine ww_aload_n dX9_step_296 rfl rfl ?_
            refine ww_iload_n dX9_step_297 rfl rfl ?_
            refine ww_iconst (v := 5) dX9_step_298 (by decide) ?_
            refine ww_icmp_ne (tgt := 306) dX9_step_299 (by decide) (fun c299 => ?_) (fun c299 => ?_)
            · exact absurd c299 (fun q => q rfl)
            · refine ww_iconst (v := 3) dX9_step_302 (by decide) ?_
              refine ww_goto (tgt := 307) dX9_step_303 (by decide) ?_
              refine ww_iload dX9_step_307 rfl ?_
              refine ww_iload dX9_step_309 rfl ?_
              refine ww_iload dX9_step_311 rfl ?_
              refine ww_iload_n dX9_step_313 rfl rfl ?_
              obtain ⟨p5, e5⟩ : ∃ q, q = ad b L p4 := ⟨_, rfl⟩
              have hp5 : p5 ≤ L := by rw [e5]; exact (ad_le hp4).2
              by_cases h314 : kd b L p4 = 11
              · refine mm_call0 dX9_step_314 kX9_289 rfl (c9_opens (d := d) (a9_tsK (c := 123) (k := 11) (by exact hb) hL hL2 hp4 (by exact tokS_up (tokS_nx hp4)) (by exact hw) (by decide) rfl h314) (by exact hd) hd5) rfl rfl rfl rfl rfl rfl (Nat.zero_le _) (Nat.zero_le _) ?_
                rw [← e5]
                refine ww_goto (tgt := 320) dX9_step_317 (by decide) ?_
                exact ww_vret dX9_step_320 rfl (hqS _ _ (kv b L p1 - 1, nu b L p3, p5) (by repeat with_reducible first | exact KF.rf | apply KF.nx | apply KF.up (by decide)) (show pTst b L (ad b L p) = .inr _ by rw [← e1, pTst, fd_ok h251 e2, sb_r, nd_ok h260 e3, sb_r, nm_ok h268 g268 e4, sb_r, nd_ok h314 e5, sb_r]) ⟨hw, rfl, tokS_up (tokS_nx hp5), hp5, rfl, rfl, rfl, rfl, rfl⟩) (Nat.zero_le _) (Nat.zero_le _)
              · refine mm_call0 dX9_step_314 kX9_289 rfl (c9_opens (d := d) (a9_tsB (c := 123) (k := 11) hp4 (by exact tokS_up (tokS_nx hp4)) (by exact hw) (by decide) rfl h314) (by exact hd) hd5) rfl rfl rfl rfl rfl rfl (Nat.zero_le _) (Nat.zero_le _) ?_
                refine ww_goto (tgt := 320) dX9_step_317 (by decide) ?_
                exact ww_vret dX9_step_320 rfl (hqF _ _ _ _ (1, nS b L p4) (by repeat with_reducible first | exact KF.rf | apply KF.nx | apply KF.up (by decide)) (by repeat with_reducible first | exact KR.rf | apply KR.em | apply KR.op | apply KR.up (by decide)) (show pTst b L (ad b L p) = .inl (1, nS b L p4) by rw [← e1, pTst, fd_ok h251 e2, sb_r, nd_ok h260 e3, sb_r, nm_ok h268 g268 e4, sb_r, nd_no h314, sb_l]) rfl rfl) (Nat.zero_le _) (Nat.zero_le _)
      · refine mm_call0 dX9_step_260 kX9_247 rfl (a9_tsB (c := 60) (k := 14) hp2 (by exact tokS_nx hp2) (by exact hw) (by decide) rfl h260) rfl rfl rfl rfl rfl rfl (Nat.zero_le _) (Nat.zero_le _) ?_
        refine ww_aload_n dX9_step_263 rfl rfl ?_
        refine ww_iconst (v := 0) dX9_step_264 (by decide) ?_
        refine ww_bipush (v := 99) dX9_step_265 (by decide) ?_
        refine ww_iload_n dX9_step_267 rfl rfl ?_
        refine mm_call1 dX9_step_268 kX9_264 rfl (c9_numberD (by exact (show ¬ (1 : Int32) = 0 by decide))) rfl rfl rfl rfl rfl rfl (Nat.zero_le _) (Nat.zero_le _) ?_
        refine ww_istore dX9_step_271 rfl rfl ?_
        refine ww_iload_n dX9_step_273 rfl rfl ?_
        refine ww_iconst (v := 5) dX9_step_274 (by decide) ?_
        refine ww_icmp_ne (tgt := 290) dX9_step_275 (by decide) (fun c275 => ?_) (fun c275 => ?_)
        · exact absurd c275 (fun q => q rfl)
        · refine ww_aload_n dX9_step_278 rfl rfl ?_
          refine ww_iconst (v := 2) dX9_step_279 (by decide) ?_
          refine ww_iload dX9_step_280 rfl ?_
          refine ww_iload dX9_step_282 rfl ?_
          refine mm_call1 dX9_step_284 kX9_268 rfl (c9_emits (k := k) (by exact hk) hk200) rfl rfl rfl rfl rfl rfl (Nat.zero_le _) (Nat.zero_le _) ?_
          refine ww_goto (tgt := 294) dX9_step_287 (by decide) ?_
          refine ww_istore dX9_step_294 rfl rfl ?_
          refine ww_aload_n dX9_step_296 rfl rfl ?_
          refine ww_iload_n dX9_step_297 rfl rfl ?_
          refine ww_iconst (v := 5) dX9_step_298 (by decide) ?_
          refine ww_icmp_ne (tgt := 306) dX9_step_299 (by decide) (fun c299 => ?_) (fun c299 => ?_)
          · exact absurd c299 (fun q => q rfl)
          · refine ww_iconst (v := 3) dX9_step_302 (by decide) ?_
            refine ww_goto (tgt := 307) dX9_step_303 (by decide) ?_
            refine ww_iload dX9_step_307 rfl ?_
            refine ww_iload dX9_step_309 rfl ?_
            refine ww_iload dX9_step_311 rfl ?_
            refine ww_iload_n dX9_step_313 rfl rfl ?_
            refine mm_call0 dX9_step_314 kX9_289 rfl (c9_opens (d := d) (c9_takesD (by exact (show ¬ (1 : Int32) = 0 by decide))) (by exact hd) hd5) rfl rfl rfl rfl rfl rfl (Nat.zero_le _) (Nat.zero_le _) ?_
            refine ww_goto (tgt := 320) dX9_step_317 (by decide) ?_
            exact ww_vret dX9_step_320 rfl (hqF _ _ _ _ (1, nS b L p2) (by repeat with_reducible first | exact KF.rf | apply KF.nx | apply KF.up (by decide)) (by repeat with_reducible first | exact KR.rf | apply KR.em | apply KR.op | apply KR.up (by decide)) (show pTst b L (ad b L p) = .inl (1, nS b L p2) by rw [← e1, pTst, fd_ok h251 e2, sb_r, nd_no h260, sb_l]) rfl rfl) (Nat.zero_le _) (Nat.zero_le _)
    · refine mm_call1 dX9_step_251 kX9_283 rfl (a9_fdB hp1 (by exact tokS_nx hp1) (by exact hw) h251) rfl rfl rfl rfl rfl rfl (Nat.zero_le _) (Nat.zero_le _) ?_
      refine ww_istore dX9_step_254 rfl rfl ?_
      refine ww_aload_n dX9_step_256 rfl rfl ?_
      refine ww_bipush (v := 60) dX9_step_257 (by decide) ?_
      refine ww_iload_n dX9_step_259 rfl rfl ?_
      refine mm_call0 dX9_step_260 kX9_247 rfl (c9_takesD (by exact (show ¬ (1 : Int32) = 0 by decide))) rfl rfl rfl rfl rfl rfl (Nat.zero_le _) (Nat.zero_le _) ?_
      refine ww_aload_n dX9_step_263 rfl rfl ?_
      refine ww_iconst (v := 0) dX9_step_264 (by decide) ?_
      refine ww_bipush (v := 99) dX9_step_265 (by decide) ?_
      refine ww_iload_n dX9_step_267 rfl rfl ?_
      refine mm_call1 dX9_step_268 kX9_264 rfl (c9_numberD (by exact (show ¬ (1 : Int32) = 0 by decide))) rfl rfl rfl rfl rfl rfl (Nat.zero_le _) (Nat.zero_le _) ?_
      refine ww_istore dX9_step_271 rfl rfl ?_
      refine ww_iload_n dX9_step_273 rfl rfl ?_
      refine ww_iconst (v := 5) dX9_step_274 (by decide) ?_
      refine ww_icmp_ne (tgt := 290) dX9_step_275 (by decide) (fun c275 => ?_) (fun c275 => ?_)
      · exact absurd c275 (fun q => q rfl)
      · refine ww_aload_n dX9_step_278 rfl rfl ?_
        refine ww_iconst (v := 2) dX9_step_279 (by decide) ?_
        refine ww_iload dX9_step_280 rfl ?_
        refine ww_iload dX9_step_282 rfl ?_
        refine mm_call1 dX9_step_284 kX9_268 rfl (c9_emits (k := k) (by exact hk) hk200) rfl rfl rfl rfl rfl rfl (Nat.zero_le _) (Nat.zero_le _) ?_
        refine ww_goto (tgt := 294) dX9_step_287 (by decide) ?_
        refine ww_istore dX9_step_294 rfl rfl ?_
        refine ww_aload_n dX9_step_296 rfl rfl ?_
        refine ww_iload_n dX9_step_297 rfl rfl ?_
        refine ww_iconst (v := 5) dX9_step_298 (by decide) ?_
        refine ww_icmp_ne (tgt := 306) dX9_step_299 (by decide) (fun c299 => ?_) (fun c299 => ?_)
        · exact absurd c299 (fun q => q rfl)
        · refine ww_iconst (v := 3) dX9_step_302 (by decide) ?_
          refine ww_goto (tgt := 307) dX9_step_303 (by decide) ?_
          refine ww_iload dX9_step_307 rfl ?_
          refine ww_iload dX9_step_309 rfl ?_
          refine ww_iload dX9_step_311 rfl ?_
          refine ww_iload_n dX9_step_313 rfl rfl ?_
          refine mm_call0 dX9_step_314 kX9_289 rfl (c9_opens (d := d) (c9_takesD (by exact (show ¬ (1 : Int32) = 0 by decide))) (by exact hd) hd5) rfl rfl rfl rfl rfl rfl (Nat.zero_le _) (Nat.zero_le _) ?_
          refine ww_goto (tgt := 320) dX9_step_317 (by decide) ?_
          exact ww_vret dX9_step_320 rfl (hqF _ _ _ _ (1, nS b L p1) (by repeat with_reducible first | exact KF.rf | apply KF.nx | apply KF.up (by decide)) (by repeat with_reducible first | exact KR.rf | apply KR.em | apply KR.op | apply KR.up (by decide)) (show pTst b L (ad b L p) = .inl (1, nS b L p1) by rw [← e1, pTst, fd_no h251, sb_l]) rfl rfl) (Nat.zero_le _) (Nat.zero_le _)
set_option maxRecDepth 40000 in
set_option maxHeartbeats 4000000 in
theorem L9_stAgn {x : Int32} {b : Nat → Int32} {L p k d : Nat} {X : wX} {Q : Option Value → wH → Prop} (hb : R 0 = b) (hL : x = nI L) (hL2 : L ≤ 300) (hp : p ≤ L) (T : tokS b L p F tl) (hw : F 7 = 0) (hk : F 14 = nI k) (hk200 : k < 200) (hd : F 33 = nI d) (hd5 : d < 5)
    (hqF : ∀ (F2 : Nat → Int32) (tl2 : Int64) (R2 : Nat → Nat → Int32) (NL2 : Nat → Int64) (e : Nat × Nat), KF F2 F → KR R2 R → pTst b L (ad b L p) = .inl e → F2 7 = nI e.1 → F2 8 = nI e.2 → Q none (mh m F2 tl2 R2 NL2 h0, sz))
    (hqS : ∀ (F2 : Nat → Int32) (tl2 : Int64) (r : Nat × Nat × Nat), KF F2 F → pTst b L (ad b L p) = .inr r → F2 7 = 0 ∧ F2 8 = F 8 ∧ tokS b L r.2.2 F2 tl2 ∧ r.2.2 ≤ L ∧ F2 11 = F 11 + 1 ∧ F2 12 = F 12 ∧ F2 13 = F 13 ∧ F2 14 = F 14 ∧ F2 33 = nI (d + 1) → Q none (mh m F2 tl2 (opR R (d + 1) 5 (F 14) (nI r.1) (nI r.2.1)) NL h0, sz)) :
    WW G mX9_step cX9_step X (wZ G mX9_step X Q) 116 [some (.ref m), some (.int x), some (.int 1), some (.int 7), none, none, none] [] (mh m F tl R NL h0, sz) 0 0 := by
  refine ww_aload_n dX9_step_116 rfl rfl ?_
  refine ww_dup dX9_step_117 rfl ?_
  refine mm_geti dX9_step_118 fX9_277 rfl rfl ?_
  refine ww_iconst (v := 1) dX9_step_121 (by decide) ?_
  refine ww_iadd dX9_step_122 ?_
  refine mm_puti dX9_step_123 fX9_277 rfl rfl ?_
  refine ww_aload_n dX9_step_126 rfl rfl ?_
  refine ww_iload_n dX9_step_127 rfl rfl ?_
  obtain ⟨p1, e1⟩ : ∃ q, q = ad b L p := ⟨_, rfl⟩
  have hp1 : p1 ≤ L := by rw [e1]; exact (ad_le hp).2
  refine mm_call0 dX9_step_128 kX9_233 rfl (a9_next (p := p1) (by exact hb) hL hL2 (by rw [e1]; exact T.1) hp1) rfl rfl rfl rfl rfl rfl (Nat.zero_le _) (Nat.zero_le _) ?_
  refine ww_iload_n dX9_step_131 rfl rfl ?_
  refine ww_lookupL [(0, 168), (4, 214), (8, 176)] 249 dX9_step_132 (by decide) (by decide) (by decide) (fun j132 t132 ht132 c132 => ?_) (fun c132 => ?_)
  · rcases j132 with _ | _ | _ | j
    · cases ht132
      exact absurd c132 (by decide)
    · cases ht132
      exact absurd c132 (by decide)
    · cases ht132
      exact absurd c132 (by decide)
    · cases ht132
  · refine ww_aload_n dX9_step_249 rfl rfl ?_
    refine ww_iload_n dX9_step_250 rfl rfl ?_
    obtain ⟨p2, e2⟩ : ∃ q, q = ad b L p1 := ⟨_, rfl⟩
    have hp2 : p2 ≤ L := by rw [e2]; exact (ad_le hp1).2
    by_cases h251 : kd b L p1 = 9 ∧ kv b L p1 ≤ 4
    · refine mm_call1 dX9_step_251 kX9_283 rfl (a9_fdK (by exact hb) hL hL2 hp1 (by exact tokS_nx hp1) (by exact hw) h251) rfl rfl rfl rfl rfl rfl (Nat.zero_le _) (Nat.zero_le _) ?_
      rw [← e2]
      refine ww_istore dX9_step_254 rfl rfl ?_
      refine ww_aload_n dX9_step_256 rfl rfl ?_
      refine ww_bipush (v := 60) dX9_step_257 (by decide) ?_
      refine ww_iload_n dX9_step_259 rfl rfl ?_
      obtain ⟨p3, e3⟩ : ∃ q, q = ad b L p2 := ⟨_, rfl⟩
      have hp3 : p3 ≤ L := by rw [e3]; exact (ad_le hp2).2
      by_cases h260 : kd b L p2 = 14
      · refine mm_call0 dX9_step_260 kX9_247 rfl (a9_tsK (c := 60) (k := 14) (by exact hb) hL hL2 hp2 (by exact tokS_nx hp2) (by exact hw) (by decide) rfl h260) rfl rfl rfl rfl rfl rfl (Nat.zero_le _) (Nat.zero_le _) ?_
        rw [← e3]
        refine ww_aload_n dX9_step_263 rfl rfl ?_
        refine ww_iconst (v := 0) dX9_step_264 (by decide) ?_
        refine ww_bipush (v := 99) dX9_step_265 (by decide) ?_
        refine ww_iload_n dX9_step_267 rfl rfl ?_
        obtain ⟨p4, e4⟩ : ∃ q, q = ad b L p3 := ⟨_, rfl⟩
        have hp4 : p4 ≤ L := by rw [e4]; exact (ad_le hp3).2
        rcases or3 (kd b L p3 = 10) (0 ≤ nu b L p3 ∧ nu b L p3 ≤ 99) with h268 | ⟨h268, g268⟩ | ⟨h268, g268⟩
        · refine mm_call1 dX9_step_268 kX9_264 rfl (a9_nmB1 hp3 (by exact tokS_nx hp3) (by exact hw) h268) rfl rfl rfl rfl rfl rfl (Nat.zero_le _) (Nat.zero_le _) ?_
          refine ww_istore dX9_step_271 rfl rfl ?_
          refine ww_iload_n dX9_step_273 rfl rfl ?_
          refine ww_iconst (v := 5) dX9_step_274 (by decide) ?_
          refine ww_icmp_ne (tgt := 290) dX9_step_275 (by decide) (fun c275 => ?_) (fun c275 => ?_)
          · refine ww_aload_n dX9_step_290 rfl rfl ?_
            refine mm_geti dX9_step_291 fX9_244 rfl rfl ?_
            refine ww_istore dX9_step_294 rfl rfl ?_
            refine ww_aload_n dX9_step_296 rfl rfl ?_
            refine ww_iload_n dX9_step_297 rfl rfl ?_
            refine ww_iconst (v := 5) dX9_step_298 (by decide) ?_
            refine ww_icmp_ne (tgt := 306) dX9_step_299 (by decide) (fun c299 => ?_) (fun c299 => ?_)
            · refine ww_iconst (v := 5) dX9_step_306 (by decide) ?_
              refine ww_iload dX9_step_307 rfl ?_
              refine ww_iload dX9_step_309 rfl ?_
              refine ww_iload dX9_step_311 rfl ?_
              refine ww_iload_n dX9_step_313 rfl rfl ?_
              refine mm_call0 dX9_step_314 kX9_289 rfl (c9_opens (d := d) (c9_takesD (by exact (show ¬ (1 : Int32) = 0 by decide))) (by exact hd) hd5) rfl rfl rfl rfl rfl rfl (Nat.zero_le _) (Nat.zero_le _) ?_
              refine ww_goto (tgt := 320) dX9_step_317 (by decide) ?_
              exact ww_vret dX9_step_320 rfl (hqF _ _ _ _ (1, nS b L p3) (by repeat with_reducible first | exact KF.rf | apply KF.nx | apply KF.up (by decide)) (by repeat with_reducible first | exact KR.rf | apply KR.em | apply KR.op | apply KR.up (by decide)) (show pTst b L (ad b L p) = .inl (1, nS b L p3) by rw [← e1, pTst, fd_ok h251 e2, sb_r, nd_ok h260 e3, sb_r, nm_1 h268, sb_l]) rfl rfl) (Nat.zero_le _) (Nat.zero_le _)
            · exact absurd c299 (by decide)
          · exact absurd c275 (by decide)
        · refine mm_call1 dX9_step_268 kX9_264 rfl (a9_nmB3 (lo := 0) (hi := 99) hp3 (by exact tokS_nx hp3) (by exact hw) (by decide) (by decide) rfl rfl h268 g268) rfl rfl rfl rfl rfl rfl (Nat.zero_le _) (Nat.zero_le _) ?_
          refine ww_istore dX9_step_271 rfl rfl ?_
          refine ww_iload_n dX9_step_273 rfl rfl ?_
          refine ww_iconst (v := 5) dX9_step_274 (by decide) ?_
          refine ww_icmp_ne (tgt := 290) dX9_step_275 (by decide) (fun c275 => ?_) (fun c275 => ?_)
          · refine ww_aload_n dX9_step_290 rfl rfl ?_
            refine mm_geti dX9_step_291 fX9_244 rfl rfl ?_
            refine ww_istore dX9_step_294 rfl rfl ?_
            refine ww_aload_n dX9_step_296 rfl rfl ?_
            refine ww_iload_n dX9_step_297 rfl rfl ?_
            refine ww_iconst (v := 5) dX9_step_298 (by decide) ?_
            refine ww_icmp_ne (tgt := 306) dX9_step_299 (by decide) (fun c299 => ?_) (fun c299 => ?_)
            · refine ww_iconst (v := 5) dX9_step_306 (by decide) ?_
              refine ww_iload dX9_step_307 rfl ?_
              refine ww_iload dX9_step_309 rfl ?_
              refine ww_iload dX9_step_311 rfl ?_
              refine ww_iload_n dX9_step_313 rfl rfl ?_
              refine mm_call0 dX9_step_314 kX9_289 rfl (c9_opens (d := d) (c9_takesD (by exact (show ¬ (3 : Int32) = 0 by decide))) (by exact hd) hd5) rfl rfl rfl rfl rfl rfl (Nat.zero_le _) (Nat.zero_le _) ?_
              refine ww_goto (tgt := 320) dX9_step_317 (by decide) ?_
              exact ww_vret dX9_step_320 rfl (hqF _ _ _ _ (3, nS b L p3) (by repeat with_reducible first | exact KF.rf | apply KF.nx | apply KF.up (by decide)) (by repeat with_reducible first | exact KR.rf | apply KR.em | apply KR.op | apply KR.up (by decide)) (show pTst b L (ad b L p) = .inl (3, nS b L p3) by rw [← e1, pTst, fd_ok h251 e2, sb_r, nd_ok h260 e3, sb_r, nm_3 h268 g268, sb_l]) rfl rfl) (Nat.zero_le _) (Nat.zero_le _)
            · exact absurd c299 (by decide)
          · exact absurd c275 (by decide)
        · refine mm_call1 dX9_step_268 kX9_264 rfl (a9_nmK (lo := 0) (hi := 99) (by exact hb) hL hL2 hp3 (by exact tokS_nx hp3) (by exact hw) (by decide) (by decide) rfl rfl h268 g268) rfl rfl rfl rfl rfl rfl (Nat.zero_le _) (Nat.zero_le _) ?_
          rw [← e4]
          refine ww_istore dX9_step_271 rfl rfl ?_
          refine ww_iload_n dX9_step_273 rfl rfl ?_
          refine ww_iconst (v := 5) dX9_step_274 (by decide) ?_
          refine ww_icmp_ne (tgt := 290) dX9_step_275 (by decide) (fun c275 => ?_) (fun c275 => ?_)
          · refine ww_aload_n dX9_step_290 rfl rfl ?_
            refine mm_geti dX9_step_291 fX9_244 rfl rfl ?_
            refine ww_istore dX9_step_294 rfl rfl ?_
            refine ww_aload_n dX9_step_296 rfl rfl ?_
            refine ww_iload_n dX9_step_297 rfl rfl ?_
            refine ww_iconst (v := 5) dX9_step_298 (by decide) ?_
            refine ww_icmp_ne (tgt := 306) dX9_step_299 (by decide) (fun c299 => ?_) (fun c299 => ?_)
            · refine ww_iconst (v := 5) dX9_step_306 (by decide) ?_
              refine ww_iload dX9_step_307 rfl ?_
              refine ww_iload dX9_step_309 rfl ?_
              refine ww_iload dX9_step_311 rfl ?_
              refine ww_iload_n dX9_step_313 rfl rfl ?_
              obtain ⟨p5, e5⟩ : ∃ q, q = ad b L p4 := ⟨_, rfl⟩
              have hp5 : p5 ≤ L := by rw [e5]; exact (ad_le hp4).2
              by_cases h314 : kd b L p4 = 11
              · refine mm_call0 dX9_step_314 kX9_289 rfl (c9_opens (d := d) (a9_tsK (c := 123) (k := 11) (by exact hb) hL hL2 hp4 (by exact tokS_nx hp4) (by exact hw) (by decide) rfl h314) (by exact hd) hd5) rfl rfl rfl rfl rfl rfl (Nat.zero_le _) (Nat.zero_le _) ?_
                rw [← e5]
                refine ww_goto (tgt := 320) dX9_step_317 (by decide) ?_
                exact ww_vret dX9_step_320 rfl (hqS _ _ (kv b L p1 - 1, nu b L p3, p5) (by repeat with_reducible first | exact KF.rf | apply KF.nx | apply KF.up (by decide)) (show pTst b L (ad b L p) = .inr _ by rw [← e1, pTst, fd_ok h251 e2, sb_r, nd_ok h260 e3, sb_r, nm_ok h268 g268 e4, sb_r, nd_ok h314 e5, sb_r]) ⟨hw, rfl, tokS_up (tokS_nx hp5), hp5, rfl, rfl, rfl, rfl, rfl⟩) (Nat.zero_le _) (Nat.zero_le _)
              · refine mm_call0 dX9_step_314 kX9_289 rfl (c9_opens (d := d) (a9_tsB (c := 123) (k := 11) hp4 (by exact tokS_nx hp4) (by exact hw) (by decide) rfl h314) (by exact hd) hd5) rfl rfl rfl rfl rfl rfl (Nat.zero_le _) (Nat.zero_le _) ?_
                refine ww_goto (tgt := 320) dX9_step_317 (by decide) ?_
                exact ww_vret dX9_step_320 rfl (hqF _ _ _ _ (1, nS b L p4) (by repeat with_reducible first | exact KF.rf | apply KF.nx | apply KF.up (by decide)) (by repeat with_reducible first | exact KR.rf | apply KR.em | apply KR.op | apply KR.up (by decide)) (show pTst b L (ad b L p) = .inl (1, nS b L p4) by rw [← e1, pTst, fd_ok h251 e2, sb_r, nd_ok h260 e3, sb_r, nm_ok h268 g268 e4, sb_r, nd_no h314, sb_l]) rfl rfl) (Nat.zero_le _) (Nat.zero_le _)
            · exact absurd c299 (by decide)
          · exact absurd c275 (by decide)
      · refine mm_call0 dX9_step_260 kX9_247 rfl (a9_tsB (c := 60) (k := 14) hp2 (by exact tokS_nx hp2) (by exact hw) (by decide) rfl h260) rfl rfl rfl rfl rfl rfl (Nat.zero_le _) (Nat.zero_le _) ?_
        refine ww_aload_n dX9_step_263 rfl rfl ?_
        refine ww_iconst (v := 0) dX9_step_264 (by decide) ?_
        refine ww_bipush (v := 99) dX9_step_265 (by decide) ?_
        refine ww_iload_n dX9_step_267 rfl rfl ?_
        refine mm_call1 dX9_step_268 kX9_264 rfl (c9_numberD (by exact (show ¬ (1 : Int32) = 0 by decide))) rfl rfl rfl rfl rfl rfl (Nat.zero_le _) (Nat.zero_le _) ?_
        refine ww_istore dX9_step_271 rfl rfl ?_
        refine ww_iload_n dX9_step_273 rfl rfl ?_
        refine ww_iconst (v := 5) dX9_step_274 (by decide) ?_
        refine ww_icmp_ne (tgt := 290) dX9_step_275 (by decide) (fun c275 => ?_) (fun c275 => ?_)
        · refine ww_aload_n dX9_step_290 rfl rfl ?_
          refine mm_geti dX9_step_291 fX9_244 rfl rfl ?_
          refine ww_istore dX9_step_294 rfl rfl ?_
          refine ww_aload_n dX9_step_296 rfl rfl ?_
          refine ww_iload_n dX9_step_297 rfl rfl ?_
          refine ww_iconst (v := 5) dX9_step_298 (by decide) ?_
          refine ww_icmp_ne (tgt := 306) dX9_step_299 (by decide) (fun c299 => ?_) (fun c299 => ?_)
          · refine ww_iconst (v := 5) dX9_step_306 (by decide) ?_
            refine ww_iload dX9_step_307 rfl ?_
            refine ww_iload dX9_step_309 rfl ?_
            refine ww_iload dX9_step_311 rfl ?_
            refine ww_iload_n dX9_step_313 rfl rfl ?_
            refine mm_call0 dX9_step_314 kX9_289 rfl (c9_opens (d := d) (c9_takesD (by exact (show ¬ (1 : Int32) = 0 by decide))) (by exact hd) hd5) rfl rfl rfl rfl rfl rfl (Nat.zero_le _) (Nat.zero_le _) ?_
            refine ww_goto (tgt := 320) dX9_step_317 (by decide) ?_
            exact ww_vret dX9_step_320 rfl (hqF _ _ _ _ (1, nS b L p2) (by repeat with_reducible first | exact KF.rf | apply KF.nx | apply KF.up (by decide)) (by repeat with_reducible first | exact KR.rf | apply KR.em | apply KR.op | apply KR.up (by decide)) (show pTst b L (ad b L p) = .inl (1, nS b L p2) by rw [← e1, pTst, fd_ok h251 e2, sb_r, nd_no h260, sb_l]) rfl rfl) (Nat.zero_le _) (Nat.zero_le _)
          · exact absurd c299 (by decide)
        · exact absurd c275 (by decide)
    · refine mm_call1 dX9_step_251 kX9_283 rfl (a9_fdB hp1 (by exact tokS_nx hp1) (by exact hw) h251) rfl rfl rfl rfl rfl rfl (Nat.zero_le _) (Nat.zero_le _) ?_
      refine ww_istore dX9_step_254 rfl rfl ?_
      refine ww_aload_n dX9_step_256 rfl rfl ?_
      refine ww_bipush (v := 60) dX9_step_257 (by decide) ?_
      refine ww_iload_n dX9_step_259 rfl rfl ?_
      refine mm_call0 dX9_step_260 kX9_247 rfl (c9_takesD (by exact (show ¬ (1 : Int32) = 0 by decide))) rfl rfl rfl rfl rfl rfl (Nat.zero_le _) (Nat.zero_le _) ?_
      refine ww_aload_n dX9_step_263 rfl rfl ?_
      refine ww_iconst (v := 0) dX9_step_264 (by decide) ?_
      refine ww_bipush (v := 99) dX9_step_265 (by decide) ?_
      refine ww_iload_n dX9_step_267 rfl rfl ?_
      refine mm_call1 dX9_step_268 kX9_264 rfl (c9_numberD (by exact (show ¬ (1 : Int32) = 0 by decide))) rfl rfl rfl rfl rfl rfl (Nat.zero_le _) (Nat.zero_le _) ?_
      refine ww_istore dX9_step_271 rfl rfl ?_
      refine ww_iload_n dX9_step_273 rfl rfl ?_
      refine ww_iconst (v := 5) dX9_step_274 (by decide) ?_
      refine ww_icmp_ne (tgt := 290) dX9_step_275 (by decide) (fun c275 => ?_) (fun c275 => ?_)
      · refine ww_aload_n dX9_step_290 rfl rfl ?_
        refine mm_geti dX9_step_291 fX9_244 rfl rfl ?_
        refine ww_istore dX9_step_294 rfl rfl ?_
        refine ww_aload_n dX9_step_296 rfl rfl ?_
        refine ww_iload_n dX9_step_297 rfl rfl ?_
        refine ww_iconst (v := 5) dX9_step_298 (by decide) ?_
        refine ww_icmp_ne (tgt := 306) dX9_step_299 (by decide) (fun c299 => ?_) (fun c299 => ?_)
        · refine ww_iconst (v := 5) dX9_step_306 (by decide) ?_
          refine ww_iload dX9_step_307 rfl ?_
          refine ww_iload dX9_step_309 rfl ?_
          refine ww_iload dX9_step_311 rfl ?_
          refine ww_iload_n dX9_step_313 rfl rfl ?_
          refine mm_call0 dX9_step_314 kX9_289 rfl (c9_opens (d := d) (c9_takesD (by exact (show ¬ (1 : Int32) = 0 by decide))) (by exact hd) hd5) rfl rfl rfl rfl rfl rfl (Nat.zero_le _) (Nat.zero_le _) ?_
          refine ww_goto (tgt := 320) dX9_step_317 (by decide) ?_
          exact ww_vret dX9_step_320 rfl (hqF _ _ _ _ (1, nS b L p1) (by repeat with_reducible first | exact KF.rf | apply KF.nx | apply KF.up (by decide)) (by repeat with_reducible first | exact KR.rf | apply KR.em | apply KR.op | apply KR.up (by decide)) (show pTst b L (ad b L p) = .inl (1, nS b L p1) by rw [← e1, pTst, fd_no h251, sb_l]) rfl rfl) (Nat.zero_le _) (Nat.zero_le _)
        · exact absurd c299 (by decide)
      · exact absurd c275 (by decide)
set_option maxRecDepth 40000 in
set_option maxHeartbeats 4000000 in
theorem L9_stDo {x : Int32} {b : Nat → Int32} {L p k d c : Nat} {ns : Nat → Nat} {X : wX} {Q : Option Value → wH → Prop} (hb : R 0 = b) (hL : x = nI L) (hL2 : L ≤ 300) (hp : p ≤ L) (T : tokS b L p F tl) (hw : F 7 = 0) (hk : F 14 = nI k) (hk200 : k < 200) (hc : F 12 = nI c) (hc2 : c < 40) (hns : ∀ i, i < c → NL i = lN (ns i) ∧ ns i < 2 ^ 30) (hd : F 33 = nI d) (hd6 : d < 6)
    (hq : ∀ (F2 : Nat → Int32) (tl2 : Int64) (R2 : Nat → Nat → Int32) (NL2 : Nat → Int64), aDoP b L ns c (ad b L p) k d (nxF b L (ad b L p) (upd F 11 (F 11 + 1))) R NL F2 tl2 R2 NL2 → Q none (mh m F2 tl2 R2 NL2 h0, sz)) :
    WW G mX9_step cX9_step X (wZ G mX9_step X Q) 116 [some (.ref m), some (.int x), some (.int 1), some (.int 0), none, none, none] [] (mh m F tl R NL h0, sz) 0 0 := by
  refine ww_aload_n dX9_step_116 rfl rfl ?_
  refine ww_dup dX9_step_117 rfl ?_
  refine mm_geti dX9_step_118 fX9_277 rfl rfl ?_
  refine ww_iconst (v := 1) dX9_step_121 (by decide) ?_
  refine ww_iadd dX9_step_122 ?_
  refine mm_puti dX9_step_123 fX9_277 rfl rfl ?_
  refine ww_aload_n dX9_step_126 rfl rfl ?_
  refine ww_iload_n dX9_step_127 rfl rfl ?_
  obtain ⟨p1, e1⟩ : ∃ q, q = ad b L p := ⟨_, rfl⟩
  have hp1 : p1 ≤ L := by rw [e1]; exact (ad_le hp).2
  refine mm_call0 dX9_step_128 kX9_233 rfl (a9_next (p := p1) (by exact hb) hL hL2 (by rw [e1]; exact T.1) hp1) rfl rfl rfl rfl rfl rfl (Nat.zero_le _) (Nat.zero_le _) ?_
  refine ww_iload_n dX9_step_131 rfl rfl ?_
  refine ww_lookupL [(0, 168), (4, 214), (8, 176)] 249 dX9_step_132 (by decide) (by decide) (by decide) (fun j132 t132 ht132 c132 => ?_) (fun c132 => ?_)
  · rcases j132 with _ | _ | _ | j
    · cases ht132
      refine ww_aload_n dX9_step_168 rfl rfl ?_
      refine ww_iload_n dX9_step_169 rfl rfl ?_
      refine mm_call dX9_step_170 kX9_280 rfl (c9_aDo (b := b) (L := L) (p := p1) (c := c) (k := k) (d := d) (ns := ns) (by exact hb) hL hL2 hp1 (by exact tokS_nx hp1) (by exact hw) (by exact hc) hc2 hns (by exact hk) hk200 (by exact hd) hd6) rfl rfl rfl rfl rfl rfl (Nat.zero_le _) (Nat.zero_le _) (fun v h2 q => ?_)
      obtain ⟨rfl, F2, tl2, R2, NL2, rfl, hP⟩ := q
      refine ww_goto (tgt := 320) dX9_step_173 (by decide) ?_
      exact ww_vret dX9_step_320 rfl (hq _ _ _ _ (by rw [← e1]; exact hP)) (Nat.zero_le _) (Nat.zero_le _)
    · cases ht132
      exact absurd c132 (by decide)
    · cases ht132
      exact absurd c132 (by decide)
    · cases ht132
  · exact absurd rfl (c132 (0, 168) (by decide))
end M14
