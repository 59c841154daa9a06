/-- a step: its word, what it says, and the place behind it; or a fault and its place -/
def pStep (b : Nat → Int32) (L : Nat) (ns : Nat → Nat) (c s d p : Nat) : (Nat × Nat) ⊕ (Nat × Nat × Nat × Int32 × Nat) :=
  if kd b L p = 0 ∨ kd b L p = 8 then
    (if s = 40 then .inl (4, nS b L p) else if kd b L p = 0 then sb (pDo b L ns c (ad b L p)) fun r => .inr (0, r.1, r.2.1, r.2.2.1, r.2.2.2) else sb (pSet b L (ad b L p)) fun r => .inr (8, r.1, r.2.1, 0, r.2.2))
  else if kd b L p = 4 ∨ kd b L p = 5 ∨ kd b L p = 7 then
    (if s = 40 ∨ d = 4 then .inl (4, nS b L p) else if kd b L p = 4 then sb (nd b L 11 (ad b L p)) fun q => .inr (4, 0, 0, 0, q) else sb (pTst b L (ad b L p)) fun r => .inr (kd b L p, r.1, r.2.1, 0, r.2.2))
  else .inl (1, nS b L p)
def stW (b : Nat → Int32) (L : Nat) (c k d p : Nat) (F : Nat → Int32) (R : Nat → Nat → Int32) (NL : Nat → Int64) (F2 : Nat → Int32) (R2 : Nat → Nat → Int32) (NL2 : Nat → Int64) (r : Nat × Nat × Nat × Int32 × Nat) : Prop :=
  if r.1 = 0 then F2 12 = nI (c + 1) ∧ F2 13 = F 13 ∧ F2 14 = nI (k + 1) ∧ F2 33 = F 33 ∧ NL2 = vp_updL NL c (lN (kv b L (ad b L p))) ∧ R2 = doR R c k d r.2.1 r.2.2.1 r.2.2.2.1
  else F2 12 = F 12 ∧ NL2 = NL ∧
    (if r.1 = 8 then F2 13 = F 13 ∧ F2 14 = nI (k + 1) ∧ F2 33 = F 33 ∧ R2 = emR R k 1 (nI r.2.1) (nI r.2.2.1)
     else F2 33 = nI (d + 1) ∧
      (if r.1 = 4 then F2 13 = F 13 + 1 ∧ F2 14 = nI (k + 1) ∧ R2 = opR (emR R k 5 (F 13) 0) (d + 1) 1 (nI k) 0 0
       else F2 13 = F 13 ∧ (if r.1 = 5 then F2 14 = nI (k + 1) ∧ R2 = opR (emR R k 2 (nI r.2.1) (nI r.2.2.1)) (d + 1) 3 (nI k) (nI r.2.1) (nI r.2.2.1)
        else F2 14 = F 14 ∧ R2 = opR R (d + 1) 5 (F 14) (nI r.2.1) (nI r.2.2.1))))
def stepO (b : Nat → Int32) (L : Nat) (ns : Nat → Nat) (c s d p k : Nat) (F : Nat → Int32) (R : Nat → Nat → Int32) (NL : Nat → Int64) (F2 : Nat → Int32) (tl2 : Int64) (R2 : Nat → Nat → Int32) (NL2 : Nat → Int64) : Prop := KF F2 F ∧ KR R2 R ∧ match pStep b L ns c s d p with
  | .inl e => F2 7 = nI e.1 ∧ F2 8 = nI e.2
  | .inr r => F2 7 = 0 ∧ F2 8 = F 8 ∧ tokS b L r.2.2.2.2 F2 tl2 ∧ r.2.2.2.2 ≤ L ∧ F2 11 = nI (s + 1) ∧ stW b L c k d p F R NL F2 R2 NL2 r
theorem KF.tr {F3 F2 F : Nat → Int32} (h1 : KF F3 F2) (h2 : KF F2 F) : KF F3 F := fun k => (h1 k).elim Or.inl (fun e => (h2 k).elim Or.inl (fun e2 => Or.inr (e.trans e2)))
section M15
variable {G : wG} {m : Nat} {F : Nat → Int32} {tl : Int64} {R : Nat → Nat → Int32} {NL : Nat → Int64} {h0 : Nat → Option wE} {sz : Nat}
theorem stO_l {b : Nat → Int32} {L : Nat} {ns : Nat → Nat} {c s d p k : Nat} {F2 : Nat → Int32} {tl2 : Int64} {R2 : Nat → Nat → Int32} {NL2 : Nat → Int64} {e : Nat × Nat} (h : pStep b L ns c s d p = .inl e) (hF : KF F2 F) (hR : KR R2 R) (h7 : F2 7 = nI e.1) (h8 : F2 8 = nI e.2) : stepO b L ns c s d p k F R NL F2 tl2 R2 NL2 := by
  refine ⟨hF, hR, ?_⟩
  rw [h]
  exact ⟨h7, h8⟩
theorem stO_r {b : Nat → Int32} {L : Nat} {ns : Nat → Nat} {c s d p k : Nat} {F2 : Nat → Int32} {tl2 : Int64} {R2 : Nat → Nat → Int32} {NL2 : Nat → Int64} {r : Nat × Nat × Nat × Int32 × Nat} (h : pStep b L ns c s d p = .inr r) (hF : KF F2 F) (hR : KR R2 R) (h3 : F2 7 = 0 ∧ F2 8 = F 8 ∧ tokS b L r.2.2.2.2 F2 tl2 ∧ r.2.2.2.2 ≤ L ∧ F2 11 = nI (s + 1) ∧ stW b L c k d p F R NL F2 R2 NL2 r) : stepO b L ns c s d p k F R NL F2 tl2 R2 NL2 := by
  refine ⟨hF, hR, ?_⟩
  rw [h]
  exact h3

set_option maxRecDepth 40000 in
set_option maxHeartbeats 4000000 in
theorem L9_st77_0 {x : Int32} {b : Nat → Int32} {L p c k d s : Nat} {ns : Nat → Nat} {X : wX} (hb : R 0 = b) (hL : x = nI L) (hL2 : L ≤ 300) (hp : p ≤ L) (T : tokS b L p F tl) (hw : F 7 = 0) (hs : F 11 = nI s) (hs2 : s ≤ 40) (hc : F 12 = nI c) (hcs : c ≤ s) (hns : ∀ i, i < c → NL i = lN (ns i) ∧ ns i < 2 ^ 30) (hk : F 14 = nI k) (hk200 : k < 200) (hd : F 33 = nI d) (hd4 : d ≤ 4) (htl : tl = 0) (hkd : kd b L p = 0) : WW G mX9_step cX9_step X (wZ G mX9_step X (fun v h2 => v = none ∧ ∃ (F2 : Nat → Int32) (tl2 : Int64) (R2 : Nat → Nat → Int32) (NL2 : Nat → Int64), h2 = (mh m F2 tl2 R2 NL2 h0, sz) ∧ stepO b L ns c s d p k F R NL F2 tl2 R2 NL2)) 77 [some (.ref m), some (.int x), some (.int 1), none, none, none, none] [] (mh m F tl R NL h0, sz) 0 0 := by
  subst htl
  refine ww_aload_n dX9_step_77 rfl rfl ?_
  refine mm_getl dX9_step_78 fX9_193 ?_
  refine ww_l2i dX9_step_81 ?_
  refine ww_istore_n dX9_step_82 rfl rfl rfl ?_
  refine ww_aload_n dX9_step_83 rfl rfl ?_
  refine mm_geti dX9_step_84 fX9_277 rfl rfl ?_
  refine ww_bipush (v := 40) dX9_step_87 (by decide) ?_
  refine ww_icmp_eq (tgt := 110) dX9_step_89 (by decide) (fun c89 => ?_) (fun c89 => ?_)
  · have h40 : s = 40 := (nI_eq (b := 40) (by omega) (by decide)).mp (by rw [← hs]; exact c89)
    refine ww_aload_n dX9_step_110 rfl rfl ?_
    refine ww_iconst (v := 4) dX9_step_111 (by decide) ?_
    refine mm_call0 dX9_step_112 kX9_236 rfl (a9_fails hw) rfl rfl rfl rfl rfl rfl (Nat.zero_le _) (Nat.zero_le _) ?_
    exact ww_vret dX9_step_115 rfl ⟨rfl, _, _, _, _, rfl, stO_l (show pStep b L ns c s d p = .inl (4, nS b L p) by unfold pStep; rw [if_pos (by rw [hkd]; decide), if_pos h40]) (KF.up (by decide) (KF.up (by decide) KF.rf)) KR.rf rfl T.2.1⟩ (Nat.zero_le _) (Nat.zero_le _)
  · refine ww_iload_n dX9_step_92 rfl rfl ?_
    refine ww_if_eq (tgt := 116) dX9_step_93 (by decide) (fun c93 => ?_) (fun c93 => ?_)
    · have hs40 : ¬ s = 40 := fun q => c89 (by rw [hs, q]; rfl)
      have hn40 := hs40
      refine L9_stDo (ns := ns) hb hL hL2 hp T hw hk hk200 hc (by omega) hns hd (by omega) (fun F2 tl2 R2 NL2 hP => ?_)
      obtain ⟨hF, hR, hM⟩ := hP
      have hF3 : KF F2 F := hF.tr (KF.nx (KF.up (by decide) KF.rf))
      rcases hpd : pDo b L ns c (ad b L p) with e | r
      · rw [hpd] at hM
        exact ⟨rfl, F2, tl2, R2, NL2, rfl, stO_l (show pStep b L ns c s d p = .inl e by unfold pStep; rw [if_pos (Or.inl hkd), if_neg hn40, if_pos hkd, hpd, sb_l]) hF3 hR hM.1 hM.2⟩
      · rw [hpd] at hM
        obtain ⟨⟨g1, g2, g3, g4, g5, g6, g7, g8, g9⟩, g10, g11⟩ := hM
        exact ⟨rfl, F2, tl2, R2, NL2, rfl, stO_r (show pStep b L ns c s d p = .inr (0, r.1, r.2.1, r.2.2.1, r.2.2.2) by unfold pStep; rw [if_pos (Or.inl hkd), if_neg hn40, if_pos hkd, hpd, sb_r]) hF3 hR ⟨g1, g2, g3, g4, by rw [g5]; exact (show F 11 + 1 = nI (s + 1) by rw [hs]; exact nI_1 s), by unfold stW; rw [if_pos rfl]; exact ⟨g6, g7, g8, g9, g10, g11⟩⟩⟩
    · exact absurd c93 (fun q => q (by decide))
set_option maxRecDepth 40000 in
set_option maxHeartbeats 4000000 in
theorem L9_st77_8 {x : Int32} {b : Nat → Int32} {L p c k d s : Nat} {ns : Nat → Nat} {X : wX} (hb : R 0 = b) (hL : x = nI L) (hL2 : L ≤ 300) (hp : p ≤ L) (T : tokS b L p F tl) (hw : F 7 = 0) (hs : F 11 = nI s) (hs2 : s ≤ 40) (hc : F 12 = nI c) (hcs : c ≤ s) (hns : ∀ i, i < c → NL i = lN (ns i) ∧ ns i < 2 ^ 30) (hk : F 14 = nI k) (hk200 : k < 200) (hd : F 33 = nI d) (hd4 : d ≤ 4) (htl : tl = 8) (hkd : kd b L p = 8) : WW G mX9_step cX9_step X (wZ G mX9_step X (fun v h2 => v = none ∧ ∃ (F2 : Nat → Int32) (tl2 : Int64) (R2 : Nat → Nat → Int32) (NL2 : Nat → Int64), h2 = (mh m F2 tl2 R2 NL2 h0, sz) ∧ stepO b L ns c s d p k F R NL F2 tl2 R2 NL2)) 77 [some (.ref m), some (.int x), some (.int 1), none, none, none, none] [] (mh m F tl R NL h0, sz) 0 0 := by
  subst htl
  refine ww_aload_n dX9_step_77 rfl rfl ?_
  refine mm_getl dX9_step_78 fX9_193 ?_
  refine ww_l2i dX9_step_81 ?_
  refine ww_istore_n dX9_step_82 rfl rfl rfl ?_
  refine ww_aload_n dX9_step_83 rfl rfl ?_
  refine mm_geti dX9_step_84 fX9_277 rfl rfl ?_
  refine ww_bipush (v := 40) dX9_step_87 (by decide) ?_
  refine ww_icmp_eq (tgt := 110) dX9_step_89 (by decide) (fun c89 => ?_) (fun c89 => ?_)
  · have h40 : s = 40 := (nI_eq (b := 40) (by omega) (by decide)).mp (by rw [← hs]; exact c89)
    refine ww_aload_n dX9_step_110 rfl rfl ?_
    refine ww_iconst (v := 4) dX9_step_111 (by decide) ?_
    refine mm_call0 dX9_step_112 kX9_236 rfl (a9_fails hw) rfl rfl rfl rfl rfl rfl (Nat.zero_le _) (Nat.zero_le _) ?_
    exact ww_vret dX9_step_115 rfl ⟨rfl, _, _, _, _, rfl, stO_l (show pStep b L ns c s d p = .inl (4, nS b L p) by unfold pStep; rw [if_pos (by rw [hkd]; decide), if_pos h40]) (KF.up (by decide) (KF.up (by decide) KF.rf)) KR.rf rfl T.2.1⟩ (Nat.zero_le _) (Nat.zero_le _)
  · refine ww_iload_n dX9_step_92 rfl rfl ?_
    refine ww_if_eq (tgt := 116) dX9_step_93 (by decide) (fun c93 => ?_) (fun c93 => ?_)
    · exact absurd c93 (by decide)
    · refine ww_iload_n dX9_step_96 rfl rfl ?_
      refine ww_bipush (v := 8) dX9_step_97 (by decide) ?_
      refine ww_icmp_eq (tgt := 116) dX9_step_99 (by decide) (fun c99 => ?_) (fun c99 => ?_)
      · have hs40 : ¬ s = 40 := fun q => c89 (by rw [hs, q]; rfl)
        have hn40 := hs40
        exact L9_stSet (d := d) hb hL hL2 hp T hw hk hk200 (fun F2 tl2 R2 NL2 e hF hR hS h7 h8 => ⟨rfl, F2, tl2, R2, NL2, rfl, stO_l (show pStep b L ns c s d p = .inl e by unfold pStep; rw [if_pos (Or.inr hkd), if_neg hn40, if_neg (by rw [hkd]; decide), hS, sb_l]) hF hR h7 h8⟩) (fun F2 tl2 r hF hS hf => by obtain ⟨g1, g2, g3, g4, g5, g6, g7, g8, g9⟩ := hf; exact ⟨rfl, F2, tl2, _, NL, rfl, stO_r (show pStep b L ns c s d p = .inr (8, r.1, r.2.1, 0, r.2.2) by unfold pStep; rw [if_pos (Or.inr hkd), if_neg hn40, if_neg (by rw [hkd]; decide), hS, sb_r]) hF (by repeat with_reducible first | exact KR.rf | apply KR.em | apply KR.op | apply KR.up (by decide)) ⟨g1, g2, g3, g4, (by rw [g5, hs]; exact nI_1 s), by unfold stW; rw [if_neg (show ¬ (8 : Nat) = 0 by decide), if_pos rfl]; exact ⟨g6, rfl, g7, g8, g9, rfl⟩⟩⟩)
      · exact absurd c99 (fun q => q (by decide))
set_option maxRecDepth 40000 in
set_option maxHeartbeats 4000000 in
theorem L9_st77_4 {x : Int32} {b : Nat → Int32} {L p c k d s : Nat} {ns : Nat → Nat} {X : wX} (hb : R 0 = b) (hL : x = nI L) (hL2 : L ≤ 300) (hp : p ≤ L) (T : tokS b L p F tl) (hw : F 7 = 0) (hs : F 11 = nI s) (hs2 : s ≤ 40) (hc : F 12 = nI c) (hcs : c ≤ s) (hns : ∀ i, i < c → NL i = lN (ns i) ∧ ns i < 2 ^ 30) (hk : F 14 = nI k) (hk200 : k < 200) (hd : F 33 = nI d) (hd4 : d ≤ 4) (htl : tl = 4) (hkd : kd b L p = 4) : WW G mX9_step cX9_step X (wZ G mX9_step X (fun v h2 => v = none ∧ ∃ (F2 : Nat → Int32) (tl2 : Int64) (R2 : Nat → Nat → Int32) (NL2 : Nat → Int64), h2 = (mh m F2 tl2 R2 NL2 h0, sz) ∧ stepO b L ns c s d p k F R NL F2 tl2 R2 NL2)) 77 [some (.ref m), some (.int x), some (.int 1), none, none, none, none] [] (mh m F tl R NL h0, sz) 0 0 := by
  subst htl
  refine ww_aload_n dX9_step_77 rfl rfl ?_
  refine mm_getl dX9_step_78 fX9_193 ?_
  refine ww_l2i dX9_step_81 ?_
  refine ww_istore_n dX9_step_82 rfl rfl rfl ?_
  refine ww_aload_n dX9_step_83 rfl rfl ?_
  refine mm_geti dX9_step_84 fX9_277 rfl rfl ?_
  refine ww_bipush (v := 40) dX9_step_87 (by decide) ?_
  refine ww_icmp_eq (tgt := 110) dX9_step_89 (by decide) (fun c89 => ?_) (fun c89 => ?_)
  · have h40 : s = 40 ∨ d = 4 := Or.inl ((nI_eq (b := 40) (by omega) (by decide)).mp (by rw [← hs]; exact c89))
    refine ww_aload_n dX9_step_110 rfl rfl ?_
    refine ww_iconst (v := 4) dX9_step_111 (by decide) ?_
    refine mm_call0 dX9_step_112 kX9_236 rfl (a9_fails hw) rfl rfl rfl rfl rfl rfl (Nat.zero_le _) (Nat.zero_le _) ?_
    exact ww_vret dX9_step_115 rfl ⟨rfl, _, _, _, _, rfl, stO_l (show pStep b L ns c s d p = .inl (4, nS b L p) by unfold pStep; rw [if_neg (by rw [hkd]; decide), if_pos (by rw [hkd]; decide), if_pos h40]) (KF.up (by decide) (KF.up (by decide) KF.rf)) KR.rf rfl T.2.1⟩ (Nat.zero_le _) (Nat.zero_le _)
  · refine ww_iload_n dX9_step_92 rfl rfl ?_
    refine ww_if_eq (tgt := 116) dX9_step_93 (by decide) (fun c93 => ?_) (fun c93 => ?_)
    · exact absurd c93 (by decide)
    · refine ww_iload_n dX9_step_96 rfl rfl ?_
      refine ww_bipush (v := 8) dX9_step_97 (by decide) ?_
      refine ww_icmp_eq (tgt := 116) dX9_step_99 (by decide) (fun c99 => ?_) (fun c99 => ?_)
      · exact absurd c99 (by decide)
      · refine ww_aload_n dX9_step_102 rfl rfl ?_
        refine mm_geti dX9_step_103 fX9_251 rfl rfl ?_
        refine ww_iconst (v := 4) dX9_step_106 (by decide) ?_
        refine ww_icmp_ne (tgt := 116) dX9_step_107 (by decide) (fun c107 => ?_) (fun c107 => ?_)
        · have hs40 : ¬ s = 40 := fun q => c89 (by rw [hs, q]; rfl)
          have hd44 : ¬ d = 4 := fun q => c107 (by rw [hd, q]; rfl)
          have hn40 : ¬ (s = 40 ∨ d = 4) := by omega
          exact L9_stBth hb hL hL2 hp T hw hk hk200 hd (by omega) (fun F2 tl2 R2 NL2 e hF hR hS h7 h8 => ⟨rfl, F2, tl2, R2, NL2, rfl, stO_l (show pStep b L ns c s d p = .inl e by unfold pStep; rw [if_neg (by rw [hkd]; decide), if_pos (by rw [hkd]; decide), if_neg hn40, if_pos hkd, hS, sb_l]) hF hR h7 h8⟩) (fun F2 tl2 r hF hS hf => by obtain ⟨g1, g2, g3, g4, g5, g6, g7, g8, g9⟩ := hf; exact ⟨rfl, F2, tl2, _, NL, rfl, stO_r (show pStep b L ns c s d p = .inr (4, 0, 0, 0, r) by unfold pStep; rw [if_neg (by rw [hkd]; decide), if_pos (by rw [hkd]; decide), if_neg hn40, if_pos hkd, hS, sb_r]) hF (by repeat with_reducible first | exact KR.rf | apply KR.em | apply KR.op | apply KR.up (by decide)) ⟨g1, g2, g3, g4, (by rw [g5, hs]; exact nI_1 s), by unfold stW; rw [if_neg (show ¬ (4 : Nat) = 0 by decide), if_neg (show ¬ (4 : Nat) = 8 by decide), if_pos rfl]; exact ⟨g6, rfl, g9, g7, g8, rfl⟩⟩⟩)
        · have h40 : s = 40 ∨ d = 4 := Or.inr ((nI_eq (b := 4) (by omega) (by decide)).mp (by rw [← hd]; exact c107))
          refine ww_aload_n dX9_step_110 rfl rfl ?_
          refine ww_iconst (v := 4) dX9_step_111 (by decide) ?_
          refine mm_call0 dX9_step_112 kX9_236 rfl (a9_fails hw) rfl rfl rfl rfl rfl rfl (Nat.zero_le _) (Nat.zero_le _) ?_
          exact ww_vret dX9_step_115 rfl ⟨rfl, _, _, _, _, rfl, stO_l (show pStep b L ns c s d p = .inl (4, nS b L p) by unfold pStep; rw [if_neg (by rw [hkd]; decide), if_pos (by rw [hkd]; decide), if_pos h40]) (KF.up (by decide) (KF.up (by decide) KF.rf)) KR.rf rfl T.2.1⟩ (Nat.zero_le _) (Nat.zero_le _)
set_option maxRecDepth 40000 in
set_option maxHeartbeats 4000000 in
theorem L9_st77_5 {x : Int32} {b : Nat → Int32} {L p c k d s : Nat} {ns : Nat → Nat} {X : wX} (hb : R 0 = b) (hL : x = nI L) (hL2 : L ≤ 300) (hp : p ≤ L) (T : tokS b L p F tl) (hw : F 7 = 0) (hs : F 11 = nI s) (hs2 : s ≤ 40) (hc : F 12 = nI c) (hcs : c ≤ s) (hns : ∀ i, i < c → NL i = lN (ns i) ∧ ns i < 2 ^ 30) (hk : F 14 = nI k) (hk200 : k < 200) (hd : F 33 = nI d) (hd4 : d ≤ 4) (htl : tl = 5) (hkd : kd b L p = 5) : WW G mX9_step cX9_step X (wZ G mX9_step X (fun v h2 => v = none ∧ ∃ (F2 : Nat → Int32) (tl2 : Int64) (R2 : Nat → Nat → Int32) (NL2 : Nat → Int64), h2 = (mh m F2 tl2 R2 NL2 h0, sz) ∧ stepO b L ns c s d p k F R NL F2 tl2 R2 NL2)) 77 [some (.ref m), some (.int x), some (.int 1), none, none, none, none] [] (mh m F tl R NL h0, sz) 0 0 := by
  subst htl
  refine ww_aload_n dX9_step_77 rfl rfl ?_
  refine mm_getl dX9_step_78 fX9_193 ?_
  refine ww_l2i dX9_step_81 ?_
  refine ww_istore_n dX9_step_82 rfl rfl rfl ?_
  refine ww_aload_n dX9_step_83 rfl rfl ?_
  refine mm_geti dX9_step_84 fX9_277 rfl rfl ?_
  refine ww_bipush (v := 40) dX9_step_87 (by decide) ?_
  refine ww_icmp_eq (tgt := 110) dX9_step_89 (by decide) (fun c89 => ?_) (fun c89 => ?_)
  · have h40 : s = 40 ∨ d = 4 := Or.inl ((nI_eq (b := 40) (by omega) (by decide)).mp (by rw [← hs]; exact c89))
    refine ww_aload_n dX9_step_110 rfl rfl ?_
    refine ww_iconst (v := 4) dX9_step_111 (by decide) ?_
    refine mm_call0 dX9_step_112 kX9_236 rfl (a9_fails hw) rfl rfl rfl rfl rfl rfl (Nat.zero_le _) (Nat.zero_le _) ?_
    exact ww_vret dX9_step_115 rfl ⟨rfl, _, _, _, _, rfl, stO_l (show pStep b L ns c s d p = .inl (4, nS b L p) by unfold pStep; rw [if_neg (by rw [hkd]; decide), if_pos (by rw [hkd]; decide), if_pos h40]) (KF.up (by decide) (KF.up (by decide) KF.rf)) KR.rf rfl T.2.1⟩ (Nat.zero_le _) (Nat.zero_le _)
  · refine ww_iload_n dX9_step_92 rfl rfl ?_
    refine ww_if_eq (tgt := 116) dX9_step_93 (by decide) (fun c93 => ?_) (fun c93 => ?_)
    · exact absurd c93 (by decide)
    · refine ww_iload_n dX9_step_96 rfl rfl ?_
      refine ww_bipush (v := 8) dX9_step_97 (by decide) ?_
      refine ww_icmp_eq (tgt := 116) dX9_step_99 (by decide) (fun c99 => ?_) (fun c99 => ?_)
      · exact absurd c99 (by decide)
      · refine ww_aload_n dX9_step_102 rfl rfl ?_
        refine mm_geti dX9_step_103 fX9_251 rfl rfl ?_
        refine ww_iconst (v := 4) dX9_step_106 (by decide) ?_
        refine ww_icmp_ne (tgt := 116) dX9_step_107 (by decide) (fun c107 => ?_) (fun c107 => ?_)
        · have hs40 : ¬ s = 40 := fun q => c89 (by rw [hs, q]; rfl)
          have hd44 : ¬ d = 4 := fun q => c107 (by rw [hd, q]; rfl)
          have hn40 : ¬ (s = 40 ∨ d = 4) := by omega
          exact L9_stIf hb hL hL2 hp T hw hk hk200 hd (by omega) (fun F2 tl2 R2 NL2 e hF hR hS h7 h8 => ⟨rfl, F2, tl2, R2, NL2, rfl, stO_l (show pStep b L ns c s d p = .inl e by unfold pStep; rw [if_neg (by rw [hkd]; decide), if_pos (by rw [hkd]; decide), if_neg hn40, if_neg (by rw [hkd]; decide), hS, sb_l]) hF hR h7 h8⟩) (fun F2 tl2 r hF hS hf => by obtain ⟨g1, g2, g3, g4, g5, g6, g7, g8, g9⟩ := hf; exact ⟨rfl, F2, tl2, _, NL, rfl, stO_r (show pStep b L ns c s d p = .inr (5, r.1, r.2.1, 0, r.2.2) by unfold pStep; rw [if_neg (by rw [hkd]; decide), if_pos (by rw [hkd]; decide), if_neg hn40, if_neg (by rw [hkd]; decide), hS, sb_r, hkd]) hF (by repeat with_reducible first | exact KR.rf | apply KR.em | apply KR.op | apply KR.up (by decide)) ⟨g1, g2, g3, g4, (by rw [g5, hs]; exact nI_1 s), by unfold stW; rw [if_neg (show ¬ (5 : Nat) = 0 by decide), if_neg (show ¬ (5 : Nat) = 8 by decide), if_neg (show ¬ (5 : Nat) = 4 by decide), if_pos rfl]; exact ⟨g6, rfl, g9, g7, g8, rfl⟩⟩⟩)
        · have h40 : s = 40 ∨ d = 4 := Or.inr ((nI_eq (b := 4) (by omega) (by decide)).mp (by rw [← hd]; exact c107))
          refine ww_aload_n dX9_step_110 rfl rfl ?_
          refine ww_iconst (v := 4) dX9_step_111 (by decide) ?_
          refine mm_call0 dX9_step_112 kX9_236 rfl (a9_fails hw) rfl rfl rfl rfl rfl rfl (Nat.zero_le _) (Nat.zero_le _) ?_
          exact ww_vret dX9_step_115 rfl ⟨rfl, _, _, _, _, rfl, stO_l (show pStep b L ns c s d p = .inl (4, nS b L p) by unfold pStep; rw [if_neg (by rw [hkd]; decide), if_pos (by rw [hkd]; decide), if_pos h40]) (KF.up (by decide) (KF.up (by decide) KF.rf)) KR.rf rfl T.2.1⟩ (Nat.zero_le _) (Nat.zero_le _)
set_option maxRecDepth 40000 in
set_option maxHeartbeats 4000000 in
theorem L9_st77_7 {x : Int32} {b : Nat → Int32} {L p c k d s : Nat} {ns : Nat → Nat} {X : wX} (hb : R 0 = b) (hL : x = nI L) (hL2 : L ≤ 300) (hp : p ≤ L) (T : tokS b L p F tl) (hw : F 7 = 0) (hs : F 11 = nI s) (hs2 : s ≤ 40) (hc : F 12 = nI c) (hcs : c ≤ s) (hns : ∀ i, i < c → NL i = lN (ns i) ∧ ns i < 2 ^ 30) (hk : F 14 = nI k) (hk200 : k < 200) (hd : F 33 = nI d) (hd4 : d ≤ 4) (htl : tl = 7) (hkd : kd b L p = 7) : WW G mX9_step cX9_step X (wZ G mX9_step X (fun v h2 => v = none ∧ ∃ (F2 : Nat → Int32) (tl2 : Int64) (R2 : Nat → Nat → Int32) (NL2 : Nat → Int64), h2 = (mh m F2 tl2 R2 NL2 h0, sz) ∧ stepO b L ns c s d p k F R NL F2 tl2 R2 NL2)) 77 [some (.ref m), some (.int x), some (.int 1), none, none, none, none] [] (mh m F tl R NL h0, sz) 0 0 := by
  subst htl
  refine ww_aload_n dX9_step_77 rfl rfl ?_
  refine mm_getl dX9_step_78 fX9_193 ?_
  refine ww_l2i dX9_step_81 ?_
  refine ww_istore_n dX9_step_82 rfl rfl rfl ?_
  refine ww_aload_n dX9_step_83 rfl rfl ?_
  refine mm_geti dX9_step_84 fX9_277 rfl rfl ?_
  refine ww_bipush (v := 40) dX9_step_87 (by decide) ?_
  refine ww_icmp_eq (tgt := 110) dX9_step_89 (by decide) (fun c89 => ?_) (fun c89 => ?_)
  · have h40 : s = 40 ∨ d = 4 := Or.inl ((nI_eq (b := 40) (by omega) (by decide)).mp (by rw [← hs]; exact c89))
    refine ww_aload_n dX9_step_110 rfl rfl ?_
    refine ww_iconst (v := 4) dX9_step_111 (by decide) ?_
    refine mm_call0 dX9_step_112 kX9_236 rfl (a9_fails hw) rfl rfl rfl rfl rfl rfl (Nat.zero_le _) (Nat.zero_le _) ?_
    exact ww_vret dX9_step_115 rfl ⟨rfl, _, _, _, _, rfl, stO_l (show pStep b L ns c s d p = .inl (4, nS b L p) by unfold pStep; rw [if_neg (by rw [hkd]; decide), if_pos (by rw [hkd]; decide), if_pos h40]) (KF.up (by decide) (KF.up (by decide) KF.rf)) KR.rf rfl T.2.1⟩ (Nat.zero_le _) (Nat.zero_le _)
  · refine ww_iload_n dX9_step_92 rfl rfl ?_
    refine ww_if_eq (tgt := 116) dX9_step_93 (by decide) (fun c93 => ?_) (fun c93 => ?_)
    · exact absurd c93 (by decide)
    · refine ww_iload_n dX9_step_96 rfl rfl ?_
      refine ww_bipush (v := 8) dX9_step_97 (by decide) ?_
      refine ww_icmp_eq (tgt := 116) dX9_step_99 (by decide) (fun c99 => ?_) (fun c99 => ?_)
      · exact absurd c99 (by decide)
      · refine ww_aload_n dX9_step_102 rfl rfl ?_
        refine mm_geti dX9_step_103 fX9_251 rfl rfl ?_
        refine ww_iconst (v := 4) dX9_step_106 (by decide) ?_
        refine ww_icmp_ne (tgt := 116) dX9_step_107 (by decide) (fun c107 => ?_) (fun c107 => ?_)
        · have hs40 : ¬ s = 40 := fun q => c89 (by rw [hs, q]; rfl)
          have hd44 : ¬ d = 4 := fun q => c107 (by rw [hd, q]; rfl)
          have hn40 : ¬ (s = 40 ∨ d = 4) := by omega
          exact L9_stAgn hb hL hL2 hp T hw hk hk200 hd (by omega) (fun F2 tl2 R2 NL2 e hF hR hS h7 h8 => ⟨rfl, F2, tl2, R2, NL2, rfl, stO_l (show pStep b L ns c s d p = .inl e by unfold pStep; rw [if_neg (by rw [hkd]; decide), if_pos (by rw [hkd]; decide), if_neg hn40, if_neg (by rw [hkd]; decide), hS, sb_l]) hF hR h7 h8⟩) (fun F2 tl2 r hF hS hf => by obtain ⟨g1, g2, g3, g4, g5, g6, g7, g8, g9⟩ := hf; exact ⟨rfl, F2, tl2, _, NL, rfl, stO_r (show pStep b L ns c s d p = .inr (7, r.1, r.2.1, 0, r.2.2) by unfold pStep; rw [if_neg (by rw [hkd]; decide), if_pos (by rw [hkd]; decide), if_neg hn40, if_neg (by rw [hkd]; decide), hS, sb_r, hkd]) hF (by repeat with_reducible first | exact KR.rf | apply KR.em | apply KR.op | apply KR.up (by decide)) ⟨g1, g2, g3, g4, (by rw [g5, hs]; exact nI_1 s), by unfold stW; rw [if_neg (show ¬ (7 : Nat) = 0 by decide), if_neg (show ¬ (7 : Nat) = 8 by decide), if_neg (show ¬ (7 : Nat) = 4 by decide), if_neg (show ¬ (7 : Nat) = 5 by decide)]; exact ⟨g6, rfl, g9, g7, g8, rfl⟩⟩⟩)
        · have h40 : s = 40 ∨ d = 4 := Or.inr ((nI_eq (b := 4) (by omega) (by decide)).mp (by rw [← hd]; exact c107))
          refine ww_aload_n dX9_step_110 rfl rfl ?_
          refine ww_iconst (v := 4) dX9_step_111 (by decide) ?_
          refine mm_call0 dX9_step_112 kX9_236 rfl (a9_fails hw) rfl rfl rfl rfl rfl rfl (Nat.zero_le _) (Nat.zero_le _) ?_
          exact ww_vret dX9_step_115 rfl ⟨rfl, _, _, _, _, rfl, stO_l (show pStep b L ns c s d p = .inl (4, nS b L p) by unfold pStep; rw [if_neg (by rw [hkd]; decide), if_pos (by rw [hkd]; decide), if_pos h40]) (KF.up (by decide) (KF.up (by decide) KF.rf)) KR.rf rfl T.2.1⟩ (Nat.zero_le _) (Nat.zero_le _)
set_option maxRecDepth 40000 in
set_option maxHeartbeats 4000000 in
theorem c9_step {x : Int32} {b : Nat → Int32} {L p c k d s : Nat} {ns : Nat → Nat} (hb : R 0 = b) (hL : x = nI L) (hL2 : L ≤ 300) (hp : p ≤ L) (T : tokS b L p F tl) (hw : F 7 = 0) (hs : F 11 = nI s) (hs2 : s ≤ 40) (hc : F 12 = nI c) (hcs : c ≤ s) (hns : ∀ i, i < c → NL i = lN (ns i) ∧ ns i < 2 ^ 30) (hk : F 14 = nI k) (hk200 : k < 200) (hd : F 33 = nI d) (hd4 : d ≤ 4) : Sat G mX9_step [.ref m, .int x] (mh m F tl R NL h0, sz) (fun v h2 => v = none ∧ ∃ (F2 : Nat → Int32) (tl2 : Int64) (R2 : Nat → Nat → Int32) (NL2 : Nat → Int64), h2 = (mh m F2 tl2 R2 NL2 h0, sz) ∧ stepO b L ns c s d p k F R NL F2 tl2 R2 NL2) := by
  refine Sat.of (by decide) [some (.ref m), some (.int x), none, none, none, none, none] rfl rfl (fun X => ?_)
  refine ww_aload_n dX9_step_0 rfl rfl ?_
  refine mm_geti dX9_step_1 fX9_197 rfl rfl ?_
  refine ww_iconst (v := 2) dX9_step_4 (by decide) ?_
  refine ww_icmp_ne (tgt := 65) dX9_step_5 (by decide) (fun c5 => ?_) (fun c5 => ?_)
  · refine ww_iconst (v := 0) dX9_step_65 (by decide) ?_
    refine ww_istore_n dX9_step_66 rfl rfl rfl ?_
    refine ww_iload_n dX9_step_67 rfl rfl ?_
    refine ww_if_ne (tgt := 77) dX9_step_68 (by decide) (fun c68 => ?_) (fun c68 => ?_)
    · exact absurd c68 (fun q => q rfl)
    · have hno : ∀ w, w < 9 → ¬ kd b L p = w := fun w hw9 q => c5 (by rw [T.2.2.1]; exact ((tk_w w hw9).mpr q).1)
      refine ww_aload_n dX9_step_71 rfl rfl ?_
      refine ww_iconst (v := 1) dX9_step_72 (by decide) ?_
      refine mm_call0 dX9_step_73 kX9_236 rfl (a9_fails hw) rfl rfl rfl rfl rfl rfl (Nat.zero_le _) (Nat.zero_le _) ?_
      exact ww_vret dX9_step_76 rfl ⟨rfl, _, _, _, _, rfl, stO_l (show pStep b L ns c s d p = .inl (1, nS b L p) by unfold pStep; rw [if_neg (fun q => q.elim (hno 0 (by decide)) (hno 8 (by decide))), if_neg (fun q => q.elim (hno 4 (by decide)) (fun q => q.elim (hno 5 (by decide)) (hno 7 (by decide))))]) (KF.up (by decide) (KF.up (by decide) KF.rf)) KR.rf rfl T.2.1⟩ (Nat.zero_le _) (Nat.zero_le _)
  · refine ww_aload_n dX9_step_8 rfl rfl ?_
    refine mm_getl dX9_step_9 fX9_193 ?_
    refine ww_lconst (v := 0) dX9_step_12 (by decide) ?_
    refine ww_lcmp dX9_step_13 ?_
    refine ww_if_eq (tgt := 61) dX9_step_14 (by decide) (fun c14 => ?_) (fun c14 => ?_)
    · refine ww_iconst (v := 1) dX9_step_61 (by decide) ?_
      refine ww_goto (tgt := 66) dX9_step_62 (by decide) ?_
      refine ww_istore_n dX9_step_66 rfl rfl rfl ?_
      refine ww_iload_n dX9_step_67 rfl rfl ?_
      refine ww_if_ne (tgt := 77) dX9_step_68 (by decide) (fun c68 => ?_) (fun c68 => ?_)
      · have htl : tl = 0 := (lgc_eq _ _).mp c14
        have hkd : kd b L p = 0 := (tk_w 0 (by decide)).mp ⟨by rw [← T.2.2.1]; exact c5, by rw [← T.2.2.2.1]; exact htl⟩
        exact L9_st77_0 hb hL hL2 hp T hw hs hs2 hc hcs hns hk hk200 hd hd4 htl hkd
      · exact absurd c68 (by decide)
    · refine ww_aload_n dX9_step_17 rfl rfl ?_
      refine mm_getl dX9_step_18 fX9_193 ?_
      refine ww_ldc2 dX9_step_21 qX9_271 ?_
      refine ww_lcmp dX9_step_24 ?_
      refine ww_if_eq (tgt := 61) dX9_step_25 (by decide) (fun c25 => ?_) (fun c25 => ?_)
      · refine ww_iconst (v := 1) dX9_step_61 (by decide) ?_
        refine ww_goto (tgt := 66) dX9_step_62 (by decide) ?_
        refine ww_istore_n dX9_step_66 rfl rfl rfl ?_
        refine ww_iload_n dX9_step_67 rfl rfl ?_
        refine ww_if_ne (tgt := 77) dX9_step_68 (by decide) (fun c68 => ?_) (fun c68 => ?_)
        · have htl : tl = 8 := (lgc_eq _ _).mp c25
          have hkd : kd b L p = 8 := (tk_w 8 (by decide)).mp ⟨by rw [← T.2.2.1]; exact c5, by rw [← T.2.2.2.1]; exact htl⟩
          exact L9_st77_8 hb hL hL2 hp T hw hs hs2 hc hcs hns hk hk200 hd hd4 htl hkd
        · exact absurd c68 (by decide)
      · refine ww_aload_n dX9_step_28 rfl rfl ?_
        refine mm_getl dX9_step_29 fX9_193 ?_
        refine ww_ldc2 dX9_step_32 qX9_242 ?_
        refine ww_lcmp dX9_step_35 ?_
        refine ww_if_eq (tgt := 61) dX9_step_36 (by decide) (fun c36 => ?_) (fun c36 => ?_)
        · refine ww_iconst (v := 1) dX9_step_61 (by decide) ?_
          refine ww_goto (tgt := 66) dX9_step_62 (by decide) ?_
          refine ww_istore_n dX9_step_66 rfl rfl rfl ?_
          refine ww_iload_n dX9_step_67 rfl rfl ?_
          refine ww_if_ne (tgt := 77) dX9_step_68 (by decide) (fun c68 => ?_) (fun c68 => ?_)
          · have htl : tl = 4 := (lgc_eq _ _).mp c36
            have hkd : kd b L p = 4 := (tk_w 4 (by decide)).mp ⟨by rw [← T.2.2.1]; exact c5, by rw [← T.2.2.2.1]; exact htl⟩
            exact L9_st77_4 hb hL hL2 hp T hw hs hs2 hc hcs hns hk hk200 hd hd4 htl hkd
          · exact absurd c68 (by decide)
        · refine ww_aload_n dX9_step_39 rfl rfl ?_
          refine mm_getl dX9_step_40 fX9_193 ?_
          refine ww_ldc2 dX9_step_43 qX9_273 ?_
          refine ww_lcmp dX9_step_46 ?_
          refine ww_if_eq (tgt := 61) dX9_step_47 (by decide) (fun c47 => ?_) (fun c47 => ?_)
          · refine ww_iconst (v := 1) dX9_step_61 (by decide) ?_
            refine ww_goto (tgt := 66) dX9_step_62 (by decide) ?_
            refine ww_istore_n dX9_step_66 rfl rfl rfl ?_
            refine ww_iload_n dX9_step_67 rfl rfl ?_
            refine ww_if_ne (tgt := 77) dX9_step_68 (by decide) (fun c68 => ?_) (fun c68 => ?_)
            · have htl : tl = 5 := (lgc_eq _ _).mp c47
              have hkd : kd b L p = 5 := (tk_w 5 (by decide)).mp ⟨by rw [← T.2.2.1]; exact c5, by rw [← T.2.2.2.1]; exact htl⟩
              exact L9_st77_5 hb hL hL2 hp T hw hs hs2 hc hcs hns hk hk200 hd hd4 htl hkd
            · exact absurd c68 (by decide)
          · refine ww_aload_n dX9_step_50 rfl rfl ?_
            refine mm_getl dX9_step_51 fX9_193 ?_
            refine ww_ldc2 dX9_step_54 qX9_275 ?_
            refine ww_lcmp dX9_step_57 ?_
            refine ww_if_ne (tgt := 65) dX9_step_58 (by decide) (fun c58 => ?_) (fun c58 => ?_)
            · refine ww_iconst (v := 0) dX9_step_65 (by decide) ?_
              refine ww_istore_n dX9_step_66 rfl rfl rfl ?_
              refine ww_iload_n dX9_step_67 rfl rfl ?_
              refine ww_if_ne (tgt := 77) dX9_step_68 (by decide) (fun c68 => ?_) (fun c68 => ?_)
              · exact absurd c68 (fun q => q rfl)
              · have hno : ∀ w, (w = 0 ∨ w = 8 ∨ w = 4 ∨ w = 5 ∨ w = 7) → ¬ kd b L p = w := by
                  intro w hw9 q
                  have z := ((tk_w w (by omega)).mpr q).2
                  rw [← T.2.2.2.1] at z
                  rcases hw9 with e | e | e | e | e <;> subst e
                  · exact c14 ((lgc_eq _ _).mpr z)
                  · exact c25 ((lgc_eq _ _).mpr z)
                  · exact c36 ((lgc_eq _ _).mpr z)
                  · exact c47 ((lgc_eq _ _).mpr z)
                  · exact c58 ((lgc_eq _ _).mpr z)
                refine ww_aload_n dX9_step_71 rfl rfl ?_
                refine ww_iconst (v := 1) dX9_step_72 (by decide) ?_
                refine mm_call0 dX9_step_73 kX9_236 rfl (a9_fails hw) rfl rfl rfl rfl rfl rfl (Nat.zero_le _) (Nat.zero_le _) ?_
                exact ww_vret dX9_step_76 rfl ⟨rfl, _, _, _, _, rfl, stO_l (show pStep b L ns c s d p = .inl (1, nS b L p) by unfold pStep; rw [if_neg (fun q => q.elim (hno 0 (by decide)) (hno 8 (by decide))), if_neg (fun q => q.elim (hno 4 (by decide)) (fun q => q.elim (hno 5 (by decide)) (hno 7 (by decide))))]) (KF.up (by decide) (KF.up (by decide) KF.rf)) KR.rf rfl T.2.1⟩ (Nat.zero_le _) (Nat.zero_le _)
            · refine ww_iconst (v := 1) dX9_step_61 (by decide) ?_
              refine ww_goto (tgt := 66) dX9_step_62 (by decide) ?_
              refine ww_istore_n dX9_step_66 rfl rfl rfl ?_
              refine ww_iload_n dX9_step_67 rfl rfl ?_
              refine ww_if_ne (tgt := 77) dX9_step_68 (by decide) (fun c68 => ?_) (fun c68 => ?_)
              · have htl : tl = 7 := (lgc_eq _ _).mp c58
                have hkd : kd b L p = 7 := (tk_w 7 (by decide)).mp ⟨by rw [← T.2.2.1]; exact c5, by rw [← T.2.2.2.1]; exact htl⟩
                exact L9_st77_7 hb hL hL2 hp T hw hs hs2 hc hcs hns hk hk200 hd hd4 htl hkd
              · exact absurd c68 (by decide)
end M15
