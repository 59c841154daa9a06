/-- of the parser alone: fields and rows that nothing else looks at before they are set again -/
def KF (F2 F : Nat → Int32) : Prop := ∀ k, (k = 2 ∨ k = 3 ∨ k = 4 ∨ k = 6 ∨ k = 7 ∨ k = 8 ∨ k = 11 ∨ k = 12 ∨ k = 13 ∨ k = 14 ∨ k = 33) ∨ F2 k = F k
def KR (R2 R : Nat → Nat → Int32) : Prop := ∀ k, (15 ≤ k ∧ k ≤ 22 ∨ 34 ≤ k ∧ k ≤ 39) ∨ R2 k = R k
theorem KF.rf {F : Nat → Int32} : KF F F := fun _ => Or.inr rfl
theorem KR.rf {R : Nat → Nat → Int32} : KR R R := fun _ => Or.inr rfl
theorem KF.nx {F2 F : Nat → Int32} {b : Nat → Int32} {L p : Nat} (h : KF F2 F) : KF (nxF b L p F2) F := by
  intro k
  rcases h k with q | q
  · exact Or.inl q
  · by_cases e : k = 2 ∨ k = 3 ∨ k = 4 ∨ k = 6
    · exact Or.inl (by omega)
    · refine Or.inr ?_
      unfold nxF
      rw [if_neg (by omega), if_neg (by omega), if_neg (by omega), if_neg (by omega)]
      exact q
theorem KF.up {F2 F : Nat → Int32} {j : Nat} {v : Int32} (hj : j = 2 ∨ j = 3 ∨ j = 4 ∨ j = 6 ∨ j = 7 ∨ j = 8 ∨ j = 11 ∨ j = 12 ∨ j = 13 ∨ j = 14 ∨ j = 33) (h : KF F2 F) : KF (upd F2 j v) F := by
  intro k
  by_cases e : k = j
  · exact Or.inl (by omega)
  · rcases h k with q | q
    · exact Or.inl q
    · exact Or.inr (by simp [upd, e, q])
theorem KR.up {R2 R : Nat → Nat → Int32} {j : Nat} {g : Nat → Int32} (hj : 15 ≤ j ∧ j ≤ 22 ∨ 34 ≤ j ∧ j ≤ 39) (h : KR R2 R) : KR (va_up R2 j g) R := by
  intro k
  by_cases e : k = j
  · exact Or.inl (by omega)
  · rcases h k with q | q
    · exact Or.inl q
    · exact Or.inr (by simp [va_up, e, q])
theorem KR.em {R2 R : Nat → Nat → Int32} {k : Nat} {q a c : Int32} (h : KR R2 R) : KR (emR R2 k q a c) R := by
  unfold emR
  exact KR.up (by omega) (KR.up (by omega) (KR.up (by omega) (KR.up (by omega) h)))
theorem KR.op {R2 R : Nat → Nat → Int32} {d : Nat} {q a f n : Int32} (h : KR R2 R) : KR (opR R2 d q a f n) R := by
  unfold opR
  exact KR.up (by omega) (KR.up (by omega) (KR.up (by omega) (KR.up (by omega) (KR.up (by omega) h))))
theorem nd_ok {b : Nat → Int32} {L k p q : Nat} (h : kd b L p = k) (e : q = ad b L p) : nd b L k p = .inr q := by rw [nd, if_pos h, e]
theorem nd_no {b : Nat → Int32} {L k p : Nat} (h : ¬ kd b L p = k) : nd b L k p = .inl (1, nS b L p) := by rw [nd, if_neg h]
theorem nm_ok {b : Nat → Int32} {L lo hi p q : Nat} (h : kd b L p = 10) (hr : lo ≤ nu b L p ∧ nu b L p ≤ hi) (e : q = ad b L p) : nm b L lo hi p = .inr (nu b L p, q) := by rw [nm, if_pos h, if_pos hr, e]
theorem nm_1 {b : Nat → Int32} {L lo hi p : Nat} (h : ¬ kd b L p = 10) : nm b L lo hi p = .inl (1, nS b L p) := by rw [nm, if_neg h]
theorem nm_3 {b : Nat → Int32} {L lo hi p : Nat} (h : kd b L p = 10) (hr : ¬ (lo ≤ nu b L p ∧ nu b L p ≤ hi)) : nm b L lo hi p = .inl (3, nS b L p) := by rw [nm, if_pos h, if_neg hr]
theorem fd_ok {b : Nat → Int32} {L p q : Nat} (h : kd b L p = 9 ∧ kv b L p ≤ 4) (e : q = ad b L p) : fd b L p = .inr (kv b L p - 1, q) := by rw [fd, if_pos h, e]
theorem fd_no {b : Nat → Int32} {L p : Nat} (h : ¬ (kd b L p = 9 ∧ kv b L p ≤ 4)) : fd b L p = .inl (1, nS b L p) := by rw [fd, if_neg h]
theorem sb_r {α β : Type} (a : α) (f : α → (Nat × Nat) ⊕ β) : sb (.inr a) f = f a := rfl
theorem sb_l {α β : Type} (e : Nat × Nat) (f : α → (Nat × Nat) ⊕ β) : sb (.inl e) f = .inl e := rfl
def eyP (b : Nat → Int32) (L : Nat) (ns : Nat → Nat) (c p : Nat) : (Nat × Nat) ⊕ (Int32 × Nat) :=
  if kd b L p = 3 then (if kd b L (ad b L p) = 9 ∧ 2 ≤ kl b L (ad b L p) then (match fnd ns (kv b L (ad b L p)) c with | none => .inl (2, nS b L (ad b L p)) | some i => .inr (nI i, ad b L (ad b L p))) else .inl (1, nS b L (ad b L p))) else .inr (-1, p)
/-- do: its role, hours and eyes, and the place behind it; or a fault and its place -/
def pDo (b : Nat → Int32) (L : Nat) (ns : Nat → Nat) (c p : Nat) : (Nat × Nat) ⊕ (Nat × Nat × Int32 × Nat) :=
  if kd b L p = 9 ∧ 2 ≤ kl b L p then
    (match fnd ns (kv b L p) c with
     | some _ => .inl (2, nS b L p)
     | none => sb (nd b L 1 (ad b L p)) fun p2 => sb (nm b L 0 5 p2) fun r => sb (nd b L 2 r.2) fun p4 => sb (nm b L 1 99 p4) fun d => sb (eyP b L (va_up ns c (kv b L p)) (c + 1) d.2) fun e => sb (nd b L 13 e.2) fun p7 => .inr (r.1, d.1, e.1, p7))
  else .inl (1, nS b L p)
def doR (R : Nat → Nat → Int32) (c k d r h : Nat) (e : Int32) : Nat → Nat → Int32 := va_up (emR (va_up (va_up (va_up R 20 (upd (R 20) c (nI r))) 21 (upd (R 21) c (nI h))) 22 (upd (R 22) c e)) k 0 (nI c) 0) 38 (upd (R 38) d 1)
def aDoP (b : Nat → Int32) (L : Nat) (ns : Nat → Nat) (c p k d : Nat) (F : Nat → Int32) (R : Nat → Nat → Int32) (NL : Nat → Int64) (F2 : Nat → Int32) (tl2 : Int64) (R2 : Nat → Nat → Int32) (NL2 : Nat → Int64) : Prop := KF F2 F ∧ KR R2 R ∧ match pDo b L ns c p with
  | .inl e => F2 7 = nI e.1 ∧ F2 8 = nI e.2
  | .inr r => (F2 7 = 0 ∧ F2 8 = F 8 ∧ tokS b L r.2.2.2 F2 tl2 ∧ r.2.2.2 ≤ L ∧ F2 11 = F 11 ∧ F2 12 = nI (c + 1) ∧ F2 13 = F 13 ∧ F2 14 = nI (k + 1) ∧ F2 33 = F 33) ∧ NL2 = vp_updL NL c (lN (kv b L p)) ∧ R2 = doR R c k d r.1 r.2.1 r.2.2.1
theorem aDoP_l {b : Nat → Int32} {L : Nat} {ns : Nat → Nat} {c p k d : Nat} {F : Nat → Int32} {R : Nat → Nat → Int32} {NL : Nat → Int64} {F2 : Nat → Int32} {tl2 : Int64} {R2 : Nat → Nat → Int32} {NL2 : Nat → Int64} {e : Nat × Nat} (h : pDo b L ns c p = .inl e) (hF : KF F2 F) (hR : KR R2 R) (h7 : F2 7 = nI e.1) (h8 : F2 8 = nI e.2) : aDoP b L ns c p k d F R NL F2 tl2 R2 NL2 := by
  refine ⟨hF, hR, ?_⟩
  rw [h]
  exact ⟨h7, h8⟩
section M13
variable {G : wG} {m : Nat} {F : Nat → Int32} {tl : Int64} {R : Nat → Nat → Int32} {NL : Nat → Int64} {h0 : Nat → Option wE} {sz : Nat}
theorem a9_fails {f : Int32} (hw : F 7 = 0) : Sat G mX9_fails [.ref m, .int f] (mh m F tl R NL h0, sz) (Det none (mh m (upd (upd F 7 f) 8 (F 3)) tl R NL h0, sz)) := by
  have h := c9_fails (G := G) (m := m) (F := F) (tl := tl) (R := R) (NL := NL) (h0 := h0) (sz := sz) (f := f)
  rw [if_pos hw] at h
  exact h
theorem nm_yes {b : Nat → Int32} {L p : Nat} {F : Nat → Int32} {tl : Int64} (h4 : F 4 = 1) (h6 : 2 ≤ F 6) (T : tokS b L p F tl) (hp : p ≤ L) : (kd b L p = 9 ∧ 2 ≤ kl b L p) ∧ tl = lN (kv b L p) ∧ kv b L p < 2 ^ 30 := by
  have hk := (tnm_iff T hp).mp h4
  obtain ⟨a1, a2, a3, a4, a5, a6, -, -⟩ := tkn T hp hk
  exact ⟨⟨hk, (nI_leI (a := 2) (by decide) (Nat.lt_of_le_of_lt a4 (by decide))).mp (by rw [← a1]; exact h6)⟩, a2, a6⟩
theorem nm_not {b : Nat → Int32} {L p : Nat} {F : Nat → Int32} {tl : Int64} (h : ¬ F 4 = 1 ∨ ¬ 2 ≤ F 6) (T : tokS b L p F tl) (hp : p ≤ L) : ¬ (kd b L p = 9 ∧ 2 ≤ kl b L p) := by
  rintro ⟨hk, h2⟩
  obtain ⟨a1, a2, a3, a4, a5, a6, -, -⟩ := tkn T hp hk
  rcases h with q | q
  · exact q ((tnm_iff T hp).mpr hk)
  · exact q (by rw [a1]; exact nI_le (a := 2) h2 (Nat.lt_of_le_of_lt a4 (by decide)))
theorem or3 (A B : Prop) : ¬ A ∨ (A ∧ ¬ B) ∨ (A ∧ B) := by
  by_cases a : A
  · by_cases b : B
    · exact Or.inr (Or.inr ⟨a, b⟩)
    · exact Or.inr (Or.inl ⟨a, b⟩)
  · exact Or.inl a
theorem w_lt31 {n k : Nat} (h : n < k) (hk : k ≤ 2 ^ 31 := by decide) : n < 2 ^ 31 := Nat.lt_of_lt_of_le h hk
theorem w_le31 {n k : Nat} (h : n ≤ k) (hk : k < 2 ^ 31 := by decide) : n < 2 ^ 31 := Nat.lt_of_le_of_lt h hk
theorem dn_neg {x : Option Nat} {c : Nat} (hx : ∀ i, x = some i → i < c) (hc : c < 2 ^ 31) : onI x < 0 ↔ x = none := by
  cases x with
  | none => exact ⟨fun _ => rfl, fun _ => by decide⟩
  | some i => exact ⟨fun h => absurd h (nI_pos (Nat.lt_trans (hx i rfl) hc)), fun h => by cases h⟩

theorem tokS_up {b : Nat → Int32} {L p j : Nat} {F : Nat → Int32} {tl : Int64} {v : Int32} (h : tokS b L p F tl) (hj : j ≠ 2 ∧ j ≠ 3 ∧ j ≠ 4 ∧ j ≠ 6 := by decide) : tokS b L p (upd F j v) tl := by
  obtain ⟨h1, h2, h3, h4, h5⟩ := h
  exact ⟨by simp [upd, hj.1.symm]; exact h1, by simp [upd, hj.2.1.symm]; exact h2, by simp [upd, hj.2.2.1.symm]; exact h3, h4, fun q => by simp [upd, hj.2.2.2.symm]; exact h5 q⟩
set_option maxRecDepth 40000 in
set_option maxHeartbeats 4000000 in
theorem c9_aDo {x : Int32} {b : Nat → Int32} {L p c k d : Nat} {ns : Nat → Nat} (hb : R 0 = b) (hL : x = nI L) (hL2 : L ≤ 300) (hp : p ≤ L) (T : tokS b L p F tl) (hw : F 7 = 0) (hc : F 12 = nI c) (hc2 : c < 40) (hns : ∀ i, i < c → NL i = lN (ns i) ∧ ns i < 2 ^ 30) (hk : F 14 = nI k) (hk200 : k < 200) (hd : F 33 = nI d) (hd2 : d < 6) : Sat G mX9_aDo [.ref m, .int x] (mh m F tl R NL h0, sz) (fun v h2 => v = none ∧ ∃ (F2 : Nat → Int32) (tl2 : Int64) (R2 : Nat → Nat → Int32) (NL2 : Nat → Int64), h2 = (mh m F2 tl2 R2 NL2 h0, sz) ∧ aDoP b L ns c p k d F R NL F2 tl2 R2 NL2) := by
  refine Sat.of (by decide) [some (.ref m), some (.int x), none, none] rfl rfl (fun X => ?_)
  have h14 : F 14 + 1 = nI (k + 1) := by rw [hk]; exact nI_1 k
  refine ww_aload_n dX9_aDo_0 rfl rfl ?_
  refine mm_call1 dX9_aDo_1 kX9_225 rfl c9_isWellB rfl rfl rfl rfl rfl rfl (Nat.zero_le _) (Nat.zero_le _) ?_
  refine ww_if_eq (tgt := 23) dX9_aDo_4 (by decide) (fun c4 => ?_) (fun c4 => ?_)
  · exact absurd c4 (wb_ne0.mpr (decide_eq_true hw))
  · refine ww_aload_n dX9_aDo_7 rfl rfl ?_
    refine mm_geti dX9_aDo_8 fX9_197 rfl rfl ?_
    refine ww_iconst (v := 1) dX9_aDo_11 (by decide) ?_
    refine ww_icmp_ne (tgt := 23) dX9_aDo_12 (by decide) (fun c12 => ?_) (fun c12 => ?_)
    · have hno : ¬ (kd b L p = 9 ∧ 2 ≤ kl b L p) := fun q => c12 ((tnm_iff T hp).mpr q.1)
      refine ww_aload_n dX9_aDo_23 rfl rfl ?_
      refine ww_iconst (v := 1) dX9_aDo_24 (by decide) ?_
      refine mm_call0 dX9_aDo_25 kX9_236 rfl (a9_fails hw) rfl rfl rfl rfl rfl rfl (Nat.zero_le _) (Nat.zero_le _) ?_
      exact ww_vret dX9_aDo_28 rfl ⟨rfl, _, _, _, _, rfl, aDoP_l (show pDo b L ns c p = .inl (1, nS b L p) by unfold pDo; rw [if_neg hno]) (by repeat with_reducible first | exact KF.rf | apply KF.nx | apply KF.up (by decide)) (by repeat with_reducible first | exact KR.rf | apply KR.em | apply KR.up (by decide)) rfl (by first | rfl | exact T.2.1)⟩ (Nat.zero_le _) (Nat.zero_le _)
    · refine ww_aload_n dX9_aDo_15 rfl rfl ?_
      refine mm_geti dX9_aDo_16 fX9_204 rfl rfl ?_
      refine ww_iconst (v := 2) dX9_aDo_19 (by decide) ?_
      refine ww_icmp_ge (tgt := 29) dX9_aDo_20 (by decide) (fun c20 => ?_) (fun c20 => ?_)
      · have hk9 : kd b L p = 9 := (tnm_iff T hp).mp c12
        obtain ⟨hl6, htl, hl1, hl2, hv1, hv2, -, -⟩ := tkn T hp hk9
        have hk2 : 2 ≤ kl b L p := (nI_leI (a := 2) (by decide) (w_le31 hl2)).mp (by rw [← hl6]; exact c20)
        have hdn : dnm NL tl c = onI (fnd ns (kv b L p) c) := by rw [htl]; exact dnm_fnd (w_lt31 hv2) c (fun i hi => ⟨(hns i hi).1, w_lt31 (hns i hi).2⟩)
        refine ww_aload_n dX9_aDo_29 rfl rfl ?_
        refine ww_aload_n dX9_aDo_30 rfl rfl ?_
        refine mm_getl dX9_aDo_31 fX9_193 ?_
        refine mm_call1 dX9_aDo_34 kX9_257 rfl (c9_doNamed hc (by omega)) rfl rfl rfl rfl rfl rfl (Nat.zero_le _) (Nat.zero_le _) ?_
        refine ww_if_lt (tgt := 46) dX9_aDo_37 (by decide) (fun c37 => ?_) (fun c37 => ?_)
        · have hfn : fnd ns (kv b L p) c = none := (dn_neg (fun i hi => (fnd_lt hi).1) (by omega)).mp (by rw [← hdn]; exact c37)
          have h12 : F 12 + 1 = nI (c + 1) := by rw [hc]; exact nI_1 c
          refine ww_aload_n dX9_aDo_46 rfl rfl ?_
          refine mm_geti dX9_aDo_47 fX9_254 rfl rfl ?_
          refine ww_istore_n dX9_aDo_50 rfl rfl rfl ?_
          refine ww_aload_n dX9_aDo_51 rfl rfl ?_
          refine mm_getr dX9_aDo_52 fX9_33 rfl ?_
          refine ww_iload_n dX9_aDo_55 rfl rfl ?_
          refine ww_aload_n dX9_aDo_56 rfl rfl ?_
          refine mm_getl dX9_aDo_57 fX9_193 ?_
          refine mm_last dX9_aDo_60 hc (by omega) ?_
          refine ww_aload_n dX9_aDo_61 rfl rfl ?_
          refine ww_dup dX9_aDo_62 rfl ?_
          refine mm_geti dX9_aDo_63 fX9_254 rfl rfl ?_
          refine ww_iconst (v := 1) dX9_aDo_66 (by decide) ?_
          refine ww_iadd dX9_aDo_67 ?_
          refine mm_puti dX9_aDo_68 fX9_254 rfl rfl ?_
          refine ww_aload_n dX9_aDo_71 rfl rfl ?_
          refine ww_iload_n dX9_aDo_72 rfl rfl ?_
          obtain ⟨p1, e1⟩ : ∃ q, q = ad b L p := ⟨_, rfl⟩
          have hp1 : p1 ≤ L := by rw [e1]; exact (ad_le hp).2
          refine mm_call0 dX9_aDo_73 kX9_233 rfl (a9_next (p := p1) (by exact hb) hL hL2 (by rw [e1]; exact T.1) hp1) rfl rfl rfl rfl rfl rfl (Nat.zero_le _) (Nat.zero_le _) ?_
          refine ww_aload_n dX9_aDo_76 rfl rfl ?_
          refine ww_iconst (v := 1) dX9_aDo_77 (by decide) ?_
          refine ww_iload_n dX9_aDo_78 rfl rfl ?_
          obtain ⟨p2, e2⟩ : ∃ q, q = ad b L p1 := ⟨_, rfl⟩
          have hp2 : p2 ≤ L := by rw [e2]; exact (ad_le hp1).2
          by_cases h79 : kd b L p1 = 1
          · refine mm_call0 dX9_aDo_79 kX9_261 rfl (a9_twK (w := 1) (by exact hb) hL hL2 hp1 (by exact tokS_nx hp1) (by exact hw) (by decide) rfl h79) rfl rfl rfl rfl rfl rfl (Nat.zero_le _) (Nat.zero_le _) ?_
            rw [← e2]
            refine ww_aload_n dX9_aDo_82 rfl rfl ?_
            refine mm_getr dX9_aDo_83 fX9_37 rfl ?_
            refine ww_iload_n dX9_aDo_86 rfl rfl ?_
            refine ww_aload_n dX9_aDo_87 rfl rfl ?_
            refine ww_iconst (v := 0) dX9_aDo_88 (by decide) ?_
            refine ww_iconst (v := 5) dX9_aDo_89 (by decide) ?_
            refine ww_iload_n dX9_aDo_90 rfl rfl ?_
            obtain ⟨p3, e3⟩ : ∃ q, q = ad b L p2 := ⟨_, rfl⟩
            have hp3 : p3 ≤ L := by rw [e3]; exact (ad_le hp2).2
            rcases or3 (kd b L p2 = 10) (0 ≤ nu b L p2 ∧ nu b L p2 ≤ 5) with h91 | ⟨h91, g91⟩ | ⟨h91, g91⟩
            · refine mm_call1 dX9_aDo_91 kX9_264 rfl (a9_nmB1 hp2 (by exact tokS_nx hp2) (by exact hw) h91) rfl rfl rfl rfl rfl rfl (Nat.zero_le _) (Nat.zero_le _) ?_
              refine mm_iast dX9_aDo_94 rfl hc (by omega) rfl rfl ?_
              refine ww_aload_n dX9_aDo_95 rfl rfl ?_
              refine ww_iconst (v := 2) dX9_aDo_96 (by decide) ?_
              refine ww_iload_n dX9_aDo_97 rfl rfl ?_
              refine mm_call0 dX9_aDo_98 kX9_261 rfl (c9_takesWordD (by exact (show ¬ (1 : Int32) = 0 by decide))) rfl rfl rfl rfl rfl rfl (Nat.zero_le _) (Nat.zero_le _) ?_
              refine ww_aload_n dX9_aDo_101 rfl rfl ?_
              refine mm_getr dX9_aDo_102 fX9_40 rfl ?_
              refine ww_iload_n dX9_aDo_105 rfl rfl ?_
              refine ww_aload_n dX9_aDo_106 rfl rfl ?_
              refine ww_iconst (v := 1) dX9_aDo_107 (by decide) ?_
              refine ww_bipush (v := 99) dX9_aDo_108 (by decide) ?_
              refine ww_iload_n dX9_aDo_110 rfl rfl ?_
              refine mm_call1 dX9_aDo_111 kX9_264 rfl (c9_numberD (by exact (show ¬ (1 : Int32) = 0 by decide))) rfl rfl rfl rfl rfl rfl (Nat.zero_le _) (Nat.zero_le _) ?_
              refine mm_iast dX9_aDo_114 rfl hc (by omega) rfl rfl ?_
              refine ww_aload_n dX9_aDo_115 rfl rfl ?_
              refine mm_getr dX9_aDo_116 fX9_43 rfl ?_
              refine ww_iload_n dX9_aDo_119 rfl rfl ?_
              refine ww_iconst (v := -1) dX9_aDo_120 (by decide) ?_
              refine mm_iast dX9_aDo_121 rfl hc (by omega) rfl rfl ?_
              refine ww_aload_n dX9_aDo_122 rfl rfl ?_
              refine ww_iconst (v := 3) dX9_aDo_123 (by decide) ?_
              refine mm_call1 dX9_aDo_124 kX9_239 rfl c9_isWord rfl rfl rfl rfl rfl rfl (Nat.zero_le _) (Nat.zero_le _) ?_
              refine ww_if_eq (tgt := 201) dX9_aDo_127 (by decide) (fun c127 => ?_) (fun c127 => ?_)
              · refine ww_aload_n dX9_aDo_201 rfl rfl ?_
                refine ww_bipush (v := 59) dX9_aDo_202 (by decide) ?_
                refine ww_iload_n dX9_aDo_204 rfl rfl ?_
                refine mm_call0 dX9_aDo_205 kX9_247 rfl (c9_takesD (by exact (show ¬ (1 : Int32) = 0 by decide))) rfl rfl rfl rfl rfl rfl (Nat.zero_le _) (Nat.zero_le _) ?_
                refine ww_aload_n dX9_aDo_208 rfl rfl ?_
                refine ww_iconst (v := 0) dX9_aDo_209 (by decide) ?_
                refine ww_iload_n dX9_aDo_210 rfl rfl ?_
                refine ww_iconst (v := 0) dX9_aDo_211 (by decide) ?_
                refine mm_call1 dX9_aDo_212 kX9_268 rfl (c9_emits (k := k) (by exact hk) hk200) rfl rfl rfl rfl rfl rfl (Nat.zero_le _) (Nat.zero_le _) ?_
                refine ww_istore_n dX9_aDo_215 rfl rfl rfl ?_
                refine ww_aload_n dX9_aDo_216 rfl rfl ?_
                refine mm_getr dX9_aDo_217 fX9_82 rfl ?_
                refine ww_aload_n dX9_aDo_220 rfl rfl ?_
                refine mm_geti dX9_aDo_221 fX9_251 rfl rfl ?_
                refine ww_iconst (v := 1) dX9_aDo_224 (by decide) ?_
                refine mm_zast dX9_aDo_225 rfl (show _ = nI d by exact hd) (by omega) rfl rfl ?_
                exact ww_vret dX9_aDo_226 rfl ⟨rfl, _, _, _, _, rfl, aDoP_l (show pDo b L ns c p = .inl (1, nS b L p2) by unfold pDo; rw [if_pos ⟨hk9, hk2⟩, hfn]; dsimp only; rw [← e1, nd_ok h79 e2, sb_r, nm_1 h91, sb_l]) (by repeat with_reducible first | exact KF.rf | apply KF.nx | apply KF.up (by decide)) (by repeat with_reducible first | exact KR.rf | apply KR.em | apply KR.up (by decide)) rfl (by first | rfl | exact T.2.1)⟩ (Nat.zero_le _) (Nat.zero_le _)
              · exact absurd c127 (fun q => q (wb_eq0.mpr (by rw [sgB, decide_eq_false (by exact (show ¬ (1 : Int32) = 0 by decide))]; rfl)))
            · refine mm_call1 dX9_aDo_91 kX9_264 rfl (a9_nmB3 (lo := 0) (hi := 5) hp2 (by exact tokS_nx hp2) (by exact hw) (by decide) (by decide) rfl rfl h91 g91) rfl rfl rfl rfl rfl rfl (Nat.zero_le _) (Nat.zero_le _) ?_
              refine mm_iast dX9_aDo_94 rfl hc (by omega) rfl rfl ?_
              refine ww_aload_n dX9_aDo_95 rfl rfl ?_
              refine ww_iconst (v := 2) dX9_aDo_96 (by decide) ?_
              refine ww_iload_n dX9_aDo_97 rfl rfl ?_
              refine mm_call0 dX9_aDo_98 kX9_261 rfl (c9_takesWordD (by exact (show ¬ (3 : Int32) = 0 by decide))) rfl rfl rfl rfl rfl rfl (Nat.zero_le _) (Nat.zero_le _) ?_
              refine ww_aload_n dX9_aDo_101 rfl rfl ?_
              refine mm_getr dX9_aDo_102 fX9_40 rfl ?_
              refine ww_iload_n dX9_aDo_105 rfl rfl ?_
              refine ww_aload_n dX9_aDo_106 rfl rfl ?_
              refine ww_iconst (v := 1) dX9_aDo_107 (by decide) ?_
              refine ww_bipush (v := 99) dX9_aDo_108 (by decide) ?_
              refine ww_iload_n dX9_aDo_110 rfl rfl ?_
              refine mm_call1 dX9_aDo_111 kX9_264 rfl (c9_numberD (by exact (show ¬ (3 : Int32) = 0 by decide))) rfl rfl rfl rfl rfl rfl (Nat.zero_le _) (Nat.zero_le _) ?_
              refine mm_iast dX9_aDo_114 rfl hc (by omega) rfl rfl ?_
              refine ww_aload_n dX9_aDo_115 rfl rfl ?_
              refine mm_getr dX9_aDo_116 fX9_43 rfl ?_
              refine ww_iload_n dX9_aDo_119 rfl rfl ?_
              refine ww_iconst (v := -1) dX9_aDo_120 (by decide) ?_
              refine mm_iast dX9_aDo_121 rfl hc (by omega) rfl rfl ?_
              refine ww_aload_n dX9_aDo_122 rfl rfl ?_
              refine ww_iconst (v := 3) dX9_aDo_123 (by decide) ?_
              refine mm_call1 dX9_aDo_124 kX9_239 rfl c9_isWord rfl rfl rfl rfl rfl rfl (Nat.zero_le _) (Nat.zero_le _) ?_
              refine ww_if_eq (tgt := 201) dX9_aDo_127 (by decide) (fun c127 => ?_) (fun c127 => ?_)
              · refine ww_aload_n dX9_aDo_201 rfl rfl ?_
                refine ww_bipush (v := 59) dX9_aDo_202 (by decide) ?_
                refine ww_iload_n dX9_aDo_204 rfl rfl ?_
                refine mm_call0 dX9_aDo_205 kX9_247 rfl (c9_takesD (by exact (show ¬ (3 : Int32) = 0 by decide))) rfl rfl rfl rfl rfl rfl (Nat.zero_le _) (Nat.zero_le _) ?_
                refine ww_aload_n dX9_aDo_208 rfl rfl ?_
                refine ww_iconst (v := 0) dX9_aDo_209 (by decide) ?_
                refine ww_iload_n dX9_aDo_210 rfl rfl ?_
                refine ww_iconst (v := 0) dX9_aDo_211 (by decide) ?_
                refine mm_call1 dX9_aDo_212 kX9_268 rfl (c9_emits (k := k) (by exact hk) hk200) rfl rfl rfl rfl rfl rfl (Nat.zero_le _) (Nat.zero_le _) ?_
                refine ww_istore_n dX9_aDo_215 rfl rfl rfl ?_
                refine ww_aload_n dX9_aDo_216 rfl rfl ?_
                refine mm_getr dX9_aDo_217 fX9_82 rfl ?_
                refine ww_aload_n dX9_aDo_220 rfl rfl ?_
                refine mm_geti dX9_aDo_221 fX9_251 rfl rfl ?_
                refine ww_iconst (v := 1) dX9_aDo_224 (by decide) ?_
                refine mm_zast dX9_aDo_225 rfl (show _ = nI d by exact hd) (by omega) rfl rfl ?_
                exact ww_vret dX9_aDo_226 rfl ⟨rfl, _, _, _, _, rfl, aDoP_l (show pDo b L ns c p = .inl (3, nS b L p2) by unfold pDo; rw [if_pos ⟨hk9, hk2⟩, hfn]; dsimp only; rw [← e1, nd_ok h79 e2, sb_r, nm_3 h91 g91, sb_l]) (by repeat with_reducible first | exact KF.rf | apply KF.nx | apply KF.up (by decide)) (by repeat with_reducible first | exact KR.rf | apply KR.em | apply KR.up (by decide)) rfl (by first | rfl | exact T.2.1)⟩ (Nat.zero_le _) (Nat.zero_le _)
              · exact absurd c127 (fun q => q (wb_eq0.mpr (by rw [sgB, decide_eq_false (by exact (show ¬ (3 : Int32) = 0 by decide))]; rfl)))
            · refine mm_call1 dX9_aDo_91 kX9_264 rfl (a9_nmK (lo := 0) (hi := 5) (by exact hb) hL hL2 hp2 (by exact tokS_nx hp2) (by exact hw) (by decide) (by decide) rfl rfl h91 g91) rfl rfl rfl rfl rfl rfl (Nat.zero_le _) (Nat.zero_le _) ?_
              rw [← e3]
              refine mm_iast dX9_aDo_94 rfl hc (by omega) rfl rfl ?_
              refine ww_aload_n dX9_aDo_95 rfl rfl ?_
              refine ww_iconst (v := 2) dX9_aDo_96 (by decide) ?_
              refine ww_iload_n dX9_aDo_97 rfl rfl ?_
              obtain ⟨p4, e4⟩ : ∃ q, q = ad b L p3 := ⟨_, rfl⟩
              have hp4 : p4 ≤ L := by rw [e4]; exact (ad_le hp3).2
              by_cases h98 : kd b L p3 = 2
              · refine mm_call0 dX9_aDo_98 kX9_261 rfl (a9_twK (w := 2) (by exact hb) hL hL2 hp3 (by exact tokS_nx hp3) (by exact hw) (by decide) rfl h98) rfl rfl rfl rfl rfl rfl (Nat.zero_le _) (Nat.zero_le _) ?_
                rw [← e4]
                refine ww_aload_n dX9_aDo_101 rfl rfl ?_
                refine mm_getr dX9_aDo_102 fX9_40 rfl ?_
                refine ww_iload_n dX9_aDo_105 rfl rfl ?_
                refine ww_aload_n dX9_aDo_106 rfl rfl ?_
                refine ww_iconst (v := 1) dX9_aDo_107 (by decide) ?_
                refine ww_bipush (v := 99) dX9_aDo_108 (by decide) ?_
                refine ww_iload_n dX9_aDo_110 rfl rfl ?_
                obtain ⟨p5, e5⟩ : ∃ q, q = ad b L p4 := ⟨_, rfl⟩
                have hp5 : p5 ≤ L := by rw [e5]; exact (ad_le hp4).2
                rcases or3 (kd b L p4 = 10) (1 ≤ nu b L p4 ∧ nu b L p4 ≤ 99) with h111 | ⟨h111, g111⟩ | ⟨h111, g111⟩
                · refine mm_call1 dX9_aDo_111 kX9_264 rfl (a9_nmB1 hp4 (by exact tokS_nx hp4) (by exact hw) h111) rfl rfl rfl rfl rfl rfl (Nat.zero_le _) (Nat.zero_le _) ?_
                  refine mm_iast dX9_aDo_114 rfl hc (by omega) rfl rfl ?_
                  refine ww_aload_n dX9_aDo_115 rfl rfl ?_
                  refine mm_getr dX9_aDo_116 fX9_43 rfl ?_
                  refine ww_iload_n dX9_aDo_119 rfl rfl ?_
                  refine ww_iconst (v := -1) dX9_aDo_120 (by decide) ?_
                  refine mm_iast dX9_aDo_121 rfl hc (by omega) rfl rfl ?_
                  refine ww_aload_n dX9_aDo_122 rfl rfl ?_
                  refine ww_iconst (v := 3) dX9_aDo_123 (by decide) ?_
                  refine mm_call1 dX9_aDo_124 kX9_239 rfl c9_isWord rfl rfl rfl rfl rfl rfl (Nat.zero_le _) (Nat.zero_le _) ?_
                  refine ww_if_eq (tgt := 201) dX9_aDo_127 (by decide) (fun c127 => ?_) (fun c127 => ?_)
                  · refine ww_aload_n dX9_aDo_201 rfl rfl ?_
                    refine ww_bipush (v := 59) dX9_aDo_202 (by decide) ?_
                    refine ww_iload_n dX9_aDo_204 rfl rfl ?_
                    refine mm_call0 dX9_aDo_205 kX9_247 rfl (c9_takesD (by exact (show ¬ (1 : Int32) = 0 by decide))) rfl rfl rfl rfl rfl rfl (Nat.zero_le _) (Nat.zero_le _) ?_
                    refine ww_aload_n dX9_aDo_208 rfl rfl ?_
                    refine ww_iconst (v := 0) dX9_aDo_209 (by decide) ?_
                    refine ww_iload_n dX9_aDo_210 rfl rfl ?_
                    refine ww_iconst (v := 0) dX9_aDo_211 (by decide) ?_
                    refine mm_call1 dX9_aDo_212 kX9_268 rfl (c9_emits (k := k) (by exact hk) hk200) rfl rfl rfl rfl rfl rfl (Nat.zero_le _) (Nat.zero_le _) ?_
                    refine ww_istore_n dX9_aDo_215 rfl rfl rfl ?_
                    refine ww_aload_n dX9_aDo_216 rfl rfl ?_
                    refine mm_getr dX9_aDo_217 fX9_82 rfl ?_
                    refine ww_aload_n dX9_aDo_220 rfl rfl ?_
                    refine mm_geti dX9_aDo_221 fX9_251 rfl rfl ?_
                    refine ww_iconst (v := 1) dX9_aDo_224 (by decide) ?_
                    refine mm_zast dX9_aDo_225 rfl (show _ = nI d by exact hd) (by omega) rfl rfl ?_
                    exact ww_vret dX9_aDo_226 rfl ⟨rfl, _, _, _, _, rfl, aDoP_l (show pDo b L ns c p = .inl (1, nS b L p4) by unfold pDo; rw [if_pos ⟨hk9, hk2⟩, hfn]; dsimp only; rw [← e1, nd_ok h79 e2, sb_r, nm_ok h91 g91 e3, sb_r, nd_ok h98 e4, sb_r, nm_1 h111, sb_l]) (by repeat with_reducible first | exact KF.rf | apply KF.nx | apply KF.up (by decide)) (by repeat with_reducible first | exact KR.rf | apply KR.em | apply KR.up (by decide)) rfl (by first | rfl | exact T.2.1)⟩ (Nat.zero_le _) (Nat.zero_le _)
                  · exact absurd c127 (fun q => q (wb_eq0.mpr (by rw [sgB, decide_eq_false (by exact (show ¬ (1 : Int32) = 0 by decide))]; rfl)))
                · refine mm_call1 dX9_aDo_111 kX9_264 rfl (a9_nmB3 (lo := 1) (hi := 99) hp4 (by exact tokS_nx hp4) (by exact hw) (by decide) (by decide) rfl rfl h111 g111) rfl rfl rfl rfl rfl rfl (Nat.zero_le _) (Nat.zero_le _) ?_
                  refine mm_iast dX9_aDo_114 rfl hc (by omega) rfl rfl ?_
                  refine ww_aload_n dX9_aDo_115 rfl rfl ?_
                  refine mm_getr dX9_aDo_116 fX9_43 rfl ?_
                  refine ww_iload_n dX9_aDo_119 rfl rfl ?_
                  refine ww_iconst (v := -1) dX9_aDo_120 (by decide) ?_
                  refine mm_iast dX9_aDo_121 rfl hc (by omega) rfl rfl ?_
                  refine ww_aload_n dX9_aDo_122 rfl rfl ?_
                  refine ww_iconst (v := 3) dX9_aDo_123 (by decide) ?_
                  refine mm_call1 dX9_aDo_124 kX9_239 rfl c9_isWord rfl rfl rfl rfl rfl rfl (Nat.zero_le _) (Nat.zero_le _) ?_
                  refine ww_if_eq (tgt := 201) dX9_aDo_127 (by decide) (fun c127 => ?_) (fun c127 => ?_)
                  · refine ww_aload_n dX9_aDo_201 rfl rfl ?_
                    refine ww_bipush (v := 59) dX9_aDo_202 (by decide) ?_
                    refine ww_iload_n dX9_aDo_204 rfl rfl ?_
                    refine mm_call0 dX9_aDo_205 kX9_247 rfl (c9_takesD (by exact (show ¬ (3 : Int32) = 0 by decide))) rfl rfl rfl rfl rfl rfl (Nat.zero_le _) (Nat.zero_le _) ?_
                    refine ww_aload_n dX9_aDo_208 rfl rfl ?_
                    refine ww_iconst (v := 0) dX9_aDo_209 (by decide) ?_
                    refine ww_iload_n dX9_aDo_210 rfl rfl ?_
                    refine ww_iconst (v := 0) dX9_aDo_211 (by decide) ?_
                    refine mm_call1 dX9_aDo_212 kX9_268 rfl (c9_emits (k := k) (by exact hk) hk200) rfl rfl rfl rfl rfl rfl (Nat.zero_le _) (Nat.zero_le _) ?_
                    refine ww_istore_n dX9_aDo_215 rfl rfl rfl ?_
                    refine ww_aload_n dX9_aDo_216 rfl rfl ?_
                    refine mm_getr dX9_aDo_217 fX9_82 rfl ?_
                    refine ww_aload_n dX9_aDo_220 rfl rfl ?_
                    refine mm_geti dX9_aDo_221 fX9_251 rfl rfl ?_
                    refine ww_iconst (v := 1) dX9_aDo_224 (by decide) ?_
                    refine mm_zast dX9_aDo_225 rfl (show _ = nI d by exact hd) (by omega) rfl rfl ?_
                    exact ww_vret dX9_aDo_226 rfl ⟨rfl, _, _, _, _, rfl, aDoP_l (show pDo b L ns c p = .inl (3, nS b L p4) by unfold pDo; rw [if_pos ⟨hk9, hk2⟩, hfn]; dsimp only; rw [← e1, nd_ok h79 e2, sb_r, nm_ok h91 g91 e3, sb_r, nd_ok h98 e4, sb_r, nm_3 h111 g111, sb_l]) (by repeat with_reducible first | exact KF.rf | apply KF.nx | apply KF.up (by decide)) (by repeat with_reducible first | exact KR.rf | apply KR.em | apply KR.up (by decide)) rfl (by first | rfl | exact T.2.1)⟩ (Nat.zero_le _) (Nat.zero_le _)
                  · exact absurd c127 (fun q => q (wb_eq0.mpr (by rw [sgB, decide_eq_false (by exact (show ¬ (3 : Int32) = 0 by decide))]; rfl)))
                · refine mm_call1 dX9_aDo_111 kX9_264 rfl (a9_nmK (lo := 1) (hi := 99) (by exact hb) hL hL2 hp4 (by exact tokS_nx hp4) (by exact hw) (by decide) (by decide) rfl rfl h111 g111) rfl rfl rfl rfl rfl rfl (Nat.zero_le _) (Nat.zero_le _) ?_
                  rw [← e5]
                  refine mm_iast dX9_aDo_114 rfl hc (by omega) rfl rfl ?_
                  refine ww_aload_n dX9_aDo_115 rfl rfl ?_
                  refine mm_getr dX9_aDo_116 fX9_43 rfl ?_
                  refine ww_iload_n dX9_aDo_119 rfl rfl ?_
                  refine ww_iconst (v := -1) dX9_aDo_120 (by decide) ?_
                  refine mm_iast dX9_aDo_121 rfl hc (by omega) rfl rfl ?_
                  refine ww_aload_n dX9_aDo_122 rfl rfl ?_
                  refine ww_iconst (v := 3) dX9_aDo_123 (by decide) ?_
                  refine mm_call1 dX9_aDo_124 kX9_239 rfl c9_isWord rfl rfl rfl rfl rfl rfl (Nat.zero_le _) (Nat.zero_le _) ?_
                  refine ww_if_eq (tgt := 201) dX9_aDo_127 (by decide) (fun c127 => ?_) (fun c127 => ?_)
                  · have h124 : ¬ kd b L p5 = 3 := of_decide_eq_false (by rw [← tw_iff (w := 3) (tokS_nx hp5) (by exact hw) (by decide)]; exact wb_eq0.mp c127)
                    refine ww_aload_n dX9_aDo_201 rfl rfl ?_
                    refine ww_bipush (v := 59) dX9_aDo_202 (by decide) ?_
                    refine ww_iload_n dX9_aDo_204 rfl rfl ?_
                    obtain ⟨p6, e6⟩ : ∃ q, q = ad b L p5 := ⟨_, rfl⟩
                    have hp6 : p6 ≤ L := by rw [e6]; exact (ad_le hp5).2
                    by_cases h205 : kd b L p5 = 13
                    · refine mm_call0 dX9_aDo_205 kX9_247 rfl (a9_tsK (c := 59) (k := 13) (by exact hb) hL hL2 hp5 (by exact tokS_nx hp5) (by exact hw) (by decide) rfl h205) rfl rfl rfl rfl rfl rfl (Nat.zero_le _) (Nat.zero_le _) ?_
                      rw [← e6]
                      refine ww_aload_n dX9_aDo_208 rfl rfl ?_
                      refine ww_iconst (v := 0) dX9_aDo_209 (by decide) ?_
                      refine ww_iload_n dX9_aDo_210 rfl rfl ?_
                      refine ww_iconst (v := 0) dX9_aDo_211 (by decide) ?_
                      refine mm_call1 dX9_aDo_212 kX9_268 rfl (c9_emits (k := k) (by exact hk) hk200) rfl rfl rfl rfl rfl rfl (Nat.zero_le _) (Nat.zero_le _) ?_
                      refine ww_istore_n dX9_aDo_215 rfl rfl rfl ?_
                      refine ww_aload_n dX9_aDo_216 rfl rfl ?_
                      refine mm_getr dX9_aDo_217 fX9_82 rfl ?_
                      refine ww_aload_n dX9_aDo_220 rfl rfl ?_
                      refine mm_geti dX9_aDo_221 fX9_251 rfl rfl ?_
                      refine ww_iconst (v := 1) dX9_aDo_224 (by decide) ?_
                      refine mm_zast dX9_aDo_225 rfl (show _ = nI d by exact hd) (by omega) rfl rfl ?_
                      exact ww_vret dX9_aDo_226 rfl ⟨rfl, _, _, _, _, rfl, (by repeat with_reducible first | exact KF.rf | apply KF.nx | apply KF.up (by decide)), (by repeat with_reducible first | exact KR.rf | apply KR.em | apply KR.up (by decide)), by rw [show pDo b L ns c p = .inr (nu b L p2, nu b L p4, (-1 : Int32), p6) by unfold pDo; rw [if_pos ⟨hk9, hk2⟩, hfn]; dsimp only; rw [← e1, nd_ok h79 e2, sb_r, nm_ok h91 g91 e3, sb_r, nd_ok h98 e4, sb_r, nm_ok h111 g111 e5, sb_r, eyP, if_neg h124, sb_r, nd_ok h205 e6, sb_r]]; exact ⟨⟨hw, rfl, tokS_up (tokS_nx hp6), hp6, rfl, h12, rfl, rfl, rfl⟩, by rw [htl], by rw [hc]; rfl⟩⟩ (Nat.zero_le _) (Nat.zero_le _)
                    · refine mm_call0 dX9_aDo_205 kX9_247 rfl (a9_tsB (c := 59) (k := 13) hp5 (by exact tokS_nx hp5) (by exact hw) (by decide) rfl h205) rfl rfl rfl rfl rfl rfl (Nat.zero_le _) (Nat.zero_le _) ?_
                      refine ww_aload_n dX9_aDo_208 rfl rfl ?_
                      refine ww_iconst (v := 0) dX9_aDo_209 (by decide) ?_
                      refine ww_iload_n dX9_aDo_210 rfl rfl ?_
                      refine ww_iconst (v := 0) dX9_aDo_211 (by decide) ?_
                      refine mm_call1 dX9_aDo_212 kX9_268 rfl (c9_emits (k := k) (by exact hk) hk200) rfl rfl rfl rfl rfl rfl (Nat.zero_le _) (Nat.zero_le _) ?_
                      refine ww_istore_n dX9_aDo_215 rfl rfl rfl ?_
                      refine ww_aload_n dX9_aDo_216 rfl rfl ?_
                      refine mm_getr dX9_aDo_217 fX9_82 rfl ?_
                      refine ww_aload_n dX9_aDo_220 rfl rfl ?_
                      refine mm_geti dX9_aDo_221 fX9_251 rfl rfl ?_
                      refine ww_iconst (v := 1) dX9_aDo_224 (by decide) ?_
                      refine mm_zast dX9_aDo_225 rfl (show _ = nI d by exact hd) (by omega) rfl rfl ?_
                      exact ww_vret dX9_aDo_226 rfl ⟨rfl, _, _, _, _, rfl, aDoP_l (show pDo b L ns c p = .inl (1, nS b L p5) by unfold pDo; rw [if_pos ⟨hk9, hk2⟩, hfn]; dsimp only; rw [← e1, nd_ok h79 e2, sb_r, nm_ok h91 g91 e3, sb_r, nd_ok h98 e4, sb_r, nm_ok h111 g111 e5, sb_r, eyP, if_neg h124, sb_r, nd_no h205, sb_l]) (by repeat with_reducible first | exact KF.rf | apply KF.nx | apply KF.up (by decide)) (by repeat with_reducible first | exact KR.rf | apply KR.em | apply KR.up (by decide)) rfl (by first | rfl | exact T.2.1)⟩ (Nat.zero_le _) (Nat.zero_le _)
                  · have h124 : kd b L p5 = 3 := of_decide_eq_true (by rw [← tw_iff (w := 3) (tokS_nx hp5) (by exact hw) (by decide)]; exact wb_ne0.mp c127)
                    refine ww_aload_n dX9_aDo_130 rfl rfl ?_
                    refine ww_iload_n dX9_aDo_131 rfl rfl ?_
                    obtain ⟨p6, e6⟩ : ∃ q, q = ad b L p5 := ⟨_, rfl⟩
                    have hp6 : p6 ≤ L := by rw [e6]; exact (ad_le hp5).2
                    refine mm_call0 dX9_aDo_132 kX9_233 rfl (a9_next (p := p6) (by exact hb) hL hL2 (by rw [e6]; exact rfl) hp6) rfl rfl rfl rfl rfl rfl (Nat.zero_le _) (Nat.zero_le _) ?_
                    refine ww_aload_n dX9_aDo_135 rfl rfl ?_
                    refine mm_geti dX9_aDo_136 fX9_197 rfl rfl ?_
                    refine ww_iconst (v := 1) dX9_aDo_139 (by decide) ?_
                    refine ww_icmp_ne (tgt := 151) dX9_aDo_140 (by decide) (fun c140 => ?_) (fun c140 => ?_)
                    · have hno6 : ¬ (kd b L p6 = 9 ∧ 2 ≤ kl b L p6) := nm_not (Or.inl c140) (tokS_nx hp6) hp6
                      refine ww_aload_n dX9_aDo_151 rfl rfl ?_
                      refine ww_iconst (v := 1) dX9_aDo_152 (by decide) ?_
                      refine mm_call0 dX9_aDo_153 kX9_236 rfl (a9_fails (by exact hw)) rfl rfl rfl rfl rfl rfl (Nat.zero_le _) (Nat.zero_le _) ?_
                      refine ww_goto (tgt := 175) dX9_aDo_156 (by decide) ?_
                      refine ww_aload_n dX9_aDo_175 rfl rfl ?_
                      refine mm_call1 dX9_aDo_176 kX9_225 rfl c9_isWellB rfl rfl rfl rfl rfl rfl (Nat.zero_le _) (Nat.zero_le _) ?_
                      refine ww_if_eq (tgt := 201) dX9_aDo_179 (by decide) (fun c179 => ?_) (fun c179 => ?_)
                      · refine ww_aload_n dX9_aDo_201 rfl rfl ?_
                        refine ww_bipush (v := 59) dX9_aDo_202 (by decide) ?_
                        refine ww_iload_n dX9_aDo_204 rfl rfl ?_
                        refine mm_call0 dX9_aDo_205 kX9_247 rfl (c9_takesD (by exact (show ¬ (1 : Int32) = 0 by decide))) rfl rfl rfl rfl rfl rfl (Nat.zero_le _) (Nat.zero_le _) ?_
                        refine ww_aload_n dX9_aDo_208 rfl rfl ?_
                        refine ww_iconst (v := 0) dX9_aDo_209 (by decide) ?_
                        refine ww_iload_n dX9_aDo_210 rfl rfl ?_
                        refine ww_iconst (v := 0) dX9_aDo_211 (by decide) ?_
                        refine mm_call1 dX9_aDo_212 kX9_268 rfl (c9_emits (k := k) (by exact hk) hk200) rfl rfl rfl rfl rfl rfl (Nat.zero_le _) (Nat.zero_le _) ?_
                        refine ww_istore_n dX9_aDo_215 rfl rfl rfl ?_
                        refine ww_aload_n dX9_aDo_216 rfl rfl ?_
                        refine mm_getr dX9_aDo_217 fX9_82 rfl ?_
                        refine ww_aload_n dX9_aDo_220 rfl rfl ?_
                        refine mm_geti dX9_aDo_221 fX9_251 rfl rfl ?_
                        refine ww_iconst (v := 1) dX9_aDo_224 (by decide) ?_
                        refine mm_zast dX9_aDo_225 rfl (show _ = nI d by exact hd) (by omega) rfl rfl ?_
                        exact ww_vret dX9_aDo_226 rfl ⟨rfl, _, _, _, _, rfl, aDoP_l (show pDo b L ns c p = .inl (1, nS b L p6) by unfold pDo; rw [if_pos ⟨hk9, hk2⟩, hfn]; dsimp only; rw [← e1, nd_ok h79 e2, sb_r, nm_ok h91 g91 e3, sb_r, nd_ok h98 e4, sb_r, nm_ok h111 g111 e5, sb_r, eyP, if_pos h124, ← e6, if_neg hno6, sb_l]) (by repeat with_reducible first | exact KF.rf | apply KF.nx | apply KF.up (by decide)) (by repeat with_reducible first | exact KR.rf | apply KR.em | apply KR.up (by decide)) rfl (by first | rfl | exact T.2.1)⟩ (Nat.zero_le _) (Nat.zero_le _)
                      · exact absurd c179 (fun q => q (wb_eq0.mpr (decide_eq_false (by exact (show ¬ (1 : Int32) = 0 by decide)))))
                    · refine ww_aload_n dX9_aDo_143 rfl rfl ?_
                      refine mm_geti dX9_aDo_144 fX9_204 rfl rfl ?_
                      refine ww_iconst (v := 2) dX9_aDo_147 (by decide) ?_
                      refine ww_icmp_ge (tgt := 159) dX9_aDo_148 (by decide) (fun c148 => ?_) (fun c148 => ?_)
                      · obtain ⟨hyes6, htl6, hv26⟩ := nm_yes c140 c148 (tokS_nx hp6) hp6
                        have hns2 : ∀ i, i < c + 1 → vp_updL NL c tl i = lN (va_up ns c (kv b L p) i) ∧ va_up ns c (kv b L p) i < 2 ^ 31 := by
                          intro i hi
                          by_cases q : i = c
                          · subst q; exact ⟨by simp [vp_updL, va_up, htl], by rw [w_up_self]; exact w_lt31 hv2⟩
                          · have z := hns i (by omega); exact ⟨by simp [vp_updL, va_up, q, z.1], by rw [show va_up ns c (kv b L p) i = ns i by simp [va_up, q]]; exact w_lt31 z.2⟩
                        have hdn6 : dnm (vp_updL NL c tl) (nxT b L p6) (c + 1) = onI (fnd (va_up ns c (kv b L p)) (kv b L p6) (c + 1)) := by rw [htl6]; exact dnm_fnd (w_lt31 hv26) (c + 1) hns2
                        refine ww_aload_n dX9_aDo_159 rfl rfl ?_
                        refine ww_aload_n dX9_aDo_160 rfl rfl ?_
                        refine mm_getl dX9_aDo_161 fX9_193 ?_
                        refine mm_call1 dX9_aDo_164 kX9_257 rfl (c9_doNamed (c := c + 1) (by exact h12) (by omega)) rfl rfl rfl rfl rfl rfl (Nat.zero_le _) (Nat.zero_le _) ?_
                        refine ww_if_ge (tgt := 175) dX9_aDo_167 (by decide) (fun c167 => ?_) (fun c167 => ?_)
                        · obtain ⟨i6, hf6⟩ : ∃ i, fnd (va_up ns c (kv b L p)) (kv b L p6) (c + 1) = some i := by
                            cases q : fnd (va_up ns c (kv b L p)) (kv b L p6) (c + 1) with
                            | none => exact absurd (show (0 : Int32) ≤ -1 by rw [← show onI none = -1 from rfl, ← q, ← hdn6]; exact c167) (by decide)
                            | some i => exact ⟨i, rfl⟩
                          refine ww_aload_n dX9_aDo_175 rfl rfl ?_
                          refine mm_call1 dX9_aDo_176 kX9_225 rfl c9_isWellB rfl rfl rfl rfl rfl rfl (Nat.zero_le _) (Nat.zero_le _) ?_
                          refine ww_if_eq (tgt := 201) dX9_aDo_179 (by decide) (fun c179 => ?_) (fun c179 => ?_)
                          · exact absurd c179 (wb_ne0.mpr (decide_eq_true (by exact hw)))
                          · refine ww_aload_n dX9_aDo_182 rfl rfl ?_
                            refine mm_getr dX9_aDo_183 fX9_43 rfl ?_
                            refine ww_iload_n dX9_aDo_186 rfl rfl ?_
                            refine ww_aload_n dX9_aDo_187 rfl rfl ?_
                            refine ww_aload_n dX9_aDo_188 rfl rfl ?_
                            refine mm_getl dX9_aDo_189 fX9_193 ?_
                            refine mm_call1 dX9_aDo_192 kX9_257 rfl (c9_doNamed (c := c + 1) (by exact h12) (by omega)) rfl rfl rfl rfl rfl rfl (Nat.zero_le _) (Nat.zero_le _) ?_
                            refine mm_iast dX9_aDo_195 rfl hc (by omega) rfl rfl ?_
                            refine ww_aload_n dX9_aDo_196 rfl rfl ?_
                            refine ww_iload_n dX9_aDo_197 rfl rfl ?_
                            obtain ⟨p7, e7⟩ : ∃ q, q = ad b L p6 := ⟨_, rfl⟩
                            have hp7 : p7 ≤ L := by rw [e7]; exact (ad_le hp6).2
                            refine mm_call0 dX9_aDo_198 kX9_233 rfl (a9_next (p := p7) (by exact hb) hL hL2 (by rw [e7]; exact rfl) hp7) rfl rfl rfl rfl rfl rfl (Nat.zero_le _) (Nat.zero_le _) ?_
                            refine ww_aload_n dX9_aDo_201 rfl rfl ?_
                            refine ww_bipush (v := 59) dX9_aDo_202 (by decide) ?_
                            refine ww_iload_n dX9_aDo_204 rfl rfl ?_
                            obtain ⟨p8, e8⟩ : ∃ q, q = ad b L p7 := ⟨_, rfl⟩
                            have hp8 : p8 ≤ L := by rw [e8]; exact (ad_le hp7).2
                            by_cases h205 : kd b L p7 = 13
                            · refine mm_call0 dX9_aDo_205 kX9_247 rfl (a9_tsK (c := 59) (k := 13) (by exact hb) hL hL2 hp7 (by exact tokS_nx hp7) (by exact hw) (by decide) rfl h205) rfl rfl rfl rfl rfl rfl (Nat.zero_le _) (Nat.zero_le _) ?_
                              rw [← e8]
                              refine ww_aload_n dX9_aDo_208 rfl rfl ?_
                              refine ww_iconst (v := 0) dX9_aDo_209 (by decide) ?_
                              refine ww_iload_n dX9_aDo_210 rfl rfl ?_
                              refine ww_iconst (v := 0) dX9_aDo_211 (by decide) ?_
                              refine mm_call1 dX9_aDo_212 kX9_268 rfl (c9_emits (k := k) (by exact hk) hk200) rfl rfl rfl rfl rfl rfl (Nat.zero_le _) (Nat.zero_le _) ?_
                              refine ww_istore_n dX9_aDo_215 rfl rfl rfl ?_
                              refine ww_aload_n dX9_aDo_216 rfl rfl ?_
                              refine mm_getr dX9_aDo_217 fX9_82 rfl ?_
                              refine ww_aload_n dX9_aDo_220 rfl rfl ?_
                              refine mm_geti dX9_aDo_221 fX9_251 rfl rfl ?_
                              refine ww_iconst (v := 1) dX9_aDo_224 (by decide) ?_
                              refine mm_zast dX9_aDo_225 rfl (show _ = nI d by exact hd) (by omega) rfl rfl ?_
                              exact ww_vret dX9_aDo_226 rfl ⟨rfl, _, _, _, _, rfl, (by repeat with_reducible first | exact KF.rf | apply KF.nx | apply KF.up (by decide)), (by repeat with_reducible first | exact KR.rf | apply KR.em | apply KR.up (by decide)), by rw [show pDo b L ns c p = .inr (nu b L p2, nu b L p4, nI i6, p8) by unfold pDo; rw [if_pos ⟨hk9, hk2⟩, hfn]; dsimp only; rw [← e1, nd_ok h79 e2, sb_r, nm_ok h91 g91 e3, sb_r, nd_ok h98 e4, sb_r, nm_ok h111 g111 e5, sb_r, eyP, if_pos h124, ← e6, if_pos hyes6, hf6]; dsimp only; rw [← e7, sb_r, nd_ok h205 e8, sb_r]]; exact ⟨⟨hw, rfl, tokS_up (tokS_nx hp8), hp8, rfl, h12, rfl, rfl, rfl⟩, by rw [htl], by rw [hc, hdn6, hf6]; simp only [w_up_up, w_up_self, w_upd_upd]; rfl⟩⟩ (Nat.zero_le _) (Nat.zero_le _)
                            · refine mm_call0 dX9_aDo_205 kX9_247 rfl (a9_tsB (c := 59) (k := 13) hp7 (by exact tokS_nx hp7) (by exact hw) (by decide) rfl h205) rfl rfl rfl rfl rfl rfl (Nat.zero_le _) (Nat.zero_le _) ?_
                              refine ww_aload_n dX9_aDo_208 rfl rfl ?_
                              refine ww_iconst (v := 0) dX9_aDo_209 (by decide) ?_
                              refine ww_iload_n dX9_aDo_210 rfl rfl ?_
                              refine ww_iconst (v := 0) dX9_aDo_211 (by decide) ?_
                              refine mm_call1 dX9_aDo_212 kX9_268 rfl (c9_emits (k := k) (by exact hk) hk200) rfl rfl rfl rfl rfl rfl (Nat.zero_le _) (Nat.zero_le _) ?_
                              refine ww_istore_n dX9_aDo_215 rfl rfl rfl ?_
                              refine ww_aload_n dX9_aDo_216 rfl rfl ?_
                              refine mm_getr dX9_aDo_217 fX9_82 rfl ?_
                              refine ww_aload_n dX9_aDo_220 rfl rfl ?_
                              refine mm_geti dX9_aDo_221 fX9_251 rfl rfl ?_
                              refine ww_iconst (v := 1) dX9_aDo_224 (by decide) ?_
                              refine mm_zast dX9_aDo_225 rfl (show _ = nI d by exact hd) (by omega) rfl rfl ?_
                              exact ww_vret dX9_aDo_226 rfl ⟨rfl, _, _, _, _, rfl, aDoP_l (show pDo b L ns c p = .inl (1, nS b L p7) by unfold pDo; rw [if_pos ⟨hk9, hk2⟩, hfn]; dsimp only; rw [← e1, nd_ok h79 e2, sb_r, nm_ok h91 g91 e3, sb_r, nd_ok h98 e4, sb_r, nm_ok h111 g111 e5, sb_r, eyP, if_pos h124, ← e6, if_pos hyes6, hf6]; dsimp only; rw [← e7, sb_r, nd_no h205, sb_l]) (by repeat with_reducible first | exact KF.rf | apply KF.nx | apply KF.up (by decide)) (by repeat with_reducible first | exact KR.rf | apply KR.em | apply KR.up (by decide)) rfl (by first | rfl | exact T.2.1)⟩ (Nat.zero_le _) (Nat.zero_le _)
                        · have hf6 : fnd (va_up ns c (kv b L p)) (kv b L p6) (c + 1) = none := (dn_neg (fun i hi => (fnd_lt hi).1) (by omega)).mp (by rw [← hdn6]; exact Int32.not_le.mp c167)
                          refine ww_aload_n dX9_aDo_170 rfl rfl ?_
                          refine ww_iconst (v := 2) dX9_aDo_171 (by decide) ?_
                          refine mm_call0 dX9_aDo_172 kX9_236 rfl (a9_fails (by exact hw)) rfl rfl rfl rfl rfl rfl (Nat.zero_le _) (Nat.zero_le _) ?_
                          refine ww_aload_n dX9_aDo_175 rfl rfl ?_
                          refine mm_call1 dX9_aDo_176 kX9_225 rfl c9_isWellB rfl rfl rfl rfl rfl rfl (Nat.zero_le _) (Nat.zero_le _) ?_
                          refine ww_if_eq (tgt := 201) dX9_aDo_179 (by decide) (fun c179 => ?_) (fun c179 => ?_)
                          · refine ww_aload_n dX9_aDo_201 rfl rfl ?_
                            refine ww_bipush (v := 59) dX9_aDo_202 (by decide) ?_
                            refine ww_iload_n dX9_aDo_204 rfl rfl ?_
                            refine mm_call0 dX9_aDo_205 kX9_247 rfl (c9_takesD (by exact (show ¬ (2 : Int32) = 0 by decide))) rfl rfl rfl rfl rfl rfl (Nat.zero_le _) (Nat.zero_le _) ?_
                            refine ww_aload_n dX9_aDo_208 rfl rfl ?_
                            refine ww_iconst (v := 0) dX9_aDo_209 (by decide) ?_
                            refine ww_iload_n dX9_aDo_210 rfl rfl ?_
                            refine ww_iconst (v := 0) dX9_aDo_211 (by decide) ?_
                            refine mm_call1 dX9_aDo_212 kX9_268 rfl (c9_emits (k := k) (by exact hk) hk200) rfl rfl rfl rfl rfl rfl (Nat.zero_le _) (Nat.zero_le _) ?_
                            refine ww_istore_n dX9_aDo_215 rfl rfl rfl ?_
                            refine ww_aload_n dX9_aDo_216 rfl rfl ?_
                            refine mm_getr dX9_aDo_217 fX9_82 rfl ?_
                            refine ww_aload_n dX9_aDo_220 rfl rfl ?_
                            refine mm_geti dX9_aDo_221 fX9_251 rfl rfl ?_
                            refine ww_iconst (v := 1) dX9_aDo_224 (by decide) ?_
                            refine mm_zast dX9_aDo_225 rfl (show _ = nI d by exact hd) (by omega) rfl rfl ?_
                            exact ww_vret dX9_aDo_226 rfl ⟨rfl, _, _, _, _, rfl, aDoP_l (show pDo b L ns c p = .inl (2, nS b L p6) by unfold pDo; rw [if_pos ⟨hk9, hk2⟩, hfn]; dsimp only; rw [← e1, nd_ok h79 e2, sb_r, nm_ok h91 g91 e3, sb_r, nd_ok h98 e4, sb_r, nm_ok h111 g111 e5, sb_r, eyP, if_pos h124, ← e6, if_pos hyes6, hf6]; rfl) (by repeat with_reducible first | exact KF.rf | apply KF.nx | apply KF.up (by decide)) (by repeat with_reducible first | exact KR.rf | apply KR.em | apply KR.up (by decide)) rfl (by first | rfl | exact T.2.1)⟩ (Nat.zero_le _) (Nat.zero_le _)
                          · exact absurd c179 (fun q => q (wb_eq0.mpr (decide_eq_false (by exact (show ¬ (2 : Int32) = 0 by decide)))))
                      · have hno6 : ¬ (kd b L p6 = 9 ∧ 2 ≤ kl b L p6) := nm_not (Or.inr c148) (tokS_nx hp6) hp6
                        refine ww_aload_n dX9_aDo_151 rfl rfl ?_
                        refine ww_iconst (v := 1) dX9_aDo_152 (by decide) ?_
                        refine mm_call0 dX9_aDo_153 kX9_236 rfl (a9_fails (by exact hw)) rfl rfl rfl rfl rfl rfl (Nat.zero_le _) (Nat.zero_le _) ?_
                        refine ww_goto (tgt := 175) dX9_aDo_156 (by decide) ?_
                        refine ww_aload_n dX9_aDo_175 rfl rfl ?_
                        refine mm_call1 dX9_aDo_176 kX9_225 rfl c9_isWellB rfl rfl rfl rfl rfl rfl (Nat.zero_le _) (Nat.zero_le _) ?_
                        refine ww_if_eq (tgt := 201) dX9_aDo_179 (by decide) (fun c179 => ?_) (fun c179 => ?_)
                        · refine ww_aload_n dX9_aDo_201 rfl rfl ?_
                          refine ww_bipush (v := 59) dX9_aDo_202 (by decide) ?_
                          refine ww_iload_n dX9_aDo_204 rfl rfl ?_
                          refine mm_call0 dX9_aDo_205 kX9_247 rfl (c9_takesD (by exact (show ¬ (1 : Int32) = 0 by decide))) rfl rfl rfl rfl rfl rfl (Nat.zero_le _) (Nat.zero_le _) ?_
                          refine ww_aload_n dX9_aDo_208 rfl rfl ?_
                          refine ww_iconst (v := 0) dX9_aDo_209 (by decide) ?_
                          refine ww_iload_n dX9_aDo_210 rfl rfl ?_
                          refine ww_iconst (v := 0) dX9_aDo_211 (by decide) ?_
                          refine mm_call1 dX9_aDo_212 kX9_268 rfl (c9_emits (k := k) (by exact hk) hk200) rfl rfl rfl rfl rfl rfl (Nat.zero_le _) (Nat.zero_le _) ?_
                          refine ww_istore_n dX9_aDo_215 rfl rfl rfl ?_
                          refine ww_aload_n dX9_aDo_216 rfl rfl ?_
                          refine mm_getr dX9_aDo_217 fX9_82 rfl ?_
                          refine ww_aload_n dX9_aDo_220 rfl rfl ?_
                          refine mm_geti dX9_aDo_221 fX9_251 rfl rfl ?_
                          refine ww_iconst (v := 1) dX9_aDo_224 (by decide) ?_
                          refine mm_zast dX9_aDo_225 rfl (show _ = nI d by exact hd) (by omega) rfl rfl ?_
                          exact ww_vret dX9_aDo_226 rfl ⟨rfl, _, _, _, _, rfl, aDoP_l (show pDo b L ns c p = .inl (1, nS b L p6) by unfold pDo; rw [if_pos ⟨hk9, hk2⟩, hfn]; dsimp only; rw [← e1, nd_ok h79 e2, sb_r, nm_ok h91 g91 e3, sb_r, nd_ok h98 e4, sb_r, nm_ok h111 g111 e5, sb_r, eyP, if_pos h124, ← e6, if_neg hno6, sb_l]) (by repeat with_reducible first | exact KF.rf | apply KF.nx | apply KF.up (by decide)) (by repeat with_reducible first | exact KR.rf | apply KR.em | apply KR.up (by decide)) rfl (by first | rfl | exact T.2.1)⟩ (Nat.zero_le _) (Nat.zero_le _)
                        · exact absurd c179 (fun q => q (wb_eq0.mpr (decide_eq_false (by exact (show ¬ (1 : Int32) = 0 by decide)))))
              · refine mm_call0 dX9_aDo_98 kX9_261 rfl (a9_twB (w := 2) (b := b) (L := L) (p := p3) (by exact tokS_nx hp3) (by exact hw) (by decide) rfl h98) rfl rfl rfl rfl rfl rfl (Nat.zero_le _) (Nat.zero_le _) ?_
                refine ww_aload_n dX9_aDo_101 rfl rfl ?_
                refine mm_getr dX9_aDo_102 fX9_40 rfl ?_
                refine ww_iload_n dX9_aDo_105 rfl rfl ?_
                refine ww_aload_n dX9_aDo_106 rfl rfl ?_
                refine ww_iconst (v := 1) dX9_aDo_107 (by decide) ?_
                refine ww_bipush (v := 99) dX9_aDo_108 (by decide) ?_
                refine ww_iload_n dX9_aDo_110 rfl rfl ?_
                refine mm_call1 dX9_aDo_111 kX9_264 rfl (c9_numberD (by exact (show ¬ (1 : Int32) = 0 by decide))) rfl rfl rfl rfl rfl rfl (Nat.zero_le _) (Nat.zero_le _) ?_
                refine mm_iast dX9_aDo_114 rfl hc (by omega) rfl rfl ?_
                refine ww_aload_n dX9_aDo_115 rfl rfl ?_
                refine mm_getr dX9_aDo_116 fX9_43 rfl ?_
                refine ww_iload_n dX9_aDo_119 rfl rfl ?_
                refine ww_iconst (v := -1) dX9_aDo_120 (by decide) ?_
                refine mm_iast dX9_aDo_121 rfl hc (by omega) rfl rfl ?_
                refine ww_aload_n dX9_aDo_122 rfl rfl ?_
                refine ww_iconst (v := 3) dX9_aDo_123 (by decide) ?_
                refine mm_call1 dX9_aDo_124 kX9_239 rfl c9_isWord rfl rfl rfl rfl rfl rfl (Nat.zero_le _) (Nat.zero_le _) ?_
                refine ww_if_eq (tgt := 201) dX9_aDo_127 (by decide) (fun c127 => ?_) (fun c127 => ?_)
                · refine ww_aload_n dX9_aDo_201 rfl rfl ?_
                  refine ww_bipush (v := 59) dX9_aDo_202 (by decide) ?_
                  refine ww_iload_n dX9_aDo_204 rfl rfl ?_
                  refine mm_call0 dX9_aDo_205 kX9_247 rfl (c9_takesD (by exact (show ¬ (1 : Int32) = 0 by decide))) rfl rfl rfl rfl rfl rfl (Nat.zero_le _) (Nat.zero_le _) ?_
                  refine ww_aload_n dX9_aDo_208 rfl rfl ?_
                  refine ww_iconst (v := 0) dX9_aDo_209 (by decide) ?_
                  refine ww_iload_n dX9_aDo_210 rfl rfl ?_
                  refine ww_iconst (v := 0) dX9_aDo_211 (by decide) ?_
                  refine mm_call1 dX9_aDo_212 kX9_268 rfl (c9_emits (k := k) (by exact hk) hk200) rfl rfl rfl rfl rfl rfl (Nat.zero_le _) (Nat.zero_le _) ?_
                  refine ww_istore_n dX9_aDo_215 rfl rfl rfl ?_
                  refine ww_aload_n dX9_aDo_216 rfl rfl ?_
                  refine mm_getr dX9_aDo_217 fX9_82 rfl ?_
                  refine ww_aload_n dX9_aDo_220 rfl rfl ?_
                  refine mm_geti dX9_aDo_221 fX9_251 rfl rfl ?_
                  refine ww_iconst (v := 1) dX9_aDo_224 (by decide) ?_
                  refine mm_zast dX9_aDo_225 rfl (show _ = nI d by exact hd) (by omega) rfl rfl ?_
                  exact ww_vret dX9_aDo_226 rfl ⟨rfl, _, _, _, _, rfl, aDoP_l (show pDo b L ns c p = .inl (1, nS b L p3) by unfold pDo; rw [if_pos ⟨hk9, hk2⟩, hfn]; dsimp only; rw [← e1, nd_ok h79 e2, sb_r, nm_ok h91 g91 e3, sb_r, nd_no h98, sb_l]) (by repeat with_reducible first | exact KF.rf | apply KF.nx | apply KF.up (by decide)) (by repeat with_reducible first | exact KR.rf | apply KR.em | apply KR.up (by decide)) rfl (by first | rfl | exact T.2.1)⟩ (Nat.zero_le _) (Nat.zero_le _)
                · exact absurd c127 (fun q => q (wb_eq0.mpr (by rw [sgB, decide_eq_false (by exact (show ¬ (1 : Int32) = 0 by decide))]; rfl)))
          · refine mm_call0 dX9_aDo_79 kX9_261 rfl (a9_twB (w := 1) (b := b) (L := L) (p := p1) (by exact tokS_nx hp1) (by exact hw) (by decide) rfl h79) rfl rfl rfl rfl rfl rfl (Nat.zero_le _) (Nat.zero_le _) ?_
            refine ww_aload_n dX9_aDo_82 rfl rfl ?_
            refine mm_getr dX9_aDo_83 fX9_37 rfl ?_
            refine ww_iload_n dX9_aDo_86 rfl rfl ?_
            refine ww_aload_n dX9_aDo_87 rfl rfl ?_
            refine ww_iconst (v := 0) dX9_aDo_88 (by decide) ?_
            refine ww_iconst (v := 5) dX9_aDo_89 (by decide) ?_
            refine ww_iload_n dX9_aDo_90 rfl rfl ?_
            refine mm_call1 dX9_aDo_91 kX9_264 rfl (c9_numberD (by exact (show ¬ (1 : Int32) = 0 by decide))) rfl rfl rfl rfl rfl rfl (Nat.zero_le _) (Nat.zero_le _) ?_
            refine mm_iast dX9_aDo_94 rfl hc (by omega) rfl rfl ?_
            refine ww_aload_n dX9_aDo_95 rfl rfl ?_
            refine ww_iconst (v := 2) dX9_aDo_96 (by decide) ?_
            refine ww_iload_n dX9_aDo_97 rfl rfl ?_
            refine mm_call0 dX9_aDo_98 kX9_261 rfl (c9_takesWordD (by exact (show ¬ (1 : Int32) = 0 by decide))) rfl rfl rfl rfl rfl rfl (Nat.zero_le _) (Nat.zero_le _) ?_
            refine ww_aload_n dX9_aDo_101 rfl rfl ?_
            refine mm_getr dX9_aDo_102 fX9_40 rfl ?_
            refine ww_iload_n dX9_aDo_105 rfl rfl ?_
            refine ww_aload_n dX9_aDo_106 rfl rfl ?_
            refine ww_iconst (v := 1) dX9_aDo_107 (by decide) ?_
            refine ww_bipush (v := 99) dX9_aDo_108 (by decide) ?_
            refine ww_iload_n dX9_aDo_110 rfl rfl ?_
            refine mm_call1 dX9_aDo_111 kX9_264 rfl (c9_numberD (by exact (show ¬ (1 : Int32) = 0 by decide))) rfl rfl rfl rfl rfl rfl (Nat.zero_le _) (Nat.zero_le _) ?_
            refine mm_iast dX9_aDo_114 rfl hc (by omega) rfl rfl ?_
            refine ww_aload_n dX9_aDo_115 rfl rfl ?_
            refine mm_getr dX9_aDo_116 fX9_43 rfl ?_
            refine ww_iload_n dX9_aDo_119 rfl rfl ?_
            refine ww_iconst (v := -1) dX9_aDo_120 (by decide) ?_
            refine mm_iast dX9_aDo_121 rfl hc (by omega) rfl rfl ?_
            refine ww_aload_n dX9_aDo_122 rfl rfl ?_
            refine ww_iconst (v := 3) dX9_aDo_123 (by decide) ?_
            refine mm_call1 dX9_aDo_124 kX9_239 rfl c9_isWord rfl rfl rfl rfl rfl rfl (Nat.zero_le _) (Nat.zero_le _) ?_
            refine ww_if_eq (tgt := 201) dX9_aDo_127 (by decide) (fun c127 => ?_) (fun c127 => ?_)
            · refine ww_aload_n dX9_aDo_201 rfl rfl ?_
              refine ww_bipush (v := 59) dX9_aDo_202 (by decide) ?_
              refine ww_iload_n dX9_aDo_204 rfl rfl ?_
              refine mm_call0 dX9_aDo_205 kX9_247 rfl (c9_takesD (by exact (show ¬ (1 : Int32) = 0 by decide))) rfl rfl rfl rfl rfl rfl (Nat.zero_le _) (Nat.zero_le _) ?_
              refine ww_aload_n dX9_aDo_208 rfl rfl ?_
              refine ww_iconst (v := 0) dX9_aDo_209 (by decide) ?_
              refine ww_iload_n dX9_aDo_210 rfl rfl ?_
              refine ww_iconst (v := 0) dX9_aDo_211 (by decide) ?_
              refine mm_call1 dX9_aDo_212 kX9_268 rfl (c9_emits (k := k) (by exact hk) hk200) rfl rfl rfl rfl rfl rfl (Nat.zero_le _) (Nat.zero_le _) ?_
              refine ww_istore_n dX9_aDo_215 rfl rfl rfl ?_
              refine ww_aload_n dX9_aDo_216 rfl rfl ?_
              refine mm_getr dX9_aDo_217 fX9_82 rfl ?_
              refine ww_aload_n dX9_aDo_220 rfl rfl ?_
              refine mm_geti dX9_aDo_221 fX9_251 rfl rfl ?_
              refine ww_iconst (v := 1) dX9_aDo_224 (by decide) ?_
              refine mm_zast dX9_aDo_225 rfl (show _ = nI d by exact hd) (by omega) rfl rfl ?_
              exact ww_vret dX9_aDo_226 rfl ⟨rfl, _, _, _, _, rfl, aDoP_l (show pDo b L ns c p = .inl (1, nS b L p1) by unfold pDo; rw [if_pos ⟨hk9, hk2⟩, hfn]; dsimp only; rw [← e1, nd_no h79, sb_l]) (by repeat with_reducible first | exact KF.rf | apply KF.nx | apply KF.up (by decide)) (by repeat with_reducible first | exact KR.rf | apply KR.em | apply KR.up (by decide)) rfl (by first | rfl | exact T.2.1)⟩ (Nat.zero_le _) (Nat.zero_le _)
            · exact absurd c127 (fun q => q (wb_eq0.mpr (by rw [sgB, decide_eq_false (by exact (show ¬ (1 : Int32) = 0 by decide))]; rfl)))
        · obtain ⟨i0, hfs⟩ : ∃ i, fnd ns (kv b L p) c = some i := by
            cases q : fnd ns (kv b L p) c with
            | none => exact absurd (by rw [hdn, q]; decide) c37
            | some i => exact ⟨i, rfl⟩
          refine ww_aload_n dX9_aDo_40 rfl rfl ?_
          refine ww_iconst (v := 2) dX9_aDo_41 (by decide) ?_
          refine mm_call0 dX9_aDo_42 kX9_236 rfl (a9_fails hw) rfl rfl rfl rfl rfl rfl (Nat.zero_le _) (Nat.zero_le _) ?_
          exact ww_vret dX9_aDo_45 rfl ⟨rfl, _, _, _, _, rfl, aDoP_l (show pDo b L ns c p = .inl (2, nS b L p) by unfold pDo; rw [if_pos ⟨hk9, hk2⟩, hfs]) (by repeat with_reducible first | exact KF.rf | apply KF.nx | apply KF.up (by decide)) (by repeat with_reducible first | exact KR.rf | apply KR.em | apply KR.up (by decide)) rfl (by first | rfl | exact T.2.1)⟩ (Nat.zero_le _) (Nat.zero_le _)
      · have hno : ¬ (kd b L p = 9 ∧ 2 ≤ kl b L p) := fun q => c20 (by rw [(tkn T hp q.1).1]; exact nI_le (a := 2) q.2 (w_le31 (tkn T hp q.1).2.2.2.1))
        refine ww_aload_n dX9_aDo_23 rfl rfl ?_
        refine ww_iconst (v := 1) dX9_aDo_24 (by decide) ?_
        refine mm_call0 dX9_aDo_25 kX9_236 rfl (a9_fails hw) rfl rfl rfl rfl rfl rfl (Nat.zero_le _) (Nat.zero_le _) ?_
        exact ww_vret dX9_aDo_28 rfl ⟨rfl, _, _, _, _, rfl, aDoP_l (show pDo b L ns c p = .inl (1, nS b L p) by unfold pDo; rw [if_neg hno]) (by repeat with_reducible first | exact KF.rf | apply KF.nx | apply KF.up (by decide)) (by repeat with_reducible first | exact KR.rf | apply KR.em | apply KR.up (by decide)) rfl (by first | rfl | exact T.2.1)⟩ (Nat.zero_le _) (Nat.zero_le _)
end M13
