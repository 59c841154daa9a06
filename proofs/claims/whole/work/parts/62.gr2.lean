section GR2
variable {a r c0 l : Nat} {du ps : Nat → Nat} {R0 : Nat → Nat → Int32}
/-- n more came -/
abbrev ln (σ : wS) : Nat := σ.2.2.2.2.length
theorem cm_le {t : tT} {x : wS × Bool} {σ : wS} (h : cmW t x σ) : ln σ ≤ ln x.1 := by
  obtain ⟨N, h1, -⟩ := h
  show σ.2.2.2.2.length ≤ x.1.2.2.2.2.length
  rw [h1, List.length_append]
  omega
theorem HR_sq {p q : tT} {k : Nat} (hn : ndT (tSeq p q)) (h : HR r l du ps R0 (tSeq p q) k) : HR r l du ps R0 p k ∧ HR r l du ps R0 q (k + szR p) := by
  obtain ⟨h1, h2, h3, h4, h5⟩ := h
  have hz : szR (tSeq p q) = szR p + szR q := rfl
  obtain ⟨d1, d2, d3⟩ := nd_app hn.2
  rw [lbT, Bool.and_eq_true] at h5
  refine ⟨⟨h1.1, by omega, fun d hd => ?_, fun f hf => h4 f (apl f hf), h5.1⟩, ⟨h1.2, by omega, fun d hd => ?_, fun f hf => h4 f (apr f hf), h5.2⟩⟩
  · obtain ⟨q1, q2, q3, q4, q5⟩ := h3 d (apl d hd)
    exact ⟨q1, q2, q3, q4, q5.trans (by show (if d ∈ dsT p then psR p k d else _) + 1 = _; rw [if_pos hd])⟩
  · obtain ⟨q1, q2, q3, q4, q5⟩ := h3 d (apr d hd)
    exact ⟨q1, q2, q3, q4, q5.trans (by show (if d ∈ dsT p then psR p k d else _) + 1 = _; rw [if_neg (fun z => d3 d z hd)])⟩
theorem HR_ag {p : tT} {x k : Nat} (h : HR r l du ps R0 (tAg x p) k) : HR r l du ps R0 p k := by
  obtain ⟨h1, h2, h3, h4, h5⟩ := h
  have hz : szR (tAg x p) = szR p + 1 := rfl
  rw [lbT, Bool.and_eq_true] at h5
  exact ⟨h1.1, by omega, h3, h4, h5.1⟩
theorem HR_bo {p q : tT} {f k : Nat} (hn : ndT (tBo f p q)) (h : HR r l du ps R0 (tBo f p q) k) : HR r l du ps R0 p (k + 1) ∧ HR r l du ps R0 q (k + szR p + 2) := by
  obtain ⟨h1, h2, h3, h4, h5⟩ := h
  have hz : szR (tBo f p q) = szR p + szR q + 3 := rfl
  obtain ⟨d1, d2, d3⟩ := nd_app hn.2
  rw [lbT, Bool.and_eq_true] at h5
  refine ⟨⟨h1.2.1, by omega, fun d hd => ?_, fun f hf => h4 f (cpl f hf), h5.1⟩, ⟨h1.2.2.2.1, by omega, fun d hd => ?_, fun f hf => h4 f (cpr f hf), h5.2⟩⟩
  · obtain ⟨q1, q2, q3, q4, q5⟩ := h3 d (apl d hd)
    exact ⟨q1, q2, q3, q4, q5.trans (by show (if d ∈ dsT p then psR p (k + 1) d else _) + 1 = _; rw [if_pos hd])⟩
  · obtain ⟨q1, q2, q3, q4, q5⟩ := h3 d (apr d hd)
    exact ⟨q1, q2, q3, q4, q5.trans (by show (if d ∈ dsT p then psR p (k + 1) d else _) + 1 = _; rw [if_neg (fun z => d3 d z hd)])⟩
theorem HR_if {p q : tT} {x k : Nat} (hn : ndT (tIf x p q)) (h : HR r l du ps R0 (tIf x p q) k) : HR r l du ps R0 p (k + 1) ∧ HR r l du ps R0 q (k + szR p + 2) := by
  obtain ⟨h1, h2, h3, h4, h5⟩ := h
  have hz : szR (tIf x p q) = szR p + szR q + 2 := rfl
  obtain ⟨d1, d2, d3⟩ := nd_app hn.2
  rw [lbT, Bool.and_eq_true, Bool.and_eq_true] at h5
  refine ⟨⟨h1.2.1, by omega, fun d hd => ?_, fun f hf => h4 f (apl f hf), h5.1.1⟩, ⟨h1.2.2.2, by omega, fun d hd => ?_, fun f hf => h4 f (apr f hf), h5.1.2⟩⟩
  · obtain ⟨q1, q2, q3, q4, q5⟩ := h3 d (apl d hd)
    exact ⟨q1, q2, q3, q4, q5.trans (by show (if d ∈ dsT p then psR p (k + 1) d else _) + 1 = _; rw [if_pos hd])⟩
  · obtain ⟨q1, q2, q3, q4, q5⟩ := h3 d (apr d hd)
    exact ⟨q1, q2, q3, q4, q5.trans (by show (if d ∈ dsT p then psR p (k + 1) d else _) + 1 = _; rw [if_neg (fun z => d3 d z hd)])⟩
/-- from k on, x is what the tree's walk leaves, e the place behind the tree -/
def CnR (a r c0 : Nat) (du ps : Nat → Nat) (R0 : Nat → Nat → Int32) (x : wS × Bool) (e hg : Nat) (R : Nat → Nat → Int32) (Fin : gT → Prop) : Prop := (200 < c0 + ln x.1 → ∀ σ' R', SR a r c0 du ps R0 σ' R' → Fin (false, 200, R')) ∧ (c0 + ln x.1 ≤ 200 → ∀ R', SR a r c0 du ps R0 x.1 R' → (∀ j, j < hg → R' 69 j = R 69 j) → RG a r (if x.2 = true then some e else none) hg (c0 + ln x.1) R' Fin)
def EnR (a r c0 l : Nat) (du ps : Nat → Nat) (R0 : Nat → Nat → Int32) (t : tT) : Prop := ndT t → agT t = true → ∀ (k hg : Nat) (σ : wS) (R : Nat → Nat → Int32) (Fin : gT → Prop), HR r l du ps R0 t k → SR a r c0 du ps R0 σ R → idW t σ → hg + (fkT t).length ≤ 63 → c0 + ln σ ≤ 200 → CnR a r c0 du ps R0 (enT t σ) (k + szR t) hg R Fin → RG a r (some k) hg (c0 + ln σ) R Fin
/-- the join of both f at place k with target e -/
theorem jnR {Fin : gT → Prop} {f k e hg : Nat} {σ : wS} {R : Nat → Nat → Int32} (hl : R0 41 r = nI l) (hl2 : l < 200) (hf : f < 40) (hk : k < l) (he : e ≤ l) (ho : R0 42 (200 * r + k) = 6) (ha : R0 43 (200 * r + k) = nI f) (ht : R0 45 (200 * r + k) = nI e) (hs : SR a r c0 du ps R0 σ R) (h01 : σ.2.1 f = 0 ∨ σ.2.1 f = 1) (hc : ∀ R', SR a r c0 du ps R0 (jn f σ).1 R' → (∀ j, j < hg → R' 69 j = R 69 j) → RG a r (if (jn f σ).2 = true then some e else none) hg (c0 + ln σ) R' Fin) : RG a r (some k) hg (c0 + ln σ) R Fin := by
  obtain ⟨e41, e42, e43, e44, e45, e47⟩ := SR_code hs
  have h50 := hs.2.2.2.1 f hf
  refine rg_join (by rw [e41]; exact hl) hk (by omega) (by rw [e42]; exact ho) (by rw [e43]; exact ha) hf (by rw [e45]; exact ht) (by omega) ?_
  rcases h01 with h | h
  · rw [h50, h, if_neg (by decide)]
    rw [jn_0 h] at hc
    exact hc _ (SR_en (v := 1) hf hs) (fun j _ => rfl)
  · rw [h50, h, if_pos (by decide)]
    rw [jn_1 h] at hc
    exact hc _ (SR_en (v := 0) hf hs) (fun j _ => rfl)
theorem enR (hl : R0 41 r = nI l) (hl2 : l < 200) : ∀ t : tT, okT t = true → EnR a r c0 l du ps R0 t := by
  apply T_ind2
  · intro v hn ha k hg σ R Fin hH hs hi hh hc hk
    exact hk.2 hc R hs (fun _ _ => rfl)
  · intro d hn ha k hg σ R Fin hH hs hi hh hc hk
    obtain ⟨⟨i1, i2⟩, i3, i4, i5, i6⟩ := hH
    have hz : szR (tDo d) = 1 := rfl
    obtain ⟨q1, q2, q3, q4, q5⟩ := i4 d (List.mem_singleton.mpr rfl)
    obtain ⟨e41, e42, e43, e44, e45, e47⟩ := SR_code hs
    have hlen : ln (enT (tDo d) σ).1 = ln σ + 1 := by
      show (σ.2.2.2.2 ++ [d]).length = _
      rw [List.length_append]; rfl
    by_cases hc2 : c0 + ln σ = 200
    · exact rg_do0 (by rw [e41]; exact hl) (by omega) (by omega) (by rw [e42]; exact i1) hc2 (by rw [hc2]; exact hk.1 (by omega) σ R hs)
    · refine rg_do (du := du) (by rw [e41]; exact hl) (by omega) (by omega) (by rw [e42]; exact i1) (by rw [e43]; exact i2) q1 (by rw [e47]; exact q2) q3 q4 (by omega) ?_
      have := hk.2 (by omega) _ (SR_com (p := k + 1) q5 hs) (fun _ _ => rfl)
      rw [hlen] at this
      exact this
  · intro x hn ha k hg σ R Fin hH hs hi hh hc hk
    obtain ⟨⟨i1, i2, i3⟩, i4, i5, i6, i7⟩ := hH
    have hz : szR (tSet x) = 1 := rfl
    have hx : x < 400 := of_decide_eq_true i7
    obtain ⟨e41, e42, e43, e44, e45, e47⟩ := SR_code hs
    refine rg_set (by rw [e41]; exact hl) (by omega) (by omega) (by rw [e42]; exact i1) (by rw [e43]; exact i2) (show x / 100 < 4 by omega) ?_
    rw [e44, show R0 44 (200 * r + k) = nI (x % 100) from i3]
    exact hk.2 hc _ (SR_set (by omega) hs) (fun _ _ => rfl)
  · intro p q op oq ip iq hn ha k hg σ R Fin hH hs hi hh hc hk
    obtain ⟨H1, H2⟩ := HR_sq hn hH
    obtain ⟨f1, f2, f3⟩ := nd_app hn.1
    obtain ⟨d1, d2, d3⟩ := nd_app hn.2
    rw [agT, Bool.and_eq_true] at ha
    have hfl : (fkT (tSeq p q)).length = (fkT p).length + (fkT q).length := List.length_append
    have hmp := en_mk p op ⟨f1, d1⟩ σ (id_mo apl apl hi)
    have hiq : idW q (enT p σ).1 := id_eq (eq_fr (fun f q z => f3 f z q) (fun d q z => d3 d z q) (en_fr p op σ)) (id_mo apr apr hi)
    have hmq := en_mk q oq ⟨f2, d2⟩ (enT p σ).1 hiq
    have hzz : k + szR p + szR q = k + szR (tSeq p q) := Nat.add_assoc _ _ _
    rw [en_seq] at hk
    refine ip ⟨f1, d1⟩ ha.1 k hg σ R Fin H1 hs (id_mo apl apl hi) (by omega) hc ⟨fun hov => ?_, fun hle R1 hs1 hp1 => ?_⟩
    · refine hk.1 ?_
      split
      · have := cm_le hmq.1; omega
      · exact hov
    · by_cases hf : (enT p σ).2 = true
      · rw [if_pos hf] at hk ⊢
        refine iq ⟨f2, d2⟩ ha.2 (k + szR p) hg (enT p σ).1 R1 Fin H2 hs1 hiq (by omega) hle ⟨hk.1, fun hle2 R2 hs2 hp2 => ?_⟩
        rw [hzz]
        exact hk.2 hle2 R2 hs2 (fun j hj => (hp2 j hj).trans (hp1 j hj))
      · rw [if_neg hf] at hk ⊢
        exact hk.2 hle R1 hs1 hp1
  · intro x p op ip hn ha k hg σ R Fin hH hs hi hh hc hk
    rw [agT, Bool.and_eq_true] at ha
    have hf := en_hd p op hn ha.1 ha.2 σ hi
    refine ip hn ha.1 k hg σ R Fin (HR_ag hH) hs hi hh hc ⟨hk.1, fun hle R1 hs1 hp1 => ?_⟩
    have := hk.2 hle R1 hs1 hp1
    have hf2 : (enT (tAg x p) σ).2 = false := hf
    rw [hf2, if_neg (by decide)] at this
    rw [hf, if_neg (by decide)]
    exact this
  · intro f p q op oq ip iq hn ha k hg σ R Fin hH hs hi hh hc hk
    obtain ⟨H1, H2⟩ := HR_bo hn hH
    obtain ⟨⟨⟨i1, i2, i3⟩, i4, ⟨i5, i6, i7⟩, i8, i9, i10, i11⟩, j2, j3, j4, j5⟩ := hH
    have hz : szR (tBo f p q) = szR p + szR q + 3 := rfl
    obtain ⟨n1, n2⟩ := List.nodup_cons.mp hn.1
    obtain ⟨f1, f2, f3⟩ := nd_app n2
    obtain ⟨d1, d2, d3⟩ := nd_app hn.2
    have nfa : f ∉ fkT p := fun q => n1 (apl f q)
    have nfb : f ∉ fkT q := fun q => n1 (apr f q)
    rw [agT, Bool.and_eq_true] at ha
    have hf40 := j4 f List.mem_cons_self
    have hf0 := (hi.1 f List.mem_cons_self).1
    have hfl : (fkT (tBo f p q)).length = (fkT p).length + (fkT q).length + 1 := by
      show (f :: (fkT p ++ fkT q)).length = _
      rw [List.length_cons, List.length_append]
    obtain ⟨e41, e42, e43, e44, e45, e47⟩ := SR_code hs
    have hip : idW p (acS f σ) := id_eq (eqW_ac nfa) (id_mo cpl apl hi)
    have hmp := en_mk p op ⟨f1, d1⟩ (acS f σ) hip
    have h1f := en1_f (σ := σ) op nfa hf0
    have hiq : idW q (en1 f p σ) := id_eq (en1_b op nfb (fun g q z => f3 g z q) (fun d q z => d3 d z q)) (id_mo cpr apr hi)
    have hmq := en_mk q oq ⟨f2, d2⟩ (en1 f p σ) hiq
    have hl1 : ln (en1 f p σ) = ln (enT p (acS f σ)).1 := by
      unfold en1
      split
      · show (jn f _).1.2.2.2.2.length = _
        rw [(jn_cm f _).1]
      · rfl
    have hlq := cm_le hmq.1
    have hfb := (en_fr q oq (en1 f p σ)).1 f nfb
    have hfp := (en_fr p op (acS f σ)).1 f nfa
    have hlT : ln (enT (tBo f p q) σ).1 = ln (enT q (en1 f p σ)).1 := by
      rw [en_bo]
      split
      · show (jn f _).1.2.2.2.2.length = _
        rw [(jn_cm f _).1]
      · rfl
    refine rg_fork (by rw [e41]; exact hl) (by omega) (by omega) (by rw [e42]; exact i1) (by omega) ?_
    rw [e45, show R0 45 (200 * r + k) = nI (k + szR p + 2) from i3]
    -- the second way, behind the first one
    have second : ∀ R2, SR a r c0 du ps R0 (en1 f p σ) R2 → (∀ j, j < hg + 1 → R2 69 j = upd (R 69) hg (nI (k + szR p + 2)) j) → c0 + ln (en1 f p σ) ≤ 200 → RG a r none (hg + 1) (c0 + ln (en1 f p σ)) R2 Fin := by
      intro R2 hs2 hp2 hle
      refine rg_pop (j := k + szR p + 2) (by rw [hp2 hg (by omega), w_upd_self]) (by omega) ?_
      refine iq ⟨f2, d2⟩ ha.2 (k + szR p + 2) hg (en1 f p σ) R2 Fin H2 hs2 hiq (by omega) hle ⟨fun hov => hk.1 (by rw [hlT]; exact hov), fun hle2 R3 hs3 hp3 => ?_⟩
      have hp4 : ∀ j, j < hg → R3 69 j = R 69 j := fun j hj => (hp3 j hj).trans ((hp2 j (by omega)).trans (upd_lt hj))
      have hk2 := hk.2 (by rw [hlT]; exact hle2)
      rw [hlT] at hk2
      rw [en_bo] at hk2
      by_cases hq : (enT q (en1 f p σ)).2 = true
      · rw [if_pos hq] at hk2 ⊢
        refine jnR hl hl2 hf40 (k := k + szR p + 2 + szR q) (e := k + szR p + szR q + 3) (by omega) (by omega) (by rw [show k + szR p + 2 + szR q = k + szR p + szR q + 2 by omega]; exact i9) (by rw [show k + szR p + 2 + szR q = k + szR p + szR q + 2 by omega]; exact i10) (by rw [show k + szR p + 2 + szR q = k + szR p + szR q + 2 by omega]; exact i11) hs3 ?_ (fun R4 hs4 hp5 => ?_)
        · rw [hfb.1, h1f.1]
          split
          · exact Or.inr rfl
          · exact Or.inl rfl
        · rw [show k + szR p + szR q + 3 = k + szR (tBo f p q) by omega]
          exact hk2 R4 hs4 (fun j hj => (hp5 j hj).trans (hp4 j hj))
      · rw [if_neg hq] at hk2 ⊢
        exact hk2 R3 hs3 hp4
    have hs0 : SR a r c0 du ps R0 (acS f σ) (va_up R 69 (upd (R 69) hg (nI (k + szR p + 2)))) := SR_same (SR_pile hs) rfl (fun _ _ => rfl) rfl
    refine ip ⟨f1, d1⟩ ha.1 (k + 1) (hg + 1) (acS f σ) _ Fin H1 hs0 hip (by omega) hc ⟨fun hov => hk.1 (by rw [hlT]; omega), fun hle R1 hs1 hp1 => ?_⟩
    have hsec := second
    unfold en1 at hsec
    by_cases hq : (enT p (acS f σ)).2 = true
    · rw [if_pos hq] at hsec ⊢
      have hl5 : ln (jn f (enT p (acS f σ)).1).1 = ln (enT p (acS f σ)).1 := by
        show (jn f _).1.2.2.2.2.length = _
        rw [(jn_cm f _).1]
      rw [hl5] at hsec
      have hen0 : (enT p (acS f σ)).1.2.1 f = 0 := hfp.1.trans hf0
      refine jnR hl hl2 hf40 (k := k + 1 + szR p) (e := k + szR p + szR q + 3) (by omega) (by omega) (by rw [show k + 1 + szR p = k + szR p + 1 by omega]; exact i5) (by rw [show k + 1 + szR p = k + szR p + 1 by omega]; exact i6) (by rw [show k + 1 + szR p = k + szR p + 1 by omega]; exact i7) hs1 (Or.inl hen0) (fun R4 hs4 hp5 => ?_)
      have hjf : (jn f (enT p (acS f σ)).1).2 = false := by rw [jn_0 hen0]
      rw [hjf, if_neg (by decide)]
      exact hsec R4 hs4 (fun j hj => (hp5 j hj).trans (hp1 j hj)) hle
    · rw [if_neg hq] at hsec ⊢
      exact hsec R1 hs1 hp1 hle
  · intro x p q op oq ip iq hn ha k hg σ R Fin hH hs hi hh hc hk
    obtain ⟨H1, H2⟩ := HR_if hn hH
    obtain ⟨⟨⟨i1, i2, i3, i3b⟩, i4, ⟨i5, i6⟩, i8⟩, j2, j3, j4, j5⟩ := hH
    have hz : szR (tIf x p q) = szR p + szR q + 2 := rfl
    obtain ⟨f1, f2, f3⟩ := nd_app hn.1
    obtain ⟨d1, d2, d3⟩ := nd_app hn.2
    rw [agT, Bool.and_eq_true] at ha
    rw [lbT, Bool.and_eq_true] at j5
    have hx : x < 400 := of_decide_eq_true j5.2
    have hfl : (fkT (tIf x p q)).length = (fkT p).length + (fkT q).length := List.length_append
    obtain ⟨e41, e42, e43, e44, e45, e47⟩ := SR_code hs
    refine rg_test (f := x / 100) (j := k + szR p + 2) (by rw [e41]; exact hl) (by omega) (by omega) (by rw [e42]; exact i1) (by rw [e43]; exact i2) (by omega) (by rw [e45]; exact i3b) (by omega) ?_
    rw [hs.2.1 (x / 100) (by omega), e44, show R0 44 (200 * r + k) = nI (x % 100) from i3]
    rw [en_if] at hk
    by_cases ht : ltB x σ = true
    · have ht2 : σ.1 (x / 100) < nI (x % 100) := of_decide_eq_true ht
      rw [if_pos ht2]
      rw [if_pos ht] at hk
      refine ip ⟨f1, d1⟩ ha.1 (k + 1) hg σ R Fin H1 hs (id_mo apl apl hi) (by omega) hc ⟨hk.1, fun hle R1 hs1 hp1 => ?_⟩
      have hk2 := hk.2 hle R1 hs1 hp1
      by_cases hq : (enT p σ).2 = true
      · rw [if_pos hq] at hk2 ⊢
        obtain ⟨g41, g42, g43, g44, g45, g47⟩ := SR_code hs1
        exact rg_jump (j := k + szR p + szR q + 2) (by rw [g41]; exact hl) (by omega) (by omega) (by rw [g42, show k + 1 + szR p = k + szR p + 1 by omega]; exact i5) (by rw [g45, show k + 1 + szR p = k + szR p + 1 by omega]; exact i6) (by omega) (by rw [show k + szR p + szR q + 2 = k + szR (tIf x p q) by omega]; exact hk2)
      · rw [if_neg hq] at hk2 ⊢
        exact hk2
    · have ht2 : ¬ σ.1 (x / 100) < nI (x % 100) := fun z => ht (decide_eq_true z)
      rw [if_neg ht2]
      rw [if_neg ht] at hk
      refine iq ⟨f2, d2⟩ ha.2 (k + szR p + 2) hg σ R Fin H2 hs (id_mo apr apr hi) (by omega) hc ⟨hk.1, fun hle R1 hs1 hp1 => ?_⟩
      have hk2 := hk.2 hle R1 hs1 hp1
      rw [show k + szR p + 2 + szR q = k + szR (tIf x p q) by omega]
      exact hk2
def ReR (a r c0 l : Nat) (du ps : Nat → Nat) (R0 : Nat → Nat → Int32) (d : Nat) (t : tT) : Prop := ndT t → agT t = true → d ∈ dsT t → ∀ (k hg : Nat) (σ : wS) (R : Nat → Nat → Int32) (Fin : gT → Prop), HR r l du ps R0 t k → SR a r c0 du ps R0 σ R → σ.2.2.2.1 d = 0 → bzT t (inS d σ) → hg + (fkT t).length ≤ 63 → c0 + ln σ ≤ 200 → CnR a r c0 du ps R0 (reT d t σ) (k + szR t) hg R Fin → RG a r (some (psR t k d + 1)) hg (c0 + ln σ) R Fin
theorem reR (d : Nat) (hl : R0 41 r = nI l) (hl2 : l < 200) : ∀ t : tT, okT t = true → ReR a r c0 l du ps R0 d t := by
  apply T_ind2
  · intro v hn ha hd; cases hd
  · intro e hn ha hd k hg σ R Fin hH hs h0 hb hh hc hk
    exact hk.2 hc R hs (fun _ _ => rfl)
  · intro x hn ha hd; cases hd
  · intro p q op oq ip iq hn ha hd k hg σ R Fin hH hs h0 hb hh hc hk
    obtain ⟨H1, H2⟩ := HR_sq hn hH
    obtain ⟨f1, f2, f3⟩ := nd_app hn.1
    obtain ⟨d1, d2, d3⟩ := nd_app hn.2
    rw [agT, Bool.and_eq_true] at ha
    have hfl : (fkT (tSeq p q)).length = (fkT p).length + (fkT q).length := List.length_append
    have hzz : k + szR p + szR q = k + szR (tSeq p q) := Nat.add_assoc _ _ _
    rw [re_seq] at hk
    by_cases hda : d ∈ dsT p
    · rw [if_pos hda] at hk
      rw [show psR (tSeq p q) k d = psR p k d from if_pos hda]
      rcases hb with ⟨hb1, hb2⟩ | ⟨hb1, hb2⟩
      · have hiq : idW q (reT d p σ).1 := id_eq (eq_fr (fun f q z => f3 f z q) (fun d q z => d3 d z q) (re_fr d p op σ)) (id_eq (eqW_in2 (d3 d hda)) hb2)
        have hmq := en_mk q oq ⟨f2, d2⟩ (reT d p σ).1 hiq
        refine ip ⟨f1, d1⟩ ha.1 hda k hg σ R Fin H1 hs h0 hb1 (by omega) hc ⟨fun hov => ?_, fun hle R1 hs1 hp1 => ?_⟩
        · refine hk.1 ?_
          split
          · have := cm_le hmq.1; omega
          · exact hov
        · by_cases hf : (reT d p σ).2 = true
          · rw [if_pos hf] at hk ⊢
            refine enR hl hl2 q oq ⟨f2, d2⟩ ha.2 (k + szR p) hg (reT d p σ).1 R1 Fin H2 hs1 hiq (by omega) hle ⟨hk.1, fun hle2 R2 hs2 hp2 => ?_⟩
            rw [hzz]
            exact hk.2 hle2 R2 hs2 (fun j hj => (hp2 j hj).trans (hp1 j hj))
          · rw [if_neg hf] at hk ⊢
            exact hk.2 hle R1 hs1 hp1
      · exact absurd hb1 (not_id hda)
    · rw [if_neg hda] at hk
      rw [show psR (tSeq p q) k d = psR q (k + szR p) d from if_neg hda]
      have hdb : d ∈ dsT q := (List.mem_append.mp hd).resolve_left hda
      rcases hb with ⟨hb1, hb2⟩ | ⟨hb1, hb2⟩
      · exact absurd hb2 (not_id hdb)
      · rw [← hzz] at hk
        exact iq ⟨f2, d2⟩ ha.2 hdb (k + szR p) hg σ R Fin H2 hs h0 hb2 (by omega) hc hk
  · intro x p op ip hn ha hd k hg σ R Fin hH hs h0 hb hh hc hk
    have H1 := HR_ag hH
    obtain ⟨⟨i1, i2, i3, i4, i5⟩, j2, j3, j4, j5⟩ := hH
    have hz : szR (tAg x p) = szR p + 1 := rfl
    rw [agT, Bool.and_eq_true] at ha
    rw [lbT, Bool.and_eq_true] at j5
    have hx : x < 400 := of_decide_eq_true j5.2
    have hmp := re_mk d p op hn ha.1 hd σ h0 hb
    rw [re_ag] at hk
    refine ip hn ha.1 hd k hg σ R Fin H1 hs h0 hb hh hc ⟨fun hov => ?_, fun hle R1 hs1 hp1 => ?_⟩
    · refine hk.1 ?_
      split
      · rename_i hf
        split
        · have hmq := en_mk p op hn (reT d p σ).1 (hmp.2.1 hf)
          have := cm_le hmq.1
          show 200 < c0 + ln (enT p (reT d p σ).1).1
          omega
        · exact hov
      · exact hov
    · by_cases hf : (reT d p σ).2 = true
      · rw [if_pos hf] at hk ⊢
        obtain ⟨e41, e42, e43, e44, e45, e47⟩ := SR_code hs1
        refine rg_again (f := x / 100) (j := k) (by rw [e41]; exact hl) (by omega) (by omega) (by rw [e42]; exact i2) (by rw [e43]; exact i3) (by omega) (by rw [e45]; exact i5) (by omega) ?_
        rw [hs1.2.1 (x / 100) (by omega), e44, show R0 44 (200 * r + (k + szR p)) = nI (x % 100) from i4]
        by_cases ht : ltB x (reT d p σ).1 = true
        · have ht2 : (reT d p σ).1.1 (x / 100) < nI (x % 100) := of_decide_eq_true ht
          rw [if_pos ht2]
          rw [if_pos ht] at hk
          have hi1 := hmp.2.1 hf
          have hfl := en_hd p op hn ha.1 ha.2 _ hi1
          refine enR hl hl2 p op hn ha.1 k hg (reT d p σ).1 R1 Fin H1 hs1 hi1 hh hle ⟨hk.1, fun hle2 R2 hs2 hp2 => ?_⟩
          rw [hfl, if_neg (by decide)]
          exact hk.2 hle2 R2 hs2 (fun j hj => (hp2 j hj).trans (hp1 j hj))
        · have ht2 : ¬ (reT d p σ).1.1 (x / 100) < nI (x % 100) := fun z => ht (decide_eq_true z)
          rw [if_neg ht2]
          rw [if_neg ht] at hk
          exact hk.2 hle R1 hs1 hp1
      · rw [if_neg hf] at hk ⊢
        exact hk.2 hle R1 hs1 hp1
  · intro f p q op oq ip iq hn ha hd k hg σ R Fin hH hs h0 hb hh hc hk
    obtain ⟨H1, H2⟩ := HR_bo hn hH
    obtain ⟨⟨⟨i1, i2, i3⟩, i4, ⟨i5, i6, i7⟩, i8, i9, i10, i11⟩, j2, j3, j4, j5⟩ := hH
    have hz : szR (tBo f p q) = szR p + szR q + 3 := rfl
    obtain ⟨n1, n2⟩ := List.nodup_cons.mp hn.1
    obtain ⟨f1, f2, f3⟩ := nd_app n2
    obtain ⟨d1, d2, d3⟩ := nd_app hn.2
    have nfa : f ∉ fkT p := fun q => n1 (apl f q)
    have nfb : f ∉ fkT q := fun q => n1 (apr f q)
    rw [agT, Bool.and_eq_true] at ha
    have hf40 := j4 f List.mem_cons_self
    have hfl : (fkT (tBo f p q)).length = (fkT p).length + (fkT q).length + 1 := by
      show (f :: (fkT p ++ fkT q)).length = _
      rw [List.length_cons, List.length_append]
    obtain ⟨hac, hb⟩ := hb
    have h01 : σ.2.1 f = 0 ∨ σ.2.1 f = 1 := by
      rcases hb with ⟨h, -⟩ | ⟨h, -⟩
      · exact Or.inl h
      · exact Or.inr h
    have hjl : ∀ τ : wS, ln (jn f τ).1 = ln τ := fun τ => by
      show (jn f τ).1.2.2.2.2.length = _
      rw [(jn_cm f τ).1]
    rw [re_bo] at hk
    by_cases hda : d ∈ dsT p
    · rw [if_pos hda] at hk
      rw [show psR (tBo f p q) k d = psR p (k + 1) d from if_pos hda]
      have hbp : bzT p (inS d σ) := by
        rcases hb with ⟨h1, h2, h3⟩ | ⟨h1, ⟨h2, h3⟩ | ⟨h2, h3⟩⟩
        · exact h2
        · exact h2
        · exact absurd h2 (not_id hda)
      have hff := (re_fr d p op σ).1 f nfa
      refine ip ⟨f1, d1⟩ ha.1 hda (k + 1) hg σ R Fin H1 hs h0 hbp (by omega) hc ⟨fun hov => ?_, fun hle R1 hs1 hp1 => ?_⟩
      · refine hk.1 ?_
        split
        · rw [hjl]; exact hov
        · exact hov
      · by_cases hf : (reT d p σ).2 = true
        · rw [if_pos hf] at hk ⊢
          have hk2 := hk.2
          rw [hjl] at hk2
          refine jnR hl hl2 hf40 (k := k + 1 + szR p) (e := k + szR p + szR q + 3) (by omega) (by omega) (by rw [show k + 1 + szR p = k + szR p + 1 by omega]; exact i5) (by rw [show k + 1 + szR p = k + szR p + 1 by omega]; exact i6) (by rw [show k + 1 + szR p = k + szR p + 1 by omega]; exact i7) hs1 (by rw [hff.1]; exact h01) (fun R4 hs4 hp5 => ?_)
          rw [show k + szR p + szR q + 3 = k + szR (tBo f p q) by omega]
          exact hk2 hle R4 hs4 (fun j hj => (hp5 j hj).trans (hp1 j hj))
        · rw [if_neg hf] at hk ⊢
          exact hk.2 hle R1 hs1 hp1
    · rw [if_neg hda] at hk
      rw [show psR (tBo f p q) k d = psR q (k + szR p + 2) d from if_neg hda]
      have hdb : d ∈ dsT q := (List.mem_append.mp hd).resolve_left hda
      have hbp : bzT q (inS d σ) := by
        rcases hb with ⟨h1, h2, h3⟩ | ⟨h1, ⟨h2, h3⟩ | ⟨h2, h3⟩⟩
        · exact h3
        · exact absurd h3 (not_id hdb)
        · exact h3
      have hff := (re_fr d q oq σ).1 f nfb
      refine iq ⟨f2, d2⟩ ha.2 hdb (k + szR p + 2) hg σ R Fin H2 hs h0 hbp (by omega) hc ⟨fun hov => ?_, fun hle R1 hs1 hp1 => ?_⟩
      · refine hk.1 ?_
        split
        · rw [hjl]; exact hov
        · exact hov
      · by_cases hf : (reT d q σ).2 = true
        · rw [if_pos hf] at hk ⊢
          have hk2 := hk.2
          rw [hjl] at hk2
          refine jnR hl hl2 hf40 (k := k + szR p + 2 + szR q) (e := k + szR p + szR q + 3) (by omega) (by omega) (by rw [show k + szR p + 2 + szR q = k + szR p + szR q + 2 by omega]; exact i9) (by rw [show k + szR p + 2 + szR q = k + szR p + szR q + 2 by omega]; exact i10) (by rw [show k + szR p + 2 + szR q = k + szR p + szR q + 2 by omega]; exact i11) hs1 (by rw [hff.1]; exact h01) (fun R4 hs4 hp5 => ?_)
          rw [show k + szR p + szR q + 3 = k + szR (tBo f p q) by omega]
          exact hk2 hle R4 hs4 (fun j hj => (hp5 j hj).trans (hp1 j hj))
        · rw [if_neg hf] at hk ⊢
          exact hk.2 hle R1 hs1 hp1
  · intro x p q op oq ip iq hn ha hd k hg σ R Fin hH hs h0 hb hh hc hk
    obtain ⟨H1, H2⟩ := HR_if hn hH
    obtain ⟨⟨⟨i1, i2, i3, i3b⟩, i4, ⟨i5, i6⟩, i8⟩, j2, j3, j4, j5⟩ := hH
    have hz : szR (tIf x p q) = szR p + szR q + 2 := rfl
    obtain ⟨f1, f2, f3⟩ := nd_app hn.1
    obtain ⟨d1, d2, d3⟩ := nd_app hn.2
    rw [agT, Bool.and_eq_true] at ha
    have hfl : (fkT (tIf x p q)).length = (fkT p).length + (fkT q).length := List.length_append
    rw [re_if] at hk
    by_cases hda : d ∈ dsT p
    · rw [if_pos hda] at hk
      rw [show psR (tIf x p q) k d = psR p (k + 1) d from if_pos hda]
      rcases hb with ⟨hb1, hb2⟩ | ⟨hb1, hb2⟩
      · refine ip ⟨f1, d1⟩ ha.1 hda (k + 1) hg σ R Fin H1 hs h0 hb1 (by omega) hc ⟨hk.1, fun hle R1 hs1 hp1 => ?_⟩
        have hk2 := hk.2 hle R1 hs1 hp1
        by_cases hq : (reT d p σ).2 = true
        · rw [if_pos hq] at hk2 ⊢
          obtain ⟨g41, g42, g43, g44, g45, g47⟩ := SR_code hs1
          exact rg_jump (j := k + szR p + szR q + 2) (by rw [g41]; exact hl) (by omega) (by omega) (by rw [g42, show k + 1 + szR p = k + szR p + 1 by omega]; exact i5) (by rw [g45, show k + 1 + szR p = k + szR p + 1 by omega]; exact i6) (by omega) (by rw [show k + szR p + szR q + 2 = k + szR (tIf x p q) by omega]; exact hk2)
        · rw [if_neg hq] at hk2 ⊢
          exact hk2
      · exact absurd hb1 (not_id hda)
    · rw [if_neg hda] at hk
      rw [show psR (tIf x p q) k d = psR q (k + szR p + 2) d from if_neg hda]
      have hdb : d ∈ dsT q := (List.mem_append.mp hd).resolve_left hda
      rcases hb with ⟨hb1, hb2⟩ | ⟨hb1, hb2⟩
      · exact absurd hb2 (not_id hdb)
      · rw [show k + szR (tIf x p q) = k + szR p + 2 + szR q by omega] at hk
        exact iq ⟨f2, d2⟩ ha.2 hdb (k + szR p + 2) hg σ R Fin H2 hs h0 hb2 (by omega) hc hk
end GR2
