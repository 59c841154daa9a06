theorem nar_wb (x : Bool) : vp_nar .boolean (wb x) = wb x := by cases x <;> rfl
theorem wb_or3 (x y z : Bool) : wb (!decide (wb x = 0) || !decide (wb y = 0) || !decide (wb z = 0)) = wb (x || (z || y)) := by cases x <;> cases y <;> cases z <;> rfl
theorem wb_an3 (x y z : Bool) : wb (!decide (wb x = 0) || (!decide (wb y = 0) && !decide (wb z = 0))) = wb (x || (z && y)) := by cases x <;> cases y <;> cases z <;> rfl
theorem tokS_u {b : Nat → Int32} {L p k : Nat} {F : Nat → Int32} {tl : Int64} {v : Int32} (h : tokS b L p F tl) (h2 : k ≠ 2) (h3 : k ≠ 3) (h4 : k ≠ 4) (h6 : k ≠ 6) : tokS b L p (upd F k v) tl := by
  have e : ∀ j, j ≠ k → upd F k v j = F j := fun j hj => upd_gt hj
  unfold tokS at h ⊢
  rw [e 2 (Ne.symm h2), e 3 (Ne.symm h3), e 4 (Ne.symm h4), e 6 (Ne.symm h6)]
  exact h
theorem ir_c1 {b : Nat → Int32} {L p s c f x : Nat} {ns ro du : Nat → Nat} {cur out fst : tT} {Γ : List aFr} {ey : Nat → Int32} {F F0 : Nat → Int32} {tl : Int64} {R : Nat → Nat → Int32} {NL : Nat → Int64} {cd k : Nat} (hw : wfA L (p, s, c, f, ns, cur, (1, x, out, fst) :: Γ, ro, du, ey)) (hI : IR b L (p, s, c, f, ns, cur, (1, x, out, fst) :: Γ, ro, du, ey) F tl R NL) (hcd : cd = kR Γ + szR out) (hk : k = cd + 1 + szR cur) {q : Nat} (hq : q ≤ L) (hF0 : ∀ j, j ≠ 33 → j ≠ 14 → j ≠ 2 → j ≠ 3 → j ≠ 4 → j ≠ 6 → F0 j = F j) (hF14 : F0 14 = nI (k + 1)) : IR b L (q, s, c, f, ns, tSkip, (2, x, out, cur) :: Γ, ro, du, ey) (upd (nxF b L q F0) 33 (nI (Γ.length + 1))) (nxT b L q) (opR (va_up (va_up (va_up (emR R k 6 (R 16 cd) 0) 18 (upd ((emR R k 6 (R 16 cd) 0) 18) cd (nI (k + 1)))) 39 (upd (R 39) (Γ.length + 1) (vp_nar .boolean (R 38 (Γ.length + 1))))) 17 (upd ((va_up (va_up (emR R k 6 (R 16 cd) 0) 18 (upd ((emR R k 6 (R 16 cd) 0) 18) cd (nI (k + 1)))) 39 (upd (R 39) (Γ.length + 1) (vp_nar .boolean (R 38 (Γ.length + 1))))) 17) cd (nI k))) (Γ.length + 1) 2 (nI cd) 0 0) NL := by
  obtain ⟨w1, w2, w3, w4, w5, w6, w7, w8, w9, w10, w11, w12⟩ := hw
  obtain ⟨v1, v2, v3, v4, v5, v6⟩ := w5
  obtain ⟨h1, h2, h3, h4, h5, h6, h7, h8, h9, h10, h11, h12, h13, h14⟩ := hI
  obtain ⟨f1, f2, f3, f4, f5, f6⟩ := h11
  obtain ⟨s1, s2, s3, s4, s5, s6⟩ := h13
  obtain ⟨f3a, f3b⟩ := f3 rfl
  have hn : ∀ j, j < k → j ≠ cd → upd (upd (R 18) k (-1)) cd (nI (k + 1)) j = R 18 j := fun j h1 h2 => (upd_gt h2).trans (upd_lt h1)
  have hn2 : ∀ j, j < k → j ≠ cd → upd (upd (R 17) k 0) cd (nI k) j = R 17 j := fun j h1 h2 => (upd_gt h2).trans (upd_lt h1)
  have hcg : ∀ j, j < k → j ≠ cd → upd (R 15) k 6 j = R 15 j ∧ upd (R 16) k (R 16 cd) j = R 16 j ∧ upd (upd (R 17) k 0) cd (nI k) j = R 17 j ∧ upd (upd (R 18) k (-1)) cd (nI (k + 1)) j = R 18 j := fun j h1 h2 => ⟨upd_lt h1, upd_lt h1, hn2 j h1 h2, hn j h1 h2⟩
  refine ⟨h1, tokS_u (tokS_nx hq) (by decide) (by decide) (by decide) (by decide), ?_, ?_, ?_, ?_, ?_, w_upd_self _ _ _, h9, h10, ⟨?_, ?_, fun z => by omega, fun _ => ⟨⟨?_, ?_, ?_, ?_⟩, ?_, ?_, ?_⟩, fun z => by omega, fun z => by omega⟩, trivial, ⟨?_, w_upd_self _ _ _, ?_, fun z => by omega, ?_, fun _ => ?_⟩, w_upd_self _ _ _⟩
  · exact (hF0 7 (by decide) (by decide) (by decide) (by decide) (by decide) (by decide)).trans h3
  · exact (hF0 11 (by decide) (by decide) (by decide) (by decide) (by decide) (by decide)).trans h4
  · exact (hF0 12 (by decide) (by decide) (by decide) (by decide) (by decide) (by decide)).trans h5
  · exact (hF0 13 (by decide) (by decide) (by decide) (by decide) (by decide) (by decide)).trans h6
  · refine hF14.trans (congrArg nI ?_)
    show k + 1 = kR Γ + szR out + (szR cur + 2) + 0
    omega
  · exact frR_cg v1 (fun j hj => hcg j (by omega) (by omega)) f1
  · exact iR_cg out v3.1 _ (fun j a1 a2 => hcg j (by omega) (by omega)) f2
  · rw [← hcd]; exact (upd_lt (g := R 15) (by omega)).trans (by rw [hcd]; exact f3a)
  · rw [← hcd]; exact (upd_lt (g := R 16) (by omega)).trans (by rw [hcd]; exact f3b)
  · rw [← hcd]; refine (w_upd_self _ _ _).trans (congrArg nI (by omega))
  · rw [← hcd]; refine (w_upd_self _ _ _).trans (congrArg nI (by omega))
  · rw [← hcd]
    refine iR_cg cur w4.1 _ (fun j a1 a2 => hcg j (by omega) (by omega)) ?_
    rw [hcd]
    exact h12
  · rw [← hcd, show cd + szR cur + 1 = k by omega]; exact w_upd_self _ _ _
  · rw [← hcd, show cd + szR cur + 1 = k by omega]; exact (w_upd_self _ _ _).trans (by rw [hcd]; exact f3b)
  · exact stkR_cg (R := R) (fun j hj => ⟨upd_lt (g := R 34) (by omega), upd_lt (g := R 35) (by omega), upd_lt (g := R 36) (by omega), upd_lt (g := R 37) (by omega), upd_lt (g := R 39) (by omega)⟩) (fun j hj => upd_lt (g := R 38) (by omega)) s1
  · refine (w_upd_self _ _ _).trans ?_
    rw [if_neg (by omega), hcd]
  · exact (upd_lt (g := R 38) (by omega)).trans s5
  · refine (w_upd_self _ _ _).trans ?_
    rw [show R 38 (Γ.length + 1) = wb (hdT cur) from h14, nar_wb]
theorem ir_c3 {b : Nat → Int32} {L p s c f x : Nat} {ns ro du : Nat → Nat} {cur out fst : tT} {Γ : List aFr} {ey : Nat → Int32} {F F0 : Nat → Int32} {tl : Int64} {R : Nat → Nat → Int32} {NL : Nat → Int64} {cd k : Nat} (hw : wfA L (p, s, c, f, ns, cur, (3, x, out, fst) :: Γ, ro, du, ey)) (hI : IR b L (p, s, c, f, ns, cur, (3, x, out, fst) :: Γ, ro, du, ey) F tl R NL) (hcd : cd = kR Γ + szR out) (hk : k = cd + 1 + szR cur) {q : Nat} (hq : q ≤ L) (hF0 : ∀ j, j ≠ 33 → j ≠ 14 → j ≠ 2 → j ≠ 3 → j ≠ 4 → j ≠ 6 → F0 j = F j) (hF14 : F0 14 = nI (k + 1)) : IR b L (q, s, c, f, ns, tSkip, (4, x, out, cur) :: Γ, ro, du, ey) (upd (nxF b L q F0) 33 (nI (Γ.length + 1))) (nxT b L q) (opR (va_up (va_up (emR R k 3 0 0) 18 (upd ((emR R k 3 0 0) 18) cd (nI (k + 1)))) 39 (upd (R 39) (Γ.length + 1) (vp_nar .boolean (R 38 (Γ.length + 1))))) (Γ.length + 1) 4 (nI k) 0 0) NL := by
  obtain ⟨w1, w2, w3, w4, w5, w6, w7, w8, w9, w10, w11, w12⟩ := hw
  obtain ⟨v1, v2, v3, v4, v5, v6⟩ := w5
  obtain ⟨h1, h2, h3, h4, h5, h6, h7, h8, h9, h10, h11, h12, h13, h14⟩ := hI
  obtain ⟨f1, f2, f3, f4, f5, f6⟩ := h11
  obtain ⟨s1, s2, s3, s4, s5, s6⟩ := h13
  obtain ⟨f3a, f3b, f3c⟩ := f5 rfl
  have hcg : ∀ j, j < k → j ≠ cd → upd (R 15) k 3 j = R 15 j ∧ upd (R 16) k 0 j = R 16 j ∧ upd (R 17) k 0 j = R 17 j ∧ upd (upd (R 18) k (-1)) cd (nI (k + 1)) j = R 18 j := fun j h1 h2 => ⟨upd_lt h1, upd_lt h1, upd_lt h1, (upd_gt h2).trans (upd_lt h1)⟩
  refine ⟨h1, tokS_u (tokS_nx hq) (by decide) (by decide) (by decide) (by decide), ?_, ?_, ?_, ?_, ?_, w_upd_self _ _ _, h9, h10, ⟨?_, ?_, fun z => by omega, fun z => by omega, fun z => by omega, fun _ => ⟨⟨?_, ?_, ?_, ?_⟩, ?_, ?_⟩⟩, trivial, ⟨?_, w_upd_self _ _ _, ?_, fun z => by omega, ?_, fun _ => ?_⟩, w_upd_self _ _ _⟩
  · exact (hF0 7 (by decide) (by decide) (by decide) (by decide) (by decide) (by decide)).trans h3
  · exact (hF0 11 (by decide) (by decide) (by decide) (by decide) (by decide) (by decide)).trans h4
  · exact (hF0 12 (by decide) (by decide) (by decide) (by decide) (by decide) (by decide)).trans h5
  · exact (hF0 13 (by decide) (by decide) (by decide) (by decide) (by decide) (by decide)).trans h6
  · refine hF14.trans (congrArg nI ?_)
    show k + 1 = kR Γ + szR out + (szR cur + 2) + 0
    omega
  · exact frR_cg v1 (fun j hj => hcg j (by omega) (by omega)) f1
  · exact iR_cg out v3.1 _ (fun j a1 a2 => hcg j (by omega) (by omega)) f2
  · rw [← hcd]; exact (upd_lt (g := R 15) (by omega)).trans (by rw [hcd]; exact f3a)
  · rw [← hcd]; exact (upd_lt (g := R 16) (by omega)).trans (by rw [hcd]; exact f3b)
  · rw [← hcd]; exact (upd_lt (g := R 17) (by omega)).trans (by rw [hcd]; exact f3c)
  · rw [← hcd]; refine (w_upd_self _ _ _).trans (congrArg nI (by omega))
  · rw [← hcd]
    refine iR_cg cur w4.1 _ (fun j a1 a2 => hcg j (by omega) (by omega)) ?_
    rw [hcd]
    exact h12
  · rw [← hcd, show cd + szR cur + 1 = k by omega]; exact w_upd_self _ _ _
  · exact stkR_cg (R := R) (fun j hj => ⟨upd_lt (g := R 34) (by omega), upd_lt (g := R 35) (by omega), upd_lt (g := R 36) (by omega), upd_lt (g := R 37) (by omega), upd_lt (g := R 39) (by omega)⟩) (fun j hj => upd_lt (g := R 38) (by omega)) s1
  · refine (w_upd_self _ _ _).trans ?_
    rw [if_pos rfl, ← hcd, show cd + szR cur + 1 = k by omega]
  · exact (upd_lt (g := R 38) (by omega)).trans s5
  · refine (w_upd_self _ _ _).trans ?_
    rw [show R 38 (Γ.length + 1) = wb (hdT cur) from h14, nar_wb]
theorem ir_c4 {b : Nat → Int32} {L p s c f x : Nat} {ns ro du : Nat → Nat} {cur out fst : tT} {Γ : List aFr} {ey : Nat → Int32} {F : Nat → Int32} {tl : Int64} {R : Nat → Nat → Int32} {NL : Nat → Int64} {cd : Nat} (hw : wfA L (p, s, c, f, ns, cur, (4, x, out, fst) :: Γ, ro, du, ey)) (hI : IR b L (p, s, c, f, ns, cur, (4, x, out, fst) :: Γ, ro, du, ey) F tl R NL) (hcd : cd = kR Γ + szR out + szR fst + 1) {q : Nat} (hq : q ≤ L) : IR b L (q, s, c, f, ns, tSeq out (tIf x fst cur), Γ, ro, du, ey) (upd (nxF b L q F) 33 (nI Γ.length)) (nxT b L q) (va_up (va_up R 18 (upd (R 18) cd (F 14))) 38 (upd (R 38) Γ.length (wb (!decide (R 38 Γ.length = 0) || (!decide (R 38 (Γ.length + 1) = 0) && !decide (R 39 (Γ.length + 1) = 0)))))) NL := by
  obtain ⟨w1, w2, w3, w4, w5, w6, w7, w8, w9, w10, w11, w12⟩ := hw
  obtain ⟨v1, v2, v3, v4, v5, v6⟩ := w5
  obtain ⟨h1, h2, h3, h4, h5, h6, h7, h8, h9, h10, h11, h12, h13, h14⟩ := hI
  obtain ⟨f1, f2, f3, f4, f5, f6⟩ := h11
  obtain ⟨s1, s2, s3, s4, s5, s6⟩ := h13
  obtain ⟨⟨f6a, f6b, f6c, f6d⟩, f6e, f6f⟩ := f6 rfl
  have hkk : kR ((4, x, out, fst) :: Γ) = kR Γ + szR out + (szR fst + 2) := rfl
  have hcg : ∀ j, j ≠ cd → R 15 j = R 15 j ∧ R 16 j = R 16 j ∧ R 17 j = R 17 j ∧ upd (R 18) cd (F 14) j = R 18 j := fun j h2 => ⟨rfl, rfl, rfl, upd_gt h2⟩
  refine ⟨h1, tokS_u (tokS_nx hq) (by decide) (by decide) (by decide) (by decide), h3, h4, h5, h6, ?_, w_upd_self _ _ _, h9, h10, ?_, ⟨?_, ⟨f6a, f6b, f6c, ?_⟩, ?_, ⟨f6f, ?_⟩, ?_⟩, ?_, ?_⟩
  · refine h7.trans (congrArg nI ?_)
    show kR Γ + szR out + (szR fst + 2) + szR cur = kR Γ + (szR out + (szR fst + szR cur + 2))
    omega
  · exact frR_cg v1 (fun j hj => hcg j (by omega)) f1
  · exact iR_cg out v3.1 _ (fun j a1 a2 => hcg j (by omega)) f2
  · exact (upd_gt (by omega)).trans f6d
  · exact iR_cg fst v4.1 _ (fun j a1 a2 => hcg j (by omega)) f6e
  · rw [← hcd]
    refine (w_upd_self _ _ _).trans (h7.trans (congrArg nI ?_))
    rw [hkk]
    omega
  · refine iR_cg cur w4.1 _ (fun j a1 a2 => hcg j (by omega)) ?_
    rw [show kR Γ + szR out + szR fst + 2 = kR ((4, x, out, fst) :: Γ) by rw [hkk]; omega]
    exact h12
  · exact stkR_cg (R := R) (fun j hj => ⟨rfl, rfl, rfl, rfl, rfl⟩) (fun j hj => upd_lt (g := R 38) (by omega)) s1
  · refine (w_upd_self _ _ _).trans ?_
    rw [s5, show R 38 (Γ.length + 1) = wb (hdT cur) from h14, s6 (Or.inr rfl), wb_an3]
    rfl
theorem ir_c2 {b : Nat → Int32} {L p s c f x : Nat} {ns ro du : Nat → Nat} {cur out fst : tT} {Γ : List aFr} {ey : Nat → Int32} {F : Nat → Int32} {tl : Int64} {R : Nat → Nat → Int32} {NL : Nat → Int64} {cd j k : Nat} (hw : wfA L (p, s, c, f, ns, cur, (2, x, out, fst) :: Γ, ro, du, ey)) (hI : IR b L (p, s, c, f, ns, cur, (2, x, out, fst) :: Γ, ro, du, ey) F tl R NL) (hcd : cd = kR Γ + szR out) (hj : j = cd + szR fst + 1) (hk : k = j + 1 + szR cur) {q : Nat} (hq : q ≤ L) : IR b L (q, s, c, f, ns, tSeq out (tBo x fst cur), Γ, ro, du, ey) (upd (upd (nxF b L q F) 33 (nI Γ.length)) 14 (nI (k + 1))) (nxT b L q) (va_up (va_up (va_up (emR R k 6 (R 16 cd) 0) 18 (upd ((emR R k 6 (R 16 cd) 0) 18) k (nI (k + 1)))) 18 (upd ((va_up (emR R k 6 (R 16 cd) 0) 18 (upd ((emR R k 6 (R 16 cd) 0) 18) k (nI (k + 1)))) 18) j (nI (k + 1)))) 38 (upd (R 38) Γ.length (wb (!decide (R 38 Γ.length = 0) || !decide (R 38 (Γ.length + 1) = 0) || !decide (R 39 (Γ.length + 1) = 0))))) NL := by
  obtain ⟨w1, w2, w3, w4, w5, w6, w7, w8, w9, w10, w11, w12⟩ := hw
  obtain ⟨v1, v2, v3, v4, v5, v6⟩ := w5
  obtain ⟨h1, h2, h3, h4, h5, h6, h7, h8, h9, h10, h11, h12, h13, h14⟩ := hI
  obtain ⟨f1, f2, f3, f4, f5, f6⟩ := h11
  obtain ⟨s1, s2, s3, s4, s5, s6⟩ := h13
  obtain ⟨⟨f6a, f6b, f6c, f6d⟩, f6e, f6f, f6g⟩ := f4 rfl
  have hkk : kR ((2, x, out, fst) :: Γ) = kR Γ + szR out + (szR fst + 2) := rfl
  have hcg : ∀ i, i < k → i ≠ j → upd (R 15) k 6 i = R 15 i ∧ upd (R 16) k (R 16 cd) i = R 16 i ∧ upd (R 17) k 0 i = R 17 i ∧ upd (upd (upd (R 18) k (-1)) k (nI (k + 1))) j (nI (k + 1)) i = R 18 i := fun i h1 h2 => ⟨upd_lt h1, upd_lt h1, upd_lt h1, (upd_gt h2).trans ((upd_lt h1).trans (upd_lt h1))⟩
  refine ⟨h1, tokS_u (tokS_u (tokS_nx hq) (by decide) (by decide) (by decide) (by decide)) (by decide) (by decide) (by decide) (by decide), h3, h4, h5, h6, ?_, by simp [upd], h9, h10, ?_, ⟨?_, ⟨?_, ?_, ?_⟩, ?_, ⟨?_, ?_, ?_⟩, ?_, ?_, ?_, ?_⟩, ?_, ?_⟩
  · refine (w_upd_self _ _ _).trans (congrArg nI ?_)
    show k + 1 = kR Γ + (szR out + (szR fst + szR cur + 3))
    omega
  · exact frR_cg v1 (fun i hi => hcg i (by omega) (by omega)) f1
  · exact iR_cg out v3.1 _ (fun i a1 a2 => hcg i (by omega) (by omega)) f2
  · rw [← hcd] at f6a ⊢; exact (upd_lt (g := R 15) (by omega)).trans f6a
  · rw [← hcd] at f6b ⊢; exact (upd_lt (g := R 16) (by omega)).trans f6b
  · rw [← hcd] at f6c ⊢
    exact ((hcg cd (by omega) (by omega)).2.2.2).trans (f6c.trans (congrArg nI (by omega)))
  · exact iR_cg fst v4.1 _ (fun i a1 a2 => hcg i (by omega) (by omega)) f6e
  · rw [← hcd, ← hj] at f6f ⊢; exact (upd_lt (g := R 15) (by omega)).trans f6f
  · rw [← hcd, ← hj] at f6g ⊢; exact (upd_lt (g := R 16) (by omega)).trans f6g
  · rw [← hcd, ← hj]
    exact (w_upd_self _ _ _).trans (congrArg nI (by omega))
  · rw [← hcd]
    refine iR_cg cur w4.1 _ (fun i a1 a2 => hcg i (by omega) (by omega)) ?_
    rw [show cd + szR fst + 2 = kR ((2, x, out, fst) :: Γ) by rw [hkk]; omega]
    exact h12
  · rw [← hcd, show cd + szR fst + szR cur + 2 = k by omega]; exact w_upd_self _ _ _
  · rw [← hcd, show cd + szR fst + szR cur + 2 = k by omega]
    exact (w_upd_self _ _ _).trans (by rw [hcd]; exact f6b)
  · rw [← hcd, show cd + szR fst + szR cur + 2 = k by omega]
    refine (upd_gt (by omega)).trans ((w_upd_self _ _ _).trans (congrArg nI (by omega)))
  · exact stkR_cg (R := R) (fun j hj => ⟨rfl, rfl, rfl, rfl, rfl⟩) (fun j hj => upd_lt (g := R 38) (by omega)) s1
  · refine (w_upd_self _ _ _).trans ?_
    rw [s5, show R 38 (Γ.length + 1) = wb (hdT cur) from h14, s6 (Or.inl rfl), wb_or3]
    rfl
theorem ir_c5 {b : Nat → Int32} {L p s c f x : Nat} {ns ro du : Nat → Nat} {cur out fst : tT} {Γ : List aFr} {ey : Nat → Int32} {F : Nat → Int32} {tl : Int64} {R : Nat → Nat → Int32} {NL : Nat → Int64} {cd k : Nat} (hw : wfA L (p, s, c, f, ns, cur, (5, x, out, fst) :: Γ, ro, du, ey)) (hI : IR b L (p, s, c, f, ns, cur, (5, x, out, fst) :: Γ, ro, du, ey) F tl R NL) (hcd : cd = kR Γ + szR out) (hk : k = cd + szR cur) {q : Nat} (hq : q ≤ L) : IR b L (q, s, c, f, ns, tSeq out (tAg x cur), Γ, ro, du, ey) (upd (upd (nxF b L q F) 33 (nI Γ.length)) 14 (nI (k + 1))) (nxT b L q) (va_up (va_up (emR R k 4 (R 36 (Γ.length + 1)) (R 37 (Γ.length + 1))) 18 (upd (emR R k 4 (R 36 (Γ.length + 1)) (R 37 (Γ.length + 1)) 18) k (nI cd))) 38 (upd (R 38) Γ.length 1)) NL := by
  obtain ⟨w1, w2, w3, w4, w5, w6, w7, w8, w9, w10, w11, w12⟩ := hw
  obtain ⟨v1, v2, v3, v4, v5, v6⟩ := w5
  obtain ⟨h1, h2, h3, h4, h5, h6, h7, h8, h9, h10, h11, h12, h13, h14⟩ := hI
  obtain ⟨f1, f2, f3, f4, f5, f6⟩ := h11
  obtain ⟨s1, s2, s3, s4, s5, s6⟩ := h13
  have hkk : kR ((5, x, out, fst) :: Γ) = kR Γ + szR out + 0 := rfl
  have hcg : ∀ i, i < k → upd (R 15) k 4 i = R 15 i ∧ upd (R 16) k (R 36 (Γ.length + 1)) i = R 16 i ∧ upd (R 17) k (R 37 (Γ.length + 1)) i = R 17 i ∧ upd (upd (R 18) k (-1)) k (nI cd) i = R 18 i := fun i h1 => ⟨upd_lt h1, upd_lt h1, upd_lt h1, (upd_lt h1).trans (upd_lt h1)⟩
  refine ⟨h1, tokS_u (tokS_u (tokS_nx hq) (by decide) (by decide) (by decide) (by decide)) (by decide) (by decide) (by decide) (by decide), h3, h4, h5, h6, ?_, by simp [upd], h9, h10, ?_, ⟨?_, ?_, ?_, ?_, ?_, ?_⟩, ?_, ?_⟩
  · refine (w_upd_self _ _ _).trans (congrArg nI ?_)
    show k + 1 = kR Γ + (szR out + (szR cur + 1))
    omega
  · exact frR_cg v1 (fun i hi => hcg i (by omega)) f1
  · exact iR_cg out v3.1 _ (fun i a1 a2 => hcg i (by omega)) f2
  · refine iR_cg cur w4.1 _ (fun i a1 a2 => hcg i (by omega)) ?_
    exact h12
  · rw [← hcd, ← hk]; exact w_upd_self _ _ _
  · rw [← hcd, ← hk]; exact (w_upd_self _ _ _).trans (s4 rfl).1
  · rw [← hcd, ← hk]; exact (w_upd_self _ _ _).trans (s4 rfl).2
  · rw [← hcd, ← hk]; exact w_upd_self _ _ _
  · exact stkR_cg (R := R) (fun j hj => ⟨rfl, rfl, rfl, rfl, rfl⟩) (fun j hj => upd_lt (g := R 38) (by omega)) s1
  · refine (w_upd_self _ _ _).trans ?_
    show _ = wb (hdT out || true)
    rw [wb_or]
