/-! Reader: the state of a parse is X = (place of the token, fields of the reader, fields of the draft, rows of the reader, rows of the draft) -/
abbrev cX : Type := Nat × (Nat → Int32) × (Nat → Int32) × (Nat → Nat → Int32) × (Nat → Nat → Int32)
def hX (Λ : wL) (r t d : Nat) (F : Nat → Nat → Int32) (O : Nat → Nat → Option Nat) (R : Nat → Nat → Nat → Int32) (h0 : Nat → Option wE) (L : Nat) (X : cX) : Nat → Option wE :=
  wld Λ (va_up (va_up (va_up F r X.2.1) t (taF (R t 0) L X.1 (F t))) d X.2.2.1) O (va_up (va_up R r X.2.2.2.1) d X.2.2.2.2) h0
def hJ (Λ : wL) (r t d : Nat) (F : Nat → Nat → Int32) (O : Nat → Nat → Option Nat) (R : Nat → Nat → Nat → Int32) (L mr mt md : Nat) : Prop :=
  Lk Λ r 1 mr ∧ Lk Λ t 2 mt ∧ Lk Λ d 3 md ∧ O r 0 = some mt ∧ O r 3 = some md ∧ F t 1 = nI L ∧ L ≤ 300 ∧ (∀ j, j < 9 → R t 6 j = nI (wkN j))
section U3
variable {α : Type} {f : Nat → α} {i j k : Nat} {a b c z : α}
theorem u3_1 (h1 : i ≠ j) (h2 : i ≠ k) : va_up (va_up (va_up f i a) j b) k c i = a := by simp [va_up, h1, h2]
theorem u3_2 (h2 : j ≠ k) : va_up (va_up (va_up f i a) j b) k c j = b := by simp [va_up, h2]
theorem u3_p1 (h1 : i ≠ j) (h2 : i ≠ k) : va_up (va_up (va_up (va_up f i a) j b) k c) i z = va_up (va_up (va_up f i z) j b) k c := by
  funext q
  by_cases e : q = i
  · subst e; simp [va_up, h1, h2]
  · simp [va_up, e]
theorem u3_p2 (h2 : j ≠ k) : va_up (va_up (va_up (va_up f i a) j b) k c) j z = va_up (va_up (va_up f i a) j z) k c := by
  funext q
  by_cases e : q = j
  · subst e; simp [va_up, h2]
  · simp [va_up, e]
theorem u2_1 (h2 : i ≠ k) : va_up (va_up f i a) k c i = a := by simp [va_up, h2]
theorem u2_p1 (h2 : i ≠ k) : va_up (va_up (va_up f i a) k c) i z = va_up (va_up f i z) k c := by
  funext q
  by_cases e : q = i
  · subst e; simp [va_up, h2]
  · simp [va_up, e]
end U3
theorem taF_up (b : Nat → Int32) (L p q : Nat) (F : Nat → Int32) : taF b L q (taF b L p F) = taF b L q F := by
  funext k
  simp only [taF]
  by_cases h2 : k = 2
  · simp [h2]
  · by_cases h3 : k = 3
    · simp [h3]
    · by_cases h4 : k = 4
      · simp [h4]
      · by_cases h5 : k = 5
        · simp [h5]
        · simp [h2, h3, h4, h5]
theorem va_upn {f : Nat → Nat → Int32} {k j : Nat} {a : Nat → Int32} (h : j ≠ k) : va_up f k a j = f j := by simp [va_up, h]
section X3R
variable {G : wG} {Λ : wL} {r t d mr mt md L : Nat} {F : Nat → Nat → Int32} {O : Nat → Nat → Option Nat} {R : Nat → Nat → Nat → Int32} {h0 : Nat → Option wE} {sz : Nat} {X : cX}
theorem J_rt (J : hJ Λ r t d F O R L mr mt md) : r ≠ t := Lk_ne J.1 J.2.1 (by decide)
theorem J_rd (J : hJ Λ r t d F O R L mr mt md) : r ≠ d := Lk_ne J.1 J.2.2.1 (by decide)
theorem J_td (J : hJ Λ r t d F O R L mr mt md) : t ≠ d := Lk_ne J.2.1 J.2.2.1 (by decide)
variable {M : wM} {cc : ByteArray} {Y : wX} {Z : State → Prop} {pc : Nat} {lv : List (Option Value)} {st : List Value} {k n index : Nat}
theorem Xr_geti {kf : Nat} {ty : FieldType} {fin : Bool} (J : hJ Λ r t d F O R L mr mt md) (hd : decode cc pc = .ok (.getfield index, 3)) (L0 : wFl M.1.cls index 2 kf ty fin) (h : rdPos kf = none) (hb : rdOb kf = false) (kq : WW G M cc Y Z (pc + 3) lv (.int (X.2.1 kf) :: st) (hX Λ r t d F O R h0 L X, sz) k n) : WW G M cc Y Z pc lv (.ref mr :: st) (hX Λ r t d F O R h0 L X, sz) k n := by
  refine Wrd_geti J.1 hd L0 h hb ?_
  rw [u3_1 (J_rt J) (J_rd J)]
  exact kq
theorem Xt_geti {kf : Nat} {ty : FieldType} {fin : Bool} (J : hJ Λ r t d F O R L mr mt md) (hd : decode cc pc = .ok (.getfield index, 3)) (L0 : wFl M.1.cls index 4 kf ty fin) (h : taPos kf = none) (hb : taOb kf = false) (kq : WW G M cc Y Z (pc + 3) lv (.int (taF (R t 0) L X.1 (F t) kf) :: st) (hX Λ r t d F O R h0 L X, sz) k n) : WW G M cc Y Z pc lv (.ref mt :: st) (hX Λ r t d F O R h0 L X, sz) k n := by
  refine Wta_geti J.2.1 hd L0 h hb ?_
  rw [u3_2 (J_td J)]
  exact kq
theorem Xd_geti {kf : Nat} {ty : FieldType} {fin : Bool} (J : hJ Λ r t d F O R L mr mt md) (hd : decode cc pc = .ok (.getfield index, 3)) (L0 : wFl M.1.cls index 0 kf ty fin) (h : bbPos kf = none) (hb : bbOb kf = false) (kq : WW G M cc Y Z (pc + 3) lv (.int (X.2.2.1 kf) :: st) (hX Λ r t d F O R h0 L X, sz) k n) : WW G M cc Y Z pc lv (.ref md :: st) (hX Λ r t d F O R h0 L X, sz) k n := by
  refine Wbb_geti J.2.2.1 hd L0 h hb ?_
  rw [w_up_self]
  exact kq
theorem Xr_puti {kf : Nat} {v : Int32} (J : hJ Λ r t d F O R L mr mt md) (hd : decode cc pc = .ok (.putfield index, 3)) (L0 : wFl M.1.cls index 2 kf .int false) (h : rdPos kf = none) (hb : rdOb kf = false) (kq : WW G M cc Y Z (pc + 3) lv st (hX Λ r t d F O R h0 L (X.1, upd X.2.1 kf v, X.2.2), sz) k n) : WW G M cc Y Z pc lv (.int v :: .ref mr :: st) (hX Λ r t d F O R h0 L X, sz) k n := by
  refine Wrd_puti J.1 hd L0 h hb ?_
  rw [u3_1 (J_rt J) (J_rd J), u3_p1 (J_rt J) (J_rd J)]
  exact kq
theorem Xr_putz {kf : Nat} {v : Int32} (J : hJ Λ r t d F O R L mr mt md) (hd : decode cc pc = .ok (.putfield index, 3)) (L0 : wFl M.1.cls index 2 kf .boolean false) (h : rdPos kf = none) (hb : rdOb kf = false) (hv : v = 0 ∨ v = 1) (kq : WW G M cc Y Z (pc + 3) lv st (hX Λ r t d F O R h0 L (X.1, upd X.2.1 kf v, X.2.2), sz) k n) : WW G M cc Y Z pc lv (.int v :: .ref mr :: st) (hX Λ r t d F O R h0 L X, sz) k n := by
  refine Wrd_putz J.1 hd L0 h hb hv ?_
  rw [u3_1 (J_rt J) (J_rd J), u3_p1 (J_rt J) (J_rd J)]
  exact kq
theorem Xd_puti {kf : Nat} {v : Int32} (J : hJ Λ r t d F O R L mr mt md) (hd : decode cc pc = .ok (.putfield index, 3)) (L0 : wFl M.1.cls index 0 kf .int false) (h : bbPos kf = none) (hb : bbOb kf = false) (kq : WW G M cc Y Z (pc + 3) lv st (hX Λ r t d F O R h0 L (X.1, X.2.1, upd X.2.2.1 kf v, X.2.2.2), sz) k n) : WW G M cc Y Z pc lv (.int v :: .ref md :: st) (hX Λ r t d F O R h0 L X, sz) k n := by
  refine Wbb_puti J.2.2.1 hd L0 h hb ?_
  rw [w_up_self, w_up_up]
  exact kq
theorem Xr_iald {kf j p0 nn : Nat} {x : Int32} (J : hJ Λ r t d F O R L mr mt md) (hd : decode cc pc = .ok (.iaload, 1)) (h : rdPos kf = some (p0, nn, .int)) (hi : x = nI j) (hj : j < nn) (hnn : Nat.blt nn 2147483648 = true) (kq : WW G M cc Y Z (pc + 1) lv (.int (X.2.2.2.1 kf j) :: st) (hX Λ r t d F O R h0 L X, sz) k n) : WW G M cc Y Z pc lv (.int x :: .ref (rdAd mr kf) :: st) (hX Λ r t d F O R h0 L X, sz) k n := by
  refine Wrd_iald J.1 hd h hi hj hnn ?_
  rw [u2_1 (J_rd J)]
  exact kq
theorem Xr_zald {kf j p0 nn : Nat} {x : Int32} (J : hJ Λ r t d F O R L mr mt md) (hd : decode cc pc = .ok (.baload, 1)) (h : rdPos kf = some (p0, nn, .boolean)) (hi : x = nI j) (hj : j < nn) (hnn : Nat.blt nn 2147483648 = true) (kq : WW G M cc Y Z (pc + 1) lv (.int (X.2.2.2.1 kf j) :: st) (hX Λ r t d F O R h0 L X, sz) k n) : WW G M cc Y Z pc lv (.int x :: .ref (rdAd mr kf) :: st) (hX Λ r t d F O R h0 L X, sz) k n := by
  refine Wrd_zald J.1 hd h hi hj hnn ?_
  rw [u2_1 (J_rd J)]
  exact kq
theorem Xr_iast {kf j p0 nn : Nat} {y x : Int32} (J : hJ Λ r t d F O R L mr mt md) (hd : decode cc pc = .ok (.iastore, 1)) (h : rdPos kf = some (p0, nn, .int)) (hi : y = nI j) (hj : j < nn) (hnn : Nat.blt nn 2147483648 = true) (kq : WW G M cc Y Z (pc + 1) lv st (hX Λ r t d F O R h0 L (X.1, X.2.1, X.2.2.1, va_up X.2.2.2.1 kf (upd (X.2.2.2.1 kf) j x), X.2.2.2.2), sz) k n) : WW G M cc Y Z pc lv (.int x :: .int y :: .ref (rdAd mr kf) :: st) (hX Λ r t d F O R h0 L X, sz) k n := by
  refine Wrd_iast J.1 hd h hi hj hnn ?_
  rw [u2_1 (J_rd J), u2_p1 (J_rd J)]
  exact kq
theorem Xr_zast {kf j p0 nn : Nat} {y x : Int32} (J : hJ Λ r t d F O R L mr mt md) (hd : decode cc pc = .ok (.bastore, 1)) (h : rdPos kf = some (p0, nn, .boolean)) (hi : y = nI j) (hj : j < nn) (hnn : Nat.blt nn 2147483648 = true) (kq : WW G M cc Y Z (pc + 1) lv st (hX Λ r t d F O R h0 L (X.1, X.2.1, X.2.2.1, va_up X.2.2.2.1 kf (upd (X.2.2.2.1 kf) j (vp_nar .boolean x)), X.2.2.2.2), sz) k n) : WW G M cc Y Z pc lv (.int x :: .int y :: .ref (rdAd mr kf) :: st) (hX Λ r t d F O R h0 L X, sz) k n := by
  refine Wrd_zast J.1 hd h hi hj hnn ?_
  rw [u2_1 (J_rd J), u2_p1 (J_rd J)]
  exact kq
theorem Xd_lift {Mc : wM} {As : List Value} {v : Option Value} {F' : Nat → Int32} {R' : Nat → Nat → Int32} (J : hJ Λ r t d F O R L mr mt md) (c : Sat G Mc As (bbh md X.2.2.1 (O d) X.2.2.2.2 (hX Λ r t d F O R h0 L X), sz) (Det v (bbh md F' (O d) R' (hX Λ r t d F O R h0 L X), sz))) : Sat G Mc As (hX Λ r t d F O R h0 L X, sz) (Det v (hX Λ r t d F O R h0 L (X.1, X.2.1, F', X.2.2.2.1, R'), sz)) := by
  have e := bb_lB (G := G) (Mc := Mc) (As := As) (v := v) (F' := F') (R' := R') (F := va_up (va_up (va_up F r X.2.1) t (taF (R t 0) L X.1 (F t))) d X.2.2.1) (O := O) (R := va_up (va_up R r X.2.2.2.1) d X.2.2.2.2) (h0 := h0) (sz := sz) J.2.2.1 (by rw [w_up_self, w_up_self]; exact c)
  rw [w_up_up, w_up_up] at e
  exact e
theorem Xt_l0 {Mc : wM} {As : List Value} {v : Option Value} (J : hJ Λ r t d F O R L mr mt md) (c : Sat G Mc As (tah mt (taF (R t 0) L X.1 (F t)) (O t) (R t) (hX Λ r t d F O R h0 L X), sz) (Det v (tah mt (taF (R t 0) L X.1 (F t)) (O t) (R t) (hX Λ r t d F O R h0 L X), sz))) : Sat G Mc As (hX Λ r t d F O R h0 L X, sz) (Det v (hX Λ r t d F O R h0 L X, sz)) :=
  ta_l0 (F := va_up (va_up (va_up F r X.2.1) t (taF (R t 0) L X.1 (F t))) d X.2.2.1) (O := O) (R := va_up (va_up R r X.2.2.2.1) d X.2.2.2.2) (h0 := h0) (sz := sz) J.2.1 (by rw [u3_2 (J_td J), w_up_ne _ _ (J_td J), w_up_ne _ _ (J_rt J).symm]; exact c)
theorem Xt_lF {Mc : wM} {As : List Value} {v : Option Value} {q : Nat} (J : hJ Λ r t d F O R L mr mt md) (c : Sat G Mc As (tah mt (taF (R t 0) L X.1 (F t)) (O t) (R t) (hX Λ r t d F O R h0 L X), sz) (Det v (tah mt (taF (R t 0) L q (taF (R t 0) L X.1 (F t))) (O t) (R t) (hX Λ r t d F O R h0 L X), sz))) : Sat G Mc As (hX Λ r t d F O R h0 L X, sz) (Det v (hX Λ r t d F O R h0 L (q, X.2), sz)) := by
  have e := ta_lF (G := G) (Mc := Mc) (As := As) (v := v) (F' := taF (R t 0) L q (taF (R t 0) L X.1 (F t))) (F := va_up (va_up (va_up F r X.2.1) t (taF (R t 0) L X.1 (F t))) d X.2.2.1) (O := O) (R := va_up (va_up R r X.2.2.2.1) d X.2.2.2.2) (h0 := h0) (sz := sz) J.2.1 (by rw [u3_2 (J_td J), w_up_ne _ _ (J_td J), w_up_ne _ _ (J_rt J).symm]; exact c)
  rw [u3_p2 (J_td J), taF_up] at e
  exact e
theorem x3_take (J : hJ Λ r t d F O R L mr mt md) (hp : X.1 ≤ L) : Sat G mX5_take [.ref mt] (hX Λ r t d F O R h0 L X, sz) (Det none (hX Λ r t d F O R h0 L (ad (R t 0) L X.1, X.2), sz)) :=
  Xt_lF J (c5_take (F := taF (R t 0) L X.1 (F t)) J.2.2.2.2.2.1 J.2.2.2.2.2.2.1 J.2.2.2.2.2.2.2 rfl (ad_le hp).2)
theorem x3_isTN (J : hJ Λ r t d F O R L mr mt md) (hp : X.1 ≤ L) : Sat G mX5_isTaskName [.ref mt] (hX Λ r t d F O R h0 L X, sz) (Det (some (.int (wb (decide (kd (R t 0) L X.1 = 9 ∧ 2 ≤ kl (R t 0) L X.1))))) (hX Λ r t d F O R h0 L X, sz)) := by
  have e := Xt_l0 (X := X) (h0 := h0) (sz := sz) (G := G) J c5_isTaskName
  have e1 : kd (R t 0) L X.1 ≤ 16 := by
    unfold kd
    split
    · omega
    · split
      · split
        · have := wdN_le (kv (R t 0) L X.1); omega
        · omega
      · split
        · omega
        · unfold sgN
          (repeat' split) <;> omega
  have hL := J.2.2.2.2.2.2.1
  have e2 := ad_le (b := R t 0) hp
  have e3 := nS_le (b := R t 0) hp
  have e4 : taF (R t 0) L X.1 (F t) 5 - taF (R t 0) L X.1 (F t) 3 = nI (kl (R t 0) L X.1) := by
    show nI (ad (R t 0) L X.1) - nI (nS (R t 0) L X.1) = _
    have e5 := nE_le (b := R t 0) e3.2
    have : ad (R t 0) L X.1 = nS (R t 0) L X.1 + kl (R t 0) L X.1 := by unfold ad kl; omega
    rw [this, nI_si]
  have e6 : (taF (R t 0) L X.1 (F t) 2 = 9 ∧ 2 ≤ taF (R t 0) L X.1 (F t) 5 - taF (R t 0) L X.1 (F t) 3) ↔ (kd (R t 0) L X.1 = 9 ∧ 2 ≤ kl (R t 0) L X.1) := by
    rw [e4]
    have e7 : taF (R t 0) L X.1 (F t) 2 = 9 ↔ kd (R t 0) L X.1 = 9 := nI_eq (a := kd (R t 0) L X.1) (b := 9) (by omega) (by decide)
    have e8 : (2 : Int32) ≤ nI (kl (R t 0) L X.1) ↔ 2 ≤ kl (R t 0) L X.1 := nI_leI (a := 2) (by decide) (by unfold kl; unfold ad at e2; omega)
    rw [e7, e8]
  simp only [e6] at e
  exact e
def flF (Fr : Nat → Int32) (k s : Int32) : Nat → Int32 := if Fr 1 = 0 then upd (upd Fr 1 k) 2 s else Fr
def flX (b : Nat → Int32) (L : Nat) (k : Int32) (X : cX) : cX := (X.1, flF X.2.1 k (nI (nS b L X.1)), X.2.2)
set_option maxHeartbeats 4000000 in
theorem c3_fail (J : hJ Λ r t d F O R L mr mt md) {x : Int32} : Sat G mX3_fail [.ref mr, .int x] (hX Λ r t d F O R h0 L X, sz) (Det none (hX Λ r t d F O R h0 L (flX (R t 0) L x X), sz)) := by
  refine Sat.of (by decide) [some (.ref mr), some (.int x)] rfl rfl (fun Y => ?_)
  refine ww_aload_n dX3_fail_0 rfl rfl ?_
  refine Xr_geti J dX3_fail_1 fX3_18 rfl rfl ?_
  refine ww_if_ne (tgt := 23) dX3_fail_4 (by decide) (fun c4 => ?_) (fun c4 => ?_)
  · exact ww_vret dX3_fail_23 rfl ⟨rfl, by rw [flX, flF, if_neg c4]⟩ (Nat.zero_le _) (Nat.zero_le _)
  · refine ww_aload_n dX3_fail_7 rfl rfl ?_
    refine ww_iload_n dX3_fail_8 rfl rfl ?_
    refine Xr_puti J dX3_fail_9 fX3_18 rfl rfl ?_
    refine ww_aload_n dX3_fail_12 rfl rfl ?_
    refine ww_aload_n dX3_fail_13 rfl rfl ?_
    refine Wrd_geto J.1 dX3_fail_14 fX3_12 rfl rfl J.2.2.2.1 ?_
    refine Xt_geti J dX3_fail_17 fX3_87 rfl rfl ?_
    refine Xr_puti J dX3_fail_20 fX3_22 rfl rfl ?_
    exact ww_vret dX3_fail_23 rfl ⟨rfl, by rw [flX, flF, if_pos c4]; rfl⟩ (Nat.zero_le _) (Nat.zero_le _)
def ndX (b : Nat → Int32) (L k : Nat) (X : cX) : cX := if kd b L X.1 = k then (ad b L X.1, X.2) else flX b L 1 X
theorem kd_le (b : Nat → Int32) (L p : Nat) : kd b L p ≤ 16 := by
  unfold kd
  split
  · omega
  · split
    · split
      · have := wdN_le (kv b L p); omega
      · omega
    · split
      · omega
      · unfold sgN
        (repeat' split) <;> omega
theorem kd_eq {b : Nat → Int32} {L p k : Nat} (hk : k < 100) : nI (kd b L p) = nI k ↔ kd b L p = k := nI_eq (by have := kd_le b L p; omega) (by omega)
theorem tv_10 {b : Nat → Int32} {L p : Nat} (h : kd b L p = 10) : tvN b L p = nu b L p ∧ nu b L p ≤ 1000 := by
  refine ⟨?_, nvf_le _ _ _⟩
  unfold kd at h
  unfold tvN
  by_cases h1 : nS b L p = L
  · rw [if_pos h1] at h; omega
  · rw [if_neg h1] at h ⊢
    by_cases h2 : isLt (b (nS b L p)) = true
    · rw [if_pos h2] at h
      split at h
      · have := wdN_le (kv b L p); omega
      · omega
    · rw [if_neg h2] at h ⊢
      by_cases h3 : isDg (b (nS b L p)) = true
      · rw [if_pos h3]
      · rw [if_neg h3] at h
        unfold sgN at h
        (repeat' split at h) <;> omega
theorem tv_9 {b : Nat → Int32} {L p : Nat} (h : kd b L p = 9) (hp : p ≤ L) : tvN b L p = kv b L p ∧ 1 ≤ kv b L p ∧ kv b L p < 2 ^ 30 := by
  have hT := tkn (tokS_nx (b := b) (L := L) (p := p) (F := fun _ => 0) hp) hp h
  refine ⟨?_, hT.2.2.2.2.1, hT.2.2.2.2.2.1⟩
  unfold kd at h
  unfold tvN
  by_cases h1 : nS b L p = L
  · rw [if_pos h1] at h; omega
  · rw [if_neg h1] at h ⊢
    by_cases h2 : isLt (b (nS b L p)) = true
    · rw [if_pos h2]
    · rw [if_neg h2] at h
      by_cases h3 : isDg (b (nS b L p)) = true
      · rw [if_pos h3] at h; omega
      · rw [if_neg h3] at h
        unfold sgN at h
        (repeat' split at h) <;> omega
set_option maxHeartbeats 4000000 in
theorem c3_need (J : hJ Λ r t d F O R L mr mt md) {x : Int32} {k : Nat} (hp : X.1 ≤ L) (hx : x = nI k) (hk : k < 100) : Sat G mX3_need [.ref mr, .int x] (hX Λ r t d F O R h0 L X, sz) (Det none (hX Λ r t d F O R h0 L (ndX (R t 0) L k X), sz)) := by
  refine Sat.of (by decide) [some (.ref mr), some (.int x)] rfl rfl (fun Y => ?_)
  refine ww_aload_n dX3_need_0 rfl rfl ?_
  refine Wrd_geto J.1 dX3_need_1 fX3_12 rfl rfl J.2.2.2.1 ?_
  refine Xt_geti J dX3_need_4 fX3_68 rfl rfl ?_
  refine ww_iload_n dX3_need_7 rfl rfl ?_
  refine ww_icmp_ne (tgt := 21) dX3_need_8 (by decide) (fun c8 => ?_) (fun c8 => ?_)
  · refine ww_aload_n dX3_need_21 rfl rfl ?_
    refine ww_iconst (v := 1) dX3_need_22 (by decide) ?_
    refine Wrd_call0 J.1 dX3_need_23 kX3_90 rfl rfl (c3_fail J) rfl rfl rfl rfl rfl rfl (Nat.zero_le _) (Nat.zero_le _) ?_
    exact ww_vret dX3_need_26 rfl ⟨rfl, by rw [ndX, if_neg (fun q => c8 (by rw [hx, ← q]; rfl))]⟩ (Nat.zero_le _) (Nat.zero_le _)
  · refine ww_aload_n dX3_need_11 rfl rfl ?_
    refine Wrd_geto J.1 dX3_need_12 fX3_12 rfl rfl J.2.2.2.1 ?_
    refine Wta_call0 J.2.1 dX3_need_15 kX3_97 rfl rfl (x3_take J hp) rfl rfl rfl rfl rfl rfl (Nat.zero_le _) (Nat.zero_le _) ?_
    refine ww_goto (tgt := 26) dX3_need_18 (by decide) ?_
    exact ww_vret dX3_need_26 rfl ⟨rfl, by rw [ndX, if_pos ((kd_eq hk).mp (by rw [← hx]; exact c8))]⟩ (Nat.zero_le _) (Nat.zero_le _)
def nmX (b : Nat → Int32) (L lo hi : Nat) (X : cX) : Nat × cX := if kd b L X.1 = 10 then (if lo ≤ nu b L X.1 ∧ nu b L X.1 ≤ hi then (nu b L X.1, ad b L X.1, X.2) else (lo, flX b L 3 X)) else (lo, flX b L 1 X)
set_option maxHeartbeats 4000000 in
theorem c3_readNumber (J : hJ Λ r t d F O R L mr mt md) {x y : Int32} {lo hi : Nat} (hp : X.1 ≤ L) (hx : x = nI lo) (hy : y = nI hi) (hlo : lo ≤ 99) (hhi : hi ≤ 99) : Sat G mX3_readNumber [.ref mr, .int x, .int y] (hX Λ r t d F O R h0 L X, sz) (Det (some (.int (nI (nmX (R t 0) L lo hi X).1))) (hX Λ r t d F O R h0 L (nmX (R t 0) L lo hi X).2, sz)) := by
  refine Sat.of (by decide) [some (.ref mr), some (.int x), some (.int y), none] rfl rfl (fun Y => ?_)
  refine ww_aload_n dX3_readNumber_0 rfl rfl ?_
  refine Wrd_geto J.1 dX3_readNumber_1 fX3_12 rfl rfl J.2.2.2.1 ?_
  refine Xt_geti J dX3_readNumber_4 fX3_148 rfl rfl ?_
  refine ww_istore_n dX3_readNumber_7 rfl rfl rfl ?_
  refine ww_aload_n dX3_readNumber_8 rfl rfl ?_
  refine Wrd_geto J.1 dX3_readNumber_9 fX3_12 rfl rfl J.2.2.2.1 ?_
  refine Xt_geti J dX3_readNumber_12 fX3_68 rfl rfl ?_
  refine ww_bipush (v := 10) dX3_readNumber_15 (by decide) ?_
  refine ww_icmp_eq (tgt := 27) dX3_readNumber_17 (by decide) (fun c17 => ?_) (fun c17 => ?_)
  · have e9 := (kd_eq (b := R t 0) (L := L) (p := X.1) (k := 10) (by decide)).mp c17
    have e10 := tv_10 e9
    refine ww_iload_n dX3_readNumber_27 rfl rfl ?_
    refine ww_iload_n dX3_readNumber_28 rfl rfl ?_
    refine ww_icmp_lt (tgt := 37) dX3_readNumber_29 (by decide) (fun c29 => ?_) (fun c29 => ?_)
    · have e11 : nu (R t 0) L X.1 < lo := by
        rcases Nat.lt_or_ge (nu (R t 0) L X.1) lo with z | z
        · exact z
        · exact absurd c29 (Int32.not_lt.mpr ((w_le hx (show taF (R t 0) L X.1 (F t) 4 = nI (nu (R t 0) L X.1) by rw [← e10.1]; rfl) (by omega) (by omega)).mpr z))
      refine ww_aload_n dX3_readNumber_37 rfl rfl ?_
      refine ww_iconst (v := 3) dX3_readNumber_38 (by decide) ?_
      refine Wrd_call0 J.1 dX3_readNumber_39 kX3_90 rfl rfl (c3_fail J) rfl rfl rfl rfl rfl rfl (Nat.zero_le _) (Nat.zero_le _) ?_
      refine ww_iload_n dX3_readNumber_42 rfl rfl ?_
      exact ww_iret dX3_readNumber_43 rfl ⟨by rw [nmX, if_pos e9, if_neg (fun q => by omega), hx], by rw [nmX, if_pos e9, if_neg (fun q => by omega)]⟩ (Nat.zero_le _) (Nat.zero_le _)
    · refine ww_iload_n dX3_readNumber_32 rfl rfl ?_
      refine ww_iload_n dX3_readNumber_33 rfl rfl ?_
      refine ww_icmp_le (tgt := 44) dX3_readNumber_34 (by decide) (fun c34 => ?_) (fun c34 => ?_)
      · have e11 : lo ≤ nu (R t 0) L X.1 := by
          rcases Nat.lt_or_ge (nu (R t 0) L X.1) lo with z | z
          · exact absurd (by rw [show taF (R t 0) L X.1 (F t) 4 = nI (nu (R t 0) L X.1) by rw [← e10.1]; rfl, hx]; exact nI_lt z (by omega)) c29
          · exact z
        have e12 : nu (R t 0) L X.1 ≤ hi := (w_le (show taF (R t 0) L X.1 (F t) 4 = nI (nu (R t 0) L X.1) by rw [← e10.1]; rfl) hy (by omega) (by omega)).mp c34
        refine ww_aload_n dX3_readNumber_44 rfl rfl ?_
        refine Wrd_geto J.1 dX3_readNumber_45 fX3_12 rfl rfl J.2.2.2.1 ?_
        refine Wta_call0 J.2.1 dX3_readNumber_48 kX3_97 rfl rfl (x3_take J hp) rfl rfl rfl rfl rfl rfl (Nat.zero_le _) (Nat.zero_le _) ?_
        refine ww_iload_n dX3_readNumber_51 rfl rfl ?_
        exact ww_iret dX3_readNumber_52 rfl ⟨by rw [nmX, if_pos e9, if_pos ⟨by omega, by omega⟩]; show some (Value.int (nI (tvN _ _ _))) = _; rw [e10.1], by rw [nmX, if_pos e9, if_pos ⟨by omega, by omega⟩]⟩ (Nat.zero_le _) (Nat.zero_le _)
      · have e11 : hi < nu (R t 0) L X.1 := by
          rcases Nat.lt_or_ge hi (nu (R t 0) L X.1) with z | z
          · exact z
          · exact absurd ((w_le (show taF (R t 0) L X.1 (F t) 4 = nI (nu (R t 0) L X.1) by rw [← e10.1]; rfl) hy (by omega) (by omega)).mpr z) c34
        refine ww_aload_n dX3_readNumber_37 rfl rfl ?_
        refine ww_iconst (v := 3) dX3_readNumber_38 (by decide) ?_
        refine Wrd_call0 J.1 dX3_readNumber_39 kX3_90 rfl rfl (c3_fail J) rfl rfl rfl rfl rfl rfl (Nat.zero_le _) (Nat.zero_le _) ?_
        refine ww_iload_n dX3_readNumber_42 rfl rfl ?_
        exact ww_iret dX3_readNumber_43 rfl ⟨by rw [nmX, if_pos e9, if_neg (fun q => by omega), hx], by rw [nmX, if_pos e9, if_neg (fun q => by omega)]⟩ (Nat.zero_le _) (Nat.zero_le _)
  · refine ww_aload_n dX3_readNumber_20 rfl rfl ?_
    refine ww_iconst (v := 1) dX3_readNumber_21 (by decide) ?_
    refine Wrd_call0 J.1 dX3_readNumber_22 kX3_90 rfl rfl (c3_fail J) rfl rfl rfl rfl rfl rfl (Nat.zero_le _) (Nat.zero_le _) ?_
    refine ww_iload_n dX3_readNumber_25 rfl rfl ?_
    exact ww_iret dX3_readNumber_26 rfl ⟨by rw [nmX, if_neg (fun q => c17 (by show nI (kd _ _ _) = nI 10; rw [q])), hx], by rw [nmX, if_neg (fun q => c17 (by show nI (kd _ _ _) = nI 10; rw [q]))]⟩ (Nat.zero_le _) (Nat.zero_le _)
end X3R
