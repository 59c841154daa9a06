/-! the primitives of the parser, said of tokens -/
def sb {α β : Type} (x : (Nat × Nat) ⊕ α) (f : α → (Nat × Nat) ⊕ β) : (Nat × Nat) ⊕ β := match x with
  | .inl e => .inl e
  | .inr a => f a
def nd (b : Nat → Int32) (L k p : Nat) : (Nat × Nat) ⊕ Nat := if kd b L p = k then .inr (ad b L p) else .inl (1, nS b L p)
def nm (b : Nat → Int32) (L lo hi p : Nat) : (Nat × Nat) ⊕ (Nat × Nat) := if kd b L p = 10 then (if lo ≤ nu b L p ∧ nu b L p ≤ hi then .inr (nu b L p, ad b L p) else .inl (3, nS b L p)) else .inl (1, nS b L p)
def fd (b : Nat → Int32) (L p : Nat) : (Nat × Nat) ⊕ (Nat × Nat) := if kd b L p = 9 ∧ kv b L p ≤ 4 then .inr (kv b L p - 1, ad b L p) else .inl (1, nS b L p)
def fnd (ns : Nat → Nat) (v : Nat) : Nat → Option Nat
  | 0 => none
  | k + 1 => if ns k = v then some k else fnd ns v k
theorem fnd_lt {ns : Nat → Nat} {v : Nat} : ∀ {c i : Nat}, fnd ns v c = some i → i < c ∧ ns i = v
  | 0, i, h => by cases h
  | c + 1, i, h => by
    rw [fnd] at h
    by_cases q : ns c = v
    · rw [if_pos q] at h; cases h; exact ⟨by omega, q⟩
    · rw [if_neg q] at h
      have := fnd_lt h
      exact ⟨by omega, this.2⟩
theorem fnd_none {ns : Nat → Nat} {v : Nat} : ∀ {c : Nat}, fnd ns v c = none → ∀ i, i < c → ns i ≠ v
  | 0, h, i, hi => by omega
  | c + 1, h, i, hi => by
    rw [fnd] at h
    by_cases q : ns c = v
    · rw [if_pos q] at h; cases h
    · rw [if_neg q] at h
      rcases Nat.lt_or_ge i c with z | z
      · exact fnd_none h i z
      · have : i = c := by omega
        rw [this]; exact q
def onI (x : Option Nat) : Int32 := match x with
  | none => -1
  | some i => nI i
theorem dnm_fnd {NL : Nat → Int64} {ns : Nat → Nat} {v : Nat} (hv : v < 2 ^ 31) : ∀ c, (∀ i, i < c → NL i = lN (ns i) ∧ ns i < 2 ^ 31) → dnm NL (lN v) c = onI (fnd ns v c)
  | 0, _ => rfl
  | c + 1, h => by
    have h1 := h c (by omega)
    rw [dnm, fnd]
    by_cases q : ns c = v
    · rw [if_pos q, if_pos (by rw [h1.1, q])]; rfl
    · rw [if_neg q, if_neg (by rw [h1.1]; exact fun z => q ((lN_eq h1.2 hv).mp z)), dnm_fnd hv c (fun i hi => h i (by omega))]
section PR
variable {b : Nat → Int32} {L p : Nat} {F : Nat → Int32} {tl : Int64}
theorem tw_iff (T : tokS b L p F tl) (hw : F 7 = 0) {w : Nat} (hw9 : w < 9) : sgB F tl 2 (nI w) = decide (kd b L p = w) := by
  obtain ⟨-, -, t4, t5, -⟩ := T
  unfold sgB
  rw [t4, t5, decide_eq_true hw]
  have h := tk_w (b := b) (L := L) (p := p) w hw9
  by_cases q : kd b L p = w
  · obtain ⟨h1, h2⟩ := h.mpr q
    rw [decide_eq_true h1, decide_eq_true h2, decide_eq_true q]; rfl
  · rw [decide_eq_false q]
    by_cases h1 : tSo b L (nS b L p) = 2
    · rw [decide_eq_false (fun z => q (h.mp ⟨h1, z⟩))]; simp
    · rw [decide_eq_false h1]; rfl
theorem ts_iff (T : tokS b L p F tl) (hw : F 7 = 0) (hp : p ≤ L) {c k : Nat} (hc : c = 123 ∧ k = 11 ∨ c = 125 ∧ k = 12 ∨ c = 59 ∧ k = 13 ∨ c = 60 ∧ k = 14) : sgB F tl 4 (nI c) = decide (kd b L p = k) := by
  obtain ⟨-, -, t4, t5, -⟩ := T
  unfold sgB
  rw [t4, t5, decide_eq_true hw]
  have ec : (nI c).toInt64 = lN c := nI_l (by omega)
  rcases tk_all (b := b) hp with ⟨h1, h2⟩ | ⟨w, h0, h1, h2, -⟩ | ⟨h1, h2, -⟩ | ⟨h1, h2, -⟩ | ⟨c', h1, h2, h3⟩ | ⟨h1, h2⟩
  · rw [h2, decide_eq_false (show ¬ kd b L p = k by omega)]; rfl
  · rw [h2, decide_eq_false (show ¬ kd b L p = k by omega)]; rfl
  · rw [h2, decide_eq_false (show ¬ kd b L p = k by omega)]; rfl
  · rw [h2, decide_eq_false (show ¬ kd b L p = k by omega)]; rfl
  · rw [h2, h3, ec]
    have e : decide (lN c' = lN c) = decide (c' = c) := by
      congr 1
      exact propext (lN_eq (by omega) (by omega))
    rw [e]
    by_cases q : c' = c
    · rw [decide_eq_true q, decide_eq_true (show kd b L p = k by omega)]; rfl
    · rw [decide_eq_false q, decide_eq_false (show ¬ kd b L p = k by omega)]; rfl
  · rw [h2, decide_eq_false (show ¬ kd b L p = k by omega)]; rfl
theorem tn_iff (T : tokS b L p F tl) (hp : p ≤ L) : F 4 = 3 ↔ kd b L p = 10 := by
  obtain ⟨-, -, t4, -, -⟩ := T
  rw [t4]
  rcases tk_all (b := b) hp with ⟨h1, h2⟩ | ⟨w, h0, h1, h2, -⟩ | ⟨h1, h2, -⟩ | ⟨h1, h2, -⟩ | ⟨c', h1, h2, h3⟩ | ⟨h1, h2⟩
  · rw [h2, h1]; exact ⟨fun h => absurd h (by decide), fun h => absurd h (by decide)⟩
  · rw [h2, h1]; exact ⟨fun h => absurd h (by decide), fun h => by omega⟩
  · rw [h2, h1]; exact ⟨fun h => absurd h (by decide), fun h => absurd h (by decide)⟩
  · rw [h2, h1]; exact ⟨fun _ => rfl, fun _ => rfl⟩
  · rw [h2]; exact ⟨fun h => absurd h (by decide), fun h => by omega⟩
  · rw [h2, h1]; exact ⟨fun h => absurd h (by decide), fun h => absurd h (by decide)⟩
theorem tnm_iff (T : tokS b L p F tl) (hp : p ≤ L) : F 4 = 1 ↔ kd b L p = 9 := by
  obtain ⟨-, -, t4, -, -⟩ := T
  rw [t4]
  rcases tk_all (b := b) hp with ⟨h1, h2⟩ | ⟨w, h0, h1, h2, -⟩ | ⟨h1, h2, -⟩ | ⟨h1, h2, -⟩ | ⟨c', h1, h2, h3⟩ | ⟨h1, h2⟩
  · rw [h2, h1]; exact ⟨fun h => absurd h (by decide), fun h => absurd h (by decide)⟩
  · rw [h2, h1]; exact ⟨fun h => absurd h (by decide), fun h => by omega⟩
  · rw [h2, h1]; exact ⟨fun _ => rfl, fun _ => rfl⟩
  · rw [h2, h1]; exact ⟨fun h => absurd h (by decide), fun h => absurd h (by decide)⟩
  · rw [h2]; exact ⟨fun h => absurd h (by decide), fun h => by omega⟩
  · rw [h2, h1]; exact ⟨fun h => absurd h (by decide), fun h => absurd h (by decide)⟩
theorem tnr (T : tokS b L p F tl) (hp : p ≤ L) (hk : kd b L p = 10) {lo hi : Nat} (hh : hi ≤ 99) (hlo : lo ≤ 99) : ((nI lo).toInt64 ≤ tl ∧ tl ≤ (nI hi).toInt64 ↔ lo ≤ nu b L p ∧ nu b L p ≤ hi) ∧ (nu b L p ≤ 99 → tl.toInt32 = nI (nu b L p)) := by
  obtain ⟨-, -, -, t5, -⟩ := T
  rcases tk_all (b := b) hp with ⟨h1, h2⟩ | ⟨w, h0, h1, h2, -⟩ | ⟨h1, h2, -⟩ | ⟨h1, h2, v, h3, h4, h5⟩ | ⟨c', h1, h2, h3⟩ | ⟨h1, h2⟩
  · omega
  · omega
  · omega
  · rw [t5, h3, nI_l (by omega), nI_l (by omega), lN_le (by omega) (by omega), lN_le (by omega) (by omega)]
    refine ⟨by omega, fun h => ?_⟩
    rw [lN_i]
    congr 1
    omega
  · omega
  · omega
theorem tkn (T : tokS b L p F tl) (hp : p ≤ L) (hk : kd b L p = 9) : F 6 = nI (kl b L p) ∧ tl = lN (kv b L p) ∧ 1 ≤ kl b L p ∧ kl b L p ≤ 6 ∧ 1 ≤ kv b L p ∧ kv b L p < 2 ^ 30 ∧ (kv b L p ≤ 4 → kl b L p = 1) ∧ (kl b L p = 1 → kv b L p < 32) := by
  obtain ⟨-, -, -, t5, t6⟩ := T
  rcases tk_all (b := b) hp with ⟨h1, h2⟩ | ⟨w, h0, h1, h2, -⟩ | ⟨h1, h2, h3, -, h5, h6, h7, h8⟩ | ⟨h1, h2, v, h3, h4, h5⟩ | ⟨c', h1, h2, h3⟩ | ⟨h1, h2⟩
  · omega
  · omega
  · refine ⟨t6 hk, by rw [t5, h3], h5, h6, ?_, ?_, ?_, ?_⟩
    · exact Nat.le_trans (Nat.pow_pos (n := kl b L p - 1) (show 0 < 32 by decide)) h8
    · exact Nat.lt_of_lt_of_le h7 (Nat.le_trans (Nat.pow_le_pow_right (by decide) h6) (by decide))
    · intro h
      rcases Nat.lt_or_ge 1 (kl b L p) with q | q
      · have : 32 ^ 1 ≤ 32 ^ (kl b L p - 1) := Nat.pow_le_pow_right (by decide) (by omega)
        omega
      · omega
    · intro h; rw [h] at h7; omega
  · omega
  · omega
  · omega
end PR
section P9
variable {G : wG} {m : Nat} {F : Nat → Int32} {tl : Int64} {R : Nat → Nat → Int32} {NL : Nat → Int64} {h0 : Nat → Option wE} {sz : Nat} {b : Nat → Int32} {L p : Nat} {x y z : Int32}
theorem a9_next (hb : R 0 = b) (hL : x = nI L) (hL2 : L ≤ 300) (hF : F 2 = nI p) (hp : p ≤ L) : Sat G mX9_next [.ref m, .int x] (mh m F tl R NL h0, sz) (Det none (mh m (nxF b L p F) (nxT b L p) R NL h0, sz)) := by
  subst hb
  exact c9_next hL hL2 hF hp
theorem a9_twK (hb : R 0 = b) (hL : x = nI L) (hL2 : L ≤ 300) (hp : p ≤ L) (T : tokS b L p F tl) (hw : F 7 = 0) {w : Nat} (hw9 : w < 9) (hy : y = nI w) (hk : kd b L p = w) : Sat G mX9_takesWord [.ref m, .int y, .int x] (mh m F tl R NL h0, sz) (Det none (mh m (nxF b L (ad b L p) F) (nxT b L (ad b L p)) R NL h0, sz)) := by
  subst hb
  exact c9_takesWordK (by rw [hy, tw_iff T hw hw9]; exact decide_eq_true hk) hL hL2 T.1 (ad_le hp).2
theorem a9_twB (T : tokS b L p F tl) (hw : F 7 = 0) {w : Nat} (hw9 : w < 9) (hy : y = nI w) (hk : ¬ kd b L p = w) : Sat G mX9_takesWord [.ref m, .int y, .int x] (mh m F tl R NL h0, sz) (Det none (mh m (upd (upd F 7 1) 8 (F 3)) tl R NL h0, sz)) :=
  c9_takesWordB hw (by rw [hy, tw_iff T hw hw9]; exact decide_eq_false hk)
theorem a9_tsK (hb : R 0 = b) (hL : x = nI L) (hL2 : L ≤ 300) (hp : p ≤ L) (T : tokS b L p F tl) (hw : F 7 = 0) {c k : Nat} (hc : c = 123 ∧ k = 11 ∨ c = 125 ∧ k = 12 ∨ c = 59 ∧ k = 13 ∨ c = 60 ∧ k = 14) (hy : y = nI c) (hk : kd b L p = k) : Sat G mX9_takes [.ref m, .int y, .int x] (mh m F tl R NL h0, sz) (Det none (mh m (nxF b L (ad b L p) F) (nxT b L (ad b L p)) R NL h0, sz)) := by
  subst hb
  exact c9_takesK (by rw [hy, ts_iff T hw hp hc]; exact decide_eq_true hk) hL hL2 T.1 (ad_le hp).2
theorem a9_tsB (hp : p ≤ L) (T : tokS b L p F tl) (hw : F 7 = 0) {c k : Nat} (hc : c = 123 ∧ k = 11 ∨ c = 125 ∧ k = 12 ∨ c = 59 ∧ k = 13 ∨ c = 60 ∧ k = 14) (hy : y = nI c) (hk : ¬ kd b L p = k) : Sat G mX9_takes [.ref m, .int y, .int x] (mh m F tl R NL h0, sz) (Det none (mh m (upd (upd F 7 1) 8 (F 3)) tl R NL h0, sz)) :=
  c9_takesB hw (by rw [hy, ts_iff T hw hp hc]; exact decide_eq_false hk)
theorem a9_nmK (hb : R 0 = b) (hL : z = nI L) (hL2 : L ≤ 300) (hp : p ≤ L) (T : tokS b L p F tl) (hw : F 7 = 0) {lo hi : Nat} (hh : hi ≤ 99) (hlo : lo ≤ 99) (hx : x = nI lo) (hy : y = nI hi) (hk : kd b L p = 10) (hr : lo ≤ nu b L p ∧ nu b L p ≤ hi) : Sat G mX9_number [.ref m, .int x, .int y, .int z] (mh m F tl R NL h0, sz) (Det (some (.int (nI (nu b L p)))) (mh m (nxF b L (ad b L p) F) (nxT b L (ad b L p)) R NL h0, sz)) := by
  subst hb hx hy
  have h := tnr T hp hk hh hlo
  rw [← h.2 (by omega)]
  exact c9_numberK hw ((tn_iff T hp).mpr hk) (h.1.mpr hr) hL hL2 T.1 (ad_le hp).2
theorem a9_nmB1 (hp : p ≤ L) (T : tokS b L p F tl) (hw : F 7 = 0) (hk : ¬ kd b L p = 10) : Sat G mX9_number [.ref m, .int x, .int y, .int z] (mh m F tl R NL h0, sz) (Det (some (.int x)) (mh m (upd (upd F 7 1) 8 (F 3)) tl R NL h0, sz)) :=
  c9_numberB1 hw (fun q => hk ((tn_iff T hp).mp q))
theorem a9_nmB3 (hp : p ≤ L) (T : tokS b L p F tl) (hw : F 7 = 0) {lo hi : Nat} (hh : hi ≤ 99) (hlo : lo ≤ 99) (hx : x = nI lo) (hy : y = nI hi) (hk : kd b L p = 10) (hr : ¬ (lo ≤ nu b L p ∧ nu b L p ≤ hi)) : Sat G mX9_number [.ref m, .int x, .int y, .int z] (mh m F tl R NL h0, sz) (Det (some (.int x)) (mh m (upd (upd F 7 3) 8 (F 3)) tl R NL h0, sz)) := by
  subst hx hy
  exact c9_numberB3 hw ((tn_iff T hp).mpr hk) (fun q => hr ((tnr T hp hk hh hlo).1.mp q))
theorem a9_fdK (hb : R 0 = b) (hL : x = nI L) (hL2 : L ≤ 300) (hp : p ≤ L) (T : tokS b L p F tl) (hw : F 7 = 0) (hk : kd b L p = 9 ∧ kv b L p ≤ 4) : Sat G mX9_fieldOf [.ref m, .int x] (mh m F tl R NL h0, sz) (Det (some (.int (nI (kv b L p - 1)))) (mh m (nxF b L (ad b L p) F) (nxT b L (ad b L p)) R NL h0, sz)) := by
  subst hb
  obtain ⟨h1, h2, h3, h4, h5, h6, h7, h8⟩ := tkn T hp hk.1
  have e : tl.toInt32 - 1 = nI (kv (R 0) L p - 1) := by rw [h2, lN_i]; exact pk_sub (b := 1) h5
  rw [← e]
  exact c9_fieldOfK hw ((tnm_iff T hp).mpr hk.1) (by rw [h1, h7 hk.2]; rfl) ⟨by rw [h2]; exact (lN_le (a := 1) (by decide) (by omega)).mpr h5, by rw [h2]; exact (lN_le (b := 4) (by omega) (by decide)).mpr hk.2⟩ hL hL2 T.1 (ad_le hp).2
theorem a9_fdB (hp : p ≤ L) (T : tokS b L p F tl) (hw : F 7 = 0) (hk : ¬ (kd b L p = 9 ∧ kv b L p ≤ 4)) : Sat G mX9_fieldOf [.ref m, .int x] (mh m F tl R NL h0, sz) (Det (some (.int 0)) (mh m (upd (upd F 7 1) 8 (F 3)) tl R NL h0, sz)) := by
  refine c9_fieldOfB hw ?_
  by_cases h9 : kd b L p = 9
  · obtain ⟨h1, h2, h3, h4, h5, h6, h7, h8⟩ := tkn T hp h9
    have : ¬ ((1 : Int64) ≤ tl ∧ tl ≤ 4) := by
      rw [h2]
      exact fun q => hk ⟨h9, (lN_le (b := 4) (by omega) (by decide)).mp q.2⟩
    rw [decide_eq_false this]; simp
  · rw [decide_eq_false (fun q => h9 ((tnm_iff T hp).mp q))]; rfl
end P9
