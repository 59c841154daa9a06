/-! a whole walk, of the reference and of the class -/
section TOP
variable {a r c0 : Nat} {du ps : Nat → Nat} {R0 : Nat → Nat → Int32}
/-- what goes answers and leaves, x being the abstract walk's end -/
def GoR (a r c0 : Nat) (du ps : Nat → Nat) (R0 : Nat → Nat → Int32) (x : wS × Bool) : gT → Prop := fun g => (c0 + ln x.1 ≤ 200 → g.1 = true ∧ g.2.1 = c0 + ln x.1 ∧ ∃ R', SR a r c0 du ps R0 x.1 R' ∧ g.2.2 = (if x.2 = true then va_up R' 51 (upd (R' 51) r 1) else R')) ∧ (200 < c0 + ln x.1 → g.1 = false ∧ g.2.1 = 200 ∧ ∃ σ', SR a r c0 du ps R0 σ' g.2.2)
theorem cnR_top {T : tT} {x : wS × Bool} {R : Nat → Nat → Int32} (hl : R0 41 r = nI (szR T)) : CnR a r c0 du ps R0 x (0 + szR T) 0 R (GoR a r c0 du ps R0 x) := by
  refine ⟨fun hov σ' R' hs => ⟨fun h => by omega, fun _ => ⟨rfl, rfl, σ', hs⟩⟩, fun hle R' hs hp => ?_⟩
  obtain ⟨e41, -⟩ := SR_code hs
  have fin : ∀ R3, RG a r none 0 (c0 + ln x.1) R3 (fun g => g = (true, c0 + ln x.1, R3)) := fun R3 => ⟨1, _, by rw [gM], rfl⟩
  by_cases hf : x.2 = true
  · rw [if_pos hf, Nat.zero_add]
    have h1 : RG a r (some (szR T)) 0 (c0 + ln x.1) R' (fun g => g = (true, c0 + ln x.1, va_up R' 51 (upd (R' 51) r 1))) := rg_step (fun n => by rw [gM, e41, hl, if_pos rfl]) (fin _)
    obtain ⟨n, g, h2, h3⟩ := h1
    subst h3
    exact ⟨n, _, h2, fun _ => ⟨rfl, rfl, R', hs, by rw [if_pos hf]⟩, fun h => by omega⟩
  · rw [if_neg hf]
    obtain ⟨n, g, h2, h3⟩ := fin R'
    subst h3
    exact ⟨n, _, h2, fun _ => ⟨rfl, rfl, R', hs, by rw [if_neg hf]⟩, fun h => by omega⟩
theorem goR_run {T : tT} {σ : wS} {R : Nat → Nat → Int32} (ok : okT T = true) (hn : ndT T) (ha : agT T = true) (hl : R0 41 r = nI (szR T)) (hl2 : szR T < 200) (hH : HR r (szR T) du ps R0 T 0) (hs : SR a r c0 du ps R0 σ R) (hi : idW T σ) (hf : (fkT T).length ≤ 40) (hc : c0 ≤ 200) (hln : σ.2.2.2.2 = []) : ∃ n g, gM a r n (some 0) 0 c0 R = some g ∧ GoR a r c0 du ps R0 (enT T σ) g := by
  have hz : ln σ = 0 := by show σ.2.2.2.2.length = 0; rw [hln]; rfl
  have h := enR (a := a) (c0 := c0) hl hl2 T ok hn ha 0 0 σ R _ hH hs hi (by omega) (by omega) (cnR_top (x := enT T σ) hl)
  rw [hz, Nat.add_zero] at h
  exact h
theorem goR_done {T : tT} {d : Nat} {σ : wS} {R : Nat → Nat → Int32} (ok : okT T = true) (hn : ndT T) (ha : agT T = true) (hd : d ∈ dsT T) (hl : R0 41 r = nI (szR T)) (hl2 : szR T < 200) (hH : HR r (szR T) du ps R0 T 0) (hs : SR a r c0 du ps R0 σ R) (h0 : σ.2.2.2.1 d = 0) (hb : bzT T (inS d σ)) (hf : (fkT T).length ≤ 40) (hc : c0 ≤ 200) (hln : σ.2.2.2.2 = []) : ∃ n g, gM a r n (some (psR T 0 d + 1)) 0 c0 R = some g ∧ GoR a r c0 du ps R0 (reT d T σ) g := by
  have hz : ln σ = 0 := by show σ.2.2.2.2.length = 0; rw [hln]; rfl
  have h := reR (a := a) (c0 := c0) d hl hl2 T ok hn ha hd 0 0 σ R _ hH hs h0 hb (by omega) (by omega) (cnR_top (x := reT d T σ) hl)
  rw [hz, Nat.add_zero] at h
  exact h
variable {B : Nat → Nat → Int32} {l : Nat}
/-- what the class's walk leaves -/
def GoC (x : wS × Bool) : cT → Prop := fun g => g.1 3 = nI (ln x.1) ∧ g.1 4 = wb x.2 ∧ (∀ i, i < 4 → g.2 0 i = x.1.1 i) ∧ (∀ f, f < 40 → g.2 1 f = nI (wy x.1 f)) ∧ ∀ i d, x.1.2.2.2.2[i]? = some d → g.2 2 i = nI d
theorem cnC_top {T : tT} {x : wS × Bool} {R : Nat → Nat → Int32} (hl : l = szC T + 1) (ho : B 4 (szC T) = 6) : CnC B l 1 x (0 + szC T) 0 R (GoC x) := by
  intro F' R' hs hp m hm
  have pop : ∀ (F3 : Nat → Int32) n, F3 6 = nI 0 → cP B l n F3 R' = some (F3, R') := by
    intro F3 n h6
    unfold cP
    rw [h6, gI_nI (by decide) (by decide)]
    cases n with
    | zero => show cM B l 0 none F3 R' = _; rw [cM]
    | succ n => show cM B l (n + 1) none F3 R' = _; rw [cM]
  by_cases hf : x.2 = true
  · rw [if_pos hf, Nat.zero_add]
    refine rc_ge (n := 0) (by omega) ?_
    refine rc_step (p := none) (F2 := upd F' 4 1) (R2 := R') ?_ ⟨(upd F' 4 1, R'), pop _ _ hs.2.1, hs.1, by rw [hf]; rfl, hs.2.2.2⟩
    rw [flM, if_neg (by omega)]
    have e : ∀ j : Nat, j < 6 → ¬ B 4 (szC T) = nI j := fun j hj q => by
      rw [ho] at q
      have := (nI_eq (a := 6) (by decide) (by omega)).mp q
      omega
    rw [if_neg (e 0 (by decide)), if_neg (e 1 (by decide)), if_neg (e 2 (by decide)), if_neg (e 3 (by decide)), if_neg (e 4 (by decide)), if_neg (e 5 (by decide))]
  · rw [if_neg hf]
    refine ⟨(F', R'), pop _ _ hs.2.1, hs.1, ?_, hs.2.2.2⟩
    rw [bt_f hf]; exact hs.2.2.1
theorem RC_cM {n k : Nat} {F : Nat → Int32} {R : Nat → Nat → Int32} {Fin : cT → Prop} (h : RC B l n (some k) F R Fin) : ∃ F2 R2, cM B l n (some k) F R = some (F2, R2) ∧ Fin (F2, R2) := by
  obtain ⟨⟨F2, R2⟩, h1, h2⟩ := h
  exact ⟨F2, R2, h1, h2⟩
theorem goC_run {T : tT} {σ : wS} {F : Nat → Int32} {R : Nat → Nat → Int32} (ok : okT T = true) (hn : ndT T) (ha : agT T = true) (hl : l = szC T + 1) (hl2 : l ≤ 121) (ho : B 4 (szC T) = 6) (hH : HC l B T 0) (hs : SC σ 0 F R) (hi : idW T σ) (hf : (fkT T).length ≤ 40) (hd : (dsT T).length ≤ 40) (hln : σ.2.2.2.2 = []) : ∃ F2 R2, cM B l 1000 (some 0) F R = some (F2, R2) ∧ GoC (enT T σ) (F2, R2) := by
  have hz : ln σ = 0 := by show σ.2.2.2.2.length = 0; rw [hln]; rfl
  exact RC_cM (enC hl2 T ok hn ha 0 0 σ F R _ 1 hH hs hi (by omega) (by omega) (cnC_top hl ho) 1000 (by omega))
theorem goC_done {T : tT} {d : Nat} {σ : wS} {F : Nat → Int32} {R : Nat → Nat → Int32} (ok : okT T = true) (hn : ndT T) (ha : agT T = true) (hdd : d ∈ dsT T) (hl : l = szC T + 1) (hl2 : l ≤ 121) (ho : B 4 (szC T) = 6) (hH : HC l B T 0) (hs : SC σ 0 F R) (h0 : σ.2.2.2.1 d = 0) (hb : bzT T (inS d σ)) (hf : (fkT T).length ≤ 40) (hd : (dsT T).length ≤ 40) (hln : σ.2.2.2.2 = []) : ∃ F2 R2, cM B l 1000 (some (psC T 0 d + 1)) F R = some (F2, R2) ∧ GoC (reT d T σ) (F2, R2) := by
  have hz : ln σ = 0 := by show σ.2.2.2.2.length = 0; rw [hln]; rfl
  have := cst_le d T σ
  exact RC_cM (reC d hl2 T ok hn ha hdd 0 0 σ F R _ 1 hH hs h0 hb (by omega) (by omega) (cnC_top hl ho) 1000 (by omega))
end TOP
