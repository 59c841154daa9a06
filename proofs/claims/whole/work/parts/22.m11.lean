theorem w_lk (pc : Nat) (df x : Int) (td : Nat) (hdf : (pc : Int) + df = td) : ∀ (ps : List (Int × Int)) (ts : List (Int × Nat)), ps.map (fun q => (q.1, (pc : Int) + q.2)) = ts.map (fun q => (q.1, (q.2 : Int))) →
    (∃ (j : Nat) (q : Int × Nat), ts[j]? = some q ∧ x = q.1 ∧ (pc : Int) + Op.lookupswitch.offset ps df x = (q.2 : Int)) ∨ ((∀ q ∈ ts, ¬ x = q.1) ∧ (pc : Int) + Op.lookupswitch.offset ps df x = (td : Int))
  | [], ts, h => by
    have : ts = [] := by cases ts with | nil => rfl | cons a r => simp at h
    subst this
    exact Or.inr ⟨fun q hq => by simp at hq, by simpa [Op.lookupswitch.offset] using hdf⟩
  | (a, u) :: ps, ts, h => by
    cases ts with
    | nil => simp at h
    | cons b ts =>
      simp only [List.map_cons, List.cons.injEq, Prod.mk.injEq] at h
      by_cases hx : a = x
      · refine Or.inl ⟨0, b, rfl, by rw [← hx]; exact h.1.1, ?_⟩
        rw [Op.lookupswitch.offset_cons, if_pos hx]
        exact h.1.2
      · rcases w_lk pc df x td hdf ps ts h.2 with ⟨j, q, h1, h2, h3⟩ | ⟨h1, h2⟩
        · exact Or.inl ⟨j + 1, q, by simpa using h1, h2, by rw [Op.lookupswitch.offset_cons, if_neg hx]; exact h3⟩
        · refine Or.inr ⟨fun q hq => ?_, by rw [Op.lookupswitch.offset_cons, if_neg hx]; exact h2⟩
          rcases List.mem_cons.mp hq with e | e
          · rw [e, ← h.1.1]; exact fun e2 => hx e2.symm
          · exact h1 q e
theorem ww_lookupL {G : wG} {M : wM} {cc : ByteArray} {X : wX} {Z : State → Prop} {pc : Nat} {lv : List (Option Value)} {st : List Value} {h : wH} {k n : Nat} {dflt : Int} {ps : Array (Int × Int)} {len : Nat} {x : Int32} (ts : List (Int × Nat)) (td : Nat) (hd : decode cc pc = .ok (.lookupswitch dflt ps, len)) (hdf : (pc : Int) + dflt = td) (hp : (ps.toList.zip (ps.toList.drop 1)).all (fun (a, next) => a.1 < next.1) = true) (hm : ps.toList.map (fun q => (q.1, (pc : Int) + q.2)) = ts.map (fun q => (q.1, (q.2 : Int))))
    (kt : ∀ (j : Nat) (q : Int × Nat), ts[j]? = some q → x.toInt = q.1 → WW G M cc X Z q.2 lv st h k n) (kd : (∀ q ∈ ts, ¬ x.toInt = q.1) → WW G M cc X Z td lv st h k n) : WW G M cc X Z pc lv (.int x :: st) h k n := by
  obtain ⟨p, e, R, s, m, args, below, meth, c⟩ := X
  intro O H locs ls hR hS hl
  rcases w_lk pc dflt x.toInt td hdf _ ts hm with ⟨j, q, h1, h2, h3⟩ | ⟨h1, h2⟩
  · exact lv_lookup O.1 O.2.1 hd hp rfl h3 (kt j q h1 h2 O H locs ls hR hS hl)
  · exact lv_lookup O.1 O.2.1 hd hp rfl h2 (kd h1 O H locs ls hR hS hl)
theorem w_litI {x k : Int32} {a : Int} (h : x.toInt = a) (hk : k.toInt = a) : x = k := Int32.toInt_inj.mp (h.trans hk.symm)
/-! tokens: by the bytes -/
def scn (P : Int32 → Bool) (b : Nat → Int32) (L : Nat) : Nat → Nat → Nat
  | 0, p => p
  | n + 1, p => if p < L ∧ P (b p) = true then scn P b L n (p + 1) else p
theorem scn_stop {P : Int32 → Bool} {b : Nat → Int32} {L p : Nat} (h : ¬ (p < L ∧ P (b p) = true)) : ∀ n, scn P b L n p = p
  | 0 => rfl
  | n + 1 => by rw [scn, if_neg h]
theorem scn_go {P : Int32 → Bool} {b : Nat → Int32} {L p : Nat} (h1 : p < L) (h2 : P (b p) = true) : scn P b L (L - p) p = scn P b L (L - (p + 1)) (p + 1) := by
  rw [show L - p = L - (p + 1) + 1 by omega, scn, if_pos ⟨h1, h2⟩]
theorem scn_le {P : Int32 → Bool} {b : Nat → Int32} {L : Nat} : ∀ n p, p ≤ L → p ≤ scn P b L n p ∧ scn P b L n p ≤ L
  | 0, p, h => ⟨Nat.le_refl _, h⟩
  | n + 1, p, h => by
    rw [scn]
    by_cases q : p < L ∧ P (b p) = true
    · rw [if_pos q]
      have q1 := q.1
      have := scn_le (P := P) (b := b) n (p + 1) q1
      omega
    · rw [if_neg q]
      exact ⟨Nat.le_refl _, h⟩
def isBl (x : Int32) : Bool := decide (x = 32) || decide (x = 10)
def isLt (x : Int32) : Bool := inR x 97 122
def isDg (x : Int32) : Bool := inR x 48 57
def nS (b : Nat → Int32) (L p : Nat) : Nat := scn isBl b L (L - p) p
def nE (b : Nat → Int32) (L s : Nat) : Nat := if s = L then s else if isLt (b s) = true then scn isLt b L (L - s) s else if isDg (b s) = true then scn isDg b L (L - s) s else s + 1
def tlf (b : Nat → Int32) (s : Nat) : Nat → Int64
  | 0 => 0
  | i + 1 => if i < 6 then 32 * tlf b s i + (b (s + i)).toInt64 - 96 else tlf b s i
def tdf (b : Nat → Int32) (s : Nat) : Nat → Int64
  | 0 => 0
  | i + 1 => if 9999 < tdf b s i then 10000 else 10 * tdf b s i + (b (s + i)).toInt64 - 48
def wdM (x : Int32) : Int32 := if x = 143 then 0 else if x = 294 then 5 else if x = 4773 then 2 else if x = 19636 then 8 else if x = 81544 then 4 else if x = 176741 then 6 else if x = 189619 then 3 else if x = 605573 then 1 else if x = 1279278 then 7 else -1
def wdK (b : Nat → Int32) (s k : Nat) : Int32 := if k ≤ 5 then wdM (tlf b s k).toInt32 else -1
def isSg (x : Int32) : Bool := decide (x = 123) || decide (x = 125) || decide (x = 59) || decide (x = 60)
/-- sort, told and letters of the token from s on -/
def tSo (b : Nat → Int32) (L s : Nat) : Int32 := if s = L then 0 else if isLt (b s) = true then (if wdK b s (nE b L s - s) < 0 then (if nE b L s - s ≤ 6 then 1 else 5) else 2) else if isDg (b s) = true then 3 else if isSg (b s) = true then 4 else 5
def tTo (b : Nat → Int32) (L s : Nat) : Int64 := if s = L then 0 else if isLt (b s) = true then (if wdK b s (nE b L s - s) < 0 then tlf b s (nE b L s - s) else (wdK b s (nE b L s - s)).toInt64) else if isDg (b s) = true then tdf b s (nE b L s - s) else (b s).toInt64
def tLe (b : Nat → Int32) (L s : Nat) (old : Int32) : Int32 := if s = L then old else if isLt (b s) = true then nI (nE b L s - s) else old
def nxF (b : Nat → Int32) (L p : Nat) (F : Nat → Int32) : Nat → Int32 := fun k => if k = 2 then nI (nE b L (nS b L p)) else if k = 3 then nI (nS b L p) else if k = 4 then tSo b L (nS b L p) else if k = 6 then tLe b L (nS b L p) (F 6) else F k
def nxT (b : Nat → Int32) (L p : Nat) : Int64 := tTo b L (nS b L p)
section M11
variable {G : wG} {m : Nat} {F : Nat → Int32} {tl : Int64} {R : Nat → Nat → Int32} {NL : Nat → Int64} {h0 : Nat → Option wE} {sz : Nat}

theorem mh_eq {F2 : Nat → Int32} {tl2 : Int64} (e1 : F = F2) (e2 : tl = tl2) : ((mh m F tl R NL h0, sz) : wH) = (mh m F2 tl2 R NL h0, sz) := by rw [e1, e2]
theorem w_upd_id {f : Nat → Int32} {k : Nat} {v : Int32} (h : f k = v) : upd f k v = f := by
  funext j
  by_cases e : j = k
  · subst e; simp [upd, h]
  · simp [upd, e]
theorem nx_fin {b : Nat → Int32} {L p s : Nat} {F2 : Nat → Int32} (hs : s = nS b L p) (h2 : F2 2 = nI (nE b L s)) (h3 : F2 3 = nI s) (h4 : F2 4 = tSo b L s) (h6 : F2 6 = tLe b L s (F 6)) (ho : ∀ k, k ≠ 2 → k ≠ 3 → k ≠ 4 → k ≠ 6 → F2 k = F k) : F2 = nxF b L p F := by
  funext k
  unfold nxF
  rw [← hs]
  by_cases e2 : k = 2
  · rw [if_pos e2, e2]; exact h2
  · by_cases e3 : k = 3
    · rw [if_neg e2, if_pos e3, e3]; exact h3
    · by_cases e4 : k = 4
      · rw [if_neg e2, if_neg e3, if_pos e4, e4]; exact h4
      · by_cases e6 : k = 6
        · rw [if_neg e2, if_neg e3, if_neg e4, if_pos e6, e6]; exact h6
        · rw [if_neg e2, if_neg e3, if_neg e4, if_neg e6]; exact ho k e2 e3 e4 e6
theorem tk_let {b : Nat → Int32} {L s i : Nat} {x : Int32} (hsl : ¬ s = L) (hlt : isLt (b s) = true) (hi : nE b L s = s + i) : tSo b L s = (if wdK b s i < 0 then (if i ≤ 6 then 1 else 5) else 2) ∧ tTo b L s = (if wdK b s i < 0 then tlf b s i else (wdK b s i).toInt64) ∧ tLe b L s x = nI i := by
  have e : nE b L s - s = i := by omega
  refine ⟨?_, ?_, ?_⟩
  · unfold tSo; rw [if_neg hsl, if_pos hlt, e]
  · unfold tTo; rw [if_neg hsl, if_pos hlt, e]
  · unfold tLe; rw [if_neg hsl, if_pos hlt, e]
theorem tk_dig {b : Nat → Int32} {L s i : Nat} {x : Int32} (hsl : ¬ s = L) (hlt : isLt (b s) = false) (hdg : isDg (b s) = true) (hi : nE b L s = s + i) : tSo b L s = 3 ∧ tTo b L s = tdf b s i ∧ tLe b L s x = x := by
  have e : nE b L s - s = i := by omega
  refine ⟨?_, ?_, ?_⟩
  · unfold tSo; rw [if_neg hsl, if_neg (wb_nt hlt), if_pos hdg]
  · unfold tTo; rw [if_neg hsl, if_neg (wb_nt hlt), if_pos hdg, e]
  · unfold tLe; rw [if_neg hsl, if_neg (wb_nt hlt)]
theorem tk_sgn {b : Nat → Int32} {L s : Nat} {x : Int32} (hsl : ¬ s = L) (hlt : isLt (b s) = false) (hdg : isDg (b s) = false) : nE b L s = s + 1 ∧ tSo b L s = (if isSg (b s) = true then 4 else 5) ∧ tTo b L s = (b s).toInt64 ∧ tLe b L s x = x := by
  refine ⟨?_, ?_, ?_, ?_⟩
  · unfold nE; rw [if_neg hsl, if_neg (wb_nt hlt), if_neg (wb_nt hdg)]
  · unfold tSo; rw [if_neg hsl, if_neg (wb_nt hlt), if_neg (wb_nt hdg)]
  · unfold tTo; rw [if_neg hsl, if_neg (wb_nt hlt), if_neg (wb_nt hdg)]
  · unfold tLe; rw [if_neg hsl, if_neg (wb_nt hlt)]
theorem nE_let {b : Nat → Int32} {L s : Nat} (hsl : ¬ s = L) (hlt : isLt (b s) = true) : scn isLt b L (L - (s + 0)) (s + 0) = nE b L s := by unfold nE; rw [if_neg hsl, if_pos hlt]; rfl
theorem nE_dig {b : Nat → Int32} {L s : Nat} (hsl : ¬ s = L) (hlt : isLt (b s) = false) (hdg : isDg (b s) = true) : scn isDg b L (L - (s + 0)) (s + 0) = nE b L s := by unfold nE; rw [if_neg hsl, if_neg (wb_nt hlt), if_pos hdg]; rfl
set_option maxHeartbeats 4000000 in
theorem c9_wordOf {x : Int32} {h : wH} : Sat G mX9_wordOf [.int x] h (Det (some (.int (wdM x))) h) := by
  refine Sat.of (by decide) [some (.int x)] rfl rfl (fun X => ?_)
  refine ww_iload_n dX9_wordOf_0 rfl rfl ?_
  refine ww_lookupL [(143, 84), (294, 94), (4773, 88), (19636, 102), (81544, 92), (176741, 96), (189619, 90), (605573, 86), (1279278, 99)] 105 dX9_wordOf_1 (by decide) (by decide) (by decide) (fun j1 t1 ht1 c1 => ?_) (fun c1 => ?_)
  · rcases j1 with _ | _ | _ | _ | _ | _ | _ | _ | _ | j
    · cases ht1
      refine ww_iconst (v := 0) dX9_wordOf_84 (by decide) ?_
      exact ww_iret dX9_wordOf_85 rfl ⟨by rw [w_litI (k := 143) c1 rfl]; rfl, rfl⟩ (Nat.zero_le _) (Nat.zero_le _)
    · cases ht1
      refine ww_iconst (v := 5) dX9_wordOf_94 (by decide) ?_
      exact ww_iret dX9_wordOf_95 rfl ⟨by rw [w_litI (k := 294) c1 rfl]; rfl, rfl⟩ (Nat.zero_le _) (Nat.zero_le _)
    · cases ht1
      refine ww_iconst (v := 2) dX9_wordOf_88 (by decide) ?_
      exact ww_iret dX9_wordOf_89 rfl ⟨by rw [w_litI (k := 4773) c1 rfl]; rfl, rfl⟩ (Nat.zero_le _) (Nat.zero_le _)
    · cases ht1
      refine ww_bipush (v := 8) dX9_wordOf_102 (by decide) ?_
      exact ww_iret dX9_wordOf_104 rfl ⟨by rw [w_litI (k := 19636) c1 rfl]; rfl, rfl⟩ (Nat.zero_le _) (Nat.zero_le _)
    · cases ht1
      refine ww_iconst (v := 4) dX9_wordOf_92 (by decide) ?_
      exact ww_iret dX9_wordOf_93 rfl ⟨by rw [w_litI (k := 81544) c1 rfl]; rfl, rfl⟩ (Nat.zero_le _) (Nat.zero_le _)
    · cases ht1
      refine ww_bipush (v := 6) dX9_wordOf_96 (by decide) ?_
      exact ww_iret dX9_wordOf_98 rfl ⟨by rw [w_litI (k := 176741) c1 rfl]; rfl, rfl⟩ (Nat.zero_le _) (Nat.zero_le _)
    · cases ht1
      refine ww_iconst (v := 3) dX9_wordOf_90 (by decide) ?_
      exact ww_iret dX9_wordOf_91 rfl ⟨by rw [w_litI (k := 189619) c1 rfl]; rfl, rfl⟩ (Nat.zero_le _) (Nat.zero_le _)
    · cases ht1
      refine ww_iconst (v := 1) dX9_wordOf_86 (by decide) ?_
      exact ww_iret dX9_wordOf_87 rfl ⟨by rw [w_litI (k := 605573) c1 rfl]; rfl, rfl⟩ (Nat.zero_le _) (Nat.zero_le _)
    · cases ht1
      refine ww_bipush (v := 7) dX9_wordOf_99 (by decide) ?_
      exact ww_iret dX9_wordOf_101 rfl ⟨by rw [w_litI (k := 1279278) c1 rfl]; rfl, rfl⟩ (Nat.zero_le _) (Nat.zero_le _)
    · cases ht1
  · refine ww_iconst (v := -1) dX9_wordOf_105 (by decide) ?_
    exact ww_iret dX9_wordOf_106 rfl ⟨by unfold wdM; rw [if_neg (fun q => c1 (143, 84) (by simp) (by rw [q]; rfl)), if_neg (fun q => c1 (294, 94) (by simp) (by rw [q]; rfl)), if_neg (fun q => c1 (4773, 88) (by simp) (by rw [q]; rfl)), if_neg (fun q => c1 (19636, 102) (by simp) (by rw [q]; rfl)), if_neg (fun q => c1 (81544, 92) (by simp) (by rw [q]; rfl)), if_neg (fun q => c1 (176741, 96) (by simp) (by rw [q]; rfl)), if_neg (fun q => c1 (189619, 90) (by simp) (by rw [q]; rfl)), if_neg (fun q => c1 (605573, 86) (by simp) (by rw [q]; rfl)), if_neg (fun q => c1 (1279278, 99) (by simp) (by rw [q]; rfl))], rfl⟩ (Nat.zero_le _) (Nat.zero_le _)
set_option maxHeartbeats 4000000 in
theorem L9_next1 {x : Int32} {L s : Nat} {X : wX} {Z : State → Prop} (hL : x = nI L) (hL2 : L ≤ 300) (hk : WW G mX9_next cX9_next X Z 49 [some (.ref m), some (.int x), none, none] [] (mh m (upd F 2 (nI s)) tl R NL h0, sz) 0 0) : ∀ (n q : Nat), L - q < n → q ≤ L → scn isBl (R 0) L (L - q) q = s → WW G mX9_next cX9_next X Z 0 [some (.ref m), some (.int x), none, none] [] (mh m (upd F 2 (nI q)) tl R NL h0, sz) 0 0 := by
  intro n
  induction n with
  | zero => intro q hn; exact absurd hn (by omega)
  | succ n ih =>
    intro q hn hq iS
    refine ww_aload_n dX9_next_0 rfl rfl ?_
    refine mm_geti dX9_next_1 fX9_190 rfl rfl ?_
    refine ww_iload_n dX9_next_4 rfl rfl ?_
    refine ww_icmp_ge (tgt := 49) dX9_next_5 (by decide) (fun c5 => ?_) (fun c5 => ?_)
    · have e1 := (w_le hL (w_upd_self F 2 (nI q)) (by omega) (by omega)).mp c5
      have e2 : s = q := by rw [← iS]; exact scn_stop (fun z => absurd z.1 (by omega)) _
      rw [← e2]
      exact hk
    · have e0 : q < L := by rcases Nat.lt_or_ge q L with z | z; exact z; exact absurd ((w_le hL (w_upd_self F 2 (nI q)) (by omega) (by omega)).mpr z) c5
      refine ww_aload_n dX9_next_8 rfl rfl ?_
      refine mm_getr dX9_next_9 fX9_7 rfl ?_
      refine ww_aload_n dX9_next_12 rfl rfl ?_
      refine mm_geti dX9_next_13 fX9_190 rfl rfl ?_
      refine mm_bald dX9_next_16 rfl (w_upd_self _ _ _) (by omega) rfl rfl ?_
      refine ww_bipush (v := 32) dX9_next_17 (by decide) ?_
      refine ww_icmp_eq (tgt := 36) dX9_next_19 (by decide) (fun c19 => ?_) (fun c19 => ?_)
      · refine ww_aload_n dX9_next_36 rfl rfl ?_
        refine ww_dup dX9_next_37 rfl ?_
        refine mm_geti dX9_next_38 fX9_190 rfl rfl ?_
        refine ww_iconst (v := 1) dX9_next_41 (by decide) ?_
        refine ww_iadd dX9_next_42 ?_
        refine mm_puti dX9_next_43 fX9_190 rfl rfl ?_
        refine ww_goto (tgt := 0) dX9_next_46 (by decide) ?_
        have e1 : q < L := by rcases Nat.lt_or_ge q L with z | z; exact z; exact absurd ((w_le hL (w_upd_self F 2 (nI q)) (by omega) (by omega)).mpr z) c5
        rw [w_upd_upd, w_upd_self, nI_1]
        exact ih (q + 1) (by omega) (by omega) (by rw [← iS, scn_go e1 (by simp [isBl, c19])])
      · refine ww_aload_n dX9_next_22 rfl rfl ?_
        refine mm_getr dX9_next_23 fX9_7 rfl ?_
        refine ww_aload_n dX9_next_26 rfl rfl ?_
        refine mm_geti dX9_next_27 fX9_190 rfl rfl ?_
        refine mm_bald dX9_next_30 rfl (w_upd_self _ _ _) (by omega) rfl rfl ?_
        refine ww_bipush (v := 10) dX9_next_31 (by decide) ?_
        refine ww_icmp_ne (tgt := 49) dX9_next_33 (by decide) (fun c33 => ?_) (fun c33 => ?_)
        · have e2 : s = q := by rw [← iS]; exact scn_stop (fun z => by have := z.2; simp [isBl, c19, c33] at this) _
          rw [← e2]
          exact hk
        · refine ww_aload_n dX9_next_36 rfl rfl ?_
          refine ww_dup dX9_next_37 rfl ?_
          refine mm_geti dX9_next_38 fX9_190 rfl rfl ?_
          refine ww_iconst (v := 1) dX9_next_41 (by decide) ?_
          refine ww_iadd dX9_next_42 ?_
          refine mm_puti dX9_next_43 fX9_190 rfl rfl ?_
          refine ww_goto (tgt := 0) dX9_next_46 (by decide) ?_
          have e1 : q < L := by rcases Nat.lt_or_ge q L with z | z; exact z; exact absurd ((w_le hL (w_upd_self F 2 (nI q)) (by omega) (by omega)).mpr z) c5
          rw [w_upd_upd, w_upd_self, nI_1]
          exact ih (q + 1) (by omega) (by omega) (by rw [← iS, scn_go e1 (by simp [isBl, c33])])
theorem w_heap {G : wG} {M : wM} {cc : ByteArray} {X : wX} {Z : State → Prop} {pc : Nat} {lv : List (Option Value)} {st : List Value} {h h2 : wH} {k n : Nat} (e : h = h2) (kk : WW G M cc X Z pc lv st h2 k n) : WW G M cc X Z pc lv st h k n := by rw [e]; exact kk
set_option maxHeartbeats 4000000 in
theorem L9_next2 {x x2 : Int32} {L s e : Nat} {X : wX} {Z : State → Prop} (hL : x = nI L) (hL2 : L ≤ 300) (hk : ∀ i, e = s + i → WW G mX9_next cX9_next X Z 201 [some (.ref m), some (.int x), some (.int x2), none] [] (mh m (upd (upd F 6 (nI i)) 2 (nI (s + i))) (tlf (R 0) s i) R NL h0, sz) 0 0) : ∀ (n i : Nat), L - (s + i) < n → s + i ≤ L → scn isLt (R 0) L (L - (s + i)) (s + i) = e → WW G mX9_next cX9_next X Z 105 [some (.ref m), some (.int x), some (.int x2), none] [] (mh m (upd (upd F 6 (nI i)) 2 (nI (s + i))) (tlf (R 0) s i) R NL h0, sz) 0 0 := by
  intro n
  induction n with
  | zero => intro i hn; exact absurd hn (by omega)
  | succ n ih =>
    intro i hn hq iS
    refine ww_aload_n dX9_next_105 rfl rfl ?_
    refine mm_geti dX9_next_106 fX9_190 rfl rfl ?_
    refine ww_iload_n dX9_next_109 rfl rfl ?_
    refine ww_icmp_ge (tgt := 201) dX9_next_110 (by decide) (fun c110 => ?_) (fun c110 => ?_)
    · have e1 := (w_le hL (w_upd_self (upd F 6 (nI i)) 2 (nI (s + i))) (by omega) (by omega)).mp c110
      have e2 : e = s + i := by rw [← iS]; exact scn_stop (fun z => absurd z.1 (by omega)) _
      exact hk i e2
    · have e0 : s + i < L := by rcases Nat.lt_or_ge (s + i) L with z | z; exact z; exact absurd ((w_le hL (w_upd_self (upd F 6 (nI i)) 2 (nI (s + i))) (by omega) (by omega)).mpr z) c110
      refine ww_aload_n dX9_next_113 rfl rfl ?_
      refine mm_getr dX9_next_114 fX9_7 rfl ?_
      refine ww_aload_n dX9_next_117 rfl rfl ?_
      refine mm_geti dX9_next_118 fX9_190 rfl rfl ?_
      refine mm_bald dX9_next_121 rfl (w_upd_self _ _ _) (by omega) rfl rfl ?_
      refine ww_i2l dX9_next_122 ?_
      refine ww_ldc2 dX9_next_123 qX9_200 ?_
      refine ww_ldc2 dX9_next_126 qX9_202 ?_
      refine ww_calls1 dX9_next_129 kX9_177 c9_in rfl rfl rfl rfl rfl rfl (Nat.zero_le _) (Nat.zero_le _) ?_
      refine ww_if_eq (tgt := 201) dX9_next_132 (by decide) (fun c132 => ?_) (fun c132 => ?_)
      · rw [in_c (a := 97) (b := 122) rfl rfl] at c132
        have e2 : e = s + i := by rw [← iS]; exact scn_stop (fun z => absurd z.2 (wb_nt (wb_eq0.mp c132))) _
        exact hk i e2
      · refine ww_aload_n dX9_next_135 rfl rfl ?_
        refine ww_aload_n dX9_next_136 rfl rfl ?_
        refine mm_geti dX9_next_137 fX9_204 rfl rfl ?_
        refine ww_bipush (v := 6) dX9_next_140 (by decide) ?_
        refine ww_icmp_ge (tgt := 171) dX9_next_142 (by decide) (fun c142 => ?_) (fun c142 => ?_)
        · refine ww_aload_n dX9_next_171 rfl rfl ?_
          refine mm_getl dX9_next_172 fX9_193 ?_
          refine mm_putl dX9_next_175 fX9_193 ?_
          refine ww_aload_n dX9_next_178 rfl rfl ?_
          refine ww_dup dX9_next_179 rfl ?_
          refine mm_geti dX9_next_180 fX9_204 rfl rfl ?_
          refine ww_iconst (v := 1) dX9_next_183 (by decide) ?_
          refine ww_iadd dX9_next_184 ?_
          refine mm_puti dX9_next_185 fX9_204 rfl rfl ?_
          refine ww_aload_n dX9_next_188 rfl rfl ?_
          refine ww_dup dX9_next_189 rfl ?_
          refine mm_geti dX9_next_190 fX9_190 rfl rfl ?_
          refine ww_iconst (v := 1) dX9_next_193 (by decide) ?_
          refine ww_iadd dX9_next_194 ?_
          refine mm_puti dX9_next_195 fX9_190 rfl rfl ?_
          refine ww_goto (tgt := 105) dX9_next_198 (by decide) ?_
          rw [in_c (a := 97) (b := 122) rfl rfl] at c132
          have eF : upd (upd (upd (upd F 6 (nI i)) 2 (nI (s + i))) 6 (nI i + 1)) 2 (nI (s + i) + 1) = upd (upd F 6 (nI (i + 1))) 2 (nI (s + (i + 1))) := by rw [nI_1, nI_1]; funext z; by_cases z2 : z = 2; simp [upd, z2]; rfl; by_cases z6 : z = 6; simp [upd, z6]; simp [upd, z2, z6]
          have eT : tlf (R 0) s i = tlf (R 0) s (i + 1) := by rw [tlf, if_neg (Nat.not_lt.mpr ((w_le (show (6 : Int32) = nI 6 from rfl) (show _ = nI i from rfl) (by decide) (by omega)).mp c142))]
          refine w_heap (mh_eq eF eT) ?_
          exact ih (i + 1) (by omega) (by omega) (by rw [← iS, scn_go e0 (wb_ne0.mp c132)]; rfl)
        · refine ww_ldc2 dX9_next_145 qX9_207 ?_
          refine ww_aload_n dX9_next_148 rfl rfl ?_
          refine mm_getl dX9_next_149 fX9_193 ?_
          refine ww_lmul dX9_next_152 ?_
          refine ww_aload_n dX9_next_153 rfl rfl ?_
          refine mm_getr dX9_next_154 fX9_7 rfl ?_
          refine ww_aload_n dX9_next_157 rfl rfl ?_
          refine mm_geti dX9_next_158 fX9_190 rfl rfl ?_
          refine mm_bald dX9_next_161 rfl (w_upd_self _ _ _) (by omega) rfl rfl ?_
          refine ww_i2l dX9_next_162 ?_
          refine ww_ladd dX9_next_163 ?_
          refine ww_ldc2 dX9_next_164 qX9_209 ?_
          refine ww_lsub dX9_next_167 ?_
          refine ww_goto (tgt := 175) dX9_next_168 (by decide) ?_
          refine mm_putl dX9_next_175 fX9_193 ?_
          refine ww_aload_n dX9_next_178 rfl rfl ?_
          refine ww_dup dX9_next_179 rfl ?_
          refine mm_geti dX9_next_180 fX9_204 rfl rfl ?_
          refine ww_iconst (v := 1) dX9_next_183 (by decide) ?_
          refine ww_iadd dX9_next_184 ?_
          refine mm_puti dX9_next_185 fX9_204 rfl rfl ?_
          refine ww_aload_n dX9_next_188 rfl rfl ?_
          refine ww_dup dX9_next_189 rfl ?_
          refine mm_geti dX9_next_190 fX9_190 rfl rfl ?_
          refine ww_iconst (v := 1) dX9_next_193 (by decide) ?_
          refine ww_iadd dX9_next_194 ?_
          refine mm_puti dX9_next_195 fX9_190 rfl rfl ?_
          refine ww_goto (tgt := 105) dX9_next_198 (by decide) ?_
          rw [in_c (a := 97) (b := 122) rfl rfl] at c132
          have eF : upd (upd (upd (upd F 6 (nI i)) 2 (nI (s + i))) 6 (nI i + 1)) 2 (nI (s + i) + 1) = upd (upd F 6 (nI (i + 1))) 2 (nI (s + (i + 1))) := by rw [nI_1, nI_1]; funext z; by_cases z2 : z = 2; simp [upd, z2]; rfl; by_cases z6 : z = 6; simp [upd, z6]; simp [upd, z2, z6]
          have eT : 32 * tlf (R 0) s i + (R 0 (s + i)).toInt64 - 96 = tlf (R 0) s (i + 1) := by rw [tlf, if_pos (Nat.not_le.mp (fun z => c142 ((w_le (show (6 : Int32) = nI 6 from rfl) (show _ = nI i from rfl) (by decide) (by omega)).mpr z)))]
          refine w_heap (mh_eq eF eT) ?_
          exact ih (i + 1) (by omega) (by omega) (by rw [← iS, scn_go e0 (wb_ne0.mp c132)]; rfl)
set_option maxHeartbeats 4000000 in
theorem L9_next3 {x x2 : Int32} {L s e : Nat} {X : wX} {Z : State → Prop} (hL : x = nI L) (hL2 : L ≤ 300) (hk : ∀ i, e = s + i → WW G mX9_next cX9_next X Z 423 [some (.ref m), some (.int x), some (.int x2), none] [] (mh m (upd F 2 (nI (s + i))) (tdf (R 0) s i) R NL h0, sz) 0 0) : ∀ (n i : Nat), L - (s + i) < n → s + i ≤ L → scn isDg (R 0) L (L - (s + i)) (s + i) = e → WW G mX9_next cX9_next X Z 287 [some (.ref m), some (.int x), some (.int x2), none] [] (mh m (upd F 2 (nI (s + i))) (tdf (R 0) s i) R NL h0, sz) 0 0 := by
  intro n
  induction n with
  | zero => intro i hn; exact absurd hn (by omega)
  | succ n ih =>
    intro i hn hq iS
    refine ww_aload_n dX9_next_287 rfl rfl ?_
    refine mm_geti dX9_next_288 fX9_190 rfl rfl ?_
    refine ww_iload_n dX9_next_291 rfl rfl ?_
    refine ww_icmp_ge (tgt := 423) dX9_next_292 (by decide) (fun c292 => ?_) (fun c292 => ?_)
    · have e1 := (w_le hL (w_upd_self F 2 (nI (s + i))) (by omega) (by omega)).mp c292
      have e2 : e = s + i := by rw [← iS]; exact scn_stop (fun z => absurd z.1 (by omega)) _
      exact hk i e2
    · have e0 : s + i < L := by rcases Nat.lt_or_ge (s + i) L with z | z; exact z; exact absurd ((w_le hL (w_upd_self F 2 (nI (s + i))) (by omega) (by omega)).mpr z) c292
      refine ww_aload_n dX9_next_295 rfl rfl ?_
      refine mm_getr dX9_next_296 fX9_7 rfl ?_
      refine ww_aload_n dX9_next_299 rfl rfl ?_
      refine mm_geti dX9_next_300 fX9_190 rfl rfl ?_
      refine mm_bald dX9_next_303 rfl (w_upd_self _ _ _) (by omega) rfl rfl ?_
      refine ww_i2l dX9_next_304 ?_
      refine ww_ldc2 dX9_next_305 qX9_215 ?_
      refine ww_ldc2 dX9_next_308 qX9_217 ?_
      refine ww_calls1 dX9_next_311 kX9_177 c9_in rfl rfl rfl rfl rfl rfl (Nat.zero_le _) (Nat.zero_le _) ?_
      refine ww_if_eq (tgt := 423) dX9_next_314 (by decide) (fun c314 => ?_) (fun c314 => ?_)
      · rw [in_c (a := 48) (b := 57) rfl rfl] at c314
        have e2 : e = s + i := by rw [← iS]; exact scn_stop (fun z => absurd z.2 (wb_nt (wb_eq0.mp c314))) _
        exact hk i e2
      · refine ww_aload_n dX9_next_317 rfl rfl ?_
        refine ww_aload_n dX9_next_318 rfl rfl ?_
        refine mm_getl dX9_next_319 fX9_193 ?_
        refine ww_ldc2 dX9_next_322 qX9_219 ?_
        refine ww_lcmp dX9_next_325 ?_
        refine ww_if_le (tgt := 335) dX9_next_326 (by decide) (fun c326 => ?_) (fun c326 => ?_)
        · refine ww_ldc2 dX9_next_335 qX9_223 ?_
          refine ww_aload_n dX9_next_338 rfl rfl ?_
          refine mm_getl dX9_next_339 fX9_193 ?_
          refine ww_lmul dX9_next_342 ?_
          refine ww_aload_n dX9_next_343 rfl rfl ?_
          refine mm_getr dX9_next_344 fX9_7 rfl ?_
          refine ww_aload_n dX9_next_347 rfl rfl ?_
          refine mm_geti dX9_next_348 fX9_190 rfl rfl ?_
          refine mm_bald dX9_next_351 rfl (w_upd_self _ _ _) (by omega) rfl rfl ?_
          refine ww_i2l dX9_next_352 ?_
          refine ww_ladd dX9_next_353 ?_
          refine ww_ldc2 dX9_next_354 qX9_215 ?_
          refine ww_lsub dX9_next_357 ?_
          refine mm_putl dX9_next_358 fX9_193 ?_
          refine ww_aload_n dX9_next_361 rfl rfl ?_
          refine ww_dup dX9_next_362 rfl ?_
          refine mm_geti dX9_next_363 fX9_190 rfl rfl ?_
          refine ww_iconst (v := 1) dX9_next_366 (by decide) ?_
          refine ww_iadd dX9_next_367 ?_
          refine mm_puti dX9_next_368 fX9_190 rfl rfl ?_
          refine ww_goto (tgt := 287) dX9_next_371 (by decide) ?_
          rw [in_c (a := 48) (b := 57) rfl rfl] at c314
          have eF : upd (upd F 2 (nI (s + i))) 2 (nI (s + i) + 1) = upd F 2 (nI (s + (i + 1))) := by rw [nI_1, w_upd_upd]; rfl
          have eT : 10 * tdf (R 0) s i + (R 0 (s + i)).toInt64 - 48 = tdf (R 0) s (i + 1) := by rw [tdf, if_neg (fun z => Int32.not_lt.mpr c326 ((lgc_gt _ _).mpr z))]
          refine w_heap (mh_eq eF eT) ?_
          exact ih (i + 1) (by omega) (by omega) (by rw [← iS, scn_go e0 (wb_ne0.mp c314)]; rfl)
        · refine ww_ldc2 dX9_next_329 qX9_221 ?_
          refine ww_goto (tgt := 358) dX9_next_332 (by decide) ?_
          refine mm_putl dX9_next_358 fX9_193 ?_
          refine ww_aload_n dX9_next_361 rfl rfl ?_
          refine ww_dup dX9_next_362 rfl ?_
          refine mm_geti dX9_next_363 fX9_190 rfl rfl ?_
          refine ww_iconst (v := 1) dX9_next_366 (by decide) ?_
          refine ww_iadd dX9_next_367 ?_
          refine mm_puti dX9_next_368 fX9_190 rfl rfl ?_
          refine ww_goto (tgt := 287) dX9_next_371 (by decide) ?_
          rw [in_c (a := 48) (b := 57) rfl rfl] at c314
          have eF : upd (upd F 2 (nI (s + i))) 2 (nI (s + i) + 1) = upd F 2 (nI (s + (i + 1))) := by rw [nI_1, w_upd_upd]; rfl
          have eT : 10000 = tdf (R 0) s (i + 1) := by rw [tdf, if_pos ((lgc_gt _ _).mp (Int32.not_le.mp c326))]
          refine w_heap (mh_eq eF eT) ?_
          exact ih (i + 1) (by omega) (by omega) (by rw [← iS, scn_go e0 (wb_ne0.mp c314)]; rfl)
set_option maxHeartbeats 4000000 in
theorem c9_next {x : Int32} {L p : Nat} (hL : x = nI L) (hL2 : L ≤ 300) (hp : F 2 = nI p) (hpL : p ≤ L) : Sat G mX9_next [.ref m, .int x] (mh m F tl R NL h0, sz) (Det none (mh m (nxF (R 0) L p F) (nxT (R 0) L p) R NL h0, sz)) := by
  refine Sat.of (by decide) [some (.ref m), some (.int x), none, none] rfl rfl (fun X => ?_)
  obtain ⟨s, hs⟩ : ∃ s, s = nS (R 0) L p := ⟨_, rfl⟩
  have hsL : s ≤ L := by rw [hs]; exact (scn_le _ _ hpL).2
  refine w_heap (mh_eq (w_upd_id hp).symm rfl) ?_
  refine L9_next1 (s := s) hL hL2 ?_ (L + 1) p (by omega) hpL hs.symm
  refine ww_aload_n dX9_next_49 rfl rfl ?_
  refine ww_aload_n dX9_next_50 rfl rfl ?_
  refine mm_geti dX9_next_51 fX9_190 rfl rfl ?_
  refine mm_puti dX9_next_54 fX9_184 rfl rfl ?_
  refine ww_aload_n dX9_next_57 rfl rfl ?_
  refine ww_lconst (v := 0) dX9_next_58 (by decide) ?_
  refine mm_putl dX9_next_59 fX9_193 ?_
  refine ww_aload_n dX9_next_62 rfl rfl ?_
  refine mm_geti dX9_next_63 fX9_190 rfl rfl ?_
  refine ww_iload_n dX9_next_66 rfl rfl ?_
  refine ww_icmp_ne (tgt := 76) dX9_next_67 (by decide) (fun c67 => ?_) (fun c67 => ?_)
  · have hsl : ¬ s = L := fun z => c67 (show nI s = x by rw [hL, z])
    refine ww_aload_n dX9_next_76 rfl rfl ?_
    refine mm_getr dX9_next_77 fX9_7 rfl ?_
    refine ww_aload_n dX9_next_80 rfl rfl ?_
    refine mm_geti dX9_next_81 fX9_190 rfl rfl ?_
    refine mm_bald dX9_next_84 rfl (show _ = nI s from rfl) (by omega) rfl rfl ?_
    refine ww_istore_n dX9_next_85 rfl rfl rfl ?_
    refine ww_iload_n dX9_next_86 rfl rfl ?_
    refine ww_i2l dX9_next_87 ?_
    refine ww_ldc2 dX9_next_88 qX9_200 ?_
    refine ww_ldc2 dX9_next_91 qX9_202 ?_
    refine ww_calls1 dX9_next_94 kX9_177 c9_in rfl rfl rfl rfl rfl rfl (Nat.zero_le _) (Nat.zero_le _) ?_
    refine ww_if_eq (tgt := 268) dX9_next_97 (by decide) (fun c97 => ?_) (fun c97 => ?_)
    · have hlt : isLt (R 0 s) = false := wb_eq0.mp (by rw [in_c (a := 97) (b := 122) rfl rfl] at c97; exact c97)
      refine ww_iload_n dX9_next_268 rfl rfl ?_
      refine ww_i2l dX9_next_269 ?_
      refine ww_ldc2 dX9_next_270 qX9_215 ?_
      refine ww_ldc2 dX9_next_273 qX9_217 ?_
      refine ww_calls1 dX9_next_276 kX9_177 c9_in rfl rfl rfl rfl rfl rfl (Nat.zero_le _) (Nat.zero_le _) ?_
      refine ww_if_eq (tgt := 374) dX9_next_279 (by decide) (fun c279 => ?_) (fun c279 => ?_)
      · have hdg : isDg (R 0 s) = false := wb_eq0.mp (by rw [in_c (a := 48) (b := 57) rfl rfl] at c279; exact c279)
        refine ww_aload_n dX9_next_374 rfl rfl ?_
        refine ww_dup dX9_next_375 rfl ?_
        refine mm_geti dX9_next_376 fX9_190 rfl rfl ?_
        refine ww_iconst (v := 1) dX9_next_379 (by decide) ?_
        refine ww_iadd dX9_next_380 ?_
        refine mm_puti dX9_next_381 fX9_190 rfl rfl ?_
        refine ww_aload_n dX9_next_384 rfl rfl ?_
        refine ww_iload_n dX9_next_385 rfl rfl ?_
        refine ww_i2l dX9_next_386 ?_
        refine mm_putl dX9_next_387 fX9_193 ?_
        refine ww_aload_n dX9_next_390 rfl rfl ?_
        refine ww_iload_n dX9_next_391 rfl rfl ?_
        refine ww_bipush (v := 123) dX9_next_392 (by decide) ?_
        refine ww_icmp_eq (tgt := 415) dX9_next_394 (by decide) (fun c394 => ?_) (fun c394 => ?_)
        · refine ww_iconst (v := 4) dX9_next_415 (by decide) ?_
          refine ww_goto (tgt := 420) dX9_next_416 (by decide) ?_
          refine mm_puti dX9_next_420 fX9_197 rfl rfl ?_
          exact ww_vret dX9_next_423 rfl ⟨rfl, mh_eq (nx_fin hs (by rw [(tk_sgn (x := 0) hsl hlt hdg).1, ← nI_1]; rfl) rfl (by rw [(tk_sgn (x := 0) hsl hlt hdg).2.1, show isSg (R 0 s) = true by simp [isSg, c394], if_pos rfl]; rfl) (by rw [(tk_sgn hsl hlt hdg).2.2.2]; rfl) (fun k a2 a3 a4 a6 => by simp [upd, a2, a3, a4, a6])) (by unfold nxT; rw [← hs, (tk_sgn (x := 0) hsl hlt hdg).2.2.1])⟩ (Nat.zero_le _) (Nat.zero_le _)
        · refine ww_iload_n dX9_next_397 rfl rfl ?_
          refine ww_bipush (v := 125) dX9_next_398 (by decide) ?_
          refine ww_icmp_eq (tgt := 415) dX9_next_400 (by decide) (fun c400 => ?_) (fun c400 => ?_)
          · refine ww_iconst (v := 4) dX9_next_415 (by decide) ?_
            refine ww_goto (tgt := 420) dX9_next_416 (by decide) ?_
            refine mm_puti dX9_next_420 fX9_197 rfl rfl ?_
            exact ww_vret dX9_next_423 rfl ⟨rfl, mh_eq (nx_fin hs (by rw [(tk_sgn (x := 0) hsl hlt hdg).1, ← nI_1]; rfl) rfl (by rw [(tk_sgn (x := 0) hsl hlt hdg).2.1, show isSg (R 0 s) = true by simp [isSg, c400], if_pos rfl]; rfl) (by rw [(tk_sgn hsl hlt hdg).2.2.2]; rfl) (fun k a2 a3 a4 a6 => by simp [upd, a2, a3, a4, a6])) (by unfold nxT; rw [← hs, (tk_sgn (x := 0) hsl hlt hdg).2.2.1])⟩ (Nat.zero_le _) (Nat.zero_le _)
          · refine ww_iload_n dX9_next_403 rfl rfl ?_
            refine ww_bipush (v := 59) dX9_next_404 (by decide) ?_
            refine ww_icmp_eq (tgt := 415) dX9_next_406 (by decide) (fun c406 => ?_) (fun c406 => ?_)
            · refine ww_iconst (v := 4) dX9_next_415 (by decide) ?_
              refine ww_goto (tgt := 420) dX9_next_416 (by decide) ?_
              refine mm_puti dX9_next_420 fX9_197 rfl rfl ?_
              exact ww_vret dX9_next_423 rfl ⟨rfl, mh_eq (nx_fin hs (by rw [(tk_sgn (x := 0) hsl hlt hdg).1, ← nI_1]; rfl) rfl (by rw [(tk_sgn (x := 0) hsl hlt hdg).2.1, show isSg (R 0 s) = true by simp [isSg, c406], if_pos rfl]; rfl) (by rw [(tk_sgn hsl hlt hdg).2.2.2]; rfl) (fun k a2 a3 a4 a6 => by simp [upd, a2, a3, a4, a6])) (by unfold nxT; rw [← hs, (tk_sgn (x := 0) hsl hlt hdg).2.2.1])⟩ (Nat.zero_le _) (Nat.zero_le _)
            · refine ww_iload_n dX9_next_409 rfl rfl ?_
              refine ww_bipush (v := 60) dX9_next_410 (by decide) ?_
              refine ww_icmp_ne (tgt := 419) dX9_next_412 (by decide) (fun c412 => ?_) (fun c412 => ?_)
              · refine ww_iconst (v := 5) dX9_next_419 (by decide) ?_
                refine mm_puti dX9_next_420 fX9_197 rfl rfl ?_
                exact ww_vret dX9_next_423 rfl ⟨rfl, mh_eq (nx_fin hs (by rw [(tk_sgn (x := 0) hsl hlt hdg).1, ← nI_1]; rfl) rfl (by rw [(tk_sgn (x := 0) hsl hlt hdg).2.1, show isSg (R 0 s) = false by simp [isSg, c394, c400, c406, c412], if_neg (by decide)]; rfl) (by rw [(tk_sgn hsl hlt hdg).2.2.2]; rfl) (fun k a2 a3 a4 a6 => by simp [upd, a2, a3, a4, a6])) (by unfold nxT; rw [← hs, (tk_sgn (x := 0) hsl hlt hdg).2.2.1])⟩ (Nat.zero_le _) (Nat.zero_le _)
              · refine ww_iconst (v := 4) dX9_next_415 (by decide) ?_
                refine ww_goto (tgt := 420) dX9_next_416 (by decide) ?_
                refine mm_puti dX9_next_420 fX9_197 rfl rfl ?_
                exact ww_vret dX9_next_423 rfl ⟨rfl, mh_eq (nx_fin hs (by rw [(tk_sgn (x := 0) hsl hlt hdg).1, ← nI_1]; rfl) rfl (by rw [(tk_sgn (x := 0) hsl hlt hdg).2.1, show isSg (R 0 s) = true by simp [isSg, c412], if_pos rfl]; rfl) (by rw [(tk_sgn hsl hlt hdg).2.2.2]; rfl) (fun k a2 a3 a4 a6 => by simp [upd, a2, a3, a4, a6])) (by unfold nxT; rw [← hs, (tk_sgn (x := 0) hsl hlt hdg).2.2.1])⟩ (Nat.zero_le _) (Nat.zero_le _)
      · have hdg : isDg (R 0 s) = true := wb_ne0.mp (by rw [in_c (a := 48) (b := 57) rfl rfl] at c279; exact c279)
        refine ww_aload_n dX9_next_282 rfl rfl ?_
        refine ww_iconst (v := 3) dX9_next_283 (by decide) ?_
        refine mm_puti dX9_next_284 fX9_197 rfl rfl ?_
        refine w_heap (mh_eq (F2 := upd (upd (upd (upd F 2 (nI s)) 3 (nI s)) 4 3) 2 (nI (s + 0))) (tl2 := tdf (R 0) s 0) (w_upd_id (f := upd (upd (upd F 2 (nI s)) 3 (nI s)) 4 3) (k := 2) rfl).symm rfl) ?_
        refine L9_next3 (e := nE (R 0) L s) hL hL2 (fun i hi => ?_) (L + 1) 0 (by omega) (by omega) (nE_dig hsl hlt hdg)
        exact ww_vret dX9_next_423 rfl ⟨rfl, mh_eq (nx_fin hs (by rw [hi]; rfl) rfl (by rw [(tk_dig (x := 0) hsl hlt hdg hi).1]; rfl) (by rw [(tk_dig hsl hlt hdg hi).2.2]; rfl) (fun k a2 a3 a4 a6 => by simp [upd, a2, a3, a4, a6])) (by unfold nxT; rw [← hs, (tk_dig (x := 0) hsl hlt hdg hi).2.1])⟩ (Nat.zero_le _) (Nat.zero_le _)
    · have hlt : isLt (R 0 s) = true := wb_ne0.mp (by rw [in_c (a := 97) (b := 122) rfl rfl] at c97; exact c97)
      refine ww_aload_n dX9_next_100 rfl rfl ?_
      refine ww_iconst (v := 0) dX9_next_101 (by decide) ?_
      refine mm_puti dX9_next_102 fX9_204 rfl rfl ?_
      refine w_heap (mh_eq (F2 := upd (upd (upd (upd F 2 (nI s)) 3 (nI s)) 6 (nI 0)) 2 (nI (s + 0))) (tl2 := tlf (R 0) s 0) (w_upd_id (f := upd (upd (upd F 2 (nI s)) 3 (nI s)) 6 (nI 0)) (k := 2) rfl).symm rfl) ?_
      refine L9_next2 (e := nE (R 0) L s) hL hL2 (fun i hi => ?_) (L + 1) 0 (by omega) (by omega) (nE_let hsl hlt)
      have hil : s + i ≤ L := by rw [← hi, ← nE_let hsl hlt]; exact (scn_le _ _ (by omega)).2
      refine ww_aload_n dX9_next_201 rfl rfl ?_
      refine mm_geti dX9_next_202 fX9_204 rfl rfl ?_
      refine ww_iconst (v := 5) dX9_next_205 (by decide) ?_
      refine ww_icmp_le (tgt := 213) dX9_next_206 (by decide) (fun c206 => ?_) (fun c206 => ?_)
      · have hi5 : i ≤ 5 := (nI_leI (b := 5) (by omega) (by decide)).mp (show nI i ≤ nI 5 from c206)
        refine ww_aload_n dX9_next_213 rfl rfl ?_
        refine mm_getl dX9_next_214 fX9_193 ?_
        refine ww_l2i dX9_next_217 ?_
        refine ww_calls1 dX9_next_218 kX9_211 c9_wordOf rfl rfl rfl rfl rfl rfl (Nat.zero_le _) (Nat.zero_le _) ?_
        refine ww_istore_n dX9_next_221 rfl rfl rfl ?_
        refine ww_aload_n dX9_next_222 rfl rfl ?_
        refine ww_iload_n dX9_next_223 rfl rfl ?_
        refine ww_if_lt (tgt := 231) dX9_next_224 (by decide) (fun c224 => ?_) (fun c224 => ?_)
        · refine ww_aload_n dX9_next_231 rfl rfl ?_
          refine mm_geti dX9_next_232 fX9_204 rfl rfl ?_
          refine ww_bipush (v := 6) dX9_next_235 (by decide) ?_
          refine ww_icmp_le (tgt := 244) dX9_next_237 (by decide) (fun c237 => ?_) (fun c237 => ?_)
          · have hi6 : i ≤ 6 := (nI_leI (b := 6) (by omega) (by decide)).mp (show nI i ≤ nI 6 from c237)
            refine ww_iconst (v := 1) dX9_next_244 (by decide) ?_
            refine mm_puti dX9_next_245 fX9_197 rfl rfl ?_
            refine ww_aload_n dX9_next_248 rfl rfl ?_
            refine ww_iload_n dX9_next_249 rfl rfl ?_
            refine ww_if_lt (tgt := 258) dX9_next_250 (by decide) (fun c250 => ?_) (fun c250 => ?_)
            · refine ww_aload_n dX9_next_258 rfl rfl ?_
              refine mm_getl dX9_next_259 fX9_193 ?_
              refine mm_putl dX9_next_262 fX9_193 ?_
              refine ww_goto (tgt := 423) dX9_next_265 (by decide) ?_
              exact ww_vret dX9_next_423 rfl ⟨rfl, mh_eq (nx_fin hs (by rw [hi]; rfl) rfl (by rw [(tk_let (x := 0) hsl hlt hi).1, show wdK (R 0) s i = wdM (tlf (R 0) s i).toInt32 by rw [wdK, if_pos hi5], if_pos c224, if_pos hi6]; rfl) (by rw [(tk_let hsl hlt hi).2.2]; rfl) (fun k a2 a3 a4 a6 => by simp [upd, a2, a3, a4, a6])) (by unfold nxT; rw [← hs, (tk_let (x := 0) hsl hlt hi).2.1, show wdK (R 0) s i = wdM (tlf (R 0) s i).toInt32 by rw [wdK, if_pos hi5], if_pos c224])⟩ (Nat.zero_le _) (Nat.zero_le _)
            · exact absurd c250 (fun q => q c224)
          · have hi6 : ¬ i ≤ 6 := fun z => c237 (show nI i ≤ nI 6 from (nI_leI (by omega) (by decide)).mpr z)
            refine ww_iconst (v := 5) dX9_next_240 (by decide) ?_
            refine ww_goto (tgt := 245) dX9_next_241 (by decide) ?_
            refine mm_puti dX9_next_245 fX9_197 rfl rfl ?_
            refine ww_aload_n dX9_next_248 rfl rfl ?_
            refine ww_iload_n dX9_next_249 rfl rfl ?_
            refine ww_if_lt (tgt := 258) dX9_next_250 (by decide) (fun c250 => ?_) (fun c250 => ?_)
            · refine ww_aload_n dX9_next_258 rfl rfl ?_
              refine mm_getl dX9_next_259 fX9_193 ?_
              refine mm_putl dX9_next_262 fX9_193 ?_
              refine ww_goto (tgt := 423) dX9_next_265 (by decide) ?_
              exact ww_vret dX9_next_423 rfl ⟨rfl, mh_eq (nx_fin hs (by rw [hi]; rfl) rfl (by rw [(tk_let (x := 0) hsl hlt hi).1, show wdK (R 0) s i = wdM (tlf (R 0) s i).toInt32 by rw [wdK, if_pos hi5], if_pos c224, if_neg hi6]; rfl) (by rw [(tk_let hsl hlt hi).2.2]; rfl) (fun k a2 a3 a4 a6 => by simp [upd, a2, a3, a4, a6])) (by unfold nxT; rw [← hs, (tk_let (x := 0) hsl hlt hi).2.1, show wdK (R 0) s i = wdM (tlf (R 0) s i).toInt32 by rw [wdK, if_pos hi5], if_pos c224])⟩ (Nat.zero_le _) (Nat.zero_le _)
            · exact absurd c250 (fun q => q c224)
        · refine ww_iconst (v := 2) dX9_next_227 (by decide) ?_
          refine ww_goto (tgt := 245) dX9_next_228 (by decide) ?_
          refine mm_puti dX9_next_245 fX9_197 rfl rfl ?_
          refine ww_aload_n dX9_next_248 rfl rfl ?_
          refine ww_iload_n dX9_next_249 rfl rfl ?_
          refine ww_if_lt (tgt := 258) dX9_next_250 (by decide) (fun c250 => ?_) (fun c250 => ?_)
          · exact absurd c250 c224
          · refine ww_iload_n dX9_next_253 rfl rfl ?_
            refine ww_i2l dX9_next_254 ?_
            refine ww_goto (tgt := 262) dX9_next_255 (by decide) ?_
            refine mm_putl dX9_next_262 fX9_193 ?_
            refine ww_goto (tgt := 423) dX9_next_265 (by decide) ?_
            exact ww_vret dX9_next_423 rfl ⟨rfl, mh_eq (nx_fin hs (by rw [hi]; rfl) rfl (by rw [(tk_let (x := 0) hsl hlt hi).1, show wdK (R 0) s i = wdM (tlf (R 0) s i).toInt32 by rw [wdK, if_pos hi5], if_neg c224]; rfl) (by rw [(tk_let hsl hlt hi).2.2]; rfl) (fun k a2 a3 a4 a6 => by simp [upd, a2, a3, a4, a6])) (by unfold nxT; rw [← hs, (tk_let (x := 0) hsl hlt hi).2.1, show wdK (R 0) s i = wdM (tlf (R 0) s i).toInt32 by rw [wdK, if_pos hi5], if_neg c224])⟩ (Nat.zero_le _) (Nat.zero_le _)
      · have hi5 : ¬ i ≤ 5 := fun z => c206 (show nI i ≤ nI 5 from (nI_leI (by omega) (by decide)).mpr z)
        refine ww_iconst (v := -1) dX9_next_209 (by decide) ?_
        refine ww_goto (tgt := 221) dX9_next_210 (by decide) ?_
        refine ww_istore_n dX9_next_221 rfl rfl rfl ?_
        refine ww_aload_n dX9_next_222 rfl rfl ?_
        refine ww_iload_n dX9_next_223 rfl rfl ?_
        refine ww_if_lt (tgt := 231) dX9_next_224 (by decide) (fun c224 => ?_) (fun c224 => ?_)
        · refine ww_aload_n dX9_next_231 rfl rfl ?_
          refine mm_geti dX9_next_232 fX9_204 rfl rfl ?_
          refine ww_bipush (v := 6) dX9_next_235 (by decide) ?_
          refine ww_icmp_le (tgt := 244) dX9_next_237 (by decide) (fun c237 => ?_) (fun c237 => ?_)
          · have hi6 : i ≤ 6 := (nI_leI (b := 6) (by omega) (by decide)).mp (show nI i ≤ nI 6 from c237)
            refine ww_iconst (v := 1) dX9_next_244 (by decide) ?_
            refine mm_puti dX9_next_245 fX9_197 rfl rfl ?_
            refine ww_aload_n dX9_next_248 rfl rfl ?_
            refine ww_iload_n dX9_next_249 rfl rfl ?_
            refine ww_if_lt (tgt := 258) dX9_next_250 (by decide) (fun c250 => ?_) (fun c250 => ?_)
            · refine ww_aload_n dX9_next_258 rfl rfl ?_
              refine mm_getl dX9_next_259 fX9_193 ?_
              refine mm_putl dX9_next_262 fX9_193 ?_
              refine ww_goto (tgt := 423) dX9_next_265 (by decide) ?_
              exact ww_vret dX9_next_423 rfl ⟨rfl, mh_eq (nx_fin hs (by rw [hi]; rfl) rfl (by rw [(tk_let (x := 0) hsl hlt hi).1, show wdK (R 0) s i = -1 by rw [wdK, if_neg hi5], if_pos (show (-1 : Int32) < 0 by decide), if_pos hi6]; rfl) (by rw [(tk_let hsl hlt hi).2.2]; rfl) (fun k a2 a3 a4 a6 => by simp [upd, a2, a3, a4, a6])) (by unfold nxT; rw [← hs, (tk_let (x := 0) hsl hlt hi).2.1, show wdK (R 0) s i = -1 by rw [wdK, if_neg hi5], if_pos (show (-1 : Int32) < 0 by decide)])⟩ (Nat.zero_le _) (Nat.zero_le _)
            · exact absurd c250 (fun q => q (by decide))
          · have hi6 : ¬ i ≤ 6 := fun z => c237 (show nI i ≤ nI 6 from (nI_leI (by omega) (by decide)).mpr z)
            refine ww_iconst (v := 5) dX9_next_240 (by decide) ?_
            refine ww_goto (tgt := 245) dX9_next_241 (by decide) ?_
            refine mm_puti dX9_next_245 fX9_197 rfl rfl ?_
            refine ww_aload_n dX9_next_248 rfl rfl ?_
            refine ww_iload_n dX9_next_249 rfl rfl ?_
            refine ww_if_lt (tgt := 258) dX9_next_250 (by decide) (fun c250 => ?_) (fun c250 => ?_)
            · refine ww_aload_n dX9_next_258 rfl rfl ?_
              refine mm_getl dX9_next_259 fX9_193 ?_
              refine mm_putl dX9_next_262 fX9_193 ?_
              refine ww_goto (tgt := 423) dX9_next_265 (by decide) ?_
              exact ww_vret dX9_next_423 rfl ⟨rfl, mh_eq (nx_fin hs (by rw [hi]; rfl) rfl (by rw [(tk_let (x := 0) hsl hlt hi).1, show wdK (R 0) s i = -1 by rw [wdK, if_neg hi5], if_pos (show (-1 : Int32) < 0 by decide), if_neg hi6]; rfl) (by rw [(tk_let hsl hlt hi).2.2]; rfl) (fun k a2 a3 a4 a6 => by simp [upd, a2, a3, a4, a6])) (by unfold nxT; rw [← hs, (tk_let (x := 0) hsl hlt hi).2.1, show wdK (R 0) s i = -1 by rw [wdK, if_neg hi5], if_pos (show (-1 : Int32) < 0 by decide)])⟩ (Nat.zero_le _) (Nat.zero_le _)
            · exact absurd c250 (fun q => q (by decide))
        · exact absurd c224 (fun q => q (by decide))
  · have hsl : s = L := (nI_eq (by omega) (by omega)).mp ((show nI s = x from c67).trans hL)
    refine ww_aload_n dX9_next_70 rfl rfl ?_
    refine ww_iconst (v := 0) dX9_next_71 (by decide) ?_
    refine mm_puti dX9_next_72 fX9_197 rfl rfl ?_
    exact ww_vret dX9_next_75 rfl ⟨rfl, mh_eq (nx_fin hs (by rw [show nE (R 0) L s = s from by unfold nE; rw [if_pos hsl]]; rfl) rfl (by unfold tSo; rw [if_pos hsl]; rfl) (by unfold tLe; rw [if_pos hsl]; rfl) (fun k a2 a3 a4 a6 => by simp [upd, a2, a3, a4, a6])) (by unfold nxT tTo; rw [← hs, if_pos hsl])⟩ (Nat.zero_le _) (Nat.zero_le _)
end M11
