/-! Returns, calls, a contract out of a walk. -/
def wZ (G : wG) (M : wM) (X : wX) (Q : Option Value → wH → Prop) : State → Prop := match X with
  | (_, _, _, s, _, args, below, _, _) => MQ below (wQc G Q) args s M.2.2.2.2.2.1 M.2.2.2.2.2.2 (wA G)
section WRet
variable {G : wG} {M : wM} {cc : ByteArray} {X : wX} {Z : State → Prop} {Q : Option Value → wH → Prop} {pc : Nat} {lv : List (Option Value)} {st : List Value} {h : wH} {k n : Nat}
theorem w_post {s t : State} {H : Heap} {locs : List Loc} {args : Array Value} {v : Option Value} (hq : Q v h) (hR : wRel G h s H) (hS : va_S (wA G) s.heap H locs) (ht : t.heap = H) (hW : s.WarmedH t.vm) : wQc G Q args s (.returned v) t :=
  ⟨v, h, rfl, hq, by rw [ht]; exact hR.moved hW.alike, hS.F ht⟩
theorem ww_iret {v : Int32} (hd : decode cc pc = .ok (.ireturn, 1)) (hret : M.2.2.2.1 = some .int) (hq : Q (some (.int v)) h) (hk : k ≤ M.2.2.2.2.2.1) (hn : n ≤ M.2.2.2.2.2.2) : WW G M cc X (wZ G M X Q) pc lv [.int v] h k n := by
  obtain ⟨p, e, R, s, m, args, below, meth, c⟩ := X
  intro O H locs ls hR hS hl
  obtain ⟨hx, hb, hml, hr, hown, hts, hlk, hnm, hK, hroom, hB, hE, hSt⟩ := O
  refine W.widen hk hn ?_
  exact W.iret hx hb (hr.trans hret) (fun t ht hW => w_post hq hR hS ht hW) hS.2.2 hd
theorem w_nb {v : Int32} (h : v = 0 ∨ v = 1) : narrow .boolean (.int v) = .int v := by
  rcases h with h | h <;> subst h <;> rfl
theorem w_fb {v : Int32} (h : v = 0 ∨ v = 1) : fits .boolean (.int v) = true := by
  rcases h with h | h <;> subst h <;> decide
theorem ww_zret {v : Int32} (hd : decode cc pc = .ok (.ireturn, 1)) (hret : M.2.2.2.1 = some .boolean) (hz : v = 0 ∨ v = 1) (hq : Q (some (.int v)) h) (hk : k ≤ M.2.2.2.2.2.1) (hn : n ≤ M.2.2.2.2.2.2) : WW G M cc X (wZ G M X Q) pc lv [.int v] h k n := by
  obtain ⟨p, e, R, s, m, args, below, meth, c⟩ := X
  intro O H locs ls hR hS hl
  obtain ⟨hx, hb, hml, hr, hown, hts, hlk, hnm, hK, hroom, hB, hE, hSt⟩ := O
  refine W.widen hk hn ?_
  exact W.zret hx hb (hr.trans hret) (w_nb hz) (fun t ht hW => w_post hq hR hS ht hW) hS.2.2 hd
theorem ww_vret (hd : decode cc pc = .ok (.return_, 1)) (hret : M.2.2.2.1 = none) (hq : Q none h) (hk : k ≤ M.2.2.2.2.2.1) (hn : n ≤ M.2.2.2.2.2.2) : WW G M cc X (wZ G M X Q) pc lv [] h k n := by
  obtain ⟨p, e, R, s, m, args, below, meth, c⟩ := X
  intro O H locs ls hR hS hl
  obtain ⟨hx, hb, hml, hr, hown, hts, hlk, hnm, hK, hroom, hB, hE, hSt⟩ := O
  refine W.widen hk hn ?_
  exact W.vret hx hb (hr.trans hret) (fun t ht hW => w_post hq hR hS ht hW) hS.2.2 hd
theorem ww_aret {v : Value} {Cn : String} (hd : decode cc pc = .ok (.areturn, 1)) (hret : M.2.2.2.1 = some (.object Cn)) (hv : v = .null ∨ ∃ a, v = .ref a) (hq : Q (some v) h) (hk : k ≤ M.2.2.2.2.2.1) (hn : n ≤ M.2.2.2.2.2.2) : WW G M cc X (wZ G M X Q) pc lv [v] h k n := by
  obtain ⟨p, e, R, s, m, args, below, meth, c⟩ := X
  intro O H locs ls hR hS hl
  obtain ⟨hx, hb, hml, hr, hown, hts, hlk, hnm, hK, hroom, hB, hE, hSt⟩ := O
  refine W.widen hk hn ?_
  exact W.aret hx hb (hr.trans hret) (Or.inl ⟨_, rfl⟩) hv (fun t ht hW => w_post hq hR hS ht hW) hS.2.2 hd
end WRet
theorem Sat.of {G : wG} {y : MethodName} {cc : ByteArray} {maxL lev mc ms : Nat} {ret : Option FieldType} {av : List Value} {h : wH} {Q : Option Value → wH → Prop} (hy : plainName y.cls = true) (lv0 : List (Option Value)) (hlv : wl 0 lv0 = lv_args 0 av) (hlen : Nat.ble (lg_sl av).length maxL = true) (body : ∀ X : wX, WW G (y, cc, maxL, ret, lev, mc, ms) cc X (wZ G (y, cc, maxL, ret, lev, mc, ms) X Q) 0 lv0 [] h 0 0) : Sat G (y, cc, maxL, ret, lev, mc, ms) av h Q := by
  refine Met.ofW (cc := cc) (maxL := maxL) (ret := ret) hy rfl ?_
  intro p e s m args below meth c s₁ B hml hv
  obtain ⟨rfl, hR, hK, hE, hSt⟩ := hv
  have hts0 := atoms_spec (ws := wWs (y, cc, maxL, ret, lev, mc, ms)) B.pre
  have hl := lv_entry av (n := maxL) (Nat.le_of_ble_eq_true hlen)
  rw [lg_entry_eq]
  generalize (lg_sl av ++ List.replicate (maxL - (lg_sl av).length) Slot.unset).toArray = ls at hl ⊢
  rw [← hlv] at hl
  exact body (p, e, _, s, m, av.toArray, below, meth, c) ⟨B.exec, B.bytes, hml, B.returns, findClass_of_methodNamed B.named, fun w hw => hts0 w (List.mem_cons_of_mem _ hw), B.notSynchronized, (name_of_methodNamed B.named B.method).1, hK, ⟨Nat.le_refl _, Nat.le_refl _, rfl, rfl⟩, by rw [hR.1]; exact hR.2.1, hE, hSt⟩ s.heap [] ls hR va_S.rf hl
theorem Sat.mono {G : wG} {M : wM} {av : List Value} {h : wH} {Q Q' : Option Value → wH → Prop} (hs : Sat G M av h Q) (hq : ∀ v h', Q v h' → Q' v h') : Sat G M av h Q' := by
  intro p e
  intro a1 a2 a3 s m args below a4 a5 a6 a7
  obtain ⟨k, o, b1, b2, b3, ⟨v, h', c1, c2, c3⟩, b5⟩ := hs p e a1 a2 a3 s m args below a4 a5 a6 a7
  exact ⟨k, o, b1, b2, b3, ⟨v, h', c1, hq v h' c2, c3⟩, b5⟩
theorem tbl_good : wTb.all goodWord = true := List.all_eq_true.mpr fun w hw => (List.mem_filter.mp hw).2
theorem wGood {M : wM} (hc : Cond.code M.1 M.2.1 M.2.2.1 M.2.2.2.1 ∈ wTb) : GoodIn wTb (wWs M) := by
  intro w hw
  have hm : w ∈ wTb := by
    rcases List.mem_cons.mp hw with h | h
    · rw [h]; exact hc
    · exact h
  exact ⟨hm, good_of_word (List.all_eq_true.mp tbl_good w hm)⟩
/-- the words of a call: the pool index of class own names the method M of na parameters -/
def wCb (own : String) (index : Nat) (M : wM) (na : Nat) : Prop := Cond.methodLink own index M.1 ∈ wTb ∧ Cond.initialized M.1.cls ∈ wTb ∧ Cond.code M.1 M.2.1 M.2.2.1 M.2.2.2.1 ∈ wTb ∧ (M.1.cls ≠ "java/lang/invoke/MethodHandle" ∧ M.1.cls ≠ "java/lang/invoke/VarHandle" ∧ (parseMethodDescriptor M.1.desc).map (fun d => d.parameters.length) = some na)
def wCv (own : String) (index : Nat) (M : wM) (na : Nat) : Prop := wCb own index M na ∧ Cond.instanceMethod M.1 ∈ wTb ∧ Cond.selects M.1.cls M.1 M.1 ∈ wTb
def wCs (own : String) (index : Nat) (M : wM) (na : Nat) : Prop := wCb own index M na ∧ Cond.static M.1 ∈ wTb
def wCi (own : String) (index : Nat) (M : wM) (na : Nat) : Prop := wCb own index M na ∧ M.1.name = "<init>" ∧ Cond.instanceMethod M.1 ∈ wTb ∧ M.2.2.2.1 = none
theorem w_blind {G : wG} {h : wH} {av : List Value} : FrameBlind (va_Pc av (fun U => wRel G h U U.heap ∧ va_K G.2.1 wCl [] U ∧ G.2.2.2 U ∧ wStab G)) := by
  intro a U g mk q
  exact ⟨q.1, wRel.moved (U := U) (U2 := U.calling g mk a) (Vm.Alike.refl U.vm) q.2.1, va_K.moved (u := U) (U := U.calling g mk a) (Vm.Alike.refl U.vm) q.2.2.1, q.2.2.2.2 U (U.calling g mk a) (State.WarmedH.refl U) (fun _ _ => rfl) q.2.2.2.1, q.2.2.2.2⟩
theorem w_callB {G : wG} {M Mc : wM} {own : String} {index na : Nat} {R : Room} {s : State} {args : Array Value} (hts : ∀ w ∈ wTb, w.before args s = true) (L : wCb own index Mc na) (hlev : Mc.2.2.2.2.1 + 1 ≤ M.2.2.2.2.1) (hmx : Mc.2.2.1 ≤ 15) (hf : M.2.2.2.2.1 ≤ R.frames) (hlo : 34 * M.2.2.2.2.1 ≤ R.locals) : CallB R s args own index Mc.1 Mc.2.1 Mc.2.2.1 Mc.2.2.2.1 (wWs Mc) (wRm Mc.2.2.2.2.1 Mc.2.2.2.2.2.1 Mc.2.2.2.2.2.2) Mc.2.2.2.2.2.1 Mc.2.2.2.2.2.2 na :=
  callB_of na hts (wGood L.2.2.1) rfl rfl rfl (hts _ L.2.1) (hts _ L.1) L.2.2.2 ⟨by show Mc.2.2.2.2.1 + 1 ≤ _; omega, by show 8 + (Mc.2.2.1 + 11) + 34 * Mc.2.2.2.2.1 ≤ _; omega⟩
theorem w_keep {G : wG} {s U : State} {H : Heap} {locs : List Loc} (hSt : wStab G) (hE : G.2.2.2 s) (hB : G.2.2.1 ≤ s.heap.size) (hS : va_S (wA G) s.heap H locs) (hU : U.heap = H) (hvm : s.WarmedH U.vm) : G.2.2.2 U := hSt s U hvm (fun q hq => by rw [hU]; exact hS.2.1 q (Nat.lt_of_lt_of_le hq hB) (Nat.not_le.mpr hq)) hE
section WCall
variable {G : wG} {M Mc : wM} {cc : ByteArray} {X : wX} {Z : State → Prop} {Q : Option Value → wH → Prop} {pc : Nat} {lv : List (Option Value)} {st st0 As : List Value} {h : wH} {k n index na : Nat}
theorem w_after {p : Program} {e : Env} {R : Room} {s : State} {m : MethodId} {args : Array Value} {below : List Frame} {meth : Method} {c : Code} {H : Heap} {locs : List Loc} {ls : Array Slot} {a : Array Value} (O : wOk G M cc p R s m args meth c) (hR : wRel G h s H) (hS : va_S (wA G) s.heap H locs) (hl : lv_has ls M.2.2.1 (wl 0 lv))
    (hr : va_Run p G.1 e R s m args below meth c H locs k n Mc.2.2.2.2.2.1 Mc.2.2.2.2.2.2 (F0 m pc ls st0) st (wQc G Q a) (wA G))
    (kk : ∀ v h', Q v h' → WW G M cc (p, e, R, s, m, args, below, meth, c) Z (pc + 3) lv (v.toList ++ st) h' (k + Mc.2.2.2.2.2.1) (n + Mc.2.2.2.2.2.2)) : W p G.1 e R s m args below meth c H locs k n Z (F0 m pc ls st0) := by
  intro T hT Xs
  obtain ⟨v, st₀, t, T', L, h0, X', hL, e1, e2, ⟨v', h', hv, hq, hrel, hF⟩, go⟩ := hr T hT Xs
  cases hv
  have hal : s.vm.Alike t.vm := by rw [← e2]; exact X'.warmed.alike
  have hz : H.size ≤ t.heap.size := by rw [← h0]; exact hF.1
  obtain ⟨t2, a1, b1⟩ := kk v h' hq O T'.heap (locs ++ L) ls (by rw [e1]; exact hrel.moved hal.symm) ⟨by rw [e1]; exact Nat.le_trans hS.1 hz, fun q h1 h2 => by
    rw [e1, hF.2 q (by rw [h0]; exact Nat.lt_of_lt_of_le h1 hS.1) h2, h0]
    exact hS.2.1 q h1 h2, fun q hq => by
      rcases List.mem_append.mp hq with h | h
      · exact hS.2.2 q h
      · exact hL q h⟩ hl T' rfl X'
  exact ⟨t2, go t2 a1, b1⟩
theorem ww_callV {b ci : Nat} {V : Nat → Value} {r : vw_C} (hd : decode cc pc = .ok (.invokevirtual index, 3)) (L : wCv M.1.cls index Mc na) (ha : h.1 b = some (.inr (ci, V))) (hci : wCl[ci]? = some r) (hcl : r.1 = Mc.1.cls) (hs : Sat G Mc (.ref b :: As) h Q) (hst : st0 = As.reverse ++ .ref b :: st) (hna : As.length = na) (hlev : Nat.ble (Mc.2.2.2.2.1 + 1) M.2.2.2.2.1 = true) (hmx : Nat.ble Mc.2.2.1 15 = true) (hro : Nat.ble (st.map fun v => v.category).sum 8 = true) (hk : k + Mc.2.2.2.2.2.1 ≤ M.2.2.2.2.2.1) (hn : n + Mc.2.2.2.2.2.2 ≤ M.2.2.2.2.2.2)
    (kk : ∀ v h', Q v h' → WW G M cc X Z (pc + 3) lv (v.toList ++ st) h' (k + Mc.2.2.2.2.2.1) (n + Mc.2.2.2.2.2.2)) : WW G M cc X Z pc lv st0 h k n := by
  obtain ⟨p, e, R, s, m, args, below, meth, c⟩ := X
  intro O H locs ls hR hS hl
  have O' := O
  obtain ⟨hx, hb, hml, hr, hown, hts, hlk, hnm, hK, ⟨hf, hlo, hrc, hrs⟩, hB, hE, hSt⟩ := O
  obtain ⟨hBa, r', h1, cell, q1, q2, q3, q4⟩ := hR.2.2 b _ ha
  have hrr : r' = r := Option.some.inj (h1.symm.trans hci)
  subst hrr
  refine w_after O' hR hS hl (va_runV (As := As) (rest := st) (nL := M.2.2.1) (own := M.1.cls) (Ts := wTb) (C := Mc.1.cls) (index := index) (n := na) ⟨hx, hb, hml, hown, hts⟩ hs ⟨w_callB (G := G) (M := M) hts L.1 (Nat.le_of_ble_eq_true hlev) (Nat.le_of_ble_eq_true hmx) hf hlo, hts _ L.2.1, hts _ L.2.2⟩ ⟨w_blind, ⟨cell, q1, by rw [q3]; rfl, by rw [q2, ← hcl]; exact (hK.1 ci _ hci).2.1⟩, fun U hU hW => ⟨rfl, by rw [hU]; exact hR.moved hW.alike, va_K.moved hW.alike hK, w_keep hSt hE hB hS hU hW, hSt⟩⟩ rfl hna hl.1 hst (lv_room (Nat.le_of_ble_eq_true hro)) hd ⟨by rw [hrc]; exact hk, by rw [hrs]; exact hn⟩) kk
theorem ww_callS (hd : decode cc pc = .ok (.invokestatic index, 3)) (L : wCs M.1.cls index Mc na) (hs : Sat G Mc As h Q) (hst : st0 = As.reverse ++ st) (hna : As.length = na) (hlev : Nat.ble (Mc.2.2.2.2.1 + 1) M.2.2.2.2.1 = true) (hmx : Nat.ble Mc.2.2.1 15 = true) (hro : Nat.ble (st.map fun v => v.category).sum 8 = true) (hk : k + Mc.2.2.2.2.2.1 ≤ M.2.2.2.2.2.1) (hn : n + Mc.2.2.2.2.2.2 ≤ M.2.2.2.2.2.2)
    (kk : ∀ v h', Q v h' → WW G M cc X Z (pc + 3) lv (v.toList ++ st) h' (k + Mc.2.2.2.2.2.1) (n + Mc.2.2.2.2.2.2)) : WW G M cc X Z pc lv st0 h k n := by
  obtain ⟨p, e, R, s, m, args, below, meth, c⟩ := X
  intro O H locs ls hR hS hl
  have O' := O
  obtain ⟨hx, hb, hml, hr, hown, hts, hlk, hnm, hK, ⟨hf, hlo, hrc, hrs⟩, hB, hE, hSt⟩ := O
  refine w_after O' hR hS hl (va_runS (As := As) (rest := st) (nL := M.2.2.1) (own := M.1.cls) (Ts := wTb) (index := index) (n := na) ⟨hx, hb, hml, hown, hts⟩ hs ⟨w_callB (G := G) (M := M) hts L.1 (Nat.le_of_ble_eq_true hlev) (Nat.le_of_ble_eq_true hmx) hf hlo, hts _ L.2⟩ ⟨w_blind, fun U hU hW => ⟨rfl, by rw [hU]; exact hR.moved hW.alike, va_K.moved hW.alike hK, w_keep hSt hE hB hS hU hW, hSt⟩⟩ rfl hna hl.1 hst (lv_room (Nat.le_of_ble_eq_true hro)) hd ⟨by rw [hrc]; exact hk, by rw [hrs]; exact hn⟩) kk
theorem ww_callI {b : Nat} (hd : decode cc pc = .ok (.invokespecial index, 3)) (L : wCi M.1.cls index Mc na) (hs : Sat G Mc (.ref b :: As) h Q) (hst : st0 = As.reverse ++ .ref b :: st) (hna : As.length = na) (hlev : Nat.ble (Mc.2.2.2.2.1 + 1) M.2.2.2.2.1 = true) (hmx : Nat.ble Mc.2.2.1 15 = true) (hro : Nat.ble (st.map fun v => v.category).sum 8 = true) (hk : k + Mc.2.2.2.2.2.1 ≤ M.2.2.2.2.2.1) (hn : n + Mc.2.2.2.2.2.2 ≤ M.2.2.2.2.2.2)
    (kk : ∀ v h', Q v h' → WW G M cc X Z (pc + 3) lv (v.toList ++ st) h' (k + Mc.2.2.2.2.2.1) (n + Mc.2.2.2.2.2.2)) : WW G M cc X Z pc lv st0 h k n := by
  obtain ⟨p, e, R, s, m, args, below, meth, c⟩ := X
  intro O H locs ls hR hS hl
  have O' := O
  obtain ⟨hx, hb, hml, hr, hown, hts, hlk, hnm, hK, ⟨hf, hlo, hrc, hrs⟩, hB, hE, hSt⟩ := O
  obtain ⟨L0, L1, L2, L3⟩ := L
  have hcb := w_callB (G := G) (M := M) (R := R) (s := s) (args := args) hts L0 (Nat.le_of_ble_eq_true hlev) (Nat.le_of_ble_eq_true hmx) hf hlo
  rw [L3] at hcb
  refine w_after O' hR hS hl (va_runI (As := As) (rest := st) (nL := M.2.2.1) (own := M.1.cls) (Ts := wTb) (index := index) (n := na) ⟨hx, hb, hml, hown, hts⟩ hs ⟨hcb, L1, hts _ L2⟩ ⟨w_blind, fun U hU hW => ⟨rfl, by rw [hU]; exact hR.moved hW.alike, va_K.moved hW.alike hK, w_keep hSt hE hB hS hU hW, hSt⟩⟩ rfl hna hl.1 hst (lv_room (Nat.le_of_ble_eq_true hro)) hd ⟨by rw [hrc]; exact hk, by rw [hrs]; exact hn⟩) kk
theorem ww_objInit {a : Nat} (hd : decode cc pc = .ok (.invokespecial index, 3)) (L : Cond.methodLink M.1.cls index Lib.objectInit ∈ wTb ∧ Cond.instanceMethod Lib.objectInit ∈ wTb ∧ Cond.code Lib.objectInit ⟨#[0xb1]⟩ 1 none ∈ wTb) (hlev : Nat.ble 1 M.2.2.2.2.1 = true) (hro : Nat.ble (st.map fun v => v.category).sum 8 = true) (kk : WW G M cc X Z (pc + 3) lv st h k n) : WW G M cc X Z pc lv (.ref a :: st) h k n := by
  obtain ⟨p, e, R, s, m, args, below, meth, c⟩ := X
  intro O H locs ls hR hS hl
  have O' := O
  obtain ⟨hx, hb, hml, hr, hown, hts, hlk, hnm, hK, ⟨hf, hlo, hrc, hrs⟩, hB, hE, hSt⟩ := O
  have hlev := Nat.le_of_ble_eq_true hlev
  have hro := Nat.le_of_ble_eq_true hro
  refine W.objInit hx hb hown (hts _ L.1) (hts _ L.2.1) (hts _ L.2.2) rfl (by rw [hml]; exact hl.1) rfl hd (by omega) ?_ (kk O' H locs ls hR hS hl)
  have h0 := lv_room (m := m) (pc := pc) (ls := ls) (rest := Value.ref a :: st) hro
  omega
end WCall
/-- deterministic: this answer, this heap -/
def Det (v : Option Value) (h : wH) : Option Value → wH → Prop := fun v' h' => v' = v ∧ h' = h
section WSw
variable {G : wG} {M : wM} {cc : ByteArray} {X : wX} {Z : State → Prop} {pc : Nat} {lv : List (Option Value)} {st : List Value} {h : wH} {k n : Nat}
theorem ww_table {dflt lo hi : Int} {offs : Array Int} {len : Nat} {x : Int32} (ts : List Nat) (td : Nat) (hd : decode cc pc = .ok (.tableswitch dflt lo hi offs, len)) (hdf : (pc : Int) + dflt = (td : Int)) (hhi : hi = lo + ts.length - 1) (hts : ∀ j, j < ts.length → (offs[j]?).map (fun o => (pc : Int) + o) = (ts[j]?).map (fun t => (t : Int)))
    (kt : ∀ (j t : Nat), ts[j]? = some t → x.toInt = lo + (j : Int) → WW G M cc X Z t lv st h k n) (kd : (x.toInt < lo ∨ hi < x.toInt) → WW G M cc X Z td lv st h k n) : WW G M cc X Z pc lv (.int x :: st) h k n := by
  obtain ⟨p, e, R, s, m, args, below, meth, c⟩ := X
  intro O H locs ls hR hS hl
  by_cases h1 : x.toInt < lo
  · exact lv_tableOut O.1 O.2.1 hd (Or.inl h1) hdf (kd (Or.inl h1) O H locs ls hR hS hl)
  · by_cases h2 : hi < x.toInt
    · exact lv_tableOut O.1 O.2.1 hd (Or.inr h2) hdf (kd (Or.inr h2) O H locs ls hR hS hl)
    · have hj : (x.toInt - lo).toNat < ts.length := by rw [hhi] at h2; omega
      have h3 := hts _ hj
      obtain ⟨t, ht⟩ : ∃ t, ts[(x.toInt - lo).toNat]? = some t := ⟨_, List.getElem?_eq_getElem hj⟩
      rw [ht] at h3
      cases ho : offs[(x.toInt - lo).toNat]? with
      | none => rw [ho] at h3; cases h3
      | some off =>
        rw [ho] at h3
        exact lv_tableIn O.1 O.2.1 hd h1 h2 ho (Option.some.inj h3) (kt _ t ht (by omega) O H locs ls hR hS hl)
theorem ww_lookup {dflt : Int} {ps : Array (Int × Int)} {len : Nat} {x : Int32} (hd : decode cc pc = .ok (.lookupswitch dflt ps, len)) (hp : (ps.toList.zip (ps.toList.drop 1)).all (fun (a, next) => a.1 < next.1) = true) (kk : ∀ tgt : Nat, (pc : Int) + Op.lookupswitch.offset ps.toList dflt x.toInt = (tgt : Int) → WW G M cc X Z tgt lv st h k n) (tgt : Nat) (ht : (pc : Int) + Op.lookupswitch.offset ps.toList dflt x.toInt = (tgt : Int)) : WW G M cc X Z pc lv (.int x :: st) h k n := by
  obtain ⟨p, e, R, s, m, args, below, meth, c⟩ := X
  intro O H locs ls hR hS hl
  exact lv_lookup O.1 O.2.1 hd hp rfl ht (kk tgt ht O H locs ls hR hS hl)
end WSw
