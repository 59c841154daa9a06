/-! THE CLAIM OUT OF ONE WALK OF THE LAW'S BODY. Your part is whole_start (and what it stands on); all else here is the same for every law, but numbers. -/
def R_law : String := "TaskHouseLaw"
def lw_P (b : Addr) (xs : List Int32) (args : Array Value) (s : State) : Prop := args = #[.ref b] ∧ s.IntsAt b xs ∧ xs.length ≤ 3072 ∧ (Jvm.Cond.and given_1 narrow_1).before args s = true
def lw_Q (_ : Array Value) (s : State) (o : Outcome) (t : State) : Prop := o = .returned (some (.int 1)) ∧ Framed s o t [] 600000 7302250
def lw_Z (below : List Frame) (a : Array Value) (s : State) : State → Prop := fun t => ∃ o, t.status = .running ∧ Ended t below o ∧ lw_Q a s o t
/-- the law's own end, with 1 on the stack, nothing written that was there before, its room as the claim has it -/
theorem lw_ret {p : Program} {l : Launch} {e : Env} {s : State} {m : MethodId} {below : List Frame} {meth : Method} {c : Code} {b : Nat} (hx : p.tables.exec = Jvm.exec) (hb : c.code = code) (hr : meth.sig.returnType = ret) (hlocks : meth.locks = false) {pc : Nat} {H : Heap} {ls : Array Slot} (hdg : decode code pc = .ok (.ireturn, 1)) : W p l e room_1 s m #[Value.ref b] below meth c H [] 600000 7302250 (lw_Z below #[Value.ref b] s) (F0 m pc ls [.int 1]) := by
  intro T hT X
  obtain ⟨fs, hret, hrun, hended, hW, hframe⟩ := X.leave (v := some (.int 1)) (hlocks := hlocks) (fun h => by rw [hr] at h; cases h)
  have hmeth' : T.vm.method? m = some meth := X.method'
  refine ⟨T.setFrames fs, ?_, .returned (some (.int 1)), hrun, hended, rfl, ⟨_, rfl⟩, hW, hframe⟩
  jvm_step X.here [X.here.top, hx, hb, hdg, hmeth', hr, ret, narrow_b1]
  (try refine ⟨rfl, ?_⟩); (try refine ⟨rfl, ?_⟩)
  first | (intro acts; rw [hret _ acts rfl rfl rfl]) | rw [hret _ _ rfl rfl rfl]
  exact Steps.refl _
/-- what holds at the law's entry: the machine, the code, the tables' words (any of lw_tbl by 'hts w (by decide +kernel)'), the script of L ints xs at the cell b, what the Statement gives of the start (any of its parts by flat_of_before) -/
def lw_At (p : Program) (s : State) (m : MethodId) (meth : Method) (c : Code) (b L : Nat) (xs : Nat → Int32) : Prop :=
  p.tables.exec = Jvm.exec ∧ c.code = code ∧ meth.sig.returnType = ret ∧ c.maxLocals = 4 ∧ s.vm.findClass R_law = some m.cls ∧ (∀ w ∈ lw_tbl, w.before #[Value.ref b] s = true) ∧ va_X b L xs s s.heap ∧ b < s.heap.size ∧ meth.locks = false ∧ (Jvm.Cond.and given_1 narrow_1).before #[Value.ref b] s = true
theorem known_of {s : State} {args : Array Value} (hT : ∀ w ∈ wTb, w.before args s = true) {own : String} {index ci N : Nat} {ty : Nat → FieldType} (L : wNw own index ci ty N) : ∃ p : ClassId × (Nat → Nat), ∀ q, wCl[ci]? = some q → u_Kn s q.1 q.2.1 q.2.2 p.1 p.2 := by
  obtain ⟨Cn, T, e, ck, -, -, hi, -⟩ := L
  obtain ⟨c, iS, h⟩ := u_known (C := Cn) (T := T) (N := N) (n := N) hT ck.1 (hT _ hi)
  exact ⟨(c, iS), fun q hq => by rw [e] at hq; cases hq; exact h⟩
theorem known_all {s : State} {args : Array Value} (hT : ∀ w ∈ wTb, w.before args s = true) : ∃ (dC : Nat → ClassId) (dI : Nat → Nat → Nat), ∀ (k : Nat) (q : vw_C), wCl[k]? = some q → u_Kn s q.1 q.2.1 q.2.2 (dC k) (dI k) := by
  obtain ⟨c0, h0⟩ := known_of hT nX3_25
  have hall : ∀ k : Nat, ∃ p : ClassId × (Nat → Nat), ∀ q, wCl[k]? = some q → u_Kn s q.1 q.2.1 q.2.2 p.1 p.2 := by
    intro k
    match k with
    | 0 => exact ⟨c0, h0⟩
    | 1 => exact known_of hT nX8_16
    | 2 => exact known_of hT nX8_7
    | 3 => exact known_of hT nX8_37
    | 4 => exact known_of hT nX3_9
    | 5 => exact known_of hT nX8_23
    | 6 => exact known_of hT nX8_30
    | 7 => exact known_of hT nL_7
    | 8 => exact known_of hT nL_10
    | k + 9 => exact ⟨c0, fun q hq => by simp [wCl] at hq⟩
  obtain ⟨g, hg⟩ := Classical.axiomOfChoice hall
  exact ⟨fun k => (g k).1, fun k => (g k).2, hg⟩
def sTm (i : Nat) : Term := .string "TaskHouse$Tape" (sIx.getD i 0)
theorem st_ex : ∀ i, i < 9 → Cond.exactly (sTm i) "java/lang/String" ∈ flatC (Jvm.Cond.and given_1 narrow_1) := by decide +kernel
theorem st_co : ∀ i, i < 9 → Cond.eq (.field (sTm i) "java/lang/String" "coder" "B") (.int 0) ∈ flatC (Jvm.Cond.and given_1 narrow_1) := by decide +kernel
theorem st_ar : ∀ i, i < 9 → Cond.arrayOf (.field (sTm i) "java/lang/String" "value" "[B") .byte ∈ flatC (Jvm.Cond.and given_1 narrow_1) := by decide +kernel
theorem st_le : ∀ i, i < 9 → Cond.eq (.length (.field (sTm i) "java/lang/String" "value" "[B")) (.int (Int32.ofNat (sLn.getD i 0))) ∈ flatC (Jvm.Cond.and given_1 narrow_1) := by decide +kernel
theorem st_el : ∀ i, i < 9 → ∀ j, j < sLn.getD i 0 → Cond.eq (.elem (.field (sTm i) "java/lang/String" "value" "[B") (.int (Int32.ofNat j))) (.int ((sBy.getD i []).getD j 0)) ∈ flatC (Jvm.Cond.and given_1 narrow_1) := by decide +kernel
theorem st_ne : ∀ i, i < 9 → ∀ j, j < 9 → i ≠ j → Cond.not (Cond.eq (sTm i) (sTm j)) ∈ flatC (Jvm.Cond.and given_1 narrow_1) ∨ Cond.not (Cond.eq (sTm j) (sTm i)) ∈ flatC (Jvm.Cond.and given_1 narrow_1) := by decide +kernel
theorem st_rf : ∀ i, i < 9 → Cond.stringRef RX5 (sIx.getD i 0) (sTx.getD i "") ∈ tables_1 := by decide +kernel
theorem st_tb {w : Cond} (h : w ∈ tables_1) : w ∈ lw_tbl := List.mem_append.mpr (Or.inr h)
set_option maxHeartbeats 4000000 in
theorem whole_start {p : Program} {e : Env} {s : State} {m : MethodId} {below : List Frame} {meth : Method} {c : Code} (l : Launch) {b L : Nat} {xs : Nat → Int32} (hL : L ≤ 3072) (C0 : lw_At p s m meth c b L xs) : W p l e room_1 s m #[Value.ref b] below meth c s.heap [] 0 0 (lw_Z below #[Value.ref b] s) (entryFrame m ([Value.ref b] : List Value).toArray 4) := by
  obtain ⟨hx, hb, hr, hml, hown, hts, hX, hbl, hlocks, hgv⟩ := id C0
  have hfl := flat_of_before _ hgv
  have hT : ∀ w ∈ wTb, w.before #[Value.ref b] s = true := fun w hw => hts w (List.mem_filter.mp hw).1
  obtain ⟨dC, dI, hKc⟩ := known_all hT
  have hA : ∀ a : Nat, a < s.heap.size → ¬ (fun q : Nat => s.heap.size ≤ q) a := fun a h => Nat.not_le.mpr h
  obtain ⟨adK, adV, hS1, hS2⟩ := vk_Sof (args := #[Value.ref b]) (s := s) (N := 9) (tm := sTm) (len := sLn) (byt := sBy) (A := fun q : Nat => s.heap.size ≤ q) (fun i hi => by have := s_ln i hi; omega) (fun i hi => hfl _ (st_ex i hi)) (fun i hi => hfl _ (st_co i hi)) (fun i hi => hfl _ (st_ar i hi)) (fun i hi => hfl _ (st_le i hi)) (fun i hi j hj => hfl _ (st_el i hi j hj)) (fun i j hi hj hij => (st_ne i hi j hj hij).elim (fun z => Or.inl (hfl _ z)) (fun z => Or.inr (hfl _ z))) hA
  have hZ1 : va_Z "java/lang/String" "COMPACT_STRINGS" "Z" (.int 1) (fun q : Nat => s.heap.size ≤ q) s s.heap := va_Zof (hts _ (st_tb (by decide +kernel))) (hts _ (st_tb (by decide +kernel))) (va_eqt (hfl (Cond.eq (.static "java/lang/String" "COMPACT_STRINGS" "Z") (.int 1)) (by decide +kernel))) hA
  obtain ⟨zz, hzz⟩ : ∃ zz : Option Nat, (Term.static "jdk/internal/util/Preconditions" "SIOOBE_FORMATTER" "Ljava/util/function/BiFunction;").eval #[Value.ref b] s none [] s = some (va_rf zz) := by
    obtain ⟨v, hv, hv2⟩ := Cond.isRef_spec (hfl (Cond.isRef (.static "jdk/internal/util/Preconditions" "SIOOBE_FORMATTER" "Ljava/util/function/BiFunction;")) (by decide +kernel))
    cases v with
    | ref a => exact ⟨some a, hv⟩
    | null => exact ⟨none, hv⟩
    | _ => cases hv2
  have hZ2 : va_Z "jdk/internal/util/Preconditions" "SIOOBE_FORMATTER" "Ljava/util/function/BiFunction;" (va_rf zz) (fun q : Nat => s.heap.size ≤ q) s s.heap := va_Zof (hts _ (st_tb (by decide +kernel))) (hts _ (st_tb (by decide +kernel))) hzz hA
  have hAO : va_AO "TaskHouse$Run" s := va_AO.of (hts (Cond.arrayOver (.object "TaskHouse$Run")) (st_tb (by decide +kernel)))
  have hE0 : sE s.heap.size adK adV zz s := ⟨hS1, fun i hi => vk_R.of (hts _ (st_tb (st_rf i hi))) (hS2 i hi), hZ1, hZ2, hAO⟩
  obtain ⟨G, hG⟩ : ∃ G : wG, G = (l, (dC, dI), s.heap.size, fun U => sE s.heap.size adK adV zz U) := ⟨_, rfl⟩
  have hSt : wStab G := by
    rw [hG]
    rintro U U2 hW hq ⟨e1, e2, e3, e4, e5⟩
    have hk : ∀ a : Nat, a < U.heap.size → ¬ (fun q : Nat => s.heap.size ≤ q) a → U2.heap[a]? = U.heap[a]? := fun a _ ha => hq a (Nat.not_le.mp ha)
    exact ⟨(e1.moved hW.alike).kept hk, fun i hi => vk_R.warm hW (e2 i hi), (e3.moved hW.alike).kept hk, (e4.moved hW.alike).kept hk, e5.moved hW.alike⟩
  have hE : ∀ U, G.2.2.2 U → sE G.2.2.1 adK adV zz U := by rw [hG]; exact fun U h => h
  have hG1 : G.2.2.1 = s.heap.size := by rw [hG]
  have hGl : G.1 = l := by rw [hG]
  have hbG : b < G.2.2.1 := by rw [hG1]; exact hbl
  have hOk : wOk G (mLN meth.name) cL_law p room_1 s m #[Value.ref b] meth c := by
    refine ⟨hx, hb, hml, hr, hown, hT, hlocks, rfl, ?_, ⟨Nat.le_of_ble_eq_true rfl, Nat.le_of_ble_eq_true rfl, rfl, rfl⟩, by rw [hG1]; exact Nat.le_refl _, ?_, hSt⟩
    · rw [hG]; exact ⟨hKc, fun k q h => by simp at h⟩
    · rw [hG]; exact hE0
  have hEnd : ∀ (lv : List (Option Value)) (h : wH) (k n : Nat), k ≤ 600000 → n ≤ 7302250 → WW G (mLN meth.name) cL_law (p, e, room_1, s, m, #[Value.ref b], below, meth, c) (lw_Z below #[Value.ref b] s) 822 lv [.int 1] h k n := by
    intro lv h k n hk hn O H locs ls hR hS hl
    refine va_forget (fun q hq => by have := hS.2.2 q hq; rw [← hG1]; exact this) (W.widen hk hn (lw_ret O.1 O.2.1 hr hlocks dL_law_822))
  have hmain : WW G (mLN meth.name) cL_law (p, e, room_1, s, m, #[Value.ref b], below, meth, c) (lw_Z below #[Value.ref b] s) 0 [some (.ref b), none, none, none] [] ((fun _ => none), s.heap.size) 0 0 := by
    generalize s.heap.size = B
    refine ww_new dL_law_0 nL_7 (Nat.le_of_ble_eq_true rfl) (Nat.le_of_ble_eq_true rfl) ?_
    refine ww_dup dL_law_3 rfl ?_
    refine ww_callI (b := B) (As := []) (st := [.ref B]) dL_law_4 kL_9 (c8_init hE (m := B) (h0 := fun _ => none)) rfl rfl rfl rfl rfl (Nat.le_of_ble_eq_true rfl) (Nat.le_of_ble_eq_true rfl) (fun v h2 q => ?_)
    obtain ⟨rfl, rfl⟩ := q
    refine ww_astore_n dL_law_7 rfl rfl rfl ?_
    refine ww_new dL_law_8 nL_10 (Nat.le_of_ble_eq_true rfl) (Nat.le_of_ble_eq_true rfl) ?_
    refine ww_dup dL_law_11 rfl ?_
    refine ww_callI (b := B + 44) (As := []) (st := [.ref (B + 44)]) dL_law_12 kL_12 (c9_init (m := B + 44) (h0 := wld (iL8 B) (iF B) (iO B) (iRw B) (fun _ => none))) rfl rfl rfl rfl rfl (Nat.le_of_ble_eq_true rfl) (Nat.le_of_ble_eq_true rfl) (fun v h2 q => ?_)
    obtain ⟨rfl, rfl⟩ := q
    refine ww_astore_n dL_law_15 rfl rfl rfl ?_
    refine ww_iconst (v := 0) dL_law_16 (by decide) ?_
    refine ww_istore_n dL_law_17 rfl rfl rfl ?_
    rw [← hp_sw (fun y h1 h2 => i_top B y h1)]
    exact law_loop (B := B) hX hbG hL hEnd 521 0 _ _ _ _ _ _ 0 _ (fun _ => 0) (by omega) (by omega) (inv_0 B)
  have hl := lv_entry ([.ref b]) (n := 4) (Nat.le_of_ble_eq_true rfl)
  rw [lg_entry_eq]
  generalize (lg_sl ([.ref b]) ++ List.replicate (4 - (lg_sl ([.ref b])).length) Slot.unset).toArray = ls at hl ⊢
  have hl : lv_has ls 4 [(0, .ref b)] := hl
  have hR : wRel G ((fun _ => none), s.heap.size) s s.heap := ⟨rfl, by rw [hG1]; exact Nat.le_refl _, fun a e he => by cases he⟩
  have hS : va_S (wA G) s.heap s.heap [] := va_S.rf
  have hW := hmain hOk s.heap [] ls hR hS hl
  rw [hGl] at hW
  exact hW
