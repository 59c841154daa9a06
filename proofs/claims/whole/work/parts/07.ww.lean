/-! The heap as a function from addresses to entries, and W over it: 'WW'. A method's contract over it: 'Sat'. -/
abbrev wE : Type := (FieldType × vp_A) ⊕ (Nat × (Nat → Value))
abbrev wH : Type := (Nat → Option wE) × Nat
abbrev wG : Type := Launch × va_G × Nat × (State → Prop)
/-- the words that a call may pay -/
def wTb : List Cond := lw_tbl.filter goodWord
abbrev wM : Type := MethodName × ByteArray × Nat × Option FieldType × Nat × Nat × Nat
abbrev wX : Type := Program × Env × Room × State × MethodId × Array Value × List Frame × Method × Code
def wCl : List vw_C := [(RX0, TX0, 12), (RX2, TX2, 7), (RX3, TX3, 14), (RX4, TX4, 7), (RX5, TX5, 7), (RX6, TX6, 10), (RX7, TX7, 7), (RX8, TX8, 10), (RX9, TX9, 72)]
/-- what is kept of the start beside the class's own cells: it speaks of old cells and of the tables alone -/
def wStab (G : wG) : Prop := ∀ U U2 : State, U.WarmedH U2.vm → (∀ q, q < G.2.2.1 → U2.heap[q]? = U.heap[q]?) → G.2.2.2 U → G.2.2.2 U2
def wAt (D : va_G) (U : State) (H : Heap) (a : Nat) (e : wE) : Prop := match e with
  | .inl (ty, arr) => ∃ cA : ClassId, H[a]? = some (vp_cell cA arr) ∧ ArrOfT U cA ty ∧ va_RA U cA ty
  | .inr (ci, V) => ∃ r : vw_C, wCl[ci]? = some r ∧ t_OB a (D.1 ci) r.2.2 (D.2 ci) H V
def wRel (G : wG) (h : wH) (U : State) (H : Heap) : Prop := H.size = h.2 ∧ G.2.2.1 ≤ h.2 ∧ ∀ (a : Nat) (e : wE), h.1 a = some e → G.2.2.1 ≤ a ∧ wAt G.2.1 U H a e
abbrev wA (G : wG) : Nat → Prop := fun q => G.2.2.1 ≤ q
def wRm (lev mc ms : Nat) : Room := { frames := lev, cells := mc, slots := ms, locals := 34 * lev }
def wQc (G : wG) (Q : Option Value → wH → Prop) : Array Value → State → Outcome → State → Prop := fun _ st oc t => ∃ (v : Option Value) (h : wH), oc = .returned v ∧ Q v h ∧ wRel G h t t.heap ∧ va_F (wA G) st t
abbrev wWs (M : wM) : List Cond := Cond.code M.1 M.2.1 M.2.2.1 M.2.2.2.1 :: wTb
/-- the method M at these arguments and this heap returns, and Q holds of its answer and the heap behind it -/
def Sat (G : wG) (M : wM) (av : List Value) (h : wH) (Q : Option Value → wH → Prop) : Prop :=
  Met G.1 M.1 (wWs M) (wRm M.2.2.2.2.1 M.2.2.2.2.2.1 M.2.2.2.2.2.2) (va_Pc av (fun U => wRel G h U U.heap ∧ va_K G.2.1 wCl [] U ∧ G.2.2.2 U ∧ wStab G)) (wQc G Q) M.2.2.2.2.2.1 M.2.2.2.2.2.2 (wA G)
def wl : Nat → List (Option Value) → List (Nat × Value)
  | _, [] => []
  | i, none :: r => wl (i + 1) r
  | i, some v :: r => (i, v) :: wl (i + 1) r
def wOk (G : wG) (M : wM) (cc : ByteArray) (p : Program) (R : Room) (s : State) (m : MethodId) (args : Array Value) (meth : Method) (c : Code) : Prop :=
  p.tables.exec = Jvm.exec ∧ c.code = cc ∧ c.maxLocals = M.2.2.1 ∧ meth.sig.returnType = M.2.2.2.1 ∧ s.vm.findClass M.1.cls = some m.cls ∧ (∀ w ∈ wTb, w.before args s = true) ∧ meth.locks = false ∧ meth.name = M.1.name ∧ va_K G.2.1 wCl [] s ∧
  (M.2.2.2.2.1 ≤ R.frames ∧ 34 * M.2.2.2.2.1 ≤ R.locals ∧ R.cells = M.2.2.2.2.2.1 ∧ R.slots = M.2.2.2.2.2.2) ∧ G.2.2.1 ≤ s.heap.size ∧ G.2.2.2 s ∧ wStab G
/-- the machine at pc, with these locals, stack and heap, comes to Z -/
def WW (G : wG) (M : wM) (cc : ByteArray) (X : wX) (Z : State → Prop) (pc : Nat) (lv : List (Option Value)) (st : List Value) (h : wH) (k n : Nat) : Prop :=
  match X with
  | (p, e, R, s, m, args, below, meth, c) => wOk G M cc p R s m args meth c → ∀ (H : Heap) (locs : List Loc) (ls : Array Slot), wRel G h s H → va_S (wA G) s.heap H locs → lv_has ls M.2.2.1 (wl 0 lv) → W p G.1 e R s m args below meth c H locs k n Z (F0 m pc ls st)
theorem wl_mem : ∀ (lv : List (Option Value)) (j i : Nat) (v : Value), lv[i]? = some (some v) → (j + i, v) ∈ wl j lv
  | [], j, i, v, h => by simp at h
  | none :: r, j, 0, v, h => by simp at h
  | some w :: r, j, 0, v, h => by
    have e : w = v := by simpa using h
    subst e
    exact List.mem_cons_self
  | none :: r, j, i + 1, v, h => by
    have := wl_mem r (j + 1) i v (by simpa using h)
    rw [show j + (i + 1) = j + 1 + i by omega]
    exact this
  | some w :: r, j, i + 1, v, h => by
    have := wl_mem r (j + 1) i v (by simpa using h)
    rw [show j + (i + 1) = j + 1 + i by omega]
    exact List.mem_cons_of_mem _ this
theorem wl_of : ∀ (lv : List (Option Value)) (j : Nat) (q : Nat × Value), q ∈ wl j lv → ∃ i, q.1 = j + i ∧ lv[i]? = some (some q.2)
  | [], j, q, h => by simp [wl] at h
  | none :: r, j, q, h => by
    obtain ⟨i, h1, h2⟩ := wl_of r (j + 1) q h
    exact ⟨i + 1, by omega, by simpa using h2⟩
  | some w :: r, j, q, h => by
    rcases List.mem_cons.mp h with h | h
    · exact ⟨0, by rw [h]; rfl, by rw [h]; rfl⟩
    · obtain ⟨i, h1, h2⟩ := wl_of r (j + 1) q h
      exact ⟨i + 1, by omega, by simpa using h2⟩
theorem wl_at {ls : Array Slot} {nL : Nat} {lv : List (Option Value)} (hl : lv_has ls nL (wl 0 lv)) {i : Nat} {v : Value} (h : lv[i]? = some (some v)) : ls[i]? = some (.val v) := by
  have := hl.2.2 _ (wl_mem lv 0 i v h)
  simpa using this
def wst (lv : List (Option Value)) (i : Nat) : Bool := match i with
  | 0 => true
  | j + 1 => match lv[j]? with
    | some (some v) => v.category != 2
    | _ => true
theorem wl_set {ls : Array Slot} {nL : Nat} {lv : List (Option Value)} {i : Nat} {v : Value} (hw : wst lv i = true) (h : lv_has ls nL ((i, v) :: (wl 0 lv).filter (fun q => !(q.1 == i) && !(q.1 + 1 == i && q.2.category == 2)))) : lv_has ls nL (wl 0 (lv.set i (some v))) := by
  refine ⟨h.1, h.2.1, fun q hq => h.2.2 q ?_⟩
  obtain ⟨j, h1, h2⟩ := wl_of _ 0 q hq
  rw [Nat.zero_add] at h1
  by_cases hj : i = j
  · subst hj
    by_cases hb : i < lv.length
    · rw [List.getElem?_set_self hb] at h2
      have e : v = q.2 := by simpa using h2
      have : q = (i, v) := by rw [e, ← h1]
      rw [this]
      exact List.mem_cons_self
    · rw [List.getElem?_eq_none (by simp; omega)] at h2
      cases h2
  · rw [List.getElem?_set_ne hj] at h2
    have hm := wl_mem lv 0 j q.2 h2
    rw [Nat.zero_add] at hm
    refine List.mem_cons_of_mem _ (List.mem_filter.mpr ⟨by rw [show q = (j, q.2) by rw [← h1]]; exact hm, ?_⟩)
    have n1 : (q.1 == i) = false := by rw [h1]; simp; omega
    rw [n1]
    cases hc : (q.1 + 1 == i) with
    | false => rfl
    | true =>
      have e : i = j + 1 := by rw [h1] at hc; simp at hc; omega
      subst e
      simp only [wst, h2] at hw
      have : (q.2.category == 2) = false := by simpa [bne] using hw
      simp [this]
section WR
variable {G : wG} {M : wM} {cc : ByteArray} {X : wX} {Z : State → Prop} {pc : Nat} {lv : List (Option Value)} {st : List Value} {h : wH} {k n : Nat}

theorem ww_iconst {i : Int} {v : Int32} (hd : decode cc pc = .ok (.iconst i, 1)) (hv : Int32.ofInt i = v) (kk : WW G M cc X Z (pc + 1) lv (.int v :: st) h k n) : WW G M cc X Z pc lv st h k n := by
  obtain ⟨p, e, R, s, m, args, below, meth, c⟩ := X
  intro O H locs ls hR hS hl
  exact lv_iconst O.1 O.2.1 hd hv (kk O H locs ls hR hS hl)
theorem ww_bipush {i : Int} {v : Int32} (hd : decode cc pc = .ok (.bipush i, 2)) (hv : (Int8.ofInt i).toInt32 = v) (kk : WW G M cc X Z (pc + 2) lv (.int v :: st) h k n) : WW G M cc X Z pc lv st h k n := by
  obtain ⟨p, e, R, s, m, args, below, meth, c⟩ := X
  intro O H locs ls hR hS hl
  exact lv_bipush O.1 O.2.1 hd hv (kk O H locs ls hR hS hl)
theorem ww_sipush {i : Int} {v : Int32} (hd : decode cc pc = .ok (.sipush i, 3)) (hv : (Int16.ofInt i).toInt32 = v) (kk : WW G M cc X Z (pc + 3) lv (.int v :: st) h k n) : WW G M cc X Z pc lv st h k n := by
  obtain ⟨p, e, R, s, m, args, below, meth, c⟩ := X
  intro O H locs ls hR hS hl
  exact lv_sipush O.1 O.2.1 hd hv (kk O H locs ls hR hS hl)
theorem ww_lconst {i : Fin 2} {v : Int64} (hd : decode cc pc = .ok (.lconst i, 1)) (hv : Int64.ofNat (i : Nat) = v) (kk : WW G M cc X Z (pc + 1) lv (.long v :: st) h k n) : WW G M cc X Z pc lv st h k n := by
  obtain ⟨p, e, R, s, m, args, below, meth, c⟩ := X
  intro O H locs ls hR hS hl
  exact lv_lconst O.1 O.2.1 hd hv (kk O H locs ls hR hS hl)
theorem ww_ldc2 {i : Nat} {v : Int64} (hd : decode cc pc = .ok (.ldc2_w i, 3)) (hw : Cond.constantLong M.1.cls i v ∈ wTb) (kk : WW G M cc X Z (pc + 3) lv (.long v :: st) h k n) : WW G M cc X Z pc lv st h k n := by
  obtain ⟨p, e, R, s, m, args, below, meth, c⟩ := X
  intro O H locs ls hR hS hl
  exact lv_ldc2 O.1 O.2.1 O.2.2.2.2.1 (O.2.2.2.2.2.1 _ hw) hd (kk O H locs ls hR hS hl)
theorem ww_null (hd : decode cc pc = .ok (.aconst_null, 1)) (kk : WW G M cc X Z (pc + 1) lv (.null :: st) h k n) : WW G M cc X Z pc lv st h k n := by
  obtain ⟨p, e, R, s, m, args, below, meth, c⟩ := X
  intro O H locs ls hR hS hl
  exact lv_null O.1 O.2.1 hd (kk O H locs ls hR hS hl)
theorem ww_iload {i : Nat} {x : Int32} (hd : decode cc pc = .ok (.iload i, 2)) (hv : lv[i]? = some (some (.int x))) (kk : WW G M cc X Z (pc + 2) lv (.int x :: st) h k n) : WW G M cc X Z pc lv st h k n := by
  obtain ⟨p, e, R, s, m, args, below, meth, c⟩ := X
  intro O H locs ls hR hS hl
  exact lv_iload O.1 O.2.1 hd (wl_at hl hv) (kk O H locs ls hR hS hl)
theorem ww_iload_n {j : Fin 4} {i : Nat} {x : Int32} (hd : decode cc pc = .ok (.iload_n j, 1)) (hj : (j : Nat) = i) (hv : lv[i]? = some (some (.int x))) (kk : WW G M cc X Z (pc + 1) lv (.int x :: st) h k n) : WW G M cc X Z pc lv st h k n := by
  obtain ⟨p, e, R, s, m, args, below, meth, c⟩ := X
  intro O H locs ls hR hS hl
  exact lv_iload_n O.1 O.2.1 hd hj (wl_at hl hv) (kk O H locs ls hR hS hl)
theorem ww_lload {i : Nat} {x : Int64} (hd : decode cc pc = .ok (.lload i, 2)) (hv : lv[i]? = some (some (.long x))) (kk : WW G M cc X Z (pc + 2) lv (.long x :: st) h k n) : WW G M cc X Z pc lv st h k n := by
  obtain ⟨p, e, R, s, m, args, below, meth, c⟩ := X
  intro O H locs ls hR hS hl
  exact lv_lload O.1 O.2.1 hd (wl_at hl hv) (kk O H locs ls hR hS hl)
theorem ww_lload_n {j : Fin 4} {i : Nat} {x : Int64} (hd : decode cc pc = .ok (.lload_n j, 1)) (hj : (j : Nat) = i) (hv : lv[i]? = some (some (.long x))) (kk : WW G M cc X Z (pc + 1) lv (.long x :: st) h k n) : WW G M cc X Z pc lv st h k n := by
  obtain ⟨p, e, R, s, m, args, below, meth, c⟩ := X
  intro O H locs ls hR hS hl
  exact lv_lload_n O.1 O.2.1 hd hj (wl_at hl hv) (kk O H locs ls hR hS hl)
theorem ww_aload {i : Nat} {x : Nat} (hd : decode cc pc = .ok (.aload i, 2)) (hv : lv[i]? = some (some (.ref x))) (kk : WW G M cc X Z (pc + 2) lv (.ref x :: st) h k n) : WW G M cc X Z pc lv st h k n := by
  obtain ⟨p, e, R, s, m, args, below, meth, c⟩ := X
  intro O H locs ls hR hS hl
  exact lv_aload O.1 O.2.1 hd (wl_at hl hv) (kk O H locs ls hR hS hl)
theorem ww_aload_n {j : Fin 4} {i : Nat} {x : Nat} (hd : decode cc pc = .ok (.aload_n j, 1)) (hj : (j : Nat) = i) (hv : lv[i]? = some (some (.ref x))) (kk : WW G M cc X Z (pc + 1) lv (.ref x :: st) h k n) : WW G M cc X Z pc lv st h k n := by
  obtain ⟨p, e, R, s, m, args, below, meth, c⟩ := X
  intro O H locs ls hR hS hl
  exact lv_aload_n O.1 O.2.1 hd hj (wl_at hl hv) (kk O H locs ls hR hS hl)
theorem ww_aloadN {i : Nat} (hd : decode cc pc = .ok (.aload i, 2)) (hv : lv[i]? = some (some .null)) (kk : WW G M cc X Z (pc + 2) lv (.null :: st) h k n) : WW G M cc X Z pc lv st h k n := by
  obtain ⟨p, e, R, s, m, args, below, meth, c⟩ := X
  intro O H locs ls hR hS hl
  exact lv_aloadN O.1 O.2.1 hd (wl_at hl hv) (kk O H locs ls hR hS hl)
theorem ww_aload_nN {j : Fin 4} {i : Nat} (hd : decode cc pc = .ok (.aload_n j, 1)) (hj : (j : Nat) = i) (hv : lv[i]? = some (some .null)) (kk : WW G M cc X Z (pc + 1) lv (.null :: st) h k n) : WW G M cc X Z pc lv st h k n := by
  obtain ⟨p, e, R, s, m, args, below, meth, c⟩ := X
  intro O H locs ls hR hS hl
  exact lv_aload_nN O.1 O.2.1 hd hj (wl_at hl hv) (kk O H locs ls hR hS hl)
theorem ww_istore {i : Nat} {x : Int32} (hd : decode cc pc = .ok (.istore i, 2)) (hn : Nat.blt i M.2.2.1 = true) (hw : wst lv i = true) (kk : WW G M cc X Z (pc + 2) (lv.set i (some (.int x))) st h k n) : WW G M cc X Z pc lv ((.int x) :: st) h k n := by
  obtain ⟨p, e, R, s, m, args, below, meth, c⟩ := X
  intro O H locs ls hR hS hl
  exact lv_istore O.1 O.2.1 hd hl (Nat.blt_eq.mp hn) rfl (fun ls2 hl2 => kk O H locs ls2 hR hS (wl_set hw hl2))
theorem ww_istore_n {j : Fin 4} {i : Nat} {x : Int32} (hd : decode cc pc = .ok (.istore_n j, 1)) (hj : (j : Nat) = i) (hn : Nat.blt i M.2.2.1 = true) (hw : wst lv i = true) (kk : WW G M cc X Z (pc + 1) (lv.set i (some (.int x))) st h k n) : WW G M cc X Z pc lv ((.int x) :: st) h k n := by
  obtain ⟨p, e, R, s, m, args, below, meth, c⟩ := X
  intro O H locs ls hR hS hl
  exact lv_istore_n O.1 O.2.1 hd hj hl (Nat.blt_eq.mp hn) rfl (fun ls2 hl2 => kk O H locs ls2 hR hS (wl_set hw hl2))
theorem ww_astore {i : Nat} {x : Nat} (hd : decode cc pc = .ok (.astore i, 2)) (hn : Nat.blt i M.2.2.1 = true) (hw : wst lv i = true) (kk : WW G M cc X Z (pc + 2) (lv.set i (some (.ref x))) st h k n) : WW G M cc X Z pc lv ((.ref x) :: st) h k n := by
  obtain ⟨p, e, R, s, m, args, below, meth, c⟩ := X
  intro O H locs ls hR hS hl
  exact lv_astore O.1 O.2.1 hd hl (Nat.blt_eq.mp hn) rfl (fun ls2 hl2 => kk O H locs ls2 hR hS (wl_set hw hl2))
theorem ww_astore_n {j : Fin 4} {i : Nat} {x : Nat} (hd : decode cc pc = .ok (.astore_n j, 1)) (hj : (j : Nat) = i) (hn : Nat.blt i M.2.2.1 = true) (hw : wst lv i = true) (kk : WW G M cc X Z (pc + 1) (lv.set i (some (.ref x))) st h k n) : WW G M cc X Z pc lv ((.ref x) :: st) h k n := by
  obtain ⟨p, e, R, s, m, args, below, meth, c⟩ := X
  intro O H locs ls hR hS hl
  exact lv_astore_n O.1 O.2.1 hd hj hl (Nat.blt_eq.mp hn) rfl (fun ls2 hl2 => kk O H locs ls2 hR hS (wl_set hw hl2))
theorem ww_astoreN {i : Nat} (hd : decode cc pc = .ok (.astore i, 2)) (hn : Nat.blt i M.2.2.1 = true) (hw : wst lv i = true) (kk : WW G M cc X Z (pc + 2) (lv.set i (some .null)) st h k n) : WW G M cc X Z pc lv (.null :: st) h k n := by
  obtain ⟨p, e, R, s, m, args, below, meth, c⟩ := X
  intro O H locs ls hR hS hl
  exact lv_astoreN O.1 O.2.1 hd hl (Nat.blt_eq.mp hn) rfl (fun ls2 hl2 => kk O H locs ls2 hR hS (wl_set hw hl2))
theorem ww_astore_nN {j : Fin 4} {i : Nat} (hd : decode cc pc = .ok (.astore_n j, 1)) (hj : (j : Nat) = i) (hn : Nat.blt i M.2.2.1 = true) (hw : wst lv i = true) (kk : WW G M cc X Z (pc + 1) (lv.set i (some .null)) st h k n) : WW G M cc X Z pc lv (.null :: st) h k n := by
  obtain ⟨p, e, R, s, m, args, below, meth, c⟩ := X
  intro O H locs ls hR hS hl
  exact lv_astore_nN O.1 O.2.1 hd hj hl (Nat.blt_eq.mp hn) rfl (fun ls2 hl2 => kk O H locs ls2 hR hS (wl_set hw hl2))
theorem ww_iinc {i : Nat} {d : Int} {x v : Int32} (hd : decode cc pc = .ok (.iinc i d, 3)) (hx : lv[i]? = some (some (.int x))) (hv : x + Int32.ofInt d = v) (hn : Nat.blt i M.2.2.1 = true) (hw : wst lv i = true) (kk : WW G M cc X Z (pc + 3) (lv.set i (some (.int v))) st h k n) : WW G M cc X Z pc lv st h k n := by
  obtain ⟨p, e, R, s, m, args, below, meth, c⟩ := X
  intro O H locs ls hR hS hl
  obtain ⟨q, hq⟩ := List.getElem?_of_mem (wl_mem lv 0 i _ hx)
  rw [Nat.zero_add] at hq
  exact lv_iinc O.1 O.2.1 hd hl hq hv (Nat.blt_eq.mp hn) rfl (fun ls2 hl2 => kk O H locs ls2 hR hS (wl_set hw hl2))
theorem ww_iadd {x y : Int32} (hd : decode cc pc = .ok (.iadd, 1)) (kk : WW G M cc X Z (pc + 1) lv (.int (x + y) :: st) h k n) : WW G M cc X Z pc lv (.int y :: .int x :: st) h k n := by
  obtain ⟨p, e, R, s, m, args, below, meth, c⟩ := X
  intro O H locs ls hR hS hl
  exact lv_iadd O.1 O.2.1 hd (kk O H locs ls hR hS hl)
theorem ww_isub {x y : Int32} (hd : decode cc pc = .ok (.isub, 1)) (kk : WW G M cc X Z (pc + 1) lv (.int (x - y) :: st) h k n) : WW G M cc X Z pc lv (.int y :: .int x :: st) h k n := by
  obtain ⟨p, e, R, s, m, args, below, meth, c⟩ := X
  intro O H locs ls hR hS hl
  exact lv_isub O.1 O.2.1 hd (kk O H locs ls hR hS hl)
theorem ww_imul {x y : Int32} (hd : decode cc pc = .ok (.imul, 1)) (kk : WW G M cc X Z (pc + 1) lv (.int (x * y) :: st) h k n) : WW G M cc X Z pc lv (.int y :: .int x :: st) h k n := by
  obtain ⟨p, e, R, s, m, args, below, meth, c⟩ := X
  intro O H locs ls hR hS hl
  exact lv_imul O.1 O.2.1 hd (kk O H locs ls hR hS hl)
theorem ww_iand {x y : Int32} (hd : decode cc pc = .ok (.iand, 1)) (kk : WW G M cc X Z (pc + 1) lv (.int (x &&& y) :: st) h k n) : WW G M cc X Z pc lv (.int y :: .int x :: st) h k n := by
  obtain ⟨p, e, R, s, m, args, below, meth, c⟩ := X
  intro O H locs ls hR hS hl
  exact lv_iand O.1 O.2.1 hd (kk O H locs ls hR hS hl)
theorem ww_ior {x y : Int32} (hd : decode cc pc = .ok (.ior, 1)) (kk : WW G M cc X Z (pc + 1) lv (.int (x ||| y) :: st) h k n) : WW G M cc X Z pc lv (.int y :: .int x :: st) h k n := by
  obtain ⟨p, e, R, s, m, args, below, meth, c⟩ := X
  intro O H locs ls hR hS hl
  exact lv_ior O.1 O.2.1 hd (kk O H locs ls hR hS hl)
theorem ww_ishl {x y : Int32} (hd : decode cc pc = .ok (.ishl, 1)) (kk : WW G M cc X Z (pc + 1) lv (.int (x <<< (y &&& 31)) :: st) h k n) : WW G M cc X Z pc lv (.int y :: .int x :: st) h k n := by
  obtain ⟨p, e, R, s, m, args, below, meth, c⟩ := X
  intro O H locs ls hR hS hl
  exact lv_ishl O.1 O.2.1 hd (kk O H locs ls hR hS hl)
theorem ww_ishr {x y : Int32} (hd : decode cc pc = .ok (.ishr, 1)) (kk : WW G M cc X Z (pc + 1) lv (.int (x >>> (y &&& 31)) :: st) h k n) : WW G M cc X Z pc lv (.int y :: .int x :: st) h k n := by
  obtain ⟨p, e, R, s, m, args, below, meth, c⟩ := X
  intro O H locs ls hR hS hl
  exact lv_ishr O.1 O.2.1 hd (kk O H locs ls hR hS hl)
theorem ww_idiv {x y : Int32} (hd : decode cc pc = .ok (.idiv, 1)) (hne : ¬ y = 0) (kk : WW G M cc X Z (pc + 1) lv (.int (x / y) :: st) h k n) : WW G M cc X Z pc lv (.int y :: .int x :: st) h k n := by
  obtain ⟨p, e, R, s, m, args, below, meth, c⟩ := X
  intro O H locs ls hR hS hl
  exact lv_idiv O.1 O.2.1 hd hne (kk O H locs ls hR hS hl)
theorem ww_irem {x y : Int32} (hd : decode cc pc = .ok (.irem, 1)) (hne : ¬ y = 0) (kk : WW G M cc X Z (pc + 1) lv (.int (x - x / y * y) :: st) h k n) : WW G M cc X Z pc lv (.int y :: .int x :: st) h k n := by
  obtain ⟨p, e, R, s, m, args, below, meth, c⟩ := X
  intro O H locs ls hR hS hl
  exact lv_irem O.1 O.2.1 hd hne (kk O H locs ls hR hS hl)
theorem ww_iushr {x y : Int32} (hd : decode cc pc = .ok (.iushr, 1)) (kk : WW G M cc X Z (pc + 1) lv (.int (x.toUInt32 >>> (y.toUInt32 &&& Int32.toUInt32 31)).toInt32 :: st) h k n) : WW G M cc X Z pc lv (.int y :: .int x :: st) h k n := by
  obtain ⟨p, e, R, s, m, args, below, meth, c⟩ := X
  intro O H locs ls hR hS hl
  exact lv_iushr O.1 O.2.1 hd rfl (kk O H locs ls hR hS hl)
theorem ww_ladd {x y : Int64} (hd : decode cc pc = .ok (.ladd, 1)) (kk : WW G M cc X Z (pc + 1) lv (.long (x + y) :: st) h k n) : WW G M cc X Z pc lv (.long y :: .long x :: st) h k n := by
  obtain ⟨p, e, R, s, m, args, below, meth, c⟩ := X
  intro O H locs ls hR hS hl
  exact lv_ladd O.1 O.2.1 hd (kk O H locs ls hR hS hl)
theorem ww_lsub {x y : Int64} (hd : decode cc pc = .ok (.lsub, 1)) (kk : WW G M cc X Z (pc + 1) lv (.long (x - y) :: st) h k n) : WW G M cc X Z pc lv (.long y :: .long x :: st) h k n := by
  obtain ⟨p, e, R, s, m, args, below, meth, c⟩ := X
  intro O H locs ls hR hS hl
  exact lv_lsub O.1 O.2.1 hd (kk O H locs ls hR hS hl)
theorem ww_lmul {x y : Int64} (hd : decode cc pc = .ok (.lmul, 1)) (kk : WW G M cc X Z (pc + 1) lv (.long (x * y) :: st) h k n) : WW G M cc X Z pc lv (.long y :: .long x :: st) h k n := by
  obtain ⟨p, e, R, s, m, args, below, meth, c⟩ := X
  intro O H locs ls hR hS hl
  exact lv_lmul O.1 O.2.1 hd (kk O H locs ls hR hS hl)
theorem ww_lcmp {x y : Int64} (hd : decode cc pc = .ok (.lcmp, 1)) (kk : WW G M cc X Z (pc + 1) lv (.int (lg_cmp x y) :: st) h k n) : WW G M cc X Z pc lv (.long y :: .long x :: st) h k n := by
  obtain ⟨p, e, R, s, m, args, below, meth, c⟩ := X
  intro O H locs ls hR hS hl
  exact W.lcmp O.1 O.2.1 hd (kk O H locs ls hR hS hl)
theorem ww_i2l {x : Int32} (hd : decode cc pc = .ok (.i2l, 1)) (kk : WW G M cc X Z (pc + 1) lv (.long x.toInt64 :: st) h k n) : WW G M cc X Z pc lv (.int x :: st) h k n := by
  obtain ⟨p, e, R, s, m, args, below, meth, c⟩ := X
  intro O H locs ls hR hS hl
  exact lv_i2l O.1 O.2.1 hd rfl (kk O H locs ls hR hS hl)
theorem ww_l2i {x : Int64} (hd : decode cc pc = .ok (.l2i, 1)) (kk : WW G M cc X Z (pc + 1) lv (.int x.toInt32 :: st) h k n) : WW G M cc X Z pc lv (.long x :: st) h k n := by
  obtain ⟨p, e, R, s, m, args, below, meth, c⟩ := X
  intro O H locs ls hR hS hl
  exact lv_l2i O.1 O.2.1 hd rfl (kk O H locs ls hR hS hl)
theorem ww_i2b {x : Int32} (hd : decode cc pc = .ok (.i2b, 1)) (kk : WW G M cc X Z (pc + 1) lv (.int x.toInt8.toInt32 :: st) h k n) : WW G M cc X Z pc lv (.int x :: st) h k n := by
  obtain ⟨p, e, R, s, m, args, below, meth, c⟩ := X
  intro O H locs ls hR hS hl
  exact lv_i2b O.1 O.2.1 hd rfl (kk O H locs ls hR hS hl)
theorem ww_dup {v : Value} (hd : decode cc pc = .ok (.dup, 1)) (hc : v.category = 1) (kk : WW G M cc X Z (pc + 1) lv (v :: v :: st) h k n) : WW G M cc X Z pc lv (v :: st) h k n := by
  obtain ⟨p, e, R, s, m, args, below, meth, c⟩ := X
  intro O H locs ls hR hS hl
  exact lv_dup O.1 O.2.1 hd hc (kk O H locs ls hR hS hl)
theorem ww_pop {v : Value} (hd : decode cc pc = .ok (.pop, 1)) (hc : v.category = 1) (kk : WW G M cc X Z (pc + 1) lv st h k n) : WW G M cc X Z pc lv (v :: st) h k n := by
  obtain ⟨p, e, R, s, m, args, below, meth, c⟩ := X
  intro O H locs ls hR hS hl
  exact lv_pop O.1 O.2.1 hd hc (kk O H locs ls hR hS hl)
theorem ww_dup2 {v w : Value} (hd : decode cc pc = .ok (.dup2, 1)) (hc : v.category = 1) (hc2 : w.category = 1) (kk : WW G M cc X Z (pc + 1) lv (v :: w :: v :: w :: st) h k n) : WW G M cc X Z pc lv (v :: w :: st) h k n := by
  obtain ⟨p, e, R, s, m, args, below, meth, c⟩ := X
  intro O H locs ls hR hS hl
  exact lv_dup2_11 O.1 O.2.1 hd hc hc2 (kk O H locs ls hR hS hl)
theorem ww_goto {off : Int} {tgt : Nat} (hd : decode cc pc = .ok (.goto off, 3)) (ht : (pc : Int) + off = (tgt : Int)) (kk : WW G M cc X Z tgt lv st h k n) : WW G M cc X Z pc lv st h k n := by
  obtain ⟨p, e, R, s, m, args, below, meth, c⟩ := X
  intro O H locs ls hR hS hl
  exact lv_goto O.1 O.2.1 hd ht (kk O H locs ls hR hS hl)
theorem ww_if_eq {x : Int32} {off : Int} {tgt : Nat} (hd : decode cc pc = .ok (.ifCond .eq off, 3)) (ht : (pc : Int) + off = (tgt : Int)) (kt : x = 0 → WW G M cc X Z tgt lv st h k n) (kf : ¬ x = 0 → WW G M cc X Z (pc + 3) lv st h k n) : WW G M cc X Z pc lv (.int x :: st) h k n := by
  obtain ⟨p, e, R, s, m, args, below, meth, c⟩ := X
  intro O H locs ls hR hS hl
  exact lv_if_eq O.1 O.2.1 hd ht (fun q => kt q O H locs ls hR hS hl) (fun q => kf q O H locs ls hR hS hl)
theorem ww_icmp_eq {x y : Int32} {off : Int} {tgt : Nat} (hd : decode cc pc = .ok (.if_icmp .eq off, 3)) (ht : (pc : Int) + off = (tgt : Int)) (kt : x = y → WW G M cc X Z tgt lv st h k n) (kf : ¬ x = y → WW G M cc X Z (pc + 3) lv st h k n) : WW G M cc X Z pc lv (.int y :: .int x :: st) h k n := by
  obtain ⟨p, e, R, s, m, args, below, meth, c⟩ := X
  intro O H locs ls hR hS hl
  exact lv_icmp_eq O.1 O.2.1 hd ht (fun q => kt q O H locs ls hR hS hl) (fun q => kf q O H locs ls hR hS hl)
theorem ww_if_ne {x : Int32} {off : Int} {tgt : Nat} (hd : decode cc pc = .ok (.ifCond .ne off, 3)) (ht : (pc : Int) + off = (tgt : Int)) (kt : ¬ x = 0 → WW G M cc X Z tgt lv st h k n) (kf : x = 0 → WW G M cc X Z (pc + 3) lv st h k n) : WW G M cc X Z pc lv (.int x :: st) h k n := by
  obtain ⟨p, e, R, s, m, args, below, meth, c⟩ := X
  intro O H locs ls hR hS hl
  exact lv_if_ne O.1 O.2.1 hd ht (fun q => kt q O H locs ls hR hS hl) (fun q => kf q O H locs ls hR hS hl)
theorem ww_icmp_ne {x y : Int32} {off : Int} {tgt : Nat} (hd : decode cc pc = .ok (.if_icmp .ne off, 3)) (ht : (pc : Int) + off = (tgt : Int)) (kt : ¬ x = y → WW G M cc X Z tgt lv st h k n) (kf : x = y → WW G M cc X Z (pc + 3) lv st h k n) : WW G M cc X Z pc lv (.int y :: .int x :: st) h k n := by
  obtain ⟨p, e, R, s, m, args, below, meth, c⟩ := X
  intro O H locs ls hR hS hl
  exact lv_icmp_ne O.1 O.2.1 hd ht (fun q => kt q O H locs ls hR hS hl) (fun q => kf q O H locs ls hR hS hl)
theorem ww_if_lt {x : Int32} {off : Int} {tgt : Nat} (hd : decode cc pc = .ok (.ifCond .lt off, 3)) (ht : (pc : Int) + off = (tgt : Int)) (kt : x < 0 → WW G M cc X Z tgt lv st h k n) (kf : ¬ x < 0 → WW G M cc X Z (pc + 3) lv st h k n) : WW G M cc X Z pc lv (.int x :: st) h k n := by
  obtain ⟨p, e, R, s, m, args, below, meth, c⟩ := X
  intro O H locs ls hR hS hl
  exact lv_if_lt O.1 O.2.1 hd ht (fun q => kt q O H locs ls hR hS hl) (fun q => kf q O H locs ls hR hS hl)
theorem ww_icmp_lt {x y : Int32} {off : Int} {tgt : Nat} (hd : decode cc pc = .ok (.if_icmp .lt off, 3)) (ht : (pc : Int) + off = (tgt : Int)) (kt : x < y → WW G M cc X Z tgt lv st h k n) (kf : ¬ x < y → WW G M cc X Z (pc + 3) lv st h k n) : WW G M cc X Z pc lv (.int y :: .int x :: st) h k n := by
  obtain ⟨p, e, R, s, m, args, below, meth, c⟩ := X
  intro O H locs ls hR hS hl
  exact lv_icmp_lt O.1 O.2.1 hd ht (fun q => kt q O H locs ls hR hS hl) (fun q => kf q O H locs ls hR hS hl)
theorem ww_if_ge {x : Int32} {off : Int} {tgt : Nat} (hd : decode cc pc = .ok (.ifCond .ge off, 3)) (ht : (pc : Int) + off = (tgt : Int)) (kt : 0 ≤ x → WW G M cc X Z tgt lv st h k n) (kf : ¬ 0 ≤ x → WW G M cc X Z (pc + 3) lv st h k n) : WW G M cc X Z pc lv (.int x :: st) h k n := by
  obtain ⟨p, e, R, s, m, args, below, meth, c⟩ := X
  intro O H locs ls hR hS hl
  exact lv_if_ge O.1 O.2.1 hd ht (fun q => kt q O H locs ls hR hS hl) (fun q => kf q O H locs ls hR hS hl)
theorem ww_icmp_ge {x y : Int32} {off : Int} {tgt : Nat} (hd : decode cc pc = .ok (.if_icmp .ge off, 3)) (ht : (pc : Int) + off = (tgt : Int)) (kt : y ≤ x → WW G M cc X Z tgt lv st h k n) (kf : ¬ y ≤ x → WW G M cc X Z (pc + 3) lv st h k n) : WW G M cc X Z pc lv (.int y :: .int x :: st) h k n := by
  obtain ⟨p, e, R, s, m, args, below, meth, c⟩ := X
  intro O H locs ls hR hS hl
  exact lv_icmp_ge O.1 O.2.1 hd ht (fun q => kt q O H locs ls hR hS hl) (fun q => kf q O H locs ls hR hS hl)
theorem ww_if_gt {x : Int32} {off : Int} {tgt : Nat} (hd : decode cc pc = .ok (.ifCond .gt off, 3)) (ht : (pc : Int) + off = (tgt : Int)) (kt : 0 < x → WW G M cc X Z tgt lv st h k n) (kf : ¬ 0 < x → WW G M cc X Z (pc + 3) lv st h k n) : WW G M cc X Z pc lv (.int x :: st) h k n := by
  obtain ⟨p, e, R, s, m, args, below, meth, c⟩ := X
  intro O H locs ls hR hS hl
  exact lv_if_gt O.1 O.2.1 hd ht (fun q => kt q O H locs ls hR hS hl) (fun q => kf q O H locs ls hR hS hl)
theorem ww_icmp_gt {x y : Int32} {off : Int} {tgt : Nat} (hd : decode cc pc = .ok (.if_icmp .gt off, 3)) (ht : (pc : Int) + off = (tgt : Int)) (kt : y < x → WW G M cc X Z tgt lv st h k n) (kf : ¬ y < x → WW G M cc X Z (pc + 3) lv st h k n) : WW G M cc X Z pc lv (.int y :: .int x :: st) h k n := by
  obtain ⟨p, e, R, s, m, args, below, meth, c⟩ := X
  intro O H locs ls hR hS hl
  exact lv_icmp_gt O.1 O.2.1 hd ht (fun q => kt q O H locs ls hR hS hl) (fun q => kf q O H locs ls hR hS hl)
theorem ww_if_le {x : Int32} {off : Int} {tgt : Nat} (hd : decode cc pc = .ok (.ifCond .le off, 3)) (ht : (pc : Int) + off = (tgt : Int)) (kt : x ≤ 0 → WW G M cc X Z tgt lv st h k n) (kf : ¬ x ≤ 0 → WW G M cc X Z (pc + 3) lv st h k n) : WW G M cc X Z pc lv (.int x :: st) h k n := by
  obtain ⟨p, e, R, s, m, args, below, meth, c⟩ := X
  intro O H locs ls hR hS hl
  exact lv_if_le O.1 O.2.1 hd ht (fun q => kt q O H locs ls hR hS hl) (fun q => kf q O H locs ls hR hS hl)
theorem ww_icmp_le {x y : Int32} {off : Int} {tgt : Nat} (hd : decode cc pc = .ok (.if_icmp .le off, 3)) (ht : (pc : Int) + off = (tgt : Int)) (kt : x ≤ y → WW G M cc X Z tgt lv st h k n) (kf : ¬ x ≤ y → WW G M cc X Z (pc + 3) lv st h k n) : WW G M cc X Z pc lv (.int y :: .int x :: st) h k n := by
  obtain ⟨p, e, R, s, m, args, below, meth, c⟩ := X
  intro O H locs ls hR hS hl
  exact lv_icmp_le O.1 O.2.1 hd ht (fun q => kt q O H locs ls hR hS hl) (fun q => kf q O H locs ls hR hS hl)
theorem ww_ifnonnull {x : Nat} {off : Int} {tgt : Nat} (hd : decode cc pc = .ok (.ifnonnull off, 3)) (ht : (pc : Int) + off = (tgt : Int)) (kk : WW G M cc X Z tgt lv st h k n) : WW G M cc X Z pc lv (.ref x :: st) h k n := by
  obtain ⟨p, e, R, s, m, args, below, meth, c⟩ := X
  intro O H locs ls hR hS hl
  exact lv_ifnonnull O.1 O.2.1 hd ht (kk O H locs ls hR hS hl)
theorem ww_ifnonnullN {off : Int} (hd : decode cc pc = .ok (.ifnonnull off, 3)) (kk : WW G M cc X Z (pc + 3) lv st h k n) : WW G M cc X Z pc lv (.null :: st) h k n := by
  obtain ⟨p, e, R, s, m, args, below, meth, c⟩ := X
  intro O H locs ls hR hS hl
  exact lv_ifnonnullN O.1 O.2.1 hd (kk O H locs ls hR hS hl)
theorem ww_ifnull {x : Nat} {off : Int} (hd : decode cc pc = .ok (.ifnull off, 3)) (kk : WW G M cc X Z (pc + 3) lv st h k n) : WW G M cc X Z pc lv (.ref x :: st) h k n := by
  obtain ⟨p, e, R, s, m, args, below, meth, c⟩ := X
  intro O H locs ls hR hS hl
  exact lv_ifnull O.1 O.2.1 hd (kk O H locs ls hR hS hl)
theorem ww_ifnullN {off : Int} {tgt : Nat} (hd : decode cc pc = .ok (.ifnull off, 3)) (ht : (pc : Int) + off = (tgt : Int)) (kk : WW G M cc X Z tgt lv st h k n) : WW G M cc X Z pc lv (.null :: st) h k n := by
  obtain ⟨p, e, R, s, m, args, below, meth, c⟩ := X
  intro O H locs ls hR hS hl
  exact lv_ifnullN O.1 O.2.1 hd ht (kk O H locs ls hR hS hl)
end WR
