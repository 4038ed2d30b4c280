/-! ===== multianewarray of two dimensions, walked from the model's own definition (nothing of Shelf42) ===== -/
def mq_in (c : ClassId) (K : Nat) (dv : Value) : Cell := { cls := c, slots := Array.replicate K dv, vm := .none }
def mq_out (c : ClassId) (N h0 i : Nat) : Cell := arrV c N (fun j => va_rf (if j < i then some (h0 + 1 + j) else none))
theorem mq_out_size (c : ClassId) (N h0 i : Nat) : (mq_out c N h0 i).slots.size = N := arrV_size _ _ _
theorem mq_in_size (c : ClassId) (K : Nat) (dv : Value) : (mq_in c K dv).slots.size = K := by simp [mq_in]
theorem mq_out_zero (c : ClassId) (N h0 : Nat) : ({ cls := c, slots := Array.replicate N .null } : Cell) = mq_out c N h0 0 := by
  unfold mq_out
  refine (arrV_new c N .null).trans (congrArg (arrV c N) (funext fun j => ?_))
  simp [va_rf]
theorem mq_out_succ (c : ClassId) (N h0 i : Nat) : (mq_out c N h0 i).setSlot i (.ref (h0 + 1 + i)) = mq_out c N h0 (i + 1) := by
  unfold mq_out
  rw [arrV_store]
  refine congrArg (arrV c N) (funext fun j => ?_)
  unfold updV
  by_cases e : j = i
  · subst e
    simp [va_rf]
  · have : (j < i + 1) = (j < i) := propext ⟨fun h => by omega, fun h => by omega⟩
    simp [e, this]
/-- the state when i of the N rows have been made and hung in -/
def mq_st (T : State) (cA cI : ClassId) (N K : Nat) (dv : Value) : Nat → State
  | 0 => T.pushCell (mq_out cA N T.heap.size 0)
  | i + 1 => ((mq_st T cA cI N K dv i).pushCell (mq_in cI K dv)).setCell T.heap.size (mq_out cA N T.heap.size (i + 1))
section MQ
variable {T : State} {cA cI : ClassId} {N K : Nat} {dv : Value}
theorem mq_size : ∀ i : Nat, (mq_st T cA cI N K dv i).heap.size = T.heap.size + 1 + i
  | 0 => by simp [mq_st]
  | i + 1 => by
    have := mq_size i
    simp [mq_st, this]
    omega
theorem mq_used : ∀ i : Nat, (mq_st T cA cI N K dv i).slotsUsed = T.slotsUsed + N + i * K
  | 0 => by simp [mq_st, mq_out_size]
  | i + 1 => by
    have := mq_used i
    simp [mq_st, mq_in_size, this, Nat.succ_mul]
    omega
theorem mq_vm : ∀ i : Nat, (mq_st T cA cI N K dv i).vm = T.vm
  | 0 => rfl
  | i + 1 => mq_vm i
theorem mq_top : ∀ i : Nat, (mq_st T cA cI N K dv i).topJava? = T.topJava?
  | 0 => rfl
  | i + 1 => mq_top i
theorem mq_outer : ∀ i : Nat, (mq_st T cA cI N K dv i).heap[T.heap.size]? = some (mq_out cA N T.heap.size i)
  | 0 => by simp [mq_st]
  | i + 1 => by
    have := mq_size (T := T) (cA := cA) (cI := cI) (N := N) (K := K) (dv := dv) i
    have hl : T.heap.size < (mq_st T cA cI N K dv i).heap.size + 1 := by omega
    simp [mq_st, Array.getElem?_setIfInBounds, hl]
theorem mq_old {x : Nat} (hx : x < T.heap.size) : ∀ i : Nat, (mq_st T cA cI N K dv i).heap[x]? = T.heap[x]?
  | 0 => by
    show (T.heap.push _)[x]? = _
    rw [Array.getElem?_push, if_neg (by omega)]
  | i + 1 => by
    have h1 := mq_size (T := T) (cA := cA) (cI := cI) (N := N) (K := K) (dv := dv) i
    show (((mq_st T cA cI N K dv i).heap.push _).setIfInBounds T.heap.size _)[x]? = _
    rw [Array.getElem?_setIfInBounds, if_neg (by omega), Array.getElem?_push, if_neg (by omega)]
    exact mq_old hx i
theorem mq_inner {j : Nat} : ∀ i : Nat, j < i → (mq_st T cA cI N K dv i).heap[T.heap.size + 1 + j]? = some (mq_in cI K dv)
  | 0, h => by omega
  | i + 1, h => by
    have h1 := mq_size (T := T) (cA := cA) (cI := cI) (N := N) (K := K) (dv := dv) i
    show (((mq_st T cA cI N K dv i).heap.push _).setIfInBounds T.heap.size _)[T.heap.size + 1 + j]? = _
    rw [Array.getElem?_setIfInBounds, if_neg (by omega), Array.getElem?_push]
    by_cases e : j = i
    · rw [if_pos (by omega)]
    · rw [if_neg (by omega)]
      exact mq_inner i (by omega)
end MQ
section MQS
variable {p : Program} {l : Launch} {e : Env} {R : Room} {s : State} {m : MethodId} {args : Array Value} {below : List Frame} {meth : Method} {c : Code} {T : State} {locs : List Loc} {cells slots : Nat}
theorem mq_stand (X : Stand p l e R s m args below meth c T locs cells slots) (cA cI : ClassId) (N K : Nat) (dv : Value) : ∀ i : Nat,
    Stand p l e R s m args below meth c (mq_st T cA cI N K dv i) (locs ++ (List.range i).map (fun j => (⟨T.heap.size, j⟩ : Loc))) (cells + 1 + i) (slots + N + i * K)
  | 0 => by
    have h := X.pushed (mq_out cA N T.heap.size 0)
    rw [mq_out_size] at h
    simpa [mq_st] using h
  | i + 1 => by
    have h := (mq_stand X cA cI N K dv i).pushed (mq_in cI K dv)
    have h1 := mq_size (T := T) (cA := cA) (cI := cI) (N := N) (K := K) (dv := dv) i
    have hc : ((mq_st T cA cI N K dv i).pushCell (mq_in cI K dv)).heap[T.heap.size]? = some (mq_out cA N T.heap.size i) := by
      show ((mq_st T cA cI N K dv i).heap.push _)[T.heap.size]? = _
      rw [Array.getElem?_push, if_neg (by omega)]
      exact mq_outer i
    have h2 := h.stored hc i (.ref (T.heap.size + 1 + i))
    rw [mq_out_succ, mq_in_size] at h2
    rw [List.range_succ, List.map_append, ← List.append_assoc, Nat.succ_mul, ← Nat.add_assoc (slots + N), ← Nat.add_assoc (cells + 1)]
    exact h2
end MQS
section MQW
variable {E : CtlPost} {e : Env} {d : Bool} {acts : List Action} {s : State} {f : JFrame}
/-- one row -/
theorem mq_row {cI cz : ClassId} {kI : Class} {ty : FieldType} {k : Int32} {Q : Addr → Pre} (hk : ¬ k < 0) (hI : s.vm.classes[cI]? = some kI) (hIk : kI.kind = .array cz ty) (hlimit : ¬ k.toNatClampNeg > e.platform.arrayLengthLimit)
    (hheap : ¬ k.toNatClampNeg * componentBytes ty > e.platform.maxHeapBytes) (hcells : s.heap.size < e.platform.maxCells) (hslots : s.slotsUsed + k.toNatClampNeg ≤ e.platform.maxSlots) (hdf : fits ty (defaultValue ty) = true)
    (hq : ∀ acts', Q s.heap.size d acts' (s.pushCell (mq_in cI k.toNatClampNeg (defaultValue ty)))) : wp (Op.multianewarray.make cI [k]) Q E e d acts s := by
  unfold Op.multianewarray.make
  rw [if_neg hk]
  simp only [wp_bind', wp_pure', W.theClass]
  refine ⟨kI, hI, ?_⟩
  rw [hIk]
  exact W.newArray_of hI hIk hlimit hheap hcells hslots hdf hq
/-- all of it -/
theorem mq_make {cA cI cz : ClassId} {kA kI : Class} {ty : FieldType} {n k : Int32} {Q : Addr → Pre} (hn : ¬ n < 0) (hk : ¬ k < 0) (hA : s.vm.classes[cA]? = some kA) (hAk : kA.kind = .array cI (.array ty)) (hI : s.vm.classes[cI]? = some kI) (hIk : kI.kind = .array cz ty)
    (hl1 : ¬ n.toNatClampNeg > e.platform.arrayLengthLimit) (hl2 : ¬ k.toNatClampNeg > e.platform.arrayLengthLimit) (hh1 : ¬ n.toNatClampNeg * componentBytes (.array ty) > e.platform.maxHeapBytes) (hh2 : ¬ k.toNatClampNeg * componentBytes ty > e.platform.maxHeapBytes)
    (hcells : s.heap.size + (1 + n.toNatClampNeg) ≤ e.platform.maxCells) (hslots : s.slotsUsed + (n.toNatClampNeg + n.toNatClampNeg * k.toNatClampNeg) ≤ e.platform.maxSlots) (hdf : fits ty (defaultValue ty) = true)
    (hq : ∀ d' acts', Q s.heap.size d' acts' ((mq_st s cA cI n.toNatClampNeg k.toNatClampNeg (defaultValue ty) n.toNatClampNeg).setTop f)) : wp (Op.multianewarray.make cA [n, k]) Q E e d acts (s.setTop f) := by
  unfold Op.multianewarray.make
  rw [if_neg hn]
  simp only [wp_bind', wp_pure', W.theClass]
  refine ⟨kA, hA, ?_⟩
  rw [hAk]
  simp only [wp_bind', wp_pure']
  refine W.newArray_of (s := s.setTop f) hA hAk hl1 hh1 (by show s.heap.size < _; omega) (by show s.slotsUsed + _ ≤ _; omega) rfl (fun acts' => ?_)
  rw [List.find?_cons_of_neg (by simpa using hk), List.find?_nil]
  simp only [ite_self, wp_bind', wp_pure', Std.Legacy.Range.forIn_eq_forIn_range']
  have hN : ([:n.toNatClampNeg] : Std.Legacy.Range).size = n.toNatClampNeg := by simp [Std.Legacy.Range.size]
  rw [hN]
  generalize hM : n.toNatClampNeg = N at hslots hcells hq ⊢
  generalize hL : k.toNatClampNeg = K at hslots hq hl2 hh2
  refine wp_forIn_inv (fun r t => ∃ i, i ≤ N ∧ r = List.range' i (N - i) ∧ t = (mq_st s cA cI N K (defaultValue ty) i).setTop f) _ _ ⟨0, Nat.zero_le _, rfl, ?_⟩ ?_ ?_
  · rw [mq_out_zero cA N s.heap.size]
    rfl
  · rintro x rest t d2 acts2 Q2 ⟨i, hi, hr, rfl⟩ hQ2
    obtain ⟨j, hj⟩ : ∃ j, N - i = j + 1 := by
      cases hc : N - i with
      | zero => rw [hc] at hr; cases hr
      | succ j => exact ⟨j, rfl⟩
    rw [hj, List.range'_succ] at hr
    have e1 : i = x := (List.cons.inj hr).1.symm
    have e2 : List.range' (i + 1) j = rest := (List.cons.inj hr).2.symm
    subst e1
    subst e2
    have z1 := mq_size (T := s) (cA := cA) (cI := cI) (N := N) (K := K) (dv := defaultValue ty) i
    have z2 := mq_used (T := s) (cA := cA) (cI := cI) (N := N) (K := K) (dv := defaultValue ty) i
    have z3 := mq_vm (T := s) (cA := cA) (cI := cI) (N := N) (K := K) (dv := defaultValue ty) i
    have z4 : i * K + K ≤ N * K := by
      rw [← Nat.succ_mul]
      exact Nat.mul_le_mul_right _ (by omega)
    simp only [wp_bind', wp_pure', W.writeLoc]
    refine mq_row (s := (mq_st s cA cI N K (defaultValue ty) i).setTop f) (kI := kI) (cz := cz) (ty := ty) hk (by rw [State.vm_setTop, z3]; exact hI) hIk (by rw [hL]; exact hl2) (by rw [hL]; exact hh2) (by rw [State.heap_setTop, z1]; omega) (by rw [State.slotsUsed_setTop, z2, hL]; omega) hdf (fun acts3 => ?_)
    rw [hL]
    refine ⟨mq_out cA N s.heap.size i, ?_, fun h => (by cases h), by rw [mq_out_size]; show i < N; omega, ?_, ?_⟩
    · show ((mq_st s cA cI N K (defaultValue ty) i).heap.push _)[s.heap.size]? = _
      rw [Array.getElem?_push, if_neg (by omega)]
      exact mq_outer i
    · show ((mq_st s cA cI N K (defaultValue ty) i)).fitsSlot cA .none i _ = true
      simp [State.fitsSlot, State.slotType?, z3, hA, hAk, fits]
    · refine hQ2 _ _ _ ⟨i + 1, by omega, by rw [show N - (i + 1) = j by omega], ?_⟩
      show (((mq_st s cA cI N K (defaultValue ty) i).pushCell _).setCell s.heap.size ((mq_out cA N s.heap.size i).setSlot i (.ref (mq_st s cA cI N K (defaultValue ty) i).heap.size))).setTop f = _
      rw [z1, mq_out_succ]
      rfl
  · rintro t d2 acts2 ⟨i, hi, hr, rfl⟩
    have : i = N := by
      cases hc : N - i with
      | zero => omega
      | succ j => rw [hc, List.range'_succ] at hr; cases hr
    subst this
    exact hq _ _
/-- the instruction's body, once its class entry is settled -/
theorem mq_sem {index : Nat} {cA cI cz : ClassId} {kA kI : Class} {ty : FieldType} {n k : Int32} {rest : List Value} {Q : Unit → Pre} (hs : s.topJava?.isSome) (hr : s.vm.classReady f.method.cls index cA) (hst : f.stack = .int k :: .int n :: rest)
    (hn : ¬ n < 0) (hk : ¬ k < 0) (hA : s.vm.classes[cA]? = some kA) (hAk : kA.kind = .array cI (.array ty)) (hI : s.vm.classes[cI]? = some kI) (hIk : kI.kind = .array cz ty)
    (hl1 : ¬ n.toNatClampNeg > e.platform.arrayLengthLimit) (hl2 : ¬ k.toNatClampNeg > e.platform.arrayLengthLimit) (hh1 : ¬ n.toNatClampNeg * componentBytes (.array ty) > e.platform.maxHeapBytes) (hh2 : ¬ k.toNatClampNeg * componentBytes ty > e.platform.maxHeapBytes)
    (hcells : s.heap.size + (1 + n.toNatClampNeg) ≤ e.platform.maxCells) (hslots : s.slotsUsed + (n.toNatClampNeg + n.toNatClampNeg * k.toNatClampNeg) ≤ e.platform.maxSlots) (hdf : fits ty (defaultValue ty) = true)
    (hq : ∀ acts', Q () true acts' ((mq_st s cA cI n.toNatClampNeg k.toNatClampNeg (defaultValue ty) n.toNatClampNeg).setTop { f with stack := .ref s.heap.size :: rest })) : wp (Op.multianewarray.sem index 2) Q E e d acts (s.setTop f) := by
  unfold Op.multianewarray.sem
  simp only [wp_bind', W.resolveClassAt_ready (State.method?_setTop f hs) hr, W.popN, State.topJava?_setTop' _ hs]
  rw [if_neg (by omega)]
  refine ⟨f, rfl, [.int n, .int k], rest, rfl, hst, ?_⟩
  simp only [List.mapM_cons, List.mapM_nil, wp_bind', wp_pure', State.setTop_setTop]
  refine mq_make hn hk hA hAk hI hIk hl1 hl2 hh1 hh2 hcells hslots hdf (fun d' acts' => ?_)
  have ht : (mq_st s cA cI n.toNatClampNeg k.toNatClampNeg (defaultValue ty) n.toNatClampNeg).topJava?.isSome := by rw [mq_top]; exact hs
  simp only [wp_bind', W.mark, W.pushRef, State.topJava?_setTop' _ ht, Option.some.injEq, exists_eq_left', State.setTop_setTop]
  exact hq _
end MQW
/-- what 'a class of arrays over arrays of ty is there' says of the tables -/
theorem mq_over {args : Array Value} {s : State} {ty : FieldType} (h : (Cond.arrayOver (.array ty)).before args s = true) :
    ∃ cI cA kA, s.vm.findClass (FieldType.array ty).toString = some cI ∧ s.vm.classes[cA]? = some kA ∧ kA.kind = .array cI (.array ty) ∧ s.vm.findClass ("[" ++ (FieldType.array ty).toString) = some cA := by
  simp only [Cond.before, Cond.holds, Cond.value, beq_iff_eq] at h
  cases hI : s.vm.findClass (FieldType.array ty).toString with
  | none => simp [hI] at h
  | some cI =>
    simp only [hI, Option.bind_some, Option.bind_eq_some_iff, Option.map_eq_some_iff] at h
    obtain ⟨cA, hx, kA, hA, hb⟩ := h
    obtain ⟨hlt, hy, -⟩ := Array.findIdx?_eq_some_iff_getElem.mp hx
    rw [(Array.getElem?_eq_some_iff.mp hA).2] at hy
    cases hkd : kA.kind with
    | array co te =>
      rw [hkd] at hy hb
      simp only [Bool.and_eq_true, decide_eq_true_eq] at hb
      have e1 : co = cI := by simpa using hy
      exact ⟨cI, cA, kA, rfl, hA, by rw [hkd, e1, hb.1], hb.2⟩
    | _ => rw [hkd] at hb; cases hb
section MQT
variable {p : Program} {l : Launch} {e : Env} {R : Room} {s : State} {m : MethodId} {args : Array Value} {below : List Frame} {meth : Method} {c : Code} {T : State} {locs : List Loc} {cells slots : Nat}
/-- the step: whatever is reached behind it is reached from here -/
theorem mq_step (X : Stand p l e R s m args below meth c T locs cells slots) (hexec : p.tables.exec = Jvm.exec) {own : String} {index : Nat} {ty : FieldType} (hown : s.vm.findClass own = some m.cls) (hclink : (Cond.classLink own index ("[" ++ (FieldType.array ty).toString)).before args s = true)
    (hover : (Cond.arrayOver (.array ty)).before args s = true) (harr : (Cond.arrayClass ty).before args s = true) {g : JFrame} (hg : g.method = m) (hdg : decode c.code g.pc = .ok (.multianewarray index 2, 4)) {n k : Int32} {rest : List Value} (hstack : g.stack = .int k :: .int n :: rest)
    (hn : ¬ n < 0) (hk : ¬ k < 0) (hb1 : n.toNatClampNeg * 4 ≤ 536870912) (hb2 : k.toNatClampNeg * componentBytes ty ≤ 536870912) (hb3 : k.toNatClampNeg ≤ 536870912) (hdf : fits ty (defaultValue ty) = true)
    (hcells : cells + (1 + n.toNatClampNeg) ≤ R.cells) (hslots : slots + (n.toNatClampNeg + n.toNatClampNeg * k.toNatClampNeg) ≤ R.slots) :
    ∃ (vm1 : Vm) (cA cI : ClassId), s.vm.findClass ("[" ++ (FieldType.array ty).toString) = some cA ∧ s.vm.findClass (FieldType.array ty).toString = some cI ∧ (∃ kA, s.vm.classes[cA]? = some kA ∧ kA.kind = .array cI (.array ty)) ∧
      Stand p l e R s m args below meth c (mq_st (T.setVm vm1) cA cI n.toNatClampNeg k.toNatClampNeg (defaultValue ty) n.toNatClampNeg) (locs ++ (List.range n.toNatClampNeg).map (fun j => (⟨T.heap.size, j⟩ : Loc))) (cells + 1 + n.toNatClampNeg) (slots + n.toNatClampNeg + n.toNatClampNeg * k.toNatClampNeg) ∧
      ∀ target, Steps p.tables e below ((mq_st (T.setVm vm1) cA cI n.toNatClampNeg k.toNatClampNeg (defaultValue ty) n.toNatClampNeg).setTop { g with pc := g.pc + 4, stack := .ref T.heap.size :: rest }) target → Steps p.tables e below (T.setTop g) target := by
  subst hg
  have hpl : e.platform.magicAccessors = ({} : Platform).magicAccessors := by rw [X.admits.platform]
  obtain ⟨cI, cA, kA, hcI, hkA, hkAk, hcA⟩ := mq_over hover
  obtain ⟨cJ, kI, cz, hcJ, hkI, hkIk⟩ := Cond.arrayClass_spec harr
  have e0 : cJ = cI := Option.some.inj (hcJ.symm.trans hcI)
  subst e0
  obtain ⟨cB, hcB, hcl⟩ := Cond.classLink_spec hown hclink e.platform hpl
  have e1 : cB = cA := Option.some.inj (hcB.symm.trans hcA)
  subst e1
  obtain ⟨hg1, hw1, hr1⟩ := State.classEntry (e := e) X.warmed hcl
  generalize T.vm.noted g.method.cls index (.cls cB) = vm1 at hg1 hw1 hr1
  have hal : s.vm.Alike vm1 := hw1.alike
  obtain ⟨kA1, hA1, eA⟩ := hal.2.2 _ _ hkA
  obtain ⟨kI1, hI1, eI⟩ := hal.2.2 _ _ hkI
  have hA1k : kA1.kind = .array cJ (.array ty) := by rw [eA]; exact hkAk
  have hI1k : kI1.kind = .array cz ty := by rw [eI]; exact hkIk
  obtain ⟨room1, room2⟩ := X.roomAbove hcells hslots
  refine ⟨vm1, cB, cJ, hcA, hcI, ⟨kA, hkA, hkAk⟩, mq_stand (X.noted hw1) cB cJ _ _ _ _, fun target hrest => ?_⟩
  refine Steps.instr (c := c) (by simpa using X.here) ?_
  rw [hdg]
  show wpRun (p.tables.exec _) _ _ _ _
  rw [hexec]
  show wp (Op.multianewarray.sem index 2) _ _ _ _ _ _
  have hcold : ∀ {Q : Unit → Pre} {E : CtlPost} {d : Bool} {acts : List Action}, wp (Op.multianewarray.sem index 2) Q E e d acts (T.setTop g) ↔ wp (Op.multianewarray.sem index 2) Q E e d acts ((T.setVm vm1).setTop g) := by
    intro Q E d acts
    simp only [Op.multianewarray.sem, wp_bind']
    exact W.resolveClassAt_transfer (s := T.setTop g) (State.method?_setTop g X.here.top) hg1 hr1
  rw [hcold]
  refine mq_sem (s := T.setVm vm1) X.here.top hr1 hstack hn hk hA1 hA1k hI1 hI1k ?_ ?_ ?_ ?_ room1 room2 hdf (fun acts1 acts2 => ?_)
  · rw [Launch.admits_arrayLengthLimit X.admits]; omega
  · rw [Launch.admits_arrayLengthLimit X.admits]; omega
  · rw [Launch.admits_maxHeapBytes X.admits]; show ¬ n.toNatClampNeg * 4 > 536870912; omega
  · rw [Launch.admits_maxHeapBytes X.admits]; omega
  · rw [afterInstr_ok]
    exact hrest
end MQT
