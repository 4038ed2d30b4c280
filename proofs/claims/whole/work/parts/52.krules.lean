/-! ===== constructors: a judgement over a growing world ===== -/
theorem va_AOA.moved {ty : FieldType} {u U : State} (hvm : u.vm.Alike U.vm) (h : va_AOA ty u) : va_AOA ty U := by
  unfold va_AOA at h
  simp only [Cond.before, Cond.holds, Cond.value, beq_iff_eq] at h
  cases hc : u.vm.findClass (FieldType.array ty).toString with
  | none => simp [hc] at h
  | some comp =>
    simp only [hc, Option.bind_some, Option.bind_eq_some_iff, Option.map_eq_some_iff] at h
    obtain ⟨c, hi0, k, hk, hb⟩ := h
    have hkn : u.vm.findClass ("[" ++ (FieldType.array ty).toString) = some c ∧ ∃ cm, k.kind = .array cm (.array ty) := by
      cases hkind : k.kind with
      | array component t =>
        rw [hkind] at hb
        simp at hb
        exact ⟨hb.2, component, by rw [hb.1]⟩
      | _ => rw [hkind] at hb; simp at hb
    obtain ⟨hnm, cm, hkind⟩ := hkn
    obtain ⟨k', hk', he⟩ := hvm.2.2 _ _ hk
    have hi : (U.vm.classes.findIdx? fun (x : Class) => match x.kind with | .array component _ => component == comp | _ => false) = some c := by
      have q1 := va_idx_bare U.vm comp
      have q2 := va_idx_bare u.vm comp
      have q3 : U.vm.bare = u.vm.bare := by first | exact hvm.bare_eq | exact hvm.bare_eq.symm
      rw [q3] at q1
      exact q1.symm.trans (q2.trans hi0)
    have hkind' : k'.kind = .array cm (.array ty) := by rw [he]; exact hkind
    have f1 : U.vm.findClass (FieldType.array ty).toString = some comp := by rw [hvm.findClass]; exact hc
    have f2 : U.vm.findClass ("[" ++ (FieldType.array ty).toString) = some c := by rw [hvm.findClass]; exact hnm
    unfold va_AOA Cond.before Cond.holds
    simp only [Cond.value]
    rw [f1, Option.bind_some]
    refine (congrArg (fun o : Option Nat => (o.bind (fun c => (U.vm.classes[c]?).map fun (k : Class) => match k.kind with | .array _ t => decide (t = FieldType.array ty) && decide (U.vm.findClass ("[" ++ (FieldType.array ty).toString) = some c) | _ => false) == some true)) hi).trans ?_
    simp [hk', hkind', f2]
def kNl : List (String × Nat × MethodName) := [(RX0, 18, yX4_init), (RX7, 18, yX4_init), (RX7, 25, yX1_init), (RX7, 32, yX5_init), (RX7, 39, yX3_init), (RX7, 46, yX6_init), (RX7, 57, yX0_init)]
def kN (U : State) : Prop := jN U ∧ va_AO RX0 U ∧ va_AOA .int U ∧ va_AOA .long U ∧ ∀ q ∈ kNl, va_Nw (.methodLinkNest q.1 q.2.1 q.2.2 RX7) U
theorem kN.warm {s U : State} (hW : s.WarmedH U.vm) (h : kN s) : kN U := ⟨jN.warm hW h.1, va_AO.moved hW.alike h.2.1, va_AOA.moved hW.alike h.2.2.1, va_AOA.moved hW.alike h.2.2.2.1, fun q hq => va_Nw.warmM hW (h.2.2.2.2 q hq)⟩
def Kj (l : Launch) (D : va_G) (A : Nat → Prop) (G : jG) (nL : Nat) (ws : va_W) (ce sl : Nat) (pc : Nat) (loc : List (Nat × Value)) (st : List Value) : Prop :=
  ∀ (H : Heap) (locs : List Loc) (ls : Array Slot), va_P D vwCl ws H → va_D A ws → va_S A (gs G).heap H locs → lv_has ls nL loc →
    W (gp G) l (ge G) (gR G) (gs G) (gm G) (gar G) (gb G) (gme G) (gc G) H locs ce sl (gQ G) (F0 (gm G) pc ls st)
def kX (D : va_G) (A : Nat → Prop) (g : Nat → ClassId) (G : jG) (own : String) (cc : ByteArray) (nL fr lo CE SL : Nat) : Prop :=
  (gp G).tables.exec = Jvm.exec ∧ (gc G).code = cc ∧ (gc G).maxLocals = nL ∧ (gs G).vm.findClass own = some (gm G).cls ∧ (∀ w ∈ wsL_law, w.before (gar G) (gs G) = true) ∧
  va_K D vwCl (jT g) (gs G) ∧ kN (gs G) ∧ (∀ q, (gs G).heap.size ≤ q → A q) ∧ (gR G).frames = fr ∧ (gR G).locals = lo ∧ (gR G).cells = CE ∧ (gR G).slots = SL
section KR
variable {l : Launch} {D : va_G} {A : Nat → Prop} {g : Nat → ClassId} {G : jG} {own : String} {cc : ByteArray} {nL fr lo CE SL : Nat} {ws : va_W} {ce sl : Nat} {pc : Nat} {loc loc' : List (Nat × Value)} {rest : List Value}
theorem K_iconst (hX : kX D A g G own cc nL fr lo CE SL) {n : Int} {v : Int32} (hd : decode cc pc = .ok (.iconst n, 1)) (hv : Int32.ofInt n = v) (k : Kj l D A G nL ws ce sl (pc + 1) loc (.int v :: rest)) : Kj l D A G nL ws ce sl pc loc rest :=
  fun H locs ls hP hD hS hl => lv_iconst hX.1 hX.2.1 hd hv (k H locs ls hP hD hS hl)
theorem K_bipush (hX : kX D A g G own cc nL fr lo CE SL) {n : Int} {v : Int32} (hd : decode cc pc = .ok (.bipush n, 2)) (hv : (Int8.ofInt n).toInt32 = v) (k : Kj l D A G nL ws ce sl (pc + 2) loc (.int v :: rest)) : Kj l D A G nL ws ce sl pc loc rest :=
  fun H locs ls hP hD hS hl => lv_bipush hX.1 hX.2.1 hd hv (k H locs ls hP hD hS hl)
theorem K_sipush (hX : kX D A g G own cc nL fr lo CE SL) {n : Int} {v : Int32} (hd : decode cc pc = .ok (.sipush n, 3)) (hv : (Int16.ofInt n).toInt32 = v) (k : Kj l D A G nL ws ce sl (pc + 3) loc (.int v :: rest)) : Kj l D A G nL ws ce sl pc loc rest :=
  fun H locs ls hP hD hS hl => lv_sipush hX.1 hX.2.1 hd hv (k H locs ls hP hD hS hl)
theorem K_dup (hX : kX D A g G own cc nL fr lo CE SL) {va : Value} (hd : decode cc pc = .ok (.dup, 1)) (h1 : va.category = 1) (k : Kj l D A G nL ws ce sl (pc + 1) loc (va :: va :: rest)) : Kj l D A G nL ws ce sl pc loc (va :: rest) :=
  fun H locs ls hP hD hS hl => lv_dup hX.1 hX.2.1 hd h1 (k H locs ls hP hD hS hl)
theorem K_iload_n (hX : kX D A g G own cc nL fr lo CE SL) {k : Fin 4} {x : Int32} (i : Nat) (hd : decode cc pc = .ok (.iload_n k, 1)) (hi : loc[i]? = some ((k : Nat), .int x)) (kk : Kj l D A G nL ws ce sl (pc + 1) loc (.int x :: rest)) : Kj l D A G nL ws ce sl pc loc rest :=
  fun H locs ls hP hD hS hl => lv_iload_n hX.1 hX.2.1 hd rfl (lv_at hl i hi) (kk H locs ls hP hD hS hl)
theorem K_aload_n (hX : kX D A g G own cc nL fr lo CE SL) {k : Fin 4} {x : Nat} (i : Nat) (hd : decode cc pc = .ok (.aload_n k, 1)) (hi : loc[i]? = some ((k : Nat), .ref x)) (kk : Kj l D A G nL ws ce sl (pc + 1) loc (.ref x :: rest)) : Kj l D A G nL ws ce sl pc loc rest :=
  fun H locs ls hP hD hS hl => lv_aload_n hX.1 hX.2.1 hd rfl (lv_at hl i hi) (kk H locs ls hP hD hS hl)
theorem K_istore_n (hX : kX D A g G own cc nL fr lo CE SL) {k : Fin 4} {x : Int32} (hd : decode cc pc = .ok (.istore_n k, 1)) (hb : (k : Nat) < nL) (hl : ((k : Nat), Value.int x) :: loc.filter (fun q => !(q.1 == (k : Nat)) && !(q.1 + 1 == (k : Nat) && q.2.category == 2)) = loc') (kk : Kj l D A G nL ws ce sl (pc + 1) loc' rest) : Kj l D A G nL ws ce sl pc loc (.int x :: rest) :=
  fun H locs ls hP hD hS h => lv_istore_n hX.1 hX.2.1 hd rfl h hb hl (fun ls' h' => kk H locs ls' hP hD hS h')
theorem K_astore_n (hX : kX D A g G own cc nL fr lo CE SL) {k : Fin 4} {x : Nat} (hd : decode cc pc = .ok (.astore_n k, 1)) (hb : (k : Nat) < nL) (hl : ((k : Nat), Value.ref x) :: loc.filter (fun q => !(q.1 == (k : Nat)) && !(q.1 + 1 == (k : Nat) && q.2.category == 2)) = loc') (kk : Kj l D A G nL ws ce sl (pc + 1) loc' rest) : Kj l D A G nL ws ce sl pc loc (.ref x :: rest) :=
  fun H locs ls hP hD hS h => lv_astore_n hX.1 hX.2.1 hd rfl h hb hl (fun ls' h' => kk H locs ls' hP hD hS h')
theorem K_iinc (hX : kX D A g G own cc nL fr lo CE SL) {k : Nat} {n : Int} {x v : Int32} (i : Nat) (hd : decode cc pc = .ok (.iinc k n, 3)) (hi : loc[i]? = some (k, .int x)) (hv : x + Int32.ofInt n = v) (hb : k < nL) (hl : (k, Value.int v) :: loc.filter (fun q => !(q.1 == k) && !(q.1 + 1 == k && q.2.category == 2)) = loc') (kk : Kj l D A G nL ws ce sl (pc + 3) loc' rest) : Kj l D A G nL ws ce sl pc loc rest :=
  fun H locs ls hP hD hS h => lv_iinc hX.1 hX.2.1 hd h hi hv hb hl (fun ls' h' => kk H locs ls' hP hD hS h')
theorem K_icmp_ge (hX : kX D A g G own cc nL fr lo CE SL) {x y : Int32} {off : Int} (tgt : Nat) (hd : decode cc pc = .ok (.if_icmp .ge off, 3)) (ht : (pc : Int) + off = (tgt : Int)) (kt : y ≤ x → Kj l D A G nL ws ce sl tgt loc rest) (kf : ¬ y ≤ x → Kj l D A G nL ws ce sl (pc + 3) loc rest) : Kj l D A G nL ws ce sl pc loc (.int y :: .int x :: rest) :=
  fun H locs ls hP hD hS hl => lv_icmp_ge hX.1 hX.2.1 hd ht (fun h => kt h H locs ls hP hD hS hl) (fun h => kf h H locs ls hP hD hS hl)
theorem K_goto (hX : kX D A g G own cc nL fr lo CE SL) {off : Int} (tgt : Nat) (hd : decode cc pc = .ok (.goto off, 3)) (ht : (pc : Int) + off = (tgt : Int)) (k : Kj l D A G nL ws ce sl tgt loc rest) : Kj l D A G nL ws ce sl pc loc rest :=
  fun H locs ls hP hD hS hl => lv_goto hX.1 hX.2.1 hd ht (k H locs ls hP hD hS hl)
theorem K_obj (hX : kX D A g G own cc nL fr lo CE SL) {idx b : Nat} (hw : Cond.methodLink own idx objectInit ∈ wsL_law) (hd : decode cc pc = .ok (.invokespecial idx, 3)) (hf : 1 ≤ fr) (hlo : (rest.map fun v => v.category).sum + 12 ≤ lo) (k : Kj l D A G nL ws ce sl (pc + 3) loc rest) : Kj l D A G nL ws ce sl pc loc (.ref b :: rest) := by
  intro H locs ls hP hD hS hl
  have hts := hX.2.2.2.2.1
  refine W.objInit hX.1 hX.2.1 hX.2.2.2.1 (hts _ hw) (hts _ wm_1_10) (hts _ wm_1_11) rfl (by rw [hX.2.2.1]; exact hl.1) rfl hd (by rw [hX.2.2.2.2.2.2.2.2.1]; exact hf) ?_ ?_
  · rw [hX.2.2.2.2.2.2.2.2.2.1]
    show 2 * 0 + _ + 12 ≤ lo
    omega
  · exact k H locs ls hP hD hS hl
theorem K_newa (hX : kX D A g G own cc nL fr lo CE SL) {at0 : ArrayType} {ty : FieldType} (t : Nat) (hty : newarray.typeOf at0 = ty) (hw : Cond.arrayClass (newarray.typeOf at0) ∈ wsL_law) (ht : (jT g)[t]? = some (g t, ty)) (hr : ∀ (U : State) (c c' : ClassId), va_RA U c ty → va_RA U c' ty → c = c')
    {n : Int32} {N' : Nat} {a0 : vp_A} (ha : ∀ cA : ClassId, vp_cell cA a0 = arrV cA N' (fun _ => defaultValue ty)) (hn : ¬ n < 0) (hN : n.toNatClampNeg = N') (hbytes : N' * componentBytes ty ≤ 536870912) (hc : ce + 1 ≤ CE) (hs : sl + N' ≤ SL) (hd : decode cc pc = .ok (.newarray at0, 2))
    (k : ∀ q : Nat, Kj l D A G nL (ws ++ [(q, .inl (g t, a0))]) (ce + 1) (sl + N') (pc + 2) loc (.ref q :: rest)) : Kj l D A G nL ws ce sl pc loc (.int n :: rest) := by
  intro H locs ls hP hD hS hl
  have hK := hX.2.2.2.2.2.1
  refine va_newa hX.1 hX.2.1 (hX.2.2.2.2.1 _ hw) hty hK hP hD hS hX.2.2.2.2.2.2.2.1 ha hn hN hbytes (by rw [hX.2.2.2.2.2.2.2.2.2.2.1]; exact hc) (by rw [hX.2.2.2.2.2.2.2.2.2.2.2]; exact hs) hd (fun q cA H1 hK1 hP1 hD1 hS1 => ?_)
  have e : cA = g t := hr _ _ _ (hK1.2 6 (cA, ty) rfl).2 (hK.2 t _ ht).2
  subst e
  exact k q H1 locs ls hP1 hD1 hS1 hl
theorem K_putF (hX : kX D A g G own cc nL fr lo CE SL) (hnm0 : (gme G).name = "<init>") {C : String} {T : u_T} {N ci idx a0 : Nat} {ty0 : Nat → FieldType} {fs : List Value} {ty : FieldType} {v : Value} {ws' : va_W} (q0 j : Nat) (hin : ∀ w ∈ u_ws C T N, w ∈ wsL_law) (hty : ∀ k, k < N → parseFieldDescriptor (T k).2.2.1 = some (ty0 k)) (hnm : ∀ a, a < N → ∀ b, b < N → a ≠ b → (T a).2.1 ≠ (T b).2.1)
    (he : ws[q0]? = some (a0, .inr (ci, fs))) (hc : vwCl[ci]? = some (C, T, N)) (hj : j < N) (hw : Cond.fieldLink own idx (T j).1 (T j).2.1 (T j).2.2.1 ∈ wsL_law) (hfin : (T j).2.2.2 = true) (hdecl : (T j).1 = own) (hd0 : parseFieldDescriptor (T j).2.2.1 = some ty) (hn : narrow ty v = v) (hfit : fits ty v = true) (hl0 : j < fs.length) (hd : decode cc pc = .ok (.putfield idx, 3))
    (hws : ws.set q0 (a0, .inr (ci, fs.set j v)) = ws') (k : Kj l D A G nL ws' ce sl (pc + 3) loc rest) : Kj l D A G nL ws ce sl pc loc (v :: .ref a0 :: rest) := by
  intro H locs ls hP hD hS hl
  refine va_putF (D := D) (cl := vwCl) hX.1 hX.2.1 hX.2.2.2.2.1 hin ty0 hty hnm hX.2.2.2.1 hX.2.2.2.2.2.1 hP hD hS q0 he hc j hj (hX.2.2.2.2.1 _ hw) (fun _ h => h) hfin hnm0 hdecl hd0 hn hfit hl0 hd (fun H1 locs1 hP1 hD1 hS1 => ?_)
  subst hws
  exact k H1 locs1 ls hP1 hD1 hS1 hl
theorem K_get (hX : kX D A g G own cc nL fr lo CE SL) {C : String} {T : u_T} {N ci idx a0 : Nat} {fs : List Value} {v : Value} (q0 j : Nat) (hin : ∀ w ∈ u_ws C T N, w ∈ wsL_law) (he : ws[q0]? = some (a0, .inr (ci, fs))) (hc : vwCl[ci]? = some (C, T, N)) (hj : j < N) (hw : Cond.fieldLink own idx (T j).1 (T j).2.1 (T j).2.2.1 ∈ wsL_law) (hv : fs[j]? = some v) (hd : decode cc pc = .ok (.getfield idx, 3))
    (k : Kj l D A G nL ws ce sl (pc + 3) loc (v :: rest)) : Kj l D A G nL ws ce sl pc loc (.ref a0 :: rest) :=
  fun H locs ls hP hD hS hl => va_get (D := D) (cl := vwCl) hX.1 hX.2.1 hX.2.2.2.2.1 hin hX.2.2.2.1 hX.2.2.2.2.2.1 hP q0 he hc j hj (hX.2.2.2.2.1 _ hw) (fun _ h => h) (v := v) hv hd (k H locs ls hP hD hS hl)
theorem K_iast (hX : kX D A g G own cc nL fr lo CE SL) {n a0 : Nat} {f : Nat → Int32} {x v : Int32} {ws' : va_W} (q0 i : Nat) (ha : ws[q0]? = some (a0, .inl (g 0, n, .inl f))) (hx : x = nI i) (hi : i < n) (hn : n < 2 ^ 31) (hd : decode cc pc = .ok (.iastore, 1)) (hws : ws.set q0 (a0, .inl (g 0, n, .inl (upd f i v))) = ws')
    (k : Kj l D A G nL ws' ce sl (pc + 1) loc rest) : Kj l D A G nL ws ce sl pc loc (.int v :: .int x :: .ref a0 :: rest) := by
  intro H locs ls hP hD hS hl
  subst hx
  refine va_iast hX.1 hX.2.1 hX.2.2.2.2.2.1 hP hD hS q0 0 ha rfl (vp_in_nI hi hn) hd (fun H1 locs1 h1 hD1 hS1 => ?_)
  rw [nI_clamp (by omega), hws] at h1 hD1
  exact k H1 locs1 ls h1 hD1 hS1 hl
theorem K_new (hX : kX D A g G own cc nL fr lo CE SL) {C : String} {T : u_T} {N ci idx : Nat} (ty0 : Nat → FieldType) {fs : List Value} (hin : ∀ w ∈ u_ws C T N, w ∈ wsL_law) (hty : ∀ k, k < N → parseFieldDescriptor (T k).2.2.1 = some (ty0 k)) (hw1 : Cond.classLink own idx C ∈ wsL_law) (hw2 : Cond.instantiable C N ∈ wsL_law) (hw3 : Cond.initialized C ∈ wsL_law) (hc : vwCl[ci]? = some (C, T, N)) (hfs : ∀ j, j < N → defaultValue (ty0 j) = vp_V fs j)
    (hce : ce + 1 ≤ CE) (hsl : sl + N ≤ SL) (hd : decode cc pc = .ok (.new idx, 3)) (k : ∀ q : Nat, Kj l D A G nL (ws ++ [(q, .inr (ci, fs))]) (ce + 1) (sl + N) (pc + 3) loc (.ref q :: rest)) : Kj l D A G nL ws ce sl pc loc rest := by
  intro H locs ls hP hD hS hl
  have hts := hX.2.2.2.2.1
  exact va_new hX.1 hX.2.1 hts hin ty0 hty hX.2.2.2.1 (hts _ hw1) (hts _ hw2) (hts _ hw3) hX.2.2.2.2.2.1 hP hD hS hX.2.2.2.2.2.2.2.1 hc hfs (by rw [hX.2.2.2.2.2.2.2.2.2.2.1]; exact hce) (by rw [hX.2.2.2.2.2.2.2.2.2.2.2]; exact hsl) hd (fun q H1 hP1 hD1 hS1 => k q H1 locs ls hP1 hD1 hS1 hl)
theorem K_cg {ws' : va_W} {st st' : List Value} (h : ws = ws') (h1 : loc = loc') (h2 : st = st') (k : Kj l D A G nL ws' ce sl pc loc' st') : Kj l D A G nL ws ce sl pc loc st := by subst h h1 h2; exact k
theorem K_perm {ws' : va_W} {st : List Value} (is : List Nat) (hn : va_nd is = true) (hs : is.map (fun i => ws[i]?) = ws'.map some) (k : Kj l D A G nL ws' ce sl pc loc st) : Kj l D A G nL ws ce sl pc loc st := by
  intro H locs ls hP hD hS hl
  refine k H locs ls (hP.sub is ?_) (hD.sub is hn hs) hS hl
  have : is.filterMap (fun i => ws[i]?) = (is.map (fun i => ws[i]?)).filterMap id := by rw [List.filterMap_map]; rfl
  rw [this, hs, List.filterMap_map]
  simp
end KR
