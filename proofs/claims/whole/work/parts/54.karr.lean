/-! ===== constructors: arrays of arrays, arrays of objects ===== -/
theorem kr_int (U : State) (c c' : ClassId) (h : va_RA U c .int) (h' : va_RA U c' .int) : c = c' := Option.some.inj ((show U.vm.findClass _ = some c from h).symm.trans h')
theorem kr_long (U : State) (c c' : ClassId) (h : va_RA U c .long) (h' : va_RA U c' .long) : c = c' := Option.some.inj ((show U.vm.findClass _ = some c from h).symm.trans h')
theorem kr_bool (U : State) (c c' : ClassId) (h : va_RA U c .boolean) (h' : va_RA U c' .boolean) : c = c' := Option.some.inj ((show U.vm.findClass _ = some c from h).symm.trans h')
theorem kr_arr (U : State) (t : FieldType) (c c' : ClassId) (h : va_RA U c (.array t)) (h' : va_RA U c' (.array t)) : c = c' := Option.some.inj ((show U.vm.findClass _ = some c from h).symm.trans h')
theorem kr_obj (U : State) (C : String) (c c' : ClassId) (h : va_RA U c (.object C)) (h' : va_RA U c' (.object C)) : c = c' := by
  obtain ⟨_, _, _, _, _, h1⟩ := h
  obtain ⟨_, _, _, _, _, h2⟩ := h'
  exact Option.some.inj (h1.symm.trans h2)
def kE (a : Nat → Nat) (g : Nat → ClassId) (M : jM) (L : jL) (k : Nat) (sp : jC) : va_E := match sp with
  | .inl (t, n) => .inl (g t, n, .inl (M k))
  | .inr (.inl (t, n)) => .inl (g t, n, .inr (.inl (L k)))
  | .inr (.inr (.inl (t, js))) => .inl (g t, js.length, .inr (.inr (.inr (.inr (fun i => (js.map a)[i]?)))))
  | .inr (.inr (.inr (ci, fs))) => .inr (ci, fs.mapIdx (fun j f => jf a M k j f))
theorem kE_e {a : Nat → Nat} {g : Nat → ClassId} {M : jM} {L : jL} {k : Nat} {sp : jC} : kE a g M L k sp = jE a g M L k sp := by
  match sp with
  | .inl (t, n) => rfl
  | .inr (.inl (t, n)) => rfl
  | .inr (.inr (.inl (t, js))) =>
    unfold kE jE
    simp only [List.getElem?_map]
  | .inr (.inr (.inr (ci, fs))) => rfl
def kU (cs : List jC) (q : Nat → Nat) (g : Nat → ClassId) (M : jM) (L : jL) : va_W := cs.mapIdx (fun k sp => (q k, kE q g M L k sp))
theorem kU_j {a : Nat → Nat} {g : Nat → ClassId} {M : jM} {L : jL} : kU jCs a g M L = jW a g M L := by
  unfold kU jW
  congr 1
  funext k sp
  rw [kE_e]
section KA
variable {l : Launch} {D : va_G} {A : Nat → Prop} {g : Nat → ClassId} {G : jG} {own : String} {cc : ByteArray} {nL fr lo CE SL : Nat} {ws : va_W} {ce sl : Nat} {pc : Nat} {loc loc' : List (Nat × Value)} {rest : List Value}
theorem K_mna (hX : kX D A g G own cc nL fr lo CE SL) {idx : Nat} {ty : FieldType} (t t1 : Nat) (hw1 : Cond.classLink own idx ("[" ++ (FieldType.array ty).toString) ∈ wsL_law) (hw2 : Cond.arrayClass ty ∈ wsL_law) (hov : va_AOA ty (gs G)) (hcy : (gs G).vm.findClass (FieldType.array ty).toString = some (g t1)) (ht : (jT g)[t]? = some (g t, .array ty))
    {n k0 : Int32} {N' K' : Nat} {z : vp_A} (hn : ¬ n < 0) (hk : ¬ k0 < 0) (hN : n.toNatClampNeg = N') (hM : k0.toNatClampNeg = K') (hb1 : N' * 4 ≤ 536870912) (hb2 : K' * componentBytes ty ≤ 536870912) (hb3 : K' ≤ 536870912) (hdf : fits ty (defaultValue ty) = true) (hdd : (defaultValue ty).isDefault = true) (hce : ce + (1 + N') ≤ CE) (hsl : sl + (N' + N' * K') ≤ SL)
    (hz : ∀ c : ClassId, mq_in c K' (defaultValue ty) = vp_cell c z) (hd : decode cc pc = .ok (.multianewarray idx 2, 4))
    (k : ∀ (q : Nat) (r : Nat → Nat), Kj l D A G nL ((ws ++ [(q, .inl (g t, N', .inr (.inr (.inr (.inr (fun i => ((List.range N').map r)[i]?))))))]) ++ (List.range N').map (fun i => (r i, .inl (g t1, z)))) (ce + 1 + N') (sl + N' + N' * K') (pc + 4) loc (.ref q :: rest)) : Kj l D A G nL ws ce sl pc loc (.int k0 :: .int n :: rest) := by
  intro H locs ls hP hD hS hl
  have hts := hX.2.2.2.2.1
  have hK := hX.2.2.2.2.2.1
  refine va_mna (X := ws) (L := []) (f := fun _ => .inl (g t1, z)) hX.1 hX.2.1 hX.2.2.2.1 (hts _ hw1) hov (hts _ hw2) hcy hK (by rw [show va_pl ([] : List Nat) (fun _ => (.inl (g t1, z) : va_E)) = [] from rfl, List.append_nil]; exact hP) (by rw [show va_pl ([] : List Nat) (fun _ => (.inl (g t1, z) : va_E)) = [] from rfl, List.append_nil]; exact hD) hS hX.2.2.2.2.2.2.2.1 hn hk hN hM hb1 hb2 hb3 hdf (by rw [hX.2.2.2.2.2.2.2.2.2.2.1]; exact hce) (by rw [hX.2.2.2.2.2.2.2.2.2.2.2]; exact hsl) hz hd (fun q r cA H1 locs1 hinj hout hK1 hP1 hD1 hS1 => ?_)
  have e : cA = g t := kr_arr _ _ _ _ (hK1.2 6 (cA, .array ty) rfl).2 (hK.2 t _ ht).2
  subst e
  have ef : (fun i => if i < N' then some (r i) else none) = fun i => ((List.range N').map r)[i]? := by
    funext i
    rw [List.getElem?_map]
    by_cases c : i < N'
    · rw [if_pos c, List.getElem?_range c]; rfl
    · rw [if_neg c, List.getElem?_eq_none (by rw [List.length_range]; omega)]; rfl
  have eu : ∀ x, vr_up (fun _ => (.inl (g t1, z) : va_E)) ((List.range N').map r) (.inl (g t1, z)) x = .inl (g t1, z) := by
    intro x
    unfold vr_up
    split <;> rfl
  have ep : va_pl ([] ++ (List.range N').map r) (vr_up (fun _ => (.inl (g t1, z) : va_E)) ((List.range N').map r) (.inl (g t1, z))) = (List.range N').map (fun i => (r i, .inl (g t1, z))) := by
    unfold va_pl
    rw [List.nil_append, List.map_map]
    apply List.map_congr_left
    intro i _
    show (r i, _) = _
    rw [eu]
  rw [ef, ep] at hP1 hD1
  exact k q r H1 locs1 ls hP1 hD1 hS1 hl
theorem K_newq (hX : kX D A g G own cc nL fr lo CE SL) {idx : Nat} {C : String} (t : Nat) (hw : Cond.classLink own idx C ∈ wsL_law) (hov : va_AO C (gs G)) (ht : (jT g)[t]? = some (g t, .object C)) {n : Int32} {N' : Nat} (hn : ¬ n < 0) (hN : n.toNatClampNeg = N') (hb : N' * 4 ≤ 536870912) (hce : ce + 1 ≤ CE) (hsl : sl + N' ≤ SL) (hd : decode cc pc = .ok (.anewarray idx, 3))
    (k : ∀ q : Nat, Kj l D A G nL (ws ++ [(q, .inl (g t, N', .inr (.inr (.inr (.inr (fun _ => none))))))]) (ce + 1) (sl + N') (pc + 3) loc (.ref q :: rest)) : Kj l D A G nL ws ce sl pc loc (.int n :: rest) := by
  intro H locs ls hP hD hS hl
  have hK := hX.2.2.2.2.2.1
  refine va_newq hX.1 hX.2.1 hX.2.2.2.1 (hX.2.2.2.2.1 _ hw) hov hK hP hD hS hX.2.2.2.2.2.2.2.1 hn hN hb (by rw [hX.2.2.2.2.2.2.2.2.2.2.1]; exact hce) (by rw [hX.2.2.2.2.2.2.2.2.2.2.2]; exact hsl) hd (fun q cA H1 hK1 hP1 hD1 hS1 => ?_)
  have e : cA = g t := kr_obj _ _ _ _ (hK1.2 6 (cA, .object C) rfl).2 (hK.2 t _ ht).2
  subst e
  exact k q H1 locs ls hP1 hD1 hS1 hl
theorem K_astq (hX : kX D A g G own cc nL fr lo CE SL) {n a0 v ci : Nat} {r : vw_C} {vs : List Value} {f : Nat → Option Nat} {x : Int32} {ws' : va_W} (q0 t qk i : Nat) (ha : ws[q0]? = some (a0, .inl (g t, n, .inr (.inr (.inr (.inr f)))))) (ht : (jT g)[t]? = some (g t, .object r.1)) (hv : ws[qk]? = some (v, .inr (ci, vs))) (hc : vwCl[ci]? = some r) (hx : x = nI i) (hi : i < n) (hn : n < 2 ^ 31) (hd : decode cc pc = .ok (.aastore, 1))
    (hws : ws.set q0 (a0, .inl (g t, n, .inr (.inr (.inr (.inr (va_up f i (some v))))))) = ws') (k : Kj l D A G nL ws' ce sl (pc + 1) loc rest) : Kj l D A G nL ws ce sl pc loc (.ref v :: .int x :: .ref a0 :: rest) := by
  intro H locs ls hP hD hS hl
  subst hx
  refine va_astq hX.1 hX.2.1 hX.2.2.2.2.2.1 hP hD hS q0 t qk ci ha ht hv hc (vp_in_nI hi hn) hd (fun H1 locs1 h1 hD1 hS1 => ?_)
  rw [nI_clamp (by omega), hws] at h1 hD1
  exact k H1 locs1 ls h1 hD1 hS1 hl
end KA
def fl (v : Int32) (n : Nat) : Nat → Int32 := fun j => if j < n then v else 0
theorem fl_0 (v : Int32) : (fun _ => (0 : Int32)) = fl v 0 := by funext j; rfl
theorem fl_up (v : Int32) (n : Nat) : upd (fl v n) n v = fl v (n + 1) := by
  funext j
  unfold upd fl
  by_cases e : j = n
  · subst e; rw [if_pos rfl, if_pos (by omega)]
  · rw [if_neg e]
    by_cases c : j < n
    · rw [if_pos c, if_pos (by omega)]
    · rw [if_neg c, if_neg (by omega)]
theorem im2 (u v : Nat) : va_up (va_up (fun _ => none) 0 (some u)) 1 (some v) = fun i => ([u, v] : List Nat)[i]? := by
  funext i
  match i with
  | 0 => rfl
  | 1 => rfl
  | i + 2 => rfl
