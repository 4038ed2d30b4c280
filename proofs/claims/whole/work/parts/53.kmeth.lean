/-! ===== constructors: their contracts ===== -/
def kW (cs : List jC) (q : Nat → Nat) (g : Nat → ClassId) (M : jM) (L : jL) : va_W := cs.mapIdx (fun k sp => (q k, jE q g M L k sp))
abbrev kO (h0 ci : Nat) (fs0 : List Value) : va_W := [(h0, .inr (ci, fs0))]
def kP (D : va_G) (g : Nat → ClassId) (ci : Nat) (fs0 : List Value) (h0 sz : Nat) : Array Value → State → Prop :=
  va_Pc [.ref h0] (fun U => U.heap.size = sz ∧ va_P D vwCl (kO h0 ci fs0) U.heap ∧ va_K D vwCl (jT g) U ∧ kN U)
def kQ (D : va_G) (ci : Nat) (fs0 : List Value) (F : (Nat → Nat) → va_W) (h0 sz : Nat) : Array Value → State → Outcome → State → Prop :=
  va_Qv (fun q : Nat → Nat => q 0 = h0) (fun q t => va_P D vwCl (F q) t.heap ∧ va_D (va_A (kO h0 ci fs0) sz) (F q)) (va_A (kO h0 ci fs0) sz)
def kV (l : Launch) (D : va_G) (g : Nat → ClassId) (y : MethodName) (C : ByteArray) (n fr lo ce sl ci : Nat) (fs0 : List Value) (F : (Nat → Nat) → va_W) : Prop :=
  ∀ h0 sz : Nat, Met l y (.code y C n none :: wsL_law) ({ frames := fr, cells := ce, slots := sl, locals := lo }) (kP D g ci fs0 h0 sz) (kQ D ci fs0 F h0 sz) ce sl (va_A (kO h0 ci fs0) sz)
def kZ (D : va_G) (G : jG) (ce sl ci : Nat) (fs0 : List Value) (F : (Nat → Nat) → va_W) (h0 : Nat) : Prop :=
  (gme G).sig.returnType = none ∧ (gme G).locks = false ∧ (gme G).name = "<init>" ∧ gQ G = MQ (gb G) (kQ D ci fs0 F h0 (gs G).heap.size) (gar G) (gs G) ce sl (va_A (kO h0 ci fs0) (gs G).heap.size)
theorem kMeth {l : Launch} {D : va_G} {g : Nat → ClassId} {y : MethodName} {C : ByteArray} {n fr lo ce sl ci : Nat} {fs0 : List Value} {F : (Nat → Nat) → va_W} (hy : plainName y.cls = true) (hyn : y.name = "<init>") (hlen : 1 ≤ n)
    (body : ∀ (G : jG) (h0 : Nat), kX D (va_A (kO h0 ci fs0) (gs G).heap.size) g G y.cls C n fr lo ce sl → kZ D G ce sl ci fs0 F h0 → Kj l D (va_A (kO h0 ci fs0) (gs G).heap.size) G n (kO h0 ci fs0) 0 0 0 [(0, .ref h0)] []) : kV l D g y C n fr lo ce sl ci fs0 F := by
  intro h0 sz
  refine Met.ofW (cc := C) (maxL := n) (ret := none) hy rfl ?_
  intro p e s m args below meth c s₁ B hml hv
  obtain ⟨rfl, hsz, hP, hK, hN⟩ := hv
  subst hsz
  have hts := atoms_spec (ws := Cond.code y C n none :: wsL_law) B.pre
  have hl := lv_entry ([.ref h0]) (n := n) hlen
  rw [lg_entry_eq]
  generalize (lg_sl ([.ref h0]) ++ List.replicate (n - (lg_sl ([.ref h0])).length) Slot.unset).toArray = ls at hl ⊢
  have hD : va_D (va_A (kO h0 ci fs0) s.heap.size) (kO h0 ci fs0) := by
    refine va_D.self (A := fun _ => True) ⟨fun i j x z hi hj _ => ?_, fun _ _ _ => trivial⟩
    have h1 : i < 1 := (List.getElem?_eq_some_iff.mp hi).1
    have h2 : j < 1 := (List.getElem?_eq_some_iff.mp hj).1
    omega
  exact body (p, e, (headSpec (Cond.code y C n none :: wsL_law) ({ frames := fr, cells := ce, slots := sl, locals := lo })).room, s, m, [Value.ref h0].toArray, below, meth, c, ce, sl, MQ below (kQ D ci fs0 F h0 s.heap.size) [Value.ref h0].toArray s ce sl (va_A (kO h0 ci fs0) s.heap.size)) h0
    ⟨B.exec, B.bytes, hml, findClass_of_methodNamed B.named, fun w hw => hts w (List.mem_cons_of_mem _ hw), hK, hN, fun q h => Or.inr h, rfl, rfl, rfl, rfl⟩ ⟨B.returns, B.notSynchronized, (name_of_methodNamed B.named B.method).1.trans hyn, rfl⟩ s.heap [] ls hP hD va_S.rf hl
section KM
variable {l : Launch} {D : va_G} {A : Nat → Prop} {g : Nat → ClassId} {G : jG} {own : String} {cc : ByteArray} {nL fr lo CE SL : Nat} {ws : va_W} {ce sl : Nat} {pc : Nat} {loc loc' : List (Nat × Value)} {rest : List Value}
theorem K_vret {ci h0 : Nat} {fs0 : List Value} {F : (Nat → Nat) → va_W} (hX : kX D (va_A (kO h0 ci fs0) (gs G).heap.size) g G own cc nL fr lo CE SL) (hZ : kZ D G CE SL ci fs0 F h0) (q : Nat → Nat) (hq : q 0 = h0) (hd : decode cc pc = .ok (.return_, 1)) (hce : ce ≤ CE) (hsl : sl ≤ SL) (hws : ws = F q) : Kj l D (va_A (kO h0 ci fs0) (gs G).heap.size) G nL ws ce sl pc loc [] := by
  intro H locs ls hP hD hS hl
  subst hws
  rw [hZ.2.2.2]
  refine W.widen (k := CE) (n := SL) hce hsl ?_
  exact W.vret hX.1 hX.2.1 hZ.1 (fun t ht hW => ⟨⟨q, rfl, hq, by rw [ht]; exact hP, hD⟩, hS.F ht⟩) hS.2.2 hd hZ.2.1
theorem K_call (hX : kX D A g G own cc nL fr lo CE SL) {y : MethodName} {C' : ByteArray} {n' fr' lo' ce' sl' ci idx b : Nat} {fs0 : List Value} {F : (Nat → Nat) → va_W} {wr : va_W} (p : Nat) (isR : List Nat) (hM : kV l D g y C' n' fr' lo' ce' sl' ci fs0 F)
    (w1 : Cond.methodLink own idx y ∈ wsL_law) (w2 : Cond.instanceMethod y ∈ wsL_law) (w3 : Cond.initialized y.cls ∈ wsL_law) (w4 : Cond.code y C' n' none ∈ wsL_law) (hyn : y.name = "<init>") (hy3 : y.cls ≠ "java/lang/invoke/MethodHandle" ∧ y.cls ≠ "java/lang/invoke/VarHandle" ∧ (parseMethodDescriptor y.desc).map (fun d => d.parameters.length) = some 0)
    (hfr : fr' + 1 ≤ fr) (hlo : 8 + (n' + 11) + lo' ≤ lo) (hce : ce + ce' ≤ CE) (hsl : sl + sl' ≤ SL) (hsum : (rest.map fun v => v.category).sum ≤ 8) (hp : ws[p]? = some (b, .inr (ci, fs0))) (hR : isR.map (fun i => ws[i]?) = wr.map some) (hnd : va_nd isR = true) (hdis : ∀ i ∈ isR, i ∉ [p]) (hd : decode cc pc = .ok (.invokespecial idx, 3))
    (k : ∀ u : Nat → Nat, u 0 = b → Kj l D A G nL (wr ++ F u) (ce + ce') (sl + sl') (pc + 3) loc rest) : Kj l D A G nL ws ce sl pc loc (.ref b :: rest) := by
  intro H locs ls hP hD hS hl
  have hts := hX.2.2.2.2.1
  have hK := hX.2.2.2.2.2.1
  have hC : [p].map (fun i => ws[i]?) = (kO b ci fs0).map some := by simp only [List.map_cons, List.map_nil, hp]
  have hPc : va_P D vwCl (kO b ci fs0) H := hP.sub [p] (by simp only [List.filterMap_cons, List.filterMap_nil, hp])
  have hFc := va_free (wc := kO b ci fs0) hD hS hX.2.2.2.2.2.2.2.1 [p] hC
  refine va_callv (va_runI (As := []) (rest := rest) ⟨hX.1, hX.2.1, hX.2.2.1, hX.2.2.2.1, hts⟩ (hM b H.size) (cwI 0 hts (jGoodIn w4) rfl rfl rfl (hts _ w3) (hts _ w1) (hts _ w2) hyn hy3 ⟨by rw [hX.2.2.2.2.2.2.2.2.1]; exact hfr, by rw [hX.2.2.2.2.2.2.2.2.2.1]; exact hlo⟩)
    ⟨fun a U g0 mk q => by
      obtain ⟨q0, q1, qP, qK, qN⟩ := q
      exact ⟨q0, q1, qP, va_K.moved (u := U) (U := U.calling g0 mk a) (Vm.Alike.refl U.vm) qK, jN.same (u := U) (U := U.calling g0 mk a) rfl qN.1, va_AO.moved (u := U) (U := U.calling g0 mk a) (Vm.Alike.refl U.vm) qN.2.1, va_AOA.moved (u := U) (U := U.calling g0 mk a) (Vm.Alike.refl U.vm) qN.2.2.1, va_AOA.moved (u := U) (U := U.calling g0 mk a) (Vm.Alike.refl U.vm) qN.2.2.2.1, fun z hz => va_Nw.same (u := U) (U := U.calling g0 mk a) rfl rfl (qN.2.2.2.2 z hz)⟩, fun U hU hW => ⟨rfl, by rw [hU], by rw [hU]; exact hPc, va_K.moved hW.alike hK, kN.warm hW hX.2.2.2.2.2.2.1⟩⟩
    rfl rfl hl.1 rfl (lv_room hsum) hd ⟨by rw [hX.2.2.2.2.2.2.2.2.2.2.1]; exact hce, by rw [hX.2.2.2.2.2.2.2.2.2.2.2]; exact hsl⟩) hS (fun q _ h => hFc q h) hFc (fun u t H1 locs1 ht hvm h5 hB hz1 hk1 hS1 => ?_)
  obtain ⟨hP1, hD1⟩ := hB
  rw [ht] at hP1
  obtain ⟨hP2, hD2⟩ := va_join (wr := wr) (w1 := F u) hP hD [p] isR hC hR hnd hdis hk1 hFc hP1 hD1
  exact k u h5 H1 locs1 ls hP2 hD2 hS1 hl
theorem K_callN (hX : kX D A g G own cc nL fr lo CE SL) {y : MethodName} {host : String} {C' : ByteArray} {n' fr' lo' ce' sl' ci idx b : Nat} {fs0 : List Value} {F : (Nat → Nat) → va_W} {wr : va_W} (p : Nat) (isR : List Nat) (hM : kV l D g y C' n' fr' lo' ce' sl' ci fs0 F)
    (w1 : va_Nw (.methodLinkNest own idx y host) (gs G)) (w2 : Cond.instanceMethod y ∈ wsL_law) (w3 : Cond.initialized y.cls ∈ wsL_law) (w4 : Cond.code y C' n' none ∈ wsL_law) (hyn : y.name = "<init>") (hy3 : y.cls ≠ "java/lang/invoke/MethodHandle" ∧ y.cls ≠ "java/lang/invoke/VarHandle" ∧ (parseMethodDescriptor y.desc).map (fun d => d.parameters.length) = some 0)
    (hfr : fr' + 1 ≤ fr) (hlo : 8 + (n' + 11) + lo' ≤ lo) (hce : ce + ce' ≤ CE) (hsl : sl + sl' ≤ SL) (hsum : (rest.map fun v => v.category).sum ≤ 8) (hp : ws[p]? = some (b, .inr (ci, fs0))) (hR : isR.map (fun i => ws[i]?) = wr.map some) (hnd : va_nd isR = true) (hdis : ∀ i ∈ isR, i ∉ [p]) (hd : decode cc pc = .ok (.invokespecial idx, 3))
    (k : ∀ u : Nat → Nat, u 0 = b → Kj l D A G nL (wr ++ F u) (ce + ce') (sl + sl') (pc + 3) loc rest) : Kj l D A G nL ws ce sl pc loc (.ref b :: rest) := by
  intro H locs ls hP hD hS hl
  have hts := hX.2.2.2.2.1
  have hK := hX.2.2.2.2.2.1
  have hC : [p].map (fun i => ws[i]?) = (kO b ci fs0).map some := by simp only [List.map_cons, List.map_nil, hp]
  have hPc : va_P D vwCl (kO b ci fs0) H := hP.sub [p] (by simp only [List.filterMap_cons, List.filterMap_nil, hp])
  have hFc := va_free (wc := kO b ci fs0) hD hS hX.2.2.2.2.2.2.2.1 [p] hC
  refine va_callv (va_runIN (host := host) (As := []) (rest := rest) ⟨hX.1, hX.2.1, hX.2.2.1, hX.2.2.2.1, hts⟩ (hM b H.size) ⟨va_cnB 0 hts (jGoodIn w4) rfl rfl rfl w1 (hts _ w3) hy3 ⟨by rw [hX.2.2.2.2.2.2.2.2.1]; exact hfr, by rw [hX.2.2.2.2.2.2.2.2.2.1]; exact hlo⟩, hyn, hts _ w2⟩
    ⟨fun a U g0 mk q => by
      obtain ⟨q0, q1, qP, qK, qN⟩ := q
      exact ⟨q0, q1, qP, va_K.moved (u := U) (U := U.calling g0 mk a) (Vm.Alike.refl U.vm) qK, jN.same (u := U) (U := U.calling g0 mk a) rfl qN.1, va_AO.moved (u := U) (U := U.calling g0 mk a) (Vm.Alike.refl U.vm) qN.2.1, va_AOA.moved (u := U) (U := U.calling g0 mk a) (Vm.Alike.refl U.vm) qN.2.2.1, va_AOA.moved (u := U) (U := U.calling g0 mk a) (Vm.Alike.refl U.vm) qN.2.2.2.1, fun z hz => va_Nw.same (u := U) (U := U.calling g0 mk a) rfl rfl (qN.2.2.2.2 z hz)⟩, fun U hU hW => ⟨rfl, by rw [hU], by rw [hU]; exact hPc, va_K.moved hW.alike hK, kN.warm hW hX.2.2.2.2.2.2.1⟩⟩
    rfl rfl hl.1 rfl (lv_room hsum) hd ⟨by rw [hX.2.2.2.2.2.2.2.2.2.2.1]; exact hce, by rw [hX.2.2.2.2.2.2.2.2.2.2.2]; exact hsl⟩) hS (fun q _ h => hFc q h) hFc (fun u t H1 locs1 ht hvm h5 hB hz1 hk1 hS1 => ?_)
  obtain ⟨hP1, hD1⟩ := hB
  rw [ht] at hP1
  obtain ⟨hP2, hD2⟩ := va_join (wr := wr) (w1 := F u) hP hD [p] isR hC hR hnd hdis hk1 hFc hP1 hD1
  exact k u h5 H1 locs1 ls hP2 hD2 hS1 hl
end KM
