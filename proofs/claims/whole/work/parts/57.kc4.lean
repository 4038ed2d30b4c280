/-! ===== constructors: worlds laid side by side ===== -/
def kG {α β : Type} (f : Nat → α → β) : Nat → List α → List β
  | _, [] => []
  | n, a :: as => f n a :: kG f (n + 1) as
theorem kG_i {α β : Type} (f : Nat → α → β) : ∀ (as : List α) (n : Nat), as.mapIdx (fun i a => f (i + n) a) = kG f n as
  | [], _ => by rw [List.mapIdx_nil]; rfl
  | a :: as, n => by
    have e : (fun (i : Nat) (a : α) => f (i + 1 + n) a) = fun (i : Nat) (a : α) => f (i + (n + 1)) a := by
      funext i a
      rw [Nat.add_assoc, Nat.add_comm 1 n]
    rw [List.mapIdx_cons, kG, ← kG_i f as (n + 1), Nat.zero_add, e]
def kEr (a : Nat → Nat) (g : Nat → ClassId) (M : jM) (L : jL) (k : Nat) (sp : jC) : va_E := match sp with
  | .inl (t, n) => .inl (g t, n, .inl (M k))
  | .inr (.inl (t, n)) => .inl (g t, n, .inr (.inl (L k)))
  | .inr (.inr (.inl (t, js))) => .inl (g t, js.length, .inr (.inr (.inr (.inr (fun i => (js.map a)[i]?)))))
  | .inr (.inr (.inr (ci, fs))) => .inr (ci, kG (fun j f => jf a M k j f) 0 fs)
def kR (cs : List jC) (q : Nat → Nat) (g : Nat → ClassId) (M : jM) (L : jL) : va_W := kG (fun k sp => (q k, kEr q g M L k sp)) 0 cs
theorem kE_r {a : Nat → Nat} {g : Nat → ClassId} {M : jM} {L : jL} {k : Nat} {sp : jC} : kE a g M L k sp = kEr a g M L k sp := by
  match sp with
  | .inl (t, n) => rfl
  | .inr (.inl (t, n)) => rfl
  | .inr (.inr (.inl (t, js))) => rfl
  | .inr (.inr (.inr (ci, fs))) =>
    show (Sum.inr (ci, fs.mapIdx (fun j f => jf a M k j f)) : va_E) = .inr (ci, kG (fun j f => jf a M k j f) 0 fs)
    rw [← kG_i]
    rfl
theorem kU_r {cs : List jC} {q : Nat → Nat} {g : Nat → ClassId} {M : jM} {L : jL} : kU cs q g M L = kR cs q g M L := by
  unfold kU kR
  rw [← kG_i]
  congr 1
  funext k sp
  rw [kE_r]
  rfl
theorem kU_len {cs : List jC} {q : Nat → Nat} {g : Nat → ClassId} {M : jM} {L : jL} : (kU cs q g M L).length = cs.length := by
  unfold kU
  rw [List.length_mapIdx]
theorem kE_congr {a : Nat → Nat} {g : Nat → ClassId} {M M' : jM} {L : jL} {k : Nat} (hM : M k = M' k) (sp : jC) : kE a g M L k sp = kE a g M' L k sp := by
  rw [kE_e, kE_e]
  exact jE_congr hM rfl sp
theorem kU_at {cs : List jC} {q : Nat → Nat} {g : Nat → ClassId} {M : jM} {L : jL} {k : Nat} {sp : jC} (h : cs[k]? = some sp) : (kU cs q g M L)[k]? = some (q k, kE q g M L k sp) := by
  simp [kU, List.getElem?_mapIdx, h]
theorem kU_set {cs : List jC} {q : Nat → Nat} {g : Nat → ClassId} {M M' : jM} {L : jL} {k : Nat} {sp : jC} (h : cs[k]? = some sp) (hM : ∀ k', k' ≠ k → M k' = M' k') :
    (kU cs q g M L).set k (q k, kE q g M' L k sp) = kU cs q g M' L := by
  apply List.ext_getElem?
  intro i
  by_cases e : i = k
  · subst e
    rw [List.getElem?_set_self (by rw [kU_len]; exact (List.getElem?_eq_some_iff.mp h).1), kU_at h]
  · rw [List.getElem?_set_ne (Ne.symm e)]
    simp only [kU, List.getElem?_mapIdx]
    cases hi : cs[i]? with
    | none => rfl
    | some sq => simp only [Option.map_some, kE_congr (hM i e) sq]
theorem nd_of : ∀ (l : List Nat), l.Nodup → va_nd l = true
  | [], _ => rfl
  | a :: l, h => by
    rw [List.nodup_cons] at h
    unfold va_nd
    rw [nd_of l h.2, decide_eq_true h.1]
    rfl
theorem nd_rg (n : Nat) : va_nd (List.range n) = true := nd_of _ List.nodup_range
theorem rg_at (w : va_W) (x : Nat × va_E) : (List.range w.length).map (fun i => (w ++ [x])[i]?) = w.map some := by
  apply List.ext_getElem?
  intro i
  rw [List.getElem?_map, List.getElem?_map]
  by_cases c : i < w.length
  · rw [List.getElem?_range c, Option.map_some, List.getElem?_append_left c, List.getElem?_eq_getElem c]
    rfl
  · rw [List.getElem?_eq_none (by rw [List.length_range]; omega), List.getElem?_eq_none (l := w) (by omega)]
    rfl
theorem kG_app {α β : Type} (f : Nat → α → β) (bs : List α) : ∀ (as : List α) (n : Nat), kG f n (as ++ bs) = kG f n as ++ kG f (n + as.length) bs
  | [], n => rfl
  | a :: as, n => by
    show f n a :: kG f (n + 1) (as ++ bs) = f n a :: (kG f (n + 1) as ++ kG f (n + (as.length + 1)) bs)
    rw [kG_app f bs as (n + 1), Nat.add_assoc n 1, Nat.add_comm 1]
theorem mid_at (w : va_W) (y : Nat × va_E) (z : va_W) {n : Nat} (h : w.length = n) : ((w ++ [y]) ++ z)[n]? = some y := by
  subst h
  rw [List.getElem?_append_left (by simp), List.getElem?_append_right (Nat.le_refl _), Nat.sub_self]
  rfl
theorem mid_z (w : va_W) (y : Nat × va_E) (z : va_W) {n k : Nat} (h : w.length = n) : ((w ++ [y]) ++ z)[n + 1 + k]? = z[k]? := by
  subst h
  have e : (w ++ [y]).length = w.length + 1 := by simp
  rw [List.getElem?_append_right (by omega), e, Nat.add_sub_cancel_left]
theorem mid_set (w : va_W) (y y' : Nat × va_E) (z : va_W) {n : Nat} (h : w.length = n) : ((w ++ [y]) ++ z).set n y' = (w ++ [y']) ++ z := by
  subst h
  rw [List.append_assoc, List.append_assoc, List.set_append_right _ _ (Nat.le_refl _), Nat.sub_self]
  rfl
section KE
variable {l : Launch} {D : va_G} {A : Nat → Prop} {g : Nat → ClassId} {G : jG} {own : String} {cc : ByteArray} {nL fr lo CE SL : Nat} {ws : va_W} {ce sl : Nat} {pc : Nat} {loc loc' : List (Nat × Value)} {rest : List Value}
theorem K_callE (hX : kX D A g G own cc nL fr lo CE SL) {y : MethodName} {C' : ByteArray} {n' fr' lo' ce' sl' ci idx b : Nat} {fs0 : List Value} {F : (Nat → Nat) → va_W} {w : va_W} (hM : kV l D g y C' n' fr' lo' ce' sl' ci fs0 F)
    (w1 : Cond.methodLink own idx y ∈ wsL_law) (w2 : Cond.instanceMethod y ∈ wsL_law) (w3 : Cond.initialized y.cls ∈ wsL_law) (w4 : Cond.code y C' n' none ∈ wsL_law) (hyn : y.name = "<init>") (hy3 : y.cls ≠ "java/lang/invoke/MethodHandle" ∧ y.cls ≠ "java/lang/invoke/VarHandle" ∧ (parseMethodDescriptor y.desc).map (fun d => d.parameters.length) = some 0)
    (hfr : fr' + 1 ≤ fr) (hlo : 8 + (n' + 11) + lo' ≤ lo) (hce : ce + ce' ≤ CE) (hsl : sl + sl' ≤ SL) (hsum : (rest.map fun v => v.category).sum ≤ 8) (hd : decode cc pc = .ok (.invokespecial idx, 3))
    (k : ∀ u : Nat → Nat, u 0 = b → Kj l D A G nL (w ++ F u) (ce + ce') (sl + sl') (pc + 3) loc rest) : Kj l D A G nL (w ++ [(b, .inr (ci, fs0))]) ce sl pc loc (.ref b :: rest) :=
  K_call hX w.length (List.range w.length) hM w1 w2 w3 w4 hyn hy3 hfr hlo hce hsl hsum (by rw [List.getElem?_append_right (Nat.le_refl _), Nat.sub_self]; rfl) (rg_at w _) (nd_rg _) (fun i h q => by
    rw [List.mem_range] at h
    rw [List.mem_singleton] at q
    omega) hd k
theorem K_callNE (hX : kX D A g G own cc nL fr lo CE SL) {y : MethodName} {host : String} {C' : ByteArray} {n' fr' lo' ce' sl' ci idx b : Nat} {fs0 : List Value} {F : (Nat → Nat) → va_W} {w : va_W} (hM : kV l D g y C' n' fr' lo' ce' sl' ci fs0 F)
    (w1 : va_Nw (.methodLinkNest own idx y host) (gs G)) (w2 : Cond.instanceMethod y ∈ wsL_law) (w3 : Cond.initialized y.cls ∈ wsL_law) (w4 : Cond.code y C' n' none ∈ wsL_law) (hyn : y.name = "<init>") (hy3 : y.cls ≠ "java/lang/invoke/MethodHandle" ∧ y.cls ≠ "java/lang/invoke/VarHandle" ∧ (parseMethodDescriptor y.desc).map (fun d => d.parameters.length) = some 0)
    (hfr : fr' + 1 ≤ fr) (hlo : 8 + (n' + 11) + lo' ≤ lo) (hce : ce + ce' ≤ CE) (hsl : sl + sl' ≤ SL) (hsum : (rest.map fun v => v.category).sum ≤ 8) (hd : decode cc pc = .ok (.invokespecial idx, 3))
    (k : ∀ u : Nat → Nat, u 0 = b → Kj l D A G nL (w ++ F u) (ce + ce') (sl + sl') (pc + 3) loc rest) : Kj l D A G nL (w ++ [(b, .inr (ci, fs0))]) ce sl pc loc (.ref b :: rest) :=
  K_callN hX w.length (List.range w.length) hM w1 w2 w3 w4 hyn hy3 hfr hlo hce hsl hsum (by rw [List.getElem?_append_right (Nat.le_refl _), Nat.sub_self]; rfl) (rg_at w _) (nd_rg _) (fun i h q => by
    rw [List.mem_range] at h
    rw [List.mem_singleton] at q
    omega) hd k
theorem K_fld (hX : kX D A g G own cc nL fr lo CE SL) (hnm0 : (gme G).name = "<init>") {C : String} {T : u_T} {N ci idx h0 : Nat} {ty0 : Nat → FieldType} {fs : List Value} {r : va_W} {at0 : ArrayType} {ty tf : FieldType} {x : Int32} {N' : Nat} {a0 : vp_A} {p1 : Nat} (t j : Nat)
    (d0 : decode cc pc = .ok (.aload_n 0, 1)) (hi : loc[0]? = some (0, .ref h0))
    (push : ∀ rest : List Value, Kj l D A G nL ((h0, .inr (ci, fs)) :: r) ce sl p1 loc (.int x :: rest) → Kj l D A G nL ((h0, .inr (ci, fs)) :: r) ce sl (pc + 1) loc rest)
    (hty1 : newarray.typeOf at0 = ty) (hw1 : Cond.arrayClass (newarray.typeOf at0) ∈ wsL_law) (ht : (jT g)[t]? = some (g t, ty)) (hr : ∀ (U : State) (c c' : ClassId), va_RA U c ty → va_RA U c' ty → c = c')
    (ha : ∀ cA : ClassId, vp_cell cA a0 = arrV cA N' (fun _ => defaultValue ty)) (hn1 : ¬ x < 0) (hN : x.toNatClampNeg = N') (hbytes : N' * componentBytes ty ≤ 536870912) (hce : ce + 1 ≤ CE) (hsl : sl + N' ≤ SL) (d1 : decode cc p1 = .ok (.newarray at0, 2))
    (hin : ∀ w ∈ u_ws C T N, w ∈ wsL_law) (hty : ∀ k, k < N → parseFieldDescriptor (T k).2.2.1 = some (ty0 k)) (hnm : ∀ a, a < N → ∀ b, b < N → a ≠ b → (T a).2.1 ≠ (T b).2.1)
    (hc : vwCl[ci]? = some (C, T, N)) (hj : j < N) (hw : Cond.fieldLink own idx (T j).1 (T j).2.1 (T j).2.2.1 ∈ wsL_law) (hfin : (T j).2.2.2 = true) (hdecl : (T j).1 = own) (hd0 : parseFieldDescriptor (T j).2.2.1 = some tf) (hn : ∀ q : Nat, narrow tf (.ref q) = .ref q) (hfit : ∀ q : Nat, fits tf (.ref q) = true) (hl0 : fs.length = N) (d2 : decode cc (p1 + 2) = .ok (.putfield idx, 3))
    (k : ∀ q : Nat, (fs.set j (.ref q)).length = N → Kj l D A G nL ((h0, .inr (ci, fs.set j (.ref q))) :: (r ++ [(q, .inl (g t, a0))])) (ce + 1) (sl + N') (p1 + 2 + 3) loc rest) : Kj l D A G nL ((h0, .inr (ci, fs)) :: r) ce sl pc loc rest := by
  refine K_aload_n hX 0 d0 hi ?_
  refine push _ ?_
  refine K_newa (a0 := a0) hX t hty1 hw1 ht hr ha hn1 hN hbytes hce hsl d1 (fun q => ?_)
  refine K_putF (ws' := (h0, .inr (ci, fs.set j (.ref q))) :: (r ++ [(q, .inl (g t, a0))])) hX hnm0 0 j hin hty hnm rfl hc hj hw hfin hdecl hd0 (hn q) (hfit q) (by rw [hl0]; exact hj) d2 rfl ?_
  exact k q (by rw [List.length_set]; exact hl0)
theorem K_getU (hX : kX D A g G own cc nL fr lo CE SL) {cs : List jC} {q : Nat → Nat} {M : jM} {L : jL} {C : String} {T : u_T} {N ci idx r : Nat} {fs : List (Option Nat)} (k0 j : Nat) (hin : ∀ w ∈ u_ws C T N, w ∈ wsL_law) (hk : cs[k0]? = some (jo ci fs)) (hc : vwCl[ci]? = some (C, T, N)) (hj : j < N) (hw : Cond.fieldLink own idx (T j).1 (T j).2.1 (T j).2.2.1 ∈ wsL_law) (hv : fs[j]? = some (some r)) (hd : decode cc pc = .ok (.getfield idx, 3))
    (k : Kj l D A G nL (kU cs q g M L) ce sl (pc + 3) loc (.ref (q r) :: rest)) : Kj l D A G nL (kU cs q g M L) ce sl pc loc (.ref (q k0) :: rest) :=
  K_get (v := .ref (q r)) hX k0 j hin (kU_at hk) hc hj hw (by rw [List.getElem?_mapIdx, hv]; rfl) hd k
theorem K_iastU (hX : kX D A g G own cc nL fr lo CE SL) {cs : List jC} {q : Nat → Nat} {M M' : jM} {L : jL} {n : Nat} {x v : Int32} (k0 i : Nat) (hk : cs[k0]? = some (ji 0 n)) (hx : x = nI i) (hi : i < n) (hn : n < 2 ^ 31) (hd : decode cc pc = .ok (.iastore, 1)) (hM : upd (M k0) i v = M' k0) (hne : ∀ k', k' ≠ k0 → M k' = M' k')
    (k : Kj l D A G nL (kU cs q g M' L) ce sl (pc + 1) loc rest) : Kj l D A G nL (kU cs q g M L) ce sl pc loc (.int v :: .int x :: .ref (q k0) :: rest) :=
  K_iast (f := M k0) hX k0 i (kU_at hk) hx hi hn hd (by
    rw [hM]
    exact kU_set hk hne) k
end KE

def z8 : List Value := [.null, .null, .null, .null, .null, .int 0, .int 0, .int 0, .int 0, .null, .null, .null, .int 0, .null, .int 0, .null, .null, .null, .int 0, .null, .int 0, .int 0, .int 0, .null, .null, .null, .null, .null, .null, .null, .null, .null, .int 0, .int 0]
def mL (a b c d : Nat) : jM := fun k => match k with
  | 1 => fl 100 a
  | 2 => fl 100 b
  | 4 => fl 100 c
  | 5 => fl (-6) d
  | _ => fun _ => 0
theorem mL_1 {a a' b c d : Nat} : ∀ k', k' ≠ 1 → mL a b c d k' = mL a' b c d k' := by
  intro k h
  match k, h with
  | 0, _ => rfl
  | 1, h => exact absurd rfl h
  | 2, _ => rfl
  | 3, _ => rfl
  | 4, _ => rfl
  | 5, _ => rfl
  | k + 6, _ => rfl
theorem mL_2 {a b b' c d : Nat} : ∀ k', k' ≠ 2 → mL a b c d k' = mL a b' c d k' := by
  intro k h
  match k, h with
  | 0, _ => rfl
  | 1, _ => rfl
  | 2, h => exact absurd rfl h
  | 3, _ => rfl
  | 4, _ => rfl
  | 5, _ => rfl
  | k + 6, _ => rfl
theorem mL_4 {a b c c' d : Nat} : ∀ k', k' ≠ 4 → mL a b c d k' = mL a b c' d k' := by
  intro k h
  match k, h with
  | 0, _ => rfl
  | 1, _ => rfl
  | 2, _ => rfl
  | 3, _ => rfl
  | 4, h => exact absurd rfl h
  | 5, _ => rfl
  | k + 6, _ => rfl
theorem mL_5 {a b c d d' : Nat} : ∀ k', k' ≠ 5 → mL a b c d k' = mL a b c d' k' := by
  intro k h
  match k, h with
  | 0, _ => rfl
  | 1, _ => rfl
  | 2, _ => rfl
  | 3, _ => rfl
  | 4, _ => rfl
  | 5, h => exact absurd rfl h
  | k + 6, _ => rfl
theorem mL_M : mL 6 6 8 8 = mM := by
  funext k
  match k with
  | 0 => rfl
  | 1 => rfl
  | 2 => rfl
  | 3 => rfl
  | 4 => rfl
  | 5 => rfl
  | k + 6 => rfl

set_option maxHeartbeats 4000000 in
theorem X8_tail {l : Launch} {D : va_G} {g : Nat → ClassId} {G : jG} {q : Nat → Nat} (hX : kX D (va_A (kO (q 0) 8 z8) (gs G).heap.size) g G RX8 cX8_init 2 1 12 22 900) (hZ : kZ D G 22 900 8 z8 (fun q => kU cs8 q g mM l00) (q 0)) : Kj l D (va_A (kO (q 0) 8 z8) (gs G).heap.size) G 2 (kU cs8 q g (mL 0 0 0 0) l00) 22 900 180 [(0, .ref (q 0))] [] := by
  have key1 : ∀ d i, i + d = 8 → Kj l D (va_A (kO (q 0) 8 z8) (gs G).heap.size) G 2 (kU cs8 q g (mL 6 6 i i) l00) 22 900 212 [(1, .int (nI i)), (0, .ref (q 0))] [] := by
    intro d
    induction d with
    | zero =>
      intro i hi
      have e : i = 8 := by omega
      subst e
      refine K_iload_n hX 0 dX8_init_212 rfl ?_
      refine K_bipush (v := 8) hX dX8_init_213 (by decide) ?_
      refine K_icmp_ge hX 240 dX8_init_215 rfl (fun _ => ?_) (fun h => absurd (show (8 : Int32) ≤ nI 8 by decide) h)
      exact K_vret hX hZ q rfl dX8_init_240 (Nat.le_of_ble_eq_true rfl) (Nat.le_of_ble_eq_true rfl) (by rw [mL_M])
    | succ d ih =>
      intro i hi
      refine K_iload_n hX 0 dX8_init_212 rfl ?_
      refine K_bipush (v := 8) hX dX8_init_213 (by decide) ?_
      refine K_icmp_ge hX 240 dX8_init_215 rfl (fun h => absurd h (nI_ge (a := i) (b := 8) (by omega) (by decide))) (fun _ => ?_)
      refine K_aload_n hX 1 dX8_init_218 rfl ?_
      refine K_getU (r := 4) hX 0 3 inlX8 rfl rfl (by decide) wm_4_22 rfl dX8_init_219 ?_
      refine K_iload_n hX 0 dX8_init_222 rfl ?_
      refine K_bipush (v := 100) hX dX8_init_223 (by decide) ?_
      refine K_iastU (M := mL 6 6 i i) (M' := mL 6 6 (i + 1) i) hX 4 i rfl rfl (by omega) (by decide) dX8_init_225 (fl_up 100 i) mL_4 ?_
      refine K_aload_n hX 1 dX8_init_226 rfl ?_
      refine K_getU (r := 5) hX 0 4 inlX8 rfl rfl (by decide) wm_4_23 rfl dX8_init_227 ?_
      refine K_iload_n hX 0 dX8_init_230 rfl ?_
      refine K_bipush (v := (-6)) hX dX8_init_231 (by decide) ?_
      refine K_iastU (M := mL 6 6 (i + 1) i) (M' := mL 6 6 (i + 1) (i + 1)) hX 5 i rfl rfl (by omega) (by decide) dX8_init_233 (fl_up (-6) i) mL_5 ?_
      refine K_iinc (v := nI (i + 1)) (loc' := [(1, .int (nI (i + 1))), (0, .ref (q 0))]) hX 0 dX8_init_234 rfl (nI_add i 1) (by decide) rfl ?_
      refine K_goto hX 212 dX8_init_237 rfl ?_
      exact ih (i + 1) (by omega)
  have key0 : ∀ d i, i + d = 6 → Kj l D (va_A (kO (q 0) 8 z8) (gs G).heap.size) G 2 (kU cs8 q g (mL i i 0 0) l00) 22 900 182 [(1, .int (nI i)), (0, .ref (q 0))] [] := by
    intro d
    induction d with
    | zero =>
      intro i hi
      have e : i = 6 := by omega
      subst e
      refine K_iload_n hX 0 dX8_init_182 rfl ?_
      refine K_bipush (v := 6) hX dX8_init_183 (by decide) ?_
      refine K_icmp_ge hX 210 dX8_init_185 rfl (fun _ => ?_) (fun h => absurd (show (6 : Int32) ≤ nI 6 by decide) h)
      refine K_iconst (v := 0) hX dX8_init_210 (by decide) ?_
      refine K_istore_n (loc' := [(1, .int (nI 0)), (0, .ref (q 0))]) hX dX8_init_211 (by decide) rfl ?_
      exact key1 8 0 rfl
    | succ d ih =>
      intro i hi
      refine K_iload_n hX 0 dX8_init_182 rfl ?_
      refine K_bipush (v := 6) hX dX8_init_183 (by decide) ?_
      refine K_icmp_ge hX 210 dX8_init_185 rfl (fun h => absurd h (nI_ge (a := i) (b := 6) (by omega) (by decide))) (fun _ => ?_)
      refine K_aload_n hX 1 dX8_init_188 rfl ?_
      refine K_getU (r := 1) hX 0 0 inlX8 rfl rfl (by decide) wm_4_19 rfl dX8_init_189 ?_
      refine K_iload_n hX 0 dX8_init_192 rfl ?_
      refine K_bipush (v := 100) hX dX8_init_193 (by decide) ?_
      refine K_iastU (M := mL i i 0 0) (M' := mL (i + 1) i 0 0) hX 1 i rfl rfl (by omega) (by decide) dX8_init_195 (fl_up 100 i) mL_1 ?_
      refine K_aload_n hX 1 dX8_init_196 rfl ?_
      refine K_getU (r := 2) hX 0 1 inlX8 rfl rfl (by decide) wm_4_20 rfl dX8_init_197 ?_
      refine K_iload_n hX 0 dX8_init_200 rfl ?_
      refine K_bipush (v := 100) hX dX8_init_201 (by decide) ?_
      refine K_iastU (M := mL (i + 1) i 0 0) (M' := mL (i + 1) (i + 1) 0 0) hX 2 i rfl rfl (by omega) (by decide) dX8_init_203 (fl_up 100 i) mL_2 ?_
      refine K_iinc (v := nI (i + 1)) (loc' := [(1, .int (nI (i + 1))), (0, .ref (q 0))]) hX 0 dX8_init_204 rfl (nI_add i 1) (by decide) rfl ?_
      refine K_goto hX 182 dX8_init_207 rfl ?_
      exact ih (i + 1) (by omega)
  refine K_iconst (v := 0) hX dX8_init_180 (by decide) ?_
  refine K_istore_n (loc' := [(1, .int (nI 0)), (0, .ref (q 0))]) hX dX8_init_181 (by decide) rfl ?_
  exact key0 6 0 rfl

set_option maxHeartbeats 4000000 in
set_option maxRecDepth 10000 in
theorem c_X8_init (l : Launch) (D : va_G) (g : Nat → ClassId) : kV l D g yX8_init cX8_init 2 1 12 22 900 8 z8 (fun q => kU cs8 q g mM l00) := by
  refine kMeth (by decide) rfl (by decide) ?_
  intro G h0 hX hZ
  refine K_aload_n hX 0 dX8_init_0 rfl ?_
  refine K_obj hX wm_4_18 dX8_init_1 (Nat.le_of_ble_eq_true rfl) (Nat.le_of_ble_eq_true rfl) ?_
  refine K_fld (p1 := 7) (at0 := .int) (ty := .int) (tf := .array .int) (x := 6) (N' := 6) (a0 := (6, .inl (fl 100 0))) hX hZ.2.2.1 0 0 dX8_init_4 rfl (fun _ kk => K_bipush (v := 6) hX dX8_init_5 (by decide) kk) rfl wm_2_20 rfl kr_int (fun cA => by rw [← fl_0]; rfl) (by decide) (by decide) (by decide) (Nat.le_of_ble_eq_true rfl) (Nat.le_of_ble_eq_true rfl) dX8_init_7 inlX8 tyX8_ok nmX8 rfl (by decide) wm_4_19 rfl rfl (by decide +kernel) (fun _ => rfl) (fun _ => rfl) rfl dX8_init_9 (fun q1 e1 => ?_)
  refine K_fld (p1 := 15) (at0 := .int) (ty := .int) (tf := .array .int) (x := 6) (N' := 6) (a0 := (6, .inl (fl 100 0))) hX hZ.2.2.1 0 1 dX8_init_12 rfl (fun _ kk => K_bipush (v := 6) hX dX8_init_13 (by decide) kk) rfl wm_2_20 rfl kr_int (fun cA => by rw [← fl_0]; rfl) (by decide) (by decide) (by decide) (Nat.le_of_ble_eq_true rfl) (Nat.le_of_ble_eq_true rfl) dX8_init_15 inlX8 tyX8_ok nmX8 rfl (by decide) wm_4_20 rfl rfl (by decide +kernel) (fun _ => rfl) (fun _ => rfl) e1 dX8_init_17 (fun q2 e2 => ?_)
  refine K_fld (p1 := 23) (at0 := .int) (ty := .int) (tf := .array .int) (x := 36) (N' := 36) (a0 := (36, .inl (fun _ => 0))) hX hZ.2.2.1 0 2 dX8_init_20 rfl (fun _ kk => K_bipush (v := 36) hX dX8_init_21 (by decide) kk) rfl wm_2_20 rfl kr_int (fun _ => rfl) (by decide) (by decide) (by decide) (Nat.le_of_ble_eq_true rfl) (Nat.le_of_ble_eq_true rfl) dX8_init_23 inlX8 tyX8_ok nmX8 rfl (by decide) wm_4_21 rfl rfl (by decide +kernel) (fun _ => rfl) (fun _ => rfl) e2 dX8_init_25 (fun q3 e3 => ?_)
  refine K_fld (p1 := 31) (at0 := .int) (ty := .int) (tf := .array .int) (x := 8) (N' := 8) (a0 := (8, .inl (fl 100 0))) hX hZ.2.2.1 0 3 dX8_init_28 rfl (fun _ kk => K_bipush (v := 8) hX dX8_init_29 (by decide) kk) rfl wm_2_20 rfl kr_int (fun cA => by rw [← fl_0]; rfl) (by decide) (by decide) (by decide) (Nat.le_of_ble_eq_true rfl) (Nat.le_of_ble_eq_true rfl) dX8_init_31 inlX8 tyX8_ok nmX8 rfl (by decide) wm_4_22 rfl rfl (by decide +kernel) (fun _ => rfl) (fun _ => rfl) e3 dX8_init_33 (fun q4 e4 => ?_)
  refine K_fld (p1 := 39) (at0 := .int) (ty := .int) (tf := .array .int) (x := 8) (N' := 8) (a0 := (8, .inl (fl (-6) 0))) hX hZ.2.2.1 0 4 dX8_init_36 rfl (fun _ kk => K_bipush (v := 8) hX dX8_init_37 (by decide) kk) rfl wm_2_20 rfl kr_int (fun cA => by rw [← fl_0]; rfl) (by decide) (by decide) (by decide) (Nat.le_of_ble_eq_true rfl) (Nat.le_of_ble_eq_true rfl) dX8_init_39 inlX8 tyX8_ok nmX8 rfl (by decide) wm_4_23 rfl rfl (by decide +kernel) (fun _ => rfl) (fun _ => rfl) e4 dX8_init_41 (fun q5 e5 => ?_)
  refine K_fld (p1 := 47) (at0 := .int) (ty := .int) (tf := .array .int) (x := 8) (N' := 8) (a0 := (8, .inl (fun _ => 0))) hX hZ.2.2.1 0 9 dX8_init_44 rfl (fun _ kk => K_bipush (v := 8) hX dX8_init_45 (by decide) kk) rfl wm_2_20 rfl kr_int (fun _ => rfl) (by decide) (by decide) (by decide) (Nat.le_of_ble_eq_true rfl) (Nat.le_of_ble_eq_true rfl) dX8_init_47 inlX8 tyX8_ok nmX8 rfl (by decide) wm_5_0 rfl rfl (by decide +kernel) (fun _ => rfl) (fun _ => rfl) e5 dX8_init_49 (fun q6 e6 => ?_)
  refine K_fld (p1 := 55) (at0 := .int) (ty := .int) (tf := .array .int) (x := 8) (N' := 8) (a0 := (8, .inl (fun _ => 0))) hX hZ.2.2.1 0 10 dX8_init_52 rfl (fun _ kk => K_bipush (v := 8) hX dX8_init_53 (by decide) kk) rfl wm_2_20 rfl kr_int (fun _ => rfl) (by decide) (by decide) (by decide) (Nat.le_of_ble_eq_true rfl) (Nat.le_of_ble_eq_true rfl) dX8_init_55 inlX8 tyX8_ok nmX8 rfl (by decide) wm_5_1 rfl rfl (by decide +kernel) (fun _ => rfl) (fun _ => rfl) e6 dX8_init_57 (fun q7 e7 => ?_)
  refine K_fld (p1 := 63) (at0 := .int) (ty := .int) (tf := .array .int) (x := 8) (N' := 8) (a0 := (8, .inl (fun _ => 0))) hX hZ.2.2.1 0 11 dX8_init_60 rfl (fun _ kk => K_bipush (v := 8) hX dX8_init_61 (by decide) kk) rfl wm_2_20 rfl kr_int (fun _ => rfl) (by decide) (by decide) (by decide) (Nat.le_of_ble_eq_true rfl) (Nat.le_of_ble_eq_true rfl) dX8_init_63 inlX8 tyX8_ok nmX8 rfl (by decide) wm_5_2 rfl rfl (by decide +kernel) (fun _ => rfl) (fun _ => rfl) e7 dX8_init_65 (fun q8 e8 => ?_)
  refine K_fld (p1 := 71) (at0 := .int) (ty := .int) (tf := .array .int) (x := 60) (N' := 60) (a0 := (60, .inl (fun _ => 0))) hX hZ.2.2.1 0 13 dX8_init_68 rfl (fun _ kk => K_bipush (v := 60) hX dX8_init_69 (by decide) kk) rfl wm_2_20 rfl kr_int (fun _ => rfl) (by decide) (by decide) (by decide) (Nat.le_of_ble_eq_true rfl) (Nat.le_of_ble_eq_true rfl) dX8_init_71 inlX8 tyX8_ok nmX8 rfl (by decide) wm_5_3 rfl rfl (by decide +kernel) (fun _ => rfl) (fun _ => rfl) e8 dX8_init_73 (fun q9 e9 => ?_)
  refine K_fld (p1 := 79) (at0 := .int) (ty := .int) (tf := .array .int) (x := 60) (N' := 60) (a0 := (60, .inl (fun _ => 0))) hX hZ.2.2.1 0 15 dX8_init_76 rfl (fun _ kk => K_bipush (v := 60) hX dX8_init_77 (by decide) kk) rfl wm_2_20 rfl kr_int (fun _ => rfl) (by decide) (by decide) (by decide) (Nat.le_of_ble_eq_true rfl) (Nat.le_of_ble_eq_true rfl) dX8_init_79 inlX8 tyX8_ok nmX8 rfl (by decide) wm_5_4 rfl rfl (by decide +kernel) (fun _ => rfl) (fun _ => rfl) e9 dX8_init_81 (fun q10 e10 => ?_)
  refine K_fld (p1 := 87) (at0 := .int) (ty := .int) (tf := .array .int) (x := 60) (N' := 60) (a0 := (60, .inl (fun _ => 0))) hX hZ.2.2.1 0 16 dX8_init_84 rfl (fun _ kk => K_bipush (v := 60) hX dX8_init_85 (by decide) kk) rfl wm_2_20 rfl kr_int (fun _ => rfl) (by decide) (by decide) (by decide) (Nat.le_of_ble_eq_true rfl) (Nat.le_of_ble_eq_true rfl) dX8_init_87 inlX8 tyX8_ok nmX8 rfl (by decide) wm_5_5 rfl rfl (by decide +kernel) (fun _ => rfl) (fun _ => rfl) e10 dX8_init_89 (fun q11 e11 => ?_)
  refine K_fld (p1 := 95) (at0 := .int) (ty := .int) (tf := .array .int) (x := 60) (N' := 60) (a0 := (60, .inl (fun _ => 0))) hX hZ.2.2.1 0 17 dX8_init_92 rfl (fun _ kk => K_bipush (v := 60) hX dX8_init_93 (by decide) kk) rfl wm_2_20 rfl kr_int (fun _ => rfl) (by decide) (by decide) (by decide) (Nat.le_of_ble_eq_true rfl) (Nat.le_of_ble_eq_true rfl) dX8_init_95 inlX8 tyX8_ok nmX8 rfl (by decide) wm_5_6 rfl rfl (by decide +kernel) (fun _ => rfl) (fun _ => rfl) e11 dX8_init_97 (fun q12 e12 => ?_)
  refine K_fld (p1 := 103) (at0 := .int) (ty := .int) (tf := .array .int) (x := 60) (N' := 60) (a0 := (60, .inl (fun _ => 0))) hX hZ.2.2.1 0 19 dX8_init_100 rfl (fun _ kk => K_bipush (v := 60) hX dX8_init_101 (by decide) kk) rfl wm_2_20 rfl kr_int (fun _ => rfl) (by decide) (by decide) (by decide) (Nat.le_of_ble_eq_true rfl) (Nat.le_of_ble_eq_true rfl) dX8_init_103 inlX8 tyX8_ok nmX8 rfl (by decide) wm_5_7 rfl rfl (by decide +kernel) (fun _ => rfl) (fun _ => rfl) e12 dX8_init_105 (fun q13 e13 => ?_)
  refine K_fld (p1 := 111) (at0 := .int) (ty := .int) (tf := .array .int) (x := 60) (N' := 60) (a0 := (60, .inl (fun _ => 0))) hX hZ.2.2.1 0 23 dX8_init_108 rfl (fun _ kk => K_bipush (v := 60) hX dX8_init_109 (by decide) kk) rfl wm_2_20 rfl kr_int (fun _ => rfl) (by decide) (by decide) (by decide) (Nat.le_of_ble_eq_true rfl) (Nat.le_of_ble_eq_true rfl) dX8_init_111 inlX8 tyX8_ok nmX8 rfl (by decide) wm_5_8 rfl rfl (by decide +kernel) (fun _ => rfl) (fun _ => rfl) e13 dX8_init_113 (fun q14 e14 => ?_)
  refine K_fld (p1 := 119) (at0 := .int) (ty := .int) (tf := .array .int) (x := 6) (N' := 6) (a0 := (6, .inl (fun _ => 0))) hX hZ.2.2.1 0 24 dX8_init_116 rfl (fun _ kk => K_bipush (v := 6) hX dX8_init_117 (by decide) kk) rfl wm_2_20 rfl kr_int (fun _ => rfl) (by decide) (by decide) (by decide) (Nat.le_of_ble_eq_true rfl) (Nat.le_of_ble_eq_true rfl) dX8_init_119 inlX8 tyX8_ok nmX8 rfl (by decide) wm_5_9 rfl rfl (by decide +kernel) (fun _ => rfl) (fun _ => rfl) e14 dX8_init_121 (fun q15 e15 => ?_)
  refine K_fld (p1 := 127) (at0 := .int) (ty := .int) (tf := .array .int) (x := 64) (N' := 64) (a0 := (64, .inl (fun _ => 0))) hX hZ.2.2.1 0 25 dX8_init_124 rfl (fun _ kk => K_bipush (v := 64) hX dX8_init_125 (by decide) kk) rfl wm_2_20 rfl kr_int (fun _ => rfl) (by decide) (by decide) (by decide) (Nat.le_of_ble_eq_true rfl) (Nat.le_of_ble_eq_true rfl) dX8_init_127 inlX8 tyX8_ok nmX8 rfl (by decide) wm_5_10 rfl rfl (by decide +kernel) (fun _ => rfl) (fun _ => rfl) e15 dX8_init_129 (fun q16 e16 => ?_)
  refine K_fld (p1 := 135) (at0 := .int) (ty := .int) (tf := .array .int) (x := 9) (N' := 9) (a0 := (9, .inl (fun _ => 0))) hX hZ.2.2.1 0 26 dX8_init_132 rfl (fun _ kk => K_bipush (v := 9) hX dX8_init_133 (by decide) kk) rfl wm_2_20 rfl kr_int (fun _ => rfl) (by decide) (by decide) (by decide) (Nat.le_of_ble_eq_true rfl) (Nat.le_of_ble_eq_true rfl) dX8_init_135 inlX8 tyX8_ok nmX8 rfl (by decide) wm_5_11 rfl rfl (by decide +kernel) (fun _ => rfl) (fun _ => rfl) e16 dX8_init_137 (fun q17 e17 => ?_)
  refine K_fld (p1 := 143) (at0 := .long) (ty := .long) (tf := .array .long) (x := 70) (N' := 70) (a0 := (70, .inr (.inl (fun _ => 0)))) hX hZ.2.2.1 1 27 dX8_init_140 rfl (fun _ kk => K_bipush (v := 70) hX dX8_init_141 (by decide) kk) rfl wm_4_5 rfl kr_long (fun _ => rfl) (by decide) (by decide) (by decide) (Nat.le_of_ble_eq_true rfl) (Nat.le_of_ble_eq_true rfl) dX8_init_143 inlX8 tyX8_ok nmX8 rfl (by decide) wm_5_12 rfl rfl (by decide +kernel) (fun _ => rfl) (fun _ => rfl) e17 dX8_init_145 (fun q18 e18 => ?_)
  refine K_fld (p1 := 151) (at0 := .long) (ty := .long) (tf := .array .long) (x := 70) (N' := 70) (a0 := (70, .inr (.inl (fun _ => 0)))) hX hZ.2.2.1 1 28 dX8_init_148 rfl (fun _ kk => K_bipush (v := 70) hX dX8_init_149 (by decide) kk) rfl wm_4_5 rfl kr_long (fun _ => rfl) (by decide) (by decide) (by decide) (Nat.le_of_ble_eq_true rfl) (Nat.le_of_ble_eq_true rfl) dX8_init_151 inlX8 tyX8_ok nmX8 rfl (by decide) wm_5_13 rfl rfl (by decide +kernel) (fun _ => rfl) (fun _ => rfl) e18 dX8_init_153 (fun q19 e19 => ?_)
  refine K_fld (p1 := 159) (at0 := .long) (ty := .long) (tf := .array .long) (x := 31) (N' := 31) (a0 := (31, .inr (.inl (fun _ => 0)))) hX hZ.2.2.1 1 29 dX8_init_156 rfl (fun _ kk => K_bipush (v := 31) hX dX8_init_157 (by decide) kk) rfl wm_4_5 rfl kr_long (fun _ => rfl) (by decide) (by decide) (by decide) (Nat.le_of_ble_eq_true rfl) (Nat.le_of_ble_eq_true rfl) dX8_init_159 inlX8 tyX8_ok nmX8 rfl (by decide) wm_5_14 rfl rfl (by decide +kernel) (fun _ => rfl) (fun _ => rfl) e19 dX8_init_161 (fun q20 e20 => ?_)
  refine K_fld (p1 := 168) (at0 := .int) (ty := .int) (tf := .array .int) (x := 200) (N' := 200) (a0 := (200, .inl (fun _ => 0))) hX hZ.2.2.1 0 30 dX8_init_164 rfl (fun _ kk => K_sipush (v := 200) hX dX8_init_165 (by decide) kk) rfl wm_2_20 rfl kr_int (fun _ => rfl) (by decide) (by decide) (by decide) (Nat.le_of_ble_eq_true rfl) (Nat.le_of_ble_eq_true rfl) dX8_init_168 inlX8 tyX8_ok nmX8 rfl (by decide) wm_5_15 rfl rfl (by decide +kernel) (fun _ => rfl) (fun _ => rfl) e20 dX8_init_170 (fun q21 e21 => ?_)
  refine K_fld (p1 := 175) (at0 := .boolean) (ty := .boolean) (tf := .array .boolean) (x := 2) (N' := 2) (a0 := (2, .inl (fun _ => 0))) hX hZ.2.2.1 2 31 dX8_init_173 rfl (fun _ kk => K_iconst (v := 2) hX dX8_init_174 (by decide) kk) rfl wm_5_16 rfl kr_bool (fun _ => rfl) (by decide) (by decide) (by decide) (Nat.le_of_ble_eq_true rfl) (Nat.le_of_ble_eq_true rfl) dX8_init_175 inlX8 tyX8_ok nmX8 rfl (by decide) wm_5_17 rfl rfl (by decide +kernel) (fun _ => rfl) (fun _ => rfl) e21 dX8_init_177 (fun q22 e22 => ?_)
  refine K_cg (ws' := kU cs8 (fun k => ([h0, q1, q2, q3, q4, q5, q6, q7, q8, q9, q10, q11, q12, q13, q14, q15, q16, q17, q18, q19, q20, q21, q22] : List Nat).getD k 0) g (mL 0 0 0 0) l00) ?_ rfl rfl ?_
  · simp only [z8, List.set_cons_succ, List.set_cons_zero, List.nil_append, List.cons_append]
    rw [kU_r]
    rfl
  exact X8_tail (q := fun k => ([h0, q1, q2, q3, q4, q5, q6, q7, q8, q9, q10, q11, q12, q13, q14, q15, q16, q17, q18, q19, q20, q21, q22] : List Nat).getD k 0) hX hZ
