/-! ===== constructors: a field that is a new object ===== -/
section KS
variable {l : Launch} {D : va_G} {A : Nat → Prop} {g : Nat → ClassId} {G : jG} {own : String} {cc : ByteArray} {nL fr lo CE SL : Nat} {ws : va_W} {ce sl : Nat} {pc : Nat} {loc loc' : List (Nat × Value)} {rest : List Value}
theorem K_subP (hX : kX D A g G own cc nL fr lo CE SL) (hnm0 : (gme G).name = "<init>") {C C2 : String} {T T2 : u_T} {N N2 ci ci2 idx idn idf h0 : Nat} {ty0 ty2 : Nat → FieldType} {fs fs2 : List Value} {r : va_W} {tf : FieldType} {y : MethodName} {C' : ByteArray} {n' fr' lo' ce' sl' : Nat} {F : (Nat → Nat) → va_W} (j : Nat)
    (d0 : decode cc pc = .ok (.aload_n 0, 1)) (hi : loc[0]? = some (0, .ref h0))
    (hin2 : ∀ w ∈ u_ws C2 T2 N2, w ∈ wsL_law) (hty2 : ∀ k, k < N2 → parseFieldDescriptor (T2 k).2.2.1 = some (ty2 k)) (hw1 : Cond.classLink own idn C2 ∈ wsL_law) (hw2 : Cond.instantiable C2 N2 ∈ wsL_law) (hw3 : Cond.initialized C2 ∈ wsL_law) (hc2 : vwCl[ci2]? = some (C2, T2, N2)) (hfs : ∀ j, j < N2 → defaultValue (ty2 j) = vp_V fs2 j) (d1 : decode cc (pc + 1) = .ok (.new idn, 3))
    (d2 : decode cc (pc + 4) = .ok (.dup, 1))
    (hM : kV l D g y C' n' fr' lo' ce' sl' ci2 fs2 F) (w1 : Cond.methodLink own idx y ∈ wsL_law) (w2 : Cond.instanceMethod y ∈ wsL_law) (w3 : Cond.initialized y.cls ∈ wsL_law) (w4 : Cond.code y C' n' none ∈ wsL_law) (hyn : y.name = "<init>") (hy3 : y.cls ≠ "java/lang/invoke/MethodHandle" ∧ y.cls ≠ "java/lang/invoke/VarHandle" ∧ (parseMethodDescriptor y.desc).map (fun d => d.parameters.length) = some 0)
    (hfr : fr' + 1 ≤ fr) (hlo : 8 + (n' + 11) + lo' ≤ lo) (hce : ce + 1 + ce' ≤ CE) (hsl : sl + N2 + sl' ≤ SL) (hsum : (rest.map fun v => v.category).sum ≤ 6) (d3 : decode cc (pc + 5) = .ok (.invokespecial idx, 3))
    (hin : ∀ w ∈ u_ws C T N, w ∈ wsL_law) (hty : ∀ k, k < N → parseFieldDescriptor (T k).2.2.1 = some (ty0 k)) (hnm : ∀ a, a < N → ∀ b, b < N → a ≠ b → (T a).2.1 ≠ (T b).2.1)
    (hc : vwCl[ci]? = some (C, T, N)) (hj : j < N) (hw : Cond.fieldLink own idf (T j).1 (T j).2.1 (T j).2.2.1 ∈ wsL_law) (hfin : (T j).2.2.2 = true) (hdecl : (T j).1 = own) (hd0 : parseFieldDescriptor (T j).2.2.1 = some tf) (hn : ∀ q : Nat, narrow tf (.ref q) = .ref q) (hfit : ∀ q : Nat, fits tf (.ref q) = true) (hl0 : fs.length = N) (d4 : decode cc (pc + 8) = .ok (.putfield idf, 3))
    (k : ∀ u : Nat → Nat, (fs.set j (.ref (u 0))).length = N → Kj l D A G nL ((h0, .inr (ci, fs.set j (.ref (u 0)))) :: (r ++ F u)) (ce + 1 + ce') (sl + N2 + sl') (pc + 11) loc rest) : Kj l D A G nL ((h0, .inr (ci, fs)) :: r) ce sl pc loc rest := by
  refine K_aload_n hX 0 d0 hi ?_
  refine K_new (ci := ci2) (fs := fs2) hX ty2 hin2 hty2 hw1 hw2 hw3 hc2 hfs (by omega) (by omega) d1 (fun q => ?_)
  refine K_dup hX d2 rfl ?_
  refine K_callE (w := (h0, .inr (ci, fs)) :: r) hX hM w1 w2 w3 w4 hyn hy3 hfr hlo hce hsl ?_ d3 (fun u hu => ?_)
  · rw [List.map_cons, List.map_cons, List.sum_cons, List.sum_cons]
    show 1 + (1 + (rest.map fun v => v.category).sum) ≤ 8
    omega
  subst hu
  refine K_putF (ws' := (h0, .inr (ci, fs.set j (.ref (u 0)))) :: (r ++ F u)) hX hnm0 0 j hin hty hnm rfl hc hj hw hfin hdecl hd0 (hn _) (hfit _) (by rw [hl0]; exact hj) d4 rfl ?_
  exact k u (by rw [List.length_set]; exact hl0)
theorem K_subN (hX : kX D A g G own cc nL fr lo CE SL) (hnm0 : (gme G).name = "<init>") {C C2 : String} {T T2 : u_T} {N N2 ci ci2 idx idn idf h0 : Nat} {ty0 ty2 : Nat → FieldType} {fs fs2 : List Value} {r : va_W} {tf : FieldType} {y : MethodName} {host : String} {C' : ByteArray} {n' fr' lo' ce' sl' : Nat} {F : (Nat → Nat) → va_W} (j : Nat)
    (d0 : decode cc pc = .ok (.aload_n 0, 1)) (hi : loc[0]? = some (0, .ref h0))
    (hin2 : ∀ w ∈ u_ws C2 T2 N2, w ∈ wsL_law) (hty2 : ∀ k, k < N2 → parseFieldDescriptor (T2 k).2.2.1 = some (ty2 k)) (hw1 : Cond.classLink own idn C2 ∈ wsL_law) (hw2 : Cond.instantiable C2 N2 ∈ wsL_law) (hw3 : Cond.initialized C2 ∈ wsL_law) (hc2 : vwCl[ci2]? = some (C2, T2, N2)) (hfs : ∀ j, j < N2 → defaultValue (ty2 j) = vp_V fs2 j) (d1 : decode cc (pc + 1) = .ok (.new idn, 3))
    (d2 : decode cc (pc + 4) = .ok (.dup, 1))
    (hM : kV l D g y C' n' fr' lo' ce' sl' ci2 fs2 F) (w1 : va_Nw (.methodLinkNest own idx y host) (gs G)) (w2 : Cond.instanceMethod y ∈ wsL_law) (w3 : Cond.initialized y.cls ∈ wsL_law) (w4 : Cond.code y C' n' none ∈ wsL_law) (hyn : y.name = "<init>") (hy3 : y.cls ≠ "java/lang/invoke/MethodHandle" ∧ y.cls ≠ "java/lang/invoke/VarHandle" ∧ (parseMethodDescriptor y.desc).map (fun d => d.parameters.length) = some 0)
    (hfr : fr' + 1 ≤ fr) (hlo : 8 + (n' + 11) + lo' ≤ lo) (hce : ce + 1 + ce' ≤ CE) (hsl : sl + N2 + sl' ≤ SL) (hsum : (rest.map fun v => v.category).sum ≤ 6) (d3 : decode cc (pc + 5) = .ok (.invokespecial idx, 3))
    (hin : ∀ w ∈ u_ws C T N, w ∈ wsL_law) (hty : ∀ k, k < N → parseFieldDescriptor (T k).2.2.1 = some (ty0 k)) (hnm : ∀ a, a < N → ∀ b, b < N → a ≠ b → (T a).2.1 ≠ (T b).2.1)
    (hc : vwCl[ci]? = some (C, T, N)) (hj : j < N) (hw : Cond.fieldLink own idf (T j).1 (T j).2.1 (T j).2.2.1 ∈ wsL_law) (hfin : (T j).2.2.2 = true) (hdecl : (T j).1 = own) (hd0 : parseFieldDescriptor (T j).2.2.1 = some tf) (hn : ∀ q : Nat, narrow tf (.ref q) = .ref q) (hfit : ∀ q : Nat, fits tf (.ref q) = true) (hl0 : fs.length = N) (d4 : decode cc (pc + 8) = .ok (.putfield idf, 3))
    (k : ∀ u : Nat → Nat, (fs.set j (.ref (u 0))).length = N → Kj l D A G nL ((h0, .inr (ci, fs.set j (.ref (u 0)))) :: (r ++ F u)) (ce + 1 + ce') (sl + N2 + sl') (pc + 11) loc rest) : Kj l D A G nL ((h0, .inr (ci, fs)) :: r) ce sl pc loc rest := by
  refine K_aload_n hX 0 d0 hi ?_
  refine K_new (ci := ci2) (fs := fs2) hX ty2 hin2 hty2 hw1 hw2 hw3 hc2 hfs (by omega) (by omega) d1 (fun q => ?_)
  refine K_dup hX d2 rfl ?_
  refine K_callNE (w := (h0, .inr (ci, fs)) :: r) hX hM w1 w2 w3 w4 hyn hy3 hfr hlo hce hsl ?_ d3 (fun u hu => ?_)
  · rw [List.map_cons, List.map_cons, List.sum_cons, List.sum_cons]
    show 1 + (1 + (rest.map fun v => v.category).sum) ≤ 8
    omega
  subst hu
  refine K_putF (ws' := (h0, .inr (ci, fs.set j (.ref (u 0)))) :: (r ++ F u)) hX hnm0 0 j hin hty hnm rfl hc hj hw hfin hdecl hd0 (hn _) (hfit _) (by rw [hl0]; exact hj) d4 rfl ?_
  exact k u (by rw [List.length_set]; exact hl0)
end KS
def z0 : List Value := [.null, .null, .int 0]
def csI : List jC := [jo 0 [some 1, some 13, none]] ++ (jRealm 1 ++ jSights 13)
theorem w0 (g : Nat → ClassId) (h0 : Nat) (u1 u2 : Nat → Nat) : (((h0, .inr (0, (z0.set 0 (.ref (u1 0))).set 1 (.ref (u2 0)))) :: (([] ++ kU (jRealm 0) u1 g mR l00) ++ kU (jSights 0) u2 g m00 l00)) : va_W) = kU csI (fun k => ([h0, u1 0, u1 1, u1 2, u1 3, u1 4, u1 5, u1 6, u1 7, u1 8, u1 9, u1 10, u1 11, u2 0, u2 1, u2 2, u2 3, u2 4] : List Nat).getD k 0) g mI l00 := by
  simp only [z0, List.set_cons_succ, List.set_cons_zero, List.nil_append, kU_r]
  rfl
set_option maxHeartbeats 4000000 in
set_option maxRecDepth 10000 in
theorem c_X0_init (l : Launch) (D : va_G) (g : Nat → ClassId) : kV l D g yX0_init cX0_init 1 2 33 17 116 0 z0 (fun q => kU csI q g mI l00) := by
  refine kMeth (by decide) rfl (by decide) ?_
  intro G h0 hX hZ
  refine K_aload_n hX 0 dX0_init_0 rfl ?_
  refine K_obj hX wm_4_9 dX0_init_1 (Nat.le_of_ble_eq_true rfl) (Nat.le_of_ble_eq_true rfl) ?_
  refine K_subP (ci2 := 2) (fs2 := [.null, .null, .null, .null, .null, .int 0, .int 0, .int 0, .int 0]) (tf := .object "AbbeyNotes$Realm") (y := yX2_init) (pc := 4) hX hZ.2.2.1 0 dX0_init_4 rfl inlX2 tyX2_ok wm_4_10 wm_1_13 wm_1_14 rfl (fun j hj => by rcases (show j = 0 ∨ j = 1 ∨ j = 2 ∨ j = 3 ∨ j = 4 ∨ j = 5 ∨ j = 6 ∨ j = 7 ∨ j = 8 by omega) with rfl | rfl | rfl | rfl | rfl | rfl | rfl | rfl | rfl <;> rfl) dX0_init_5 dX0_init_8 (c_X2_init l D g) wm_4_14 wm_2_17 wm_1_14 wm_2_18 rfl ⟨by decide +kernel, by decide +kernel, by decide +kernel⟩ (Nat.le_of_ble_eq_true rfl) (Nat.le_of_ble_eq_true rfl) (Nat.le_of_ble_eq_true rfl) (Nat.le_of_ble_eq_true rfl) (Nat.le_of_ble_eq_true rfl) dX0_init_9 inlX0 tyX0_ok nmX0 rfl (by decide) wm_4_11 rfl rfl (by decide +kernel) (fun _ => rfl) (fun _ => rfl) rfl dX0_init_12 (fun u1 e1 => ?_)
  refine K_subN (ci2 := 4) (fs2 := [.null, .null, .null, .null, .int 0]) (tf := .object "AbbeyNotes$Sights") (y := yX4_init) (pc := 15) hX hZ.2.2.1 1 dX0_init_15 rfl inlX4 tyX4_ok wm_4_12 wm_1_17 wm_1_18 rfl (fun j hj => by rcases (show j = 0 ∨ j = 1 ∨ j = 2 ∨ j = 3 ∨ j = 4 by omega) with rfl | rfl | rfl | rfl | rfl <;> rfl) dX0_init_16 dX0_init_19 (c_X4_init l D g) (hX.2.2.2.2.2.2.1.2.2.2.2 (RX0, 18, yX4_init) (List.mem_of_getElem? (i := 0) rfl)) wm_3_3 wm_1_18 wm_3_4 rfl ⟨by decide +kernel, by decide +kernel, by decide +kernel⟩ (Nat.le_of_ble_eq_true rfl) (Nat.le_of_ble_eq_true rfl) (Nat.le_of_ble_eq_true rfl) (Nat.le_of_ble_eq_true rfl) (Nat.le_of_ble_eq_true rfl) dX0_init_20 inlX0 tyX0_ok nmX0 rfl (by decide) wm_4_13 rfl rfl (by decide +kernel) (fun _ => rfl) (fun _ => rfl) e1 dX0_init_23 (fun u2 e2 => ?_)
  exact K_vret hX hZ (fun k => ([h0, u1 0, u1 1, u1 2, u1 3, u1 4, u1 5, u1 6, u1 7, u1 8, u1 9, u1 10, u1 11, u2 0, u2 1, u2 2, u2 3, u2 4] : List Nat).getD k 0) rfl dX0_init_26 (Nat.le_of_ble_eq_true rfl) (Nat.le_of_ble_eq_true rfl) (w0 g h0 u1 u2)
