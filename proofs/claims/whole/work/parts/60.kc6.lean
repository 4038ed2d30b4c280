/-! ===== constructors: AbbeyNotes ===== -/
def z7 : List Value := [.null, .null, .null, .null, .null, .null, .null]
def c7 : List jC := [jo 7 [some 1, some 13, some 18, some 20, some 33, some 36, some 40]] ++ (jRealm 1 ++ (jSights 13 ++ ([jo 1 [some 19, none], ji 0 60]
  ++ ([jo 5 [some 21, none, none, none, none, none, none, none, none]] ++ (jRealm 21 ++ ([jo 3 [some 34, some 35], ji 0 6, ji 0 64] ++ ([jo 6 [some 37], jr 4 [38, 39], jj 69, jj 69]
  ++ ([jr 5 [41, 59]] ++ ([jo 0 [some 42, some 54, none]] ++ (jRealm 42 ++ (jSights 54 ++ ([jo 0 [some 60, some 72, none]] ++ (jRealm 60 ++ jSights 72)))))))))))))
def m7 : jM := fun k => if k < 13 then mT k else if k < 20 then fun _ => 0 else if k < 33 then mT (k - 20) else if k < 41 then fun _ => 0 else if k < 59 then mI (k - 41) else mI (k - 59)
def w7 (g : Nat → ClassId) (fs : List Value) (h0 : Nat) (u1 u2 u3 u4 u5 u6 : Nat → Nat) : va_W := (h0, .inr (7, fs)) :: (((((([] ++ kU (jRealm 0) u1 g mR l00) ++ kU (jSights 0) u2 g m00 l00) ++ kU [jo 1 [some 1, none], ji 0 60] u3 g m00 l00) ++ kU ([jo 5 [some 1, none, none, none, none, none, none, none, none]] ++ jRealm 1) u4 g mT l00) ++ kU [jo 3 [some 1, some 2], ji 0 6, ji 0 64] u5 g m00 l00) ++ kU [jo 6 [some 1], jr 4 [2, 3], jj 69, jj 69] u6 g m00 l00)
theorem w7_len {g : Nat → ClassId} {fs : List Value} {h0 : Nat} {u1 u2 u3 u4 u5 u6 : Nat → Nat} : (w7 g fs h0 u1 u2 u3 u4 u5 u6).length = 40 := by
  unfold w7
  simp only [List.length_cons, List.length_append, kU_len, List.length_nil]
set_option maxHeartbeats 4000000 in
set_option maxRecDepth 100000 in
theorem w7_fin (g : Nat → ClassId) (h0 q : Nat) (u1 u2 u3 u4 u5 u6 v1 v2 : Nat → Nat) : (w7 g (((((((z7.set 0 (.ref (u1 0))).set 1 (.ref (u2 0))).set 2 (.ref (u3 0))).set 3 (.ref (u4 0))).set 4 (.ref (u5 0))).set 5 (.ref (u6 0))).set 6 (.ref q)) h0 u1 u2 u3 u4 u5 u6 ++ [(q, .inl (g 5, 2, .inr (.inr (.inr (.inr (fun i => ([v1 0, v2 0] : List Nat)[i]?))))))]) ++ (kU csI v1 g mI l00 ++ kU csI v2 g mI l00) = kU c7 (fun k => ([h0, u1 0, u1 1, u1 2, u1 3, u1 4, u1 5, u1 6, u1 7, u1 8, u1 9, u1 10, u1 11, u2 0, u2 1, u2 2, u2 3, u2 4, u3 0, u3 1, u4 0, u4 1, u4 2, u4 3, u4 4, u4 5, u4 6, u4 7, u4 8, u4 9, u4 10, u4 11, u4 12, u5 0, u5 1, u5 2, u6 0, u6 1, u6 2, u6 3, q, v1 0, v1 1, v1 2, v1 3, v1 4, v1 5, v1 6, v1 7, v1 8, v1 9, v1 10, v1 11, v1 12, v1 13, v1 14, v1 15, v1 16, v1 17, v2 0, v2 1, v2 2, v2 3, v2 4, v2 5, v2 6, v2 7, v2 8, v2 9, v2 10, v2 11, v2 12, v2 13, v2 14, v2 15, v2 16, v2 17] : List Nat).getD k 0) g m7 l00 := by
  unfold w7
  simp only [z7, List.set_cons_succ, List.set_cons_zero, List.nil_append, List.cons_append, List.append_assoc, kU_r]
  rfl
theorem kI_at (g : Nat → ClassId) (v : Nat → Nat) : (kU csI v g mI l00)[0]? = some (v 0, .inr (0, [.ref (v 1), .ref (v 13), .int 0])) := by
  rw [kU_r]
  rfl
set_option maxHeartbeats 4000000 in
set_option maxRecDepth 10000 in
theorem c_X7_init (l : Launch) (D : va_G) (g : Nat → ClassId) : kV l D g yX7_init cX7_init 2 3 53 76 719 7 z7 (fun q => kU c7 q g m7 l00) := by
  refine kMeth (by decide) rfl (by decide) ?_
  intro G h0 hX hZ
  refine K_aload_n hX 0 dX7_init_0 rfl ?_
  refine K_obj hX wm_1_9 dX7_init_1 (Nat.le_of_ble_eq_true rfl) (Nat.le_of_ble_eq_true rfl) ?_
  refine K_subP (ci2 := 2) (fs2 := [.null, .null, .null, .null, .null, .int 0, .int 0, .int 0, .int 0]) (tf := .object "AbbeyNotes$Realm") (y := yX2_init) (pc := 4) hX hZ.2.2.1 0 dX7_init_4 rfl inlX2 tyX2_ok wm_1_12 wm_1_13 wm_1_14 rfl (fun j hj => by rcases (show j = 0 ∨ j = 1 ∨ j = 2 ∨ j = 3 ∨ j = 4 ∨ j = 5 ∨ j = 6 ∨ j = 7 ∨ j = 8 by omega) with rfl | rfl | rfl | rfl | rfl | rfl | rfl | rfl | rfl <;> rfl) dX7_init_5 dX7_init_8 (c_X2_init l D g) wm_2_16 wm_2_17 wm_1_14 wm_2_18 rfl ⟨by decide +kernel, by decide +kernel, by decide +kernel⟩ (Nat.le_of_ble_eq_true rfl) (Nat.le_of_ble_eq_true rfl) (Nat.le_of_ble_eq_true rfl) (Nat.le_of_ble_eq_true rfl) (Nat.le_of_ble_eq_true rfl) dX7_init_9 inlX7 tyX7_ok nmX7 rfl (by decide) wm_1_15 rfl rfl (by decide +kernel) (fun _ => rfl) (fun _ => rfl) rfl dX7_init_12 (fun u1 e1 => ?_)
  refine K_subN (ci2 := 4) (fs2 := [.null, .null, .null, .null, .int 0]) (tf := .object "AbbeyNotes$Sights") (y := yX4_init) (pc := 15) hX hZ.2.2.1 1 dX7_init_15 rfl inlX4 tyX4_ok wm_1_16 wm_1_17 wm_1_18 rfl (fun j hj => by rcases (show j = 0 ∨ j = 1 ∨ j = 2 ∨ j = 3 ∨ j = 4 by omega) with rfl | rfl | rfl | rfl | rfl <;> rfl) dX7_init_16 dX7_init_19 (c_X4_init l D g) (hX.2.2.2.2.2.2.1.2.2.2.2 (RX7, 18, yX4_init) (List.mem_of_getElem? (i := 1) rfl)) wm_3_3 wm_1_18 wm_3_4 rfl ⟨by decide +kernel, by decide +kernel, by decide +kernel⟩ (Nat.le_of_ble_eq_true rfl) (Nat.le_of_ble_eq_true rfl) (Nat.le_of_ble_eq_true rfl) (Nat.le_of_ble_eq_true rfl) (Nat.le_of_ble_eq_true rfl) dX7_init_20 inlX7 tyX7_ok nmX7 rfl (by decide) wm_1_19 rfl rfl (by decide +kernel) (fun _ => rfl) (fun _ => rfl) e1 dX7_init_23 (fun u2 e2 => ?_)
  refine K_subN (ci2 := 1) (fs2 := [.null, .int 0]) (tf := .object "AbbeyNotes$Pad") (y := yX1_init) (pc := 26) hX hZ.2.2.1 2 dX7_init_26 rfl inlX1 tyX1_ok wm_1_20 wm_1_21 wm_1_22 rfl (fun j hj => by rcases (show j = 0 ∨ j = 1 by omega) with rfl | rfl <;> rfl) dX7_init_27 dX7_init_30 (c_X1_init l D g) (hX.2.2.2.2.2.2.1.2.2.2.2 (RX7, 25, yX1_init) (List.mem_of_getElem? (i := 2) rfl)) wm_3_10 wm_1_22 wm_3_11 rfl ⟨by decide +kernel, by decide +kernel, by decide +kernel⟩ (Nat.le_of_ble_eq_true rfl) (Nat.le_of_ble_eq_true rfl) (Nat.le_of_ble_eq_true rfl) (Nat.le_of_ble_eq_true rfl) (Nat.le_of_ble_eq_true rfl) dX7_init_31 inlX7 tyX7_ok nmX7 rfl (by decide) wm_1_23 rfl rfl (by decide +kernel) (fun _ => rfl) (fun _ => rfl) e2 dX7_init_34 (fun u3 e3 => ?_)
  refine K_subN (ci2 := 5) (fs2 := [.null, .int 0, .int 0, .int 0, .int 0, .int 0, .int 0, .int 0, .int 0]) (tf := .object "AbbeyNotes$Trial") (y := yX5_init) (pc := 37) hX hZ.2.2.1 3 dX7_init_37 rfl inlX5 tyX5_ok wm_2_0 wm_2_1 wm_2_2 rfl (fun j hj => by rcases (show j = 0 ∨ j = 1 ∨ j = 2 ∨ j = 3 ∨ j = 4 ∨ j = 5 ∨ j = 6 ∨ j = 7 ∨ j = 8 by omega) with rfl | rfl | rfl | rfl | rfl | rfl | rfl | rfl | rfl <;> rfl) dX7_init_38 dX7_init_41 (c_X5_init l D g) (hX.2.2.2.2.2.2.1.2.2.2.2 (RX7, 32, yX5_init) (List.mem_of_getElem? (i := 3) rfl)) wm_3_14 wm_2_2 wm_3_15 rfl ⟨by decide +kernel, by decide +kernel, by decide +kernel⟩ (Nat.le_of_ble_eq_true rfl) (Nat.le_of_ble_eq_true rfl) (Nat.le_of_ble_eq_true rfl) (Nat.le_of_ble_eq_true rfl) (Nat.le_of_ble_eq_true rfl) dX7_init_42 inlX7 tyX7_ok nmX7 rfl (by decide) wm_2_3 rfl rfl (by decide +kernel) (fun _ => rfl) (fun _ => rfl) e3 dX7_init_45 (fun u4 e4 => ?_)
  refine K_subN (ci2 := 3) (fs2 := [.null, .null]) (tf := .object "AbbeyNotes$Settling") (y := yX3_init) (pc := 48) hX hZ.2.2.1 4 dX7_init_48 rfl inlX3 tyX3_ok wm_2_4 wm_2_5 wm_2_6 rfl (fun j hj => by rcases (show j = 0 ∨ j = 1 by omega) with rfl | rfl <;> rfl) dX7_init_49 dX7_init_52 (c_X3_init l D g) (hX.2.2.2.2.2.2.1.2.2.2.2 (RX7, 39, yX3_init) (List.mem_of_getElem? (i := 4) rfl)) wm_3_20 wm_2_6 wm_3_21 rfl ⟨by decide +kernel, by decide +kernel, by decide +kernel⟩ (Nat.le_of_ble_eq_true rfl) (Nat.le_of_ble_eq_true rfl) (Nat.le_of_ble_eq_true rfl) (Nat.le_of_ble_eq_true rfl) (Nat.le_of_ble_eq_true rfl) dX7_init_53 inlX7 tyX7_ok nmX7 rfl (by decide) wm_2_7 rfl rfl (by decide +kernel) (fun _ => rfl) (fun _ => rfl) e4 dX7_init_56 (fun u5 e5 => ?_)
  refine K_subN (ci2 := 6) (fs2 := [.null]) (tf := .object "AbbeyNotes$Waiting") (y := yX6_init) (pc := 59) hX hZ.2.2.1 5 dX7_init_59 rfl inlX6 tyX6_ok wm_2_8 wm_2_9 wm_2_10 rfl (fun j hj => by rcases (show j = 0 by omega) with rfl <;> rfl) dX7_init_60 dX7_init_63 (c_X6_init l D g) (hX.2.2.2.2.2.2.1.2.2.2.2 (RX7, 46, yX6_init) (List.mem_of_getElem? (i := 5) rfl)) wm_4_1 wm_2_10 wm_4_2 rfl ⟨by decide +kernel, by decide +kernel, by decide +kernel⟩ (Nat.le_of_ble_eq_true rfl) (Nat.le_of_ble_eq_true rfl) (Nat.le_of_ble_eq_true rfl) (Nat.le_of_ble_eq_true rfl) (Nat.le_of_ble_eq_true rfl) dX7_init_64 inlX7 tyX7_ok nmX7 rfl (by decide) wm_2_11 rfl rfl (by decide +kernel) (fun _ => rfl) (fun _ => rfl) e5 dX7_init_67 (fun u6 e6 => ?_)
  refine K_aload_n hX 0 dX7_init_70 rfl ?_
  refine K_iconst (v := 2) hX dX7_init_71 (by decide) ?_
  refine K_newq (C := RX0) (N' := 2) hX 5 wm_2_12 hX.2.2.2.2.2.2.1.2.1 rfl (by decide) (by decide) (by decide) (Nat.le_of_ble_eq_true rfl) (Nat.le_of_ble_eq_true rfl) dX7_init_72 (fun q => ?_)
  refine K_putF (ty := .array (.object RX0)) (ws' := w7 g (((((((z7.set 0 (.ref (u1 0))).set 1 (.ref (u2 0))).set 2 (.ref (u3 0))).set 3 (.ref (u4 0))).set 4 (.ref (u5 0))).set 5 (.ref (u6 0))).set 6 (.ref q)) h0 u1 u2 u3 u4 u5 u6 ++ [(q, .inl (g 5, 2, .inr (.inr (.inr (.inr (fun _ => none))))))]) hX hZ.2.2.1 0 6 inlX7 tyX7_ok nmX7 rfl rfl (by decide) wm_2_13 rfl rfl (by decide +kernel) rfl rfl (by rw [e6]; decide) dX7_init_75 rfl ?_
  refine K_iconst (v := 0) hX dX7_init_78 (by decide) ?_
  refine K_istore_n (loc' := [(1, .int 0), (0, .ref h0)]) hX dX7_init_79 (by decide) rfl ?_
  refine K_iload_n hX 0 dX7_init_80 rfl ?_
  refine K_iconst (v := 2) hX dX7_init_81 (by decide) ?_
  refine K_icmp_ge hX 104 dX7_init_82 rfl (fun h => absurd h (by decide)) (fun _ => ?_)
  refine K_aload_n hX 1 dX7_init_85 rfl ?_
  refine K_get (v := .ref q) hX 0 6 inlX7 rfl rfl (by decide) wm_2_13 rfl dX7_init_86 ?_
  refine K_iload_n hX 0 dX7_init_89 rfl ?_
  refine K_new (ci := 0) (fs := z0) hX tyX0 inlX0 tyX0_ok wm_2_12 wm_2_14 wm_2_15 rfl (fun j hj => by rcases (show j = 0 ∨ j = 1 ∨ j = 2 by omega) with rfl | rfl | rfl <;> rfl) (Nat.le_of_ble_eq_true rfl) (Nat.le_of_ble_eq_true rfl) dX7_init_90 (fun qi => ?_)
  refine K_dup hX dX7_init_93 rfl ?_
  refine K_callNE hX (c_X0_init l D g) (hX.2.2.2.2.2.2.1.2.2.2.2 (RX7, 57, yX0_init) (List.mem_of_getElem? (i := 6) rfl)) wm_4_7 wm_2_15 wm_4_8 rfl ⟨by decide +kernel, by decide +kernel, by decide +kernel⟩ (Nat.le_of_ble_eq_true rfl) (Nat.le_of_ble_eq_true rfl) (Nat.le_of_ble_eq_true rfl) (Nat.le_of_ble_eq_true rfl) (Nat.le_of_ble_eq_true rfl) dX7_init_94 (fun v1 hv1 => ?_)
  subst hv1
  refine K_astq (r := (RX0, TX0, 3)) (ci := 0) (n := 2) (f := fun _ => none) (ws' := (w7 g (((((((z7.set 0 (.ref (u1 0))).set 1 (.ref (u2 0))).set 2 (.ref (u3 0))).set 3 (.ref (u4 0))).set 4 (.ref (u5 0))).set 5 (.ref (u6 0))).set 6 (.ref q)) h0 u1 u2 u3 u4 u5 u6 ++ [(q, .inl (g 5, 2, .inr (.inr (.inr (.inr (va_up (fun _ => none) 0 (some (v1 0))))))))]) ++ kU csI v1 g mI l00) hX 40 5 (40 + 1 + 0) 0 (mid_at _ _ _ w7_len) rfl ((mid_z (k := 0) _ _ _ w7_len).trans (kI_at g v1)) rfl rfl (by decide) (by decide) dX7_init_97 (mid_set _ _ _ _ w7_len) ?_
  refine K_iinc (v := 1) (loc' := [(1, .int 1), (0, .ref h0)]) hX 0 dX7_init_98 rfl (by decide) (by decide) rfl ?_
  refine K_goto hX 80 dX7_init_101 rfl ?_
  refine K_iload_n hX 0 dX7_init_80 rfl ?_
  refine K_iconst (v := 2) hX dX7_init_81 (by decide) ?_
  refine K_icmp_ge hX 104 dX7_init_82 rfl (fun h => absurd h (by decide)) (fun _ => ?_)
  refine K_aload_n hX 1 dX7_init_85 rfl ?_
  refine K_get (v := .ref q) hX 0 6 inlX7 rfl rfl (by decide) wm_2_13 rfl dX7_init_86 ?_
  refine K_iload_n hX 0 dX7_init_89 rfl ?_
  refine K_new (ci := 0) (fs := z0) hX tyX0 inlX0 tyX0_ok wm_2_12 wm_2_14 wm_2_15 rfl (fun j hj => by rcases (show j = 0 ∨ j = 1 ∨ j = 2 by omega) with rfl | rfl | rfl <;> rfl) (Nat.le_of_ble_eq_true rfl) (Nat.le_of_ble_eq_true rfl) dX7_init_90 (fun qi => ?_)
  refine K_dup hX dX7_init_93 rfl ?_
  refine K_callNE hX (c_X0_init l D g) (hX.2.2.2.2.2.2.1.2.2.2.2 (RX7, 57, yX0_init) (List.mem_of_getElem? (i := 6) rfl)) wm_4_7 wm_2_15 wm_4_8 rfl ⟨by decide +kernel, by decide +kernel, by decide +kernel⟩ (Nat.le_of_ble_eq_true rfl) (Nat.le_of_ble_eq_true rfl) (Nat.le_of_ble_eq_true rfl) (Nat.le_of_ble_eq_true rfl) (Nat.le_of_ble_eq_true rfl) dX7_init_94 (fun v2 hv2 => ?_)
  subst hv2
  refine K_cg (ws' := (w7 g (((((((z7.set 0 (.ref (u1 0))).set 1 (.ref (u2 0))).set 2 (.ref (u3 0))).set 3 (.ref (u4 0))).set 4 (.ref (u5 0))).set 5 (.ref (u6 0))).set 6 (.ref q)) h0 u1 u2 u3 u4 u5 u6 ++ [(q, .inl (g 5, 2, .inr (.inr (.inr (.inr (va_up (fun _ => none) 0 (some (v1 0))))))))]) ++ (kU csI v1 g mI l00 ++ kU csI v2 g mI l00)) (List.append_assoc _ _ _) rfl rfl ?_
  refine K_astq (r := (RX0, TX0, 3)) (ci := 0) (n := 2) (f := va_up (fun _ => none) 0 (some (v1 0))) (ws' := (w7 g (((((((z7.set 0 (.ref (u1 0))).set 1 (.ref (u2 0))).set 2 (.ref (u3 0))).set 3 (.ref (u4 0))).set 4 (.ref (u5 0))).set 5 (.ref (u6 0))).set 6 (.ref q)) h0 u1 u2 u3 u4 u5 u6 ++ [(q, .inl (g 5, 2, .inr (.inr (.inr (.inr (va_up (va_up (fun _ => none) 0 (some (v1 0))) 1 (some (v2 0))))))))]) ++ (kU csI v1 g mI l00 ++ kU csI v2 g mI l00)) hX 40 5 (40 + 1 + 18) 1 (mid_at _ _ _ w7_len) rfl ((mid_z (k := 18) _ _ _ w7_len).trans (by rw [List.getElem?_append_right (by rw [kU_len]; decide), kU_len]; exact kI_at g v2)) rfl rfl (by decide) (by decide) dX7_init_97 (mid_set _ _ _ _ w7_len) ?_
  refine K_iinc (v := 2) (loc' := [(1, .int 2), (0, .ref h0)]) hX 0 dX7_init_98 rfl (by decide) (by decide) rfl ?_
  refine K_goto hX 80 dX7_init_101 rfl ?_
  refine K_iload_n hX 0 dX7_init_80 rfl ?_
  refine K_iconst (v := 2) hX dX7_init_81 (by decide) ?_
  refine K_icmp_ge hX 104 dX7_init_82 rfl (fun _ => ?_) (fun h => absurd (by decide) h)
  rw [im2]
  exact K_vret hX hZ (fun k => ([h0, u1 0, u1 1, u1 2, u1 3, u1 4, u1 5, u1 6, u1 7, u1 8, u1 9, u1 10, u1 11, u2 0, u2 1, u2 2, u2 3, u2 4, u3 0, u3 1, u4 0, u4 1, u4 2, u4 3, u4 4, u4 5, u4 6, u4 7, u4 8, u4 9, u4 10, u4 11, u4 12, u5 0, u5 1, u5 2, u6 0, u6 1, u6 2, u6 3, q, v1 0, v1 1, v1 2, v1 3, v1 4, v1 5, v1 6, v1 7, v1 8, v1 9, v1 10, v1 11, v1 12, v1 13, v1 14, v1 15, v1 16, v1 17, v2 0, v2 1, v2 2, v2 3, v2 4, v2 5, v2 6, v2 7, v2 8, v2 9, v2 10, v2 11, v2 12, v2 13, v2 14, v2 15, v2 16, v2 17] : List Nat).getD k 0) rfl dX7_init_104 (Nat.le_of_ble_eq_true rfl) (Nat.le_of_ble_eq_true rfl) (w7_fin g h0 q u1 u2 u3 u4 u5 u6 v1 v2)
