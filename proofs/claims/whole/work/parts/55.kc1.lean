/-! ===== constructors: the walks ===== -/
theorem kz_int (c : ClassId) (k : Nat) : mq_in c k (defaultValue .int) = vp_cell c (k, .inl (fun _ => 0)) := by
  rw [vp_cell_i]
  exact arrV_new ..
theorem kz_long (c : ClassId) (k : Nat) : mq_in c k (defaultValue .long) = vp_cell c (k, .inr (.inl (fun _ => 0))) := by
  rw [vp_cell_l]
  exact arrV_new ..
abbrev m00 : jM := fun _ _ => 0
abbrev l00 : jL := fun _ _ => 0
set_option maxHeartbeats 4000000 in
set_option maxRecDepth 10000 in
theorem c_X4_init (l : Launch) (D : va_G) (g : Nat → ClassId) : kV l D g yX4_init cX4_init 1 1 12 4 32 4 [.null, .null, .null, .null, .int 0] (fun q => kU (jSights 0) q g m00 l00) := by
  refine kMeth (by decide) rfl (by decide) ?_
  intro G h0 hX hZ
  refine K_aload_n hX 0 dX4_init_0 rfl ?_
  refine K_obj hX wm_3_5 dX4_init_1 (Nat.le_of_ble_eq_true rfl) (Nat.le_of_ble_eq_true rfl) ?_
  refine K_aload_n hX 0 dX4_init_4 rfl ?_
  refine K_bipush (v := 8) hX dX4_init_5 (by decide) ?_
  refine K_newa (at0 := .int) (N' := 8) (a0 := (8, .inl (fun _ => 0))) hX 0 rfl wm_2_20 rfl kr_int (fun _ => rfl) (by decide) (by decide) (by decide) (Nat.le_of_ble_eq_true rfl) (Nat.le_of_ble_eq_true rfl) dX4_init_7 (fun q1 => ?_)
  refine K_cg (ws' := [(h0, .inr (4, [.null, .null, .null, .null, .int 0])), (q1, .inl (g 0, 8, .inl (fun _ => 0)))]) rfl rfl rfl ?_
  refine K_putF (ty := .array .int) (ws' := [(h0, .inr (4, [.ref q1, .null, .null, .null, .int 0])), (q1, .inl (g 0, 8, .inl (fun _ => 0)))]) hX hZ.2.2.1 0 0 inlX4 tyX4_ok nmX4 rfl rfl (by decide) wm_3_6 rfl rfl (by decide +kernel) rfl rfl (Nat.le_of_ble_eq_true rfl) dX4_init_9 rfl ?_
  refine K_aload_n hX 0 dX4_init_12 rfl ?_
  refine K_bipush (v := 8) hX dX4_init_13 (by decide) ?_
  refine K_newa (at0 := .int) (N' := 8) (a0 := (8, .inl (fun _ => 0))) hX 0 rfl wm_2_20 rfl kr_int (fun _ => rfl) (by decide) (by decide) (by decide) (Nat.le_of_ble_eq_true rfl) (Nat.le_of_ble_eq_true rfl) dX4_init_15 (fun q2 => ?_)
  refine K_cg (ws' := [(h0, .inr (4, [.ref q1, .null, .null, .null, .int 0])), (q1, .inl (g 0, 8, .inl (fun _ => 0))), (q2, .inl (g 0, 8, .inl (fun _ => 0)))]) rfl rfl rfl ?_
  refine K_putF (ty := .array .int) (ws' := [(h0, .inr (4, [.ref q1, .ref q2, .null, .null, .int 0])), (q1, .inl (g 0, 8, .inl (fun _ => 0))), (q2, .inl (g 0, 8, .inl (fun _ => 0)))]) hX hZ.2.2.1 0 1 inlX4 tyX4_ok nmX4 rfl rfl (by decide) wm_3_7 rfl rfl (by decide +kernel) rfl rfl (Nat.le_of_ble_eq_true rfl) dX4_init_17 rfl ?_
  refine K_aload_n hX 0 dX4_init_20 rfl ?_
  refine K_bipush (v := 8) hX dX4_init_21 (by decide) ?_
  refine K_newa (at0 := .int) (N' := 8) (a0 := (8, .inl (fun _ => 0))) hX 0 rfl wm_2_20 rfl kr_int (fun _ => rfl) (by decide) (by decide) (by decide) (Nat.le_of_ble_eq_true rfl) (Nat.le_of_ble_eq_true rfl) dX4_init_23 (fun q3 => ?_)
  refine K_cg (ws' := [(h0, .inr (4, [.ref q1, .ref q2, .null, .null, .int 0])), (q1, .inl (g 0, 8, .inl (fun _ => 0))), (q2, .inl (g 0, 8, .inl (fun _ => 0))), (q3, .inl (g 0, 8, .inl (fun _ => 0)))]) rfl rfl rfl ?_
  refine K_putF (ty := .array .int) (ws' := [(h0, .inr (4, [.ref q1, .ref q2, .ref q3, .null, .int 0])), (q1, .inl (g 0, 8, .inl (fun _ => 0))), (q2, .inl (g 0, 8, .inl (fun _ => 0))), (q3, .inl (g 0, 8, .inl (fun _ => 0)))]) hX hZ.2.2.1 0 2 inlX4 tyX4_ok nmX4 rfl rfl (by decide) wm_3_8 rfl rfl (by decide +kernel) rfl rfl (Nat.le_of_ble_eq_true rfl) dX4_init_25 rfl ?_
  refine K_aload_n hX 0 dX4_init_28 rfl ?_
  refine K_bipush (v := 8) hX dX4_init_29 (by decide) ?_
  refine K_newa (at0 := .int) (N' := 8) (a0 := (8, .inl (fun _ => 0))) hX 0 rfl wm_2_20 rfl kr_int (fun _ => rfl) (by decide) (by decide) (by decide) (Nat.le_of_ble_eq_true rfl) (Nat.le_of_ble_eq_true rfl) dX4_init_31 (fun q4 => ?_)
  refine K_cg (ws' := [(h0, .inr (4, [.ref q1, .ref q2, .ref q3, .null, .int 0])), (q1, .inl (g 0, 8, .inl (fun _ => 0))), (q2, .inl (g 0, 8, .inl (fun _ => 0))), (q3, .inl (g 0, 8, .inl (fun _ => 0))), (q4, .inl (g 0, 8, .inl (fun _ => 0)))]) rfl rfl rfl ?_
  refine K_putF (ty := .array .int) (ws' := [(h0, .inr (4, [.ref q1, .ref q2, .ref q3, .ref q4, .int 0])), (q1, .inl (g 0, 8, .inl (fun _ => 0))), (q2, .inl (g 0, 8, .inl (fun _ => 0))), (q3, .inl (g 0, 8, .inl (fun _ => 0))), (q4, .inl (g 0, 8, .inl (fun _ => 0)))]) hX hZ.2.2.1 0 3 inlX4 tyX4_ok nmX4 rfl rfl (by decide) wm_3_9 rfl rfl (by decide +kernel) rfl rfl (Nat.le_of_ble_eq_true rfl) dX4_init_33 rfl ?_
  exact K_vret hX hZ (fun k => ([h0, q1, q2, q3, q4] : List Nat).getD k 0) rfl dX4_init_36 (Nat.le_of_ble_eq_true rfl) (Nat.le_of_ble_eq_true rfl) rfl

set_option maxHeartbeats 4000000 in
set_option maxRecDepth 10000 in
theorem c_X1_init (l : Launch) (D : va_G) (g : Nat → ClassId) : kV l D g yX1_init cX1_init 1 1 12 1 60 1 [.null, .int 0] (fun q => kU [jo 1 [some 1, none], ji 0 60] q g m00 l00) := by
  refine kMeth (by decide) rfl (by decide) ?_
  intro G h0 hX hZ
  refine K_aload_n hX 0 dX1_init_0 rfl ?_
  refine K_obj hX wm_3_12 dX1_init_1 (Nat.le_of_ble_eq_true rfl) (Nat.le_of_ble_eq_true rfl) ?_
  refine K_aload_n hX 0 dX1_init_4 rfl ?_
  refine K_bipush (v := 60) hX dX1_init_5 (by decide) ?_
  refine K_newa (at0 := .int) (N' := 60) (a0 := (60, .inl (fun _ => 0))) hX 0 rfl wm_2_20 rfl kr_int (fun _ => rfl) (by decide) (by decide) (by decide) (Nat.le_of_ble_eq_true rfl) (Nat.le_of_ble_eq_true rfl) dX1_init_7 (fun q1 => ?_)
  refine K_cg (ws' := [(h0, .inr (1, [.null, .int 0])), (q1, .inl (g 0, 60, .inl (fun _ => 0)))]) rfl rfl rfl ?_
  refine K_putF (ty := .array .int) (ws' := [(h0, .inr (1, [.ref q1, .int 0])), (q1, .inl (g 0, 60, .inl (fun _ => 0)))]) hX hZ.2.2.1 0 0 inlX1 tyX1_ok nmX1 rfl rfl (by decide) wm_3_13 rfl rfl (by decide +kernel) rfl rfl (Nat.le_of_ble_eq_true rfl) dX1_init_9 rfl ?_
  exact K_vret hX hZ (fun k => ([h0, q1] : List Nat).getD k 0) rfl dX1_init_12 (Nat.le_of_ble_eq_true rfl) (Nat.le_of_ble_eq_true rfl) rfl

set_option maxHeartbeats 4000000 in
set_option maxRecDepth 10000 in
theorem c_X3_init (l : Launch) (D : va_G) (g : Nat → ClassId) : kV l D g yX3_init cX3_init 1 1 12 2 70 3 [.null, .null] (fun q => kU [jo 3 [some 1, some 2], ji 0 6, ji 0 64] q g m00 l00) := by
  refine kMeth (by decide) rfl (by decide) ?_
  intro G h0 hX hZ
  refine K_aload_n hX 0 dX3_init_0 rfl ?_
  refine K_obj hX wm_3_22 dX3_init_1 (Nat.le_of_ble_eq_true rfl) (Nat.le_of_ble_eq_true rfl) ?_
  refine K_aload_n hX 0 dX3_init_4 rfl ?_
  refine K_bipush (v := 6) hX dX3_init_5 (by decide) ?_
  refine K_newa (at0 := .int) (N' := 6) (a0 := (6, .inl (fun _ => 0))) hX 0 rfl wm_2_20 rfl kr_int (fun _ => rfl) (by decide) (by decide) (by decide) (Nat.le_of_ble_eq_true rfl) (Nat.le_of_ble_eq_true rfl) dX3_init_7 (fun q1 => ?_)
  refine K_cg (ws' := [(h0, .inr (3, [.null, .null])), (q1, .inl (g 0, 6, .inl (fun _ => 0)))]) rfl rfl rfl ?_
  refine K_putF (ty := .array .int) (ws' := [(h0, .inr (3, [.ref q1, .null])), (q1, .inl (g 0, 6, .inl (fun _ => 0)))]) hX hZ.2.2.1 0 0 inlX3 tyX3_ok nmX3 rfl rfl (by decide) wm_3_23 rfl rfl (by decide +kernel) rfl rfl (Nat.le_of_ble_eq_true rfl) dX3_init_9 rfl ?_
  refine K_aload_n hX 0 dX3_init_12 rfl ?_
  refine K_bipush (v := 64) hX dX3_init_13 (by decide) ?_
  refine K_newa (at0 := .int) (N' := 64) (a0 := (64, .inl (fun _ => 0))) hX 0 rfl wm_2_20 rfl kr_int (fun _ => rfl) (by decide) (by decide) (by decide) (Nat.le_of_ble_eq_true rfl) (Nat.le_of_ble_eq_true rfl) dX3_init_15 (fun q2 => ?_)
  refine K_cg (ws' := [(h0, .inr (3, [.ref q1, .null])), (q1, .inl (g 0, 6, .inl (fun _ => 0))), (q2, .inl (g 0, 64, .inl (fun _ => 0)))]) rfl rfl rfl ?_
  refine K_putF (ty := .array .int) (ws' := [(h0, .inr (3, [.ref q1, .ref q2])), (q1, .inl (g 0, 6, .inl (fun _ => 0))), (q2, .inl (g 0, 64, .inl (fun _ => 0)))]) hX hZ.2.2.1 0 1 inlX3 tyX3_ok nmX3 rfl rfl (by decide) wm_4_0 rfl rfl (by decide +kernel) rfl rfl (Nat.le_of_ble_eq_true rfl) dX3_init_17 rfl ?_
  exact K_vret hX hZ (fun k => ([h0, q1, q2] : List Nat).getD k 0) rfl dX3_init_20 (Nat.le_of_ble_eq_true rfl) (Nat.le_of_ble_eq_true rfl) rfl

set_option maxHeartbeats 4000000 in
set_option maxRecDepth 10000 in
theorem c_X6_init (l : Launch) (D : va_G) (g : Nat → ClassId) : kV l D g yX6_init cX6_init 1 1 12 3 140 6 [.null] (fun q => kU [jo 6 [some 1], jr 4 [2, 3], jj 69, jj 69] q g m00 l00) := by
  refine kMeth (by decide) rfl (by decide) ?_
  intro G h0 hX hZ
  refine K_aload_n hX 0 dX6_init_0 rfl ?_
  refine K_obj hX wm_4_3 dX6_init_1 (Nat.le_of_ble_eq_true rfl) (Nat.le_of_ble_eq_true rfl) ?_
  refine K_aload_n hX 0 dX6_init_4 rfl ?_
  refine K_iconst (v := 2) hX dX6_init_5 (by decide) ?_
  refine K_bipush (v := 69) hX dX6_init_6 (by decide) ?_
  refine K_mna (N' := 2) (K' := 69) (ty := .long) (z := (69, .inr (.inl (fun _ => 0)))) hX 4 1 (by rw [show ("[" ++ (FieldType.array .long).toString) = "[[J" by decide +kernel]; exact wm_4_4) wm_4_5 hX.2.2.2.2.2.2.1.2.2.2.1 (hX.2.2.2.2.2.1.2 1 _ rfl).2 rfl (by decide) (by decide) (by decide) (by decide) (by decide) (by decide) (by decide) rfl rfl (Nat.le_of_ble_eq_true rfl) (Nat.le_of_ble_eq_true rfl) (fun c => kz_long c 69) dX6_init_8 (fun q1 r1 => ?_)
  refine K_cg (ws' := [(h0, .inr (6, [.null])), (q1, .inl (g 4, 2, .inr (.inr (.inr (.inr (fun i => ([r1 0, r1 1] : List Nat)[i]?)))))), ((r1 0), .inl (g 1, 69, .inr (.inl (fun _ => 0)))), ((r1 1), .inl (g 1, 69, .inr (.inl (fun _ => 0))))]) rfl rfl rfl ?_
  refine K_putF (ty := .array (.array .long)) (ws' := [(h0, .inr (6, [.ref q1])), (q1, .inl (g 4, 2, .inr (.inr (.inr (.inr (fun i => ([r1 0, r1 1] : List Nat)[i]?)))))), ((r1 0), .inl (g 1, 69, .inr (.inl (fun _ => 0)))), ((r1 1), .inl (g 1, 69, .inr (.inl (fun _ => 0))))]) hX hZ.2.2.1 0 0 inlX6 tyX6_ok nmX6 rfl rfl (by decide) wm_4_6 rfl rfl (by decide +kernel) rfl rfl (Nat.le_of_ble_eq_true rfl) dX6_init_12 rfl ?_
  exact K_vret hX hZ (fun k => ([h0, q1, (r1 0), (r1 1)] : List Nat).getD k 0) rfl dX6_init_15 (Nat.le_of_ble_eq_true rfl) (Nat.le_of_ble_eq_true rfl) rfl

