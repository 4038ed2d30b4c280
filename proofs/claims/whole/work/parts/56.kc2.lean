/-! ===== constructors: Realm, the reference ===== -/
def mR : jM := fun k => match k with
  | 1 => fl 100 6
  | 2 => fl 100 6
  | 4 => fl 100 8
  | 5 => fl (-1) 8
  | _ => fun _ => 0
def mM : jM := fun k => match k with
  | 1 => fl 100 6
  | 2 => fl 100 6
  | 4 => fl 100 8
  | 5 => fl (-6) 8
  | _ => fun _ => 0
def cs8 : List jC := [jo 8 [some 1, some 2, some 3, some 4, some 5, none, none, none, none, some 6, some 7, some 8, none, some 9, none, some 10, some 11, some 12, none, some 13, none, none, none, some 14, some 15, some 16, some 17, some 18, some 19, some 20, some 21, some 22, none, none],
    ji 0 6, ji 0 6, ji 0 36, ji 0 8, ji 0 8, ji 0 8, ji 0 8, ji 0 8, ji 0 60, ji 0 60, ji 0 60, ji 0 60, ji 0 60, ji 0 60, ji 0 6, ji 0 64, ji 0 9, jj 70, jj 70, jj 31, ji 0 200, ji 2 2]
abbrev z2 : List Value := [.null, .null, .null, .null, .null, .int 0, .int 0, .int 0, .int 0]
set_option maxHeartbeats 4000000 in
set_option maxRecDepth 10000 in
theorem c_X2_init (l : Launch) (D : va_G) (g : Nat → ClassId) : kV l D g yX2_init cX2_init 2 1 12 11 70 2 z2 (fun q => kU (jRealm 0) q g mR l00) := by
  refine kMeth (by decide) rfl (by decide) ?_
  intro G h0 hX hZ
  refine K_aload_n hX 0 dX2_init_0 rfl ?_
  refine K_obj hX wm_2_19 dX2_init_1 (Nat.le_of_ble_eq_true rfl) (Nat.le_of_ble_eq_true rfl) ?_
  refine K_aload_n hX 0 dX2_init_4 rfl ?_
  refine K_bipush (v := 6) hX dX2_init_5 (by decide) ?_
  refine K_newa (at0 := .int) (N' := 6) (a0 := (6, .inl (fl 100 0))) hX 0 rfl wm_2_20 rfl kr_int (fun cA => by rw [← fl_0]; rfl) (by decide) (by decide) (by decide) (Nat.le_of_ble_eq_true rfl) (Nat.le_of_ble_eq_true rfl) dX2_init_7 (fun q1 => ?_)
  refine K_cg (ws' := [(h0, .inr (2, [.null, .null, .null, .null, .null, .int 0, .int 0, .int 0, .int 0])), (q1, .inl (g 0, 6, .inl (fl 100 0)))]) rfl rfl rfl ?_
  refine K_putF (ty := .array .int) (ws' := [(h0, .inr (2, [.ref q1, .null, .null, .null, .null, .int 0, .int 0, .int 0, .int 0])), (q1, .inl (g 0, 6, .inl (fl 100 0)))]) hX hZ.2.2.1 0 0 inlX2 tyX2_ok nmX2 rfl rfl (by decide) wm_2_21 rfl rfl (by decide +kernel) rfl rfl (Nat.le_of_ble_eq_true rfl) dX2_init_9 rfl ?_
  refine K_aload_n hX 0 dX2_init_12 rfl ?_
  refine K_bipush (v := 6) hX dX2_init_13 (by decide) ?_
  refine K_newa (at0 := .int) (N' := 6) (a0 := (6, .inl (fl 100 0))) hX 0 rfl wm_2_20 rfl kr_int (fun cA => by rw [← fl_0]; rfl) (by decide) (by decide) (by decide) (Nat.le_of_ble_eq_true rfl) (Nat.le_of_ble_eq_true rfl) dX2_init_15 (fun q2 => ?_)
  refine K_cg (ws' := [(h0, .inr (2, [.ref q1, .null, .null, .null, .null, .int 0, .int 0, .int 0, .int 0])), (q1, .inl (g 0, 6, .inl (fl 100 0))), (q2, .inl (g 0, 6, .inl (fl 100 0)))]) rfl rfl rfl ?_
  refine K_putF (ty := .array .int) (ws' := [(h0, .inr (2, [.ref q1, .ref q2, .null, .null, .null, .int 0, .int 0, .int 0, .int 0])), (q1, .inl (g 0, 6, .inl (fl 100 0))), (q2, .inl (g 0, 6, .inl (fl 100 0)))]) hX hZ.2.2.1 0 1 inlX2 tyX2_ok nmX2 rfl rfl (by decide) wm_2_22 rfl rfl (by decide +kernel) rfl rfl (Nat.le_of_ble_eq_true rfl) dX2_init_17 rfl ?_
  refine K_aload_n hX 0 dX2_init_20 rfl ?_
  refine K_bipush (v := 6) hX dX2_init_21 (by decide) ?_
  refine K_bipush (v := 6) hX dX2_init_23 (by decide) ?_
  refine K_mna (N' := 6) (K' := 6) (ty := .int) (z := (6, .inl (fun _ => 0))) hX 3 0 (by rw [show ("[" ++ (FieldType.array .int).toString) = "[[I" by decide +kernel]; exact wm_2_23) wm_2_20 hX.2.2.2.2.2.2.1.2.2.1 (hX.2.2.2.2.2.1.2 0 _ rfl).2 rfl (by decide) (by decide) (by decide) (by decide) (by decide) (by decide) (by decide) rfl rfl (Nat.le_of_ble_eq_true rfl) (Nat.le_of_ble_eq_true rfl) (fun c => kz_int c 6) dX2_init_25 (fun q3 r3 => ?_)
  refine K_cg (ws' := [(h0, .inr (2, [.ref q1, .ref q2, .null, .null, .null, .int 0, .int 0, .int 0, .int 0])), (q1, .inl (g 0, 6, .inl (fl 100 0))), (q2, .inl (g 0, 6, .inl (fl 100 0))), (q3, .inl (g 3, 6, .inr (.inr (.inr (.inr (fun i => ([r3 0, r3 1, r3 2, r3 3, r3 4, r3 5] : List Nat)[i]?)))))), ((r3 0), .inl (g 0, 6, .inl (fun _ => 0))), ((r3 1), .inl (g 0, 6, .inl (fun _ => 0))), ((r3 2), .inl (g 0, 6, .inl (fun _ => 0))), ((r3 3), .inl (g 0, 6, .inl (fun _ => 0))), ((r3 4), .inl (g 0, 6, .inl (fun _ => 0))), ((r3 5), .inl (g 0, 6, .inl (fun _ => 0)))]) rfl rfl rfl ?_
  refine K_putF (ty := .array (.array .int)) (ws' := [(h0, .inr (2, [.ref q1, .ref q2, .ref q3, .null, .null, .int 0, .int 0, .int 0, .int 0])), (q1, .inl (g 0, 6, .inl (fl 100 0))), (q2, .inl (g 0, 6, .inl (fl 100 0))), (q3, .inl (g 3, 6, .inr (.inr (.inr (.inr (fun i => ([r3 0, r3 1, r3 2, r3 3, r3 4, r3 5] : List Nat)[i]?)))))), ((r3 0), .inl (g 0, 6, .inl (fun _ => 0))), ((r3 1), .inl (g 0, 6, .inl (fun _ => 0))), ((r3 2), .inl (g 0, 6, .inl (fun _ => 0))), ((r3 3), .inl (g 0, 6, .inl (fun _ => 0))), ((r3 4), .inl (g 0, 6, .inl (fun _ => 0))), ((r3 5), .inl (g 0, 6, .inl (fun _ => 0)))]) hX hZ.2.2.1 0 2 inlX2 tyX2_ok nmX2 rfl rfl (by decide) wm_3_0 rfl rfl (by decide +kernel) rfl rfl (Nat.le_of_ble_eq_true rfl) dX2_init_29 rfl ?_
  refine K_aload_n hX 0 dX2_init_32 rfl ?_
  refine K_bipush (v := 8) hX dX2_init_33 (by decide) ?_
  refine K_newa (at0 := .int) (N' := 8) (a0 := (8, .inl (fl 100 0))) hX 0 rfl wm_2_20 rfl kr_int (fun cA => by rw [← fl_0]; rfl) (by decide) (by decide) (by decide) (Nat.le_of_ble_eq_true rfl) (Nat.le_of_ble_eq_true rfl) dX2_init_35 (fun q4 => ?_)
  refine K_cg (ws' := [(h0, .inr (2, [.ref q1, .ref q2, .ref q3, .null, .null, .int 0, .int 0, .int 0, .int 0])), (q1, .inl (g 0, 6, .inl (fl 100 0))), (q2, .inl (g 0, 6, .inl (fl 100 0))), (q3, .inl (g 3, 6, .inr (.inr (.inr (.inr (fun i => ([r3 0, r3 1, r3 2, r3 3, r3 4, r3 5] : List Nat)[i]?)))))), ((r3 0), .inl (g 0, 6, .inl (fun _ => 0))), ((r3 1), .inl (g 0, 6, .inl (fun _ => 0))), ((r3 2), .inl (g 0, 6, .inl (fun _ => 0))), ((r3 3), .inl (g 0, 6, .inl (fun _ => 0))), ((r3 4), .inl (g 0, 6, .inl (fun _ => 0))), ((r3 5), .inl (g 0, 6, .inl (fun _ => 0))), (q4, .inl (g 0, 8, .inl (fl 100 0)))]) rfl rfl rfl ?_
  refine K_putF (ty := .array .int) (ws' := [(h0, .inr (2, [.ref q1, .ref q2, .ref q3, .ref q4, .null, .int 0, .int 0, .int 0, .int 0])), (q1, .inl (g 0, 6, .inl (fl 100 0))), (q2, .inl (g 0, 6, .inl (fl 100 0))), (q3, .inl (g 3, 6, .inr (.inr (.inr (.inr (fun i => ([r3 0, r3 1, r3 2, r3 3, r3 4, r3 5] : List Nat)[i]?)))))), ((r3 0), .inl (g 0, 6, .inl (fun _ => 0))), ((r3 1), .inl (g 0, 6, .inl (fun _ => 0))), ((r3 2), .inl (g 0, 6, .inl (fun _ => 0))), ((r3 3), .inl (g 0, 6, .inl (fun _ => 0))), ((r3 4), .inl (g 0, 6, .inl (fun _ => 0))), ((r3 5), .inl (g 0, 6, .inl (fun _ => 0))), (q4, .inl (g 0, 8, .inl (fl 100 0)))]) hX hZ.2.2.1 0 3 inlX2 tyX2_ok nmX2 rfl rfl (by decide) wm_3_1 rfl rfl (by decide +kernel) rfl rfl (Nat.le_of_ble_eq_true rfl) dX2_init_37 rfl ?_
  refine K_aload_n hX 0 dX2_init_40 rfl ?_
  refine K_bipush (v := 8) hX dX2_init_41 (by decide) ?_
  refine K_newa (at0 := .int) (N' := 8) (a0 := (8, .inl (fl (-1) 0))) hX 0 rfl wm_2_20 rfl kr_int (fun cA => by rw [← fl_0]; rfl) (by decide) (by decide) (by decide) (Nat.le_of_ble_eq_true rfl) (Nat.le_of_ble_eq_true rfl) dX2_init_43 (fun q5 => ?_)
  refine K_cg (ws' := [(h0, .inr (2, [.ref q1, .ref q2, .ref q3, .ref q4, .null, .int 0, .int 0, .int 0, .int 0])), (q1, .inl (g 0, 6, .inl (fl 100 0))), (q2, .inl (g 0, 6, .inl (fl 100 0))), (q3, .inl (g 3, 6, .inr (.inr (.inr (.inr (fun i => ([r3 0, r3 1, r3 2, r3 3, r3 4, r3 5] : List Nat)[i]?)))))), ((r3 0), .inl (g 0, 6, .inl (fun _ => 0))), ((r3 1), .inl (g 0, 6, .inl (fun _ => 0))), ((r3 2), .inl (g 0, 6, .inl (fun _ => 0))), ((r3 3), .inl (g 0, 6, .inl (fun _ => 0))), ((r3 4), .inl (g 0, 6, .inl (fun _ => 0))), ((r3 5), .inl (g 0, 6, .inl (fun _ => 0))), (q4, .inl (g 0, 8, .inl (fl 100 0))), (q5, .inl (g 0, 8, .inl (fl (-1) 0)))]) rfl rfl rfl ?_
  refine K_putF (ty := .array .int) (ws' := [(h0, .inr (2, [.ref q1, .ref q2, .ref q3, .ref q4, .ref q5, .int 0, .int 0, .int 0, .int 0])), (q1, .inl (g 0, 6, .inl (fl 100 0))), (q2, .inl (g 0, 6, .inl (fl 100 0))), (q3, .inl (g 3, 6, .inr (.inr (.inr (.inr (fun i => ([r3 0, r3 1, r3 2, r3 3, r3 4, r3 5] : List Nat)[i]?)))))), ((r3 0), .inl (g 0, 6, .inl (fun _ => 0))), ((r3 1), .inl (g 0, 6, .inl (fun _ => 0))), ((r3 2), .inl (g 0, 6, .inl (fun _ => 0))), ((r3 3), .inl (g 0, 6, .inl (fun _ => 0))), ((r3 4), .inl (g 0, 6, .inl (fun _ => 0))), ((r3 5), .inl (g 0, 6, .inl (fun _ => 0))), (q4, .inl (g 0, 8, .inl (fl 100 0))), (q5, .inl (g 0, 8, .inl (fl (-1) 0)))]) hX hZ.2.2.1 0 4 inlX2 tyX2_ok nmX2 rfl rfl (by decide) wm_3_2 rfl rfl (by decide +kernel) rfl rfl (Nat.le_of_ble_eq_true rfl) dX2_init_45 rfl ?_
  have key1 : ∀ d i, i + d = 8 → Kj l D (va_A (kO h0 2 z2) (gs G).heap.size) G 2 [(h0, .inr (2, [.ref q1, .ref q2, .ref q3, .ref q4, .ref q5, .int 0, .int 0, .int 0, .int 0])), (q1, .inl (g 0, 6, .inl (fl 100 6))), (q2, .inl (g 0, 6, .inl (fl 100 6))), (q3, .inl (g 3, 6, .inr (.inr (.inr (.inr (fun i => ([r3 0, r3 1, r3 2, r3 3, r3 4, r3 5] : List Nat)[i]?)))))), ((r3 0), .inl (g 0, 6, .inl (fun _ => 0))), ((r3 1), .inl (g 0, 6, .inl (fun _ => 0))), ((r3 2), .inl (g 0, 6, .inl (fun _ => 0))), ((r3 3), .inl (g 0, 6, .inl (fun _ => 0))), ((r3 4), .inl (g 0, 6, .inl (fun _ => 0))), ((r3 5), .inl (g 0, 6, .inl (fun _ => 0))), (q4, .inl (g 0, 8, .inl (fl 100 i))), (q5, .inl (g 0, 8, .inl (fl (-1) i)))] 11 70 80 [(1, .int (nI i)), (0, .ref h0)] [] := by
    intro d
    induction d with
    | zero =>
      intro i hi
      have e : i = 8 := by omega
      subst e
      refine K_iload_n hX 0 dX2_init_80 rfl ?_
      refine K_bipush (v := 8) hX dX2_init_81 (by decide) ?_
      refine K_icmp_ge hX 107 dX2_init_83 rfl (fun _ => ?_) (fun h => absurd (show (8 : Int32) ≤ nI 8 by decide) h)
      refine K_perm (ws' := [(h0, .inr (2, [.ref q1, .ref q2, .ref q3, .ref q4, .ref q5, .int 0, .int 0, .int 0, .int 0])), (q1, .inl (g 0, 6, .inl (fl 100 6))), (q2, .inl (g 0, 6, .inl (fl 100 6))), (q3, .inl (g 3, 6, .inr (.inr (.inr (.inr (fun i => ([r3 0, r3 1, r3 2, r3 3, r3 4, r3 5] : List Nat)[i]?)))))), (q4, .inl (g 0, 8, .inl (fl 100 8))), (q5, .inl (g 0, 8, .inl (fl (-1) 8))), ((r3 0), .inl (g 0, 6, .inl (fun _ => 0))), ((r3 1), .inl (g 0, 6, .inl (fun _ => 0))), ((r3 2), .inl (g 0, 6, .inl (fun _ => 0))), ((r3 3), .inl (g 0, 6, .inl (fun _ => 0))), ((r3 4), .inl (g 0, 6, .inl (fun _ => 0))), ((r3 5), .inl (g 0, 6, .inl (fun _ => 0)))]) [0, 1, 2, 3, 10, 11, 4, 5, 6, 7, 8, 9] (by decide) rfl ?_
      exact K_vret hX hZ (fun k => ([h0, q1, q2, q3, q4, q5, (r3 0), (r3 1), (r3 2), (r3 3), (r3 4), (r3 5)] : List Nat).getD k 0) rfl dX2_init_107 (Nat.le_of_ble_eq_true rfl) (Nat.le_of_ble_eq_true rfl) rfl
    | succ d ih =>
      intro i hi
      refine K_iload_n hX 0 dX2_init_80 rfl ?_
      refine K_bipush (v := 8) hX dX2_init_81 (by decide) ?_
      refine K_icmp_ge hX 107 dX2_init_83 rfl (fun h => absurd h (nI_ge (a := i) (b := 8) (by omega) (by decide))) (fun _ => ?_)
      refine K_aload_n hX 1 dX2_init_86 rfl ?_
      refine K_get hX 0 3 inlX2 rfl rfl (by decide) wm_3_1 rfl dX2_init_87 ?_
      refine K_iload_n hX 0 dX2_init_90 rfl ?_
      refine K_bipush (v := 100) hX dX2_init_91 (by decide) ?_
      refine K_iast (ws' := [(h0, .inr (2, [.ref q1, .ref q2, .ref q3, .ref q4, .ref q5, .int 0, .int 0, .int 0, .int 0])), (q1, .inl (g 0, 6, .inl (fl 100 6))), (q2, .inl (g 0, 6, .inl (fl 100 6))), (q3, .inl (g 3, 6, .inr (.inr (.inr (.inr (fun i => ([r3 0, r3 1, r3 2, r3 3, r3 4, r3 5] : List Nat)[i]?)))))), ((r3 0), .inl (g 0, 6, .inl (fun _ => 0))), ((r3 1), .inl (g 0, 6, .inl (fun _ => 0))), ((r3 2), .inl (g 0, 6, .inl (fun _ => 0))), ((r3 3), .inl (g 0, 6, .inl (fun _ => 0))), ((r3 4), .inl (g 0, 6, .inl (fun _ => 0))), ((r3 5), .inl (g 0, 6, .inl (fun _ => 0))), (q4, .inl (g 0, 8, .inl (fl 100 (i + 1)))), (q5, .inl (g 0, 8, .inl (fl (-1) i)))]) hX 10 i rfl rfl (by omega) (by decide) dX2_init_93 (by rw [fl_up]; rfl) ?_
      refine K_aload_n hX 1 dX2_init_94 rfl ?_
      refine K_get hX 0 4 inlX2 rfl rfl (by decide) wm_3_2 rfl dX2_init_95 ?_
      refine K_iload_n hX 0 dX2_init_98 rfl ?_
      refine K_iconst (v := (-1)) hX dX2_init_99 (by decide) ?_
      refine K_iast (ws' := [(h0, .inr (2, [.ref q1, .ref q2, .ref q3, .ref q4, .ref q5, .int 0, .int 0, .int 0, .int 0])), (q1, .inl (g 0, 6, .inl (fl 100 6))), (q2, .inl (g 0, 6, .inl (fl 100 6))), (q3, .inl (g 3, 6, .inr (.inr (.inr (.inr (fun i => ([r3 0, r3 1, r3 2, r3 3, r3 4, r3 5] : List Nat)[i]?)))))), ((r3 0), .inl (g 0, 6, .inl (fun _ => 0))), ((r3 1), .inl (g 0, 6, .inl (fun _ => 0))), ((r3 2), .inl (g 0, 6, .inl (fun _ => 0))), ((r3 3), .inl (g 0, 6, .inl (fun _ => 0))), ((r3 4), .inl (g 0, 6, .inl (fun _ => 0))), ((r3 5), .inl (g 0, 6, .inl (fun _ => 0))), (q4, .inl (g 0, 8, .inl (fl 100 (i + 1)))), (q5, .inl (g 0, 8, .inl (fl (-1) (i + 1))))]) hX 11 i rfl rfl (by omega) (by decide) dX2_init_100 (by rw [fl_up]; rfl) ?_
      refine K_iinc (v := nI (i + 1)) (loc' := [(1, .int (nI (i + 1))), (0, .ref h0)]) hX 0 dX2_init_101 rfl (nI_add i 1) (by decide) rfl ?_
      refine K_goto hX 80 dX2_init_104 rfl ?_
      exact ih (i + 1) (by omega)
  have key0 : ∀ d i, i + d = 6 → Kj l D (va_A (kO h0 2 z2) (gs G).heap.size) G 2 [(h0, .inr (2, [.ref q1, .ref q2, .ref q3, .ref q4, .ref q5, .int 0, .int 0, .int 0, .int 0])), (q1, .inl (g 0, 6, .inl (fl 100 i))), (q2, .inl (g 0, 6, .inl (fl 100 i))), (q3, .inl (g 3, 6, .inr (.inr (.inr (.inr (fun i => ([r3 0, r3 1, r3 2, r3 3, r3 4, r3 5] : List Nat)[i]?)))))), ((r3 0), .inl (g 0, 6, .inl (fun _ => 0))), ((r3 1), .inl (g 0, 6, .inl (fun _ => 0))), ((r3 2), .inl (g 0, 6, .inl (fun _ => 0))), ((r3 3), .inl (g 0, 6, .inl (fun _ => 0))), ((r3 4), .inl (g 0, 6, .inl (fun _ => 0))), ((r3 5), .inl (g 0, 6, .inl (fun _ => 0))), (q4, .inl (g 0, 8, .inl (fl 100 0))), (q5, .inl (g 0, 8, .inl (fl (-1) 0)))] 11 70 50 [(1, .int (nI i)), (0, .ref h0)] [] := by
    intro d
    induction d with
    | zero =>
      intro i hi
      have e : i = 6 := by omega
      subst e
      refine K_iload_n hX 0 dX2_init_50 rfl ?_
      refine K_bipush (v := 6) hX dX2_init_51 (by decide) ?_
      refine K_icmp_ge hX 78 dX2_init_53 rfl (fun _ => ?_) (fun h => absurd (show (6 : Int32) ≤ nI 6 by decide) h)
      refine K_iconst (v := 0) hX dX2_init_78 (by decide) ?_
      refine K_istore_n (loc' := [(1, .int (nI 0)), (0, .ref h0)]) hX dX2_init_79 (by decide) rfl ?_
      exact key1 8 0 rfl
    | succ d ih =>
      intro i hi
      refine K_iload_n hX 0 dX2_init_50 rfl ?_
      refine K_bipush (v := 6) hX dX2_init_51 (by decide) ?_
      refine K_icmp_ge hX 78 dX2_init_53 rfl (fun h => absurd h (nI_ge (a := i) (b := 6) (by omega) (by decide))) (fun _ => ?_)
      refine K_aload_n hX 1 dX2_init_56 rfl ?_
      refine K_get hX 0 0 inlX2 rfl rfl (by decide) wm_2_21 rfl dX2_init_57 ?_
      refine K_iload_n hX 0 dX2_init_60 rfl ?_
      refine K_bipush (v := 100) hX dX2_init_61 (by decide) ?_
      refine K_iast (ws' := [(h0, .inr (2, [.ref q1, .ref q2, .ref q3, .ref q4, .ref q5, .int 0, .int 0, .int 0, .int 0])), (q1, .inl (g 0, 6, .inl (fl 100 (i + 1)))), (q2, .inl (g 0, 6, .inl (fl 100 i))), (q3, .inl (g 3, 6, .inr (.inr (.inr (.inr (fun i => ([r3 0, r3 1, r3 2, r3 3, r3 4, r3 5] : List Nat)[i]?)))))), ((r3 0), .inl (g 0, 6, .inl (fun _ => 0))), ((r3 1), .inl (g 0, 6, .inl (fun _ => 0))), ((r3 2), .inl (g 0, 6, .inl (fun _ => 0))), ((r3 3), .inl (g 0, 6, .inl (fun _ => 0))), ((r3 4), .inl (g 0, 6, .inl (fun _ => 0))), ((r3 5), .inl (g 0, 6, .inl (fun _ => 0))), (q4, .inl (g 0, 8, .inl (fl 100 0))), (q5, .inl (g 0, 8, .inl (fl (-1) 0)))]) hX 1 i rfl rfl (by omega) (by decide) dX2_init_63 (by rw [fl_up]; rfl) ?_
      refine K_aload_n hX 1 dX2_init_64 rfl ?_
      refine K_get hX 0 1 inlX2 rfl rfl (by decide) wm_2_22 rfl dX2_init_65 ?_
      refine K_iload_n hX 0 dX2_init_68 rfl ?_
      refine K_bipush (v := 100) hX dX2_init_69 (by decide) ?_
      refine K_iast (ws' := [(h0, .inr (2, [.ref q1, .ref q2, .ref q3, .ref q4, .ref q5, .int 0, .int 0, .int 0, .int 0])), (q1, .inl (g 0, 6, .inl (fl 100 (i + 1)))), (q2, .inl (g 0, 6, .inl (fl 100 (i + 1)))), (q3, .inl (g 3, 6, .inr (.inr (.inr (.inr (fun i => ([r3 0, r3 1, r3 2, r3 3, r3 4, r3 5] : List Nat)[i]?)))))), ((r3 0), .inl (g 0, 6, .inl (fun _ => 0))), ((r3 1), .inl (g 0, 6, .inl (fun _ => 0))), ((r3 2), .inl (g 0, 6, .inl (fun _ => 0))), ((r3 3), .inl (g 0, 6, .inl (fun _ => 0))), ((r3 4), .inl (g 0, 6, .inl (fun _ => 0))), ((r3 5), .inl (g 0, 6, .inl (fun _ => 0))), (q4, .inl (g 0, 8, .inl (fl 100 0))), (q5, .inl (g 0, 8, .inl (fl (-1) 0)))]) hX 2 i rfl rfl (by omega) (by decide) dX2_init_71 (by rw [fl_up]; rfl) ?_
      refine K_iinc (v := nI (i + 1)) (loc' := [(1, .int (nI (i + 1))), (0, .ref h0)]) hX 0 dX2_init_72 rfl (nI_add i 1) (by decide) rfl ?_
      refine K_goto hX 50 dX2_init_75 rfl ?_
      exact ih (i + 1) (by omega)
  refine K_iconst (v := 0) hX dX2_init_48 (by decide) ?_
  refine K_istore_n (loc' := [(1, .int (nI 0)), (0, .ref h0)]) hX dX2_init_49 (by decide) rfl ?_
  exact key0 6 0 rfl

