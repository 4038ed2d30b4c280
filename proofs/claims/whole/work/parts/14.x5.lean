theorem jtn (o : Int32) : o.toNatClampNeg = o.toInt.toNat := rfl
theorem jix {o : Int32} {b : Int} (h : 0 ≤ o.toInt ∧ o.toInt ≤ b) : o = nI o.toNatClampNeg := by
  have h2 := o.toInt_lt
  apply Int32.toInt_inj.mp
  rw [nI_toInt (by rw [jtn]; omega), jtn]
  omega
theorem jixl {o : Int32} {b : Int} (h : 0 ≤ o.toInt ∧ o.toInt ≤ b) : (o.toNatClampNeg : Int) ≤ b := by
  rw [jtn]; omega
def x_one (M : jM) (o p c : Int32) : Int32 × jM := if (0 ≤ o.toInt ∧ o.toInt ≤ 5) then (if (0 ≤ p.toInt ∧ p.toInt ≤ 9999) then (if (0 ≤ c.toInt ∧ c.toInt ≤ 9999) then (10000 * M 2 o.toNatClampNeg + M 3 o.toNatClampNeg, jU (jU M 2 o.toNatClampNeg p) 3 o.toNatClampNeg c) else (-2, M)) else (-2, M)) else (-1, M)
set_option maxHeartbeats 4000000 in
set_option maxRecDepth 10000 in
theorem c_X7_one (l : Launch) (D : va_G) (a : Nat → Nat) (g : Nat → ClassId) (M : jM) (L : jL) (o p c : Int32)  : jK l D a g yX7_one cX7_one 5 (some .int) 2 42 [.ref (a 0), .int o, .int p, .int c] M L (some (.int ((x_one M o p c).1))) ((x_one M o p c).2) L := by
  refine jMeth (by decide) (Nat.le_of_ble_eq_true rfl) ?_
  intro G hX hZ
  refine J_cg (loc' := [(0, .ref (a 0)), (1, .int o), (2, .int p), (3, .int c)]) rfl rfl rfl rfl ?_
  refine J_iload_n hX 1 dX7_one_0 rfl ?_
  refine J_callS hX [.int o] [] dX7_one_1 (c_X7_isOne l D a g M L o) lk_X7_58 rfl rfl (Nat.le_of_ble_eq_true rfl) (Nat.le_of_ble_eq_true rfl) (Nat.le_of_ble_eq_true rfl) (J_eq (st := [.int (jB (0 ≤ o.toInt ∧ o.toInt ≤ 5))]) rfl ?_)
  refine J_ifB_ne hX 9 dX7_one_4 (by decide) (fun h4 => ?_) (fun h4 => ?_)
  · skip
    have io := jix h4
    have lo := jixl h4
    refine J_iload_n hX 2 dX7_one_9 rfl ?_
    refine J_iconst (v := 0) hX dX7_one_10 (by decide) ?_
    refine J_sipush (v := 9999) hX dX7_one_11 (by decide) ?_
    refine J_callS hX [.int p, .int 0, .int 9999] [] dX7_one_14 (c_X7_within l D a g M L p 0 9999) lk_X7_62 rfl rfl (Nat.le_of_ble_eq_true rfl) (Nat.le_of_ble_eq_true rfl) (Nat.le_of_ble_eq_true rfl) (J_eq (st := [.int (jB (0 ≤ p.toInt ∧ p.toInt ≤ 9999))]) rfl ?_)
    refine J_ifB_eq hX 31 dX7_one_17 (by decide) (fun h17 => ?_) (fun h17 => ?_)
    · skip
      refine J_bipush (v := (-2)) hX dX7_one_31 (by decide) ?_
      exact J_ret hX hZ dX7_one_33 rfl rfl ⟨by first | contradiction | simp [x_one, h4, h17], by simp [x_one, h4, h17], rfl⟩
    · skip
      refine J_iload_n hX 3 dX7_one_20 rfl ?_
      refine J_iconst (v := 0) hX dX7_one_21 (by decide) ?_
      refine J_sipush (v := 9999) hX dX7_one_22 (by decide) ?_
      refine J_callS hX [.int c, .int 0, .int 9999] [] dX7_one_25 (c_X7_within l D a g M L c 0 9999) lk_X7_62 rfl rfl (Nat.le_of_ble_eq_true rfl) (Nat.le_of_ble_eq_true rfl) (Nat.le_of_ble_eq_true rfl) (J_eq (st := [.int (jB (0 ≤ c.toInt ∧ c.toInt ≤ 9999))]) rfl ?_)
      refine J_ifB_ne hX 34 dX7_one_28 (by decide) (fun h28 => ?_) (fun h28 => ?_)
      · skip
        refine J_sipush (v := 10000) hX dX7_one_34 (by decide) ?_
        refine J_aload_n hX 0 dX7_one_37 rfl ?_
        refine J_getr hX 0 0 dX7_one_38 jc_0 rfl rfl (by decide) inlX7 wm_1_15 ?_
        refine J_getr hX 1 0 dX7_one_41 jc_1 rfl rfl (by decide) inlX2 wm_5_22 ?_
        refine J_iload_n hX 1 dX7_one_44 rfl ?_
        refine J_iald hX 2 o.toNatClampNeg dX7_one_45 jc_2 io (by omega) (by omega) ?_
        refine J_imul hX dX7_one_46 ?_
        refine J_aload_n hX 0 dX7_one_47 rfl ?_
        refine J_getr hX 0 0 dX7_one_48 jc_0 rfl rfl (by decide) inlX7 wm_1_15 ?_
        refine J_getr hX 1 1 dX7_one_51 jc_1 rfl rfl (by decide) inlX2 wm_5_23 ?_
        refine J_iload_n hX 1 dX7_one_54 rfl ?_
        refine J_iald hX 3 o.toNatClampNeg dX7_one_55 jc_3 io (by omega) (by omega) ?_
        refine J_iadd hX dX7_one_56 ?_
        refine J_istore (loc' := [(4, .int ((10000 * (M 2 o.toNatClampNeg)) + (M 3 o.toNatClampNeg))), (0, .ref (a 0)), (1, .int o), (2, .int p), (3, .int c)]) hX dX7_one_57 (by decide) rfl ?_
        refine J_aload_n hX 1 dX7_one_59 rfl ?_
        refine J_getr hX 0 0 dX7_one_60 jc_0 rfl rfl (by decide) inlX7 wm_1_15 ?_
        refine J_getr hX 1 0 dX7_one_63 jc_1 rfl rfl (by decide) inlX2 wm_5_22 ?_
        refine J_iload_n hX 2 dX7_one_66 rfl ?_
        refine J_iload_n hX 3 dX7_one_67 rfl ?_
        refine J_iast hX 2 o.toNatClampNeg dX7_one_68 jc_2 io (by omega) (by omega) ?_
        refine J_aload_n hX 1 dX7_one_69 rfl ?_
        refine J_getr hX 0 0 dX7_one_70 jc_0 rfl rfl (by decide) inlX7 wm_1_15 ?_
        refine J_getr hX 1 1 dX7_one_73 jc_1 rfl rfl (by decide) inlX2 wm_5_23 ?_
        refine J_iload_n hX 2 dX7_one_76 rfl ?_
        refine J_iload_n hX 4 dX7_one_77 rfl ?_
        refine J_iast hX 3 o.toNatClampNeg dX7_one_78 jc_3 io (by omega) (by omega) ?_
        refine J_iload hX 0 dX7_one_79 rfl ?_
        exact J_ret hX hZ dX7_one_81 rfl rfl ⟨by first | contradiction | simp [x_one, h4, h17, h28], by simp [x_one, h4, h17, h28], rfl⟩
      · skip
        refine J_bipush (v := (-2)) hX dX7_one_31 (by decide) ?_
        exact J_ret hX hZ dX7_one_33 rfl rfl ⟨by first | contradiction | simp [x_one, h4, h17, h28], by simp [x_one, h4, h17, h28], rfl⟩
  · skip
    refine J_iconst (v := (-1)) hX dX7_one_7 (by decide) ?_
    exact J_ret hX hZ dX7_one_8 rfl rfl ⟨by first | contradiction | simp [x_one, h4], by simp [x_one, h4], rfl⟩
def x_owe (M : jM) (o r v : Int32) : Int32 × jM := if (0 ≤ o.toInt ∧ o.toInt ≤ 5) then (if (0 ≤ r.toInt ∧ r.toInt ≤ 5) then (if o = r then (-1, M) else if (0 ≤ v.toInt ∧ v.toInt ≤ 999) then (M (1 + 6 + o.toNatClampNeg) r.toNatClampNeg, jU M (1 + 6 + o.toNatClampNeg) r.toNatClampNeg v) else (-2, M)) else (-1, M)) else (-1, M)
set_option maxHeartbeats 4000000 in
set_option maxRecDepth 10000 in
theorem c_X7_owe (l : Launch) (D : va_G) (a : Nat → Nat) (g : Nat → ClassId) (M : jM) (L : jL) (o r v : Int32)  : jK l D a g yX7_owe cX7_owe 5 (some .int) 2 42 [.ref (a 0), .int o, .int r, .int v] M L (some (.int ((x_owe M o r v).1))) ((x_owe M o r v).2) L := by
  refine jMeth (by decide) (Nat.le_of_ble_eq_true rfl) ?_
  intro G hX hZ
  refine J_cg (loc' := [(0, .ref (a 0)), (1, .int o), (2, .int r), (3, .int v)]) rfl rfl rfl rfl ?_
  refine J_iload_n hX 1 dX7_owe_0 rfl ?_
  refine J_callS hX [.int o] [] dX7_owe_1 (c_X7_isOne l D a g M L o) lk_X7_58 rfl rfl (Nat.le_of_ble_eq_true rfl) (Nat.le_of_ble_eq_true rfl) (Nat.le_of_ble_eq_true rfl) (J_eq (st := [.int (jB (0 ≤ o.toInt ∧ o.toInt ≤ 5))]) rfl ?_)
  refine J_ifB_eq hX 19 dX7_owe_4 (by decide) (fun h4 => ?_) (fun h4 => ?_)
  · skip
    refine J_iconst (v := (-1)) hX dX7_owe_19 (by decide) ?_
    exact J_ret hX hZ dX7_owe_20 rfl rfl ⟨by first | contradiction | simp [x_owe, h4], by simp [x_owe, h4], rfl⟩
  · skip
    refine J_iload_n hX 2 dX7_owe_7 rfl ?_
    refine J_callS hX [.int r] [] dX7_owe_8 (c_X7_isOne l D a g M L r) lk_X7_58 rfl rfl (Nat.le_of_ble_eq_true rfl) (Nat.le_of_ble_eq_true rfl) (Nat.le_of_ble_eq_true rfl) (J_eq (st := [.int (jB (0 ≤ r.toInt ∧ r.toInt ≤ 5))]) rfl ?_)
    refine J_ifB_eq hX 19 dX7_owe_11 (by decide) (fun h11 => ?_) (fun h11 => ?_)
    · skip
      refine J_iconst (v := (-1)) hX dX7_owe_19 (by decide) ?_
      exact J_ret hX hZ dX7_owe_20 rfl rfl ⟨by first | contradiction | simp [x_owe, h4, h11], by simp [x_owe, h4, h11], rfl⟩
    · skip
      have io := jix h4
      have lo := jixl h4
      have ir := jix h11
      have lr := jixl h11
      refine J_iload_n hX 1 dX7_owe_14 rfl ?_
      refine J_iload_n hX 2 dX7_owe_15 rfl ?_
      refine J_icmp_ne hX 21 dX7_owe_16 (by decide) (fun h16 => ?_) (fun h16 => ?_)
      · skip
        refine J_iload_n hX 3 dX7_owe_21 rfl ?_
        refine J_iconst (v := 0) hX dX7_owe_22 (by decide) ?_
        refine J_sipush (v := 999) hX dX7_owe_23 (by decide) ?_
        refine J_callS hX [.int v, .int 0, .int 999] [] dX7_owe_26 (c_X7_within l D a g M L v 0 999) lk_X7_62 rfl rfl (Nat.le_of_ble_eq_true rfl) (Nat.le_of_ble_eq_true rfl) (Nat.le_of_ble_eq_true rfl) (J_eq (st := [.int (jB (0 ≤ v.toInt ∧ v.toInt ≤ 999))]) rfl ?_)
        refine J_ifB_ne hX 35 dX7_owe_29 (by decide) (fun h29 => ?_) (fun h29 => ?_)
        · skip
          refine J_aload_n hX 0 dX7_owe_35 rfl ?_
          refine J_getr hX 0 0 dX7_owe_36 jc_0 rfl rfl (by decide) inlX7 wm_1_15 ?_
          refine J_getr hX 1 2 dX7_owe_39 jc_1 rfl rfl (by decide) inlX2 wm_6_22 ?_
          refine J_iload_n hX 1 dX7_owe_42 rfl ?_
          refine J_aald (ty := .array .int) hX 4 o.toNatClampNeg dX7_owe_43 jc_4 rfl rfl io (jRl_1.at (by omega)) (Nat.le_of_ble_eq_true rfl) ?_
          refine J_iload_n hX 2 dX7_owe_44 rfl ?_
          refine J_iald hX (1 + 6 + o.toNatClampNeg) r.toNatClampNeg dX7_owe_45 (jRl_1.row (by omega)) ir (by omega) (by omega) ?_
          refine J_istore (loc' := [(4, .int (M (1 + 6 + o.toNatClampNeg) r.toNatClampNeg)), (0, .ref (a 0)), (1, .int o), (2, .int r), (3, .int v)]) hX dX7_owe_46 (by decide) rfl ?_
          refine J_aload_n hX 1 dX7_owe_48 rfl ?_
          refine J_getr hX 0 0 dX7_owe_49 jc_0 rfl rfl (by decide) inlX7 wm_1_15 ?_
          refine J_getr hX 1 2 dX7_owe_52 jc_1 rfl rfl (by decide) inlX2 wm_6_22 ?_
          refine J_iload_n hX 2 dX7_owe_55 rfl ?_
          refine J_aald (ty := .array .int) hX 4 o.toNatClampNeg dX7_owe_56 jc_4 rfl rfl io (jRl_1.at (by omega)) (Nat.le_of_ble_eq_true rfl) ?_
          refine J_iload_n hX 3 dX7_owe_57 rfl ?_
          refine J_iload_n hX 4 dX7_owe_58 rfl ?_
          refine J_iast hX (1 + 6 + o.toNatClampNeg) r.toNatClampNeg dX7_owe_59 (jRl_1.row (by omega)) ir (by omega) (by omega) ?_
          refine J_iload hX 0 dX7_owe_60 rfl ?_
          exact J_ret hX hZ dX7_owe_62 rfl rfl ⟨by first | contradiction | simp [x_owe, h4, h11, h16, h29], by simp [x_owe, h4, h11, h16, h29], rfl⟩
        · skip
          refine J_bipush (v := (-2)) hX dX7_owe_32 (by decide) ?_
          exact J_ret hX hZ dX7_owe_34 rfl rfl ⟨by first | contradiction | simp [x_owe, h4, h11, h16, h29], by simp [x_owe, h4, h11, h16, h29], rfl⟩
      · skip
        refine J_iconst (v := (-1)) hX dX7_owe_19 (by decide) ?_
        exact J_ret hX hZ dX7_owe_20 rfl rfl ⟨by first | contradiction | simp [x_owe, h4, h11, h16], by simp [x_owe, h4, h11, h16], rfl⟩
def x_lot (M : jM) (o p c : Int32) : Int32 × jM := if (0 ≤ o.toInt ∧ o.toInt ≤ 7) ∧ (c = -1 ∨ (0 ≤ c.toInt ∧ c.toInt ≤ 5)) then (if (1 ≤ p.toInt ∧ p.toInt ≤ 999) then (M 5 o.toNatClampNeg, jU (jU M 5 o.toNatClampNeg p) 6 o.toNatClampNeg c) else (-2, M)) else (-1, M)
set_option maxHeartbeats 4000000 in
set_option maxRecDepth 10000 in
theorem c_X7_lot (l : Launch) (D : va_G) (a : Nat → Nat) (g : Nat → ClassId) (M : jM) (L : jL) (o p c : Int32)  : jK l D a g yX7_lot cX7_lot 5 (some .int) 2 42 [.ref (a 0), .int o, .int p, .int c] M L (some (.int ((x_lot M o p c).1))) ((x_lot M o p c).2) L := by
  refine jMeth (by decide) (Nat.le_of_ble_eq_true rfl) ?_
  intro G hX hZ
  refine J_cg (loc' := [(0, .ref (a 0)), (1, .int o), (2, .int p), (3, .int c)]) rfl rfl rfl rfl ?_
  refine J_iload_n hX 1 dX7_lot_0 rfl ?_
  refine J_iconst (v := 0) hX dX7_lot_1 (by decide) ?_
  refine J_bipush (v := 7) hX dX7_lot_2 (by decide) ?_
  refine J_callS hX [.int o, .int 0, .int 7] [] dX7_lot_4 (c_X7_within l D a g M L o 0 7) lk_X7_62 rfl rfl (Nat.le_of_ble_eq_true rfl) (Nat.le_of_ble_eq_true rfl) (Nat.le_of_ble_eq_true rfl) (J_eq (st := [.int (jB (0 ≤ o.toInt ∧ o.toInt ≤ 7))]) rfl ?_)
  refine J_ifB_eq hX 22 dX7_lot_7 (by decide) (fun h7 => ?_) (fun h7 => ?_)
  · skip
    refine J_iconst (v := (-1)) hX dX7_lot_22 (by decide) ?_
    exact J_ret hX hZ dX7_lot_23 rfl rfl ⟨by simp [x_lot, h7], by simp [x_lot, h7], rfl⟩
  · skip
    have io := jix h7
    have lo := jixl h7
    refine J_iload_n hX 3 dX7_lot_10 rfl ?_
    refine J_iconst (v := (-1)) hX dX7_lot_11 (by decide) ?_
    refine J_icmp_eq hX 24 dX7_lot_12 (by decide) (fun h12 => ?_) (fun h12 => ?_)
    · skip
      refine J_iload_n hX 2 dX7_lot_24 rfl ?_
      refine J_iconst (v := 1) hX dX7_lot_25 (by decide) ?_
      refine J_sipush (v := 999) hX dX7_lot_26 (by decide) ?_
      refine J_callS hX [.int p, .int 1, .int 999] [] dX7_lot_29 (c_X7_within l D a g M L p 1 999) lk_X7_62 rfl rfl (Nat.le_of_ble_eq_true rfl) (Nat.le_of_ble_eq_true rfl) (Nat.le_of_ble_eq_true rfl) (J_eq (st := [.int (jB (1 ≤ p.toInt ∧ p.toInt ≤ 999))]) rfl ?_)
      refine J_ifB_ne hX 38 dX7_lot_32 (by decide) (fun h32 => ?_) (fun h32 => ?_)
      · skip
        refine J_aload_n hX 0 dX7_lot_38 rfl ?_
        refine J_getr hX 0 0 dX7_lot_39 jc_0 rfl rfl (by decide) inlX7 wm_1_15 ?_
        refine J_getr hX 1 3 dX7_lot_42 jc_1 rfl rfl (by decide) inlX2 wm_7_8 ?_
        refine J_iload_n hX 1 dX7_lot_45 rfl ?_
        refine J_iald hX 5 o.toNatClampNeg dX7_lot_46 jc_5 io (by omega) (by omega) ?_
        refine J_istore (loc' := [(4, .int (M 5 o.toNatClampNeg)), (0, .ref (a 0)), (1, .int o), (2, .int p), (3, .int c)]) hX dX7_lot_47 (by decide) rfl ?_
        refine J_aload_n hX 1 dX7_lot_49 rfl ?_
        refine J_getr hX 0 0 dX7_lot_50 jc_0 rfl rfl (by decide) inlX7 wm_1_15 ?_
        refine J_getr hX 1 3 dX7_lot_53 jc_1 rfl rfl (by decide) inlX2 wm_7_8 ?_
        refine J_iload_n hX 2 dX7_lot_56 rfl ?_
        refine J_iload_n hX 3 dX7_lot_57 rfl ?_
        refine J_iast hX 5 o.toNatClampNeg dX7_lot_58 jc_5 io (by omega) (by omega) ?_
        refine J_aload_n hX 1 dX7_lot_59 rfl ?_
        refine J_getr hX 0 0 dX7_lot_60 jc_0 rfl rfl (by decide) inlX7 wm_1_15 ?_
        refine J_getr hX 1 4 dX7_lot_63 jc_1 rfl rfl (by decide) inlX2 wm_7_9 ?_
        refine J_iload_n hX 2 dX7_lot_66 rfl ?_
        refine J_iload_n hX 4 dX7_lot_67 rfl ?_
        refine J_iast hX 6 o.toNatClampNeg dX7_lot_68 jc_6 io (by omega) (by omega) ?_
        refine J_iload hX 0 dX7_lot_69 rfl ?_
        exact J_ret hX hZ dX7_lot_71 rfl rfl ⟨by simp [x_lot, h7, h12, h32], by simp [x_lot, h7, h12, h32], rfl⟩
      · skip
        refine J_bipush (v := (-2)) hX dX7_lot_35 (by decide) ?_
        exact J_ret hX hZ dX7_lot_37 rfl rfl ⟨by simp [x_lot, h7, h12, h32], by simp [x_lot, h7, h12, h32], rfl⟩
    · skip
      refine J_iload_n hX 3 dX7_lot_15 rfl ?_
      refine J_callS hX [.int c] [] dX7_lot_16 (c_X7_isOne l D a g M L c) lk_X7_58 rfl rfl (Nat.le_of_ble_eq_true rfl) (Nat.le_of_ble_eq_true rfl) (Nat.le_of_ble_eq_true rfl) (J_eq (st := [.int (jB (0 ≤ c.toInt ∧ c.toInt ≤ 5))]) rfl ?_)
      refine J_ifB_ne hX 24 dX7_lot_19 (by decide) (fun h19 => ?_) (fun h19 => ?_)
      · skip
        refine J_iload_n hX 2 dX7_lot_24 rfl ?_
        refine J_iconst (v := 1) hX dX7_lot_25 (by decide) ?_
        refine J_sipush (v := 999) hX dX7_lot_26 (by decide) ?_
        refine J_callS hX [.int p, .int 1, .int 999] [] dX7_lot_29 (c_X7_within l D a g M L p 1 999) lk_X7_62 rfl rfl (Nat.le_of_ble_eq_true rfl) (Nat.le_of_ble_eq_true rfl) (Nat.le_of_ble_eq_true rfl) (J_eq (st := [.int (jB (1 ≤ p.toInt ∧ p.toInt ≤ 999))]) rfl ?_)
        refine J_ifB_ne hX 38 dX7_lot_32 (by decide) (fun h32 => ?_) (fun h32 => ?_)
        · skip
          refine J_aload_n hX 0 dX7_lot_38 rfl ?_
          refine J_getr hX 0 0 dX7_lot_39 jc_0 rfl rfl (by decide) inlX7 wm_1_15 ?_
          refine J_getr hX 1 3 dX7_lot_42 jc_1 rfl rfl (by decide) inlX2 wm_7_8 ?_
          refine J_iload_n hX 1 dX7_lot_45 rfl ?_
          refine J_iald hX 5 o.toNatClampNeg dX7_lot_46 jc_5 io (by omega) (by omega) ?_
          refine J_istore (loc' := [(4, .int (M 5 o.toNatClampNeg)), (0, .ref (a 0)), (1, .int o), (2, .int p), (3, .int c)]) hX dX7_lot_47 (by decide) rfl ?_
          refine J_aload_n hX 1 dX7_lot_49 rfl ?_
          refine J_getr hX 0 0 dX7_lot_50 jc_0 rfl rfl (by decide) inlX7 wm_1_15 ?_
          refine J_getr hX 1 3 dX7_lot_53 jc_1 rfl rfl (by decide) inlX2 wm_7_8 ?_
          refine J_iload_n hX 2 dX7_lot_56 rfl ?_
          refine J_iload_n hX 3 dX7_lot_57 rfl ?_
          refine J_iast hX 5 o.toNatClampNeg dX7_lot_58 jc_5 io (by omega) (by omega) ?_
          refine J_aload_n hX 1 dX7_lot_59 rfl ?_
          refine J_getr hX 0 0 dX7_lot_60 jc_0 rfl rfl (by decide) inlX7 wm_1_15 ?_
          refine J_getr hX 1 4 dX7_lot_63 jc_1 rfl rfl (by decide) inlX2 wm_7_9 ?_
          refine J_iload_n hX 2 dX7_lot_66 rfl ?_
          refine J_iload_n hX 4 dX7_lot_67 rfl ?_
          refine J_iast hX 6 o.toNatClampNeg dX7_lot_68 jc_6 io (by omega) (by omega) ?_
          refine J_iload hX 0 dX7_lot_69 rfl ?_
          exact J_ret hX hZ dX7_lot_71 rfl rfl ⟨by simp [x_lot, h7, h12, h19, h32], by simp [x_lot, h7, h12, h19, h32], rfl⟩
        · skip
          refine J_bipush (v := (-2)) hX dX7_lot_35 (by decide) ?_
          exact J_ret hX hZ dX7_lot_37 rfl rfl ⟨by simp [x_lot, h7, h12, h19, h32], by simp [x_lot, h7, h12, h19, h32], rfl⟩
      · skip
        refine J_iconst (v := (-1)) hX dX7_lot_22 (by decide) ?_
        exact J_ret hX hZ dX7_lot_23 rfl rfl ⟨by simp [x_lot, h7, h12, h19], by simp [x_lot, h7, h12, h19], rfl⟩
def x_set (M : jM) (o v : Int32) : Int32 × jM := if (0 ≤ o.toInt ∧ o.toInt ≤ 1) then (if (0 ≤ v.toInt ∧ v.toInt ≤ 99999) then (if o = 0 then (M 1 5, jU M 1 5 v) else (M 1 6, jU M 1 6 v)) else (-2, M)) else (-2, M)
set_option maxHeartbeats 4000000 in
set_option maxRecDepth 10000 in
theorem c_X7_set (l : Launch) (D : va_G) (a : Nat → Nat) (g : Nat → ClassId) (M : jM) (L : jL) (o v : Int32)  : jK l D a g yX7_set cX7_set 4 (some .int) 1 22 [.ref (a 0), .int o, .int v] M L (some (.int ((x_set M o v).1))) ((x_set M o v).2) L := by
  refine jMeth (by decide) (Nat.le_of_ble_eq_true rfl) ?_
  intro G hX hZ
  refine J_cg (loc' := [(0, .ref (a 0)), (1, .int o), (2, .int v)]) rfl rfl rfl rfl ?_
  refine J_iload_n hX 1 dX7_set_0 rfl ?_
  refine J_iconst (v := 0) hX dX7_set_1 (by decide) ?_
  refine J_iconst (v := 1) hX dX7_set_2 (by decide) ?_
  refine J_callS hX [.int o, .int 0, .int 1] [] dX7_set_3 (c_X7_within l D a g M L o 0 1) lk_X7_62 rfl rfl (Nat.le_of_ble_eq_true rfl) (Nat.le_of_ble_eq_true rfl) (Nat.le_of_ble_eq_true rfl) (J_eq (st := [.int (jB (0 ≤ o.toInt ∧ o.toInt ≤ 1))]) rfl ?_)
  refine J_ifB_eq hX 19 dX7_set_6 (by decide) (fun h6 => ?_) (fun h6 => ?_)
  · skip
    refine J_bipush (v := (-2)) hX dX7_set_19 (by decide) ?_
    exact J_ret hX hZ dX7_set_21 rfl rfl ⟨by first | contradiction | simp [x_set, h6], by simp [x_set, h6], rfl⟩
  · skip
    refine J_iload_n hX 2 dX7_set_9 rfl ?_
    refine J_iconst (v := 0) hX dX7_set_10 (by decide) ?_
    refine J_ldc hX dX7_set_11 wm_7_20 ?_
    refine J_callS hX [.int v, .int 0, .int 99999] [] dX7_set_13 (c_X7_within l D a g M L v 0 99999) lk_X7_62 rfl rfl (Nat.le_of_ble_eq_true rfl) (Nat.le_of_ble_eq_true rfl) (Nat.le_of_ble_eq_true rfl) (J_eq (st := [.int (jB (0 ≤ v.toInt ∧ v.toInt ≤ 99999))]) rfl ?_)
    refine J_ifB_ne hX 22 dX7_set_16 (by decide) (fun h16 => ?_) (fun h16 => ?_)
    · skip
      refine J_iload_n hX 1 dX7_set_22 rfl ?_
      refine J_if_ne hX 45 dX7_set_23 (by decide) (fun h23 => ?_) (fun h23 => ?_)
      · skip
        refine J_aload_n hX 0 dX7_set_45 rfl ?_
        refine J_getr hX 0 0 dX7_set_46 jc_0 rfl rfl (by decide) inlX7 wm_1_15 ?_
        refine J_geti hX 1 6 dX7_set_49 jc_1 rfl rfl (by decide) inlX2 wm_7_22 ?_
        refine J_istore_n (loc' := [(3, .int (M 1 6)), (0, .ref (a 0)), (1, .int o), (2, .int v)]) hX dX7_set_52 (by decide) rfl ?_
        refine J_aload_n hX 1 dX7_set_53 rfl ?_
        refine J_getr hX 0 0 dX7_set_54 jc_0 rfl rfl (by decide) inlX7 wm_1_15 ?_
        refine J_iload_n hX 3 dX7_set_57 rfl ?_
        refine J_puti (ty := .int) hX 1 6 dX7_set_58 jc_1 rfl rfl (by decide) inlX2 wm_7_22 tyX2 tyX2_ok nmX2 rfl (by decide +kernel) rfl rfl ?_
        refine J_iload_n hX 0 dX7_set_61 rfl ?_
        exact J_ret hX hZ dX7_set_62 rfl rfl ⟨by first | contradiction | simp [x_set, h6, h16, h23], by simp [x_set, h6, h16, h23], rfl⟩
      · skip
        refine J_aload_n hX 0 dX7_set_26 rfl ?_
        refine J_getr hX 0 0 dX7_set_27 jc_0 rfl rfl (by decide) inlX7 wm_1_15 ?_
        refine J_geti hX 1 5 dX7_set_30 jc_1 rfl rfl (by decide) inlX2 wm_7_21 ?_
        refine J_istore_n (loc' := [(3, .int (M 1 5)), (0, .ref (a 0)), (1, .int o), (2, .int v)]) hX dX7_set_33 (by decide) rfl ?_
        refine J_aload_n hX 1 dX7_set_34 rfl ?_
        refine J_getr hX 0 0 dX7_set_35 jc_0 rfl rfl (by decide) inlX7 wm_1_15 ?_
        refine J_iload_n hX 3 dX7_set_38 rfl ?_
        refine J_puti (ty := .int) hX 1 5 dX7_set_39 jc_1 rfl rfl (by decide) inlX2 wm_7_21 tyX2 tyX2_ok nmX2 rfl (by decide +kernel) rfl rfl ?_
        refine J_goto hX 61 dX7_set_42 (by decide) ?_
        refine J_iload_n hX 0 dX7_set_61 rfl ?_
        exact J_ret hX hZ dX7_set_62 rfl rfl ⟨by first | contradiction | simp [x_set, h6, h16, h23], by simp [x_set, h6, h16, h23], rfl⟩
    · skip
      refine J_bipush (v := (-2)) hX dX7_set_19 (by decide) ?_
      exact J_ret hX hZ dX7_set_21 rfl rfl ⟨by first | contradiction | simp [x_set, h6, h16], by simp [x_set, h6, h16], rfl⟩
def x_say (M : jM) (n : Nat) (s : Int32) : Int32 × jM := if (33 ≤ s.toInt ∧ s.toInt ≤ 126) then (if n = 60 then (-4, M) else (nI (n + 1), x_add M n s)) else (-2, M)
set_option maxHeartbeats 4000000 in
set_option maxRecDepth 10000 in
theorem c_X7_say (l : Launch) (D : va_G) (a : Nat → Nat) (g : Nat → ClassId) (M : jM) (L : jL) (n : Nat) (hn : M 18 1 = nI n) (hn60 : n ≤ 60) (s : Int32)  : jK l D a g yX7_say cX7_say 2 (some .int) 1 22 [.ref (a 0), .int s] M L (some (.int ((x_say M n s).1))) ((x_say M n s).2) L := by
  refine jMeth (by decide) (Nat.le_of_ble_eq_true rfl) ?_
  intro G hX hZ
  refine J_cg (loc' := [(0, .ref (a 0)), (1, .int s)]) rfl rfl rfl rfl ?_
  refine J_iload_n hX 1 dX7_say_0 rfl ?_
  refine J_bipush (v := 33) hX dX7_say_1 (by decide) ?_
  refine J_bipush (v := 126) hX dX7_say_3 (by decide) ?_
  refine J_callS hX [.int s, .int 33, .int 126] [] dX7_say_5 (c_X7_within l D a g M L s 33 126) lk_X7_62 rfl rfl (Nat.le_of_ble_eq_true rfl) (Nat.le_of_ble_eq_true rfl) (Nat.le_of_ble_eq_true rfl) (J_eq (st := [.int (jB (33 ≤ s.toInt ∧ s.toInt ≤ 126))]) rfl ?_)
  refine J_ifB_ne hX 14 dX7_say_8 (by decide) (fun h8 => ?_) (fun h8 => ?_)
  · skip
    refine J_aload_n hX 0 dX7_say_14 rfl ?_
    refine J_getr hX 0 2 dX7_say_15 jc_0 rfl rfl (by decide) inlX7 wm_1_23 ?_
    refine J_geti hX 18 1 dX7_say_18 jc_18 rfl rfl (by decide) inlX1 wm_8_10 ?_
    refine J_bipush (v := 60) hX dX7_say_21 (by decide) ?_
    refine J_cmpN_ne hX 29 n 60 dX7_say_23 (by decide) hn rfl (by omega) (by omega) (fun h23 => ?_) (fun h23 => ?_)
    · skip
      refine J_aload_n hX 0 dX7_say_29 rfl ?_
      refine J_getr hX 0 2 dX7_say_30 jc_0 rfl rfl (by decide) inlX7 wm_1_23 ?_
      refine J_iload_n hX 1 dX7_say_33 rfl ?_
      refine J_callV hX 18 [.int s] [] dX7_say_34 (c_X1_add l D a g M L n hn hn60 s) lk_X7_94 jc_18 rfl rfl rfl (Nat.le_of_ble_eq_true rfl) (Nat.le_of_ble_eq_true rfl) (Nat.le_of_ble_eq_true rfl) (J_eq (st := []) rfl ?_)
      refine J_aload_n hX 0 dX7_say_37 rfl ?_
      refine J_getr hX 0 2 dX7_say_38 jc_0 rfl rfl (by decide) inlX7 wm_1_23 ?_
      refine J_geti hX 18 1 dX7_say_41 jc_18 rfl rfl (by decide) inlX1 wm_8_10 ?_
      refine J_topi (y := nI (n + 1)) (by rw [x_add, if_pos (by omega), jU_same]) ?_
      exact J_ret hX hZ dX7_say_44 rfl rfl ⟨by first | contradiction | simp [x_say, h8, h23], by simp [x_say, h8, h23], rfl⟩
    · skip
      refine J_bipush (v := (-4)) hX dX7_say_26 (by decide) ?_
      exact J_ret hX hZ dX7_say_28 rfl rfl ⟨by first | contradiction | simp [x_say, h8, h23], by simp [x_say, h8, h23], rfl⟩
  · skip
    refine J_bipush (v := (-2)) hX dX7_say_11 (by decide) ?_
    exact J_ret hX hZ dX7_say_13 rfl rfl ⟨by first | contradiction | simp [x_say, h8], by simp [x_say, h8], rfl⟩
def x_wipe (M : jM) : Int32 × jM := (M 18 1, jU M 18 1 0)
set_option maxHeartbeats 4000000 in
set_option maxRecDepth 10000 in
theorem c_X7_wipe (l : Launch) (D : va_G) (a : Nat → Nat) (g : Nat → ClassId) (M : jM) (L : jL)   : jK l D a g yX7_wipe cX7_wipe 2 (some .int) 0 0 [.ref (a 0)] M L (some (.int ((x_wipe M).1))) ((x_wipe M).2) L := by
  refine jMeth (by decide) (Nat.le_of_ble_eq_true rfl) ?_
  intro G hX hZ
  refine J_cg (loc' := [(0, .ref (a 0))]) rfl rfl rfl rfl ?_
  refine J_aload_n hX 0 dX7_wipe_0 rfl ?_
  refine J_getr hX 0 2 dX7_wipe_1 jc_0 rfl rfl (by decide) inlX7 wm_1_23 ?_
  refine J_geti hX 18 1 dX7_wipe_4 jc_18 rfl rfl (by decide) inlX1 wm_8_10 ?_
  refine J_istore_n (loc' := [(1, .int (M 18 1)), (0, .ref (a 0))]) hX dX7_wipe_7 (by decide) rfl ?_
  refine J_aload_n hX 1 dX7_wipe_8 rfl ?_
  refine J_getr hX 0 2 dX7_wipe_9 jc_0 rfl rfl (by decide) inlX7 wm_1_23 ?_
  refine J_iconst (v := 0) hX dX7_wipe_12 (by decide) ?_
  refine J_puti (ty := .int) hX 18 1 dX7_wipe_13 jc_18 rfl rfl (by decide) inlX1 wm_8_10 tyX1 tyX1_ok nmX1 rfl (by decide +kernel) rfl rfl ?_
  refine J_iload_n hX 0 dX7_wipe_16 rfl ?_
  exact J_ret hX hZ dX7_wipe_17 rfl rfl ⟨rfl, rfl, rfl⟩
set_option maxHeartbeats 4000000 in
set_option maxRecDepth 10000 in
theorem c_X7_fault (l : Launch) (D : va_G) (a : Nat → Nat) (g : Nat → ClassId) (M : jM) (L : jL) (n : Nat) (hn : M 18 1 = nI n) (hn60 : n ≤ 60)  : jK l D a g yX7_fault cX7_fault 1 (some .int) 5 105 [.ref (a 0)] M L (some (.int (x_fault (M 19) n))) M L := by
  refine jMeth (by decide) (Nat.le_of_ble_eq_true rfl) ?_
  intro G hX hZ
  refine J_cg (loc' := [(0, .ref (a 0))]) rfl rfl rfl rfl ?_
  refine J_aload_n hX 0 dX7_fault_0 rfl ?_
  refine J_getr hX 0 2 dX7_fault_1 jc_0 rfl rfl (by decide) inlX7 wm_1_23 ?_
  refine J_callV hX 18 [] [] dX7_fault_4 (c_X1_faultPlace l D a g M L n hn hn60) lk_X7_98 jc_18 rfl rfl rfl (Nat.le_of_ble_eq_true rfl) (Nat.le_of_ble_eq_true rfl) (Nat.le_of_ble_eq_true rfl) (J_eq (st := [.int (x_fault (M 19) n)]) rfl ?_)
  exact J_ret hX hZ dX7_fault_7 rfl rfl ⟨rfl, rfl, rfl⟩
def x_judge (M : jM) (n : Nat) (k : Int32) : Int32 × jM := if (0 ≤ k.toInt ∧ k.toInt ≤ 2) then (let r := x_tryR M n 0; let M1 := x_tryM M n 0
  ((if r = -5 then r else if k = 2 then (if r = -3 then r else M1 20 3) else if M1 20 2 = 0 then -6 else if k = 0 then M1 20 1 else M1 20 2), M1)) else (-2, M)
set_option maxHeartbeats 4000000 in
set_option maxRecDepth 10000 in
theorem c_X7_judge (l : Launch) (D : va_G) (a : Nat → Nat) (g : Nat → ClassId) (M : jM) (L : jL) (n : Nat) (hn : M 18 1 = nI n) (hn60 : n ≤ 60) (k : Int32)  : jK l D a g yX7_judge cX7_judge 3 (some .int) 7 162 [.ref (a 0), .int k] M L (some (.int ((x_judge M n k).1))) ((x_judge M n k).2) L := by
  refine jMeth (by decide) (Nat.le_of_ble_eq_true rfl) ?_
  intro G hX hZ
  refine J_cg (loc' := [(0, .ref (a 0)), (1, .int k)]) rfl rfl rfl rfl ?_
  refine J_iload_n hX 1 dX7_judge_0 rfl ?_
  refine J_iconst (v := 0) hX dX7_judge_1 (by decide) ?_
  refine J_iconst (v := 2) hX dX7_judge_2 (by decide) ?_
  refine J_callS hX [.int k, .int 0, .int 2] [] dX7_judge_3 (c_X7_within l D a g M L k 0 2) lk_X7_62 rfl rfl (Nat.le_of_ble_eq_true rfl) (Nat.le_of_ble_eq_true rfl) (Nat.le_of_ble_eq_true rfl) (J_eq (st := [.int (jB (0 ≤ k.toInt ∧ k.toInt ≤ 2))]) rfl ?_)
  refine J_ifB_ne hX 12 dX7_judge_6 (by decide) (fun h6 => ?_) (fun h6 => ?_)
  · skip
    refine J_aload_n hX 0 dX7_judge_12 rfl ?_
    refine J_iconst (v := 0) hX dX7_judge_13 (by decide) ?_
    refine J_callV hX 0 [.int 0] [] dX7_judge_14 (c_X7_tryMonths l D a g M L n hn hn60 0) lk_X7_102 jc_0 rfl rfl rfl (Nat.le_of_ble_eq_true rfl) (Nat.le_of_ble_eq_true rfl) (Nat.le_of_ble_eq_true rfl) (J_eq (st := [.int (x_tryR M n 0)]) rfl ?_)
    refine J_istore_n (loc' := [(2, .int (x_tryR M n 0)), (0, .ref (a 0)), (1, .int k)]) hX dX7_judge_17 (by decide) rfl ?_
    refine J_iload_n hX 0 dX7_judge_18 rfl ?_
    refine J_bipush (v := (-5)) hX dX7_judge_19 (by decide) ?_
    refine J_icmp_eq hX 35 dX7_judge_21 (by decide) (fun h21 => ?_) (fun h21 => ?_)
    · skip
      refine J_iload_n hX 0 dX7_judge_35 rfl ?_
      exact J_ret hX hZ dX7_judge_36 rfl rfl ⟨by first | contradiction | simp [x_judge, h6, h21], by simp [x_judge, h6, h21], rfl⟩
    · skip
      refine J_iload_n hX 2 dX7_judge_24 rfl ?_
      refine J_iconst (v := 2) hX dX7_judge_25 (by decide) ?_
      refine J_icmp_ne hX 37 dX7_judge_26 (by decide) (fun h26 => ?_) (fun h26 => ?_)
      · skip
        refine J_iload_n hX 2 dX7_judge_37 rfl ?_
        refine J_iconst (v := 2) hX dX7_judge_38 (by decide) ?_
        refine J_icmp_ne hX 50 dX7_judge_39 (by decide) (fun h39 => ?_) (fun h39 => ?_)
        · skip
          refine J_aload_n hX 1 dX7_judge_50 rfl ?_
          refine J_getr hX 0 3 dX7_judge_51 jc_0 rfl rfl (by decide) inlX7 wm_2_3 ?_
          refine J_geti hX 20 2 dX7_judge_54 jc_20 rfl rfl (by decide) inlX5 wm_11_21 ?_
          refine J_if_ne hX 63 dX7_judge_57 (by decide) (fun h57 => ?_) (fun h57 => ?_)
          · skip
            refine J_iload_n hX 2 dX7_judge_63 rfl ?_
            refine J_if_ne hX 77 dX7_judge_64 (by decide) (fun h64 => ?_) (fun h64 => ?_)
            · skip
              refine J_aload_n hX 1 dX7_judge_77 rfl ?_
              refine J_getr hX 0 3 dX7_judge_78 jc_0 rfl rfl (by decide) inlX7 wm_2_3 ?_
              refine J_geti hX 20 2 dX7_judge_81 jc_20 rfl rfl (by decide) inlX5 wm_11_21 ?_
              exact J_ret hX hZ dX7_judge_84 rfl rfl ⟨by first | contradiction | simp [x_judge, h6, h21, h26, h39, h57, h64], by simp [x_judge, h6, h21, h26, h39, h57, h64], rfl⟩
            · skip
              refine J_aload_n hX 1 dX7_judge_67 rfl ?_
              refine J_getr hX 0 3 dX7_judge_68 jc_0 rfl rfl (by decide) inlX7 wm_2_3 ?_
              refine J_geti hX 20 1 dX7_judge_71 jc_20 rfl rfl (by decide) inlX5 wm_11_22 ?_
              refine J_goto hX 84 dX7_judge_74 (by decide) ?_
              exact J_ret hX hZ dX7_judge_84 rfl rfl ⟨by first | contradiction | simp [x_judge, h6, h21, h26, h39, h57, h64], by simp [x_judge, h6, h21, h26, h39, h57, h64], rfl⟩
          · skip
            refine J_bipush (v := (-6)) hX dX7_judge_60 (by decide) ?_
            exact J_ret hX hZ dX7_judge_62 rfl rfl ⟨by first | contradiction | simp [x_judge, h6, h21, h26, h39, h57], by simp [x_judge, h6, h21, h26, h39, h57], rfl⟩
        · skip
          refine J_aload_n hX 1 dX7_judge_42 rfl ?_
          refine J_getr hX 0 3 dX7_judge_43 jc_0 rfl rfl (by decide) inlX7 wm_2_3 ?_
          refine J_geti hX 20 3 dX7_judge_46 jc_20 rfl rfl (by decide) inlX5 wm_11_20 ?_
          exact J_ret hX hZ dX7_judge_49 rfl rfl ⟨by first | contradiction | simp [x_judge, h6, h21, h26, h39], by simp [x_judge, h6, h21, h26, h39], rfl⟩
      · skip
        refine J_iload_n hX 0 dX7_judge_29 rfl ?_
        refine J_bipush (v := (-3)) hX dX7_judge_30 (by decide) ?_
        refine J_icmp_ne hX 37 dX7_judge_32 (by decide) (fun h32 => ?_) (fun h32 => ?_)
        · skip
          refine J_iload_n hX 2 dX7_judge_37 rfl ?_
          refine J_iconst (v := 2) hX dX7_judge_38 (by decide) ?_
          refine J_icmp_ne hX 50 dX7_judge_39 (by decide) (fun h39 => ?_) (fun h39 => ?_)
          · skip
            refine J_aload_n hX 1 dX7_judge_50 rfl ?_
            refine J_getr hX 0 3 dX7_judge_51 jc_0 rfl rfl (by decide) inlX7 wm_2_3 ?_
            refine J_geti hX 20 2 dX7_judge_54 jc_20 rfl rfl (by decide) inlX5 wm_11_21 ?_
            refine J_if_ne hX 63 dX7_judge_57 (by decide) (fun h57 => ?_) (fun h57 => ?_)
            · skip
              refine J_iload_n hX 2 dX7_judge_63 rfl ?_
              refine J_if_ne hX 77 dX7_judge_64 (by decide) (fun h64 => ?_) (fun h64 => ?_)
              · skip
                refine J_aload_n hX 1 dX7_judge_77 rfl ?_
                refine J_getr hX 0 3 dX7_judge_78 jc_0 rfl rfl (by decide) inlX7 wm_2_3 ?_
                refine J_geti hX 20 2 dX7_judge_81 jc_20 rfl rfl (by decide) inlX5 wm_11_21 ?_
                exact J_ret hX hZ dX7_judge_84 rfl rfl ⟨by first | contradiction | simp [x_judge, h6, h21, h26, h32, h39, h57, h64], by simp [x_judge, h6, h21, h26, h32, h39, h57, h64], rfl⟩
              · skip
                refine J_aload_n hX 1 dX7_judge_67 rfl ?_
                refine J_getr hX 0 3 dX7_judge_68 jc_0 rfl rfl (by decide) inlX7 wm_2_3 ?_
                refine J_geti hX 20 1 dX7_judge_71 jc_20 rfl rfl (by decide) inlX5 wm_11_22 ?_
                refine J_goto hX 84 dX7_judge_74 (by decide) ?_
                exact J_ret hX hZ dX7_judge_84 rfl rfl ⟨by first | contradiction | simp [x_judge, h6, h21, h26, h32, h39, h57, h64], by simp [x_judge, h6, h21, h26, h32, h39, h57, h64], rfl⟩
            · skip
              refine J_bipush (v := (-6)) hX dX7_judge_60 (by decide) ?_
              exact J_ret hX hZ dX7_judge_62 rfl rfl ⟨by first | contradiction | simp [x_judge, h6, h21, h26, h32, h39, h57], by simp [x_judge, h6, h21, h26, h32, h39, h57], rfl⟩
          · skip
            refine J_aload_n hX 1 dX7_judge_42 rfl ?_
            refine J_getr hX 0 3 dX7_judge_43 jc_0 rfl rfl (by decide) inlX7 wm_2_3 ?_
            refine J_geti hX 20 3 dX7_judge_46 jc_20 rfl rfl (by decide) inlX5 wm_11_20 ?_
            exact J_ret hX hZ dX7_judge_49 rfl rfl ⟨by first | contradiction | simp [x_judge, h6, h21, h26, h32, h39], by simp [x_judge, h6, h21, h26, h32, h39], rfl⟩
        · skip
          refine J_iload_n hX 0 dX7_judge_35 rfl ?_
          exact J_ret hX hZ dX7_judge_36 rfl rfl ⟨by first | contradiction | simp [x_judge, h6, h21, h26, h32], by simp [x_judge, h6, h21, h26, h32], rfl⟩
  · skip
    refine J_bipush (v := (-2)) hX dX7_judge_9 (by decide) ?_
    exact J_ret hX hZ dX7_judge_11 rfl rfl ⟨by first | contradiction | simp [x_judge, h6], by simp [x_judge, h6], rfl⟩
def x_behind (M : jM) (n : Nat) (o k : Int32) : Int32 × jM := if (0 ≤ o.toInt ∧ o.toInt ≤ 5) then (if (0 ≤ k.toInt ∧ k.toInt ≤ 3) then (let r := x_tryR M n 0; let M1 := x_tryM M n 0
  ((if r = 0 then x_ofOne M1 21 o.toNatClampNeg k else r), M1)) else (-2, M)) else (-1, M)
set_option maxHeartbeats 4000000 in
set_option maxRecDepth 10000 in
theorem c_X7_behind (l : Launch) (D : va_G) (a : Nat → Nat) (g : Nat → ClassId) (M : jM) (L : jL) (n : Nat) (hn : M 18 1 = nI n) (hn60 : n ≤ 60) (o k : Int32)  : jK l D a g yX7_behind cX7_behind 4 (some .int) 7 162 [.ref (a 0), .int o, .int k] M L (some (.int ((x_behind M n o k).1))) ((x_behind M n o k).2) L := by
  refine jMeth (by decide) (Nat.le_of_ble_eq_true rfl) ?_
  intro G hX hZ
  refine J_cg (loc' := [(0, .ref (a 0)), (1, .int o), (2, .int k)]) rfl rfl rfl rfl ?_
  refine J_iload_n hX 1 dX7_behind_0 rfl ?_
  refine J_callS hX [.int o] [] dX7_behind_1 (c_X7_isOne l D a g M L o) lk_X7_58 rfl rfl (Nat.le_of_ble_eq_true rfl) (Nat.le_of_ble_eq_true rfl) (Nat.le_of_ble_eq_true rfl) (J_eq (st := [.int (jB (0 ≤ o.toInt ∧ o.toInt ≤ 5))]) rfl ?_)
  refine J_ifB_ne hX 9 dX7_behind_4 (by decide) (fun h4 => ?_) (fun h4 => ?_)
  · skip
    have io := jix h4
    have lo := jixl h4
    refine J_iload_n hX 2 dX7_behind_9 rfl ?_
    refine J_iconst (v := 0) hX dX7_behind_10 (by decide) ?_
    refine J_iconst (v := 3) hX dX7_behind_11 (by decide) ?_
    refine J_callS hX [.int k, .int 0, .int 3] [] dX7_behind_12 (c_X7_within l D a g M L k 0 3) lk_X7_62 rfl rfl (Nat.le_of_ble_eq_true rfl) (Nat.le_of_ble_eq_true rfl) (Nat.le_of_ble_eq_true rfl) (J_eq (st := [.int (jB (0 ≤ k.toInt ∧ k.toInt ≤ 3))]) rfl ?_)
    refine J_ifB_ne hX 21 dX7_behind_15 (by decide) (fun h15 => ?_) (fun h15 => ?_)
    · skip
      refine J_aload_n hX 0 dX7_behind_21 rfl ?_
      refine J_iconst (v := 0) hX dX7_behind_22 (by decide) ?_
      refine J_callV hX 0 [.int 0] [] dX7_behind_23 (c_X7_tryMonths l D a g M L n hn hn60 0) lk_X7_102 jc_0 rfl rfl rfl (Nat.le_of_ble_eq_true rfl) (Nat.le_of_ble_eq_true rfl) (Nat.le_of_ble_eq_true rfl) (J_eq (st := [.int (x_tryR M n 0)]) rfl ?_)
      refine J_istore_n (loc' := [(3, .int (x_tryR M n 0)), (0, .ref (a 0)), (1, .int o), (2, .int k)]) hX dX7_behind_26 (by decide) rfl ?_
      refine J_iload_n hX 0 dX7_behind_27 rfl ?_
      refine J_if_eq hX 35 dX7_behind_28 (by decide) (fun h28 => ?_) (fun h28 => ?_)
      · skip
        refine J_aload_n hX 1 dX7_behind_35 rfl ?_
        refine J_getr hX 0 3 dX7_behind_36 jc_0 rfl rfl (by decide) inlX7 wm_2_3 ?_
        refine J_getr hX 20 0 dX7_behind_39 jc_20 rfl rfl (by decide) inlX5 wm_19_15 ?_
        refine J_iload_n hX 2 dX7_behind_42 rfl ?_
        refine J_topi (y := nI o.toNatClampNeg) io ?_
        refine J_iload_n hX 3 dX7_behind_43 rfl ?_
        refine J_callV hX 21 [.int (nI o.toNatClampNeg), .int k] [] dX7_behind_44 (c_X2_ofOne l D a g (x_tryM M n 0) L 21 jRl_21 o.toNatClampNeg (by omega) k) lk_X7_118 jc_21 rfl rfl rfl (Nat.le_of_ble_eq_true rfl) (Nat.le_of_ble_eq_true rfl) (Nat.le_of_ble_eq_true rfl) (J_eq (st := [.int (x_ofOne (x_tryM M n 0) 21 o.toNatClampNeg k)]) rfl ?_)
        exact J_ret hX hZ dX7_behind_47 rfl rfl ⟨by first | contradiction | simp [x_behind, h4, h15, h28], by simp [x_behind, h4, h15, h28], rfl⟩
      · skip
        refine J_iload_n hX 0 dX7_behind_31 rfl ?_
        refine J_goto hX 47 dX7_behind_32 (by decide) ?_
        exact J_ret hX hZ dX7_behind_47 rfl rfl ⟨by first | contradiction | simp [x_behind, h4, h15, h28], by simp [x_behind, h4, h15, h28], rfl⟩
    · skip
      refine J_bipush (v := (-2)) hX dX7_behind_18 (by decide) ?_
      exact J_ret hX hZ dX7_behind_20 rfl rfl ⟨by first | contradiction | simp [x_behind, h4, h15], by simp [x_behind, h4, h15], rfl⟩
  · skip
    refine J_iconst (v := (-1)) hX dX7_behind_7 (by decide) ?_
    exact J_ret hX hZ dX7_behind_8 rfl rfl ⟨by first | contradiction | simp [x_behind, h4], by simp [x_behind, h4], rfl⟩
def x_ofAll (M : jM) (q : Nat) (k : Int32) : Int32 := if k = 0 then x_notes M q else if k = 1 then x_land M q else if k = 2 then x_rate M q else if k = 3 then M q 7 else if k = 4 then M q 6 else M q 8
def x_total (M : jM) (n : Nat) (k : Int32) : Int32 × jM := if (0 ≤ k.toInt ∧ k.toInt ≤ 5) then (let r := x_tryR M n 0; let M1 := x_tryM M n 0
  ((if r = 0 then x_ofAll M1 21 k else r), M1)) else (-2, M)
set_option maxHeartbeats 4000000 in
set_option maxRecDepth 10000 in
theorem c_X7_total (l : Launch) (D : va_G) (a : Nat → Nat) (g : Nat → ClassId) (M : jM) (L : jL) (n : Nat) (hn : M 18 1 = nI n) (hn60 : n ≤ 60) (k : Int32)  : jK l D a g yX7_total cX7_total 3 (some .int) 7 162 [.ref (a 0), .int k] M L (some (.int ((x_total M n k).1))) ((x_total M n k).2) L := by
  refine jMeth (by decide) (Nat.le_of_ble_eq_true rfl) ?_
  intro G hX hZ
  refine J_cg (loc' := [(0, .ref (a 0)), (1, .int k)]) rfl rfl rfl rfl ?_
  refine J_iload_n hX 1 dX7_total_0 rfl ?_
  refine J_iconst (v := 0) hX dX7_total_1 (by decide) ?_
  refine J_iconst (v := 5) hX dX7_total_2 (by decide) ?_
  refine J_callS hX [.int k, .int 0, .int 5] [] dX7_total_3 (c_X7_within l D a g M L k 0 5) lk_X7_62 rfl rfl (Nat.le_of_ble_eq_true rfl) (Nat.le_of_ble_eq_true rfl) (Nat.le_of_ble_eq_true rfl) (J_eq (st := [.int (jB (0 ≤ k.toInt ∧ k.toInt ≤ 5))]) rfl ?_)
  refine J_ifB_ne hX 12 dX7_total_6 (by decide) (fun h6 => ?_) (fun h6 => ?_)
  · skip
    refine J_aload_n hX 0 dX7_total_12 rfl ?_
    refine J_iconst (v := 0) hX dX7_total_13 (by decide) ?_
    refine J_callV hX 0 [.int 0] [] dX7_total_14 (c_X7_tryMonths l D a g M L n hn hn60 0) lk_X7_102 jc_0 rfl rfl rfl (Nat.le_of_ble_eq_true rfl) (Nat.le_of_ble_eq_true rfl) (Nat.le_of_ble_eq_true rfl) (J_eq (st := [.int (x_tryR M n 0)]) rfl ?_)
    refine J_istore_n (loc' := [(2, .int (x_tryR M n 0)), (0, .ref (a 0)), (1, .int k)]) hX dX7_total_17 (by decide) rfl ?_
    refine J_iload_n hX 0 dX7_total_18 rfl ?_
    refine J_if_eq hX 24 dX7_total_19 (by decide) (fun h19 => ?_) (fun h19 => ?_)
    · skip
      refine J_iload_n hX 2 dX7_total_24 rfl ?_
      by_cases s25_0 : k = 0
      · refine J_tableIn hX 60 dX7_total_25 (by rw [s25_0]; decide) (by rw [s25_0]; decide) (by rw [s25_0]; rfl) (by decide) ?_
        refine J_aload_n hX 1 dX7_total_60 rfl ?_
        refine J_getr hX 0 3 dX7_total_61 jc_0 rfl rfl (by decide) inlX7 wm_2_3 ?_
        refine J_getr hX 20 0 dX7_total_64 jc_20 rfl rfl (by decide) inlX5 wm_19_15 ?_
        refine J_callV hX 21 [] [] dX7_total_67 (c_X2_notes l D a g (x_tryM M n 0) L 21 jRl_21) lk_X7_122 jc_21 rfl rfl rfl (Nat.le_of_ble_eq_true rfl) (Nat.le_of_ble_eq_true rfl) (Nat.le_of_ble_eq_true rfl) (J_eq (st := [.int (x_notes (x_tryM M n 0) 21)]) rfl ?_)
        exact J_ret hX hZ dX7_total_70 rfl rfl ⟨by simp [x_total, x_ofAll, h6, h19, s25_0], by simp [x_total, h6, h19, s25_0], rfl⟩
      by_cases s25_1 : k = 1
      · refine J_tableIn hX 71 dX7_total_25 (by rw [s25_1]; decide) (by rw [s25_1]; decide) (by rw [s25_1]; rfl) (by decide) ?_
        refine J_aload_n hX 1 dX7_total_71 rfl ?_
        refine J_getr hX 0 3 dX7_total_72 jc_0 rfl rfl (by decide) inlX7 wm_2_3 ?_
        refine J_getr hX 20 0 dX7_total_75 jc_20 rfl rfl (by decide) inlX5 wm_19_15 ?_
        refine J_callV hX 21 [] [] dX7_total_78 (c_X2_land l D a g (x_tryM M n 0) L 21 jRl_21) lk_X7_125 jc_21 rfl rfl rfl (Nat.le_of_ble_eq_true rfl) (Nat.le_of_ble_eq_true rfl) (Nat.le_of_ble_eq_true rfl) (J_eq (st := [.int (x_land (x_tryM M n 0) 21)]) rfl ?_)
        exact J_ret hX hZ dX7_total_81 rfl rfl ⟨by simp [x_total, x_ofAll, h6, h19, s25_0, s25_1], by simp [x_total, h6, h19, s25_0, s25_1], rfl⟩
      by_cases s25_2 : k = 2
      · refine J_tableIn hX 82 dX7_total_25 (by rw [s25_2]; decide) (by rw [s25_2]; decide) (by rw [s25_2]; rfl) (by decide) ?_
        refine J_aload_n hX 1 dX7_total_82 rfl ?_
        refine J_getr hX 0 3 dX7_total_83 jc_0 rfl rfl (by decide) inlX7 wm_2_3 ?_
        refine J_getr hX 20 0 dX7_total_86 jc_20 rfl rfl (by decide) inlX5 wm_19_15 ?_
        refine J_callV hX 21 [] [] dX7_total_89 (c_X2_rate l D a g (x_tryM M n 0) L 21 jRl_21) lk_X7_128 jc_21 rfl rfl rfl (Nat.le_of_ble_eq_true rfl) (Nat.le_of_ble_eq_true rfl) (Nat.le_of_ble_eq_true rfl) (J_eq (st := [.int (x_rate (x_tryM M n 0) 21)]) rfl ?_)
        exact J_ret hX hZ dX7_total_92 rfl rfl ⟨by simp [x_total, x_ofAll, h6, h19, s25_0, s25_1, s25_2], by simp [x_total, h6, h19, s25_0, s25_1, s25_2], rfl⟩
      by_cases s25_3 : k = 3
      · refine J_tableIn hX 93 dX7_total_25 (by rw [s25_3]; decide) (by rw [s25_3]; decide) (by rw [s25_3]; rfl) (by decide) ?_
        refine J_aload_n hX 1 dX7_total_93 rfl ?_
        refine J_getr hX 0 3 dX7_total_94 jc_0 rfl rfl (by decide) inlX7 wm_2_3 ?_
        refine J_getr hX 20 0 dX7_total_97 jc_20 rfl rfl (by decide) inlX5 wm_19_15 ?_
        refine J_geti hX 21 7 dX7_total_100 jc_21 rfl rfl (by decide) inlX2 wm_21_1 ?_
        exact J_ret hX hZ dX7_total_103 rfl rfl ⟨by simp [x_total, x_ofAll, h6, h19, s25_0, s25_1, s25_2, s25_3], by simp [x_total, h6, h19, s25_0, s25_1, s25_2, s25_3], rfl⟩
      by_cases s25_4 : k = 4
      · refine J_tableIn hX 104 dX7_total_25 (by rw [s25_4]; decide) (by rw [s25_4]; decide) (by rw [s25_4]; rfl) (by decide) ?_
        refine J_aload_n hX 1 dX7_total_104 rfl ?_
        refine J_getr hX 0 3 dX7_total_105 jc_0 rfl rfl (by decide) inlX7 wm_2_3 ?_
        refine J_getr hX 20 0 dX7_total_108 jc_20 rfl rfl (by decide) inlX5 wm_19_15 ?_
        refine J_geti hX 21 6 dX7_total_111 jc_21 rfl rfl (by decide) inlX2 wm_7_22 ?_
        exact J_ret hX hZ dX7_total_114 rfl rfl ⟨by simp [x_total, x_ofAll, h6, h19, s25_0, s25_1, s25_2, s25_3, s25_4], by simp [x_total, h6, h19, s25_0, s25_1, s25_2, s25_3, s25_4], rfl⟩
      have t25_0 := lv_neT s25_0 (show (0 : Int32).toInt = 0 from rfl)
      have t25_1 := lv_neT s25_1 (show (1 : Int32).toInt = 1 from rfl)
      have t25_2 := lv_neT s25_2 (show (2 : Int32).toInt = 2 from rfl)
      have t25_3 := lv_neT s25_3 (show (3 : Int32).toInt = 3 from rfl)
      have t25_4 := lv_neT s25_4 (show (4 : Int32).toInt = 4 from rfl)
      refine J_tableOut hX 115 dX7_total_25 (by omega) (by decide) ?_
      refine J_aload_n hX 1 dX7_total_115 rfl ?_
      refine J_getr hX 0 3 dX7_total_116 jc_0 rfl rfl (by decide) inlX7 wm_2_3 ?_
      refine J_getr hX 20 0 dX7_total_119 jc_20 rfl rfl (by decide) inlX5 wm_19_15 ?_
      refine J_geti hX 21 8 dX7_total_122 jc_21 rfl rfl (by decide) inlX2 wm_21_2 ?_
      exact J_ret hX hZ dX7_total_125 rfl rfl ⟨by simp [x_total, x_ofAll, h6, h19, s25_0, s25_1, s25_2, s25_3, s25_4], by simp [x_total, h6, h19, s25_0, s25_1, s25_2, s25_3, s25_4], rfl⟩
    · skip
      refine J_iload_n hX 0 dX7_total_22 rfl ?_
      exact J_ret hX hZ dX7_total_23 rfl rfl ⟨by simp [x_total, x_ofAll, h6, h19], by simp [x_total, h6, h19], rfl⟩
  · skip
    refine J_bipush (v := (-2)) hX dX7_total_9 (by decide) ?_
    exact J_ret hX hZ dX7_total_11 rfl rfl ⟨by simp [x_total, x_ofAll, h6], by simp [x_total, h6], rfl⟩
def x_fell (M : jM) (n : Nat) (v : Int32) : Int32 × jM := if (0 ≤ v.toInt ∧ v.toInt ≤ 100) then (let r := x_tryR M n v; let M1 := x_tryM M n v
  ((if r = 0 then M1 20 4 else r), M1)) else (-2, M)
set_option maxHeartbeats 4000000 in
set_option maxRecDepth 10000 in
theorem c_X7_fell (l : Launch) (D : va_G) (a : Nat → Nat) (g : Nat → ClassId) (M : jM) (L : jL) (n : Nat) (hn : M 18 1 = nI n) (hn60 : n ≤ 60) (v : Int32)  : jK l D a g yX7_fell cX7_fell 3 (some .int) 7 162 [.ref (a 0), .int v] M L (some (.int ((x_fell M n v).1))) ((x_fell M n v).2) L := by
  refine jMeth (by decide) (Nat.le_of_ble_eq_true rfl) ?_
  intro G hX hZ
  refine J_cg (loc' := [(0, .ref (a 0)), (1, .int v)]) rfl rfl rfl rfl ?_
  refine J_iload_n hX 1 dX7_fell_0 rfl ?_
  refine J_iconst (v := 0) hX dX7_fell_1 (by decide) ?_
  refine J_bipush (v := 100) hX dX7_fell_2 (by decide) ?_
  refine J_callS hX [.int v, .int 0, .int 100] [] dX7_fell_4 (c_X7_within l D a g M L v 0 100) lk_X7_62 rfl rfl (Nat.le_of_ble_eq_true rfl) (Nat.le_of_ble_eq_true rfl) (Nat.le_of_ble_eq_true rfl) (J_eq (st := [.int (jB (0 ≤ v.toInt ∧ v.toInt ≤ 100))]) rfl ?_)
  refine J_ifB_ne hX 13 dX7_fell_7 (by decide) (fun h7 => ?_) (fun h7 => ?_)
  · skip
    refine J_aload_n hX 0 dX7_fell_13 rfl ?_
    refine J_iload_n hX 1 dX7_fell_14 rfl ?_
    refine J_callV hX 0 [.int v] [] dX7_fell_15 (c_X7_tryMonths l D a g M L n hn hn60 v) lk_X7_102 jc_0 rfl rfl rfl (Nat.le_of_ble_eq_true rfl) (Nat.le_of_ble_eq_true rfl) (Nat.le_of_ble_eq_true rfl) (J_eq (st := [.int (x_tryR M n v)]) rfl ?_)
    refine J_istore_n (loc' := [(2, .int (x_tryR M n v)), (0, .ref (a 0)), (1, .int v)]) hX dX7_fell_18 (by decide) rfl ?_
    refine J_iload_n hX 0 dX7_fell_19 rfl ?_
    refine J_if_eq hX 27 dX7_fell_20 (by decide) (fun h20 => ?_) (fun h20 => ?_)
    · skip
      refine J_aload_n hX 1 dX7_fell_27 rfl ?_
      refine J_getr hX 0 3 dX7_fell_28 jc_0 rfl rfl (by decide) inlX7 wm_2_3 ?_
      refine J_geti hX 20 4 dX7_fell_31 jc_20 rfl rfl (by decide) inlX5 wm_21_18 ?_
      exact J_ret hX hZ dX7_fell_34 rfl rfl ⟨by first | contradiction | simp [x_fell, h7, h20], by simp [x_fell, h7, h20], rfl⟩
    · skip
      refine J_iload_n hX 0 dX7_fell_23 rfl ?_
      refine J_goto hX 34 dX7_fell_24 (by decide) ?_
      exact J_ret hX hZ dX7_fell_34 rfl rfl ⟨by first | contradiction | simp [x_fell, h7, h20], by simp [x_fell, h7, h20], rfl⟩
  · skip
    refine J_bipush (v := (-2)) hX dX7_fell_10 (by decide) ?_
    exact J_ret hX hZ dX7_fell_12 rfl rfl ⟨by first | contradiction | simp [x_fell, h7], by simp [x_fell, h7], rfl⟩
def x_done (M : jM) (n : Nat) : Int32 × jM := let r := x_tryR M n 0; let M1 := x_tryM M n 0
  if r = 0 then (jU (x_copy M1 21 1) 18 1 0 20 1, jU (x_copy M1 21 1) 18 1 0) else (r, M1)
set_option maxHeartbeats 4000000 in
set_option maxRecDepth 10000 in
theorem c_X7_done (l : Launch) (D : va_G) (a : Nat → Nat) (g : Nat → ClassId) (M : jM) (L : jL) (n : Nat) (hn : M 18 1 = nI n) (hn60 : n ≤ 60)  : jK l D a g yX7_done cX7_done 2 (some .int) 7 162 [.ref (a 0)] M L (some (.int ((x_done M n).1))) ((x_done M n).2) L := by
  refine jMeth (by decide) (Nat.le_of_ble_eq_true rfl) ?_
  intro G hX hZ
  refine J_cg (loc' := [(0, .ref (a 0))]) rfl rfl rfl rfl ?_
  refine J_aload_n hX 0 dX7_done_0 rfl ?_
  refine J_iconst (v := 0) hX dX7_done_1 (by decide) ?_
  refine J_callV hX 0 [.int 0] [] dX7_done_2 (c_X7_tryMonths l D a g M L n hn hn60 0) lk_X7_102 jc_0 rfl rfl rfl (Nat.le_of_ble_eq_true rfl) (Nat.le_of_ble_eq_true rfl) (Nat.le_of_ble_eq_true rfl) (J_eq (st := [.int (x_tryR M n 0)]) rfl ?_)
  refine J_istore_n (loc' := [(1, .int (x_tryR M n 0)), (0, .ref (a 0))]) hX dX7_done_5 (by decide) rfl ?_
  refine J_iload_n hX 0 dX7_done_6 rfl ?_
  refine J_if_eq hX 12 dX7_done_7 (by decide) (fun h7 => ?_) (fun h7 => ?_)
  · skip
    refine J_aload_n hX 1 dX7_done_12 rfl ?_
    refine J_getr hX 0 0 dX7_done_13 jc_0 rfl rfl (by decide) inlX7 wm_1_15 ?_
    refine J_aload_n hX 1 dX7_done_16 rfl ?_
    refine J_getr hX 0 3 dX7_done_17 jc_0 rfl rfl (by decide) inlX7 wm_2_3 ?_
    refine J_getr hX 20 0 dX7_done_20 jc_20 rfl rfl (by decide) inlX5 wm_19_15 ?_
    refine J_callV hX 1 [.ref (a 21)] [] dX7_done_23 (c_X2_copyFrom l D a g (x_tryM M n 0) L 1 jRl_1 21 jRl_21) lk_X7_140 jc_1 rfl rfl rfl (Nat.le_of_ble_eq_true rfl) (Nat.le_of_ble_eq_true rfl) (Nat.le_of_ble_eq_true rfl) (J_eq (st := []) rfl ?_)
    refine J_aload_n hX 1 dX7_done_26 rfl ?_
    refine J_getr hX 0 2 dX7_done_27 jc_0 rfl rfl (by decide) inlX7 wm_1_23 ?_
    refine J_iconst (v := 0) hX dX7_done_30 (by decide) ?_
    refine J_puti (ty := .int) hX 18 1 dX7_done_31 jc_18 rfl rfl (by decide) inlX1 wm_8_10 tyX1 tyX1_ok nmX1 rfl (by decide +kernel) rfl rfl ?_
    refine J_aload_n hX 1 dX7_done_34 rfl ?_
    refine J_getr hX 0 3 dX7_done_35 jc_0 rfl rfl (by decide) inlX7 wm_2_3 ?_
    refine J_geti hX 20 1 dX7_done_38 jc_20 rfl rfl (by decide) inlX5 wm_11_22 ?_
    exact J_ret hX hZ dX7_done_41 rfl rfl ⟨by first | contradiction | simp [x_done, h7], by simp [x_done, h7], rfl⟩
  · skip
    refine J_iload_n hX 0 dX7_done_10 rfl ?_
    exact J_ret hX hZ dX7_done_11 rfl rfl ⟨by first | contradiction | simp [x_done, h7], by simp [x_done, h7], rfl⟩
def x_addS (M : jM) (s : Nat) (c m h : Int32) : jM := jU (jU (jU (jU M 14 s c) 15 s m) 16 s h) 13 4 (nI (s + 1))
def x_addS8 (M : jM) (s : Nat) (c m h : Int32) : jM := if s < 8 then x_addS M s c m h else M
set_option maxHeartbeats 4000000 in
set_option maxRecDepth 10000 in
theorem c_X4_add (l : Launch) (D : va_G) (a : Nat → Nat) (g : Nat → ClassId) (M : jM) (L : jL) (s : Nat) (hs : M 13 4 = nI s) (hs8 : s ≤ 8) (c m h : Int32)  : jK l D a g yX4_add cX4_add 4 none 0 0 [.ref (a 13), .int c, .int m, .int h] M L none (x_addS8 M s c m h) L := by
  refine jMeth (by decide) (Nat.le_of_ble_eq_true rfl) ?_
  intro G hX hZ
  refine J_cg (loc' := [(0, .ref (a 13)), (1, .int c), (2, .int m), (3, .int h)]) rfl rfl rfl rfl ?_
  refine J_aload_n hX 0 dX4_add_0 rfl ?_
  refine J_geti hX 13 4 dX4_add_1 jc_13 rfl rfl (by decide) inlX4 wm_28_1 ?_
  refine J_bipush (v := 8) hX dX4_add_4 (by decide) ?_
  refine J_cmpN_ge hX 49 s 8 dX4_add_6 (by decide) hs rfl (by omega) (by omega) (fun h6 => ?_) (fun h6 => ?_)
  · skip
    exact J_vret hX hZ dX4_add_49 ⟨rfl, by simp [x_addS8, x_addS]; try omega, rfl⟩
  · skip
    refine J_aload_n hX 0 dX4_add_9 rfl ?_
    refine J_getr hX 13 0 dX4_add_10 jc_13 rfl rfl (by decide) inlX4 wm_3_6 ?_
    refine J_aload_n hX 0 dX4_add_13 rfl ?_
    refine J_geti hX 13 4 dX4_add_14 jc_13 rfl rfl (by decide) inlX4 wm_28_1 ?_
    refine J_iload_n hX 1 dX4_add_17 rfl ?_
    refine J_iast hX 14 s dX4_add_18 jc_14 hs (by omega) (by omega) ?_
    refine J_aload_n hX 0 dX4_add_19 rfl ?_
    refine J_getr hX 13 1 dX4_add_20 jc_13 rfl rfl (by decide) inlX4 wm_3_7 ?_
    refine J_aload_n hX 0 dX4_add_23 rfl ?_
    refine J_geti hX 13 4 dX4_add_24 jc_13 rfl rfl (by decide) inlX4 wm_28_1 ?_
    refine J_iload_n hX 2 dX4_add_27 rfl ?_
    refine J_iast hX 15 s dX4_add_28 jc_15 (by simpa [jU] using hs) (by omega) (by omega) ?_
    refine J_aload_n hX 0 dX4_add_29 rfl ?_
    refine J_getr hX 13 2 dX4_add_30 jc_13 rfl rfl (by decide) inlX4 wm_3_8 ?_
    refine J_aload_n hX 0 dX4_add_33 rfl ?_
    refine J_geti hX 13 4 dX4_add_34 jc_13 rfl rfl (by decide) inlX4 wm_28_1 ?_
    refine J_iload_n hX 3 dX4_add_37 rfl ?_
    refine J_iast hX 16 s dX4_add_38 jc_16 (by simpa [jU] using hs) (by omega) (by omega) ?_
    refine J_aload_n hX 0 dX4_add_39 rfl ?_
    refine J_dup hX dX4_add_40 rfl ?_
    refine J_geti hX 13 4 dX4_add_41 jc_13 rfl rfl (by decide) inlX4 wm_28_1 ?_
    refine J_topi (y := nI s) (by simpa [jU] using hs) ?_
    refine J_iconst (v := 1) hX dX4_add_44 (by decide) ?_
    refine J_iadd hX dX4_add_45 ?_
    refine J_topi (y := nI (s + 1)) (nI_1 s) ?_
    refine J_puti (ty := .int) hX 13 4 dX4_add_46 jc_13 rfl rfl (by decide) inlX4 wm_28_1 tyX4 tyX4_ok nmX4 rfl (by decide +kernel) rfl rfl ?_
    exact J_vret hX hZ dX4_add_49 ⟨rfl, by simp [x_addS8, x_addS]; try omega, rfl⟩
def x_seen (M : jM) (s : Nat) (c m h : Int32) : Int32 × jM := if (0 ≤ c.toInt ∧ c.toInt ≤ 255) then (if (0 ≤ m.toInt ∧ m.toInt ≤ 8) then (if (0 ≤ h.toInt ∧ h.toInt ≤ 1) then (if s = 8 then (-4, M) else (nI (s + 1), x_addS M s c m h)) else (-2, M)) else (-2, M)) else (-2, M)
set_option maxHeartbeats 4000000 in
set_option maxRecDepth 10000 in
theorem c_X7_seen (l : Launch) (D : va_G) (a : Nat → Nat) (g : Nat → ClassId) (M : jM) (L : jL) (s : Nat) (hs : M 13 4 = nI s) (hs8 : s ≤ 8) (c m h : Int32)  : jK l D a g yX7_seen cX7_seen 4 (some .int) 1 23 [.ref (a 0), .int c, .int m, .int h] M L (some (.int ((x_seen M s c m h).1))) ((x_seen M s c m h).2) L := by
  refine jMeth (by decide) (Nat.le_of_ble_eq_true rfl) ?_
  intro G hX hZ
  refine J_cg (loc' := [(0, .ref (a 0)), (1, .int c), (2, .int m), (3, .int h)]) rfl rfl rfl rfl ?_
  refine J_iload_n hX 1 dX7_seen_0 rfl ?_
  refine J_iconst (v := 0) hX dX7_seen_1 (by decide) ?_
  refine J_sipush (v := 255) hX dX7_seen_2 (by decide) ?_
  refine J_callS hX [.int c, .int 0, .int 255] [] dX7_seen_5 (c_X7_within l D a g M L c 0 255) lk_X7_62 rfl rfl (Nat.le_of_ble_eq_true rfl) (Nat.le_of_ble_eq_true rfl) (Nat.le_of_ble_eq_true rfl) (J_eq (st := [.int (jB (0 ≤ c.toInt ∧ c.toInt ≤ 255))]) rfl ?_)
  refine J_ifB_eq hX 30 dX7_seen_8 (by decide) (fun h8 => ?_) (fun h8 => ?_)
  · skip
    refine J_bipush (v := (-2)) hX dX7_seen_30 (by decide) ?_
    exact J_ret hX hZ dX7_seen_32 rfl rfl ⟨by first | contradiction | simp [x_seen, h8], by simp [x_seen, h8], rfl⟩
  · skip
    refine J_iload_n hX 2 dX7_seen_11 rfl ?_
    refine J_iconst (v := 0) hX dX7_seen_12 (by decide) ?_
    refine J_bipush (v := 8) hX dX7_seen_13 (by decide) ?_
    refine J_callS hX [.int m, .int 0, .int 8] [] dX7_seen_15 (c_X7_within l D a g M L m 0 8) lk_X7_62 rfl rfl (Nat.le_of_ble_eq_true rfl) (Nat.le_of_ble_eq_true rfl) (Nat.le_of_ble_eq_true rfl) (J_eq (st := [.int (jB (0 ≤ m.toInt ∧ m.toInt ≤ 8))]) rfl ?_)
    refine J_ifB_eq hX 30 dX7_seen_18 (by decide) (fun h18 => ?_) (fun h18 => ?_)
    · skip
      refine J_bipush (v := (-2)) hX dX7_seen_30 (by decide) ?_
      exact J_ret hX hZ dX7_seen_32 rfl rfl ⟨by first | contradiction | simp [x_seen, h8, h18], by simp [x_seen, h8, h18], rfl⟩
    · skip
      refine J_iload_n hX 3 dX7_seen_21 rfl ?_
      refine J_iconst (v := 0) hX dX7_seen_22 (by decide) ?_
      refine J_iconst (v := 1) hX dX7_seen_23 (by decide) ?_
      refine J_callS hX [.int h, .int 0, .int 1] [] dX7_seen_24 (c_X7_within l D a g M L h 0 1) lk_X7_62 rfl rfl (Nat.le_of_ble_eq_true rfl) (Nat.le_of_ble_eq_true rfl) (Nat.le_of_ble_eq_true rfl) (J_eq (st := [.int (jB (0 ≤ h.toInt ∧ h.toInt ≤ 1))]) rfl ?_)
      refine J_ifB_ne hX 33 dX7_seen_27 (by decide) (fun h27 => ?_) (fun h27 => ?_)
      · skip
        refine J_aload_n hX 0 dX7_seen_33 rfl ?_
        refine J_getr hX 0 1 dX7_seen_34 jc_0 rfl rfl (by decide) inlX7 wm_1_19 ?_
        refine J_geti hX 13 4 dX7_seen_37 jc_13 rfl rfl (by decide) inlX4 wm_27_20 ?_
        refine J_bipush (v := 8) hX dX7_seen_40 (by decide) ?_
        refine J_cmpN_ne hX 48 s 8 dX7_seen_42 (by decide) hs rfl (by omega) (by omega) (fun h42 => ?_) (fun h42 => ?_)
        · skip
          refine J_aload_n hX 0 dX7_seen_48 rfl ?_
          refine J_getr hX 0 1 dX7_seen_49 jc_0 rfl rfl (by decide) inlX7 wm_1_19 ?_
          refine J_iload_n hX 1 dX7_seen_52 rfl ?_
          refine J_iload_n hX 2 dX7_seen_53 rfl ?_
          refine J_iload_n hX 3 dX7_seen_54 rfl ?_
          refine J_callV hX 13 [.int c, .int m, .int h] [] dX7_seen_55 (c_X4_add l D a g M L s hs hs8 c m h) lk_X7_192 jc_13 rfl rfl rfl (Nat.le_of_ble_eq_true rfl) (Nat.le_of_ble_eq_true rfl) (Nat.le_of_ble_eq_true rfl) (J_eq (st := []) rfl ?_)
          refine J_cg (M' := x_addS M s c m h) (by rw [x_addS8, if_pos (by omega)]) rfl rfl rfl ?_
          refine J_aload_n hX 0 dX7_seen_58 rfl ?_
          refine J_getr hX 0 1 dX7_seen_59 jc_0 rfl rfl (by decide) inlX7 wm_1_19 ?_
          refine J_geti hX 13 4 dX7_seen_62 jc_13 rfl rfl (by decide) inlX4 wm_27_20 ?_
          refine J_topi (y := nI (s + 1)) (by rw [x_addS, jU_same]) ?_
          exact J_ret hX hZ dX7_seen_65 rfl rfl ⟨by first | contradiction | simp [x_seen, h8, h18, h27, h42], by simp [x_seen, h8, h18, h27, h42], rfl⟩
        · skip
          refine J_bipush (v := (-4)) hX dX7_seen_45 (by decide) ?_
          exact J_ret hX hZ dX7_seen_47 rfl rfl ⟨by first | contradiction | simp [x_seen, h8, h18, h27, h42], by simp [x_seen, h8, h18, h27, h42], rfl⟩
      · skip
        refine J_bipush (v := (-2)) hX dX7_seen_30 (by decide) ?_
        exact J_ret hX hZ dX7_seen_32 rfl rfl ⟨by first | contradiction | simp [x_seen, h8, h18, h27], by simp [x_seen, h8, h18, h27], rfl⟩
def x_forget (M : jM) : Int32 × jM := (M 13 4, jU M 13 4 0)
set_option maxHeartbeats 4000000 in
set_option maxRecDepth 10000 in
theorem c_X7_forget (l : Launch) (D : va_G) (a : Nat → Nat) (g : Nat → ClassId) (M : jM) (L : jL)   : jK l D a g yX7_forget cX7_forget 2 (some .int) 0 0 [.ref (a 0)] M L (some (.int ((x_forget M).1))) ((x_forget M).2) L := by
  refine jMeth (by decide) (Nat.le_of_ble_eq_true rfl) ?_
  intro G hX hZ
  refine J_cg (loc' := [(0, .ref (a 0))]) rfl rfl rfl rfl ?_
  refine J_aload_n hX 0 dX7_forget_0 rfl ?_
  refine J_getr hX 0 1 dX7_forget_1 jc_0 rfl rfl (by decide) inlX7 wm_1_19 ?_
  refine J_geti hX 13 4 dX7_forget_4 jc_13 rfl rfl (by decide) inlX4 wm_27_20 ?_
  refine J_istore_n (loc' := [(1, .int (M 13 4)), (0, .ref (a 0))]) hX dX7_forget_7 (by decide) rfl ?_
  refine J_aload_n hX 1 dX7_forget_8 rfl ?_
  refine J_getr hX 0 1 dX7_forget_9 jc_0 rfl rfl (by decide) inlX7 wm_1_19 ?_
  refine J_iconst (v := 0) hX dX7_forget_12 (by decide) ?_
  refine J_puti (ty := .int) hX 13 4 dX7_forget_13 jc_13 rfl rfl (by decide) inlX4 wm_27_20 tyX4 tyX4_ok nmX4 rfl (by decide +kernel) rfl rfl ?_
  refine J_iload_n hX 0 dX7_forget_16 rfl ?_
  exact J_ret hX hZ dX7_forget_17 rfl rfl ⟨rfl, rfl, rfl⟩
def x_cpSg (M : jM) (r q : Nat) : jM := let M1 := jCp (jCp (jCp M (r + 1) (q + 1) 8) (r + 2) (q + 2) 8) (r + 3) (q + 3) 8; jU M1 q 4 (M1 r 4)
set_option maxHeartbeats 4000000 in
set_option maxRecDepth 10000 in
theorem c_X4_copyFrom (l : Launch) (D : va_G) (a : Nat → Nat) (g : Nat → ClassId) (M : jM) (L : jL) (q : Nat) (hq : jSg q) (r : Nat) (hr : jSg r)  : jK l D a g yX4_copyFrom cX4_copyFrom 2 none 1 60 [.ref (a q), .ref (a r)] M L none (x_cpSg M r q) L := by
  refine jMeth (by decide) (Nat.le_of_ble_eq_true rfl) ?_
  intro G hX hZ
  refine J_cg (loc' := [(0, .ref (a q)), (1, .ref (a r))]) rfl rfl rfl rfl ?_
  refine J_aload_n hX 1 dX4_copyFrom_0 rfl ?_
  refine J_getr hX r 0 dX4_copyFrom_1 hr.o rfl rfl (by decide) inlX4 wm_3_6 ?_
  refine J_iconst (v := 0) hX dX4_copyFrom_4 (by decide) ?_
  refine J_aload_n hX 0 dX4_copyFrom_5 rfl ?_
  refine J_getr hX q 0 dX4_copyFrom_6 hq.o rfl rfl (by decide) inlX4 wm_3_6 ?_
  refine J_iconst (v := 0) hX dX4_copyFrom_9 (by decide) ?_
  refine J_bipush (v := 8) hX dX4_copyFrom_10 (by decide) ?_
  refine J_copyi (n := 8) hX (r + 1) (q + 1) dX4_copyFrom_12 wm_32_2 wm_12_21 wm_12_22 wm_12_23 hr.c1 hq.c1 rfl (by omega) (by omega) (by omega) (Nat.le_of_ble_eq_true rfl) (Nat.le_of_ble_eq_true rfl) ?_
  refine J_aload_n hX 1 dX4_copyFrom_15 rfl ?_
  refine J_getr hX r 1 dX4_copyFrom_16 hr.o rfl rfl (by decide) inlX4 wm_3_7 ?_
  refine J_iconst (v := 0) hX dX4_copyFrom_19 (by decide) ?_
  refine J_aload_n hX 0 dX4_copyFrom_20 rfl ?_
  refine J_getr hX q 1 dX4_copyFrom_21 hq.o rfl rfl (by decide) inlX4 wm_3_7 ?_
  refine J_iconst (v := 0) hX dX4_copyFrom_24 (by decide) ?_
  refine J_bipush (v := 8) hX dX4_copyFrom_25 (by decide) ?_
  refine J_copyi (n := 8) hX (r + 2) (q + 2) dX4_copyFrom_27 wm_32_2 wm_12_21 wm_12_22 wm_12_23 hr.c2 hq.c2 rfl (by omega) (by omega) (by omega) (Nat.le_of_ble_eq_true rfl) (Nat.le_of_ble_eq_true rfl) ?_
  refine J_aload_n hX 1 dX4_copyFrom_30 rfl ?_
  refine J_getr hX r 2 dX4_copyFrom_31 hr.o rfl rfl (by decide) inlX4 wm_3_8 ?_
  refine J_iconst (v := 0) hX dX4_copyFrom_34 (by decide) ?_
  refine J_aload_n hX 0 dX4_copyFrom_35 rfl ?_
  refine J_getr hX q 2 dX4_copyFrom_36 hq.o rfl rfl (by decide) inlX4 wm_3_8 ?_
  refine J_iconst (v := 0) hX dX4_copyFrom_39 (by decide) ?_
  refine J_bipush (v := 8) hX dX4_copyFrom_40 (by decide) ?_
  refine J_copyi (n := 8) hX (r + 3) (q + 3) dX4_copyFrom_42 wm_32_2 wm_12_21 wm_12_22 wm_12_23 hr.c3 hq.c3 rfl (by omega) (by omega) (by omega) (Nat.le_of_ble_eq_true rfl) (Nat.le_of_ble_eq_true rfl) ?_
  refine J_aload_n hX 0 dX4_copyFrom_45 rfl ?_
  refine J_aload_n hX 1 dX4_copyFrom_46 rfl ?_
  refine J_geti hX r 4 dX4_copyFrom_47 hr.o rfl rfl (by decide) inlX4 wm_28_1 ?_
  refine J_puti (ty := .int) hX q 4 dX4_copyFrom_50 hq.o rfl rfl (by decide) inlX4 wm_28_1 tyX4 tyX4_ok nmX4 rfl (by decide +kernel) rfl rfl ?_
  exact J_vret hX hZ dX4_copyFrom_53 ⟨rfl, rfl, rfl⟩
def x_image (M : jM) (k : Int32) : Int32 × jM := if (0 ≤ k.toInt ∧ k.toInt ≤ 1) then (if k = 0 then (1, jU (x_cpSg (x_copy M 1 42) 13 54) 41 2 1) else (1, jU (x_cpSg (x_copy M 1 60) 13 72) 59 2 1)) else (-2, M)
def x_restore (M : jM) (k : Int32) : Int32 × jM := if (0 ≤ k.toInt ∧ k.toInt ≤ 1) then (if k = 0 then (if M 41 2 = 0 then (-3, M) else (1, x_cpSg (x_copy M 42 1) 54 13)) else (if M 59 2 = 0 then (-3, M) else (1, x_cpSg (x_copy M 60 1) 72 13))) else (-2, M)
theorem jk01 {k : Int32} (h : (0 ≤ k.toInt ∧ k.toInt ≤ 1)) (h0 : ¬ k = 0) : k = 1 := by
  apply Int32.toInt_inj.mp
  have : ¬ k.toInt = 0 := fun e => h0 (Int32.toInt_inj.mp e)
  show k.toInt = 1
  omega
set_option maxHeartbeats 4000000 in
set_option maxRecDepth 10000 in
theorem c_X7_image (l : Launch) (D : va_G) (a : Nat → Nat) (g : Nat → ClassId) (M : jM) (L : jL) (k : Int32)  : jK l D a g yX7_image cX7_image 2 (some .int) 2 82 [.ref (a 0), .int k] M L (some (.int ((x_image M k).1))) ((x_image M k).2) L := by
  refine jMeth (by decide) (Nat.le_of_ble_eq_true rfl) ?_
  intro G hX hZ
  refine J_cg (loc' := [(0, .ref (a 0)), (1, .int k)]) rfl rfl rfl rfl ?_
  refine J_iload_n hX 1 dX7_image_0 rfl ?_
  refine J_iconst (v := 0) hX dX7_image_1 (by decide) ?_
  refine J_iconst (v := 1) hX dX7_image_2 (by decide) ?_
  refine J_callS hX [.int k, .int 0, .int 1] [] dX7_image_3 (c_X7_within l D a g M L k 0 1) lk_X7_62 rfl rfl (Nat.le_of_ble_eq_true rfl) (Nat.le_of_ble_eq_true rfl) (Nat.le_of_ble_eq_true rfl) (J_eq (st := [.int (jB (0 ≤ k.toInt ∧ k.toInt ≤ 1))]) rfl ?_)
  refine J_ifB_ne hX 12 dX7_image_6 (by decide) (fun h6 => ?_) (fun h6 => ?_)
  · skip
    by_cases k0 : k = 0
    · have hk : k = nI 0 := k0
      refine J_aload_n hX 0 dX7_image_12 rfl ?_
      refine J_getr hX 0 6 dX7_image_13 jc_0 rfl rfl (by decide) inlX7 wm_2_13 ?_
      refine J_iload_n hX 1 dX7_image_16 rfl ?_
      refine J_aald (ty := .object RX0) hX 40 0 dX7_image_17 jc_40 rfl rfl hk rfl (by decide) ?_
      refine J_getr hX 41 0 dX7_image_18 jc_41 rfl rfl (by decide) inlX0 wm_31_19 ?_
      refine J_aload_n hX 0 dX7_image_21 rfl ?_
      refine J_getr hX 0 0 dX7_image_22 jc_0 rfl rfl (by decide) inlX7 wm_1_15 ?_
      refine J_callV hX 42 [.ref (a 1)] [] dX7_image_25 (c_X2_copyFrom l D a g M L 42 jRl_42 1 jRl_1) lk_X7_140 jc_42 rfl rfl rfl (Nat.le_of_ble_eq_true rfl) (Nat.le_of_ble_eq_true rfl) (Nat.le_of_ble_eq_true rfl) (J_eq (st := []) rfl ?_)
      refine J_aload_n hX 0 dX7_image_28 rfl ?_
      refine J_getr hX 0 6 dX7_image_29 jc_0 rfl rfl (by decide) inlX7 wm_2_13 ?_
      refine J_iload_n hX 1 dX7_image_32 rfl ?_
      refine J_aald (ty := .object RX0) hX 40 0 dX7_image_33 jc_40 rfl rfl hk rfl (by decide) ?_
      refine J_getr hX 41 1 dX7_image_34 jc_41 rfl rfl (by decide) inlX0 wm_31_20 ?_
      refine J_aload_n hX 0 dX7_image_37 rfl ?_
      refine J_getr hX 0 1 dX7_image_38 jc_0 rfl rfl (by decide) inlX7 wm_1_19 ?_
      refine J_callV hX 54 [.ref (a 13)] [] dX7_image_41 (c_X4_copyFrom l D a g (x_copy M 1 42) L 54 jSg_54 13 jSg_13) lk_X7_220 jc_54 rfl rfl rfl (Nat.le_of_ble_eq_true rfl) (Nat.le_of_ble_eq_true rfl) (Nat.le_of_ble_eq_true rfl) (J_eq (st := []) rfl ?_)
      refine J_aload_n hX 0 dX7_image_44 rfl ?_
      refine J_getr hX 0 6 dX7_image_45 jc_0 rfl rfl (by decide) inlX7 wm_2_13 ?_
      refine J_iload_n hX 1 dX7_image_48 rfl ?_
      refine J_aald (ty := .object RX0) hX 40 0 dX7_image_49 jc_40 rfl rfl hk rfl (by decide) ?_
      refine J_iconst (v := 1) hX dX7_image_50 (by decide) ?_
      refine J_puti (ty := .boolean) hX 41 2 dX7_image_51 jc_41 rfl rfl (by decide) inlX0 wm_31_21 tyX0 tyX0_ok nmX0 rfl (by decide +kernel) rfl rfl ?_
      refine J_iconst (v := 1) hX dX7_image_54 (by decide) ?_
      exact J_ret hX hZ dX7_image_55 rfl rfl ⟨by first | contradiction | simp [x_image, h6, k0], by simp [x_image, h6, k0], rfl⟩
    · have hk : k = nI 1 := jk01 h6 k0
      refine J_aload_n hX 0 dX7_image_12 rfl ?_
      refine J_getr hX 0 6 dX7_image_13 jc_0 rfl rfl (by decide) inlX7 wm_2_13 ?_
      refine J_iload_n hX 1 dX7_image_16 rfl ?_
      refine J_aald (ty := .object RX0) hX 40 1 dX7_image_17 jc_40 rfl rfl hk rfl (by decide) ?_
      refine J_getr hX 59 0 dX7_image_18 jc_59 rfl rfl (by decide) inlX0 wm_31_19 ?_
      refine J_aload_n hX 0 dX7_image_21 rfl ?_
      refine J_getr hX 0 0 dX7_image_22 jc_0 rfl rfl (by decide) inlX7 wm_1_15 ?_
      refine J_callV hX 60 [.ref (a 1)] [] dX7_image_25 (c_X2_copyFrom l D a g M L 60 jRl_60 1 jRl_1) lk_X7_140 jc_60 rfl rfl rfl (Nat.le_of_ble_eq_true rfl) (Nat.le_of_ble_eq_true rfl) (Nat.le_of_ble_eq_true rfl) (J_eq (st := []) rfl ?_)
      refine J_aload_n hX 0 dX7_image_28 rfl ?_
      refine J_getr hX 0 6 dX7_image_29 jc_0 rfl rfl (by decide) inlX7 wm_2_13 ?_
      refine J_iload_n hX 1 dX7_image_32 rfl ?_
      refine J_aald (ty := .object RX0) hX 40 1 dX7_image_33 jc_40 rfl rfl hk rfl (by decide) ?_
      refine J_getr hX 59 1 dX7_image_34 jc_59 rfl rfl (by decide) inlX0 wm_31_20 ?_
      refine J_aload_n hX 0 dX7_image_37 rfl ?_
      refine J_getr hX 0 1 dX7_image_38 jc_0 rfl rfl (by decide) inlX7 wm_1_19 ?_
      refine J_callV hX 72 [.ref (a 13)] [] dX7_image_41 (c_X4_copyFrom l D a g (x_copy M 1 60) L 72 jSg_72 13 jSg_13) lk_X7_220 jc_72 rfl rfl rfl (Nat.le_of_ble_eq_true rfl) (Nat.le_of_ble_eq_true rfl) (Nat.le_of_ble_eq_true rfl) (J_eq (st := []) rfl ?_)
      refine J_aload_n hX 0 dX7_image_44 rfl ?_
      refine J_getr hX 0 6 dX7_image_45 jc_0 rfl rfl (by decide) inlX7 wm_2_13 ?_
      refine J_iload_n hX 1 dX7_image_48 rfl ?_
      refine J_aald (ty := .object RX0) hX 40 1 dX7_image_49 jc_40 rfl rfl hk rfl (by decide) ?_
      refine J_iconst (v := 1) hX dX7_image_50 (by decide) ?_
      refine J_puti (ty := .boolean) hX 59 2 dX7_image_51 jc_59 rfl rfl (by decide) inlX0 wm_31_21 tyX0 tyX0_ok nmX0 rfl (by decide +kernel) rfl rfl ?_
      refine J_iconst (v := 1) hX dX7_image_54 (by decide) ?_
      exact J_ret hX hZ dX7_image_55 rfl rfl ⟨by first | contradiction | simp [x_image, h6, k0], by simp [x_image, h6, k0], rfl⟩
  · skip
    refine J_bipush (v := (-2)) hX dX7_image_9 (by decide) ?_
    exact J_ret hX hZ dX7_image_11 rfl rfl ⟨by first | contradiction | simp [x_image, h6], by simp [x_image, h6], rfl⟩
set_option maxHeartbeats 4000000 in
set_option maxRecDepth 10000 in
theorem c_X7_restore (l : Launch) (D : va_G) (a : Nat → Nat) (g : Nat → ClassId) (M : jM) (L : jL) (k : Int32)  : jK l D a g yX7_restore cX7_restore 2 (some .int) 2 82 [.ref (a 0), .int k] M L (some (.int ((x_restore M k).1))) ((x_restore M k).2) L := by
  refine jMeth (by decide) (Nat.le_of_ble_eq_true rfl) ?_
  intro G hX hZ
  refine J_cg (loc' := [(0, .ref (a 0)), (1, .int k)]) rfl rfl rfl rfl ?_
  refine J_iload_n hX 1 dX7_restore_0 rfl ?_
  refine J_iconst (v := 0) hX dX7_restore_1 (by decide) ?_
  refine J_iconst (v := 1) hX dX7_restore_2 (by decide) ?_
  refine J_callS hX [.int k, .int 0, .int 1] [] dX7_restore_3 (c_X7_within l D a g M L k 0 1) lk_X7_62 rfl rfl (Nat.le_of_ble_eq_true rfl) (Nat.le_of_ble_eq_true rfl) (Nat.le_of_ble_eq_true rfl) (J_eq (st := [.int (jB (0 ≤ k.toInt ∧ k.toInt ≤ 1))]) rfl ?_)
  refine J_ifB_ne hX 12 dX7_restore_6 (by decide) (fun h6 => ?_) (fun h6 => ?_)
  · skip
    by_cases k0 : k = 0
    · have hk : k = nI 0 := k0
      refine J_aload_n hX 0 dX7_restore_12 rfl ?_
      refine J_getr hX 0 6 dX7_restore_13 jc_0 rfl rfl (by decide) inlX7 wm_2_13 ?_
      refine J_iload_n hX 1 dX7_restore_16 rfl ?_
      refine J_aald (ty := .object RX0) hX 40 0 dX7_restore_17 jc_40 rfl rfl hk rfl (by decide) ?_
      refine J_geti hX 41 2 dX7_restore_18 jc_41 rfl rfl (by decide) inlX0 wm_31_21 ?_
      refine J_if_ne hX 27 dX7_restore_21 (by decide) (fun h21 => ?_) (fun h21 => ?_)
      · skip
        refine J_aload_n hX 0 dX7_restore_27 rfl ?_
        refine J_getr hX 0 0 dX7_restore_28 jc_0 rfl rfl (by decide) inlX7 wm_1_15 ?_
        refine J_aload_n hX 0 dX7_restore_31 rfl ?_
        refine J_getr hX 0 6 dX7_restore_32 jc_0 rfl rfl (by decide) inlX7 wm_2_13 ?_
        refine J_iload_n hX 1 dX7_restore_35 rfl ?_
        refine J_aald (ty := .object RX0) hX 40 0 dX7_restore_36 jc_40 rfl rfl hk rfl (by decide) ?_
        refine J_getr hX 41 0 dX7_restore_37 jc_41 rfl rfl (by decide) inlX0 wm_31_19 ?_
        refine J_callV hX 1 [.ref (a 42)] [] dX7_restore_40 (c_X2_copyFrom l D a g M L 1 jRl_1 42 jRl_42) lk_X7_140 jc_1 rfl rfl rfl (Nat.le_of_ble_eq_true rfl) (Nat.le_of_ble_eq_true rfl) (Nat.le_of_ble_eq_true rfl) (J_eq (st := []) rfl ?_)
        refine J_aload_n hX 0 dX7_restore_43 rfl ?_
        refine J_getr hX 0 1 dX7_restore_44 jc_0 rfl rfl (by decide) inlX7 wm_1_19 ?_
        refine J_aload_n hX 0 dX7_restore_47 rfl ?_
        refine J_getr hX 0 6 dX7_restore_48 jc_0 rfl rfl (by decide) inlX7 wm_2_13 ?_
        refine J_iload_n hX 1 dX7_restore_51 rfl ?_
        refine J_aald (ty := .object RX0) hX 40 0 dX7_restore_52 jc_40 rfl rfl hk rfl (by decide) ?_
        refine J_getr hX 41 1 dX7_restore_53 jc_41 rfl rfl (by decide) inlX0 wm_31_20 ?_
        refine J_callV hX 13 [.ref (a 54)] [] dX7_restore_56 (c_X4_copyFrom l D a g (x_copy M 42 1) L 13 jSg_13 54 jSg_54) lk_X7_220 jc_13 rfl rfl rfl (Nat.le_of_ble_eq_true rfl) (Nat.le_of_ble_eq_true rfl) (Nat.le_of_ble_eq_true rfl) (J_eq (st := []) rfl ?_)
        refine J_iconst (v := 1) hX dX7_restore_59 (by decide) ?_
        exact J_ret hX hZ dX7_restore_60 rfl rfl ⟨by first | contradiction | simp [x_restore, h6, k0, h21], by simp [x_restore, h6, k0, h21], rfl⟩
      · skip
        refine J_bipush (v := (-3)) hX dX7_restore_24 (by decide) ?_
        exact J_ret hX hZ dX7_restore_26 rfl rfl ⟨by first | contradiction | simp [x_restore, h6, k0, h21], by simp [x_restore, h6, k0, h21], rfl⟩
    · have hk : k = nI 1 := jk01 h6 k0
      refine J_aload_n hX 0 dX7_restore_12 rfl ?_
      refine J_getr hX 0 6 dX7_restore_13 jc_0 rfl rfl (by decide) inlX7 wm_2_13 ?_
      refine J_iload_n hX 1 dX7_restore_16 rfl ?_
      refine J_aald (ty := .object RX0) hX 40 1 dX7_restore_17 jc_40 rfl rfl hk rfl (by decide) ?_
      refine J_geti hX 59 2 dX7_restore_18 jc_59 rfl rfl (by decide) inlX0 wm_31_21 ?_
      refine J_if_ne hX 27 dX7_restore_21 (by decide) (fun h21 => ?_) (fun h21 => ?_)
      · skip
        refine J_aload_n hX 0 dX7_restore_27 rfl ?_
        refine J_getr hX 0 0 dX7_restore_28 jc_0 rfl rfl (by decide) inlX7 wm_1_15 ?_
        refine J_aload_n hX 0 dX7_restore_31 rfl ?_
        refine J_getr hX 0 6 dX7_restore_32 jc_0 rfl rfl (by decide) inlX7 wm_2_13 ?_
        refine J_iload_n hX 1 dX7_restore_35 rfl ?_
        refine J_aald (ty := .object RX0) hX 40 1 dX7_restore_36 jc_40 rfl rfl hk rfl (by decide) ?_
        refine J_getr hX 59 0 dX7_restore_37 jc_59 rfl rfl (by decide) inlX0 wm_31_19 ?_
        refine J_callV hX 1 [.ref (a 60)] [] dX7_restore_40 (c_X2_copyFrom l D a g M L 1 jRl_1 60 jRl_60) lk_X7_140 jc_1 rfl rfl rfl (Nat.le_of_ble_eq_true rfl) (Nat.le_of_ble_eq_true rfl) (Nat.le_of_ble_eq_true rfl) (J_eq (st := []) rfl ?_)
        refine J_aload_n hX 0 dX7_restore_43 rfl ?_
        refine J_getr hX 0 1 dX7_restore_44 jc_0 rfl rfl (by decide) inlX7 wm_1_19 ?_
        refine J_aload_n hX 0 dX7_restore_47 rfl ?_
        refine J_getr hX 0 6 dX7_restore_48 jc_0 rfl rfl (by decide) inlX7 wm_2_13 ?_
        refine J_iload_n hX 1 dX7_restore_51 rfl ?_
        refine J_aald (ty := .object RX0) hX 40 1 dX7_restore_52 jc_40 rfl rfl hk rfl (by decide) ?_
        refine J_getr hX 59 1 dX7_restore_53 jc_59 rfl rfl (by decide) inlX0 wm_31_20 ?_
        refine J_callV hX 13 [.ref (a 72)] [] dX7_restore_56 (c_X4_copyFrom l D a g (x_copy M 60 1) L 13 jSg_13 72 jSg_72) lk_X7_220 jc_13 rfl rfl rfl (Nat.le_of_ble_eq_true rfl) (Nat.le_of_ble_eq_true rfl) (Nat.le_of_ble_eq_true rfl) (J_eq (st := []) rfl ?_)
        refine J_iconst (v := 1) hX dX7_restore_59 (by decide) ?_
        exact J_ret hX hZ dX7_restore_60 rfl rfl ⟨by first | contradiction | simp [x_restore, h6, k0, h21], by simp [x_restore, h6, k0, h21], rfl⟩
      · skip
        refine J_bipush (v := (-3)) hX dX7_restore_24 (by decide) ?_
        exact J_ret hX hZ dX7_restore_26 rfl rfl ⟨by first | contradiction | simp [x_restore, h6, k0, h21], by simp [x_restore, h6, k0, h21], rfl⟩
  · skip
    refine J_bipush (v := (-2)) hX dX7_restore_9 (by decide) ?_
    exact J_ret hX hZ dX7_restore_11 rfl rfl ⟨by first | contradiction | simp [x_restore, h6], by simp [x_restore, h6], rfl⟩
def x_tAll (M : jM) (k : Int32) : Int32 := if k = 0 then M 18 1 else if k = 1 then M 1 5 else if k = 2 then M 1 6 else if k = 3 then M 1 7 else if k = 4 then M 1 8 else if k = 5 then M 13 4 else if k = 6 then x_notes M 1 else if k = 7 then x_land M 1 else if k = 8 then x_rate M 1 else -2
def x_tOne (M : jM) (o k : Int32) : Int32 := if (0 ≤ o.toInt ∧ o.toInt ≤ 5) then (if 2 < k then -2 else x_ofOne M 1 o.toNatClampNeg k) else -2
def x_tLot (M : jM) (o k : Int32) : Int32 := if (0 ≤ o.toInt ∧ o.toInt ≤ 7) then (if k ≤ 1 then (if k = 0 then M 5 o.toNatClampNeg else if M 6 o.toNatClampNeg = -1 then -6 else M 6 o.toNatClampNeg) else -2) else -2
def x_tDebt (M : jM) (o r : Int32) : Int32 := if (0 ≤ o.toInt ∧ o.toInt ≤ 5) then (if (0 ≤ r.toInt ∧ r.toInt ≤ 5) then M (1 + 6 + o.toNatClampNeg) r.toNatClampNeg else -2) else -2
def x_told (M : jM) (k : Int32) : Int32 := if 0 ≤ k then (if 10 ≤ k then (let d := k - k / 10 * 10
  if 100 ≤ k then (if 200 ≤ k then x_tDebt M (k / 10 - 20) d else x_tLot M (k / 10 - 10) d) else x_tOne M (k / 10 - 1) d) else x_tAll M k) else -2
set_option maxHeartbeats 4000000 in
set_option maxRecDepth 10000 in
theorem c_X7_toldOfAll (l : Launch) (D : va_G) (a : Nat → Nat) (g : Nat → ClassId) (M : jM) (L : jL) (k : Int32)  : jK l D a g yX7_toldOfAll cX7_toldOfAll 2 (some .int) 3 71 [.ref (a 0), .int k] M L (some (.int (x_tAll M k))) M L := by
  refine jMeth (by decide) (Nat.le_of_ble_eq_true rfl) ?_
  intro G hX hZ
  refine J_cg (loc' := [(0, .ref (a 0)), (1, .int k)]) rfl rfl rfl rfl ?_
  refine J_iload_n hX 1 dX7_toldOfAll_0 rfl ?_
  by_cases s1_0 : k = 0
  · refine J_tableIn hX 52 dX7_toldOfAll_1 (by rw [s1_0]; decide) (by rw [s1_0]; decide) (by rw [s1_0]; rfl) (by decide) ?_
    refine J_aload_n hX 0 dX7_toldOfAll_52 rfl ?_
    refine J_getr hX 0 2 dX7_toldOfAll_53 jc_0 rfl rfl (by decide) inlX7 wm_1_23 ?_
    refine J_geti hX 18 1 dX7_toldOfAll_56 jc_18 rfl rfl (by decide) inlX1 wm_8_10 ?_
    exact J_ret hX hZ dX7_toldOfAll_59 rfl rfl ⟨by simp [x_tAll, s1_0], rfl, rfl⟩
  by_cases s1_1 : k = 1
  · refine J_tableIn hX 60 dX7_toldOfAll_1 (by rw [s1_1]; decide) (by rw [s1_1]; decide) (by rw [s1_1]; rfl) (by decide) ?_
    refine J_aload_n hX 0 dX7_toldOfAll_60 rfl ?_
    refine J_getr hX 0 0 dX7_toldOfAll_61 jc_0 rfl rfl (by decide) inlX7 wm_1_15 ?_
    refine J_geti hX 1 5 dX7_toldOfAll_64 jc_1 rfl rfl (by decide) inlX2 wm_7_21 ?_
    exact J_ret hX hZ dX7_toldOfAll_67 rfl rfl ⟨by simp [x_tAll, s1_0, s1_1], rfl, rfl⟩
  by_cases s1_2 : k = 2
  · refine J_tableIn hX 68 dX7_toldOfAll_1 (by rw [s1_2]; decide) (by rw [s1_2]; decide) (by rw [s1_2]; rfl) (by decide) ?_
    refine J_aload_n hX 0 dX7_toldOfAll_68 rfl ?_
    refine J_getr hX 0 0 dX7_toldOfAll_69 jc_0 rfl rfl (by decide) inlX7 wm_1_15 ?_
    refine J_geti hX 1 6 dX7_toldOfAll_72 jc_1 rfl rfl (by decide) inlX2 wm_7_22 ?_
    exact J_ret hX hZ dX7_toldOfAll_75 rfl rfl ⟨by simp [x_tAll, s1_0, s1_1, s1_2], rfl, rfl⟩
  by_cases s1_3 : k = 3
  · refine J_tableIn hX 76 dX7_toldOfAll_1 (by rw [s1_3]; decide) (by rw [s1_3]; decide) (by rw [s1_3]; rfl) (by decide) ?_
    refine J_aload_n hX 0 dX7_toldOfAll_76 rfl ?_
    refine J_getr hX 0 0 dX7_toldOfAll_77 jc_0 rfl rfl (by decide) inlX7 wm_1_15 ?_
    refine J_geti hX 1 7 dX7_toldOfAll_80 jc_1 rfl rfl (by decide) inlX2 wm_21_1 ?_
    exact J_ret hX hZ dX7_toldOfAll_83 rfl rfl ⟨by simp [x_tAll, s1_0, s1_1, s1_2, s1_3], rfl, rfl⟩
  by_cases s1_4 : k = 4
  · refine J_tableIn hX 84 dX7_toldOfAll_1 (by rw [s1_4]; decide) (by rw [s1_4]; decide) (by rw [s1_4]; rfl) (by decide) ?_
    refine J_aload_n hX 0 dX7_toldOfAll_84 rfl ?_
    refine J_getr hX 0 0 dX7_toldOfAll_85 jc_0 rfl rfl (by decide) inlX7 wm_1_15 ?_
    refine J_geti hX 1 8 dX7_toldOfAll_88 jc_1 rfl rfl (by decide) inlX2 wm_21_2 ?_
    exact J_ret hX hZ dX7_toldOfAll_91 rfl rfl ⟨by simp [x_tAll, s1_0, s1_1, s1_2, s1_3, s1_4], rfl, rfl⟩
  by_cases s1_5 : k = 5
  · refine J_tableIn hX 92 dX7_toldOfAll_1 (by rw [s1_5]; decide) (by rw [s1_5]; decide) (by rw [s1_5]; rfl) (by decide) ?_
    refine J_aload_n hX 0 dX7_toldOfAll_92 rfl ?_
    refine J_getr hX 0 1 dX7_toldOfAll_93 jc_0 rfl rfl (by decide) inlX7 wm_1_19 ?_
    refine J_geti hX 13 4 dX7_toldOfAll_96 jc_13 rfl rfl (by decide) inlX4 wm_27_20 ?_
    exact J_ret hX hZ dX7_toldOfAll_99 rfl rfl ⟨by simp [x_tAll, s1_0, s1_1, s1_2, s1_3, s1_4, s1_5], rfl, rfl⟩
  by_cases s1_6 : k = 6
  · refine J_tableIn hX 100 dX7_toldOfAll_1 (by rw [s1_6]; decide) (by rw [s1_6]; decide) (by rw [s1_6]; rfl) (by decide) ?_
    refine J_aload_n hX 0 dX7_toldOfAll_100 rfl ?_
    refine J_getr hX 0 0 dX7_toldOfAll_101 jc_0 rfl rfl (by decide) inlX7 wm_1_15 ?_
    refine J_callV hX 1 [] [] dX7_toldOfAll_104 (c_X2_notes l D a g M L 1 jRl_1) lk_X7_122 jc_1 rfl rfl rfl (Nat.le_of_ble_eq_true rfl) (Nat.le_of_ble_eq_true rfl) (Nat.le_of_ble_eq_true rfl) (J_eq (st := [.int (x_notes M 1)]) rfl ?_)
    exact J_ret hX hZ dX7_toldOfAll_107 rfl rfl ⟨by simp [x_tAll, s1_0, s1_1, s1_2, s1_3, s1_4, s1_5, s1_6], rfl, rfl⟩
  by_cases s1_7 : k = 7
  · refine J_tableIn hX 108 dX7_toldOfAll_1 (by rw [s1_7]; decide) (by rw [s1_7]; decide) (by rw [s1_7]; rfl) (by decide) ?_
    refine J_aload_n hX 0 dX7_toldOfAll_108 rfl ?_
    refine J_getr hX 0 0 dX7_toldOfAll_109 jc_0 rfl rfl (by decide) inlX7 wm_1_15 ?_
    refine J_callV hX 1 [] [] dX7_toldOfAll_112 (c_X2_land l D a g M L 1 jRl_1) lk_X7_125 jc_1 rfl rfl rfl (Nat.le_of_ble_eq_true rfl) (Nat.le_of_ble_eq_true rfl) (Nat.le_of_ble_eq_true rfl) (J_eq (st := [.int (x_land M 1)]) rfl ?_)
    exact J_ret hX hZ dX7_toldOfAll_115 rfl rfl ⟨by simp [x_tAll, s1_0, s1_1, s1_2, s1_3, s1_4, s1_5, s1_6, s1_7], rfl, rfl⟩
  by_cases s1_8 : k = 8
  · refine J_tableIn hX 116 dX7_toldOfAll_1 (by rw [s1_8]; decide) (by rw [s1_8]; decide) (by rw [s1_8]; rfl) (by decide) ?_
    refine J_aload_n hX 0 dX7_toldOfAll_116 rfl ?_
    refine J_getr hX 0 0 dX7_toldOfAll_117 jc_0 rfl rfl (by decide) inlX7 wm_1_15 ?_
    refine J_callV hX 1 [] [] dX7_toldOfAll_120 (c_X2_rate l D a g M L 1 jRl_1) lk_X7_128 jc_1 rfl rfl rfl (Nat.le_of_ble_eq_true rfl) (Nat.le_of_ble_eq_true rfl) (Nat.le_of_ble_eq_true rfl) (J_eq (st := [.int (x_rate M 1)]) rfl ?_)
    exact J_ret hX hZ dX7_toldOfAll_123 rfl rfl ⟨by simp [x_tAll, s1_0, s1_1, s1_2, s1_3, s1_4, s1_5, s1_6, s1_7, s1_8], rfl, rfl⟩
  have t1_0 := lv_neT s1_0 (show (0 : Int32).toInt = 0 from rfl)
  have t1_1 := lv_neT s1_1 (show (1 : Int32).toInt = 1 from rfl)
  have t1_2 := lv_neT s1_2 (show (2 : Int32).toInt = 2 from rfl)
  have t1_3 := lv_neT s1_3 (show (3 : Int32).toInt = 3 from rfl)
  have t1_4 := lv_neT s1_4 (show (4 : Int32).toInt = 4 from rfl)
  have t1_5 := lv_neT s1_5 (show (5 : Int32).toInt = 5 from rfl)
  have t1_6 := lv_neT s1_6 (show (6 : Int32).toInt = 6 from rfl)
  have t1_7 := lv_neT s1_7 (show (7 : Int32).toInt = 7 from rfl)
  have t1_8 := lv_neT s1_8 (show (8 : Int32).toInt = 8 from rfl)
  refine J_tableOut hX 124 dX7_toldOfAll_1 (by omega) (by decide) ?_
  refine J_bipush (v := (-2)) hX dX7_toldOfAll_124 (by decide) ?_
  exact J_ret hX hZ dX7_toldOfAll_126 rfl rfl ⟨by simp [x_tAll, s1_0, s1_1, s1_2, s1_3, s1_4, s1_5, s1_6, s1_7, s1_8], rfl, rfl⟩
set_option maxHeartbeats 4000000 in
set_option maxRecDepth 10000 in
theorem c_X7_toldOfOne (l : Launch) (D : va_G) (a : Nat → Nat) (g : Nat → ClassId) (M : jM) (L : jL) (o k : Int32)  : jK l D a g yX7_toldOfOne cX7_toldOfOne 3 (some .int) 2 45 [.ref (a 0), .int o, .int k] M L (some (.int (x_tOne M o k))) M L := by
  refine jMeth (by decide) (Nat.le_of_ble_eq_true rfl) ?_
  intro G hX hZ
  refine J_cg (loc' := [(0, .ref (a 0)), (1, .int o), (2, .int k)]) rfl rfl rfl rfl ?_
  refine J_iload_n hX 1 dX7_toldOfOne_0 rfl ?_
  refine J_callS hX [.int o] [] dX7_toldOfOne_1 (c_X7_isOne l D a g M L o) lk_X7_58 rfl rfl (Nat.le_of_ble_eq_true rfl) (Nat.le_of_ble_eq_true rfl) (Nat.le_of_ble_eq_true rfl) (J_eq (st := [.int (jB (0 ≤ o.toInt ∧ o.toInt ≤ 5))]) rfl ?_)
  refine J_ifB_eq hX 24 dX7_toldOfOne_4 (by decide) (fun h4 => ?_) (fun h4 => ?_)
  · skip
    refine J_bipush (v := (-2)) hX dX7_toldOfOne_24 (by decide) ?_
    exact J_ret hX hZ dX7_toldOfOne_26 rfl rfl ⟨by simp [x_tOne, h4], rfl, rfl⟩
  · skip
    have io := jix h4
    have lo := jixl h4
    refine J_iload_n hX 2 dX7_toldOfOne_7 rfl ?_
    refine J_iconst (v := 2) hX dX7_toldOfOne_8 (by decide) ?_
    refine J_icmp_gt hX 24 dX7_toldOfOne_9 (by decide) (fun h9 => ?_) (fun h9 => ?_)
    · skip
      refine J_bipush (v := (-2)) hX dX7_toldOfOne_24 (by decide) ?_
      exact J_ret hX hZ dX7_toldOfOne_26 rfl rfl ⟨by simp [x_tOne, h4, h9], rfl, rfl⟩
    · skip
      refine J_aload_n hX 0 dX7_toldOfOne_12 rfl ?_
      refine J_getr hX 0 0 dX7_toldOfOne_13 jc_0 rfl rfl (by decide) inlX7 wm_1_15 ?_
      refine J_iload_n hX 1 dX7_toldOfOne_16 rfl ?_
      refine J_topi (y := nI o.toNatClampNeg) io ?_
      refine J_iload_n hX 2 dX7_toldOfOne_17 rfl ?_
      refine J_callV hX 1 [.int (nI o.toNatClampNeg), .int k] [] dX7_toldOfOne_18 (c_X2_ofOne l D a g M L 1 jRl_1 o.toNatClampNeg (by omega) k) lk_X7_118 jc_1 rfl rfl rfl (Nat.le_of_ble_eq_true rfl) (Nat.le_of_ble_eq_true rfl) (Nat.le_of_ble_eq_true rfl) (J_eq (st := [.int (x_ofOne M 1 o.toNatClampNeg k)]) rfl ?_)
      refine J_goto hX 26 dX7_toldOfOne_21 (by decide) ?_
      exact J_ret hX hZ dX7_toldOfOne_26 rfl rfl ⟨by simp [x_tOne, h4, h9], rfl, rfl⟩
set_option maxHeartbeats 4000000 in
set_option maxRecDepth 10000 in
theorem c_X7_toldOfLot (l : Launch) (D : va_G) (a : Nat → Nat) (g : Nat → ClassId) (M : jM) (L : jL) (o k : Int32)  : jK l D a g yX7_toldOfLot cX7_toldOfLot 3 (some .int) 1 22 [.ref (a 0), .int o, .int k] M L (some (.int (x_tLot M o k))) M L := by
  refine jMeth (by decide) (Nat.le_of_ble_eq_true rfl) ?_
  intro G hX hZ
  refine J_cg (loc' := [(0, .ref (a 0)), (1, .int o), (2, .int k)]) rfl rfl rfl rfl ?_
  refine J_iload_n hX 1 dX7_toldOfLot_0 rfl ?_
  refine J_iconst (v := 0) hX dX7_toldOfLot_1 (by decide) ?_
  refine J_bipush (v := 7) hX dX7_toldOfLot_2 (by decide) ?_
  refine J_callS hX [.int o, .int 0, .int 7] [] dX7_toldOfLot_4 (c_X7_within l D a g M L o 0 7) lk_X7_62 rfl rfl (Nat.le_of_ble_eq_true rfl) (Nat.le_of_ble_eq_true rfl) (Nat.le_of_ble_eq_true rfl) (J_eq (st := [.int (jB (0 ≤ o.toInt ∧ o.toInt ≤ 7))]) rfl ?_)
  refine J_ifB_eq hX 15 dX7_toldOfLot_7 (by decide) (fun h7 => ?_) (fun h7 => ?_)
  · skip
    refine J_bipush (v := (-2)) hX dX7_toldOfLot_15 (by decide) ?_
    exact J_ret hX hZ dX7_toldOfLot_17 rfl rfl ⟨by simp [x_tLot, h7], rfl, rfl⟩
  · skip
    have io := jix h7
    have lo := jixl h7
    refine J_iload_n hX 2 dX7_toldOfLot_10 rfl ?_
    refine J_iconst (v := 1) hX dX7_toldOfLot_11 (by decide) ?_
    refine J_icmp_le hX 18 dX7_toldOfLot_12 (by decide) (fun h12 => ?_) (fun h12 => ?_)
    · skip
      refine J_iload_n hX 2 dX7_toldOfLot_18 rfl ?_
      refine J_if_ne hX 32 dX7_toldOfLot_19 (by decide) (fun h19 => ?_) (fun h19 => ?_)
      · skip
        refine J_aload_n hX 0 dX7_toldOfLot_32 rfl ?_
        refine J_getr hX 0 0 dX7_toldOfLot_33 jc_0 rfl rfl (by decide) inlX7 wm_1_15 ?_
        refine J_getr hX 1 4 dX7_toldOfLot_36 jc_1 rfl rfl (by decide) inlX2 wm_7_9 ?_
        refine J_iload_n hX 1 dX7_toldOfLot_39 rfl ?_
        refine J_iald hX 6 o.toNatClampNeg dX7_toldOfLot_40 jc_6 io (by omega) (by omega) ?_
        refine J_iconst (v := (-1)) hX dX7_toldOfLot_41 (by decide) ?_
        refine J_icmp_ne hX 50 dX7_toldOfLot_42 (by decide) (fun h42 => ?_) (fun h42 => ?_)
        · skip
          refine J_aload_n hX 0 dX7_toldOfLot_50 rfl ?_
          refine J_getr hX 0 0 dX7_toldOfLot_51 jc_0 rfl rfl (by decide) inlX7 wm_1_15 ?_
          refine J_getr hX 1 4 dX7_toldOfLot_54 jc_1 rfl rfl (by decide) inlX2 wm_7_9 ?_
          refine J_iload_n hX 1 dX7_toldOfLot_57 rfl ?_
          refine J_iald hX 6 o.toNatClampNeg dX7_toldOfLot_58 jc_6 io (by omega) (by omega) ?_
          exact J_ret hX hZ dX7_toldOfLot_59 rfl rfl ⟨by simp [x_tLot, h7, h12, h19, h42], rfl, rfl⟩
        · skip
          refine J_bipush (v := (-6)) hX dX7_toldOfLot_45 (by decide) ?_
          refine J_goto hX 59 dX7_toldOfLot_47 (by decide) ?_
          exact J_ret hX hZ dX7_toldOfLot_59 rfl rfl ⟨by simp [x_tLot, h7, h12, h19, h42], rfl, rfl⟩
      · skip
        refine J_aload_n hX 0 dX7_toldOfLot_22 rfl ?_
        refine J_getr hX 0 0 dX7_toldOfLot_23 jc_0 rfl rfl (by decide) inlX7 wm_1_15 ?_
        refine J_getr hX 1 3 dX7_toldOfLot_26 jc_1 rfl rfl (by decide) inlX2 wm_7_8 ?_
        refine J_iload_n hX 1 dX7_toldOfLot_29 rfl ?_
        refine J_iald hX 5 o.toNatClampNeg dX7_toldOfLot_30 jc_5 io (by omega) (by omega) ?_
        exact J_ret hX hZ dX7_toldOfLot_31 rfl rfl ⟨by simp [x_tLot, h7, h12, h19], rfl, rfl⟩
    · skip
      refine J_bipush (v := (-2)) hX dX7_toldOfLot_15 (by decide) ?_
      exact J_ret hX hZ dX7_toldOfLot_17 rfl rfl ⟨by simp [x_tLot, h7, h12], rfl, rfl⟩
set_option maxHeartbeats 4000000 in
set_option maxRecDepth 10000 in
theorem c_X7_toldOfDebt (l : Launch) (D : va_G) (a : Nat → Nat) (g : Nat → ClassId) (M : jM) (L : jL) (o r : Int32)  : jK l D a g yX7_toldOfDebt cX7_toldOfDebt 3 (some .int) 2 42 [.ref (a 0), .int o, .int r] M L (some (.int (x_tDebt M o r))) M L := by
  refine jMeth (by decide) (Nat.le_of_ble_eq_true rfl) ?_
  intro G hX hZ
  refine J_cg (loc' := [(0, .ref (a 0)), (1, .int o), (2, .int r)]) rfl rfl rfl rfl ?_
  refine J_iload_n hX 1 dX7_toldOfDebt_0 rfl ?_
  refine J_callS hX [.int o] [] dX7_toldOfDebt_1 (c_X7_isOne l D a g M L o) lk_X7_58 rfl rfl (Nat.le_of_ble_eq_true rfl) (Nat.le_of_ble_eq_true rfl) (Nat.le_of_ble_eq_true rfl) (J_eq (st := [.int (jB (0 ≤ o.toInt ∧ o.toInt ≤ 5))]) rfl ?_)
  refine J_ifB_eq hX 28 dX7_toldOfDebt_4 (by decide) (fun h4 => ?_) (fun h4 => ?_)
  · skip
    refine J_bipush (v := (-2)) hX dX7_toldOfDebt_28 (by decide) ?_
    exact J_ret hX hZ dX7_toldOfDebt_30 rfl rfl ⟨by simp [x_tDebt, h4], rfl, rfl⟩
  · skip
    have io := jix h4
    have lo := jixl h4
    refine J_iload_n hX 2 dX7_toldOfDebt_7 rfl ?_
    refine J_callS hX [.int r] [] dX7_toldOfDebt_8 (c_X7_isOne l D a g M L r) lk_X7_58 rfl rfl (Nat.le_of_ble_eq_true rfl) (Nat.le_of_ble_eq_true rfl) (Nat.le_of_ble_eq_true rfl) (J_eq (st := [.int (jB (0 ≤ r.toInt ∧ r.toInt ≤ 5))]) rfl ?_)
    refine J_ifB_eq hX 28 dX7_toldOfDebt_11 (by decide) (fun h11 => ?_) (fun h11 => ?_)
    · skip
      refine J_bipush (v := (-2)) hX dX7_toldOfDebt_28 (by decide) ?_
      exact J_ret hX hZ dX7_toldOfDebt_30 rfl rfl ⟨by simp [x_tDebt, h4, h11], rfl, rfl⟩
    · skip
      have ir := jix h11
      have lr := jixl h11
      refine J_aload_n hX 0 dX7_toldOfDebt_14 rfl ?_
      refine J_getr hX 0 0 dX7_toldOfDebt_15 jc_0 rfl rfl (by decide) inlX7 wm_1_15 ?_
      refine J_getr hX 1 2 dX7_toldOfDebt_18 jc_1 rfl rfl (by decide) inlX2 wm_6_22 ?_
      refine J_iload_n hX 1 dX7_toldOfDebt_21 rfl ?_
      refine J_aald (ty := .array .int) hX 4 o.toNatClampNeg dX7_toldOfDebt_22 jc_4 rfl rfl io (jRl_1.at (by omega)) (Nat.le_of_ble_eq_true rfl) ?_
      refine J_iload_n hX 2 dX7_toldOfDebt_23 rfl ?_
      refine J_iald hX (1 + 6 + o.toNatClampNeg) r.toNatClampNeg dX7_toldOfDebt_24 (jRl_1.row (by omega)) ir (by omega) (by omega) ?_
      refine J_goto hX 30 dX7_toldOfDebt_25 (by decide) ?_
      exact J_ret hX hZ dX7_toldOfDebt_30 rfl rfl ⟨by simp [x_tDebt, h4, h11], rfl, rfl⟩
set_option maxHeartbeats 4000000 in
set_option maxRecDepth 10000 in
theorem c_X7_told (l : Launch) (D : va_G) (a : Nat → Nat) (g : Nat → ClassId) (M : jM) (L : jL) (k : Int32)  : jK l D a g yX7_told cX7_told 3 (some .int) 4 92 [.ref (a 0), .int k] M L (some (.int (x_told M k))) M L := by
  refine jMeth (by decide) (Nat.le_of_ble_eq_true rfl) ?_
  intro G hX hZ
  refine J_cg (loc' := [(0, .ref (a 0)), (1, .int k)]) rfl rfl rfl rfl ?_
  refine J_iload_n hX 1 dX7_told_0 rfl ?_
  refine J_if_ge hX 7 dX7_told_1 (by decide) (fun h1 => ?_) (fun h1 => ?_)
  · skip
    refine J_iload_n hX 1 dX7_told_7 rfl ?_
    refine J_bipush (v := 10) hX dX7_told_8 (by decide) ?_
    refine J_icmp_ge hX 19 dX7_told_10 (by decide) (fun h10 => ?_) (fun h10 => ?_)
    · skip
      refine J_iload_n hX 1 dX7_told_19 rfl ?_
      refine J_bipush (v := 10) hX dX7_told_20 (by decide) ?_
      refine J_irem hX dX7_told_22 (by decide) ?_
      refine J_istore_n (loc' := [(2, .int (k - k / 10 * 10)), (0, .ref (a 0)), (1, .int k)]) hX dX7_told_23 (by decide) rfl ?_
      refine J_iload_n hX 2 dX7_told_24 rfl ?_
      refine J_bipush (v := 100) hX dX7_told_25 (by decide) ?_
      refine J_icmp_ge hX 42 dX7_told_27 (by decide) (fun h27 => ?_) (fun h27 => ?_)
      · skip
        refine J_iload_n hX 2 dX7_told_42 rfl ?_
        refine J_sipush (v := 200) hX dX7_told_43 (by decide) ?_
        refine J_icmp_ge hX 62 dX7_told_46 (by decide) (fun h46 => ?_) (fun h46 => ?_)
        · skip
          refine J_aload_n hX 1 dX7_told_62 rfl ?_
          refine J_iload_n hX 2 dX7_told_63 rfl ?_
          refine J_bipush (v := 10) hX dX7_told_64 (by decide) ?_
          refine J_idiv hX dX7_told_66 (by decide) ?_
          refine J_bipush (v := 20) hX dX7_told_67 (by decide) ?_
          refine J_isub hX dX7_told_69 ?_
          refine J_iload_n hX 0 dX7_told_70 rfl ?_
          refine J_callV hX 0 [.int ((k / 10) - 20), .int (k - k / 10 * 10)] [] dX7_told_71 (c_X7_toldOfDebt l D a g M L ((k / 10) - 20) (k - k / 10 * 10)) lk_X7_236 jc_0 rfl rfl rfl (Nat.le_of_ble_eq_true rfl) (Nat.le_of_ble_eq_true rfl) (Nat.le_of_ble_eq_true rfl) (J_eq (st := [.int (x_tDebt M ((k / 10) - 20) (k - k / 10 * 10))]) rfl ?_)
          exact J_ret hX hZ dX7_told_74 rfl rfl ⟨by simp [x_told, h1, h10, h27, h46], rfl, rfl⟩
        · skip
          refine J_aload_n hX 1 dX7_told_49 rfl ?_
          refine J_iload_n hX 2 dX7_told_50 rfl ?_
          refine J_bipush (v := 10) hX dX7_told_51 (by decide) ?_
          refine J_idiv hX dX7_told_53 (by decide) ?_
          refine J_bipush (v := 10) hX dX7_told_54 (by decide) ?_
          refine J_isub hX dX7_told_56 ?_
          refine J_iload_n hX 0 dX7_told_57 rfl ?_
          refine J_callV hX 0 [.int ((k / 10) - 10), .int (k - k / 10 * 10)] [] dX7_told_58 (c_X7_toldOfLot l D a g M L ((k / 10) - 10) (k - k / 10 * 10)) lk_X7_233 jc_0 rfl rfl rfl (Nat.le_of_ble_eq_true rfl) (Nat.le_of_ble_eq_true rfl) (Nat.le_of_ble_eq_true rfl) (J_eq (st := [.int (x_tLot M ((k / 10) - 10) (k - k / 10 * 10))]) rfl ?_)
          exact J_ret hX hZ dX7_told_61 rfl rfl ⟨by simp [x_told, h1, h10, h27, h46], rfl, rfl⟩
      · skip
        refine J_aload_n hX 1 dX7_told_30 rfl ?_
        refine J_iload_n hX 2 dX7_told_31 rfl ?_
        refine J_bipush (v := 10) hX dX7_told_32 (by decide) ?_
        refine J_idiv hX dX7_told_34 (by decide) ?_
        refine J_iconst (v := 1) hX dX7_told_35 (by decide) ?_
        refine J_isub hX dX7_told_36 ?_
        refine J_iload_n hX 0 dX7_told_37 rfl ?_
        refine J_callV hX 0 [.int ((k / 10) - 1), .int (k - k / 10 * 10)] [] dX7_told_38 (c_X7_toldOfOne l D a g M L ((k / 10) - 1) (k - k / 10 * 10)) lk_X7_230 jc_0 rfl rfl rfl (Nat.le_of_ble_eq_true rfl) (Nat.le_of_ble_eq_true rfl) (Nat.le_of_ble_eq_true rfl) (J_eq (st := [.int (x_tOne M ((k / 10) - 1) (k - k / 10 * 10))]) rfl ?_)
        exact J_ret hX hZ dX7_told_41 rfl rfl ⟨by simp [x_told, h1, h10, h27], rfl, rfl⟩
    · skip
      refine J_aload_n hX 0 dX7_told_13 rfl ?_
      refine J_iload_n hX 1 dX7_told_14 rfl ?_
      refine J_callV hX 0 [.int k] [] dX7_told_15 (c_X7_toldOfAll l D a g M L k) lk_X7_227 jc_0 rfl rfl rfl (Nat.le_of_ble_eq_true rfl) (Nat.le_of_ble_eq_true rfl) (Nat.le_of_ble_eq_true rfl) (J_eq (st := [.int (x_tAll M k)]) rfl ?_)
      exact J_ret hX hZ dX7_told_18 rfl rfl ⟨by simp [x_told, h1, h10], rfl, rfl⟩
  · skip
    refine J_bipush (v := (-2)) hX dX7_told_4 (by decide) ?_
    exact J_ret hX hZ dX7_told_6 rfl rfl ⟨by simp [x_told, h1], rfl, rfl⟩
