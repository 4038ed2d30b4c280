def m_notes (M : jM) : Int32 := jSum (M 78) (M 77 5) 6
def m_landF (M : jM) : Nat → Int32 := fun i => if 0 ≤ M 82 i then 0 else M 81 i
def m_land (M : jM) : Int32 := jSum (m_landF M) 0 8
def m_rateL (ld : Int32) (nt : Int64) : Int64 := if nt = 0 then 100 else 100 * ld.toInt64 / nt
def m_rateOf (ld : Int32) (nt : Int64) : Int32 := if m_rateL ld nt ≤ 100 then (m_rateL ld nt).toInt32 else 100
def m_rate (M : jM) : Int32 := m_rateOf (m_land M) (m_notes M).toInt64
def m_worth (M : jM) (v : Int32) : Int32 := v * m_rate M / 100
set_option maxHeartbeats 4000000 in
set_option maxRecDepth 10000 in
theorem c_X8_notes (l : Launch) (D : va_G) (a : Nat → Nat) (g : Nat → ClassId) (M : jM) (L : jL)   : jK l D a g yX8_notes cX8_notes 3 (some .int) 0 0 [.ref (a 77)] M L (some (.int (m_notes M))) M L := by
  refine jMeth (by decide) (Nat.le_of_ble_eq_true rfl) ?_
  intro G hX hZ
  refine J_cg (loc' := [(0, .ref (a 77))]) rfl rfl rfl rfl ?_
  refine J_aload_n hX 0 dX8_notes_0 rfl ?_
  refine J_geti hX 77 5 dX8_notes_1 jc_77 rfl rfl (by decide) inlX8 wm_8_4 ?_
  refine J_istore_n (loc' := [(1, .int (M 77 5)), (0, .ref (a 77))]) hX dX8_notes_4 (by decide) rfl ?_
  refine J_iconst (v := 0) hX dX8_notes_5 (by decide) ?_
  refine J_istore_n (loc' := [(2, .int 0), (1, .int (M 77 5)), (0, .ref (a 77))]) hX dX8_notes_6 (by decide) rfl ?_
  have key7 : ∀ (fu7 : Nat) (i : Nat), 6 - i < fu7 → (i ≤ 6) → J l D a g G 3 M L 7 [(0, .ref (a 77)), (1, .int (jSum (M 78) (M 77 5) i)), (2, .int (nI i))] [] := by
    intro fu7
    induction fu7 with
    | zero => intro i hmu; exact absurd hmu (Nat.not_lt_zero _)
    | succ fu7 ih7 =>
      intro i hmu7 hi
      refine J_iload_n hX 2 dX8_notes_7 rfl ?_
      refine J_bipush (v := 6) hX dX8_notes_8 (by decide) ?_
      refine J_cmpN_ge hX 28 i 6 dX8_notes_10 (by decide) rfl rfl (by omega) (by omega) (fun h10 => ?_) (fun h10 => ?_)
      · skip
        refine J_iload_n hX 1 dX8_notes_28 rfl ?_
        exact J_ret hX hZ dX8_notes_29 rfl rfl ⟨by rw [show i = 6 by omega]; rfl, rfl, rfl⟩
      · skip
        refine J_iload_n hX 1 dX8_notes_13 rfl ?_
        refine J_aload_n hX 0 dX8_notes_14 rfl ?_
        refine J_getr hX 77 0 dX8_notes_15 jc_77 rfl rfl (by decide) inlX8 wm_4_19 ?_
        refine J_iload_n hX 2 dX8_notes_18 rfl ?_
        refine J_iald hX 78 i dX8_notes_19 jc_78 rfl (by omega) (by omega) ?_
        refine J_iadd hX dX8_notes_20 ?_
        refine J_istore_n (loc' := [(1, .int ((jSum (M 78) (M 77 5) i) + (M 78 i))), (0, .ref (a 77)), (2, .int (nI i))]) hX dX8_notes_21 (by decide) rfl ?_
        refine J_iinc (v := nI (i + 1)) (loc' := [(2, .int (nI (i + 1))), (1, .int ((jSum (M 78) (M 77 5) i) + (M 78 i))), (0, .ref (a 77))]) hX 2 dX8_notes_22 rfl (jinc i) (by decide) rfl ?_
        refine J_goto hX 7 dX8_notes_25 (by decide) ?_
        refine J_sub (loc' := [(0, .ref (a 77)), (1, .int ((jSum (M 78) (M 77 5) i) + (M 78 i))), (2, .int (nI (i + 1)))]) [2, 1, 0] rfl ?_
        refine J_seti (y := jSum (M 78) (M 77 5) (i + 1)) (loc' := [(0, .ref (a 77)), (1, .int (jSum (M 78) (M 77 5) (i + 1))), (2, .int (nI (i + 1)))]) 1 rfl rfl rfl ?_
        exact ih7  (i + 1) (by omega) (by omega)
  refine J_sub (loc' := [(0, .ref (a 77)), (1, .int (M 77 5)), (2, .int 0)]) [2, 1, 0] rfl ?_
  refine J_seti (y := jSum (M 78) (M 77 5) 0) (loc' := [(0, .ref (a 77)), (1, .int (jSum (M 78) (M 77 5) 0)), (2, .int 0)]) 1 rfl rfl rfl ?_
  refine J_seti (y := nI 0) (loc' := [(0, .ref (a 77)), (1, .int (jSum (M 78) (M 77 5) 0)), (2, .int (nI 0))]) 2 rfl rfl rfl ?_
  exact key7 _ 0 (Nat.lt_succ_self _) (by omega)
set_option maxHeartbeats 4000000 in
set_option maxRecDepth 10000 in
theorem c_X8_land (l : Launch) (D : va_G) (a : Nat → Nat) (g : Nat → ClassId) (M : jM) (L : jL)   : jK l D a g yX8_land cX8_land 3 (some .int) 0 0 [.ref (a 77)] M L (some (.int (m_land M))) M L := by
  refine jMeth (by decide) (Nat.le_of_ble_eq_true rfl) ?_
  intro G hX hZ
  refine J_cg (loc' := [(0, .ref (a 77))]) rfl rfl rfl rfl ?_
  refine J_iconst (v := 0) hX dX8_land_0 (by decide) ?_
  refine J_istore_n (loc' := [(1, .int 0), (0, .ref (a 77))]) hX dX8_land_1 (by decide) rfl ?_
  refine J_iconst (v := 0) hX dX8_land_2 (by decide) ?_
  refine J_istore_n (loc' := [(2, .int 0), (1, .int 0), (0, .ref (a 77))]) hX dX8_land_3 (by decide) rfl ?_
  have key4 : ∀ (fu4 : Nat) (i : Nat), 8 - i < fu4 → (i ≤ 8) → J l D a g G 3 M L 4 [(0, .ref (a 77)), (1, .int (jSum (m_landF M) 0 i)), (2, .int (nI i))] [] := by
    intro fu4
    induction fu4 with
    | zero => intro i hmu; exact absurd hmu (Nat.not_lt_zero _)
    | succ fu4 ih4 =>
      intro i hmu4 hi
      refine J_iload_n hX 2 dX8_land_4 rfl ?_
      refine J_bipush (v := 8) hX dX8_land_5 (by decide) ?_
      refine J_cmpN_ge hX 38 i 8 dX8_land_7 (by decide) rfl rfl (by omega) (by omega) (fun h7 => ?_) (fun h7 => ?_)
      · skip
        refine J_iload_n hX 1 dX8_land_38 rfl ?_
        exact J_ret hX hZ dX8_land_39 rfl rfl ⟨by rw [show i = 8 by omega]; rfl, rfl, rfl⟩
      · skip
        refine J_iload_n hX 1 dX8_land_10 rfl ?_
        refine J_aload_n hX 0 dX8_land_11 rfl ?_
        refine J_getr hX 77 4 dX8_land_12 jc_77 rfl rfl (by decide) inlX8 wm_4_23 ?_
        refine J_iload_n hX 2 dX8_land_15 rfl ?_
        refine J_iald hX 82 i dX8_land_16 jc_82 rfl (by omega) (by omega) ?_
        refine J_if_ge hX 29 dX8_land_17 (by decide) (fun h17 => ?_) (fun h17 => ?_)
        · skip
          refine J_iconst (v := 0) hX dX8_land_29 (by decide) ?_
          refine J_topi (y := m_landF M i) (by simp [m_landF, h17]) ?_
          refine J_iadd hX dX8_land_30 ?_
          refine J_istore_n (loc' := [(1, .int ((jSum (m_landF M) 0 i) + (m_landF M i))), (0, .ref (a 77)), (2, .int (nI i))]) hX dX8_land_31 (by decide) rfl ?_
          refine J_iinc (v := nI (i + 1)) (loc' := [(2, .int (nI (i + 1))), (1, .int ((jSum (m_landF M) 0 i) + (m_landF M i))), (0, .ref (a 77))]) hX 2 dX8_land_32 rfl (jinc i) (by decide) rfl ?_
          refine J_goto hX 4 dX8_land_35 (by decide) ?_
          refine J_sub (loc' := [(0, .ref (a 77)), (1, .int ((jSum (m_landF M) 0 i) + (m_landF M i))), (2, .int (nI (i + 1)))]) [2, 1, 0] rfl ?_
          refine J_seti (y := jSum (m_landF M) 0 (i + 1)) (loc' := [(0, .ref (a 77)), (1, .int (jSum (m_landF M) 0 (i + 1))), (2, .int (nI (i + 1)))]) 1 rfl rfl rfl ?_
          exact ih4  (i + 1) (by omega) (by omega)
        · skip
          refine J_aload_n hX 0 dX8_land_20 rfl ?_
          refine J_getr hX 77 3 dX8_land_21 jc_77 rfl rfl (by decide) inlX8 wm_4_22 ?_
          refine J_iload_n hX 2 dX8_land_24 rfl ?_
          refine J_iald hX 81 i dX8_land_25 jc_81 rfl (by omega) (by omega) ?_
          refine J_goto hX 30 dX8_land_26 (by decide) ?_
          refine J_topi (y := m_landF M i) (by simp [m_landF, h17]) ?_
          refine J_iadd hX dX8_land_30 ?_
          refine J_istore_n (loc' := [(1, .int ((jSum (m_landF M) 0 i) + (m_landF M i))), (0, .ref (a 77)), (2, .int (nI i))]) hX dX8_land_31 (by decide) rfl ?_
          refine J_iinc (v := nI (i + 1)) (loc' := [(2, .int (nI (i + 1))), (1, .int ((jSum (m_landF M) 0 i) + (m_landF M i))), (0, .ref (a 77))]) hX 2 dX8_land_32 rfl (jinc i) (by decide) rfl ?_
          refine J_goto hX 4 dX8_land_35 (by decide) ?_
          refine J_sub (loc' := [(0, .ref (a 77)), (1, .int ((jSum (m_landF M) 0 i) + (m_landF M i))), (2, .int (nI (i + 1)))]) [2, 1, 0] rfl ?_
          refine J_seti (y := jSum (m_landF M) 0 (i + 1)) (loc' := [(0, .ref (a 77)), (1, .int (jSum (m_landF M) 0 (i + 1))), (2, .int (nI (i + 1)))]) 1 rfl rfl rfl ?_
          exact ih4  (i + 1) (by omega) (by omega)
  refine J_sub (loc' := [(0, .ref (a 77)), (1, .int 0), (2, .int 0)]) [2, 1, 0] rfl ?_
  refine J_seti (y := jSum (m_landF M) 0 0) (loc' := [(0, .ref (a 77)), (1, .int (jSum (m_landF M) 0 0)), (2, .int 0)]) 1 rfl rfl rfl ?_
  refine J_seti (y := nI 0) (loc' := [(0, .ref (a 77)), (1, .int (jSum (m_landF M) 0 0)), (2, .int (nI 0))]) 2 rfl rfl rfl ?_
  exact key4 _ 0 (Nat.lt_succ_self _) (by omega)
set_option maxHeartbeats 4000000 in
set_option maxRecDepth 10000 in
theorem c_X8_rateOf (l : Launch) (D : va_G) (a : Nat → Nat) (g : Nat → ClassId) (M : jM) (L : jL) (x : Int32) (y : Int64)  : jK l D a g yX8_rateOf cX8_rateOf 5 (some .int) 0 0 [.int x, .long y] M L (some (.int (m_rateOf x y))) M L := by
  refine jMeth (by decide) (Nat.le_of_ble_eq_true rfl) ?_
  intro G hX hZ
  refine J_cg (loc' := [(0, .int x), (1, .long y)]) rfl rfl rfl rfl ?_
  refine J_lload_n hX 1 dX8_rateOf_0 rfl ?_
  refine J_lconst (v := 0) hX dX8_rateOf_1 (by decide) ?_
  refine J_lcmp hX dX8_rateOf_2 ?_
  refine J_ifK_ne hX 12 dX8_rateOf_3 (by decide) (fun h3 => ?_) (fun h3 => ?_)
  · skip
    refine J_ldc2 hX dX8_rateOf_12 wm_18_6 ?_
    refine J_iload_n hX 0 dX8_rateOf_15 rfl ?_
    refine J_i2l hX dX8_rateOf_16 ?_
    refine J_lmul hX dX8_rateOf_17 ?_
    refine J_lload_n hX 1 dX8_rateOf_18 rfl ?_
    refine J_ldiv hX dX8_rateOf_19 h3 ?_
    refine J_topl (y := m_rateL x y) (by rw [m_rateL]; (first | rw [if_neg h3] | rw [if_pos h3] | rw [if_pos (Classical.not_not.mp h3)])) ?_
    refine J_lstore_n (loc' := [(3, .long (m_rateL x y)), (0, .int x), (1, .long y)]) hX dX8_rateOf_20 (by decide) rfl ?_
    refine J_lload_n hX 0 dX8_rateOf_21 rfl ?_
    refine J_ldc2 hX dX8_rateOf_22 wm_18_6 ?_
    refine J_lcmp hX dX8_rateOf_25 ?_
    refine J_ifK_le hX 34 dX8_rateOf_26 (by decide) (fun h26 => ?_) (fun h26 => ?_)
    · skip
      refine J_lload_n hX 0 dX8_rateOf_34 rfl ?_
      refine J_l2i hX dX8_rateOf_35 ?_
      exact J_ret hX hZ dX8_rateOf_36 rfl rfl ⟨by rw [m_rateOf]; (first | rw [if_pos h26] | rw [if_neg h26]), rfl, rfl⟩
    · skip
      refine J_bipush (v := 100) hX dX8_rateOf_29 (by decide) ?_
      refine J_goto hX 36 dX8_rateOf_31 (by decide) ?_
      exact J_ret hX hZ dX8_rateOf_36 rfl rfl ⟨by rw [m_rateOf]; (first | rw [if_pos h26] | rw [if_neg h26]), rfl, rfl⟩
  · skip
    refine J_ldc2 hX dX8_rateOf_6 wm_18_6 ?_
    refine J_goto hX 20 dX8_rateOf_9 (by decide) ?_
    refine J_topl (y := m_rateL x y) (by rw [m_rateL]; (first | rw [if_neg h3] | rw [if_pos h3] | rw [if_pos (Classical.not_not.mp h3)])) ?_
    refine J_lstore_n (loc' := [(3, .long (m_rateL x y)), (0, .int x), (1, .long y)]) hX dX8_rateOf_20 (by decide) rfl ?_
    refine J_lload_n hX 0 dX8_rateOf_21 rfl ?_
    refine J_ldc2 hX dX8_rateOf_22 wm_18_6 ?_
    refine J_lcmp hX dX8_rateOf_25 ?_
    refine J_ifK_le hX 34 dX8_rateOf_26 (by decide) (fun h26 => ?_) (fun h26 => ?_)
    · skip
      refine J_lload_n hX 0 dX8_rateOf_34 rfl ?_
      refine J_l2i hX dX8_rateOf_35 ?_
      exact J_ret hX hZ dX8_rateOf_36 rfl rfl ⟨by rw [m_rateOf]; (first | rw [if_pos h26] | rw [if_neg h26]), rfl, rfl⟩
    · skip
      refine J_bipush (v := 100) hX dX8_rateOf_29 (by decide) ?_
      refine J_goto hX 36 dX8_rateOf_31 (by decide) ?_
      exact J_ret hX hZ dX8_rateOf_36 rfl rfl ⟨by rw [m_rateOf]; (first | rw [if_pos h26] | rw [if_neg h26]), rfl, rfl⟩
set_option maxHeartbeats 4000000 in
set_option maxRecDepth 10000 in
theorem c_X8_rate (l : Launch) (D : va_G) (a : Nat → Nat) (g : Nat → ClassId) (M : jM) (L : jL)   : jK l D a g yX8_rate cX8_rate 1 (some .int) 1 24 [.ref (a 77)] M L (some (.int (m_rate M))) M L := by
  refine jMeth (by decide) (Nat.le_of_ble_eq_true rfl) ?_
  intro G hX hZ
  refine J_cg (loc' := [(0, .ref (a 77))]) rfl rfl rfl rfl ?_
  refine J_aload_n hX 0 dX8_rate_0 rfl ?_
  refine J_callV hX 77 [] [] dX8_rate_1 (c_X8_land l D a g M L ) lk_X8_153 jc_77 rfl rfl rfl (Nat.le_of_ble_eq_true rfl) (Nat.le_of_ble_eq_true rfl) (Nat.le_of_ble_eq_true rfl) (J_eq (st := [.int (m_land M)]) rfl ?_)
  refine J_aload_n hX 0 dX8_rate_4 rfl ?_
  refine J_callV hX 77 [] [.int (m_land M)] dX8_rate_5 (c_X8_notes l D a g M L ) lk_X8_157 jc_77 rfl rfl rfl (Nat.le_of_ble_eq_true rfl) (Nat.le_of_ble_eq_true rfl) (Nat.le_of_ble_eq_true rfl) (J_eq (st := [.int (m_notes M), .int (m_land M)]) rfl ?_)
  refine J_i2l hX dX8_rate_8 ?_
  refine J_callS hX [.int (m_land M), .long (Int32.toInt64 (m_notes M))] [] dX8_rate_9 (c_X8_rateOf l D a g M L (m_land M) (Int32.toInt64 (m_notes M))) lk_X8_160 rfl rfl (Nat.le_of_ble_eq_true rfl) (Nat.le_of_ble_eq_true rfl) (Nat.le_of_ble_eq_true rfl) (J_eq (st := [.int (m_rateOf (m_land M) (Int32.toInt64 (m_notes M)))]) rfl ?_)
  exact J_ret hX hZ dX8_rate_12 rfl rfl ⟨rfl, rfl, rfl⟩
set_option maxHeartbeats 4000000 in
set_option maxRecDepth 10000 in
theorem c_X8_worth (l : Launch) (D : va_G) (a : Nat → Nat) (g : Nat → ClassId) (M : jM) (L : jL) (v : Int32)  : jK l D a g yX8_worth cX8_worth 2 (some .int) 2 44 [.ref (a 77), .int v] M L (some (.int (m_worth M v))) M L := by
  refine jMeth (by decide) (Nat.le_of_ble_eq_true rfl) ?_
  intro G hX hZ
  refine J_cg (loc' := [(0, .ref (a 77)), (1, .int v)]) rfl rfl rfl rfl ?_
  refine J_iload_n hX 1 dX8_worth_0 rfl ?_
  refine J_aload_n hX 0 dX8_worth_1 rfl ?_
  refine J_callV hX 77 [] [.int v] dX8_worth_2 (c_X8_rate l D a g M L ) lk_X8_164 jc_77 rfl rfl rfl (Nat.le_of_ble_eq_true rfl) (Nat.le_of_ble_eq_true rfl) (Nat.le_of_ble_eq_true rfl) (J_eq (st := [.int (m_rate M), .int v]) rfl ?_)
  refine J_imul hX dX8_worth_5 ?_
  refine J_bipush (v := 100) hX dX8_worth_6 (by decide) ?_
  refine J_idiv hX dX8_worth_8 (by decide) ?_
  exact J_ret hX hZ dX8_worth_9 rfl rfl ⟨rfl, rfl, rfl⟩
def m_paym (M : jM) (x y : Nat) : Int32 := if M 78 x ≤ M 80 (6 * x + y) then M 78 x else M 80 (6 * x + y)
set_option maxHeartbeats 4000000 in
set_option maxRecDepth 10000 in
theorem c_X8_payment (l : Launch) (D : va_G) (a : Nat → Nat) (g : Nat → ClassId) (M : jM) (L : jL) (x : Nat) (hx : x < 6) (y : Nat) (hy : y < 6)  : jK l D a g yX8_payment cX8_payment 4 (some .int) 0 0 [.ref (a 77), .int (nI x), .int (nI y)] M L (some (.int (m_paym M x y))) M L := by
  refine jMeth (by decide) (Nat.le_of_ble_eq_true rfl) ?_
  intro G hX hZ
  refine J_cg (loc' := [(0, .ref (a 77)), (1, .int (nI x)), (2, .int (nI y))]) rfl rfl rfl rfl ?_
  refine J_aload_n hX 0 dX8_payment_0 rfl ?_
  refine J_getr hX 77 2 dX8_payment_1 jc_77 rfl rfl (by decide) inlX8 wm_4_21 ?_
  refine J_bipush (v := 6) hX dX8_payment_4 (by decide) ?_
  refine J_iload_n hX 1 dX8_payment_6 rfl ?_
  refine J_imul hX dX8_payment_7 ?_
  refine J_topi (y := nI (6 * x)) (pk_mul 6 x) ?_
  refine J_iload_n hX 2 dX8_payment_8 rfl ?_
  refine J_iadd hX dX8_payment_9 ?_
  refine J_topi (y := nI (6 * x + y)) (nI_add _ _) ?_
  refine J_iald hX 80 (6 * x + y) dX8_payment_10 jc_80 rfl (by omega) (by omega) ?_
  refine J_istore_n (loc' := [(3, .int (M 80 (6 * x + y))), (0, .ref (a 77)), (1, .int (nI x)), (2, .int (nI y))]) hX dX8_payment_11 (by decide) rfl ?_
  refine J_iload_n hX 0 dX8_payment_12 rfl ?_
  refine J_aload_n hX 1 dX8_payment_13 rfl ?_
  refine J_getr hX 77 0 dX8_payment_14 jc_77 rfl rfl (by decide) inlX8 wm_4_19 ?_
  refine J_iload_n hX 2 dX8_payment_17 rfl ?_
  refine J_iald hX 78 x dX8_payment_18 jc_78 rfl (by omega) (by omega) ?_
  refine J_icmp_ge hX 26 dX8_payment_19 (by decide) (fun h19 => ?_) (fun h19 => ?_)
  · skip
    refine J_aload_n hX 1 dX8_payment_26 rfl ?_
    refine J_getr hX 77 0 dX8_payment_27 jc_77 rfl rfl (by decide) inlX8 wm_4_19 ?_
    refine J_iload_n hX 2 dX8_payment_30 rfl ?_
    refine J_iald hX 78 x dX8_payment_31 jc_78 rfl (by omega) (by omega) ?_
    exact J_ret hX hZ dX8_payment_32 rfl rfl ⟨by rw [m_paym]; (first | rw [if_pos h19] | rw [if_neg h19]), rfl, rfl⟩
  · skip
    refine J_iload_n hX 0 dX8_payment_22 rfl ?_
    refine J_goto hX 32 dX8_payment_23 (by decide) ?_
    exact J_ret hX hZ dX8_payment_32 rfl rfl ⟨by rw [m_paym]; (first | rw [if_pos h19] | rw [if_neg h19]), rfl, rfl⟩
def m_wnC (M : jM) (k : Nat) (v : Int32) : Int32 := if v ≤ M 78 k then (if 9999 < M 79 k + m_worth M v then 5 else if M 77 5 + v ≤ 99999 then 0 else 5) else 3
def m_wnP (M : jM) (x y : Nat) : Int32 := if x = y then 1 else if m_paym M x y = 0 then 4 else if M 78 y + m_paym M x y ≤ 9999 then 0 else 5
def m_whyNot (M : jM) (w : Int32) (k : Nat) (v : Int32) : Int32 :=
  if w = 0 then (if M 77 5 + v ≤ 99999 then 0 else 5) else if w = 1 then (if 9999 < M 78 k + v then 5 else if M 77 6 + v ≤ 99999 then 0 else 5)
  else if w = 2 then (if M 82 v.toNatClampNeg < 0 then (if M 81 v.toNatClampNeg ≤ M 78 k then 0 else 3) else 2) else if w = 3 then m_wnC M k v else if w = 4 then m_wnP M k v.toNatClampNeg
  else if w = 5 then (if v ≤ M 77 5 then (if M 78 k + v ≤ 9999 then 0 else 5) else 3) else if M 77 8 = 99 then 6 else 0
set_option maxHeartbeats 4000000 in
set_option maxRecDepth 10000 in
theorem c_X8_whyNotChange (l : Launch) (D : va_G) (a : Nat → Nat) (g : Nat → ClassId) (M : jM) (L : jL) (k : Nat) (hk : k < 6) (v : Int32)  : jK l D a g yX8_whyNotChange cX8_whyNotChange 3 (some .int) 3 65 [.ref (a 77), .int (nI k), .int v] M L (some (.int (m_wnC M k v))) M L := by
  refine jMeth (by decide) (Nat.le_of_ble_eq_true rfl) ?_
  intro G hX hZ
  refine J_cg (loc' := [(0, .ref (a 77)), (1, .int (nI k)), (2, .int v)]) rfl rfl rfl rfl ?_
  refine J_aload_n hX 0 dX8_whyNotChange_0 rfl ?_
  refine J_getr hX 77 0 dX8_whyNotChange_1 jc_77 rfl rfl (by decide) inlX8 wm_4_19 ?_
  refine J_iload_n hX 1 dX8_whyNotChange_4 rfl ?_
  refine J_iald hX 78 k dX8_whyNotChange_5 jc_78 rfl (by omega) (by omega) ?_
  refine J_iload_n hX 2 dX8_whyNotChange_6 rfl ?_
  refine J_icmp_ge hX 12 dX8_whyNotChange_7 (by decide) (fun h7 => ?_) (fun h7 => ?_)
  · skip
    refine J_aload_n hX 0 dX8_whyNotChange_12 rfl ?_
    refine J_getr hX 77 1 dX8_whyNotChange_13 jc_77 rfl rfl (by decide) inlX8 wm_4_20 ?_
    refine J_iload_n hX 1 dX8_whyNotChange_16 rfl ?_
    refine J_iald hX 79 k dX8_whyNotChange_17 jc_79 rfl (by omega) (by omega) ?_
    refine J_aload_n hX 0 dX8_whyNotChange_18 rfl ?_
    refine J_iload_n hX 2 dX8_whyNotChange_19 rfl ?_
    refine J_callV hX 77 [.int v] [.int (M 79 k)] dX8_whyNotChange_20 (c_X8_worth l D a g M L v) lk_X8_167 jc_77 rfl rfl rfl (Nat.le_of_ble_eq_true rfl) (Nat.le_of_ble_eq_true rfl) (Nat.le_of_ble_eq_true rfl) (J_eq (st := [.int (m_worth M v), .int (M 79 k)]) rfl ?_)
    refine J_iadd hX dX8_whyNotChange_23 ?_
    refine J_sipush (v := 9999) hX dX8_whyNotChange_24 (by decide) ?_
    refine J_icmp_gt hX 41 dX8_whyNotChange_27 (by decide) (fun h27 => ?_) (fun h27 => ?_)
    · skip
      refine J_iconst (v := 5) hX dX8_whyNotChange_41 (by decide) ?_
      refine J_goto hX 46 dX8_whyNotChange_42 (by decide) ?_
      exact J_ret hX hZ dX8_whyNotChange_46 rfl rfl ⟨by simp [m_wnC, h7, h27], rfl, rfl⟩
    · skip
      refine J_aload_n hX 0 dX8_whyNotChange_30 rfl ?_
      refine J_geti hX 77 5 dX8_whyNotChange_31 jc_77 rfl rfl (by decide) inlX8 wm_8_4 ?_
      refine J_iload_n hX 2 dX8_whyNotChange_34 rfl ?_
      refine J_iadd hX dX8_whyNotChange_35 ?_
      refine J_ldc hX dX8_whyNotChange_36 wm_17_6 ?_
      refine J_icmp_le hX 45 dX8_whyNotChange_38 (by decide) (fun h38 => ?_) (fun h38 => ?_)
      · skip
        refine J_iconst (v := 0) hX dX8_whyNotChange_45 (by decide) ?_
        exact J_ret hX hZ dX8_whyNotChange_46 rfl rfl ⟨by simp [m_wnC, h7, h27, h38], rfl, rfl⟩
      · skip
        refine J_iconst (v := 5) hX dX8_whyNotChange_41 (by decide) ?_
        refine J_goto hX 46 dX8_whyNotChange_42 (by decide) ?_
        exact J_ret hX hZ dX8_whyNotChange_46 rfl rfl ⟨by simp [m_wnC, h7, h27, h38], rfl, rfl⟩
  · skip
    refine J_iconst (v := 3) hX dX8_whyNotChange_10 (by decide) ?_
    exact J_ret hX hZ dX8_whyNotChange_11 rfl rfl ⟨by simp [m_wnC, h7], rfl, rfl⟩
set_option maxHeartbeats 4000000 in
set_option maxRecDepth 10000 in
theorem c_X8_whyNotPay (l : Launch) (D : va_G) (a : Nat → Nat) (g : Nat → ClassId) (M : jM) (L : jL) (x : Nat) (hx : x < 6) (y : Nat) (hy : y < 6)  : jK l D a g yX8_whyNotPay cX8_whyNotPay 4 (some .int) 1 23 [.ref (a 77), .int (nI x), .int (nI y)] M L (some (.int (m_wnP M x y))) M L := by
  refine jMeth (by decide) (Nat.le_of_ble_eq_true rfl) ?_
  intro G hX hZ
  refine J_cg (loc' := [(0, .ref (a 77)), (1, .int (nI x)), (2, .int (nI y))]) rfl rfl rfl rfl ?_
  refine J_iload_n hX 1 dX8_whyNotPay_0 rfl ?_
  refine J_iload_n hX 2 dX8_whyNotPay_1 rfl ?_
  refine J_cmpN_ne hX 7 x y dX8_whyNotPay_2 (by decide) rfl rfl (by omega) (by omega) (fun h2 => ?_) (fun h2 => ?_)
  · skip
    refine J_aload_n hX 0 dX8_whyNotPay_7 rfl ?_
    refine J_iload_n hX 1 dX8_whyNotPay_8 rfl ?_
    refine J_iload_n hX 2 dX8_whyNotPay_9 rfl ?_
    refine J_callV hX 77 [.int (nI x), .int (nI y)] [] dX8_whyNotPay_10 (c_X8_payment l D a g M L x (by omega) y (by omega)) lk_X8_171 jc_77 rfl rfl rfl (Nat.le_of_ble_eq_true rfl) (Nat.le_of_ble_eq_true rfl) (Nat.le_of_ble_eq_true rfl) (J_eq (st := [.int (m_paym M x y)]) rfl ?_)
    refine J_istore_n (loc' := [(3, .int (m_paym M x y)), (0, .ref (a 77)), (1, .int (nI x)), (2, .int (nI y))]) hX dX8_whyNotPay_13 (by decide) rfl ?_
    refine J_iload_n hX 0 dX8_whyNotPay_14 rfl ?_
    refine J_if_ne hX 22 dX8_whyNotPay_15 (by decide) (fun h15 => ?_) (fun h15 => ?_)
    · skip
      refine J_aload_n hX 1 dX8_whyNotPay_22 rfl ?_
      refine J_getr hX 77 0 dX8_whyNotPay_23 jc_77 rfl rfl (by decide) inlX8 wm_4_19 ?_
      refine J_iload_n hX 3 dX8_whyNotPay_26 rfl ?_
      refine J_iald hX 78 y dX8_whyNotPay_27 jc_78 rfl (by omega) (by omega) ?_
      refine J_iload_n hX 0 dX8_whyNotPay_28 rfl ?_
      refine J_iadd hX dX8_whyNotPay_29 ?_
      refine J_sipush (v := 9999) hX dX8_whyNotPay_30 (by decide) ?_
      refine J_icmp_le hX 40 dX8_whyNotPay_33 (by decide) (fun h33 => ?_) (fun h33 => ?_)
      · skip
        refine J_iconst (v := 0) hX dX8_whyNotPay_40 (by decide) ?_
        exact J_ret hX hZ dX8_whyNotPay_41 rfl rfl ⟨by simp [m_wnP, h2, h15, h33], rfl, rfl⟩
      · skip
        refine J_iconst (v := 5) hX dX8_whyNotPay_36 (by decide) ?_
        refine J_goto hX 41 dX8_whyNotPay_37 (by decide) ?_
        exact J_ret hX hZ dX8_whyNotPay_41 rfl rfl ⟨by simp [m_wnP, h2, h15, h33], rfl, rfl⟩
    · skip
      refine J_iconst (v := 4) hX dX8_whyNotPay_18 (by decide) ?_
      refine J_goto hX 41 dX8_whyNotPay_19 (by decide) ?_
      exact J_ret hX hZ dX8_whyNotPay_41 rfl rfl ⟨by simp [m_wnP, h2, h15], rfl, rfl⟩
  · skip
    refine J_iconst (v := 1) hX dX8_whyNotPay_5 (by decide) ?_
    exact J_ret hX hZ dX8_whyNotPay_6 rfl rfl ⟨by simp [m_wnP, h2], rfl, rfl⟩
set_option maxHeartbeats 4000000 in
set_option maxRecDepth 10000 in
theorem c_X8_whyNot (l : Launch) (D : va_G) (a : Nat → Nat) (g : Nat → ClassId) (M : jM) (L : jL) (w : Int32) (k : Nat) (hk : k < 6) (v : Int32) (h2 : w = 2 → x_lt v 8) (h4 : w = 4 → x_lt v 6)  : jK l D a g yX8_whyNot cX8_whyNot 4 (some .int) 4 87 [.ref (a 77), .int w, .int (nI k), .int v] M L (some (.int (m_whyNot M w k v))) M L := by
  refine jMeth (by decide) (Nat.le_of_ble_eq_true rfl) ?_
  intro G hX hZ
  refine J_cg (loc' := [(0, .ref (a 77)), (1, .int w), (2, .int (nI k)), (3, .int v)]) rfl rfl rfl rfl ?_
  refine J_iload_n hX 1 dX8_whyNot_0 rfl ?_
  by_cases s1_0 : w = 0
  · refine J_tableIn hX 40 dX8_whyNot_1 (by rw [s1_0]; decide) (by rw [s1_0]; decide) (by rw [s1_0]; rfl) (by decide) ?_
    refine J_aload_n hX 0 dX8_whyNot_40 rfl ?_
    refine J_geti hX 77 5 dX8_whyNot_41 jc_77 rfl rfl (by decide) inlX8 wm_8_4 ?_
    refine J_iload_n hX 3 dX8_whyNot_44 rfl ?_
    refine J_iadd hX dX8_whyNot_45 ?_
    refine J_ldc hX dX8_whyNot_46 wm_17_6 ?_
    refine J_icmp_le hX 55 dX8_whyNot_48 (by decide) (fun h48 => ?_) (fun h48 => ?_)
    · skip
      refine J_iconst (v := 0) hX dX8_whyNot_55 (by decide) ?_
      exact J_ret hX hZ dX8_whyNot_56 rfl rfl ⟨by simp [m_whyNot, s1_0, h48], rfl, rfl⟩
    · skip
      refine J_iconst (v := 5) hX dX8_whyNot_51 (by decide) ?_
      refine J_goto hX 56 dX8_whyNot_52 (by decide) ?_
      exact J_ret hX hZ dX8_whyNot_56 rfl rfl ⟨by simp [m_whyNot, s1_0, h48], rfl, rfl⟩
  by_cases s1_1 : w = 1
  · refine J_tableIn hX 57 dX8_whyNot_1 (by rw [s1_1]; decide) (by rw [s1_1]; decide) (by rw [s1_1]; rfl) (by decide) ?_
    refine J_aload_n hX 0 dX8_whyNot_57 rfl ?_
    refine J_getr hX 77 0 dX8_whyNot_58 jc_77 rfl rfl (by decide) inlX8 wm_4_19 ?_
    refine J_iload_n hX 2 dX8_whyNot_61 rfl ?_
    refine J_iald hX 78 k dX8_whyNot_62 jc_78 rfl (by omega) (by omega) ?_
    refine J_iload_n hX 3 dX8_whyNot_63 rfl ?_
    refine J_iadd hX dX8_whyNot_64 ?_
    refine J_sipush (v := 9999) hX dX8_whyNot_65 (by decide) ?_
    refine J_icmp_gt hX 82 dX8_whyNot_68 (by decide) (fun h68 => ?_) (fun h68 => ?_)
    · skip
      refine J_iconst (v := 5) hX dX8_whyNot_82 (by decide) ?_
      refine J_goto hX 87 dX8_whyNot_83 (by decide) ?_
      exact J_ret hX hZ dX8_whyNot_87 rfl rfl ⟨by simp [m_whyNot, s1_0, s1_1, h68], rfl, rfl⟩
    · skip
      refine J_aload_n hX 0 dX8_whyNot_71 rfl ?_
      refine J_geti hX 77 6 dX8_whyNot_72 jc_77 rfl rfl (by decide) inlX8 wm_8_5 ?_
      refine J_iload_n hX 3 dX8_whyNot_75 rfl ?_
      refine J_iadd hX dX8_whyNot_76 ?_
      refine J_ldc hX dX8_whyNot_77 wm_17_6 ?_
      refine J_icmp_le hX 86 dX8_whyNot_79 (by decide) (fun h79 => ?_) (fun h79 => ?_)
      · skip
        refine J_iconst (v := 0) hX dX8_whyNot_86 (by decide) ?_
        exact J_ret hX hZ dX8_whyNot_87 rfl rfl ⟨by simp [m_whyNot, s1_0, s1_1, h68, h79], rfl, rfl⟩
      · skip
        refine J_iconst (v := 5) hX dX8_whyNot_82 (by decide) ?_
        refine J_goto hX 87 dX8_whyNot_83 (by decide) ?_
        exact J_ret hX hZ dX8_whyNot_87 rfl rfl ⟨by simp [m_whyNot, s1_0, s1_1, h68, h79], rfl, rfl⟩
  by_cases s1_2 : w = 2
  · refine J_tableIn hX 88 dX8_whyNot_1 (by rw [s1_2]; decide) (by rw [s1_2]; decide) (by rw [s1_2]; rfl) (by decide) ?_
    have hv := h2 s1_2
    refine J_aload_n hX 0 dX8_whyNot_88 rfl ?_
    refine J_getr hX 77 4 dX8_whyNot_89 jc_77 rfl rfl (by decide) inlX8 wm_4_23 ?_
    refine J_iload_n hX 3 dX8_whyNot_92 rfl ?_
    refine J_iald hX 82 v.toNatClampNeg dX8_whyNot_93 jc_82 hv.2 hv.1 (by omega) ?_
    refine J_if_lt hX 101 dX8_whyNot_94 (by decide) (fun h94 => ?_) (fun h94 => ?_)
    · skip
      refine J_aload_n hX 0 dX8_whyNot_101 rfl ?_
      refine J_getr hX 77 0 dX8_whyNot_102 jc_77 rfl rfl (by decide) inlX8 wm_4_19 ?_
      refine J_iload_n hX 2 dX8_whyNot_105 rfl ?_
      refine J_iald hX 78 k dX8_whyNot_106 jc_78 rfl (by omega) (by omega) ?_
      refine J_aload_n hX 0 dX8_whyNot_107 rfl ?_
      refine J_getr hX 77 3 dX8_whyNot_108 jc_77 rfl rfl (by decide) inlX8 wm_4_22 ?_
      refine J_iload_n hX 3 dX8_whyNot_111 rfl ?_
      refine J_iald hX 81 v.toNatClampNeg dX8_whyNot_112 jc_81 hv.2 hv.1 (by omega) ?_
      refine J_icmp_ge hX 120 dX8_whyNot_113 (by decide) (fun h113 => ?_) (fun h113 => ?_)
      · skip
        refine J_iconst (v := 0) hX dX8_whyNot_120 (by decide) ?_
        exact J_ret hX hZ dX8_whyNot_121 rfl rfl ⟨by simp [m_whyNot, s1_0, s1_1, s1_2, h94, h113], rfl, rfl⟩
      · skip
        refine J_iconst (v := 3) hX dX8_whyNot_116 (by decide) ?_
        refine J_goto hX 121 dX8_whyNot_117 (by decide) ?_
        exact J_ret hX hZ dX8_whyNot_121 rfl rfl ⟨by simp [m_whyNot, s1_0, s1_1, s1_2, h94, h113], rfl, rfl⟩
    · skip
      refine J_iconst (v := 2) hX dX8_whyNot_97 (by decide) ?_
      refine J_goto hX 121 dX8_whyNot_98 (by decide) ?_
      exact J_ret hX hZ dX8_whyNot_121 rfl rfl ⟨by simp [m_whyNot, s1_0, s1_1, s1_2, h94], rfl, rfl⟩
  by_cases s1_3 : w = 3
  · refine J_tableIn hX 122 dX8_whyNot_1 (by rw [s1_3]; decide) (by rw [s1_3]; decide) (by rw [s1_3]; rfl) (by decide) ?_
    refine J_aload_n hX 0 dX8_whyNot_122 rfl ?_
    refine J_iload_n hX 2 dX8_whyNot_123 rfl ?_
    refine J_iload_n hX 3 dX8_whyNot_124 rfl ?_
    refine J_callV hX 77 [.int (nI k), .int v] [] dX8_whyNot_125 (c_X8_whyNotChange l D a g M L k (by omega) v) lk_X8_174 jc_77 rfl rfl rfl (Nat.le_of_ble_eq_true rfl) (Nat.le_of_ble_eq_true rfl) (Nat.le_of_ble_eq_true rfl) (J_eq (st := [.int (m_wnC M k v)]) rfl ?_)
    exact J_ret hX hZ dX8_whyNot_128 rfl rfl ⟨by simp [m_whyNot, s1_0, s1_1, s1_2, s1_3], rfl, rfl⟩
  by_cases s1_4 : w = 4
  · refine J_tableIn hX 129 dX8_whyNot_1 (by rw [s1_4]; decide) (by rw [s1_4]; decide) (by rw [s1_4]; rfl) (by decide) ?_
    have hv := h4 s1_4
    refine J_aload_n hX 0 dX8_whyNot_129 rfl ?_
    refine J_iload_n hX 2 dX8_whyNot_130 rfl ?_
    refine J_iload_n hX 3 dX8_whyNot_131 rfl ?_
    refine J_topi (y := nI v.toNatClampNeg) hv.2 ?_
    refine J_callV hX 77 [.int (nI k), .int (nI v.toNatClampNeg)] [] dX8_whyNot_132 (c_X8_whyNotPay l D a g M L k (by omega) v.toNatClampNeg hv.1) lk_X8_177 jc_77 rfl rfl rfl (Nat.le_of_ble_eq_true rfl) (Nat.le_of_ble_eq_true rfl) (Nat.le_of_ble_eq_true rfl) (J_eq (st := [.int (m_wnP M k v.toNatClampNeg)]) rfl ?_)
    exact J_ret hX hZ dX8_whyNot_135 rfl rfl ⟨by simp [m_whyNot, s1_0, s1_1, s1_2, s1_3, s1_4], rfl, rfl⟩
  by_cases s1_5 : w = 5
  · refine J_tableIn hX 136 dX8_whyNot_1 (by rw [s1_5]; decide) (by rw [s1_5]; decide) (by rw [s1_5]; rfl) (by decide) ?_
    refine J_aload_n hX 0 dX8_whyNot_136 rfl ?_
    refine J_geti hX 77 5 dX8_whyNot_137 jc_77 rfl rfl (by decide) inlX8 wm_8_4 ?_
    refine J_iload_n hX 3 dX8_whyNot_140 rfl ?_
    refine J_icmp_ge hX 148 dX8_whyNot_141 (by decide) (fun h141 => ?_) (fun h141 => ?_)
    · skip
      refine J_aload_n hX 0 dX8_whyNot_148 rfl ?_
      refine J_getr hX 77 0 dX8_whyNot_149 jc_77 rfl rfl (by decide) inlX8 wm_4_19 ?_
      refine J_iload_n hX 2 dX8_whyNot_152 rfl ?_
      refine J_iald hX 78 k dX8_whyNot_153 jc_78 rfl (by omega) (by omega) ?_
      refine J_iload_n hX 3 dX8_whyNot_154 rfl ?_
      refine J_iadd hX dX8_whyNot_155 ?_
      refine J_sipush (v := 9999) hX dX8_whyNot_156 (by decide) ?_
      refine J_icmp_le hX 166 dX8_whyNot_159 (by decide) (fun h159 => ?_) (fun h159 => ?_)
      · skip
        refine J_iconst (v := 0) hX dX8_whyNot_166 (by decide) ?_
        exact J_ret hX hZ dX8_whyNot_167 rfl rfl ⟨by simp [m_whyNot, s1_0, s1_1, s1_2, s1_3, s1_4, s1_5, h141, h159], rfl, rfl⟩
      · skip
        refine J_iconst (v := 5) hX dX8_whyNot_162 (by decide) ?_
        refine J_goto hX 167 dX8_whyNot_163 (by decide) ?_
        exact J_ret hX hZ dX8_whyNot_167 rfl rfl ⟨by simp [m_whyNot, s1_0, s1_1, s1_2, s1_3, s1_4, s1_5, h141, h159], rfl, rfl⟩
    · skip
      refine J_iconst (v := 3) hX dX8_whyNot_144 (by decide) ?_
      refine J_goto hX 167 dX8_whyNot_145 (by decide) ?_
      exact J_ret hX hZ dX8_whyNot_167 rfl rfl ⟨by simp [m_whyNot, s1_0, s1_1, s1_2, s1_3, s1_4, s1_5, h141], rfl, rfl⟩
  have t1_0 := lv_neT s1_0 (show (0 : Int32).toInt = 0 from rfl)
  have t1_1 := lv_neT s1_1 (show (1 : Int32).toInt = 1 from rfl)
  have t1_2 := lv_neT s1_2 (show (2 : Int32).toInt = 2 from rfl)
  have t1_3 := lv_neT s1_3 (show (3 : Int32).toInt = 3 from rfl)
  have t1_4 := lv_neT s1_4 (show (4 : Int32).toInt = 4 from rfl)
  have t1_5 := lv_neT s1_5 (show (5 : Int32).toInt = 5 from rfl)
  refine J_tableOut hX 168 dX8_whyNot_1 (by omega) (by decide) ?_
  refine J_aload_n hX 0 dX8_whyNot_168 rfl ?_
  refine J_geti hX 77 8 dX8_whyNot_169 jc_77 rfl rfl (by decide) inlX8 wm_16_20 ?_
  refine J_bipush (v := 99) hX dX8_whyNot_172 (by decide) ?_
  refine J_icmp_ne hX 182 dX8_whyNot_174 (by decide) (fun h174 => ?_) (fun h174 => ?_)
  · skip
    refine J_iconst (v := 0) hX dX8_whyNot_182 (by decide) ?_
    exact J_ret hX hZ dX8_whyNot_183 rfl rfl ⟨by simp [m_whyNot, s1_0, s1_1, s1_2, s1_3, s1_4, s1_5, h174], rfl, rfl⟩
  · skip
    refine J_bipush (v := 6) hX dX8_whyNot_177 (by decide) ?_
    refine J_goto hX 183 dX8_whyNot_179 (by decide) ?_
    exact J_ret hX hZ dX8_whyNot_183 rfl rfl ⟨by simp [m_whyNot, s1_0, s1_1, s1_2, s1_3, s1_4, s1_5, h174], rfl, rfl⟩
def m_swap (M : jM) (k : Nat) (v : Int32) : jM := let M1 := jU M 79 k (M 79 k + m_worth M v); let M2 := jU M1 78 k (M1 78 k - v); jU M2 77 5 (M2 77 5 + v)
def m_payM (M : jM) (x y : Nat) : jM := let M1 := jU M 80 (6 * x + y) (M 80 (6 * x + y) - m_paym M x y); let M2 := jU M1 78 x (M1 78 x - m_paym M x y); jU M2 78 y (M2 78 y + m_paym M x y)
def m_buyM (M : jM) (x y : Nat) : jM := let M1 := jU M 82 y (nI x); let M2 := jU M1 78 x (M1 78 x - M1 81 y); jU M2 77 7 (M2 77 7 + M2 81 y)
def m_happen (M : jM) (w : Int32) (k : Nat) (v : Int32) : jM :=
  if w = 0 then jU M 77 5 (M 77 5 + v) else if w = 1 then (let M1 := jU M 78 k (M 78 k + v); jU M1 77 6 (M1 77 6 + v)) else if w = 2 then m_buyM M k v.toNatClampNeg else if w = 3 then m_swap M k v
  else if w = 4 then m_payM M k v.toNatClampNeg else if w = 5 then (let M1 := jU M 77 5 (M 77 5 - v); jU M1 78 k (M1 78 k + v)) else jU M 77 8 (M 77 8 + 1)
set_option maxHeartbeats 4000000 in
set_option maxRecDepth 10000 in
theorem c_X8_swap (l : Launch) (D : va_G) (a : Nat → Nat) (g : Nat → ClassId) (M : jM) (L : jL) (k : Nat) (hk : k < 6) (v : Int32)  : jK l D a g yX8_swap cX8_swap 3 none 3 65 [.ref (a 77), .int (nI k), .int v] M L none (m_swap M k v) L := by
  refine jMeth (by decide) (Nat.le_of_ble_eq_true rfl) ?_
  intro G hX hZ
  refine J_cg (loc' := [(0, .ref (a 77)), (1, .int (nI k)), (2, .int v)]) rfl rfl rfl rfl ?_
  refine J_aload_n hX 0 dX8_swap_0 rfl ?_
  refine J_getr hX 77 1 dX8_swap_1 jc_77 rfl rfl (by decide) inlX8 wm_4_20 ?_
  refine J_iload_n hX 1 dX8_swap_4 rfl ?_
  refine J_dup2 hX dX8_swap_5 rfl rfl ?_
  refine J_iald hX 79 k dX8_swap_6 jc_79 rfl (by omega) (by omega) ?_
  refine J_aload_n hX 0 dX8_swap_7 rfl ?_
  refine J_iload_n hX 2 dX8_swap_8 rfl ?_
  refine J_callV hX 77 [.int v] [.int (M 79 k), .int (nI k), .ref (a 79)] dX8_swap_9 (c_X8_worth l D a g M L v) lk_X8_167 jc_77 rfl rfl rfl (Nat.le_of_ble_eq_true rfl) (Nat.le_of_ble_eq_true rfl) (Nat.le_of_ble_eq_true rfl) (J_eq (st := [.int (m_worth M v), .int (M 79 k), .int (nI k), .ref (a 79)]) rfl ?_)
  refine J_iadd hX dX8_swap_12 ?_
  refine J_iast hX 79 k dX8_swap_13 jc_79 rfl (by omega) (by omega) ?_
  refine J_aload_n hX 0 dX8_swap_14 rfl ?_
  refine J_getr hX 77 0 dX8_swap_15 jc_77 rfl rfl (by decide) inlX8 wm_4_19 ?_
  refine J_iload_n hX 1 dX8_swap_18 rfl ?_
  refine J_dup2 hX dX8_swap_19 rfl rfl ?_
  refine J_iald hX 78 k dX8_swap_20 jc_78 rfl (by omega) (by omega) ?_
  refine J_iload_n hX 2 dX8_swap_21 rfl ?_
  refine J_isub hX dX8_swap_22 ?_
  refine J_iast hX 78 k dX8_swap_23 jc_78 rfl (by omega) (by omega) ?_
  refine J_aload_n hX 0 dX8_swap_24 rfl ?_
  refine J_dup hX dX8_swap_25 rfl ?_
  refine J_geti hX 77 5 dX8_swap_26 jc_77 rfl rfl (by decide) inlX8 wm_8_4 ?_
  refine J_iload_n hX 2 dX8_swap_29 rfl ?_
  refine J_iadd hX dX8_swap_30 ?_
  refine J_puti (ty := .int) hX 77 5 dX8_swap_31 jc_77 rfl rfl (by decide) inlX8 wm_8_4 tyX8 tyX8_ok nmX8 rfl (by decide +kernel) rfl rfl ?_
  exact J_vret hX hZ dX8_swap_34 ⟨rfl, rfl, rfl⟩
set_option maxHeartbeats 4000000 in
set_option maxRecDepth 10000 in
theorem c_X8_pay (l : Launch) (D : va_G) (a : Nat → Nat) (g : Nat → ClassId) (M : jM) (L : jL) (x : Nat) (hx : x < 6) (y : Nat) (hy : y < 6)  : jK l D a g yX8_pay cX8_pay 4 none 1 23 [.ref (a 77), .int (nI x), .int (nI y)] M L none (m_payM M x y) L := by
  refine jMeth (by decide) (Nat.le_of_ble_eq_true rfl) ?_
  intro G hX hZ
  refine J_cg (loc' := [(0, .ref (a 77)), (1, .int (nI x)), (2, .int (nI y))]) rfl rfl rfl rfl ?_
  refine J_aload_n hX 0 dX8_pay_0 rfl ?_
  refine J_iload_n hX 1 dX8_pay_1 rfl ?_
  refine J_iload_n hX 2 dX8_pay_2 rfl ?_
  refine J_callV hX 77 [.int (nI x), .int (nI y)] [] dX8_pay_3 (c_X8_payment l D a g M L x (by omega) y (by omega)) lk_X8_171 jc_77 rfl rfl rfl (Nat.le_of_ble_eq_true rfl) (Nat.le_of_ble_eq_true rfl) (Nat.le_of_ble_eq_true rfl) (J_eq (st := [.int (m_paym M x y)]) rfl ?_)
  refine J_istore_n (loc' := [(3, .int (m_paym M x y)), (0, .ref (a 77)), (1, .int (nI x)), (2, .int (nI y))]) hX dX8_pay_6 (by decide) rfl ?_
  refine J_aload_n hX 1 dX8_pay_7 rfl ?_
  refine J_getr hX 77 2 dX8_pay_8 jc_77 rfl rfl (by decide) inlX8 wm_4_21 ?_
  refine J_bipush (v := 6) hX dX8_pay_11 (by decide) ?_
  refine J_iload_n hX 2 dX8_pay_13 rfl ?_
  refine J_imul hX dX8_pay_14 ?_
  refine J_topi (y := nI (6 * x)) (pk_mul 6 x) ?_
  refine J_iload_n hX 3 dX8_pay_15 rfl ?_
  refine J_iadd hX dX8_pay_16 ?_
  refine J_topi (y := nI (6 * x + y)) (nI_add _ _) ?_
  refine J_dup2 hX dX8_pay_17 rfl rfl ?_
  refine J_iald hX 80 (6 * x + y) dX8_pay_18 jc_80 rfl (by omega) (by omega) ?_
  refine J_iload_n hX 0 dX8_pay_19 rfl ?_
  refine J_isub hX dX8_pay_20 ?_
  refine J_iast hX 80 (6 * x + y) dX8_pay_21 jc_80 rfl (by omega) (by omega) ?_
  refine J_aload_n hX 1 dX8_pay_22 rfl ?_
  refine J_getr hX 77 0 dX8_pay_23 jc_77 rfl rfl (by decide) inlX8 wm_4_19 ?_
  refine J_iload_n hX 2 dX8_pay_26 rfl ?_
  refine J_dup2 hX dX8_pay_27 rfl rfl ?_
  refine J_iald hX 78 x dX8_pay_28 jc_78 rfl (by omega) (by omega) ?_
  refine J_iload_n hX 0 dX8_pay_29 rfl ?_
  refine J_isub hX dX8_pay_30 ?_
  refine J_iast hX 78 x dX8_pay_31 jc_78 rfl (by omega) (by omega) ?_
  refine J_aload_n hX 1 dX8_pay_32 rfl ?_
  refine J_getr hX 77 0 dX8_pay_33 jc_77 rfl rfl (by decide) inlX8 wm_4_19 ?_
  refine J_iload_n hX 3 dX8_pay_36 rfl ?_
  refine J_dup2 hX dX8_pay_37 rfl rfl ?_
  refine J_iald hX 78 y dX8_pay_38 jc_78 rfl (by omega) (by omega) ?_
  refine J_iload_n hX 0 dX8_pay_39 rfl ?_
  refine J_iadd hX dX8_pay_40 ?_
  refine J_iast hX 78 y dX8_pay_41 jc_78 rfl (by omega) (by omega) ?_
  exact J_vret hX hZ dX8_pay_42 ⟨rfl, rfl, rfl⟩
set_option maxHeartbeats 4000000 in
set_option maxRecDepth 10000 in
theorem c_X8_buy (l : Launch) (D : va_G) (a : Nat → Nat) (g : Nat → ClassId) (M : jM) (L : jL) (x : Nat) (hx : x < 6) (y : Nat) (hy : y < 8)  : jK l D a g yX8_buy cX8_buy 3 none 0 0 [.ref (a 77), .int (nI x), .int (nI y)] M L none (m_buyM M x y) L := by
  refine jMeth (by decide) (Nat.le_of_ble_eq_true rfl) ?_
  intro G hX hZ
  refine J_cg (loc' := [(0, .ref (a 77)), (1, .int (nI x)), (2, .int (nI y))]) rfl rfl rfl rfl ?_
  refine J_aload_n hX 0 dX8_buy_0 rfl ?_
  refine J_getr hX 77 4 dX8_buy_1 jc_77 rfl rfl (by decide) inlX8 wm_4_23 ?_
  refine J_iload_n hX 2 dX8_buy_4 rfl ?_
  refine J_iload_n hX 1 dX8_buy_5 rfl ?_
  refine J_iast hX 82 y dX8_buy_6 jc_82 rfl (by omega) (by omega) ?_
  refine J_aload_n hX 0 dX8_buy_7 rfl ?_
  refine J_getr hX 77 0 dX8_buy_8 jc_77 rfl rfl (by decide) inlX8 wm_4_19 ?_
  refine J_iload_n hX 1 dX8_buy_11 rfl ?_
  refine J_dup2 hX dX8_buy_12 rfl rfl ?_
  refine J_iald hX 78 x dX8_buy_13 jc_78 rfl (by omega) (by omega) ?_
  refine J_aload_n hX 0 dX8_buy_14 rfl ?_
  refine J_getr hX 77 3 dX8_buy_15 jc_77 rfl rfl (by decide) inlX8 wm_4_22 ?_
  refine J_iload_n hX 2 dX8_buy_18 rfl ?_
  refine J_iald hX 81 y dX8_buy_19 jc_81 rfl (by omega) (by omega) ?_
  refine J_isub hX dX8_buy_20 ?_
  refine J_iast hX 78 x dX8_buy_21 jc_78 rfl (by omega) (by omega) ?_
  refine J_aload_n hX 0 dX8_buy_22 rfl ?_
  refine J_dup hX dX8_buy_23 rfl ?_
  refine J_geti hX 77 7 dX8_buy_24 jc_77 rfl rfl (by decide) inlX8 wm_16_19 ?_
  refine J_aload_n hX 0 dX8_buy_27 rfl ?_
  refine J_getr hX 77 3 dX8_buy_28 jc_77 rfl rfl (by decide) inlX8 wm_4_22 ?_
  refine J_iload_n hX 2 dX8_buy_31 rfl ?_
  refine J_iald hX 81 y dX8_buy_32 jc_81 rfl (by omega) (by omega) ?_
  refine J_iadd hX dX8_buy_33 ?_
  refine J_puti (ty := .int) hX 77 7 dX8_buy_34 jc_77 rfl rfl (by decide) inlX8 wm_16_19 tyX8 tyX8_ok nmX8 rfl (by decide +kernel) rfl rfl ?_
  exact J_vret hX hZ dX8_buy_37 ⟨rfl, rfl, rfl⟩
set_option maxHeartbeats 4000000 in
set_option maxRecDepth 10000 in
theorem c_X8_happen (l : Launch) (D : va_G) (a : Nat → Nat) (g : Nat → ClassId) (M : jM) (L : jL) (w : Int32) (k : Nat) (hk : k < 6) (v : Int32) (h2 : w = 2 → x_lt v 8) (h4 : w = 4 → x_lt v 6)  : jK l D a g yX8_happen cX8_happen 4 none 4 87 [.ref (a 77), .int w, .int (nI k), .int v] M L none (m_happen M w k v) L := by
  refine jMeth (by decide) (Nat.le_of_ble_eq_true rfl) ?_
  intro G hX hZ
  refine J_cg (loc' := [(0, .ref (a 77)), (1, .int w), (2, .int (nI k)), (3, .int v)]) rfl rfl rfl rfl ?_
  refine J_iload_n hX 1 dX8_happen_0 rfl ?_
  by_cases s1_0 : w = 0
  · refine J_tableIn hX 40 dX8_happen_1 (by rw [s1_0]; decide) (by rw [s1_0]; decide) (by rw [s1_0]; rfl) (by decide) ?_
    refine J_aload_n hX 0 dX8_happen_40 rfl ?_
    refine J_dup hX dX8_happen_41 rfl ?_
    refine J_geti hX 77 5 dX8_happen_42 jc_77 rfl rfl (by decide) inlX8 wm_8_4 ?_
    refine J_iload_n hX 3 dX8_happen_45 rfl ?_
    refine J_iadd hX dX8_happen_46 ?_
    refine J_puti (ty := .int) hX 77 5 dX8_happen_47 jc_77 rfl rfl (by decide) inlX8 wm_8_4 tyX8 tyX8_ok nmX8 rfl (by decide +kernel) rfl rfl ?_
    refine J_goto hX 136 dX8_happen_50 (by decide) ?_
    exact J_vret hX hZ dX8_happen_136 ⟨rfl, by simp [m_happen, s1_0], rfl⟩
  by_cases s1_1 : w = 1
  · refine J_tableIn hX 53 dX8_happen_1 (by rw [s1_1]; decide) (by rw [s1_1]; decide) (by rw [s1_1]; rfl) (by decide) ?_
    refine J_aload_n hX 0 dX8_happen_53 rfl ?_
    refine J_getr hX 77 0 dX8_happen_54 jc_77 rfl rfl (by decide) inlX8 wm_4_19 ?_
    refine J_iload_n hX 2 dX8_happen_57 rfl ?_
    refine J_dup2 hX dX8_happen_58 rfl rfl ?_
    refine J_iald hX 78 k dX8_happen_59 jc_78 rfl (by omega) (by omega) ?_
    refine J_iload_n hX 3 dX8_happen_60 rfl ?_
    refine J_iadd hX dX8_happen_61 ?_
    refine J_iast hX 78 k dX8_happen_62 jc_78 rfl (by omega) (by omega) ?_
    refine J_aload_n hX 0 dX8_happen_63 rfl ?_
    refine J_dup hX dX8_happen_64 rfl ?_
    refine J_geti hX 77 6 dX8_happen_65 jc_77 rfl rfl (by decide) inlX8 wm_8_5 ?_
    refine J_iload_n hX 3 dX8_happen_68 rfl ?_
    refine J_iadd hX dX8_happen_69 ?_
    refine J_puti (ty := .int) hX 77 6 dX8_happen_70 jc_77 rfl rfl (by decide) inlX8 wm_8_5 tyX8 tyX8_ok nmX8 rfl (by decide +kernel) rfl rfl ?_
    refine J_goto hX 136 dX8_happen_73 (by decide) ?_
    exact J_vret hX hZ dX8_happen_136 ⟨rfl, by simp [m_happen, s1_0, s1_1], rfl⟩
  by_cases s1_2 : w = 2
  · refine J_tableIn hX 76 dX8_happen_1 (by rw [s1_2]; decide) (by rw [s1_2]; decide) (by rw [s1_2]; rfl) (by decide) ?_
    have hv := h2 s1_2
    refine J_aload_n hX 0 dX8_happen_76 rfl ?_
    refine J_iload_n hX 2 dX8_happen_77 rfl ?_
    refine J_iload_n hX 3 dX8_happen_78 rfl ?_
    refine J_topi (y := nI v.toNatClampNeg) hv.2 ?_
    refine J_callV hX 77 [.int (nI k), .int (nI v.toNatClampNeg)] [] dX8_happen_79 (c_X8_buy l D a g M L k (by omega) v.toNatClampNeg hv.1) lk_X8_186 jc_77 rfl rfl rfl (Nat.le_of_ble_eq_true rfl) (Nat.le_of_ble_eq_true rfl) (Nat.le_of_ble_eq_true rfl) (J_eq (st := []) rfl ?_)
    refine J_goto hX 136 dX8_happen_82 (by decide) ?_
    exact J_vret hX hZ dX8_happen_136 ⟨rfl, by simp [m_happen, s1_0, s1_1, s1_2], rfl⟩
  by_cases s1_3 : w = 3
  · refine J_tableIn hX 85 dX8_happen_1 (by rw [s1_3]; decide) (by rw [s1_3]; decide) (by rw [s1_3]; rfl) (by decide) ?_
    refine J_aload_n hX 0 dX8_happen_85 rfl ?_
    refine J_iload_n hX 2 dX8_happen_86 rfl ?_
    refine J_iload_n hX 3 dX8_happen_87 rfl ?_
    refine J_callV hX 77 [.int (nI k), .int v] [] dX8_happen_88 (c_X8_swap l D a g M L k (by omega) v) lk_X8_190 jc_77 rfl rfl rfl (Nat.le_of_ble_eq_true rfl) (Nat.le_of_ble_eq_true rfl) (Nat.le_of_ble_eq_true rfl) (J_eq (st := []) rfl ?_)
    refine J_goto hX 136 dX8_happen_91 (by decide) ?_
    exact J_vret hX hZ dX8_happen_136 ⟨rfl, by simp [m_happen, s1_0, s1_1, s1_2, s1_3], rfl⟩
  by_cases s1_4 : w = 4
  · refine J_tableIn hX 94 dX8_happen_1 (by rw [s1_4]; decide) (by rw [s1_4]; decide) (by rw [s1_4]; rfl) (by decide) ?_
    have hv := h4 s1_4
    refine J_aload_n hX 0 dX8_happen_94 rfl ?_
    refine J_iload_n hX 2 dX8_happen_95 rfl ?_
    refine J_iload_n hX 3 dX8_happen_96 rfl ?_
    refine J_topi (y := nI v.toNatClampNeg) hv.2 ?_
    refine J_callV hX 77 [.int (nI k), .int (nI v.toNatClampNeg)] [] dX8_happen_97 (c_X8_pay l D a g M L k (by omega) v.toNatClampNeg hv.1) lk_X8_193 jc_77 rfl rfl rfl (Nat.le_of_ble_eq_true rfl) (Nat.le_of_ble_eq_true rfl) (Nat.le_of_ble_eq_true rfl) (J_eq (st := []) rfl ?_)
    refine J_goto hX 136 dX8_happen_100 (by decide) ?_
    exact J_vret hX hZ dX8_happen_136 ⟨rfl, by simp [m_happen, s1_0, s1_1, s1_2, s1_3, s1_4], rfl⟩
  by_cases s1_5 : w = 5
  · refine J_tableIn hX 103 dX8_happen_1 (by rw [s1_5]; decide) (by rw [s1_5]; decide) (by rw [s1_5]; rfl) (by decide) ?_
    refine J_aload_n hX 0 dX8_happen_103 rfl ?_
    refine J_dup hX dX8_happen_104 rfl ?_
    refine J_geti hX 77 5 dX8_happen_105 jc_77 rfl rfl (by decide) inlX8 wm_8_4 ?_
    refine J_iload_n hX 3 dX8_happen_108 rfl ?_
    refine J_isub hX dX8_happen_109 ?_
    refine J_puti (ty := .int) hX 77 5 dX8_happen_110 jc_77 rfl rfl (by decide) inlX8 wm_8_4 tyX8 tyX8_ok nmX8 rfl (by decide +kernel) rfl rfl ?_
    refine J_aload_n hX 0 dX8_happen_113 rfl ?_
    refine J_getr hX 77 0 dX8_happen_114 jc_77 rfl rfl (by decide) inlX8 wm_4_19 ?_
    refine J_iload_n hX 2 dX8_happen_117 rfl ?_
    refine J_dup2 hX dX8_happen_118 rfl rfl ?_
    refine J_iald hX 78 k dX8_happen_119 jc_78 rfl (by omega) (by omega) ?_
    refine J_iload_n hX 3 dX8_happen_120 rfl ?_
    refine J_iadd hX dX8_happen_121 ?_
    refine J_iast hX 78 k dX8_happen_122 jc_78 rfl (by omega) (by omega) ?_
    refine J_goto hX 136 dX8_happen_123 (by decide) ?_
    exact J_vret hX hZ dX8_happen_136 ⟨rfl, by simp [m_happen, s1_0, s1_1, s1_2, s1_3, s1_4, s1_5], rfl⟩
  have t1_0 := lv_neT s1_0 (show (0 : Int32).toInt = 0 from rfl)
  have t1_1 := lv_neT s1_1 (show (1 : Int32).toInt = 1 from rfl)
  have t1_2 := lv_neT s1_2 (show (2 : Int32).toInt = 2 from rfl)
  have t1_3 := lv_neT s1_3 (show (3 : Int32).toInt = 3 from rfl)
  have t1_4 := lv_neT s1_4 (show (4 : Int32).toInt = 4 from rfl)
  have t1_5 := lv_neT s1_5 (show (5 : Int32).toInt = 5 from rfl)
  refine J_tableOut hX 126 dX8_happen_1 (by omega) (by decide) ?_
  refine J_aload_n hX 0 dX8_happen_126 rfl ?_
  refine J_dup hX dX8_happen_127 rfl ?_
  refine J_geti hX 77 8 dX8_happen_128 jc_77 rfl rfl (by decide) inlX8 wm_16_20 ?_
  refine J_iconst (v := 1) hX dX8_happen_131 (by decide) ?_
  refine J_iadd hX dX8_happen_132 ?_
  refine J_puti (ty := .int) hX 77 8 dX8_happen_133 jc_77 rfl rfl (by decide) inlX8 wm_16_20 tyX8 tyX8_ok nmX8 rfl (by decide +kernel) rfl rfl ?_
  exact J_vret hX hZ dX8_happen_136 ⟨rfl, by simp [m_happen, s1_0, s1_1, s1_2, s1_3, s1_4, s1_5], rfl⟩
def m_lotsF (M : jM) (w : Int32) : Nat → Int32 := fun n => if M 82 n = w then (1 : Int32) <<< (nI n &&& 31) else 0
def m_lotsN (M : jM) (w : Int32) : Nat → Int32
  | 0 => 0
  | n + 1 => m_lotsN M w n ||| m_lotsF M w n
def m_lotsOf (M : jM) (w : Int32) : Int32 := m_lotsN M w 8
def m_owes (M : jM) (x : Nat) : Int32 := jSum (fun e => M 80 (6 * x + e)) 0 6
def m_ofOne (M : jM) (x : Nat) (k : Int32) : Int32 := if k = 0 then M 78 x else if k = 1 then M 79 x else if k = 2 then m_lotsOf M (nI x) else m_owes M x
def m_ofAll (M : jM) (k : Int32) : Int32 := if k = 0 then m_notes M else if k = 1 then m_land M else if k = 2 then m_rate M else if k = 3 then M 77 7 else if k = 4 then M 77 6 else M 77 8
set_option maxHeartbeats 4000000 in
set_option maxRecDepth 10000 in
theorem c_X8_lotsOf (l : Launch) (D : va_G) (a : Nat → Nat) (g : Nat → ClassId) (M : jM) (L : jL) (s : Int32)  : jK l D a g yX8_lotsOf cX8_lotsOf 4 (some .int) 0 0 [.ref (a 77), .int s] M L (some (.int (m_lotsOf M s))) M L := by
  refine jMeth (by decide) (Nat.le_of_ble_eq_true rfl) ?_
  intro G hX hZ
  refine J_cg (loc' := [(0, .ref (a 77)), (1, .int s)]) rfl rfl rfl rfl ?_
  refine J_iconst (v := 0) hX dX8_lotsOf_0 (by decide) ?_
  refine J_istore_n (loc' := [(2, .int 0), (0, .ref (a 77)), (1, .int s)]) hX dX8_lotsOf_1 (by decide) rfl ?_
  refine J_iconst (v := 0) hX dX8_lotsOf_2 (by decide) ?_
  refine J_istore_n (loc' := [(3, .int 0), (2, .int 0), (0, .ref (a 77)), (1, .int s)]) hX dX8_lotsOf_3 (by decide) rfl ?_
  have key4 : ∀ (fu4 : Nat) (i : Nat), 8 - i < fu4 → (i ≤ 8) → J l D a g G 4 M L 4 [(0, .ref (a 77)), (1, .int s), (2, .int (m_lotsN M s i)), (3, .int (nI i))] [] := by
    intro fu4
    induction fu4 with
    | zero => intro i hmu; exact absurd hmu (Nat.not_lt_zero _)
    | succ fu4 ih4 =>
      intro i hmu4 hi
      refine J_iload_n hX 3 dX8_lotsOf_4 rfl ?_
      refine J_bipush (v := 8) hX dX8_lotsOf_5 (by decide) ?_
      refine J_cmpN_ge hX 36 i 8 dX8_lotsOf_7 (by decide) rfl rfl (by omega) (by omega) (fun h7 => ?_) (fun h7 => ?_)
      · skip
        refine J_iload_n hX 2 dX8_lotsOf_36 rfl ?_
        exact J_ret hX hZ dX8_lotsOf_37 rfl rfl ⟨by rw [show i = 8 by omega]; rfl, rfl, rfl⟩
      · skip
        refine J_iload_n hX 2 dX8_lotsOf_10 rfl ?_
        refine J_aload_n hX 0 dX8_lotsOf_11 rfl ?_
        refine J_getr hX 77 4 dX8_lotsOf_12 jc_77 rfl rfl (by decide) inlX8 wm_4_23 ?_
        refine J_iload_n hX 3 dX8_lotsOf_15 rfl ?_
        refine J_iald hX 82 i dX8_lotsOf_16 jc_82 rfl (by omega) (by omega) ?_
        refine J_iload_n hX 1 dX8_lotsOf_17 rfl ?_
        refine J_icmp_ne hX 27 dX8_lotsOf_18 (by decide) (fun h18 => ?_) (fun h18 => ?_)
        · skip
          refine J_iconst (v := 0) hX dX8_lotsOf_27 (by decide) ?_
          refine J_topi (y := m_lotsF M s i) (by rw [m_lotsF]; (first | rw [if_neg h18] | rw [if_pos h18] | rw [if_pos (Classical.not_not.mp h18)])) ?_
          refine J_ior hX dX8_lotsOf_28 ?_
          refine J_istore_n (loc' := [(2, .int ((m_lotsN M s i) ||| (m_lotsF M s i))), (0, .ref (a 77)), (1, .int s), (3, .int (nI i))]) hX dX8_lotsOf_29 (by decide) rfl ?_
          refine J_iinc (v := nI (i + 1)) (loc' := [(3, .int (nI (i + 1))), (2, .int ((m_lotsN M s i) ||| (m_lotsF M s i))), (0, .ref (a 77)), (1, .int s)]) hX 3 dX8_lotsOf_30 rfl (jinc i) (by decide) rfl ?_
          refine J_goto hX 4 dX8_lotsOf_33 (by decide) ?_
          refine J_sub (loc' := [(0, .ref (a 77)), (1, .int s), (2, .int ((m_lotsN M s i) ||| (m_lotsF M s i))), (3, .int (nI (i + 1)))]) [2, 3, 1, 0] rfl ?_
          refine J_seti (y := m_lotsN M s (i + 1)) (loc' := [(0, .ref (a 77)), (1, .int s), (2, .int (m_lotsN M s (i + 1))), (3, .int (nI (i + 1)))]) 2 rfl rfl rfl ?_
          exact ih4  (i + 1) (by omega) (by omega)
        · skip
          refine J_iconst (v := 1) hX dX8_lotsOf_21 (by decide) ?_
          refine J_iload_n hX 3 dX8_lotsOf_22 rfl ?_
          refine J_ishl hX dX8_lotsOf_23 ?_
          refine J_goto hX 28 dX8_lotsOf_24 (by decide) ?_
          refine J_topi (y := m_lotsF M s i) (by rw [m_lotsF]; (first | rw [if_neg h18] | rw [if_pos h18] | rw [if_pos (Classical.not_not.mp h18)])) ?_
          refine J_ior hX dX8_lotsOf_28 ?_
          refine J_istore_n (loc' := [(2, .int ((m_lotsN M s i) ||| (m_lotsF M s i))), (0, .ref (a 77)), (1, .int s), (3, .int (nI i))]) hX dX8_lotsOf_29 (by decide) rfl ?_
          refine J_iinc (v := nI (i + 1)) (loc' := [(3, .int (nI (i + 1))), (2, .int ((m_lotsN M s i) ||| (m_lotsF M s i))), (0, .ref (a 77)), (1, .int s)]) hX 3 dX8_lotsOf_30 rfl (jinc i) (by decide) rfl ?_
          refine J_goto hX 4 dX8_lotsOf_33 (by decide) ?_
          refine J_sub (loc' := [(0, .ref (a 77)), (1, .int s), (2, .int ((m_lotsN M s i) ||| (m_lotsF M s i))), (3, .int (nI (i + 1)))]) [2, 3, 1, 0] rfl ?_
          refine J_seti (y := m_lotsN M s (i + 1)) (loc' := [(0, .ref (a 77)), (1, .int s), (2, .int (m_lotsN M s (i + 1))), (3, .int (nI (i + 1)))]) 2 rfl rfl rfl ?_
          exact ih4  (i + 1) (by omega) (by omega)
  refine J_sub (loc' := [(0, .ref (a 77)), (1, .int s), (2, .int 0), (3, .int 0)]) [2, 3, 1, 0] rfl ?_
  refine J_seti (y := m_lotsN M s 0) (loc' := [(0, .ref (a 77)), (1, .int s), (2, .int (m_lotsN M s 0)), (3, .int 0)]) 2 rfl rfl rfl ?_
  refine J_seti (y := nI 0) (loc' := [(0, .ref (a 77)), (1, .int s), (2, .int (m_lotsN M s 0)), (3, .int (nI 0))]) 3 rfl rfl rfl ?_
  exact key4 _ 0 (Nat.lt_succ_self _) (by omega)
set_option maxHeartbeats 4000000 in
set_option maxRecDepth 10000 in
theorem c_X8_owesInAll (l : Launch) (D : va_G) (a : Nat → Nat) (g : Nat → ClassId) (M : jM) (L : jL) (x : Nat) (hx : x < 6)  : jK l D a g yX8_owesInAll cX8_owesInAll 4 (some .int) 0 0 [.ref (a 77), .int (nI x)] M L (some (.int (m_owes M x))) M L := by
  refine jMeth (by decide) (Nat.le_of_ble_eq_true rfl) ?_
  intro G hX hZ
  refine J_cg (loc' := [(0, .ref (a 77)), (1, .int (nI x))]) rfl rfl rfl rfl ?_
  refine J_iconst (v := 0) hX dX8_owesInAll_0 (by decide) ?_
  refine J_istore_n (loc' := [(2, .int 0), (0, .ref (a 77)), (1, .int (nI x))]) hX dX8_owesInAll_1 (by decide) rfl ?_
  refine J_iconst (v := 0) hX dX8_owesInAll_2 (by decide) ?_
  refine J_istore_n (loc' := [(3, .int 0), (2, .int 0), (0, .ref (a 77)), (1, .int (nI x))]) hX dX8_owesInAll_3 (by decide) rfl ?_
  have key4 : ∀ (fu4 : Nat) (y : Nat), 6 - y < fu4 → (y ≤ 6) → J l D a g G 4 M L 4 [(0, .ref (a 77)), (1, .int (nI x)), (2, .int (jSum (fun e => M 80 (6 * x + e)) 0 y)), (3, .int (nI y))] [] := by
    intro fu4
    induction fu4 with
    | zero => intro y hmu; exact absurd hmu (Nat.not_lt_zero _)
    | succ fu4 ih4 =>
      intro y hmu4 hy
      refine J_iload_n hX 3 dX8_owesInAll_4 rfl ?_
      refine J_bipush (v := 6) hX dX8_owesInAll_5 (by decide) ?_
      refine J_cmpN_ge hX 30 y 6 dX8_owesInAll_7 (by decide) rfl rfl (by omega) (by omega) (fun h7 => ?_) (fun h7 => ?_)
      · skip
        refine J_iload_n hX 2 dX8_owesInAll_30 rfl ?_
        exact J_ret hX hZ dX8_owesInAll_31 rfl rfl ⟨by rw [show y = 6 by omega]; rfl, rfl, rfl⟩
      · skip
        refine J_iload_n hX 2 dX8_owesInAll_10 rfl ?_
        refine J_aload_n hX 0 dX8_owesInAll_11 rfl ?_
        refine J_getr hX 77 2 dX8_owesInAll_12 jc_77 rfl rfl (by decide) inlX8 wm_4_21 ?_
        refine J_bipush (v := 6) hX dX8_owesInAll_15 (by decide) ?_
        refine J_iload_n hX 1 dX8_owesInAll_17 rfl ?_
        refine J_imul hX dX8_owesInAll_18 ?_
        refine J_topi (y := nI (6 * x)) (pk_mul 6 x) ?_
        refine J_iload_n hX 3 dX8_owesInAll_19 rfl ?_
        refine J_iadd hX dX8_owesInAll_20 ?_
        refine J_topi (y := nI (6 * x + y)) (nI_add _ _) ?_
        refine J_iald hX 80 (6 * x + y) dX8_owesInAll_21 jc_80 rfl (by omega) (by omega) ?_
        refine J_iadd hX dX8_owesInAll_22 ?_
        refine J_istore_n (loc' := [(2, .int ((jSum (fun e => M 80 (6 * x + e)) 0 y) + (M 80 (6 * x + y)))), (0, .ref (a 77)), (1, .int (nI x)), (3, .int (nI y))]) hX dX8_owesInAll_23 (by decide) rfl ?_
        refine J_iinc (v := nI (y + 1)) (loc' := [(3, .int (nI (y + 1))), (2, .int ((jSum (fun e => M 80 (6 * x + e)) 0 y) + (M 80 (6 * x + y)))), (0, .ref (a 77)), (1, .int (nI x))]) hX 3 dX8_owesInAll_24 rfl (jinc y) (by decide) rfl ?_
        refine J_goto hX 4 dX8_owesInAll_27 (by decide) ?_
        refine J_sub (loc' := [(0, .ref (a 77)), (1, .int (nI x)), (2, .int ((jSum (fun e => M 80 (6 * x + e)) 0 y) + (M 80 (6 * x + y)))), (3, .int (nI (y + 1)))]) [2, 3, 1, 0] rfl ?_
        refine J_seti (y := jSum (fun e => M 80 (6 * x + e)) 0 (y + 1)) (loc' := [(0, .ref (a 77)), (1, .int (nI x)), (2, .int (jSum (fun e => M 80 (6 * x + e)) 0 (y + 1))), (3, .int (nI (y + 1)))]) 2 rfl rfl rfl ?_
        exact ih4  (y + 1) (by omega) (by omega)
  refine J_sub (loc' := [(0, .ref (a 77)), (1, .int (nI x)), (2, .int 0), (3, .int 0)]) [2, 3, 1, 0] rfl ?_
  refine J_seti (y := jSum (fun e => M 80 (6 * x + e)) 0 0) (loc' := [(0, .ref (a 77)), (1, .int (nI x)), (2, .int (jSum (fun e => M 80 (6 * x + e)) 0 0)), (3, .int 0)]) 2 rfl rfl rfl ?_
  refine J_seti (y := nI 0) (loc' := [(0, .ref (a 77)), (1, .int (nI x)), (2, .int (jSum (fun e => M 80 (6 * x + e)) 0 0)), (3, .int (nI 0))]) 3 rfl rfl rfl ?_
  exact key4 _ 0 (Nat.lt_succ_self _) (by omega)
set_option maxHeartbeats 4000000 in
set_option maxRecDepth 10000 in
theorem c_X8_ofOne (l : Launch) (D : va_G) (a : Nat → Nat) (g : Nat → ClassId) (M : jM) (L : jL) (x : Nat) (hx : x < 6) (k : Int32)  : jK l D a g yX8_ofOne cX8_ofOne 3 (some .int) 1 23 [.ref (a 77), .int (nI x), .int k] M L (some (.int (m_ofOne M x k))) M L := by
  refine jMeth (by decide) (Nat.le_of_ble_eq_true rfl) ?_
  intro G hX hZ
  refine J_cg (loc' := [(0, .ref (a 77)), (1, .int (nI x)), (2, .int k)]) rfl rfl rfl rfl ?_
  refine J_iload_n hX 2 dX8_ofOne_0 rfl ?_
  by_cases s1_0 : k = 0
  · refine J_tableIn hX 28 dX8_ofOne_1 (by rw [s1_0]; decide) (by rw [s1_0]; decide) (by rw [s1_0]; rfl) (by decide) ?_
    refine J_aload_n hX 0 dX8_ofOne_28 rfl ?_
    refine J_getr hX 77 0 dX8_ofOne_29 jc_77 rfl rfl (by decide) inlX8 wm_4_19 ?_
    refine J_iload_n hX 1 dX8_ofOne_32 rfl ?_
    refine J_iald hX 78 x dX8_ofOne_33 jc_78 rfl (by omega) (by omega) ?_
    exact J_ret hX hZ dX8_ofOne_34 rfl rfl ⟨by simp [m_ofOne, s1_0], rfl, rfl⟩
  by_cases s1_1 : k = 1
  · refine J_tableIn hX 35 dX8_ofOne_1 (by rw [s1_1]; decide) (by rw [s1_1]; decide) (by rw [s1_1]; rfl) (by decide) ?_
    refine J_aload_n hX 0 dX8_ofOne_35 rfl ?_
    refine J_getr hX 77 1 dX8_ofOne_36 jc_77 rfl rfl (by decide) inlX8 wm_4_20 ?_
    refine J_iload_n hX 1 dX8_ofOne_39 rfl ?_
    refine J_iald hX 79 x dX8_ofOne_40 jc_79 rfl (by omega) (by omega) ?_
    exact J_ret hX hZ dX8_ofOne_41 rfl rfl ⟨by simp [m_ofOne, s1_0, s1_1], rfl, rfl⟩
  by_cases s1_2 : k = 2
  · refine J_tableIn hX 42 dX8_ofOne_1 (by rw [s1_2]; decide) (by rw [s1_2]; decide) (by rw [s1_2]; rfl) (by decide) ?_
    refine J_aload_n hX 0 dX8_ofOne_42 rfl ?_
    refine J_iload_n hX 1 dX8_ofOne_43 rfl ?_
    refine J_callV hX 77 [.int (nI x)] [] dX8_ofOne_44 (c_X8_lotsOf l D a g M L (nI x)) lk_X8_229 jc_77 rfl rfl rfl (Nat.le_of_ble_eq_true rfl) (Nat.le_of_ble_eq_true rfl) (Nat.le_of_ble_eq_true rfl) (J_eq (st := [.int (m_lotsOf M (nI x))]) rfl ?_)
    exact J_ret hX hZ dX8_ofOne_47 rfl rfl ⟨by simp [m_ofOne, s1_0, s1_1, s1_2], rfl, rfl⟩
  have t1_0 := lv_neT s1_0 (show (0 : Int32).toInt = 0 from rfl)
  have t1_1 := lv_neT s1_1 (show (1 : Int32).toInt = 1 from rfl)
  have t1_2 := lv_neT s1_2 (show (2 : Int32).toInt = 2 from rfl)
  refine J_tableOut hX 48 dX8_ofOne_1 (by omega) (by decide) ?_
  refine J_aload_n hX 0 dX8_ofOne_48 rfl ?_
  refine J_iload_n hX 1 dX8_ofOne_49 rfl ?_
  refine J_callV hX 77 [.int (nI x)] [] dX8_ofOne_50 (c_X8_owesInAll l D a g M L x (by omega)) lk_X8_232 jc_77 rfl rfl rfl (Nat.le_of_ble_eq_true rfl) (Nat.le_of_ble_eq_true rfl) (Nat.le_of_ble_eq_true rfl) (J_eq (st := [.int (m_owes M x)]) rfl ?_)
  exact J_ret hX hZ dX8_ofOne_53 rfl rfl ⟨by simp [m_ofOne, s1_0, s1_1, s1_2], rfl, rfl⟩
set_option maxHeartbeats 4000000 in
set_option maxRecDepth 10000 in
theorem c_X8_ofAll (l : Launch) (D : va_G) (a : Nat → Nat) (g : Nat → ClassId) (M : jM) (L : jL) (k : Int32)  : jK l D a g yX8_ofAll cX8_ofAll 2 (some .int) 2 44 [.ref (a 77), .int k] M L (some (.int (m_ofAll M k))) M L := by
  refine jMeth (by decide) (Nat.le_of_ble_eq_true rfl) ?_
  intro G hX hZ
  refine J_cg (loc' := [(0, .ref (a 77)), (1, .int k)]) rfl rfl rfl rfl ?_
  refine J_iload_n hX 1 dX8_ofAll_0 rfl ?_
  by_cases s1_0 : k = 0
  · refine J_tableIn hX 36 dX8_ofAll_1 (by rw [s1_0]; decide) (by rw [s1_0]; decide) (by rw [s1_0]; rfl) (by decide) ?_
    refine J_aload_n hX 0 dX8_ofAll_36 rfl ?_
    refine J_callV hX 77 [] [] dX8_ofAll_37 (c_X8_notes l D a g M L ) lk_X8_157 jc_77 rfl rfl rfl (Nat.le_of_ble_eq_true rfl) (Nat.le_of_ble_eq_true rfl) (Nat.le_of_ble_eq_true rfl) (J_eq (st := [.int (m_notes M)]) rfl ?_)
    exact J_ret hX hZ dX8_ofAll_40 rfl rfl ⟨by simp [m_ofAll, s1_0], rfl, rfl⟩
  by_cases s1_1 : k = 1
  · refine J_tableIn hX 41 dX8_ofAll_1 (by rw [s1_1]; decide) (by rw [s1_1]; decide) (by rw [s1_1]; rfl) (by decide) ?_
    refine J_aload_n hX 0 dX8_ofAll_41 rfl ?_
    refine J_callV hX 77 [] [] dX8_ofAll_42 (c_X8_land l D a g M L ) lk_X8_153 jc_77 rfl rfl rfl (Nat.le_of_ble_eq_true rfl) (Nat.le_of_ble_eq_true rfl) (Nat.le_of_ble_eq_true rfl) (J_eq (st := [.int (m_land M)]) rfl ?_)
    exact J_ret hX hZ dX8_ofAll_45 rfl rfl ⟨by simp [m_ofAll, s1_0, s1_1], rfl, rfl⟩
  by_cases s1_2 : k = 2
  · refine J_tableIn hX 46 dX8_ofAll_1 (by rw [s1_2]; decide) (by rw [s1_2]; decide) (by rw [s1_2]; rfl) (by decide) ?_
    refine J_aload_n hX 0 dX8_ofAll_46 rfl ?_
    refine J_callV hX 77 [] [] dX8_ofAll_47 (c_X8_rate l D a g M L ) lk_X8_164 jc_77 rfl rfl rfl (Nat.le_of_ble_eq_true rfl) (Nat.le_of_ble_eq_true rfl) (Nat.le_of_ble_eq_true rfl) (J_eq (st := [.int (m_rate M)]) rfl ?_)
    exact J_ret hX hZ dX8_ofAll_50 rfl rfl ⟨by simp [m_ofAll, s1_0, s1_1, s1_2], rfl, rfl⟩
  by_cases s1_3 : k = 3
  · refine J_tableIn hX 51 dX8_ofAll_1 (by rw [s1_3]; decide) (by rw [s1_3]; decide) (by rw [s1_3]; rfl) (by decide) ?_
    refine J_aload_n hX 0 dX8_ofAll_51 rfl ?_
    refine J_geti hX 77 7 dX8_ofAll_52 jc_77 rfl rfl (by decide) inlX8 wm_16_19 ?_
    exact J_ret hX hZ dX8_ofAll_55 rfl rfl ⟨by simp [m_ofAll, s1_0, s1_1, s1_2, s1_3], rfl, rfl⟩
  by_cases s1_4 : k = 4
  · refine J_tableIn hX 56 dX8_ofAll_1 (by rw [s1_4]; decide) (by rw [s1_4]; decide) (by rw [s1_4]; rfl) (by decide) ?_
    refine J_aload_n hX 0 dX8_ofAll_56 rfl ?_
    refine J_geti hX 77 6 dX8_ofAll_57 jc_77 rfl rfl (by decide) inlX8 wm_8_5 ?_
    exact J_ret hX hZ dX8_ofAll_60 rfl rfl ⟨by simp [m_ofAll, s1_0, s1_1, s1_2, s1_3, s1_4], rfl, rfl⟩
  have t1_0 := lv_neT s1_0 (show (0 : Int32).toInt = 0 from rfl)
  have t1_1 := lv_neT s1_1 (show (1 : Int32).toInt = 1 from rfl)
  have t1_2 := lv_neT s1_2 (show (2 : Int32).toInt = 2 from rfl)
  have t1_3 := lv_neT s1_3 (show (3 : Int32).toInt = 3 from rfl)
  have t1_4 := lv_neT s1_4 (show (4 : Int32).toInt = 4 from rfl)
  refine J_tableOut hX 61 dX8_ofAll_1 (by omega) (by decide) ?_
  refine J_aload_n hX 0 dX8_ofAll_61 rfl ?_
  refine J_geti hX 77 8 dX8_ofAll_62 jc_77 rfl rfl (by decide) inlX8 wm_16_20 ?_
  exact J_ret hX hZ dX8_ofAll_65 rfl rfl ⟨by simp [m_ofAll, s1_0, s1_1, s1_2, s1_3, s1_4], rfl, rfl⟩
def m_kp1 (M : jM) (i : Nat) : jM := fun c j => if c = 90 then (if j < i then M 78 j else if 6 ≤ j ∧ j < 6 + i then M 79 (j - 6) else M 90 j) else M c j
theorem m_kp1_s {M : jM} {i : Nat} (h : i < 6) : jU (jU (m_kp1 M i) 90 i (M 78 i)) 90 (6 + i) (M 79 i) = m_kp1 M (i + 1) := by
  funext c j
  simp only [jU, m_kp1]
  repeat' split
  all_goals first | rfl | omega | (subst_vars; rfl) | (congr 1; omega) | (congr 2; omega) | (exfalso; omega)
def m_kp2 (M : jM) (i : Nat) : jM := fun c j => if c = 90 ∧ 12 ≤ j ∧ j < 12 + i then M 80 (j - 12) else M c j
theorem m_kp2_s {M : jM} {i : Nat} : jU (m_kp2 M i) 90 (12 + i) (M 80 i) = m_kp2 M (i + 1) := by
  funext c j
  simp only [jU, m_kp2]
  repeat' split
  all_goals first | rfl | omega | (subst_vars; rfl) | (congr 1; omega) | (congr 2; omega) | (exfalso; omega)
def m_kp3 (M : jM) (i : Nat) : jM := fun c j => if c = 90 ∧ 48 ≤ j ∧ j < 48 + i then M 82 (j - 48) else M c j
theorem m_kp3_s {M : jM} {i : Nat} : jU (m_kp3 M i) 90 (48 + i) (M 82 i) = m_kp3 M (i + 1) := by
  funext c j
  simp only [jU, m_kp3]
  repeat' split
  all_goals first | rfl | omega | (subst_vars; rfl) | (congr 1; omega) | (congr 2; omega) | (exfalso; omega)
def m_keep (M : jM) : jM := fun c j => if c = 90 then (if j < 6 then M 78 j else if j < 12 then M 79 (j - 6) else if j < 48 then M 80 (j - 12) else if j < 56 then M 82 (j - 48) else if j = 56 then M 77 5 else if j = 57 then M 77 6 else if j = 58 then M 77 7 else if j = 59 then M 77 8 else M 90 j) else M c j
theorem m_keep_e {M : jM} : jU (jU (jU (jU (m_kp3 (m_kp2 (m_kp1 M 6) 36) 8) 90 56 (M 77 5)) 90 57 (M 77 6)) 90 58 (M 77 7)) 90 59 (M 77 8) = m_keep M := by
  funext c j
  by_cases hc : c = 90
  · subst hc
    simp only [jU, m_kp1, m_kp2, m_kp3, m_keep, true_and, if_true]
    by_cases h1 : j < 6
    · rw [if_neg (by omega), if_neg (by omega), if_neg (by omega), if_neg (by omega), if_neg (by omega), if_neg (by omega), if_pos h1, if_pos h1]
    by_cases h2 : j < 12
    · rw [if_neg (by omega), if_neg (by omega), if_neg (by omega), if_neg (by omega), if_neg (by omega), if_neg (by omega), if_neg h1, if_pos (by omega), if_neg h1, if_pos h2]
    by_cases h3 : j < 48
    · rw [if_neg (by omega), if_neg (by omega), if_neg (by omega), if_neg (by omega), if_neg (by omega), if_pos (by omega), if_neg h1, if_neg h2, if_pos h3]; rfl
    by_cases h4 : j < 56
    · rw [if_neg (by omega), if_neg (by omega), if_neg (by omega), if_neg (by omega), if_pos (by omega), if_neg h1, if_neg h2, if_neg h3, if_pos h4]; rfl
    repeat' split
    all_goals first | rfl | omega
  · simp only [jU, m_kp1, m_kp2, m_kp3, m_keep, hc, false_and, if_false]
set_option maxHeartbeats 4000000 in
set_option maxRecDepth 10000 in
theorem c_X8_keepNow (l : Launch) (D : va_G) (a : Nat → Nat) (g : Nat → ClassId) (M : jM) (L : jL)   : jK l D a g yX8_keepNow cX8_keepNow 2 none 0 0 [.ref (a 77)] M L none (m_keep M) L := by
  refine jMeth (by decide) (Nat.le_of_ble_eq_true rfl) ?_
  intro G hX hZ
  refine J_cg (loc' := [(0, .ref (a 77))]) rfl rfl rfl rfl ?_
  refine J_iconst (v := 0) hX dX8_keepNow_0 (by decide) ?_
  refine J_istore_n (loc' := [(1, .int 0), (0, .ref (a 77))]) hX dX8_keepNow_1 (by decide) rfl ?_
  have key2 : ∀ (fu2 : Nat) (i : Nat), 6 - i < fu2 → (i ≤ 6) → J l D a g G 2 (m_kp1 M i) L 2 [(0, .ref (a 77)), (1, .int (nI i))] [] := by
    intro fu2
    induction fu2 with
    | zero => intro i hmu; exact absurd hmu (Nat.not_lt_zero _)
    | succ fu2 ih2 =>
      intro i hmu2 hi
      refine J_iload_n hX 1 dX8_keepNow_2 rfl ?_
      refine J_bipush (v := 6) hX dX8_keepNow_3 (by decide) ?_
      refine J_cmpN_ge hX 41 i 6 dX8_keepNow_5 (by decide) rfl rfl (by omega) (by omega) (fun h5 => ?_) (fun h5 => ?_)
      · skip
        refine J_iconst (v := 0) hX dX8_keepNow_41 (by decide) ?_
        refine J_istore_n (loc' := [(1, .int 0), (0, .ref (a 77))]) hX dX8_keepNow_42 (by decide) rfl ?_
        have key43 : ∀ (fu43 : Nat) (i : Nat), 36 - i < fu43 → (i ≤ 36) → J l D a g G 2 (m_kp2 (m_kp1 M 6) i) L 43 [(0, .ref (a 77)), (1, .int (nI i))] [] := by
          intro fu43
          induction fu43 with
          | zero => intro i hmu; exact absurd hmu (Nat.not_lt_zero _)
          | succ fu43 ih43 =>
            intro i hmu43 hi
            refine J_iload_n hX 1 dX8_keepNow_43 rfl ?_
            refine J_bipush (v := 36) hX dX8_keepNow_44 (by decide) ?_
            refine J_cmpN_ge hX 70 i 36 dX8_keepNow_46 (by decide) rfl rfl (by omega) (by omega) (fun h46 => ?_) (fun h46 => ?_)
            · skip
              refine J_iconst (v := 0) hX dX8_keepNow_70 (by decide) ?_
              refine J_istore_n (loc' := [(1, .int 0), (0, .ref (a 77))]) hX dX8_keepNow_71 (by decide) rfl ?_
              have key72 : ∀ (fu72 : Nat) (i : Nat), 8 - i < fu72 → (i ≤ 8) → J l D a g G 2 (m_kp3 (m_kp2 (m_kp1 M 6) 36) i) L 72 [(0, .ref (a 77)), (1, .int (nI i))] [] := by
                intro fu72
                induction fu72 with
                | zero => intro i hmu; exact absurd hmu (Nat.not_lt_zero _)
                | succ fu72 ih72 =>
                  intro i hmu72 hi
                  refine J_iload_n hX 1 dX8_keepNow_72 rfl ?_
                  refine J_bipush (v := 8) hX dX8_keepNow_73 (by decide) ?_
                  refine J_cmpN_ge hX 99 i 8 dX8_keepNow_75 (by decide) rfl rfl (by omega) (by omega) (fun h75 => ?_) (fun h75 => ?_)
                  · skip
                    refine J_aload_n hX 0 dX8_keepNow_99 rfl ?_
                    refine J_getr hX 77 19 dX8_keepNow_100 jc_77 rfl rfl (by decide) inlX8 wm_5_7 ?_
                    refine J_bipush (v := 56) hX dX8_keepNow_103 (by decide) ?_
                    refine J_aload_n hX 0 dX8_keepNow_105 rfl ?_
                    refine J_geti hX 77 5 dX8_keepNow_106 jc_77 rfl rfl (by decide) inlX8 wm_8_4 ?_
                    refine J_topi (y := M 77 5) (by simp [m_kp3, m_kp2, m_kp1]) ?_
                    refine J_iast hX 90 56 dX8_keepNow_109 jc_90 rfl (by omega) (by omega) ?_
                    refine J_aload_n hX 0 dX8_keepNow_110 rfl ?_
                    refine J_getr hX 77 19 dX8_keepNow_111 jc_77 rfl rfl (by decide) inlX8 wm_5_7 ?_
                    refine J_bipush (v := 57) hX dX8_keepNow_114 (by decide) ?_
                    refine J_aload_n hX 0 dX8_keepNow_116 rfl ?_
                    refine J_geti hX 77 6 dX8_keepNow_117 jc_77 rfl rfl (by decide) inlX8 wm_8_5 ?_
                    refine J_topi (y := M 77 6) (by simp [m_kp3, m_kp2, m_kp1, jU]) ?_
                    refine J_iast hX 90 57 dX8_keepNow_120 jc_90 rfl (by omega) (by omega) ?_
                    refine J_aload_n hX 0 dX8_keepNow_121 rfl ?_
                    refine J_getr hX 77 19 dX8_keepNow_122 jc_77 rfl rfl (by decide) inlX8 wm_5_7 ?_
                    refine J_bipush (v := 58) hX dX8_keepNow_125 (by decide) ?_
                    refine J_aload_n hX 0 dX8_keepNow_127 rfl ?_
                    refine J_geti hX 77 7 dX8_keepNow_128 jc_77 rfl rfl (by decide) inlX8 wm_16_19 ?_
                    refine J_topi (y := M 77 7) (by simp [m_kp3, m_kp2, m_kp1, jU]) ?_
                    refine J_iast hX 90 58 dX8_keepNow_131 jc_90 rfl (by omega) (by omega) ?_
                    refine J_aload_n hX 0 dX8_keepNow_132 rfl ?_
                    refine J_getr hX 77 19 dX8_keepNow_133 jc_77 rfl rfl (by decide) inlX8 wm_5_7 ?_
                    refine J_bipush (v := 59) hX dX8_keepNow_136 (by decide) ?_
                    refine J_aload_n hX 0 dX8_keepNow_138 rfl ?_
                    refine J_geti hX 77 8 dX8_keepNow_139 jc_77 rfl rfl (by decide) inlX8 wm_16_20 ?_
                    refine J_topi (y := M 77 8) (by simp [m_kp3, m_kp2, m_kp1, jU]) ?_
                    refine J_iast hX 90 59 dX8_keepNow_142 jc_90 rfl (by omega) (by omega) ?_
                    exact J_vret hX hZ dX8_keepNow_143 ⟨rfl, by rw [show i = 8 by omega]; exact m_keep_e, rfl⟩
                  · skip
                    refine J_aload_n hX 0 dX8_keepNow_78 rfl ?_
                    refine J_getr hX 77 19 dX8_keepNow_79 jc_77 rfl rfl (by decide) inlX8 wm_5_7 ?_
                    refine J_bipush (v := 48) hX dX8_keepNow_82 (by decide) ?_
                    refine J_iload_n hX 1 dX8_keepNow_84 rfl ?_
                    refine J_iadd hX dX8_keepNow_85 ?_
                    refine J_topi (y := nI (48 + i)) (nI_add 48 i) ?_
                    refine J_aload_n hX 0 dX8_keepNow_86 rfl ?_
                    refine J_getr hX 77 4 dX8_keepNow_87 jc_77 rfl rfl (by decide) inlX8 wm_4_23 ?_
                    refine J_iload_n hX 1 dX8_keepNow_90 rfl ?_
                    refine J_iald hX 82 i dX8_keepNow_91 jc_82 rfl (by omega) (by omega) ?_
                    refine J_topi (y := m_kp2 (m_kp1 M 6) 36 82 i) (by simp [m_kp3]) ?_
                    refine J_iast hX 90 (48 + i) dX8_keepNow_92 jc_90 rfl (by omega) (by omega) ?_
                    refine J_iinc (v := nI (i + 1)) (loc' := [(1, .int (nI (i + 1))), (0, .ref (a 77))]) hX 1 dX8_keepNow_93 rfl (jinc i) (by decide) rfl ?_
                    refine J_goto hX 72 dX8_keepNow_96 (by decide) ?_
                    refine J_sub (loc' := [(0, .ref (a 77)), (1, .int (nI (i + 1)))]) [1, 0] rfl ?_
                    refine J_cg (M' := m_kp3 (m_kp2 (m_kp1 M 6) 36) (i + 1)) (L' := L) m_kp3_s rfl rfl rfl ?_
                    exact ih72  (i + 1) (by omega) (by omega)
              refine J_sub (loc' := [(0, .ref (a 77)), (1, .int 0)]) [1, 0] rfl ?_
              refine J_seti (y := nI 0) (loc' := [(0, .ref (a 77)), (1, .int (nI 0))]) 1 rfl rfl rfl ?_
              refine J_cg (M' := m_kp3 (m_kp2 (m_kp1 M 6) 36) 0) (L' := L) (by rw [show i = 36 by omega]; funext c j; simp [m_kp3]; try omega) rfl rfl rfl ?_
              exact key72 _ 0 (Nat.lt_succ_self _) (by omega)
            · skip
              refine J_aload_n hX 0 dX8_keepNow_49 rfl ?_
              refine J_getr hX 77 19 dX8_keepNow_50 jc_77 rfl rfl (by decide) inlX8 wm_5_7 ?_
              refine J_bipush (v := 12) hX dX8_keepNow_53 (by decide) ?_
              refine J_iload_n hX 1 dX8_keepNow_55 rfl ?_
              refine J_iadd hX dX8_keepNow_56 ?_
              refine J_topi (y := nI (12 + i)) (nI_add 12 i) ?_
              refine J_aload_n hX 0 dX8_keepNow_57 rfl ?_
              refine J_getr hX 77 2 dX8_keepNow_58 jc_77 rfl rfl (by decide) inlX8 wm_4_21 ?_
              refine J_iload_n hX 1 dX8_keepNow_61 rfl ?_
              refine J_iald hX 80 i dX8_keepNow_62 jc_80 rfl (by omega) (by omega) ?_
              refine J_topi (y := m_kp1 M 6 80 i) (by simp [m_kp2]) ?_
              refine J_iast hX 90 (12 + i) dX8_keepNow_63 jc_90 rfl (by omega) (by omega) ?_
              refine J_iinc (v := nI (i + 1)) (loc' := [(1, .int (nI (i + 1))), (0, .ref (a 77))]) hX 1 dX8_keepNow_64 rfl (jinc i) (by decide) rfl ?_
              refine J_goto hX 43 dX8_keepNow_67 (by decide) ?_
              refine J_sub (loc' := [(0, .ref (a 77)), (1, .int (nI (i + 1)))]) [1, 0] rfl ?_
              refine J_cg (M' := m_kp2 (m_kp1 M 6) (i + 1)) (L' := L) m_kp2_s rfl rfl rfl ?_
              exact ih43  (i + 1) (by omega) (by omega)
        refine J_sub (loc' := [(0, .ref (a 77)), (1, .int 0)]) [1, 0] rfl ?_
        refine J_seti (y := nI 0) (loc' := [(0, .ref (a 77)), (1, .int (nI 0))]) 1 rfl rfl rfl ?_
        refine J_cg (M' := m_kp2 (m_kp1 M 6) 0) (L' := L) (by rw [show i = 6 by omega]; funext c j; simp [m_kp2]; try omega) rfl rfl rfl ?_
        exact key43 _ 0 (Nat.lt_succ_self _) (by omega)
      · skip
        refine J_aload_n hX 0 dX8_keepNow_8 rfl ?_
        refine J_getr hX 77 19 dX8_keepNow_9 jc_77 rfl rfl (by decide) inlX8 wm_5_7 ?_
        refine J_iload_n hX 1 dX8_keepNow_12 rfl ?_
        refine J_aload_n hX 0 dX8_keepNow_13 rfl ?_
        refine J_getr hX 77 0 dX8_keepNow_14 jc_77 rfl rfl (by decide) inlX8 wm_4_19 ?_
        refine J_iload_n hX 1 dX8_keepNow_17 rfl ?_
        refine J_iald hX 78 i dX8_keepNow_18 jc_78 rfl (by omega) (by omega) ?_
        refine J_topi (y := M 78 i) (by simp [m_kp1]) ?_
        refine J_iast hX 90 i dX8_keepNow_19 jc_90 rfl (by omega) (by omega) ?_
        refine J_aload_n hX 0 dX8_keepNow_20 rfl ?_
        refine J_getr hX 77 19 dX8_keepNow_21 jc_77 rfl rfl (by decide) inlX8 wm_5_7 ?_
        refine J_bipush (v := 6) hX dX8_keepNow_24 (by decide) ?_
        refine J_iload_n hX 1 dX8_keepNow_26 rfl ?_
        refine J_iadd hX dX8_keepNow_27 ?_
        refine J_topi (y := nI (6 + i)) (nI_add 6 i) ?_
        refine J_aload_n hX 0 dX8_keepNow_28 rfl ?_
        refine J_getr hX 77 1 dX8_keepNow_29 jc_77 rfl rfl (by decide) inlX8 wm_4_20 ?_
        refine J_iload_n hX 1 dX8_keepNow_32 rfl ?_
        refine J_iald hX 79 i dX8_keepNow_33 jc_79 rfl (by omega) (by omega) ?_
        refine J_topi (y := M 79 i) (by simp [m_kp1, jU]) ?_
        refine J_iast hX 90 (6 + i) dX8_keepNow_34 jc_90 rfl (by omega) (by omega) ?_
        refine J_iinc (v := nI (i + 1)) (loc' := [(1, .int (nI (i + 1))), (0, .ref (a 77))]) hX 1 dX8_keepNow_35 rfl (jinc i) (by decide) rfl ?_
        refine J_goto hX 2 dX8_keepNow_38 (by decide) ?_
        refine J_sub (loc' := [(0, .ref (a 77)), (1, .int (nI (i + 1)))]) [1, 0] rfl ?_
        refine J_cg (M' := m_kp1 M (i + 1)) (L' := L) (m_kp1_s h5) rfl rfl rfl ?_
        exact ih2  (i + 1) (by omega) (by omega)
  refine J_sub (loc' := [(0, .ref (a 77)), (1, .int 0)]) [1, 0] rfl ?_
  refine J_seti (y := nI 0) (loc' := [(0, .ref (a 77)), (1, .int (nI 0))]) 1 rfl rfl rfl ?_
  refine J_cg (M' := m_kp1 M 0) (L' := L) (by funext c j; unfold m_kp1; by_cases q : c = 90; (rw [if_pos q, if_neg (by omega), if_neg (by omega), q]); (rw [if_neg q])) rfl rfl rfl ?_
  exact key2 _ 0 (Nat.lt_succ_self _) (by omega)
def m_bk1 (M : jM) (i : Nat) : jM := fun c j => if c = 78 ∧ j < i then M 90 j else if c = 79 ∧ j < i then M 90 (6 + j) else M c j
theorem m_bk1_s {M : jM} {i : Nat} : jU (jU (m_bk1 M i) 78 i (M 90 i)) 79 i (M 90 (6 + i)) = m_bk1 M (i + 1) := by
  funext c j
  simp only [jU, m_bk1]
  repeat' split
  all_goals first | rfl | omega | (subst_vars; rfl) | (congr 1; omega) | (congr 2; omega) | (exfalso; omega)
def m_bk2 (M : jM) (i : Nat) : jM := fun c j => if c = 80 ∧ j < i then M 90 (12 + j) else M c j
theorem m_bk2_s {M : jM} {i : Nat} : jU (m_bk2 M i) 80 i (M 90 (12 + i)) = m_bk2 M (i + 1) := by
  funext c j
  simp only [jU, m_bk2]
  repeat' split
  all_goals first | rfl | omega | (subst_vars; rfl) | (congr 1; omega) | (congr 2; omega) | (exfalso; omega)
def m_bk3 (M : jM) (i : Nat) : jM := fun c j => if c = 82 ∧ j < i then M 90 (48 + j) else M c j
theorem m_bk3_s {M : jM} {i : Nat} : jU (m_bk3 M i) 82 i (M 90 (48 + i)) = m_bk3 M (i + 1) := by
  funext c j
  simp only [jU, m_bk3]
  repeat' split
  all_goals first | rfl | omega | (subst_vars; rfl) | (congr 1; omega) | (congr 2; omega) | (exfalso; omega)
def m_back (M : jM) : jM := jU (jU (jU (jU (m_bk3 (m_bk2 (m_bk1 M 6) 36) 8) 77 5 (M 90 56)) 77 6 (M 90 57)) 77 7 (M 90 58)) 77 8 (M 90 59)
set_option maxHeartbeats 4000000 in
set_option maxRecDepth 10000 in
theorem c_X8_back (l : Launch) (D : va_G) (a : Nat → Nat) (g : Nat → ClassId) (M : jM) (L : jL) (v : Int32)  : jK l D a g yX8_back cX8_back 3 (some .int) 0 0 [.ref (a 77), .int v] M L (some (.int v)) (m_back M) L := by
  refine jMeth (by decide) (Nat.le_of_ble_eq_true rfl) ?_
  intro G hX hZ
  refine J_cg (loc' := [(0, .ref (a 77)), (1, .int v)]) rfl rfl rfl rfl ?_
  refine J_iconst (v := 0) hX dX8_back_0 (by decide) ?_
  refine J_istore_n (loc' := [(2, .int 0), (0, .ref (a 77)), (1, .int v)]) hX dX8_back_1 (by decide) rfl ?_
  have key2 : ∀ (fu2 : Nat) (i : Nat), 6 - i < fu2 → (i ≤ 6) → J l D a g G 3 (m_bk1 M i) L 2 [(0, .ref (a 77)), (1, .int v), (2, .int (nI i))] [] := by
    intro fu2
    induction fu2 with
    | zero => intro i hmu; exact absurd hmu (Nat.not_lt_zero _)
    | succ fu2 ih2 =>
      intro i hmu2 hi
      refine J_iload_n hX 2 dX8_back_2 rfl ?_
      refine J_bipush (v := 6) hX dX8_back_3 (by decide) ?_
      refine J_cmpN_ge hX 41 i 6 dX8_back_5 (by decide) rfl rfl (by omega) (by omega) (fun h5 => ?_) (fun h5 => ?_)
      · skip
        refine J_iconst (v := 0) hX dX8_back_41 (by decide) ?_
        refine J_istore_n (loc' := [(2, .int 0), (0, .ref (a 77)), (1, .int v)]) hX dX8_back_42 (by decide) rfl ?_
        have key43 : ∀ (fu43 : Nat) (i : Nat), 36 - i < fu43 → (i ≤ 36) → J l D a g G 3 (m_bk2 (m_bk1 M 6) i) L 43 [(0, .ref (a 77)), (1, .int v), (2, .int (nI i))] [] := by
          intro fu43
          induction fu43 with
          | zero => intro i hmu; exact absurd hmu (Nat.not_lt_zero _)
          | succ fu43 ih43 =>
            intro i hmu43 hi
            refine J_iload_n hX 2 dX8_back_43 rfl ?_
            refine J_bipush (v := 36) hX dX8_back_44 (by decide) ?_
            refine J_cmpN_ge hX 70 i 36 dX8_back_46 (by decide) rfl rfl (by omega) (by omega) (fun h46 => ?_) (fun h46 => ?_)
            · skip
              refine J_iconst (v := 0) hX dX8_back_70 (by decide) ?_
              refine J_istore_n (loc' := [(2, .int 0), (0, .ref (a 77)), (1, .int v)]) hX dX8_back_71 (by decide) rfl ?_
              have key72 : ∀ (fu72 : Nat) (i : Nat), 8 - i < fu72 → (i ≤ 8) → J l D a g G 3 (m_bk3 (m_bk2 (m_bk1 M 6) 36) i) L 72 [(0, .ref (a 77)), (1, .int v), (2, .int (nI i))] [] := by
                intro fu72
                induction fu72 with
                | zero => intro i hmu; exact absurd hmu (Nat.not_lt_zero _)
                | succ fu72 ih72 =>
                  intro i hmu72 hi
                  refine J_iload_n hX 2 dX8_back_72 rfl ?_
                  refine J_bipush (v := 8) hX dX8_back_73 (by decide) ?_
                  refine J_cmpN_ge hX 99 i 8 dX8_back_75 (by decide) rfl rfl (by omega) (by omega) (fun h75 => ?_) (fun h75 => ?_)
                  · skip
                    refine J_aload_n hX 0 dX8_back_99 rfl ?_
                    refine J_aload_n hX 0 dX8_back_100 rfl ?_
                    refine J_getr hX 77 19 dX8_back_101 jc_77 rfl rfl (by decide) inlX8 wm_5_7 ?_
                    refine J_bipush (v := 56) hX dX8_back_104 (by decide) ?_
                    refine J_iald hX 90 56 dX8_back_106 jc_90 rfl (by omega) (by omega) ?_
                    refine J_topi (y := M 90 56) (by simp [m_bk3, m_bk2, m_bk1]) ?_
                    refine J_puti (ty := .int) hX 77 5 dX8_back_107 jc_77 rfl rfl (by decide) inlX8 wm_8_4 tyX8 tyX8_ok nmX8 rfl (by decide +kernel) rfl rfl ?_
                    refine J_aload_n hX 0 dX8_back_110 rfl ?_
                    refine J_aload_n hX 0 dX8_back_111 rfl ?_
                    refine J_getr hX 77 19 dX8_back_112 jc_77 rfl rfl (by decide) inlX8 wm_5_7 ?_
                    refine J_bipush (v := 57) hX dX8_back_115 (by decide) ?_
                    refine J_iald hX 90 57 dX8_back_117 jc_90 rfl (by omega) (by omega) ?_
                    refine J_topi (y := M 90 57) (by simp [m_bk3, m_bk2, m_bk1, jU]) ?_
                    refine J_puti (ty := .int) hX 77 6 dX8_back_118 jc_77 rfl rfl (by decide) inlX8 wm_8_5 tyX8 tyX8_ok nmX8 rfl (by decide +kernel) rfl rfl ?_
                    refine J_aload_n hX 0 dX8_back_121 rfl ?_
                    refine J_aload_n hX 0 dX8_back_122 rfl ?_
                    refine J_getr hX 77 19 dX8_back_123 jc_77 rfl rfl (by decide) inlX8 wm_5_7 ?_
                    refine J_bipush (v := 58) hX dX8_back_126 (by decide) ?_
                    refine J_iald hX 90 58 dX8_back_128 jc_90 rfl (by omega) (by omega) ?_
                    refine J_topi (y := M 90 58) (by simp [m_bk3, m_bk2, m_bk1, jU]) ?_
                    refine J_puti (ty := .int) hX 77 7 dX8_back_129 jc_77 rfl rfl (by decide) inlX8 wm_16_19 tyX8 tyX8_ok nmX8 rfl (by decide +kernel) rfl rfl ?_
                    refine J_aload_n hX 0 dX8_back_132 rfl ?_
                    refine J_aload_n hX 0 dX8_back_133 rfl ?_
                    refine J_getr hX 77 19 dX8_back_134 jc_77 rfl rfl (by decide) inlX8 wm_5_7 ?_
                    refine J_bipush (v := 59) hX dX8_back_137 (by decide) ?_
                    refine J_iald hX 90 59 dX8_back_139 jc_90 rfl (by omega) (by omega) ?_
                    refine J_topi (y := M 90 59) (by simp [m_bk3, m_bk2, m_bk1, jU]) ?_
                    refine J_puti (ty := .int) hX 77 8 dX8_back_140 jc_77 rfl rfl (by decide) inlX8 wm_16_20 tyX8 tyX8_ok nmX8 rfl (by decide +kernel) rfl rfl ?_
                    refine J_iload_n hX 1 dX8_back_143 rfl ?_
                    exact J_ret hX hZ dX8_back_144 rfl rfl ⟨rfl, by rw [show i = 8 by omega]; rfl, rfl⟩
                  · skip
                    refine J_aload_n hX 0 dX8_back_78 rfl ?_
                    refine J_getr hX 77 4 dX8_back_79 jc_77 rfl rfl (by decide) inlX8 wm_4_23 ?_
                    refine J_iload_n hX 2 dX8_back_82 rfl ?_
                    refine J_aload_n hX 0 dX8_back_83 rfl ?_
                    refine J_getr hX 77 19 dX8_back_84 jc_77 rfl rfl (by decide) inlX8 wm_5_7 ?_
                    refine J_bipush (v := 48) hX dX8_back_87 (by decide) ?_
                    refine J_iload_n hX 2 dX8_back_89 rfl ?_
                    refine J_iadd hX dX8_back_90 ?_
                    refine J_topi (y := nI (48 + i)) (nI_add 48 i) ?_
                    refine J_iald hX 90 (48 + i) dX8_back_91 jc_90 rfl (by omega) (by omega) ?_
                    refine J_topi (y := m_bk2 (m_bk1 M 6) 36 90 (48 + i)) (by simp [m_bk3]) ?_
                    refine J_iast hX 82 i dX8_back_92 jc_82 rfl (by omega) (by omega) ?_
                    refine J_iinc (v := nI (i + 1)) (loc' := [(2, .int (nI (i + 1))), (0, .ref (a 77)), (1, .int v)]) hX 2 dX8_back_93 rfl (jinc i) (by decide) rfl ?_
                    refine J_goto hX 72 dX8_back_96 (by decide) ?_
                    refine J_sub (loc' := [(0, .ref (a 77)), (1, .int v), (2, .int (nI (i + 1)))]) [1, 2, 0] rfl ?_
                    refine J_cg (M' := m_bk3 (m_bk2 (m_bk1 M 6) 36) (i + 1)) (L' := L) m_bk3_s rfl rfl rfl ?_
                    exact ih72  (i + 1) (by omega) (by omega)
              refine J_sub (loc' := [(0, .ref (a 77)), (1, .int v), (2, .int 0)]) [1, 2, 0] rfl ?_
              refine J_seti (y := nI 0) (loc' := [(0, .ref (a 77)), (1, .int v), (2, .int (nI 0))]) 2 rfl rfl rfl ?_
              refine J_cg (M' := m_bk3 (m_bk2 (m_bk1 M 6) 36) 0) (L' := L) (by rw [show i = 36 by omega]; funext c j; simp [m_bk3]) rfl rfl rfl ?_
              exact key72 _ 0 (Nat.lt_succ_self _) (by omega)
            · skip
              refine J_aload_n hX 0 dX8_back_49 rfl ?_
              refine J_getr hX 77 2 dX8_back_50 jc_77 rfl rfl (by decide) inlX8 wm_4_21 ?_
              refine J_iload_n hX 2 dX8_back_53 rfl ?_
              refine J_aload_n hX 0 dX8_back_54 rfl ?_
              refine J_getr hX 77 19 dX8_back_55 jc_77 rfl rfl (by decide) inlX8 wm_5_7 ?_
              refine J_bipush (v := 12) hX dX8_back_58 (by decide) ?_
              refine J_iload_n hX 2 dX8_back_60 rfl ?_
              refine J_iadd hX dX8_back_61 ?_
              refine J_topi (y := nI (12 + i)) (nI_add 12 i) ?_
              refine J_iald hX 90 (12 + i) dX8_back_62 jc_90 rfl (by omega) (by omega) ?_
              refine J_topi (y := m_bk1 M 6 90 (12 + i)) (by simp [m_bk2]) ?_
              refine J_iast hX 80 i dX8_back_63 jc_80 rfl (by omega) (by omega) ?_
              refine J_iinc (v := nI (i + 1)) (loc' := [(2, .int (nI (i + 1))), (0, .ref (a 77)), (1, .int v)]) hX 2 dX8_back_64 rfl (jinc i) (by decide) rfl ?_
              refine J_goto hX 43 dX8_back_67 (by decide) ?_
              refine J_sub (loc' := [(0, .ref (a 77)), (1, .int v), (2, .int (nI (i + 1)))]) [1, 2, 0] rfl ?_
              refine J_cg (M' := m_bk2 (m_bk1 M 6) (i + 1)) (L' := L) m_bk2_s rfl rfl rfl ?_
              exact ih43  (i + 1) (by omega) (by omega)
        refine J_sub (loc' := [(0, .ref (a 77)), (1, .int v), (2, .int 0)]) [1, 2, 0] rfl ?_
        refine J_seti (y := nI 0) (loc' := [(0, .ref (a 77)), (1, .int v), (2, .int (nI 0))]) 2 rfl rfl rfl ?_
        refine J_cg (M' := m_bk2 (m_bk1 M 6) 0) (L' := L) (by rw [show i = 6 by omega]; funext c j; simp [m_bk2]) rfl rfl rfl ?_
        exact key43 _ 0 (Nat.lt_succ_self _) (by omega)
      · skip
        refine J_aload_n hX 0 dX8_back_8 rfl ?_
        refine J_getr hX 77 0 dX8_back_9 jc_77 rfl rfl (by decide) inlX8 wm_4_19 ?_
        refine J_iload_n hX 2 dX8_back_12 rfl ?_
        refine J_aload_n hX 0 dX8_back_13 rfl ?_
        refine J_getr hX 77 19 dX8_back_14 jc_77 rfl rfl (by decide) inlX8 wm_5_7 ?_
        refine J_iload_n hX 2 dX8_back_17 rfl ?_
        refine J_iald hX 90 i dX8_back_18 jc_90 rfl (by omega) (by omega) ?_
        refine J_topi (y := M 90 i) (by simp [m_bk1]) ?_
        refine J_iast hX 78 i dX8_back_19 jc_78 rfl (by omega) (by omega) ?_
        refine J_aload_n hX 0 dX8_back_20 rfl ?_
        refine J_getr hX 77 1 dX8_back_21 jc_77 rfl rfl (by decide) inlX8 wm_4_20 ?_
        refine J_iload_n hX 2 dX8_back_24 rfl ?_
        refine J_aload_n hX 0 dX8_back_25 rfl ?_
        refine J_getr hX 77 19 dX8_back_26 jc_77 rfl rfl (by decide) inlX8 wm_5_7 ?_
        refine J_bipush (v := 6) hX dX8_back_29 (by decide) ?_
        refine J_iload_n hX 2 dX8_back_31 rfl ?_
        refine J_iadd hX dX8_back_32 ?_
        refine J_topi (y := nI (6 + i)) (nI_add 6 i) ?_
        refine J_iald hX 90 (6 + i) dX8_back_33 jc_90 rfl (by omega) (by omega) ?_
        refine J_topi (y := M 90 (6 + i)) (by simp [m_bk1, jU]) ?_
        refine J_iast hX 79 i dX8_back_34 jc_79 rfl (by omega) (by omega) ?_
        refine J_iinc (v := nI (i + 1)) (loc' := [(2, .int (nI (i + 1))), (0, .ref (a 77)), (1, .int v)]) hX 2 dX8_back_35 rfl (jinc i) (by decide) rfl ?_
        refine J_goto hX 2 dX8_back_38 (by decide) ?_
        refine J_sub (loc' := [(0, .ref (a 77)), (1, .int v), (2, .int (nI (i + 1)))]) [1, 2, 0] rfl ?_
        refine J_cg (M' := m_bk1 M (i + 1)) (L' := L) m_bk1_s rfl rfl rfl ?_
        exact ih2  (i + 1) (by omega) (by omega)
  refine J_sub (loc' := [(0, .ref (a 77)), (1, .int v), (2, .int 0)]) [1, 2, 0] rfl ?_
  refine J_seti (y := nI 0) (loc' := [(0, .ref (a 77)), (1, .int v), (2, .int (nI 0))]) 2 rfl rfl rfl ?_
  refine J_cg (M' := m_bk1 M 0) (L' := L) (by funext c j; simp [m_bk1]) rfl rfl rfl ?_
  exact key2 _ 0 (Nat.lt_succ_self _) (by omega)
