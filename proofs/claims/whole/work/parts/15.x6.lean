def x_b1 (x : Int32) : Int32 := x - ((x.toUInt32 >>> ((1 : Int32).toUInt32 &&& Int32.toUInt32 31)).toInt32 &&& 1431655765)
def x_b2 (x : Int32) : Int32 := (x &&& 858993459) + ((x.toUInt32 >>> ((2 : Int32).toUInt32 &&& Int32.toUInt32 31)).toInt32 &&& 858993459)
def x_b3 (x : Int32) : Int32 := (x + (x.toUInt32 >>> ((4 : Int32).toUInt32 &&& Int32.toUInt32 31)).toInt32) &&& 252645135
def x_b4 (x : Int32) : Int32 := x + (x.toUInt32 >>> ((8 : Int32).toUInt32 &&& Int32.toUInt32 31)).toInt32
def x_b5 (x : Int32) : Int32 := x + (x.toUInt32 >>> ((16 : Int32).toUInt32 &&& Int32.toUInt32 31)).toInt32
def x_bc (x : Int32) : Int32 := x_b5 (x_b4 (x_b3 (x_b2 (x_b1 x)))) &&& 63
set_option maxHeartbeats 4000000 in
set_option maxRecDepth 10000 in
theorem c_J6_bitCount_0f7a4 (l : Launch) (D : va_G) (a : Nat → Nat) (g : Nat → ClassId) (M : jM) (L : jL) (x : Int32)  : jK l D a g yJ6_bitCount_0f7a4 cJ6_bitCount_0f7a4 1 (some .int) 0 0 [.int x] M L (some (.int (x_bc x))) M L := by
  refine jMeth (by decide) (Nat.le_of_ble_eq_true rfl) ?_
  intro G hX hZ
  refine J_cg (loc' := [(0, .int x)]) rfl rfl rfl rfl ?_
  refine J_iload_n hX 0 dJ6_bitCount_0f7a4_0 rfl ?_
  refine J_iload_n hX 0 dJ6_bitCount_0f7a4_1 rfl ?_
  refine J_iconst (v := 1) hX dJ6_bitCount_0f7a4_2 (by decide) ?_
  refine J_iushr hX dJ6_bitCount_0f7a4_3 ?_
  refine J_ldcw hX dJ6_bitCount_0f7a4_4 wm_29_4 ?_
  refine J_iand hX dJ6_bitCount_0f7a4_7 ?_
  refine J_isub hX dJ6_bitCount_0f7a4_8 ?_
  refine J_topi (y := x_b1 x) rfl ?_
  refine J_istore_n (loc' := [(0, .int (x_b1 x))]) hX dJ6_bitCount_0f7a4_9 (by decide) rfl ?_
  refine J_iload_n hX 0 dJ6_bitCount_0f7a4_10 rfl ?_
  refine J_ldcw hX dJ6_bitCount_0f7a4_11 wm_29_5 ?_
  refine J_iand hX dJ6_bitCount_0f7a4_14 ?_
  refine J_iload_n hX 0 dJ6_bitCount_0f7a4_15 rfl ?_
  refine J_iconst (v := 2) hX dJ6_bitCount_0f7a4_16 (by decide) ?_
  refine J_iushr hX dJ6_bitCount_0f7a4_17 ?_
  refine J_ldcw hX dJ6_bitCount_0f7a4_18 wm_29_5 ?_
  refine J_iand hX dJ6_bitCount_0f7a4_21 ?_
  refine J_iadd hX dJ6_bitCount_0f7a4_22 ?_
  refine J_topi (y := x_b2 (x_b1 x)) rfl ?_
  refine J_istore_n (loc' := [(0, .int (x_b2 (x_b1 x)))]) hX dJ6_bitCount_0f7a4_23 (by decide) rfl ?_
  refine J_iload_n hX 0 dJ6_bitCount_0f7a4_24 rfl ?_
  refine J_iload_n hX 0 dJ6_bitCount_0f7a4_25 rfl ?_
  refine J_iconst (v := 4) hX dJ6_bitCount_0f7a4_26 (by decide) ?_
  refine J_iushr hX dJ6_bitCount_0f7a4_27 ?_
  refine J_iadd hX dJ6_bitCount_0f7a4_28 ?_
  refine J_ldcw hX dJ6_bitCount_0f7a4_29 wm_29_6 ?_
  refine J_iand hX dJ6_bitCount_0f7a4_32 ?_
  refine J_topi (y := x_b3 (x_b2 (x_b1 x))) rfl ?_
  refine J_istore_n (loc' := [(0, .int (x_b3 (x_b2 (x_b1 x))))]) hX dJ6_bitCount_0f7a4_33 (by decide) rfl ?_
  refine J_iload_n hX 0 dJ6_bitCount_0f7a4_34 rfl ?_
  refine J_iload_n hX 0 dJ6_bitCount_0f7a4_35 rfl ?_
  refine J_bipush (v := 8) hX dJ6_bitCount_0f7a4_36 (by decide) ?_
  refine J_iushr hX dJ6_bitCount_0f7a4_38 ?_
  refine J_iadd hX dJ6_bitCount_0f7a4_39 ?_
  refine J_topi (y := x_b4 (x_b3 (x_b2 (x_b1 x)))) rfl ?_
  refine J_istore_n (loc' := [(0, .int (x_b4 (x_b3 (x_b2 (x_b1 x)))))]) hX dJ6_bitCount_0f7a4_40 (by decide) rfl ?_
  refine J_iload_n hX 0 dJ6_bitCount_0f7a4_41 rfl ?_
  refine J_iload_n hX 0 dJ6_bitCount_0f7a4_42 rfl ?_
  refine J_bipush (v := 16) hX dJ6_bitCount_0f7a4_43 (by decide) ?_
  refine J_iushr hX dJ6_bitCount_0f7a4_45 ?_
  refine J_iadd hX dJ6_bitCount_0f7a4_46 ?_
  refine J_topi (y := x_b5 (x_b4 (x_b3 (x_b2 (x_b1 x))))) rfl ?_
  refine J_istore_n (loc' := [(0, .int (x_b5 (x_b4 (x_b3 (x_b2 (x_b1 x))))))]) hX dJ6_bitCount_0f7a4_47 (by decide) rfl ?_
  refine J_iload_n hX 0 dJ6_bitCount_0f7a4_48 rfl ?_
  refine J_bipush (v := 63) hX dJ6_bitCount_0f7a4_49 (by decide) ?_
  refine J_iand hX dJ6_bitCount_0f7a4_51 ?_
  exact J_ret hX hZ dJ6_bitCount_0f7a4_52 rfl rfl ⟨rfl, rfl, rfl⟩
def x_prints (M : jM) (v : Int32) : Int32 := if (1 ≤ v.toInt ∧ v.toInt ≤ 100) then (let mn := 100 * x_land M 1 / v; let nt := x_notes M 1
  if nt ≤ mn then (if (mn - nt) / 100 < 999 then (mn - nt) / 100 else 999) else -6) else -2
set_option maxHeartbeats 4000000 in
set_option maxRecDepth 10000 in
theorem c_X7_prints (l : Launch) (D : va_G) (a : Nat → Nat) (g : Nat → ClassId) (M : jM) (L : jL) (v : Int32)  : jK l D a g yX7_prints cX7_prints 4 (some .int) 1 30 [.ref (a 0), .int v] M L (some (.int (x_prints M v))) M L := by
  refine jMeth (by decide) (Nat.le_of_ble_eq_true rfl) ?_
  intro G hX hZ
  refine J_cg (loc' := [(0, .ref (a 0)), (1, .int v)]) rfl rfl rfl rfl ?_
  refine J_iload_n hX 1 dX7_prints_0 rfl ?_
  refine J_iconst (v := 1) hX dX7_prints_1 (by decide) ?_
  refine J_bipush (v := 100) hX dX7_prints_2 (by decide) ?_
  refine J_callS hX [.int v, .int 1, .int 100] [] dX7_prints_4 (c_X7_within l D a g M L v 1 100) lk_X7_62 rfl rfl (Nat.le_of_ble_eq_true rfl) (Nat.le_of_ble_eq_true rfl) (Nat.le_of_ble_eq_true rfl) (J_eq (st := [.int (jB (1 ≤ v.toInt ∧ v.toInt ≤ 100))]) rfl ?_)
  refine J_ifB_ne hX 13 dX7_prints_7 (by decide) (fun h7 => ?_) (fun h7 => ?_)
  · skip
    refine J_bipush (v := 100) hX dX7_prints_13 (by decide) ?_
    refine J_aload_n hX 0 dX7_prints_15 rfl ?_
    refine J_getr hX 0 0 dX7_prints_16 jc_0 rfl rfl (by decide) inlX7 wm_1_15 ?_
    refine J_callV hX 1 [] [.int 100] dX7_prints_19 (c_X2_land l D a g M L 1 jRl_1) lk_X7_125 jc_1 rfl rfl rfl (Nat.le_of_ble_eq_true rfl) (Nat.le_of_ble_eq_true rfl) (Nat.le_of_ble_eq_true rfl) (J_eq (st := [.int (x_land M 1), .int 100]) rfl ?_)
    refine J_imul hX dX7_prints_22 ?_
    refine J_iload_n hX 1 dX7_prints_23 rfl ?_
    refine J_idiv hX dX7_prints_24 (fun e => absurd (e ▸ h7.1) (by decide)) ?_
    refine J_istore_n (loc' := [(2, .int ((100 * (x_land M 1)) / v)), (0, .ref (a 0)), (1, .int v)]) hX dX7_prints_25 (by decide) rfl ?_
    refine J_aload_n hX 1 dX7_prints_26 rfl ?_
    refine J_getr hX 0 0 dX7_prints_27 jc_0 rfl rfl (by decide) inlX7 wm_1_15 ?_
    refine J_callV hX 1 [] [] dX7_prints_30 (c_X2_notes l D a g M L 1 jRl_1) lk_X7_122 jc_1 rfl rfl rfl (Nat.le_of_ble_eq_true rfl) (Nat.le_of_ble_eq_true rfl) (Nat.le_of_ble_eq_true rfl) (J_eq (st := [.int (x_notes M 1)]) rfl ?_)
    refine J_istore_n (loc' := [(3, .int (x_notes M 1)), (2, .int ((100 * (x_land M 1)) / v)), (0, .ref (a 0)), (1, .int v)]) hX dX7_prints_33 (by decide) rfl ?_
    refine J_iload_n hX 0 dX7_prints_34 rfl ?_
    refine J_iload_n hX 1 dX7_prints_35 rfl ?_
    refine J_icmp_le hX 44 dX7_prints_36 (by decide) (fun h36 => ?_) (fun h36 => ?_)
    · skip
      refine J_sipush (v := 999) hX dX7_prints_44 (by decide) ?_
      refine J_iload_n hX 1 dX7_prints_47 rfl ?_
      refine J_iload_n hX 0 dX7_prints_48 rfl ?_
      refine J_isub hX dX7_prints_49 ?_
      refine J_bipush (v := 100) hX dX7_prints_50 (by decide) ?_
      refine J_idiv hX dX7_prints_52 (by decide) ?_
      refine J_mmin hX dX7_prints_53 wm_15_5 wm_15_6 wm_15_7 wm_15_8 (Nat.le_of_ble_eq_true rfl) (Nat.le_of_ble_eq_true rfl) ?_
      exact J_ret hX hZ dX7_prints_56 rfl rfl ⟨by simp [x_prints, h7, h36], rfl, rfl⟩
    · skip
      refine J_bipush (v := (-6)) hX dX7_prints_39 (by decide) ?_
      refine J_goto hX 56 dX7_prints_41 (by decide) ?_
      exact J_ret hX hZ dX7_prints_56 rfl rfl ⟨by simp [x_prints, h7, h36], rfl, rfl⟩
  · skip
    refine J_bipush (v := (-2)) hX dX7_prints_10 (by decide) ?_
    exact J_ret hX hZ dX7_prints_12 rfl rfl ⟨by simp [x_prints, h7], rfl, rfl⟩
def x_buyS (M : jM) (v f : Int32) : Nat → Int32 × Nat
  | 0 => (0, 0)
  | k + 1 => if nI (k + 1) &&& (f ^^^ (-1)) = 0 then (if v < x_priceOf M 1 (nI (k + 1)) then x_buyS M v f k else if x_priceOf M 1 (nI (k + 1)) ≤ (x_buyS M v f k).1 then x_buyS M v f k else (x_priceOf M 1 (nI (k + 1)), k + 1)) else x_buyS M v f k
def x_buys (M : jM) (v k : Int32) : Int32 := if (0 ≤ v.toInt ∧ v.toInt ≤ 9999) then (if (0 ≤ k.toInt ∧ k.toInt ≤ 1) then (if k = 0 then (x_buyS M v (x_lotsOf M 1 (-1)) 255).1 else nI (x_buyS M v (x_lotsOf M 1 (-1)) 255).2) else -2) else -2
set_option maxHeartbeats 4000000 in
set_option maxRecDepth 10000 in
theorem c_X7_buys (l : Launch) (D : va_G) (a : Nat → Nat) (g : Nat → ClassId) (M : jM) (L : jL) (v k : Int32)  : jK l D a g yX7_buys cX7_buys 8 (some .int) 1 23 [.ref (a 0), .int v, .int k] M L (some (.int (x_buys M v k))) M L := by
  refine jMeth (by decide) (Nat.le_of_ble_eq_true rfl) ?_
  intro G hX hZ
  refine J_cg (loc' := [(0, .ref (a 0)), (1, .int v), (2, .int k)]) rfl rfl rfl rfl ?_
  refine J_iload_n hX 1 dX7_buys_0 rfl ?_
  refine J_iconst (v := 0) hX dX7_buys_1 (by decide) ?_
  refine J_sipush (v := 9999) hX dX7_buys_2 (by decide) ?_
  refine J_callS hX [.int v, .int 0, .int 9999] [] dX7_buys_5 (c_X7_within l D a g M L v 0 9999) lk_X7_62 rfl rfl (Nat.le_of_ble_eq_true rfl) (Nat.le_of_ble_eq_true rfl) (Nat.le_of_ble_eq_true rfl) (J_eq (st := [.int (jB (0 ≤ v.toInt ∧ v.toInt ≤ 9999))]) rfl ?_)
  refine J_ifB_eq hX 20 dX7_buys_8 (by decide) (fun h8 => ?_) (fun h8 => ?_)
  · skip
    refine J_bipush (v := (-2)) hX dX7_buys_20 (by decide) ?_
    exact J_ret hX hZ dX7_buys_22 rfl rfl ⟨by rw [x_buys]; (first | rw [if_pos h8] | rw [if_neg h8] | skip), rfl, rfl⟩
  · skip
    refine J_iload_n hX 2 dX7_buys_11 rfl ?_
    refine J_iconst (v := 0) hX dX7_buys_12 (by decide) ?_
    refine J_iconst (v := 1) hX dX7_buys_13 (by decide) ?_
    refine J_callS hX [.int k, .int 0, .int 1] [] dX7_buys_14 (c_X7_within l D a g M L k 0 1) lk_X7_62 rfl rfl (Nat.le_of_ble_eq_true rfl) (Nat.le_of_ble_eq_true rfl) (Nat.le_of_ble_eq_true rfl) (J_eq (st := [.int (jB (0 ≤ k.toInt ∧ k.toInt ≤ 1))]) rfl ?_)
    refine J_ifB_ne hX 23 dX7_buys_17 (by decide) (fun h17 => ?_) (fun h17 => ?_)
    · skip
      refine J_aload_n hX 0 dX7_buys_23 rfl ?_
      refine J_getr hX 0 0 dX7_buys_24 jc_0 rfl rfl (by decide) inlX7 wm_1_15 ?_
      refine J_iconst (v := (-1)) hX dX7_buys_27 (by decide) ?_
      refine J_callV hX 1 [.int (-1)] [] dX7_buys_28 (c_X2_lotsOf l D a g M L 1 jRl_1 (-1)) lk_X7_162 jc_1 rfl rfl rfl (Nat.le_of_ble_eq_true rfl) (Nat.le_of_ble_eq_true rfl) (Nat.le_of_ble_eq_true rfl) (J_eq (st := [.int (x_lotsOf M 1 (-1))]) rfl ?_)
      refine J_istore_n (loc' := [(3, .int (x_lotsOf M 1 (-1))), (0, .ref (a 0)), (1, .int v), (2, .int k)]) hX dX7_buys_31 (by decide) rfl ?_
      refine J_iconst (v := 0) hX dX7_buys_32 (by decide) ?_
      refine J_istore (loc' := [(4, .int 0), (3, .int (x_lotsOf M 1 (-1))), (0, .ref (a 0)), (1, .int v), (2, .int k)]) hX dX7_buys_33 (by decide) rfl ?_
      refine J_iconst (v := 0) hX dX7_buys_35 (by decide) ?_
      refine J_istore (loc' := [(5, .int 0), (4, .int 0), (3, .int (x_lotsOf M 1 (-1))), (0, .ref (a 0)), (1, .int v), (2, .int k)]) hX dX7_buys_36 (by decide) rfl ?_
      refine J_iconst (v := 1) hX dX7_buys_38 (by decide) ?_
      refine J_istore (loc' := [(6, .int 1), (5, .int 0), (4, .int 0), (3, .int (x_lotsOf M 1 (-1))), (0, .ref (a 0)), (1, .int v), (2, .int k)]) hX dX7_buys_39 (by decide) rfl ?_
      have key41 : ∀ (fu41 : Nat) (i : Nat), 255 - i < fu41 → i ≤ 255 → J l D a g G 8 M L 41 [(0, .ref (a 0)), (1, .int v), (2, .int k), (3, .int (x_lotsOf M 1 (-1))), (4, .int ((x_buyS M v (x_lotsOf M 1 (-1)) i).1)), (5, .int (nI ((x_buyS M v (x_lotsOf M 1 (-1)) i).2))), (6, .int (nI (i + 1)))] [] := by
        intro fu41
        induction fu41 with
        | zero => intro i hmu; exact absurd hmu (Nat.not_lt_zero _)
        | succ fu41 ih41 =>
          intro i hmu41 hi
          refine J_iload hX 6 dX7_buys_41 rfl ?_
          refine J_sipush (v := 256) hX dX7_buys_43 (by decide) ?_
          refine J_cmpN_ge hX 96 (i + 1) 256 dX7_buys_46 (by decide) rfl rfl (by omega) (by omega) (fun h46 => ?_) (fun h46 => ?_)
          · skip
            refine J_iload_n hX 2 dX7_buys_96 rfl ?_
            refine J_if_ne hX 105 dX7_buys_97 (by decide) (fun h97 => ?_) (fun h97 => ?_)
            · skip
              refine J_iload hX 5 dX7_buys_105 rfl ?_
              exact J_ret hX hZ dX7_buys_107 rfl rfl ⟨by rw [x_buys, if_pos h8, if_pos h17]; (first | rw [if_pos h97] | rw [if_neg h97]); rw [show i = 255 by omega], rfl, rfl⟩
            · skip
              refine J_iload hX 4 dX7_buys_100 rfl ?_
              refine J_goto hX 107 dX7_buys_102 (by decide) ?_
              exact J_ret hX hZ dX7_buys_107 rfl rfl ⟨by rw [x_buys, if_pos h8, if_pos h17]; (first | rw [if_pos h97] | rw [if_neg h97]); rw [show i = 255 by omega], rfl, rfl⟩
          · skip
            refine J_iload hX 6 dX7_buys_49 rfl ?_
            refine J_iload_n hX 3 dX7_buys_51 rfl ?_
            refine J_iconst (v := (-1)) hX dX7_buys_52 (by decide) ?_
            refine J_ixor hX dX7_buys_53 ?_
            refine J_iand hX dX7_buys_54 ?_
            refine J_if_ne hX 90 dX7_buys_55 (by decide) (fun h55 => ?_) (fun h55 => ?_)
            · skip
              refine J_iinc (v := nI (i + 1 + 1)) (loc' := [(6, .int (nI (i + 1 + 1))), (0, .ref (a 0)), (1, .int v), (2, .int k), (3, .int (x_lotsOf M 1 (-1))), (4, .int ((x_buyS M v (x_lotsOf M 1 (-1)) i).1)), (5, .int (nI ((x_buyS M v (x_lotsOf M 1 (-1)) i).2)))]) hX 6 dX7_buys_90 rfl (jinc (i + 1)) (by decide) rfl ?_
              refine J_goto hX 41 dX7_buys_93 (by decide) ?_
              refine J_sub (loc' := [(0, .ref (a 0)), (1, .int v), (2, .int k), (3, .int (x_lotsOf M 1 (-1))), (4, .int ((x_buyS M v (x_lotsOf M 1 (-1)) i).1)), (5, .int (nI ((x_buyS M v (x_lotsOf M 1 (-1)) i).2))), (6, .int (nI (i + 1 + 1)))]) [1, 2, 3, 4, 5, 6, 0] rfl ?_
              refine J_seti (y := (x_buyS M v (x_lotsOf M 1 (-1)) (i + 1)).1) (loc' := [(0, .ref (a 0)), (1, .int v), (2, .int k), (3, .int (x_lotsOf M 1 (-1))), (4, .int ((x_buyS M v (x_lotsOf M 1 (-1)) (i + 1)).1)), (5, .int (nI ((x_buyS M v (x_lotsOf M 1 (-1)) i).2))), (6, .int (nI (i + 1 + 1)))]) 4 rfl (by rw [x_buyS]; (first | rw [if_pos h55] | rw [if_neg h55] | skip)) rfl ?_
              refine J_seti (y := nI ((x_buyS M v (x_lotsOf M 1 (-1)) (i + 1)).2)) (loc' := [(0, .ref (a 0)), (1, .int v), (2, .int k), (3, .int (x_lotsOf M 1 (-1))), (4, .int ((x_buyS M v (x_lotsOf M 1 (-1)) (i + 1)).1)), (5, .int (nI ((x_buyS M v (x_lotsOf M 1 (-1)) (i + 1)).2))), (6, .int (nI (i + 1 + 1)))]) 5 rfl (by rw [x_buyS]; (first | rw [if_pos h55] | rw [if_neg h55] | skip)) rfl ?_
              refine J_seti (y := nI ((i + 1) + 1)) (loc' := [(0, .ref (a 0)), (1, .int v), (2, .int k), (3, .int (x_lotsOf M 1 (-1))), (4, .int ((x_buyS M v (x_lotsOf M 1 (-1)) (i + 1)).1)), (5, .int (nI ((x_buyS M v (x_lotsOf M 1 (-1)) (i + 1)).2))), (6, .int (nI ((i + 1) + 1)))]) 6 rfl rfl rfl ?_
              exact ih41  (i + 1) (by omega) (by omega)
            · skip
              refine J_aload_n hX 0 dX7_buys_58 rfl ?_
              refine J_getr hX 0 0 dX7_buys_59 jc_0 rfl rfl (by decide) inlX7 wm_1_15 ?_
              refine J_iload hX 6 dX7_buys_62 rfl ?_
              refine J_callV hX 1 [.int (nI (i + 1))] [] dX7_buys_64 (c_X2_priceOf l D a g M L 1 jRl_1 (nI (i + 1))) lk_X7_165 jc_1 rfl rfl rfl (Nat.le_of_ble_eq_true rfl) (Nat.le_of_ble_eq_true rfl) (Nat.le_of_ble_eq_true rfl) (J_eq (st := [.int (x_priceOf M 1 (nI (i + 1)))]) rfl ?_)
              refine J_istore (loc' := [(7, .int (x_priceOf M 1 (nI (i + 1)))), (0, .ref (a 0)), (1, .int v), (2, .int k), (3, .int (x_lotsOf M 1 (-1))), (4, .int ((x_buyS M v (x_lotsOf M 1 (-1)) i).1)), (5, .int (nI ((x_buyS M v (x_lotsOf M 1 (-1)) i).2))), (6, .int (nI (i + 1)))]) hX dX7_buys_67 (by decide) rfl ?_
              refine J_iload hX 0 dX7_buys_69 rfl ?_
              refine J_iload_n hX 2 dX7_buys_71 rfl ?_
              refine J_icmp_gt hX 90 dX7_buys_72 (by decide) (fun h72 => ?_) (fun h72 => ?_)
              · skip
                refine J_iinc (v := nI (i + 1 + 1)) (loc' := [(6, .int (nI (i + 1 + 1))), (7, .int (x_priceOf M 1 (nI (i + 1)))), (0, .ref (a 0)), (1, .int v), (2, .int k), (3, .int (x_lotsOf M 1 (-1))), (4, .int ((x_buyS M v (x_lotsOf M 1 (-1)) i).1)), (5, .int (nI ((x_buyS M v (x_lotsOf M 1 (-1)) i).2)))]) hX 7 dX7_buys_90 rfl (jinc (i + 1)) (by decide) rfl ?_
                refine J_goto hX 41 dX7_buys_93 (by decide) ?_
                refine J_sub (loc' := [(0, .ref (a 0)), (1, .int v), (2, .int k), (3, .int (x_lotsOf M 1 (-1))), (4, .int ((x_buyS M v (x_lotsOf M 1 (-1)) i).1)), (5, .int (nI ((x_buyS M v (x_lotsOf M 1 (-1)) i).2))), (6, .int (nI (i + 1 + 1)))]) [2, 3, 4, 5, 6, 7, 0] rfl ?_
                refine J_seti (y := (x_buyS M v (x_lotsOf M 1 (-1)) (i + 1)).1) (loc' := [(0, .ref (a 0)), (1, .int v), (2, .int k), (3, .int (x_lotsOf M 1 (-1))), (4, .int ((x_buyS M v (x_lotsOf M 1 (-1)) (i + 1)).1)), (5, .int (nI ((x_buyS M v (x_lotsOf M 1 (-1)) i).2))), (6, .int (nI (i + 1 + 1)))]) 4 rfl (by rw [x_buyS]; (first | rw [if_pos h55] | rw [if_neg h55] | skip); (first | rw [if_pos h72] | rw [if_neg h72] | skip)) rfl ?_
                refine J_seti (y := nI ((x_buyS M v (x_lotsOf M 1 (-1)) (i + 1)).2)) (loc' := [(0, .ref (a 0)), (1, .int v), (2, .int k), (3, .int (x_lotsOf M 1 (-1))), (4, .int ((x_buyS M v (x_lotsOf M 1 (-1)) (i + 1)).1)), (5, .int (nI ((x_buyS M v (x_lotsOf M 1 (-1)) (i + 1)).2))), (6, .int (nI (i + 1 + 1)))]) 5 rfl (by rw [x_buyS]; (first | rw [if_pos h55] | rw [if_neg h55] | skip); (first | rw [if_pos h72] | rw [if_neg h72] | skip)) rfl ?_
                refine J_seti (y := nI ((i + 1) + 1)) (loc' := [(0, .ref (a 0)), (1, .int v), (2, .int k), (3, .int (x_lotsOf M 1 (-1))), (4, .int ((x_buyS M v (x_lotsOf M 1 (-1)) (i + 1)).1)), (5, .int (nI ((x_buyS M v (x_lotsOf M 1 (-1)) (i + 1)).2))), (6, .int (nI ((i + 1) + 1)))]) 6 rfl rfl rfl ?_
                exact ih41  (i + 1) (by omega) (by omega)
              · skip
                refine J_iload hX 0 dX7_buys_75 rfl ?_
                refine J_iload hX 5 dX7_buys_77 rfl ?_
                refine J_icmp_le hX 90 dX7_buys_79 (by decide) (fun h79 => ?_) (fun h79 => ?_)
                · skip
                  refine J_iinc (v := nI (i + 1 + 1)) (loc' := [(6, .int (nI (i + 1 + 1))), (7, .int (x_priceOf M 1 (nI (i + 1)))), (0, .ref (a 0)), (1, .int v), (2, .int k), (3, .int (x_lotsOf M 1 (-1))), (4, .int ((x_buyS M v (x_lotsOf M 1 (-1)) i).1)), (5, .int (nI ((x_buyS M v (x_lotsOf M 1 (-1)) i).2)))]) hX 7 dX7_buys_90 rfl (jinc (i + 1)) (by decide) rfl ?_
                  refine J_goto hX 41 dX7_buys_93 (by decide) ?_
                  refine J_sub (loc' := [(0, .ref (a 0)), (1, .int v), (2, .int k), (3, .int (x_lotsOf M 1 (-1))), (4, .int ((x_buyS M v (x_lotsOf M 1 (-1)) i).1)), (5, .int (nI ((x_buyS M v (x_lotsOf M 1 (-1)) i).2))), (6, .int (nI (i + 1 + 1)))]) [2, 3, 4, 5, 6, 7, 0] rfl ?_
                  refine J_seti (y := (x_buyS M v (x_lotsOf M 1 (-1)) (i + 1)).1) (loc' := [(0, .ref (a 0)), (1, .int v), (2, .int k), (3, .int (x_lotsOf M 1 (-1))), (4, .int ((x_buyS M v (x_lotsOf M 1 (-1)) (i + 1)).1)), (5, .int (nI ((x_buyS M v (x_lotsOf M 1 (-1)) i).2))), (6, .int (nI (i + 1 + 1)))]) 4 rfl (by rw [x_buyS]; (first | rw [if_pos h55] | rw [if_neg h55] | skip); (first | rw [if_pos h72] | rw [if_neg h72] | skip); (first | rw [if_pos h79] | rw [if_neg h79] | skip)) rfl ?_
                  refine J_seti (y := nI ((x_buyS M v (x_lotsOf M 1 (-1)) (i + 1)).2)) (loc' := [(0, .ref (a 0)), (1, .int v), (2, .int k), (3, .int (x_lotsOf M 1 (-1))), (4, .int ((x_buyS M v (x_lotsOf M 1 (-1)) (i + 1)).1)), (5, .int (nI ((x_buyS M v (x_lotsOf M 1 (-1)) (i + 1)).2))), (6, .int (nI (i + 1 + 1)))]) 5 rfl (by rw [x_buyS]; (first | rw [if_pos h55] | rw [if_neg h55] | skip); (first | rw [if_pos h72] | rw [if_neg h72] | skip); (first | rw [if_pos h79] | rw [if_neg h79] | skip)) rfl ?_
                  refine J_seti (y := nI ((i + 1) + 1)) (loc' := [(0, .ref (a 0)), (1, .int v), (2, .int k), (3, .int (x_lotsOf M 1 (-1))), (4, .int ((x_buyS M v (x_lotsOf M 1 (-1)) (i + 1)).1)), (5, .int (nI ((x_buyS M v (x_lotsOf M 1 (-1)) (i + 1)).2))), (6, .int (nI ((i + 1) + 1)))]) 6 rfl rfl rfl ?_
                  exact ih41  (i + 1) (by omega) (by omega)
                · skip
                  refine J_iload hX 0 dX7_buys_82 rfl ?_
                  refine J_istore (loc' := [(4, .int (x_priceOf M 1 (nI (i + 1)))), (7, .int (x_priceOf M 1 (nI (i + 1)))), (0, .ref (a 0)), (1, .int v), (2, .int k), (3, .int (x_lotsOf M 1 (-1))), (5, .int (nI ((x_buyS M v (x_lotsOf M 1 (-1)) i).2))), (6, .int (nI (i + 1)))]) hX dX7_buys_84 (by decide) rfl ?_
                  refine J_iload hX 7 dX7_buys_86 rfl ?_
                  refine J_istore (loc' := [(5, .int (nI (i + 1))), (4, .int (x_priceOf M 1 (nI (i + 1)))), (7, .int (x_priceOf M 1 (nI (i + 1)))), (0, .ref (a 0)), (1, .int v), (2, .int k), (3, .int (x_lotsOf M 1 (-1))), (6, .int (nI (i + 1)))]) hX dX7_buys_88 (by decide) rfl ?_
                  refine J_iinc (v := nI (i + 1 + 1)) (loc' := [(6, .int (nI (i + 1 + 1))), (5, .int (nI (i + 1))), (4, .int (x_priceOf M 1 (nI (i + 1)))), (7, .int (x_priceOf M 1 (nI (i + 1)))), (0, .ref (a 0)), (1, .int v), (2, .int k), (3, .int (x_lotsOf M 1 (-1)))]) hX 7 dX7_buys_90 rfl (jinc (i + 1)) (by decide) rfl ?_
                  refine J_goto hX 41 dX7_buys_93 (by decide) ?_
                  refine J_sub (loc' := [(0, .ref (a 0)), (1, .int v), (2, .int k), (3, .int (x_lotsOf M 1 (-1))), (4, .int (x_priceOf M 1 (nI (i + 1)))), (5, .int (nI (i + 1))), (6, .int (nI (i + 1 + 1)))]) [4, 5, 6, 7, 2, 1, 0] rfl ?_
                  refine J_seti (y := (x_buyS M v (x_lotsOf M 1 (-1)) (i + 1)).1) (loc' := [(0, .ref (a 0)), (1, .int v), (2, .int k), (3, .int (x_lotsOf M 1 (-1))), (4, .int ((x_buyS M v (x_lotsOf M 1 (-1)) (i + 1)).1)), (5, .int (nI (i + 1))), (6, .int (nI (i + 1 + 1)))]) 4 rfl (by rw [x_buyS]; (first | rw [if_pos h55] | rw [if_neg h55] | skip); (first | rw [if_pos h72] | rw [if_neg h72] | skip); (first | rw [if_pos h79] | rw [if_neg h79] | skip)) rfl ?_
                  refine J_seti (y := nI ((x_buyS M v (x_lotsOf M 1 (-1)) (i + 1)).2)) (loc' := [(0, .ref (a 0)), (1, .int v), (2, .int k), (3, .int (x_lotsOf M 1 (-1))), (4, .int ((x_buyS M v (x_lotsOf M 1 (-1)) (i + 1)).1)), (5, .int (nI ((x_buyS M v (x_lotsOf M 1 (-1)) (i + 1)).2))), (6, .int (nI (i + 1 + 1)))]) 5 rfl (by rw [x_buyS]; (first | rw [if_pos h55] | rw [if_neg h55] | skip); (first | rw [if_pos h72] | rw [if_neg h72] | skip); (first | rw [if_pos h79] | rw [if_neg h79] | skip)) rfl ?_
                  refine J_seti (y := nI ((i + 1) + 1)) (loc' := [(0, .ref (a 0)), (1, .int v), (2, .int k), (3, .int (x_lotsOf M 1 (-1))), (4, .int ((x_buyS M v (x_lotsOf M 1 (-1)) (i + 1)).1)), (5, .int (nI ((x_buyS M v (x_lotsOf M 1 (-1)) (i + 1)).2))), (6, .int (nI ((i + 1) + 1)))]) 6 rfl rfl rfl ?_
                  exact ih41  (i + 1) (by omega) (by omega)
      refine J_sub (loc' := [(0, .ref (a 0)), (1, .int v), (2, .int k), (3, .int (x_lotsOf M 1 (-1))), (4, .int 0), (5, .int 0), (6, .int 1)]) [4, 5, 6, 3, 2, 1, 0] rfl ?_
      refine J_seti (y := (x_buyS M v (x_lotsOf M 1 (-1)) 0).1) (loc' := [(0, .ref (a 0)), (1, .int v), (2, .int k), (3, .int (x_lotsOf M 1 (-1))), (4, .int ((x_buyS M v (x_lotsOf M 1 (-1)) 0).1)), (5, .int 0), (6, .int 1)]) 4 rfl rfl rfl ?_
      refine J_seti (y := nI ((x_buyS M v (x_lotsOf M 1 (-1)) 0).2)) (loc' := [(0, .ref (a 0)), (1, .int v), (2, .int k), (3, .int (x_lotsOf M 1 (-1))), (4, .int ((x_buyS M v (x_lotsOf M 1 (-1)) 0).1)), (5, .int (nI ((x_buyS M v (x_lotsOf M 1 (-1)) 0).2))), (6, .int 1)]) 5 rfl rfl rfl ?_
      refine J_seti (y := nI (0 + 1)) (loc' := [(0, .ref (a 0)), (1, .int v), (2, .int k), (3, .int (x_lotsOf M 1 (-1))), (4, .int ((x_buyS M v (x_lotsOf M 1 (-1)) 0).1)), (5, .int (nI ((x_buyS M v (x_lotsOf M 1 (-1)) 0).2))), (6, .int (nI (0 + 1)))]) 6 rfl rfl rfl ?_
      exact key41 _ 0 (Nat.lt_succ_self _) (by omega)
    · skip
      refine J_bipush (v := (-2)) hX dX7_buys_20 (by decide) ?_
      exact J_ret hX hZ dX7_buys_22 rfl rfl ⟨by rw [x_buys]; (first | rw [if_pos h8] | rw [if_neg h8] | skip); (first | rw [if_pos h17] | rw [if_neg h17] | skip), rfl, rfl⟩
def x_rn (ld g x : Int32) : Nat → Int32
  | 0 => x
  | i + 1 => x_rn ld g x i + (x_rn ld g x i * g / 100 + 100 * (100 - x_rateOf ld (x_rn ld g x i)))
def x_runF (ld g x v : Int32) : Nat → Nat → Int32
  | 0, _ => -6
  | r + 1, i => if v ≤ x_rateOf ld (x_rn ld g x i) then x_runF ld g x v r (i + 1) else nI i
def x_runs (M : jM) (x g v : Int32) : Int32 := if (1 ≤ x.toInt ∧ x.toInt ≤ 99999) then (if (0 ≤ g.toInt ∧ g.toInt ≤ 99) then (if (1 ≤ v.toInt ∧ v.toInt ≤ 100) then x_runF (x_land M 1) g x v 101 0 else -2) else -2) else -2
theorem x_runF_go {ld g x v : Int32} {i : Nat} (h : i ≤ 100) (h1 : v ≤ x_rateOf ld (x_rn ld g x i)) : x_runF ld g x v (101 - i) i = x_runF ld g x v (101 - (i + 1)) (i + 1) := by
  rw [show 101 - i = (101 - (i + 1)) + 1 by omega, x_runF, if_pos h1]
theorem x_runF_at {ld g x v : Int32} {i : Nat} (h : i ≤ 100) (h1 : ¬ v ≤ x_rateOf ld (x_rn ld g x i)) : x_runF ld g x v (101 - i) i = nI i := by
  rw [show 101 - i = (101 - (i + 1)) + 1 by omega, x_runF, if_neg h1]
set_option maxHeartbeats 4000000 in
set_option maxRecDepth 10000 in
theorem c_X7_runs (l : Launch) (D : va_G) (a : Nat → Nat) (g : Nat → ClassId) (M : jM) (L : jL) (x q v : Int32)  : jK l D a g yX7_runs cX7_runs 8 (some .int) 2 51 [.ref (a 0), .int x, .int q, .int v] M L (some (.int (x_runs M x q v))) M L := by
  refine jMeth (by decide) (Nat.le_of_ble_eq_true rfl) ?_
  intro G hX hZ
  refine J_cg (loc' := [(0, .ref (a 0)), (1, .int x), (2, .int q), (3, .int v)]) rfl rfl rfl rfl ?_
  refine J_iload_n hX 1 dX7_runs_0 rfl ?_
  refine J_iconst (v := 1) hX dX7_runs_1 (by decide) ?_
  refine J_ldc hX dX7_runs_2 wm_7_20 ?_
  refine J_callS hX [.int x, .int 1, .int 99999] [] dX7_runs_4 (c_X7_within l D a g M L x 1 99999) lk_X7_62 rfl rfl (Nat.le_of_ble_eq_true rfl) (Nat.le_of_ble_eq_true rfl) (Nat.le_of_ble_eq_true rfl) (J_eq (st := [.int (jB (1 ≤ x.toInt ∧ x.toInt ≤ 99999))]) rfl ?_)
  refine J_ifB_eq hX 30 dX7_runs_7 (by decide) (fun h7 => ?_) (fun h7 => ?_)
  · skip
    refine J_bipush (v := (-2)) hX dX7_runs_30 (by decide) ?_
    exact J_ret hX hZ dX7_runs_32 rfl rfl ⟨by simp [x_runs, h7], rfl, rfl⟩
  · skip
    refine J_iload_n hX 2 dX7_runs_10 rfl ?_
    refine J_iconst (v := 0) hX dX7_runs_11 (by decide) ?_
    refine J_bipush (v := 99) hX dX7_runs_12 (by decide) ?_
    refine J_callS hX [.int q, .int 0, .int 99] [] dX7_runs_14 (c_X7_within l D a g M L q 0 99) lk_X7_62 rfl rfl (Nat.le_of_ble_eq_true rfl) (Nat.le_of_ble_eq_true rfl) (Nat.le_of_ble_eq_true rfl) (J_eq (st := [.int (jB (0 ≤ q.toInt ∧ q.toInt ≤ 99))]) rfl ?_)
    refine J_ifB_eq hX 30 dX7_runs_17 (by decide) (fun h17 => ?_) (fun h17 => ?_)
    · skip
      refine J_bipush (v := (-2)) hX dX7_runs_30 (by decide) ?_
      exact J_ret hX hZ dX7_runs_32 rfl rfl ⟨by simp [x_runs, h7, h17], rfl, rfl⟩
    · skip
      refine J_iload_n hX 3 dX7_runs_20 rfl ?_
      refine J_iconst (v := 1) hX dX7_runs_21 (by decide) ?_
      refine J_bipush (v := 100) hX dX7_runs_22 (by decide) ?_
      refine J_callS hX [.int v, .int 1, .int 100] [] dX7_runs_24 (c_X7_within l D a g M L v 1 100) lk_X7_62 rfl rfl (Nat.le_of_ble_eq_true rfl) (Nat.le_of_ble_eq_true rfl) (Nat.le_of_ble_eq_true rfl) (J_eq (st := [.int (jB (1 ≤ v.toInt ∧ v.toInt ≤ 100))]) rfl ?_)
      refine J_ifB_ne hX 33 dX7_runs_27 (by decide) (fun h27 => ?_) (fun h27 => ?_)
      · skip
        refine J_aload_n hX 0 dX7_runs_33 rfl ?_
        refine J_getr hX 0 0 dX7_runs_34 jc_0 rfl rfl (by decide) inlX7 wm_1_15 ?_
        refine J_callV hX 1 [] [] dX7_runs_37 (c_X2_land l D a g M L 1 jRl_1) lk_X7_125 jc_1 rfl rfl rfl (Nat.le_of_ble_eq_true rfl) (Nat.le_of_ble_eq_true rfl) (Nat.le_of_ble_eq_true rfl) (J_eq (st := [.int (x_land M 1)]) rfl ?_)
        refine J_istore (loc' := [(4, .int (x_land M 1)), (0, .ref (a 0)), (1, .int x), (2, .int q), (3, .int v)]) hX dX7_runs_40 (by decide) rfl ?_
        refine J_iload_n hX 2 dX7_runs_42 rfl ?_
        refine J_istore (loc' := [(5, .int x), (4, .int (x_land M 1)), (0, .ref (a 0)), (1, .int x), (2, .int q), (3, .int v)]) hX dX7_runs_43 (by decide) rfl ?_
        refine J_iconst (v := 0) hX dX7_runs_45 (by decide) ?_
        refine J_istore (loc' := [(6, .int 0), (5, .int x), (4, .int (x_land M 1)), (0, .ref (a 0)), (1, .int x), (2, .int q), (3, .int v)]) hX dX7_runs_46 (by decide) rfl ?_
        have key48 : ∀ (fu48 : Nat) (i : Nat), 101 - i < fu48 → i ≤ 101 → x_runs M x q v = x_runF (x_land M 1) q x v (101 - i) i → J l D a g G 8 M L 48 [(0, .ref (a 0)), (1, .int x), (2, .int q), (3, .int v), (4, .int (x_land M 1)), (5, .int (x_rn (x_land M 1) q x i)), (6, .int (nI i))] [] := by
          intro fu48
          induction fu48 with
          | zero => intro i hmu; exact absurd hmu (Nat.not_lt_zero _)
          | succ fu48 ih48 =>
            intro i hmu48 hi he
            refine J_iload hX 6 dX7_runs_48 rfl ?_
            refine J_bipush (v := 100) hX dX7_runs_50 (by decide) ?_
            refine J_cmpN_gt hX 100 i 100 dX7_runs_52 (by decide) rfl rfl (by omega) (by omega) (fun h52 => ?_) (fun h52 => ?_)
            · skip
              refine J_bipush (v := (-6)) hX dX7_runs_100 (by decide) ?_
              exact J_ret hX hZ dX7_runs_102 rfl rfl ⟨by rw [he, show 101 - i = 0 by omega, x_runF], rfl, rfl⟩
            · skip
              refine J_iload hX 4 dX7_runs_55 rfl ?_
              refine J_iload hX 5 dX7_runs_57 rfl ?_
              refine J_callS hX [.int (x_land M 1), .int (x_rn (x_land M 1) q x i)] [] dX7_runs_59 (c_X7_rateOf l D a g M L (x_land M 1) (x_rn (x_land M 1) q x i)) lk_X7_168 rfl rfl (Nat.le_of_ble_eq_true rfl) (Nat.le_of_ble_eq_true rfl) (Nat.le_of_ble_eq_true rfl) (J_eq (st := [.int (x_rateOf (x_land M 1) (x_rn (x_land M 1) q x i))]) rfl ?_)
              refine J_istore (loc' := [(7, .int (x_rateOf (x_land M 1) (x_rn (x_land M 1) q x i))), (0, .ref (a 0)), (1, .int x), (2, .int q), (3, .int v), (4, .int (x_land M 1)), (5, .int (x_rn (x_land M 1) q x i)), (6, .int (nI i))]) hX dX7_runs_62 (by decide) rfl ?_
              refine J_iload hX 0 dX7_runs_64 rfl ?_
              refine J_iload_n hX 4 dX7_runs_66 rfl ?_
              refine J_icmp_ge hX 73 dX7_runs_67 (by decide) (fun h67 => ?_) (fun h67 => ?_)
              · skip
                refine J_iload hX 6 dX7_runs_73 rfl ?_
                refine J_iload hX 6 dX7_runs_75 rfl ?_
                refine J_iload_n hX 3 dX7_runs_77 rfl ?_
                refine J_imul hX dX7_runs_78 ?_
                refine J_bipush (v := 100) hX dX7_runs_79 (by decide) ?_
                refine J_idiv hX dX7_runs_81 (by decide) ?_
                refine J_bipush (v := 100) hX dX7_runs_82 (by decide) ?_
                refine J_bipush (v := 100) hX dX7_runs_84 (by decide) ?_
                refine J_iload hX 0 dX7_runs_86 rfl ?_
                refine J_isub hX dX7_runs_88 ?_
                refine J_imul hX dX7_runs_89 ?_
                refine J_iadd hX dX7_runs_90 ?_
                refine J_iadd hX dX7_runs_91 ?_
                refine J_istore (loc' := [(5, .int ((x_rn (x_land M 1) q x i) + ((((x_rn (x_land M 1) q x i) * q) / 100) + (100 * (100 - (x_rateOf (x_land M 1) (x_rn (x_land M 1) q x i))))))), (7, .int (x_rateOf (x_land M 1) (x_rn (x_land M 1) q x i))), (0, .ref (a 0)), (1, .int x), (2, .int q), (3, .int v), (4, .int (x_land M 1)), (6, .int (nI i))]) hX dX7_runs_92 (by decide) rfl ?_
                refine J_iinc (v := nI (i + 1)) (loc' := [(6, .int (nI (i + 1))), (5, .int ((x_rn (x_land M 1) q x i) + ((((x_rn (x_land M 1) q x i) * q) / 100) + (100 * (100 - (x_rateOf (x_land M 1) (x_rn (x_land M 1) q x i))))))), (7, .int (x_rateOf (x_land M 1) (x_rn (x_land M 1) q x i))), (0, .ref (a 0)), (1, .int x), (2, .int q), (3, .int v), (4, .int (x_land M 1))]) hX 7 dX7_runs_94 rfl (jinc i) (by decide) rfl ?_
                refine J_goto hX 48 dX7_runs_97 (by decide) ?_
                refine J_sub (loc' := [(0, .ref (a 0)), (1, .int x), (2, .int q), (3, .int v), (4, .int (x_land M 1)), (5, .int ((x_rn (x_land M 1) q x i) + ((((x_rn (x_land M 1) q x i) * q) / 100) + (100 * (100 - (x_rateOf (x_land M 1) (x_rn (x_land M 1) q x i))))))), (6, .int (nI (i + 1)))]) [3, 4, 5, 6, 7, 1, 0] rfl ?_
                refine J_seti (y := x_rn (x_land M 1) q x (i + 1)) (loc' := [(0, .ref (a 0)), (1, .int x), (2, .int q), (3, .int v), (4, .int (x_land M 1)), (5, .int (x_rn (x_land M 1) q x (i + 1))), (6, .int (nI (i + 1)))]) 5 rfl rfl rfl ?_
                exact ih48  (i + 1) (by omega) (by omega) (he.trans (x_runF_go h52 h67))
              · skip
                refine J_iload hX 7 dX7_runs_70 rfl ?_
                exact J_ret hX hZ dX7_runs_72 rfl rfl ⟨by rw [he, x_runF_at h52 h67], rfl, rfl⟩
        refine J_sub (loc' := [(0, .ref (a 0)), (1, .int x), (2, .int q), (3, .int v), (4, .int (x_land M 1)), (5, .int x), (6, .int 0)]) [3, 4, 5, 6, 2, 1, 0] rfl ?_
        refine J_seti (y := x_rn (x_land M 1) q x 0) (loc' := [(0, .ref (a 0)), (1, .int x), (2, .int q), (3, .int v), (4, .int (x_land M 1)), (5, .int (x_rn (x_land M 1) q x 0)), (6, .int 0)]) 5 rfl rfl rfl ?_
        refine J_seti (y := nI 0) (loc' := [(0, .ref (a 0)), (1, .int x), (2, .int q), (3, .int v), (4, .int (x_land M 1)), (5, .int (x_rn (x_land M 1) q x 0)), (6, .int (nI 0))]) 6 rfl rfl rfl ?_
        exact key48 _ 0 (Nat.lt_succ_self _) (by omega) (by simp [x_runs, h7, h17, h27])
      · skip
        refine J_bipush (v := (-2)) hX dX7_runs_30 (by decide) ?_
        exact J_ret hX hZ dX7_runs_32 rfl rfl ⟨by simp [x_runs, h7, h17, h27], rfl, rfl⟩
def x_wl (p n : Nat) : Nat → Nat
  | 0 => 0
  | i + 1 => x_wl p n i + (p / 10 ^ i % 10 - p / 10 ^ n / 10 ^ i % 10)
theorem x_wl_le (p n i : Nat) : x_wl p n i ≤ 9 * i := by
  induction i with
  | zero => exact Nat.le_refl 0
  | succ i ih => rw [x_wl]; omega
def x_wages (v k : Int32) : Int32 := if (0 ≤ v.toInt ∧ v.toInt ≤ 999999999) then (if (0 ≤ k.toInt ∧ k.toInt ≤ 8) then nI (x_wl v.toNatClampNeg k.toNatClampNeg 9) else -2) else -2
theorem jp10 {i : Nat} (h : i ≤ 9) : 10 ^ i < 2 ^ 31 := Nat.lt_of_le_of_lt (Nat.pow_le_pow_right (by omega) h) (by decide)
theorem jmul10 (k : Nat) : nI k * 10 = nI (k * 10) := pk_mul k 10
theorem jdiv10 {k : Nat} (h : k < 2 ^ 31) : nI k / 10 = nI (k / 10) := pk_div (d := 10) h (by omega) (by omega)
theorem jrem10 {k : Nat} (h : k < 2 ^ 31) : nI k - nI k / 10 * 10 = nI (k % 10) := pk_rem (d := 10) h (by omega) (by omega)
theorem jmax0 {a b : Nat} (ha : a < 2 ^ 30) (hb : b < 2 ^ 30) : (if (0 : Int32) < nI a - nI b then nI a - nI b else 0) = nI (a - b) := by
  have e := pk_sub_toInt ha hb
  by_cases h : b < a
  · rw [if_pos (by rw [Int32.lt_iff_toInt_lt, e]; show (0 : Int) < _; omega), pk_sub (by omega)]
  · rw [if_neg (by rw [Int32.lt_iff_toInt_lt, e]; show ¬ (0 : Int) < _; omega), show a - b = 0 by omega]
    rfl
set_option maxHeartbeats 4000000 in
set_option maxRecDepth 10000 in
theorem c_X7_wages (l : Launch) (D : va_G) (a : Nat → Nat) (g : Nat → ClassId) (M : jM) (L : jL) (v k : Int32)  : jK l D a g yX7_wages cX7_wages 8 (some .int) 1 30 [.ref (a 0), .int v, .int k] M L (some (.int (x_wages v k))) M L := by
  refine jMeth (by decide) (Nat.le_of_ble_eq_true rfl) ?_
  intro G hX hZ
  refine J_cg (loc' := [(0, .ref (a 0)), (1, .int v), (2, .int k)]) rfl rfl rfl rfl ?_
  refine J_iload_n hX 1 dX7_wages_0 rfl ?_
  refine J_iconst (v := 0) hX dX7_wages_1 (by decide) ?_
  refine J_ldc hX dX7_wages_2 wm_25_12 ?_
  refine J_callS hX [.int v, .int 0, .int 999999999] [] dX7_wages_4 (c_X7_within l D a g M L v 0 999999999) lk_X7_62 rfl rfl (Nat.le_of_ble_eq_true rfl) (Nat.le_of_ble_eq_true rfl) (Nat.le_of_ble_eq_true rfl) (J_eq (st := [.int (jB (0 ≤ v.toInt ∧ v.toInt ≤ 999999999))]) rfl ?_)
  refine J_ifB_eq hX 20 dX7_wages_7 (by decide) (fun h7 => ?_) (fun h7 => ?_)
  · skip
    refine J_bipush (v := (-2)) hX dX7_wages_20 (by decide) ?_
    exact J_ret hX hZ dX7_wages_22 rfl rfl ⟨by simp [x_wages, h7], rfl, rfl⟩
  · skip
    refine J_iload_n hX 2 dX7_wages_10 rfl ?_
    refine J_iconst (v := 0) hX dX7_wages_11 (by decide) ?_
    refine J_bipush (v := 8) hX dX7_wages_12 (by decide) ?_
    refine J_callS hX [.int k, .int 0, .int 8] [] dX7_wages_14 (c_X7_within l D a g M L k 0 8) lk_X7_62 rfl rfl (Nat.le_of_ble_eq_true rfl) (Nat.le_of_ble_eq_true rfl) (Nat.le_of_ble_eq_true rfl) (J_eq (st := [.int (jB (0 ≤ k.toInt ∧ k.toInt ≤ 8))]) rfl ?_)
    refine J_ifB_ne hX 23 dX7_wages_17 (by decide) (fun h17 => ?_) (fun h17 => ?_)
    · skip
      have iv := jix h7
      have lv := jixl h7
      have ik := jix h17
      have lk := jixl h17
      refine J_seti (y := nI v.toNatClampNeg) (loc' := [(0, .ref (a 0)), (1, .int (nI v.toNatClampNeg)), (2, .int k)]) 1 rfl iv rfl ?_
      refine J_seti (y := nI k.toNatClampNeg) (loc' := [(0, .ref (a 0)), (1, .int (nI v.toNatClampNeg)), (2, .int (nI k.toNatClampNeg))]) 2 rfl ik rfl ?_
      refine J_iconst (v := 1) hX dX7_wages_23 (by decide) ?_
      refine J_istore_n (loc' := [(3, .int 1), (0, .ref (a 0)), (1, .int (nI v.toNatClampNeg)), (2, .int (nI k.toNatClampNeg))]) hX dX7_wages_24 (by decide) rfl ?_
      refine J_iconst (v := 0) hX dX7_wages_25 (by decide) ?_
      refine J_istore (loc' := [(4, .int 0), (3, .int 1), (0, .ref (a 0)), (1, .int (nI v.toNatClampNeg)), (2, .int (nI k.toNatClampNeg))]) hX dX7_wages_26 (by decide) rfl ?_
      have key28 : ∀ (fu28 : Nat) (i : Nat), k.toNatClampNeg - i < fu28 → i ≤ k.toNatClampNeg → J l D a g G 8 M L 28 [(0, .ref (a 0)), (1, .int (nI v.toNatClampNeg)), (2, .int (nI k.toNatClampNeg)), (3, .int (nI (10 ^ i))), (4, .int (nI i))] [] := by
        intro fu28
        induction fu28 with
        | zero => intro i hmu; exact absurd hmu (Nat.not_lt_zero _)
        | succ fu28 ih28 =>
          intro i hmu28 hi
          refine J_iload hX 4 dX7_wages_28 rfl ?_
          refine J_iload_n hX 2 dX7_wages_30 rfl ?_
          refine J_cmpN_ge hX 45 i k.toNatClampNeg dX7_wages_31 (by decide) rfl rfl (by omega) (by omega) (fun h31 => ?_) (fun h31 => ?_)
          · skip
            have ei : i = k.toNatClampNeg := by omega
            refine J_seti (y := nI (10 ^ k.toNatClampNeg)) (loc' := [(0, .ref (a 0)), (1, .int (nI v.toNatClampNeg)), (2, .int (nI k.toNatClampNeg)), (3, .int (nI (10 ^ k.toNatClampNeg))), (4, .int (nI i))]) 3 rfl (by rw [ei]) rfl ?_
            refine J_iload_n hX 1 dX7_wages_45 rfl ?_
            refine J_istore (loc' := [(4, .int (nI v.toNatClampNeg)), (0, .ref (a 0)), (1, .int (nI v.toNatClampNeg)), (2, .int (nI k.toNatClampNeg)), (3, .int (nI (10 ^ k.toNatClampNeg)))]) hX dX7_wages_46 (by decide) rfl ?_
            refine J_iload_n hX 2 dX7_wages_48 rfl ?_
            refine J_iload_n hX 4 dX7_wages_49 rfl ?_
            refine J_idiv hX dX7_wages_50 (nI_ne0 (Nat.pow_pos (by omega)) (jp10 (by omega))) ?_
            refine J_topi (y := nI (v.toNatClampNeg / 10 ^ k.toNatClampNeg)) (pk_div (by omega) (Nat.pow_pos (by omega)) (jp10 (by omega))) ?_
            refine J_istore (loc' := [(5, .int (nI (v.toNatClampNeg / 10 ^ k.toNatClampNeg))), (4, .int (nI v.toNatClampNeg)), (0, .ref (a 0)), (1, .int (nI v.toNatClampNeg)), (2, .int (nI k.toNatClampNeg)), (3, .int (nI (10 ^ k.toNatClampNeg)))]) hX dX7_wages_51 (by decide) rfl ?_
            refine J_iconst (v := 0) hX dX7_wages_53 (by decide) ?_
            refine J_istore (loc' := [(6, .int 0), (5, .int (nI (v.toNatClampNeg / 10 ^ k.toNatClampNeg))), (4, .int (nI v.toNatClampNeg)), (0, .ref (a 0)), (1, .int (nI v.toNatClampNeg)), (2, .int (nI k.toNatClampNeg)), (3, .int (nI (10 ^ k.toNatClampNeg)))]) hX dX7_wages_54 (by decide) rfl ?_
            refine J_iconst (v := 0) hX dX7_wages_56 (by decide) ?_
            refine J_istore (loc' := [(7, .int 0), (6, .int 0), (5, .int (nI (v.toNatClampNeg / 10 ^ k.toNatClampNeg))), (4, .int (nI v.toNatClampNeg)), (0, .ref (a 0)), (1, .int (nI v.toNatClampNeg)), (2, .int (nI k.toNatClampNeg)), (3, .int (nI (10 ^ k.toNatClampNeg)))]) hX dX7_wages_57 (by decide) rfl ?_
            have key59 : ∀ (fu59 : Nat) (j : Nat), 9 - j < fu59 → j ≤ 9 → J l D a g G 8 M L 59 [(4, .int (nI (v.toNatClampNeg / 10 ^ j))), (5, .int (nI (v.toNatClampNeg / 10 ^ k.toNatClampNeg / 10 ^ j))), (6, .int (nI (x_wl v.toNatClampNeg k.toNatClampNeg j))), (7, .int (nI j))] [] := by
              intro fu59
              induction fu59 with
              | zero => intro j hmu; exact absurd hmu (Nat.not_lt_zero _)
              | succ fu59 ih59 =>
                intro j hmu59 hj
                have b1 : v.toNatClampNeg / 10 ^ j < 2 ^ 30 := Nat.lt_of_le_of_lt (Nat.div_le_self _ _) (by omega)
                have b2 : v.toNatClampNeg / 10 ^ k.toNatClampNeg / 10 ^ j < 2 ^ 30 := Nat.lt_of_le_of_lt (Nat.div_le_self _ _) (Nat.lt_of_le_of_lt (Nat.div_le_self _ _) (by omega))
                refine J_iload hX 3 dX7_wages_59 rfl ?_
                refine J_bipush (v := 9) hX dX7_wages_61 (by decide) ?_
                refine J_cmpN_ge hX 106 j 9 dX7_wages_63 (by decide) rfl rfl (by omega) (by omega) (fun h63 => ?_) (fun h63 => ?_)
                · skip
                  refine J_iload hX 2 dX7_wages_106 rfl ?_
                  exact J_ret hX hZ dX7_wages_108 rfl rfl ⟨by rw [show j = 9 by omega]; simp [x_wages, h7, h17], rfl, rfl⟩
                · skip
                  refine J_iload hX 2 dX7_wages_66 rfl ?_
                  refine J_iconst (v := 0) hX dX7_wages_68 (by decide) ?_
                  refine J_iload hX 0 dX7_wages_69 rfl ?_
                  refine J_bipush (v := 10) hX dX7_wages_71 (by decide) ?_
                  refine J_irem hX dX7_wages_73 (by decide) ?_
                  refine J_topi (y := nI (v.toNatClampNeg / 10 ^ j % 10)) (jrem10 (by omega)) ?_
                  refine J_iload hX 1 dX7_wages_74 rfl ?_
                  refine J_bipush (v := 10) hX dX7_wages_76 (by decide) ?_
                  refine J_irem hX dX7_wages_78 (by decide) ?_
                  refine J_topi (y := nI (v.toNatClampNeg / 10 ^ k.toNatClampNeg / 10 ^ j % 10)) (jrem10 (by omega)) ?_
                  refine J_isub hX dX7_wages_79 ?_
                  refine J_mmax hX dX7_wages_80 wm_25_13 wm_22_23 wm_15_7 wm_23_0 (Nat.le_of_ble_eq_true rfl) (Nat.le_of_ble_eq_true rfl) ?_
                  refine J_topi (y := nI (v.toNatClampNeg / 10 ^ j % 10 - v.toNatClampNeg / 10 ^ k.toNatClampNeg / 10 ^ j % 10)) (jmax0 (by omega) (by omega)) ?_
                  refine J_iadd hX dX7_wages_83 ?_
                  refine J_topi (y := nI (x_wl v.toNatClampNeg k.toNatClampNeg (j + 1))) (nI_add _ _) ?_
                  refine J_istore (loc' := [(6, .int (nI (x_wl v.toNatClampNeg k.toNatClampNeg (j + 1)))), (4, .int (nI (v.toNatClampNeg / 10 ^ j))), (5, .int (nI (v.toNatClampNeg / 10 ^ k.toNatClampNeg / 10 ^ j))), (7, .int (nI j))]) hX dX7_wages_84 (by decide) rfl ?_
                  refine J_iload hX 1 dX7_wages_86 rfl ?_
                  refine J_bipush (v := 10) hX dX7_wages_88 (by decide) ?_
                  refine J_idiv hX dX7_wages_90 (by decide) ?_
                  refine J_topi (y := nI (v.toNatClampNeg / 10 ^ j / 10)) (jdiv10 (by omega)) ?_
                  refine J_istore (loc' := [(4, .int (nI (v.toNatClampNeg / 10 ^ j / 10))), (6, .int (nI (x_wl v.toNatClampNeg k.toNatClampNeg (j + 1)))), (5, .int (nI (v.toNatClampNeg / 10 ^ k.toNatClampNeg / 10 ^ j))), (7, .int (nI j))]) hX dX7_wages_91 (by decide) rfl ?_
                  refine J_iload hX 2 dX7_wages_93 rfl ?_
                  refine J_bipush (v := 10) hX dX7_wages_95 (by decide) ?_
                  refine J_idiv hX dX7_wages_97 (by decide) ?_
                  refine J_topi (y := nI (v.toNatClampNeg / 10 ^ k.toNatClampNeg / 10 ^ j / 10)) (jdiv10 (by omega)) ?_
                  refine J_istore (loc' := [(5, .int (nI (v.toNatClampNeg / 10 ^ k.toNatClampNeg / 10 ^ j / 10))), (4, .int (nI (v.toNatClampNeg / 10 ^ j / 10))), (6, .int (nI (x_wl v.toNatClampNeg k.toNatClampNeg (j + 1)))), (7, .int (nI j))]) hX dX7_wages_98 (by decide) rfl ?_
                  refine J_iinc (v := nI (j + 1)) (loc' := [(7, .int (nI (j + 1))), (5, .int (nI (v.toNatClampNeg / 10 ^ k.toNatClampNeg / 10 ^ j / 10))), (4, .int (nI (v.toNatClampNeg / 10 ^ j / 10))), (6, .int (nI (x_wl v.toNatClampNeg k.toNatClampNeg (j + 1))))]) hX 3 dX7_wages_100 rfl (jinc j) (by decide) rfl ?_
                  refine J_goto hX 59 dX7_wages_103 (by decide) ?_
                  refine J_sub (loc' := [(4, .int (nI (v.toNatClampNeg / 10 ^ j / 10))), (5, .int (nI (v.toNatClampNeg / 10 ^ k.toNatClampNeg / 10 ^ j / 10))), (6, .int (nI (x_wl v.toNatClampNeg k.toNatClampNeg (j + 1)))), (7, .int (nI (j + 1)))]) [2, 1, 3, 0] rfl ?_
                  refine J_seti (y := nI (v.toNatClampNeg / 10 ^ (j + 1))) (loc' := [(4, .int (nI (v.toNatClampNeg / 10 ^ (j + 1)))), (5, .int (nI (v.toNatClampNeg / 10 ^ k.toNatClampNeg / 10 ^ j / 10))), (6, .int (nI (x_wl v.toNatClampNeg k.toNatClampNeg (j + 1)))), (7, .int (nI (j + 1)))]) 0 rfl (by rw [Nat.pow_succ, ← Nat.div_div_eq_div_mul]) rfl ?_
                  refine J_seti (y := nI (v.toNatClampNeg / 10 ^ k.toNatClampNeg / 10 ^ (j + 1))) (loc' := [(4, .int (nI (v.toNatClampNeg / 10 ^ (j + 1)))), (5, .int (nI (v.toNatClampNeg / 10 ^ k.toNatClampNeg / 10 ^ (j + 1)))), (6, .int (nI (x_wl v.toNatClampNeg k.toNatClampNeg (j + 1)))), (7, .int (nI (j + 1)))]) 1 rfl (by rw [Nat.pow_succ, ← Nat.div_div_eq_div_mul]) rfl ?_
                  exact ih59  (j + 1) (by omega) (by omega)
            refine J_sub (loc' := [(4, .int (nI v.toNatClampNeg)), (5, .int (nI (v.toNatClampNeg / 10 ^ k.toNatClampNeg))), (6, .int 0), (7, .int 0)]) [3, 2, 1, 0] rfl ?_
            refine J_seti (y := nI (v.toNatClampNeg / 10 ^ 0)) (loc' := [(4, .int (nI (v.toNatClampNeg / 10 ^ 0))), (5, .int (nI (v.toNatClampNeg / 10 ^ k.toNatClampNeg))), (6, .int 0), (7, .int 0)]) 0 rfl (by rw [Nat.pow_zero, Nat.div_one]) rfl ?_
            refine J_seti (y := nI (v.toNatClampNeg / 10 ^ k.toNatClampNeg / 10 ^ 0)) (loc' := [(4, .int (nI (v.toNatClampNeg / 10 ^ 0))), (5, .int (nI (v.toNatClampNeg / 10 ^ k.toNatClampNeg / 10 ^ 0))), (6, .int 0), (7, .int 0)]) 1 rfl (by rw [Nat.pow_zero, Nat.div_one]) rfl ?_
            refine J_seti (y := nI (x_wl v.toNatClampNeg k.toNatClampNeg 0)) (loc' := [(4, .int (nI (v.toNatClampNeg / 10 ^ 0))), (5, .int (nI (v.toNatClampNeg / 10 ^ k.toNatClampNeg / 10 ^ 0))), (6, .int (nI (x_wl v.toNatClampNeg k.toNatClampNeg 0))), (7, .int 0)]) 2 rfl rfl rfl ?_
            refine J_seti (y := nI 0) (loc' := [(4, .int (nI (v.toNatClampNeg / 10 ^ 0))), (5, .int (nI (v.toNatClampNeg / 10 ^ k.toNatClampNeg / 10 ^ 0))), (6, .int (nI (x_wl v.toNatClampNeg k.toNatClampNeg 0))), (7, .int (nI 0))]) 3 rfl rfl rfl ?_
            exact key59 _ 0 (Nat.lt_succ_self _) (by omega)
          · skip
            refine J_iload_n hX 3 dX7_wages_34 rfl ?_
            refine J_bipush (v := 10) hX dX7_wages_35 (by decide) ?_
            refine J_imul hX dX7_wages_37 ?_
            refine J_topi (y := nI (10 ^ (i + 1))) (jmul10 _) ?_
            refine J_istore_n (loc' := [(3, .int (nI (10 ^ (i + 1)))), (0, .ref (a 0)), (1, .int (nI v.toNatClampNeg)), (2, .int (nI k.toNatClampNeg)), (4, .int (nI i))]) hX dX7_wages_38 (by decide) rfl ?_
            refine J_iinc (v := nI (i + 1)) (loc' := [(4, .int (nI (i + 1))), (3, .int (nI (10 ^ (i + 1)))), (0, .ref (a 0)), (1, .int (nI v.toNatClampNeg)), (2, .int (nI k.toNatClampNeg))]) hX 4 dX7_wages_39 rfl (jinc i) (by decide) rfl ?_
            refine J_goto hX 28 dX7_wages_42 (by decide) ?_
            refine J_sub (loc' := [(0, .ref (a 0)), (1, .int (nI v.toNatClampNeg)), (2, .int (nI k.toNatClampNeg)), (3, .int (nI (10 ^ (i + 1)))), (4, .int (nI (i + 1)))]) [2, 3, 4, 1, 0] rfl ?_
            exact ih28  (i + 1) (by omega) (by omega)
      refine J_sub (loc' := [(0, .ref (a 0)), (1, .int (nI v.toNatClampNeg)), (2, .int (nI k.toNatClampNeg)), (3, .int 1), (4, .int 0)]) [2, 3, 4, 1, 0] rfl ?_
      refine J_seti (y := nI (10 ^ 0)) (loc' := [(0, .ref (a 0)), (1, .int (nI v.toNatClampNeg)), (2, .int (nI k.toNatClampNeg)), (3, .int (nI (10 ^ 0))), (4, .int 0)]) 3 rfl rfl rfl ?_
      refine J_seti (y := nI 0) (loc' := [(0, .ref (a 0)), (1, .int (nI v.toNatClampNeg)), (2, .int (nI k.toNatClampNeg)), (3, .int (nI (10 ^ 0))), (4, .int (nI 0))]) 4 rfl rfl rfl ?_
      exact key28 _ 0 (Nat.lt_succ_self _) (by omega)
    · skip
      refine J_bipush (v := (-2)) hX dX7_wages_20 (by decide) ?_
      exact J_ret hX hZ dX7_wages_22 rfl rfl ⟨by simp [x_wages, h7, h17], rfl, rfl⟩
