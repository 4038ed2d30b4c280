set_option maxHeartbeats 4000000 in
set_option maxRecDepth 10000 in
theorem c_X7_within (l : Launch) (D : va_G) (a : Nat → Nat) (g : Nat → ClassId) (M : jM) (L : jL) (v x y : Int32)  : jK l D a g yX7_within cX7_within 3 (some .boolean) 0 0 [.int v, .int x, .int y] M L (some (.int (jB (x.toInt ≤ v.toInt ∧ v.toInt ≤ y.toInt)))) M L := by
  refine jMeth (by decide) (Nat.le_of_ble_eq_true rfl) ?_
  intro G hX hZ
  refine J_cg (loc' := [(0, .int v), (1, .int x), (2, .int y)]) rfl rfl rfl rfl ?_
  refine J_iload_n hX 0 dX7_within_0 rfl ?_
  refine J_iload_n hX 1 dX7_within_1 rfl ?_
  refine J_icmp_lt hX 14 dX7_within_2 (by decide) (fun h2 => ?_) (fun h2 => ?_)
  · skip
    refine J_iconst (v := 0) hX dX7_within_14 (by decide) ?_
    exact J_ret hX hZ dX7_within_15 rfl rfl ⟨by simp only [Int32.lt_iff_toInt_lt, Int32.le_iff_toInt_le] at h2; first | rw [jB_t (by omega)] | rw [jB_f (by omega)], rfl, rfl⟩
  · skip
    refine J_iload_n hX 0 dX7_within_5 rfl ?_
    refine J_iload_n hX 2 dX7_within_6 rfl ?_
    refine J_icmp_gt hX 14 dX7_within_7 (by decide) (fun h7 => ?_) (fun h7 => ?_)
    · skip
      refine J_iconst (v := 0) hX dX7_within_14 (by decide) ?_
      exact J_ret hX hZ dX7_within_15 rfl rfl ⟨by simp only [Int32.lt_iff_toInt_lt, Int32.le_iff_toInt_le] at h2 h7; first | rw [jB_t (by omega)] | rw [jB_f (by omega)], rfl, rfl⟩
    · skip
      refine J_iconst (v := 1) hX dX7_within_10 (by decide) ?_
      refine J_goto hX 15 dX7_within_11 (by decide) ?_
      exact J_ret hX hZ dX7_within_15 rfl rfl ⟨by simp only [Int32.lt_iff_toInt_lt, Int32.le_iff_toInt_le] at h2 h7; first | rw [jB_t (by omega)] | rw [jB_f (by omega)], rfl, rfl⟩
set_option maxHeartbeats 4000000 in
set_option maxRecDepth 10000 in
theorem c_X7_isOne (l : Launch) (D : va_G) (a : Nat → Nat) (g : Nat → ClassId) (M : jM) (L : jL) (v : Int32)  : jK l D a g yX7_isOne cX7_isOne 1 (some .boolean) 1 22 [.int v] M L (some (.int (jB (0 ≤ v.toInt ∧ v.toInt ≤ 5)))) M L := by
  refine jMeth (by decide) (Nat.le_of_ble_eq_true rfl) ?_
  intro G hX hZ
  refine J_cg (loc' := [(0, .int v)]) rfl rfl rfl rfl ?_
  refine J_iload_n hX 0 dX7_isOne_0 rfl ?_
  refine J_iconst (v := 0) hX dX7_isOne_1 (by decide) ?_
  refine J_iconst (v := 5) hX dX7_isOne_2 (by decide) ?_
  refine J_callS hX [.int v, .int 0, .int 5] [] dX7_isOne_3 (c_X7_within l D a g M L v 0 5) lk_X7_62 rfl rfl (Nat.le_of_ble_eq_true rfl) (Nat.le_of_ble_eq_true rfl) (Nat.le_of_ble_eq_true rfl) (J_eq (st := [.int (jB (0 ≤ v.toInt ∧ v.toInt ≤ 5))]) rfl ?_)
  exact J_ret hX hZ dX7_isOne_6 rfl (jB_nar _) ⟨rfl, rfl, rfl⟩
def x_rateOf (land notes : Int32) : Int32 := if notes ≤ 0 then 100 else if 100 * land / notes < 100 then 100 * land / notes else 100
set_option maxHeartbeats 4000000 in
set_option maxRecDepth 10000 in
theorem c_X7_rateOf (l : Launch) (D : va_G) (a : Nat → Nat) (g : Nat → ClassId) (M : jM) (L : jL) (x y : Int32)  : jK l D a g yX7_rateOf cX7_rateOf 2 (some .int) 1 30 [.int x, .int y] M L (some (.int (x_rateOf x y))) M L := by
  refine jMeth (by decide) (Nat.le_of_ble_eq_true rfl) ?_
  intro G hX hZ
  refine J_cg (loc' := [(0, .int x), (1, .int y)]) rfl rfl rfl rfl ?_
  refine J_iload_n hX 1 dX7_rateOf_0 rfl ?_
  refine J_if_gt hX 9 dX7_rateOf_1 (by decide) (fun h1 => ?_) (fun h1 => ?_)
  · skip
    refine J_bipush (v := 100) hX dX7_rateOf_9 (by decide) ?_
    refine J_bipush (v := 100) hX dX7_rateOf_11 (by decide) ?_
    refine J_iload_n hX 0 dX7_rateOf_13 rfl ?_
    refine J_imul hX dX7_rateOf_14 ?_
    refine J_iload_n hX 1 dX7_rateOf_15 rfl ?_
    refine J_idiv hX dX7_rateOf_16 (by intro e; subst e; exact absurd h1 (by decide)) ?_
    refine J_mmin hX dX7_rateOf_17 wm_15_5 wm_15_6 wm_15_7 wm_15_8 (Nat.le_of_ble_eq_true rfl) (Nat.le_of_ble_eq_true rfl) ?_
    exact J_ret hX hZ dX7_rateOf_20 rfl rfl ⟨by first | rw [x_rateOf, if_pos (Int32.not_lt.mp h1)] | rw [x_rateOf, if_neg (Int32.not_le.mpr h1)], rfl, rfl⟩
  · skip
    refine J_bipush (v := 100) hX dX7_rateOf_4 (by decide) ?_
    refine J_goto hX 20 dX7_rateOf_6 (by decide) ?_
    exact J_ret hX hZ dX7_rateOf_20 rfl rfl ⟨by first | rw [x_rateOf, if_pos (Int32.not_lt.mp h1)] | rw [x_rateOf, if_neg (Int32.not_le.mpr h1)], rfl, rfl⟩
def x_notes (M : jM) (q : Nat) : Int32 := jSum (M (q + 1)) (M q 5) 6
set_option maxHeartbeats 4000000 in
set_option maxRecDepth 10000 in
theorem c_X2_notes (l : Launch) (D : va_G) (a : Nat → Nat) (g : Nat → ClassId) (M : jM) (L : jL) (q : Nat) (hq : jRl q)  : jK l D a g yX2_notes cX2_notes 3 (some .int) 0 0 [.ref (a q)] M L (some (.int (x_notes M q))) M L := by
  refine jMeth (by decide) (Nat.le_of_ble_eq_true rfl) ?_
  intro G hX hZ
  refine J_cg (loc' := [(0, .ref (a q))]) rfl rfl rfl rfl ?_
  refine J_aload_n hX 0 dX2_notes_0 rfl ?_
  refine J_geti hX q 5 dX2_notes_1 hq.o rfl rfl (by decide) inlX2 wm_13_0 ?_
  refine J_istore_n (loc' := [(1, .int (M q 5)), (0, .ref (a q))]) hX dX2_notes_4 (by decide) rfl ?_
  refine J_iconst (v := 0) hX dX2_notes_5 (by decide) ?_
  refine J_istore_n (loc' := [(2, .int 0), (1, .int (M q 5)), (0, .ref (a q))]) hX dX2_notes_6 (by decide) rfl ?_
  have key7 : ∀ (fu7 : Nat) (i : Nat), 6 - i < fu7 → i ≤ 6 → J l D a g G 3 M L 7 [(0, .ref (a q)), (1, .int (jSum (M (q + 1)) (M q 5) i)), (2, .int (nI i))] [] := by
    intro fu7
    induction fu7 with
    | zero => intro i hmu; exact absurd hmu (Nat.not_lt_zero _)
    | succ fu7 ih7 =>
      intro i hmu7 hi
      refine J_iload_n hX 2 dX2_notes_7 rfl ?_
      refine J_bipush (v := 6) hX dX2_notes_8 (by decide) ?_
      refine J_cmpN_ge hX 28 i 6 dX2_notes_10 (by decide) rfl rfl (by omega) (by omega) (fun h10 => ?_) (fun h10 => ?_)
      · skip
        refine J_iload_n hX 1 dX2_notes_28 rfl ?_
        exact J_ret hX hZ dX2_notes_29 rfl rfl ⟨by rw [show i = 6 by omega]; rfl, rfl, rfl⟩
      · skip
        refine J_iload_n hX 1 dX2_notes_13 rfl ?_
        refine J_aload_n hX 0 dX2_notes_14 rfl ?_
        refine J_getr hX q 0 dX2_notes_15 hq.o rfl rfl (by decide) inlX2 wm_2_21 ?_
        refine J_iload_n hX 2 dX2_notes_18 rfl ?_
        refine J_iald hX (q + 1) i dX2_notes_19 hq.c1 rfl (by omega) (by omega) ?_
        refine J_iadd hX dX2_notes_20 ?_
        refine J_istore_n (loc' := [(1, .int ((jSum (M (q + 1)) (M q 5) i) + (M (q + 1) i))), (0, .ref (a q)), (2, .int (nI i))]) hX dX2_notes_21 (by decide) rfl ?_
        refine J_iinc (v := nI (i + 1)) (loc' := [(2, .int (nI (i + 1))), (1, .int ((jSum (M (q + 1)) (M q 5) i) + (M (q + 1) i))), (0, .ref (a q))]) hX 2 dX2_notes_22 rfl (jinc i) (by decide) rfl ?_
        refine J_goto hX 7 dX2_notes_25 (by decide) ?_
        refine J_sub (loc' := [(0, .ref (a q)), (1, .int ((jSum (M (q + 1)) (M q 5) i) + (M (q + 1) i))), (2, .int (nI (i + 1)))]) [2, 1, 0] rfl ?_
        refine J_seti (y := jSum (M (q + 1)) (M q 5) (i + 1)) (loc' := [(0, .ref (a q)), (1, .int (jSum (M (q + 1)) (M q 5) (i + 1))), (2, .int (nI (i + 1)))]) 1 rfl rfl rfl ?_
        exact ih7  (i + 1) (by omega) (by omega)
  refine J_sub (loc' := [(0, .ref (a q)), (1, .int (M q 5)), (2, .int 0)]) [2, 1, 0] rfl ?_
  refine J_seti (y := jSum (M (q + 1)) (M q 5) 0) (loc' := [(0, .ref (a q)), (1, .int (jSum (M (q + 1)) (M q 5) 0)), (2, .int 0)]) 1 rfl rfl rfl ?_
  refine J_seti (y := nI 0) (loc' := [(0, .ref (a q)), (1, .int (jSum (M (q + 1)) (M q 5) 0)), (2, .int (nI 0))]) 2 rfl rfl rfl ?_
  exact key7 _ 0 (Nat.lt_succ_self _) (by omega)
def x_landF (M : jM) (q : Nat) : Nat → Int32 := fun i => if M (q + 5) i = -1 then M (q + 4) i else 0
def x_land (M : jM) (q : Nat) : Int32 := jSum (x_landF M q) 0 8
set_option maxHeartbeats 4000000 in
set_option maxRecDepth 10000 in
theorem c_X2_land (l : Launch) (D : va_G) (a : Nat → Nat) (g : Nat → ClassId) (M : jM) (L : jL) (q : Nat) (hq : jRl q)  : jK l D a g yX2_land cX2_land 3 (some .int) 0 0 [.ref (a q)] M L (some (.int (x_land M q))) M L := by
  refine jMeth (by decide) (Nat.le_of_ble_eq_true rfl) ?_
  intro G hX hZ
  refine J_cg (loc' := [(0, .ref (a q))]) rfl rfl rfl rfl ?_
  refine J_iconst (v := 0) hX dX2_land_0 (by decide) ?_
  refine J_istore_n (loc' := [(1, .int 0), (0, .ref (a q))]) hX dX2_land_1 (by decide) rfl ?_
  refine J_iconst (v := 0) hX dX2_land_2 (by decide) ?_
  refine J_istore_n (loc' := [(2, .int 0), (1, .int 0), (0, .ref (a q))]) hX dX2_land_3 (by decide) rfl ?_
  have key4 : ∀ (fu4 : Nat) (i : Nat), 8 - i < fu4 → i ≤ 8 → J l D a g G 3 M L 4 [(0, .ref (a q)), (1, .int (jSum (x_landF M q) 0 i)), (2, .int (nI i))] [] := by
    intro fu4
    induction fu4 with
    | zero => intro i hmu; exact absurd hmu (Nat.not_lt_zero _)
    | succ fu4 ih4 =>
      intro i hmu4 hi
      refine J_iload_n hX 2 dX2_land_4 rfl ?_
      refine J_bipush (v := 8) hX dX2_land_5 (by decide) ?_
      refine J_cmpN_ge hX 35 i 8 dX2_land_7 (by decide) rfl rfl (by omega) (by omega) (fun h7 => ?_) (fun h7 => ?_)
      · skip
        refine J_iload_n hX 1 dX2_land_35 rfl ?_
        exact J_ret hX hZ dX2_land_36 rfl rfl ⟨by rw [show i = 8 by omega]; rfl, rfl, rfl⟩
      · skip
        refine J_aload_n hX 0 dX2_land_10 rfl ?_
        refine J_getr hX q 4 dX2_land_11 hq.o rfl rfl (by decide) inlX2 wm_3_2 ?_
        refine J_iload_n hX 2 dX2_land_14 rfl ?_
        refine J_iald hX (q + 5) i dX2_land_15 hq.c5 rfl (by omega) (by omega) ?_
        refine J_iconst (v := (-1)) hX dX2_land_16 (by decide) ?_
        refine J_icmp_ne hX 29 dX2_land_17 (by decide) (fun h17 => ?_) (fun h17 => ?_)
        · skip
          refine J_iinc (v := nI (i + 1)) (loc' := [(2, .int (nI (i + 1))), (0, .ref (a q)), (1, .int (jSum (x_landF M q) 0 i))]) hX 2 dX2_land_29 rfl (jinc i) (by decide) rfl ?_
          refine J_goto hX 4 dX2_land_32 (by decide) ?_
          refine J_sub (loc' := [(0, .ref (a q)), (1, .int (jSum (x_landF M q) 0 i)), (2, .int (nI (i + 1)))]) [1, 2, 0] rfl ?_
          refine J_seti (y := jSum (x_landF M q) 0 (i + 1)) (loc' := [(0, .ref (a q)), (1, .int (jSum (x_landF M q) 0 (i + 1))), (2, .int (nI (i + 1)))]) 1 rfl (by simp [jSum, x_landF, h17]) rfl ?_
          exact ih4  (i + 1) (by omega) (by omega)
        · skip
          refine J_iload_n hX 1 dX2_land_20 rfl ?_
          refine J_aload_n hX 0 dX2_land_21 rfl ?_
          refine J_getr hX q 3 dX2_land_22 hq.o rfl rfl (by decide) inlX2 wm_3_1 ?_
          refine J_iload_n hX 2 dX2_land_25 rfl ?_
          refine J_iald hX (q + 4) i dX2_land_26 hq.c4 rfl (by omega) (by omega) ?_
          refine J_iadd hX dX2_land_27 ?_
          refine J_istore_n (loc' := [(1, .int ((jSum (x_landF M q) 0 i) + (M (q + 4) i))), (0, .ref (a q)), (2, .int (nI i))]) hX dX2_land_28 (by decide) rfl ?_
          refine J_iinc (v := nI (i + 1)) (loc' := [(2, .int (nI (i + 1))), (1, .int ((jSum (x_landF M q) 0 i) + (M (q + 4) i))), (0, .ref (a q))]) hX 2 dX2_land_29 rfl (jinc i) (by decide) rfl ?_
          refine J_goto hX 4 dX2_land_32 (by decide) ?_
          refine J_sub (loc' := [(0, .ref (a q)), (1, .int ((jSum (x_landF M q) 0 i) + (M (q + 4) i))), (2, .int (nI (i + 1)))]) [2, 1, 0] rfl ?_
          refine J_seti (y := jSum (x_landF M q) 0 (i + 1)) (loc' := [(0, .ref (a q)), (1, .int (jSum (x_landF M q) 0 (i + 1))), (2, .int (nI (i + 1)))]) 1 rfl (by simp [jSum, x_landF, h17]) rfl ?_
          exact ih4  (i + 1) (by omega) (by omega)
  refine J_sub (loc' := [(0, .ref (a q)), (1, .int 0), (2, .int 0)]) [2, 1, 0] rfl ?_
  refine J_seti (y := jSum (x_landF M q) 0 0) (loc' := [(0, .ref (a q)), (1, .int (jSum (x_landF M q) 0 0)), (2, .int 0)]) 1 rfl rfl rfl ?_
  refine J_seti (y := nI 0) (loc' := [(0, .ref (a q)), (1, .int (jSum (x_landF M q) 0 0)), (2, .int (nI 0))]) 2 rfl rfl rfl ?_
  exact key4 _ 0 (Nat.lt_succ_self _) (by omega)
def x_rate (M : jM) (q : Nat) : Int32 := x_rateOf (x_land M q) (x_notes M q)
set_option maxHeartbeats 4000000 in
set_option maxRecDepth 10000 in
theorem c_X2_rate (l : Launch) (D : va_G) (a : Nat → Nat) (g : Nat → ClassId) (M : jM) (L : jL) (q : Nat) (hq : jRl q)  : jK l D a g yX2_rate cX2_rate 1 (some .int) 2 51 [.ref (a q)] M L (some (.int (x_rate M q))) M L := by
  refine jMeth (by decide) (Nat.le_of_ble_eq_true rfl) ?_
  intro G hX hZ
  refine J_cg (loc' := [(0, .ref (a q))]) rfl rfl rfl rfl ?_
  refine J_aload_n hX 0 dX2_rate_0 rfl ?_
  refine J_callV hX q [] [] dX2_rate_1 (c_X2_land l D a g M L q hq) lk_X2_48 hq.o rfl rfl rfl (Nat.le_of_ble_eq_true rfl) (Nat.le_of_ble_eq_true rfl) (Nat.le_of_ble_eq_true rfl) (J_eq (st := [.int (x_land M q)]) rfl ?_)
  refine J_aload_n hX 0 dX2_rate_4 rfl ?_
  refine J_callV hX q [] [.int (x_land M q)] dX2_rate_5 (c_X2_notes l D a g M L q hq) lk_X2_52 hq.o rfl rfl rfl (Nat.le_of_ble_eq_true rfl) (Nat.le_of_ble_eq_true rfl) (Nat.le_of_ble_eq_true rfl) (J_eq (st := [.int (x_notes M q), .int (x_land M q)]) rfl ?_)
  refine J_callN hX [.int (x_land M q), .int (x_notes M q)] [] dX2_rate_8 (c_X7_rateOf l D a g M L (x_land M q) (x_notes M q)) lk_X2_55 hX.2.2.2.2.2.2.1.2 rfl rfl (Nat.le_of_ble_eq_true rfl) (Nat.le_of_ble_eq_true rfl) (Nat.le_of_ble_eq_true rfl) (J_eq (st := [.int (x_rateOf (x_land M q) (x_notes M q))]) rfl ?_)
  exact J_ret hX hZ dX2_rate_11 rfl rfl ⟨rfl, rfl, rfl⟩
def x_priceF (M : jM) (q : Nat) (s : Int32) : Nat → Int32 := fun i => if (s >>> (nI i &&& 31)) &&& 1 = 1 then M (q + 4) i else 0
def x_priceOf (M : jM) (q : Nat) (s : Int32) : Int32 := jSum (x_priceF M q s) 0 8
set_option maxHeartbeats 4000000 in
set_option maxRecDepth 10000 in
theorem c_X2_priceOf (l : Launch) (D : va_G) (a : Nat → Nat) (g : Nat → ClassId) (M : jM) (L : jL) (q : Nat) (hq : jRl q) (s : Int32)  : jK l D a g yX2_priceOf cX2_priceOf 4 (some .int) 0 0 [.ref (a q), .int s] M L (some (.int (x_priceOf M q s))) M L := by
  refine jMeth (by decide) (Nat.le_of_ble_eq_true rfl) ?_
  intro G hX hZ
  refine J_cg (loc' := [(0, .ref (a q)), (1, .int s)]) rfl rfl rfl rfl ?_
  refine J_iconst (v := 0) hX dX2_priceOf_0 (by decide) ?_
  refine J_istore_n (loc' := [(2, .int 0), (0, .ref (a q)), (1, .int s)]) hX dX2_priceOf_1 (by decide) rfl ?_
  refine J_iconst (v := 0) hX dX2_priceOf_2 (by decide) ?_
  refine J_istore_n (loc' := [(3, .int 0), (2, .int 0), (0, .ref (a q)), (1, .int s)]) hX dX2_priceOf_3 (by decide) rfl ?_
  have key4 : ∀ (fu4 : Nat) (i : Nat), 8 - i < fu4 → i ≤ 8 → J l D a g G 4 M L 4 [(0, .ref (a q)), (1, .int s), (2, .int (jSum (x_priceF M q s) 0 i)), (3, .int (nI i))] [] := by
    intro fu4
    induction fu4 with
    | zero => intro i hmu; exact absurd hmu (Nat.not_lt_zero _)
    | succ fu4 ih4 =>
      intro i hmu4 hi
      refine J_iload_n hX 3 dX2_priceOf_4 rfl ?_
      refine J_bipush (v := 8) hX dX2_priceOf_5 (by decide) ?_
      refine J_cmpN_ge hX 34 i 8 dX2_priceOf_7 (by decide) rfl rfl (by omega) (by omega) (fun h7 => ?_) (fun h7 => ?_)
      · skip
        refine J_iload_n hX 2 dX2_priceOf_34 rfl ?_
        exact J_ret hX hZ dX2_priceOf_35 rfl rfl ⟨by rw [show i = 8 by omega]; rfl, rfl, rfl⟩
      · skip
        refine J_iload_n hX 1 dX2_priceOf_10 rfl ?_
        refine J_iload_n hX 3 dX2_priceOf_11 rfl ?_
        refine J_ishr hX dX2_priceOf_12 ?_
        refine J_iconst (v := 1) hX dX2_priceOf_13 (by decide) ?_
        refine J_iand hX dX2_priceOf_14 ?_
        refine J_iconst (v := 1) hX dX2_priceOf_15 (by decide) ?_
        refine J_icmp_ne hX 28 dX2_priceOf_16 (by decide) (fun h16 => ?_) (fun h16 => ?_)
        · skip
          refine J_iinc (v := nI (i + 1)) (loc' := [(3, .int (nI (i + 1))), (0, .ref (a q)), (1, .int s), (2, .int (jSum (x_priceF M q s) 0 i))]) hX 3 dX2_priceOf_28 rfl (jinc i) (by decide) rfl ?_
          refine J_goto hX 4 dX2_priceOf_31 (by decide) ?_
          refine J_sub (loc' := [(0, .ref (a q)), (1, .int s), (2, .int (jSum (x_priceF M q s) 0 i)), (3, .int (nI (i + 1)))]) [1, 2, 3, 0] rfl ?_
          refine J_seti (y := jSum (x_priceF M q s) 0 (i + 1)) (loc' := [(0, .ref (a q)), (1, .int s), (2, .int (jSum (x_priceF M q s) 0 (i + 1))), (3, .int (nI (i + 1)))]) 2 rfl (by simp [jSum, x_priceF, h16]) rfl ?_
          exact ih4  (i + 1) (by omega) (by omega)
        · skip
          refine J_iload_n hX 2 dX2_priceOf_19 rfl ?_
          refine J_aload_n hX 0 dX2_priceOf_20 rfl ?_
          refine J_getr hX q 3 dX2_priceOf_21 hq.o rfl rfl (by decide) inlX2 wm_3_1 ?_
          refine J_iload_n hX 3 dX2_priceOf_24 rfl ?_
          refine J_iald hX (q + 4) i dX2_priceOf_25 hq.c4 rfl (by omega) (by omega) ?_
          refine J_iadd hX dX2_priceOf_26 ?_
          refine J_istore_n (loc' := [(2, .int ((jSum (x_priceF M q s) 0 i) + (M (q + 4) i))), (0, .ref (a q)), (1, .int s), (3, .int (nI i))]) hX dX2_priceOf_27 (by decide) rfl ?_
          refine J_iinc (v := nI (i + 1)) (loc' := [(3, .int (nI (i + 1))), (2, .int ((jSum (x_priceF M q s) 0 i) + (M (q + 4) i))), (0, .ref (a q)), (1, .int s)]) hX 3 dX2_priceOf_28 rfl (jinc i) (by decide) rfl ?_
          refine J_goto hX 4 dX2_priceOf_31 (by decide) ?_
          refine J_sub (loc' := [(0, .ref (a q)), (1, .int s), (2, .int ((jSum (x_priceF M q s) 0 i) + (M (q + 4) i))), (3, .int (nI (i + 1)))]) [2, 3, 1, 0] rfl ?_
          refine J_seti (y := jSum (x_priceF M q s) 0 (i + 1)) (loc' := [(0, .ref (a q)), (1, .int s), (2, .int (jSum (x_priceF M q s) 0 (i + 1))), (3, .int (nI (i + 1)))]) 2 rfl (by simp [jSum, x_priceF, h16]) rfl ?_
          exact ih4  (i + 1) (by omega) (by omega)
  refine J_sub (loc' := [(0, .ref (a q)), (1, .int s), (2, .int 0), (3, .int 0)]) [2, 3, 1, 0] rfl ?_
  refine J_seti (y := jSum (x_priceF M q s) 0 0) (loc' := [(0, .ref (a q)), (1, .int s), (2, .int (jSum (x_priceF M q s) 0 0)), (3, .int 0)]) 2 rfl rfl rfl ?_
  refine J_seti (y := nI 0) (loc' := [(0, .ref (a q)), (1, .int s), (2, .int (jSum (x_priceF M q s) 0 0)), (3, .int (nI 0))]) 3 rfl rfl rfl ?_
  exact key4 _ 0 (Nat.lt_succ_self _) (by omega)
def x_lotsN (f : Nat → Int32) (w : Int32) : Nat → Int32
  | 0 => 0
  | n + 1 => if f n = w then x_lotsN f w n ||| ((1 : Int32) <<< (nI n &&& 31)) else x_lotsN f w n
def x_lotsOf (M : jM) (q : Nat) (w : Int32) : Int32 := x_lotsN (M (q + 5)) w 8
set_option maxHeartbeats 4000000 in
set_option maxRecDepth 10000 in
theorem c_X2_lotsOf (l : Launch) (D : va_G) (a : Nat → Nat) (g : Nat → ClassId) (M : jM) (L : jL) (q : Nat) (hq : jRl q) (s : Int32)  : jK l D a g yX2_lotsOf cX2_lotsOf 4 (some .int) 0 0 [.ref (a q), .int s] M L (some (.int (x_lotsOf M q s))) M L := by
  refine jMeth (by decide) (Nat.le_of_ble_eq_true rfl) ?_
  intro G hX hZ
  refine J_cg (loc' := [(0, .ref (a q)), (1, .int s)]) rfl rfl rfl rfl ?_
  refine J_iconst (v := 0) hX dX2_lotsOf_0 (by decide) ?_
  refine J_istore_n (loc' := [(2, .int 0), (0, .ref (a q)), (1, .int s)]) hX dX2_lotsOf_1 (by decide) rfl ?_
  refine J_iconst (v := 0) hX dX2_lotsOf_2 (by decide) ?_
  refine J_istore_n (loc' := [(3, .int 0), (2, .int 0), (0, .ref (a q)), (1, .int s)]) hX dX2_lotsOf_3 (by decide) rfl ?_
  have key4 : ∀ (fu4 : Nat) (i : Nat), 8 - i < fu4 → i ≤ 8 → J l D a g G 4 M L 4 [(0, .ref (a q)), (1, .int s), (2, .int (x_lotsN (M (q + 5)) s i)), (3, .int (nI i))] [] := by
    intro fu4
    induction fu4 with
    | zero => intro i hmu; exact absurd hmu (Nat.not_lt_zero _)
    | succ fu4 ih4 =>
      intro i hmu4 hi
      refine J_iload_n hX 3 dX2_lotsOf_4 rfl ?_
      refine J_bipush (v := 8) hX dX2_lotsOf_5 (by decide) ?_
      refine J_cmpN_ge hX 32 i 8 dX2_lotsOf_7 (by decide) rfl rfl (by omega) (by omega) (fun h7 => ?_) (fun h7 => ?_)
      · skip
        refine J_iload_n hX 2 dX2_lotsOf_32 rfl ?_
        exact J_ret hX hZ dX2_lotsOf_33 rfl rfl ⟨by rw [show i = 8 by omega]; rfl, rfl, rfl⟩
      · skip
        refine J_aload_n hX 0 dX2_lotsOf_10 rfl ?_
        refine J_getr hX q 4 dX2_lotsOf_11 hq.o rfl rfl (by decide) inlX2 wm_3_2 ?_
        refine J_iload_n hX 3 dX2_lotsOf_14 rfl ?_
        refine J_iald hX (q + 5) i dX2_lotsOf_15 hq.c5 rfl (by omega) (by omega) ?_
        refine J_iload_n hX 1 dX2_lotsOf_16 rfl ?_
        refine J_icmp_ne hX 26 dX2_lotsOf_17 (by decide) (fun h17 => ?_) (fun h17 => ?_)
        · skip
          refine J_iinc (v := nI (i + 1)) (loc' := [(3, .int (nI (i + 1))), (0, .ref (a q)), (1, .int s), (2, .int (x_lotsN (M (q + 5)) s i))]) hX 3 dX2_lotsOf_26 rfl (jinc i) (by decide) rfl ?_
          refine J_goto hX 4 dX2_lotsOf_29 (by decide) ?_
          refine J_sub (loc' := [(0, .ref (a q)), (1, .int s), (2, .int (x_lotsN (M (q + 5)) s i)), (3, .int (nI (i + 1)))]) [1, 2, 3, 0] rfl ?_
          refine J_seti (y := x_lotsN (M (q + 5)) s (i + 1)) (loc' := [(0, .ref (a q)), (1, .int s), (2, .int (x_lotsN (M (q + 5)) s (i + 1))), (3, .int (nI (i + 1)))]) 2 rfl (by simp [x_lotsN, h17]) rfl ?_
          exact ih4  (i + 1) (by omega) (by omega)
        · skip
          refine J_iload_n hX 2 dX2_lotsOf_20 rfl ?_
          refine J_iconst (v := 1) hX dX2_lotsOf_21 (by decide) ?_
          refine J_iload_n hX 3 dX2_lotsOf_22 rfl ?_
          refine J_ishl hX dX2_lotsOf_23 ?_
          refine J_ior hX dX2_lotsOf_24 ?_
          refine J_istore_n (loc' := [(2, .int ((x_lotsN (M (q + 5)) s i) ||| (1 <<< ((nI i) &&& 31)))), (0, .ref (a q)), (1, .int s), (3, .int (nI i))]) hX dX2_lotsOf_25 (by decide) rfl ?_
          refine J_iinc (v := nI (i + 1)) (loc' := [(3, .int (nI (i + 1))), (2, .int ((x_lotsN (M (q + 5)) s i) ||| (1 <<< ((nI i) &&& 31)))), (0, .ref (a q)), (1, .int s)]) hX 3 dX2_lotsOf_26 rfl (jinc i) (by decide) rfl ?_
          refine J_goto hX 4 dX2_lotsOf_29 (by decide) ?_
          refine J_sub (loc' := [(0, .ref (a q)), (1, .int s), (2, .int ((x_lotsN (M (q + 5)) s i) ||| (1 <<< ((nI i) &&& 31)))), (3, .int (nI (i + 1)))]) [2, 3, 1, 0] rfl ?_
          refine J_seti (y := x_lotsN (M (q + 5)) s (i + 1)) (loc' := [(0, .ref (a q)), (1, .int s), (2, .int (x_lotsN (M (q + 5)) s (i + 1))), (3, .int (nI (i + 1)))]) 2 rfl (by simp [x_lotsN, h17]) rfl ?_
          exact ih4  (i + 1) (by omega) (by omega)
  refine J_sub (loc' := [(0, .ref (a q)), (1, .int s), (2, .int 0), (3, .int 0)]) [2, 3, 1, 0] rfl ?_
  refine J_seti (y := x_lotsN (M (q + 5)) s 0) (loc' := [(0, .ref (a q)), (1, .int s), (2, .int (x_lotsN (M (q + 5)) s 0)), (3, .int 0)]) 2 rfl rfl rfl ?_
  refine J_seti (y := nI 0) (loc' := [(0, .ref (a q)), (1, .int s), (2, .int (x_lotsN (M (q + 5)) s 0)), (3, .int (nI 0))]) 3 rfl rfl rfl ?_
  exact key4 _ 0 (Nat.lt_succ_self _) (by omega)
def x_owes (M : jM) (q w : Nat) : Int32 := jSum (M (q + 6 + w)) 0 6
set_option maxHeartbeats 4000000 in
set_option maxRecDepth 10000 in
theorem c_X2_owesInAll (l : Launch) (D : va_G) (a : Nat → Nat) (g : Nat → ClassId) (M : jM) (L : jL) (q : Nat) (hq : jRl q) (w : Nat) (hw : w < 6)  : jK l D a g yX2_owesInAll cX2_owesInAll 4 (some .int) 0 0 [.ref (a q), .int (nI w)] M L (some (.int (x_owes M q w))) M L := by
  refine jMeth (by decide) (Nat.le_of_ble_eq_true rfl) ?_
  intro G hX hZ
  refine J_cg (loc' := [(0, .ref (a q)), (1, .int (nI w))]) rfl rfl rfl rfl ?_
  refine J_iconst (v := 0) hX dX2_owesInAll_0 (by decide) ?_
  refine J_istore_n (loc' := [(2, .int 0), (0, .ref (a q)), (1, .int (nI w))]) hX dX2_owesInAll_1 (by decide) rfl ?_
  refine J_iconst (v := 0) hX dX2_owesInAll_2 (by decide) ?_
  refine J_istore_n (loc' := [(3, .int 0), (2, .int 0), (0, .ref (a q)), (1, .int (nI w))]) hX dX2_owesInAll_3 (by decide) rfl ?_
  have key4 : ∀ (fu4 : Nat) (i : Nat), 6 - i < fu4 → i ≤ 6 → J l D a g G 4 M L 4 [(0, .ref (a q)), (1, .int (nI w)), (2, .int (jSum (M (q + 6 + w)) 0 i)), (3, .int (nI i))] [] := by
    intro fu4
    induction fu4 with
    | zero => intro i hmu; exact absurd hmu (Nat.not_lt_zero _)
    | succ fu4 ih4 =>
      intro i hmu4 hi
      refine J_iload_n hX 3 dX2_owesInAll_4 rfl ?_
      refine J_bipush (v := 6) hX dX2_owesInAll_5 (by decide) ?_
      refine J_cmpN_ge hX 27 i 6 dX2_owesInAll_7 (by decide) rfl rfl (by omega) (by omega) (fun h7 => ?_) (fun h7 => ?_)
      · skip
        refine J_iload_n hX 2 dX2_owesInAll_27 rfl ?_
        exact J_ret hX hZ dX2_owesInAll_28 rfl rfl ⟨by rw [show i = 6 by omega]; rfl, rfl, rfl⟩
      · skip
        refine J_iload_n hX 2 dX2_owesInAll_10 rfl ?_
        refine J_aload_n hX 0 dX2_owesInAll_11 rfl ?_
        refine J_getr hX q 2 dX2_owesInAll_12 hq.o rfl rfl (by decide) inlX2 wm_3_0 ?_
        refine J_iload_n hX 1 dX2_owesInAll_15 rfl ?_
        refine J_aald (ty := .array .int) hX (q + 3) w dX2_owesInAll_16 hq.c3 rfl rfl rfl (hq.at (by omega)) (Nat.le_of_ble_eq_true rfl) ?_
        refine J_iload_n hX 3 dX2_owesInAll_17 rfl ?_
        refine J_iald hX (q + 6 + w) i dX2_owesInAll_18 (hq.row (by omega)) rfl (by omega) (by omega) ?_
        refine J_iadd hX dX2_owesInAll_19 ?_
        refine J_istore_n (loc' := [(2, .int ((jSum (M (q + 6 + w)) 0 i) + (M (q + 6 + w) i))), (0, .ref (a q)), (1, .int (nI w)), (3, .int (nI i))]) hX dX2_owesInAll_20 (by decide) rfl ?_
        refine J_iinc (v := nI (i + 1)) (loc' := [(3, .int (nI (i + 1))), (2, .int ((jSum (M (q + 6 + w)) 0 i) + (M (q + 6 + w) i))), (0, .ref (a q)), (1, .int (nI w))]) hX 3 dX2_owesInAll_21 rfl (jinc i) (by decide) rfl ?_
        refine J_goto hX 4 dX2_owesInAll_24 (by decide) ?_
        refine J_sub (loc' := [(0, .ref (a q)), (1, .int (nI w)), (2, .int ((jSum (M (q + 6 + w)) 0 i) + (M (q + 6 + w) i))), (3, .int (nI (i + 1)))]) [2, 3, 1, 0] rfl ?_
        refine J_seti (y := jSum (M (q + 6 + w)) 0 (i + 1)) (loc' := [(0, .ref (a q)), (1, .int (nI w)), (2, .int (jSum (M (q + 6 + w)) 0 (i + 1))), (3, .int (nI (i + 1)))]) 2 rfl rfl rfl ?_
        exact ih4  (i + 1) (by omega) (by omega)
  refine J_sub (loc' := [(0, .ref (a q)), (1, .int (nI w)), (2, .int 0), (3, .int 0)]) [2, 3, 1, 0] rfl ?_
  refine J_seti (y := jSum (M (q + 6 + w)) 0 0) (loc' := [(0, .ref (a q)), (1, .int (nI w)), (2, .int (jSum (M (q + 6 + w)) 0 0)), (3, .int 0)]) 2 rfl rfl rfl ?_
  refine J_seti (y := nI 0) (loc' := [(0, .ref (a q)), (1, .int (nI w)), (2, .int (jSum (M (q + 6 + w)) 0 0)), (3, .int (nI 0))]) 3 rfl rfl rfl ?_
  exact key4 _ 0 (Nat.lt_succ_self _) (by omega)
def x_ofOne (M : jM) (q w : Nat) (k : Int32) : Int32 := if k = 0 then M (q + 1) w else if k = 1 then M (q + 2) w else if k = 2 then x_lotsOf M q (nI w) else x_owes M q w
set_option maxHeartbeats 4000000 in
set_option maxRecDepth 10000 in
theorem c_X2_ofOne (l : Launch) (D : va_G) (a : Nat → Nat) (g : Nat → ClassId) (M : jM) (L : jL) (q : Nat) (hq : jRl q) (w : Nat) (hw : w < 6) (k : Int32)  : jK l D a g yX2_ofOne cX2_ofOne 3 (some .int) 1 23 [.ref (a q), .int (nI w), .int k] M L (some (.int (x_ofOne M q w k))) M L := by
  refine jMeth (by decide) (Nat.le_of_ble_eq_true rfl) ?_
  intro G hX hZ
  refine J_cg (loc' := [(0, .ref (a q)), (1, .int (nI w)), (2, .int k)]) rfl rfl rfl rfl ?_
  refine J_iload_n hX 2 dX2_ofOne_0 rfl ?_
  by_cases s1_0 : k = 0
  · refine J_tableIn hX 28 dX2_ofOne_1 (by rw [s1_0]; decide) (by rw [s1_0]; decide) (by rw [s1_0]; rfl) (by decide) ?_
    refine J_aload_n hX 0 dX2_ofOne_28 rfl ?_
    refine J_getr hX q 0 dX2_ofOne_29 hq.o rfl rfl (by decide) inlX2 wm_2_21 ?_
    refine J_iload_n hX 1 dX2_ofOne_32 rfl ?_
    refine J_iald hX (q + 1) w dX2_ofOne_33 hq.c1 rfl (by omega) (by omega) ?_
    exact J_ret hX hZ dX2_ofOne_34 rfl rfl ⟨by simp [x_ofOne, s1_0], rfl, rfl⟩
  by_cases s1_1 : k = 1
  · refine J_tableIn hX 35 dX2_ofOne_1 (by rw [s1_1]; decide) (by rw [s1_1]; decide) (by rw [s1_1]; rfl) (by decide) ?_
    refine J_aload_n hX 0 dX2_ofOne_35 rfl ?_
    refine J_getr hX q 1 dX2_ofOne_36 hq.o rfl rfl (by decide) inlX2 wm_2_22 ?_
    refine J_iload_n hX 1 dX2_ofOne_39 rfl ?_
    refine J_iald hX (q + 2) w dX2_ofOne_40 hq.c2 rfl (by omega) (by omega) ?_
    exact J_ret hX hZ dX2_ofOne_41 rfl rfl ⟨by simp [x_ofOne, s1_0, s1_1], rfl, rfl⟩
  by_cases s1_2 : k = 2
  · refine J_tableIn hX 42 dX2_ofOne_1 (by rw [s1_2]; decide) (by rw [s1_2]; decide) (by rw [s1_2]; rfl) (by decide) ?_
    refine J_aload_n hX 0 dX2_ofOne_42 rfl ?_
    refine J_iload_n hX 1 dX2_ofOne_43 rfl ?_
    refine J_callV hX q [.int (nI w)] [] dX2_ofOne_44 (c_X2_lotsOf l D a g M L q hq (nI w)) lk_X2_59 hq.o rfl rfl rfl (Nat.le_of_ble_eq_true rfl) (Nat.le_of_ble_eq_true rfl) (Nat.le_of_ble_eq_true rfl) (J_eq (st := [.int (x_lotsOf M q (nI w))]) rfl ?_)
    exact J_ret hX hZ dX2_ofOne_47 rfl rfl ⟨by simp [x_ofOne, s1_0, s1_1, s1_2], rfl, rfl⟩
  have t1_0 := lv_neT s1_0 (show (0 : Int32).toInt = 0 from rfl)
  have t1_1 := lv_neT s1_1 (show (1 : Int32).toInt = 1 from rfl)
  have t1_2 := lv_neT s1_2 (show (2 : Int32).toInt = 2 from rfl)
  refine J_tableOut hX 48 dX2_ofOne_1 (by omega) (by decide) ?_
  refine J_aload_n hX 0 dX2_ofOne_48 rfl ?_
  refine J_iload_n hX 1 dX2_ofOne_49 rfl ?_
  refine J_callV hX q [.int (nI w)] [] dX2_ofOne_50 (c_X2_owesInAll l D a g M L q hq w (by omega)) lk_X2_63 hq.o rfl rfl rfl (Nat.le_of_ble_eq_true rfl) (Nat.le_of_ble_eq_true rfl) (Nat.le_of_ble_eq_true rfl) (J_eq (st := [.int (x_owes M q w)]) rfl ?_)
  exact J_ret hX hZ dX2_ofOne_53 rfl rfl ⟨by simp [x_ofOne, s1_0, s1_1, s1_2], rfl, rfl⟩
