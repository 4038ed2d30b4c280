set_option maxHeartbeats 4000000 in
set_option maxRecDepth 10000 in
theorem c_X8_in (l : Launch) (D : va_G) (a : Nat → Nat) (g : Nat → ClassId) (M : jM) (L : jL) (x : Int32) (y z : Int64)  : jK l D a g yX8_in cX8_in 6 (some .boolean) 0 0 [.long (Int32.toInt64 x), .long y, .long z] M L (some (.int (jB (y.toInt ≤ x.toInt ∧ x.toInt ≤ z.toInt)))) M L := by
  refine jMeth (by decide) (Nat.le_of_ble_eq_true rfl) ?_
  intro G hX hZ
  refine J_cg (loc' := [(0, .long (Int32.toInt64 x)), (2, .long y), (4, .long z)]) rfl rfl rfl rfl ?_
  refine J_lload_n hX 0 dX8_in_0 rfl ?_
  refine J_lload_n hX 1 dX8_in_1 rfl ?_
  refine J_lcmp hX dX8_in_2 ?_
  refine J_ifK_lt hX 17 dX8_in_3 (by decide) (fun h3 => ?_) (fun h3 => ?_)
  · skip
    refine J_iconst (v := 0) hX dX8_in_17 (by decide) ?_
    exact J_ret hX hZ dX8_in_18 rfl rfl ⟨by simp only [Int64.lt_iff_toInt_lt, Int64.le_iff_toInt_le, Int32.toInt_toInt64] at h3; first | rw [jB_t (by omega)] | rw [jB_f (by omega)], rfl, rfl⟩
  · skip
    refine J_lload_n hX 0 dX8_in_6 rfl ?_
    refine J_lload hX 2 dX8_in_7 rfl ?_
    refine J_lcmp hX dX8_in_9 ?_
    refine J_ifK_gt hX 17 dX8_in_10 (by decide) (fun h10 => ?_) (fun h10 => ?_)
    · skip
      refine J_iconst (v := 0) hX dX8_in_17 (by decide) ?_
      exact J_ret hX hZ dX8_in_18 rfl rfl ⟨by simp only [Int64.lt_iff_toInt_lt, Int64.le_iff_toInt_le, Int32.toInt_toInt64] at h3 h10; first | rw [jB_t (by omega)] | rw [jB_f (by omega)], rfl, rfl⟩
    · skip
      refine J_iconst (v := 1) hX dX8_in_13 (by decide) ?_
      refine J_goto hX 18 dX8_in_14 (by decide) ?_
      exact J_ret hX hZ dX8_in_18 rfl rfl ⟨by simp only [Int64.lt_iff_toInt_lt, Int64.le_iff_toInt_le, Int32.toInt_toInt64] at h3 h10; first | rw [jB_t (by omega)] | rw [jB_f (by omega)], rfl, rfl⟩
set_option maxHeartbeats 4000000 in
set_option maxRecDepth 10000 in
theorem c_X8_isOne (l : Launch) (D : va_G) (a : Nat → Nat) (g : Nat → ClassId) (M : jM) (L : jL) (v : Int32)  : jK l D a g yX8_isOne cX8_isOne 1 (some .boolean) 1 25 [.int v] M L (some (.int (jB (0 ≤ v.toInt ∧ v.toInt ≤ 5)))) M L := by
  refine jMeth (by decide) (Nat.le_of_ble_eq_true rfl) ?_
  intro G hX hZ
  refine J_cg (loc' := [(0, .int v)]) rfl rfl rfl rfl ?_
  refine J_iload_n hX 0 dX8_isOne_0 rfl ?_
  refine J_i2l hX dX8_isOne_1 ?_
  refine J_lconst (v := 0) hX dX8_isOne_2 (by decide) ?_
  refine J_ldc2 hX dX8_isOne_3 wm_6_14 ?_
  refine J_callS hX [.long (Int32.toInt64 v), .long (0 : Int64), .long (5 : Int64)] [] dX8_isOne_6 (c_X8_in l D a g M L v (0 : Int64) (5 : Int64)) lk_X8_80 rfl rfl (Nat.le_of_ble_eq_true rfl) (Nat.le_of_ble_eq_true rfl) (Nat.le_of_ble_eq_true rfl) (J_eq (st := [.int (jB (0 ≤ v.toInt ∧ v.toInt ≤ 5))]) rfl ?_)
  exact J_ret hX hZ dX8_isOne_9 rfl (jB_nar _) ⟨rfl, rfl, rfl⟩
set_option maxHeartbeats 4000000 in
set_option maxRecDepth 10000 in
theorem c_X8_isLetter (l : Launch) (D : va_G) (a : Nat → Nat) (g : Nat → ClassId) (M : jM) (L : jL) (s : Int32)  : jK l D a g yX8_isLetter cX8_isLetter 1 (some .boolean) 1 25 [.int s] M L (some (.int (jB (65 ≤ s.toInt ∧ s.toInt ≤ 70)))) M L := by
  refine jMeth (by decide) (Nat.le_of_ble_eq_true rfl) ?_
  intro G hX hZ
  refine J_cg (loc' := [(0, .int s)]) rfl rfl rfl rfl ?_
  refine J_iload_n hX 0 dX8_isLetter_0 rfl ?_
  refine J_i2l hX dX8_isLetter_1 ?_
  refine J_ldc2 hX dX8_isLetter_2 wm_10_21 ?_
  refine J_ldc2 hX dX8_isLetter_5 wm_10_22 ?_
  refine J_callS hX [.long (Int32.toInt64 s), .long (65 : Int64), .long (70 : Int64)] [] dX8_isLetter_8 (c_X8_in l D a g M L s (65 : Int64) (70 : Int64)) lk_X8_80 rfl rfl (Nat.le_of_ble_eq_true rfl) (Nat.le_of_ble_eq_true rfl) (Nat.le_of_ble_eq_true rfl) (J_eq (st := [.int (jB (65 ≤ s.toInt ∧ s.toInt ≤ 70))]) rfl ?_)
  exact J_ret hX hZ dX8_isLetter_11 rfl (jB_nar _) ⟨rfl, rfl, rfl⟩
def m_bits (t : Nat) : Nat := t % 2 + t / 2 % 2 + t / 4 % 2 + t / 8 % 2 + t / 16 % 2 + t / 32 % 2 + t / 64 % 2 + t / 128 % 2
theorem m_bits_step : ∀ t, t < 256 → t ≠ 0 → m_bits (t &&& (t - 1)) + 1 = m_bits t ∧ (t &&& (t - 1)) < t := by decide +kernel
def m_bc (x : Int32) : Int32 := nI (m_bits x.toNatClampNeg)
theorem j_and (p q : Nat) : nI p &&& nI q = nI (p &&& q) := by
  apply Int32.toBitVec_inj.mp
  show BitVec.ofNat 32 p &&& BitVec.ofNat 32 q = BitVec.ofNat 32 (p &&& q)
  exact (BitVec.ofNat_and).symm
theorem m_bits_le (t : Nat) : m_bits t ≤ 8 := by unfold m_bits; omega
set_option maxHeartbeats 4000000 in
set_option maxRecDepth 10000 in
theorem c_X8_bitsOf (l : Launch) (D : va_G) (a : Nat → Nat) (g : Nat → ClassId) (M : jM) (L : jL) (x : Int32) (hx : 0 ≤ x.toInt ∧ x.toInt ≤ 255)  : jK l D a g yX8_bitsOf cX8_bitsOf 3 (some .int) 0 0 [.int x] M L (some (.int (m_bc x))) M L := by
  refine jMeth (by decide) (Nat.le_of_ble_eq_true rfl) ?_
  intro G hX hZ
  refine J_cg (loc' := [(0, .int x)]) rfl rfl rfl rfl ?_
  have ix := jix hx
  have lx := jixl hx
  refine J_iconst (v := 0) hX dX8_bitsOf_0 (by decide) ?_
  refine J_istore_n (loc' := [(1, .int 0), (0, .int x)]) hX dX8_bitsOf_1 (by decide) rfl ?_
  refine J_iload_n hX 1 dX8_bitsOf_2 rfl ?_
  refine J_topi (y := nI x.toNatClampNeg) ix ?_
  refine J_istore_n (loc' := [(2, .int (nI x.toNatClampNeg)), (1, .int 0), (0, .int x)]) hX dX8_bitsOf_3 (by decide) rfl ?_
  have key4 : ∀ (fu4 : Nat) (n : Nat) (t : Nat), t < fu4 → (t < 256) → (n + m_bits t = m_bits x.toNatClampNeg) → J l D a g G 3 M L 4 [(1, .int (nI n)), (2, .int (nI t))] [] := by
    intro fu4
    induction fu4 with
    | zero => intro n t hmu; exact absurd hmu (Nat.not_lt_zero _)
    | succ fu4 ih4 =>
      intro n t hmu4 ht hb
      refine J_iload_n hX 1 dX8_bitsOf_4 rfl ?_
      refine J_if_eq hX 20 dX8_bitsOf_5 (by decide) (fun h5 => ?_) (fun h5 => ?_)
      · skip
        refine J_iload_n hX 0 dX8_bitsOf_20 rfl ?_
        exact J_ret hX hZ dX8_bitsOf_21 rfl rfl ⟨by rw [m_bc, ← hb, show t = 0 from (nI_eq (by omega) (by omega)).mp h5]; rfl, rfl, rfl⟩
      · skip
        have t0 : t ≠ 0 := fun e => h5 (by rw [e]; rfl)
        have st := m_bits_step t ht t0
        refine J_iinc (v := nI (n + 1)) (loc' := [(1, .int (nI (n + 1))), (2, .int (nI t))]) hX 0 dX8_bitsOf_8 rfl (jinc n) (by decide) rfl ?_
        refine J_iload_n hX 1 dX8_bitsOf_11 rfl ?_
        refine J_iload_n hX 1 dX8_bitsOf_12 rfl ?_
        refine J_iconst (v := 1) hX dX8_bitsOf_13 (by decide) ?_
        refine J_isub hX dX8_bitsOf_14 ?_
        refine J_topi (y := nI (t - 1)) (by rw [show t = (t - 1) + 1 by omega, nI_pred]; rfl) ?_
        refine J_iand hX dX8_bitsOf_15 ?_
        refine J_topi (y := nI (t &&& (t - 1))) (j_and _ _) ?_
        refine J_istore_n (loc' := [(2, .int (nI (t &&& (t - 1)))), (1, .int (nI (n + 1)))]) hX dX8_bitsOf_16 (by decide) rfl ?_
        refine J_goto hX 4 dX8_bitsOf_17 (by decide) ?_
        refine J_sub (loc' := [(1, .int (nI (n + 1))), (2, .int (nI (t &&& (t - 1))))]) [1, 0] rfl ?_
        exact ih4  (n + 1) (t &&& (t - 1)) (by omega) (by omega) (by omega)
  refine J_sub (loc' := [(1, .int 0), (2, .int (nI x.toNatClampNeg))]) [1, 0] rfl ?_
  refine J_seti (y := nI 0) (loc' := [(1, .int (nI 0)), (2, .int (nI x.toNatClampNeg))]) 0 rfl rfl rfl ?_
  exact key4 _ 0 x.toNatClampNeg (Nat.lt_succ_self _) (by omega) (Nat.zero_add _)
def m_one (M : jM) (o p c : Int32) : Int32 × jM := if (0 ≤ o.toInt ∧ o.toInt ≤ 5) then (if (0 ≤ p.toInt ∧ p.toInt ≤ 9999) then (if (0 ≤ c.toInt ∧ c.toInt ≤ 9999) then (10000 * M 78 o.toNatClampNeg + M 79 o.toNatClampNeg, jU (jU M 78 o.toNatClampNeg p) 79 o.toNatClampNeg c) else (-2, M)) else (-2, M)) else (-1, M)
set_option maxHeartbeats 4000000 in
set_option maxRecDepth 10000 in
theorem c_X8_one (l : Launch) (D : va_G) (a : Nat → Nat) (g : Nat → ClassId) (M : jM) (L : jL) (o p c : Int32)  : jK l D a g yX8_one cX8_one 5 (some .int) 2 45 [.ref (a 77), .int o, .int p, .int c] M L (some (.int ((m_one M o p c).1))) ((m_one M o p c).2) L := by
  refine jMeth (by decide) (Nat.le_of_ble_eq_true rfl) ?_
  intro G hX hZ
  refine J_cg (loc' := [(0, .ref (a 77)), (1, .int o), (2, .int p), (3, .int c)]) rfl rfl rfl rfl ?_
  refine J_iload_n hX 1 dX8_one_0 rfl ?_
  refine J_callS hX [.int o] [] dX8_one_1 (c_X8_isOne l D a g M L o) lk_X8_84 rfl rfl (Nat.le_of_ble_eq_true rfl) (Nat.le_of_ble_eq_true rfl) (Nat.le_of_ble_eq_true rfl) (J_eq (st := [.int (jB (0 ≤ o.toInt ∧ o.toInt ≤ 5))]) rfl ?_)
  refine J_ifB_ne hX 9 dX8_one_4 (by decide) (fun h4 => ?_) (fun h4 => ?_)
  · skip
    have io := jix h4
    have lo := jixl h4
    refine J_iload_n hX 2 dX8_one_9 rfl ?_
    refine J_i2l hX dX8_one_10 ?_
    refine J_lconst (v := 0) hX dX8_one_11 (by decide) ?_
    refine J_ldc2 hX dX8_one_12 wm_6_10 ?_
    refine J_callS hX [.long (Int32.toInt64 p), .long (0 : Int64), .long (9999 : Int64)] [] dX8_one_15 (c_X8_in l D a g M L p (0 : Int64) (9999 : Int64)) lk_X8_80 rfl rfl (Nat.le_of_ble_eq_true rfl) (Nat.le_of_ble_eq_true rfl) (Nat.le_of_ble_eq_true rfl) (J_eq (st := [.int (jB (0 ≤ p.toInt ∧ p.toInt ≤ 9999))]) rfl ?_)
    refine J_ifB_eq hX 33 dX8_one_18 (by decide) (fun h18 => ?_) (fun h18 => ?_)
    · skip
      refine J_bipush (v := (-2)) hX dX8_one_33 (by decide) ?_
      exact J_ret hX hZ dX8_one_35 rfl rfl ⟨by first | contradiction | simp [m_one, h4, h18], by simp [m_one, h4, h18], rfl⟩
    · skip
      refine J_iload_n hX 3 dX8_one_21 rfl ?_
      refine J_i2l hX dX8_one_22 ?_
      refine J_lconst (v := 0) hX dX8_one_23 (by decide) ?_
      refine J_ldc2 hX dX8_one_24 wm_6_10 ?_
      refine J_callS hX [.long (Int32.toInt64 c), .long (0 : Int64), .long (9999 : Int64)] [] dX8_one_27 (c_X8_in l D a g M L c (0 : Int64) (9999 : Int64)) lk_X8_80 rfl rfl (Nat.le_of_ble_eq_true rfl) (Nat.le_of_ble_eq_true rfl) (Nat.le_of_ble_eq_true rfl) (J_eq (st := [.int (jB (0 ≤ c.toInt ∧ c.toInt ≤ 9999))]) rfl ?_)
      refine J_ifB_ne hX 36 dX8_one_30 (by decide) (fun h30 => ?_) (fun h30 => ?_)
      · skip
        refine J_sipush (v := 10000) hX dX8_one_36 (by decide) ?_
        refine J_aload_n hX 0 dX8_one_39 rfl ?_
        refine J_getr hX 77 0 dX8_one_40 jc_77 rfl rfl (by decide) inlX8 wm_4_19 ?_
        refine J_iload_n hX 1 dX8_one_43 rfl ?_
        refine J_iald hX 78 o.toNatClampNeg dX8_one_44 jc_78 io (by omega) (by omega) ?_
        refine J_imul hX dX8_one_45 ?_
        refine J_aload_n hX 0 dX8_one_46 rfl ?_
        refine J_getr hX 77 1 dX8_one_47 jc_77 rfl rfl (by decide) inlX8 wm_4_20 ?_
        refine J_iload_n hX 1 dX8_one_50 rfl ?_
        refine J_iald hX 79 o.toNatClampNeg dX8_one_51 jc_79 io (by omega) (by omega) ?_
        refine J_iadd hX dX8_one_52 ?_
        refine J_istore (loc' := [(4, .int ((10000 * (M 78 o.toNatClampNeg)) + (M 79 o.toNatClampNeg))), (0, .ref (a 77)), (1, .int o), (2, .int p), (3, .int c)]) hX dX8_one_53 (by decide) rfl ?_
        refine J_aload_n hX 1 dX8_one_55 rfl ?_
        refine J_getr hX 77 0 dX8_one_56 jc_77 rfl rfl (by decide) inlX8 wm_4_19 ?_
        refine J_iload_n hX 2 dX8_one_59 rfl ?_
        refine J_iload_n hX 3 dX8_one_60 rfl ?_
        refine J_iast hX 78 o.toNatClampNeg dX8_one_61 jc_78 io (by omega) (by omega) ?_
        refine J_aload_n hX 1 dX8_one_62 rfl ?_
        refine J_getr hX 77 1 dX8_one_63 jc_77 rfl rfl (by decide) inlX8 wm_4_20 ?_
        refine J_iload_n hX 2 dX8_one_66 rfl ?_
        refine J_iload_n hX 4 dX8_one_67 rfl ?_
        refine J_iast hX 79 o.toNatClampNeg dX8_one_68 jc_79 io (by omega) (by omega) ?_
        refine J_iload hX 0 dX8_one_69 rfl ?_
        exact J_ret hX hZ dX8_one_71 rfl rfl ⟨by first | contradiction | simp [m_one, h4, h18, h30], by simp [m_one, h4, h18, h30], rfl⟩
      · skip
        refine J_bipush (v := (-2)) hX dX8_one_33 (by decide) ?_
        exact J_ret hX hZ dX8_one_35 rfl rfl ⟨by first | contradiction | simp [m_one, h4, h18, h30], by simp [m_one, h4, h18, h30], rfl⟩
  · skip
    refine J_iconst (v := (-1)) hX dX8_one_7 (by decide) ?_
    exact J_ret hX hZ dX8_one_8 rfl rfl ⟨by first | contradiction | simp [m_one, h4], by simp [m_one, h4], rfl⟩
def m_ow (o r : Int32) : Nat := 6 * o.toNatClampNeg + r.toNatClampNeg
def m_owe (M : jM) (o r v : Int32) : Int32 × jM := if (0 ≤ o.toInt ∧ o.toInt ≤ 5) then (if (0 ≤ r.toInt ∧ r.toInt ≤ 5) then (if o = r then (-1, M) else if (0 ≤ v.toInt ∧ v.toInt ≤ 999) then (M 80 (m_ow o r), jU M 80 (m_ow o r) v) else (-2, M)) else (-1, M)) else (-1, M)
theorem m_ow_ix {o r : Int32} (ho : (0 ≤ o.toInt ∧ o.toInt ≤ 5)) (hr : (0 ≤ r.toInt ∧ r.toInt ≤ 5)) : 6 * o + r = nI (m_ow o r) ∧ m_ow o r < 36 := by
  have l1 := jixl ho
  have l2 := jixl hr
  refine ⟨?_, by unfold m_ow; omega⟩
  have e : (6 : Int32) * nI o.toNatClampNeg + nI r.toNatClampNeg = nI (m_ow o r) := by
    rw [show (6 : Int32) = nI 6 from rfl, pk_mul, nI_add, m_ow]
  rw [← jix ho, ← jix hr] at e
  exact e
set_option maxHeartbeats 4000000 in
set_option maxRecDepth 10000 in
theorem c_X8_owe (l : Launch) (D : va_G) (a : Nat → Nat) (g : Nat → ClassId) (M : jM) (L : jL) (o r v : Int32)  : jK l D a g yX8_owe cX8_owe 5 (some .int) 2 45 [.ref (a 77), .int o, .int r, .int v] M L (some (.int ((m_owe M o r v).1))) ((m_owe M o r v).2) L := by
  refine jMeth (by decide) (Nat.le_of_ble_eq_true rfl) ?_
  intro G hX hZ
  refine J_cg (loc' := [(0, .ref (a 77)), (1, .int o), (2, .int r), (3, .int v)]) rfl rfl rfl rfl ?_
  refine J_iload_n hX 1 dX8_owe_0 rfl ?_
  refine J_callS hX [.int o] [] dX8_owe_1 (c_X8_isOne l D a g M L o) lk_X8_84 rfl rfl (Nat.le_of_ble_eq_true rfl) (Nat.le_of_ble_eq_true rfl) (Nat.le_of_ble_eq_true rfl) (J_eq (st := [.int (jB (0 ≤ o.toInt ∧ o.toInt ≤ 5))]) rfl ?_)
  refine J_ifB_eq hX 19 dX8_owe_4 (by decide) (fun h4 => ?_) (fun h4 => ?_)
  · skip
    refine J_iconst (v := (-1)) hX dX8_owe_19 (by decide) ?_
    exact J_ret hX hZ dX8_owe_20 rfl rfl ⟨by first | contradiction | simp [m_owe, h4], by simp [m_owe, h4], rfl⟩
  · skip
    refine J_iload_n hX 2 dX8_owe_7 rfl ?_
    refine J_callS hX [.int r] [] dX8_owe_8 (c_X8_isOne l D a g M L r) lk_X8_84 rfl rfl (Nat.le_of_ble_eq_true rfl) (Nat.le_of_ble_eq_true rfl) (Nat.le_of_ble_eq_true rfl) (J_eq (st := [.int (jB (0 ≤ r.toInt ∧ r.toInt ≤ 5))]) rfl ?_)
    refine J_ifB_eq hX 19 dX8_owe_11 (by decide) (fun h11 => ?_) (fun h11 => ?_)
    · skip
      refine J_iconst (v := (-1)) hX dX8_owe_19 (by decide) ?_
      exact J_ret hX hZ dX8_owe_20 rfl rfl ⟨by first | contradiction | simp [m_owe, h4, h11], by simp [m_owe, h4, h11], rfl⟩
    · skip
      have ow := m_ow_ix h4 h11
      refine J_iload_n hX 1 dX8_owe_14 rfl ?_
      refine J_iload_n hX 2 dX8_owe_15 rfl ?_
      refine J_icmp_ne hX 21 dX8_owe_16 (by decide) (fun h16 => ?_) (fun h16 => ?_)
      · skip
        refine J_iload_n hX 3 dX8_owe_21 rfl ?_
        refine J_i2l hX dX8_owe_22 ?_
        refine J_lconst (v := 0) hX dX8_owe_23 (by decide) ?_
        refine J_ldc2 hX dX8_owe_24 wm_7_3 ?_
        refine J_callS hX [.long (Int32.toInt64 v), .long (0 : Int64), .long (999 : Int64)] [] dX8_owe_27 (c_X8_in l D a g M L v (0 : Int64) (999 : Int64)) lk_X8_80 rfl rfl (Nat.le_of_ble_eq_true rfl) (Nat.le_of_ble_eq_true rfl) (Nat.le_of_ble_eq_true rfl) (J_eq (st := [.int (jB (0 ≤ v.toInt ∧ v.toInt ≤ 999))]) rfl ?_)
        refine J_ifB_ne hX 36 dX8_owe_30 (by decide) (fun h30 => ?_) (fun h30 => ?_)
        · skip
          refine J_aload_n hX 0 dX8_owe_36 rfl ?_
          refine J_getr hX 77 2 dX8_owe_37 jc_77 rfl rfl (by decide) inlX8 wm_4_21 ?_
          refine J_bipush (v := 6) hX dX8_owe_40 (by decide) ?_
          refine J_iload_n hX 1 dX8_owe_42 rfl ?_
          refine J_imul hX dX8_owe_43 ?_
          refine J_iload_n hX 2 dX8_owe_44 rfl ?_
          refine J_iadd hX dX8_owe_45 ?_
          refine J_iald hX 80 (m_ow o r) dX8_owe_46 jc_80 ow.1 ow.2 (by omega) ?_
          refine J_istore (loc' := [(4, .int (M 80 (m_ow o r))), (0, .ref (a 77)), (1, .int o), (2, .int r), (3, .int v)]) hX dX8_owe_47 (by decide) rfl ?_
          refine J_aload_n hX 1 dX8_owe_49 rfl ?_
          refine J_getr hX 77 2 dX8_owe_50 jc_77 rfl rfl (by decide) inlX8 wm_4_21 ?_
          refine J_bipush (v := 6) hX dX8_owe_53 (by decide) ?_
          refine J_iload_n hX 2 dX8_owe_55 rfl ?_
          refine J_imul hX dX8_owe_56 ?_
          refine J_iload_n hX 3 dX8_owe_57 rfl ?_
          refine J_iadd hX dX8_owe_58 ?_
          refine J_iload_n hX 4 dX8_owe_59 rfl ?_
          refine J_iast hX 80 (m_ow o r) dX8_owe_60 jc_80 ow.1 ow.2 (by omega) ?_
          refine J_iload hX 0 dX8_owe_61 rfl ?_
          exact J_ret hX hZ dX8_owe_63 rfl rfl ⟨by first | contradiction | simp [m_owe, h4, h11, h16, h30], by simp [m_owe, h4, h11, h16, h30], rfl⟩
        · skip
          refine J_bipush (v := (-2)) hX dX8_owe_33 (by decide) ?_
          exact J_ret hX hZ dX8_owe_35 rfl rfl ⟨by first | contradiction | simp [m_owe, h4, h11, h16, h30], by simp [m_owe, h4, h11, h16, h30], rfl⟩
      · skip
        refine J_iconst (v := (-1)) hX dX8_owe_19 (by decide) ?_
        exact J_ret hX hZ dX8_owe_20 rfl rfl ⟨by first | contradiction | simp [m_owe, h4, h11, h16], by simp [m_owe, h4, h11, h16], rfl⟩
def m_lot (M : jM) (o p c : Int32) : Int32 × jM := if (0 ≤ o.toInt ∧ o.toInt ≤ 7) then (if (-1 ≤ c.toInt ∧ c.toInt ≤ 5) then (if (1 ≤ p.toInt ∧ p.toInt ≤ 999) then (M 81 o.toNatClampNeg, jU (jU M 81 o.toNatClampNeg p) 82 o.toNatClampNeg (if 0 ≤ c then c else -6)) else (-2, M)) else (-1, M)) else (-1, M)
set_option maxHeartbeats 4000000 in
set_option maxRecDepth 10000 in
theorem c_X8_lot (l : Launch) (D : va_G) (a : Nat → Nat) (g : Nat → ClassId) (M : jM) (L : jL) (o p c : Int32)  : jK l D a g yX8_lot cX8_lot 5 (some .int) 1 25 [.ref (a 77), .int o, .int p, .int c] M L (some (.int ((m_lot M o p c).1))) ((m_lot M o p c).2) L := by
  refine jMeth (by decide) (Nat.le_of_ble_eq_true rfl) ?_
  intro G hX hZ
  refine J_cg (loc' := [(0, .ref (a 77)), (1, .int o), (2, .int p), (3, .int c)]) rfl rfl rfl rfl ?_
  refine J_iload_n hX 1 dX8_lot_0 rfl ?_
  refine J_i2l hX dX8_lot_1 ?_
  refine J_lconst (v := 0) hX dX8_lot_2 (by decide) ?_
  refine J_ldc2 hX dX8_lot_3 wm_7_14 ?_
  refine J_callS hX [.long (Int32.toInt64 o), .long (0 : Int64), .long (7 : Int64)] [] dX8_lot_6 (c_X8_in l D a g M L o (0 : Int64) (7 : Int64)) lk_X8_80 rfl rfl (Nat.le_of_ble_eq_true rfl) (Nat.le_of_ble_eq_true rfl) (Nat.le_of_ble_eq_true rfl) (J_eq (st := [.int (jB (0 ≤ o.toInt ∧ o.toInt ≤ 7))]) rfl ?_)
  refine J_ifB_eq hX 26 dX8_lot_9 (by decide) (fun h9 => ?_) (fun h9 => ?_)
  · skip
    refine J_iconst (v := (-1)) hX dX8_lot_26 (by decide) ?_
    exact J_ret hX hZ dX8_lot_27 rfl rfl ⟨by first | contradiction | simp [m_lot, h9], by simp [m_lot, h9], rfl⟩
  · skip
    have io := jix h9
    have lo := jixl h9
    refine J_iload_n hX 3 dX8_lot_12 rfl ?_
    refine J_i2l hX dX8_lot_13 ?_
    refine J_ldc2 hX dX8_lot_14 wm_7_15 ?_
    refine J_ldc2 hX dX8_lot_17 wm_6_14 ?_
    refine J_callS hX [.long (Int32.toInt64 c), .long (-1 : Int64), .long (5 : Int64)] [] dX8_lot_20 (c_X8_in l D a g M L c (-1 : Int64) (5 : Int64)) lk_X8_80 rfl rfl (Nat.le_of_ble_eq_true rfl) (Nat.le_of_ble_eq_true rfl) (Nat.le_of_ble_eq_true rfl) (J_eq (st := [.int (jB (-1 ≤ c.toInt ∧ c.toInt ≤ 5))]) rfl ?_)
    refine J_ifB_ne hX 28 dX8_lot_23 (by decide) (fun h23 => ?_) (fun h23 => ?_)
    · skip
      refine J_iload_n hX 2 dX8_lot_28 rfl ?_
      refine J_i2l hX dX8_lot_29 ?_
      refine J_lconst (v := 1) hX dX8_lot_30 (by decide) ?_
      refine J_ldc2 hX dX8_lot_31 wm_7_3 ?_
      refine J_callS hX [.long (Int32.toInt64 p), .long (1 : Int64), .long (999 : Int64)] [] dX8_lot_34 (c_X8_in l D a g M L p (1 : Int64) (999 : Int64)) lk_X8_80 rfl rfl (Nat.le_of_ble_eq_true rfl) (Nat.le_of_ble_eq_true rfl) (Nat.le_of_ble_eq_true rfl) (J_eq (st := [.int (jB (1 ≤ p.toInt ∧ p.toInt ≤ 999))]) rfl ?_)
      refine J_ifB_ne hX 43 dX8_lot_37 (by decide) (fun h37 => ?_) (fun h37 => ?_)
      · skip
        refine J_aload_n hX 0 dX8_lot_43 rfl ?_
        refine J_getr hX 77 3 dX8_lot_44 jc_77 rfl rfl (by decide) inlX8 wm_4_22 ?_
        refine J_iload_n hX 1 dX8_lot_47 rfl ?_
        refine J_iald hX 81 o.toNatClampNeg dX8_lot_48 jc_81 io (by omega) (by omega) ?_
        refine J_istore (loc' := [(4, .int (M 81 o.toNatClampNeg)), (0, .ref (a 77)), (1, .int o), (2, .int p), (3, .int c)]) hX dX8_lot_49 (by decide) rfl ?_
        refine J_aload_n hX 1 dX8_lot_51 rfl ?_
        refine J_getr hX 77 3 dX8_lot_52 jc_77 rfl rfl (by decide) inlX8 wm_4_22 ?_
        refine J_iload_n hX 2 dX8_lot_55 rfl ?_
        refine J_iload_n hX 3 dX8_lot_56 rfl ?_
        refine J_iast hX 81 o.toNatClampNeg dX8_lot_57 jc_81 io (by omega) (by omega) ?_
        refine J_aload_n hX 1 dX8_lot_58 rfl ?_
        refine J_getr hX 77 4 dX8_lot_59 jc_77 rfl rfl (by decide) inlX8 wm_4_23 ?_
        refine J_iload_n hX 2 dX8_lot_62 rfl ?_
        refine J_iload_n hX 4 dX8_lot_63 rfl ?_
        refine J_if_ge hX 72 dX8_lot_64 (by decide) (fun h64 => ?_) (fun h64 => ?_)
        · skip
          refine J_iload_n hX 4 dX8_lot_72 rfl ?_
          refine J_iast hX 82 o.toNatClampNeg dX8_lot_73 jc_82 io (by omega) (by omega) ?_
          refine J_iload hX 0 dX8_lot_74 rfl ?_
          exact J_ret hX hZ dX8_lot_76 rfl rfl ⟨by first | contradiction | simp [m_lot, h9, h23, h37, h64], by simp [m_lot, h9, h23, h37, h64], rfl⟩
        · skip
          refine J_bipush (v := (-6)) hX dX8_lot_67 (by decide) ?_
          refine J_goto hX 73 dX8_lot_69 (by decide) ?_
          refine J_iast hX 82 o.toNatClampNeg dX8_lot_73 jc_82 io (by omega) (by omega) ?_
          refine J_iload hX 0 dX8_lot_74 rfl ?_
          exact J_ret hX hZ dX8_lot_76 rfl rfl ⟨by first | contradiction | simp [m_lot, h9, h23, h37, h64], by simp [m_lot, h9, h23, h37, h64], rfl⟩
      · skip
        refine J_bipush (v := (-2)) hX dX8_lot_40 (by decide) ?_
        exact J_ret hX hZ dX8_lot_42 rfl rfl ⟨by first | contradiction | simp [m_lot, h9, h23, h37], by simp [m_lot, h9, h23, h37], rfl⟩
    · skip
      refine J_iconst (v := (-1)) hX dX8_lot_26 (by decide) ?_
      exact J_ret hX hZ dX8_lot_27 rfl rfl ⟨by first | contradiction | simp [m_lot, h9, h23], by simp [m_lot, h9, h23], rfl⟩
def m_set (M : jM) (o v : Int32) : Int32 × jM := if (0 ≤ o.toInt ∧ o.toInt ≤ 1) then (if (0 ≤ v.toInt ∧ v.toInt ≤ 99999) then (if o = 0 then (M 77 5, let M1 := jU M 77 5 v; jU M1 77 6 (M1 77 6)) else (M 77 6, jU (jU M 77 5 (M 77 5)) 77 6 v)) else (-2, M)) else (-2, M)
set_option maxHeartbeats 4000000 in
set_option maxRecDepth 10000 in
theorem c_X8_set (l : Launch) (D : va_G) (a : Nat → Nat) (g : Nat → ClassId) (M : jM) (L : jL) (o v : Int32)  : jK l D a g yX8_set cX8_set 4 (some .int) 1 25 [.ref (a 77), .int o, .int v] M L (some (.int ((m_set M o v).1))) ((m_set M o v).2) L := by
  refine jMeth (by decide) (Nat.le_of_ble_eq_true rfl) ?_
  intro G hX hZ
  refine J_cg (loc' := [(0, .ref (a 77)), (1, .int o), (2, .int v)]) rfl rfl rfl rfl ?_
  refine J_iload_n hX 1 dX8_set_0 rfl ?_
  refine J_i2l hX dX8_set_1 ?_
  refine J_lconst (v := 0) hX dX8_set_2 (by decide) ?_
  refine J_lconst (v := 1) hX dX8_set_3 (by decide) ?_
  refine J_callS hX [.long (Int32.toInt64 o), .long (0 : Int64), .long (1 : Int64)] [] dX8_set_4 (c_X8_in l D a g M L o (0 : Int64) (1 : Int64)) lk_X8_80 rfl rfl (Nat.le_of_ble_eq_true rfl) (Nat.le_of_ble_eq_true rfl) (Nat.le_of_ble_eq_true rfl) (J_eq (st := [.int (jB (0 ≤ o.toInt ∧ o.toInt ≤ 1))]) rfl ?_)
  refine J_ifB_eq hX 22 dX8_set_7 (by decide) (fun h7 => ?_) (fun h7 => ?_)
  · skip
    refine J_bipush (v := (-2)) hX dX8_set_22 (by decide) ?_
    exact J_ret hX hZ dX8_set_24 rfl rfl ⟨by first | contradiction | simp [m_set, h7], by simp [m_set, h7], rfl⟩
  · skip
    refine J_iload_n hX 2 dX8_set_10 rfl ?_
    refine J_i2l hX dX8_set_11 ?_
    refine J_lconst (v := 0) hX dX8_set_12 (by decide) ?_
    refine J_ldc2 hX dX8_set_13 wm_8_3 ?_
    refine J_callS hX [.long (Int32.toInt64 v), .long (0 : Int64), .long (99999 : Int64)] [] dX8_set_16 (c_X8_in l D a g M L v (0 : Int64) (99999 : Int64)) lk_X8_80 rfl rfl (Nat.le_of_ble_eq_true rfl) (Nat.le_of_ble_eq_true rfl) (Nat.le_of_ble_eq_true rfl) (J_eq (st := [.int (jB (0 ≤ v.toInt ∧ v.toInt ≤ 99999))]) rfl ?_)
    refine J_ifB_ne hX 25 dX8_set_19 (by decide) (fun h19 => ?_) (fun h19 => ?_)
    · skip
      refine J_iload_n hX 1 dX8_set_25 rfl ?_
      refine J_if_ne hX 36 dX8_set_26 (by decide) (fun h26 => ?_) (fun h26 => ?_)
      · skip
        refine J_aload_n hX 0 dX8_set_36 rfl ?_
        refine J_geti hX 77 6 dX8_set_37 jc_77 rfl rfl (by decide) inlX8 wm_8_5 ?_
        refine J_istore_n (loc' := [(3, .int (M 77 6)), (0, .ref (a 77)), (1, .int o), (2, .int v)]) hX dX8_set_40 (by decide) rfl ?_
        refine J_aload_n hX 1 dX8_set_41 rfl ?_
        refine J_iload_n hX 2 dX8_set_42 rfl ?_
        refine J_if_ne hX 50 dX8_set_43 (by decide) (fun h43 => ?_) (fun h43 => absurd (by first | exact h43 | exact Classical.not_not.mp h43) h26)
        refine J_aload_n hX 1 dX8_set_50 rfl ?_
        refine J_geti hX 77 5 dX8_set_51 jc_77 rfl rfl (by decide) inlX8 wm_8_4 ?_
        refine J_puti (ty := .int) hX 77 5 dX8_set_54 jc_77 rfl rfl (by decide) inlX8 wm_8_4 tyX8 tyX8_ok nmX8 rfl (by decide +kernel) rfl rfl ?_
        refine J_aload_n hX 1 dX8_set_57 rfl ?_
        refine J_iload_n hX 2 dX8_set_58 rfl ?_
        refine J_iconst (v := 1) hX dX8_set_59 (by decide) ?_
        refine J_icmp_ne hX 67 dX8_set_60 (by decide) (fun h60 => absurd (jk01 h7 h26) h60) (fun h60 => ?_)
        refine J_iload_n hX 3 dX8_set_63 rfl ?_
        refine J_goto hX 71 dX8_set_64 (by decide) ?_
        refine J_puti (ty := .int) hX 77 6 dX8_set_71 jc_77 rfl rfl (by decide) inlX8 wm_8_5 tyX8 tyX8_ok nmX8 rfl (by decide +kernel) rfl rfl ?_
        refine J_iload_n hX 0 dX8_set_74 rfl ?_
        exact J_ret hX hZ dX8_set_75 rfl rfl ⟨by rw [m_set, if_pos h7, if_pos h19]; (first | rw [if_neg h26] | rw [if_pos h26] | rw [if_pos (Classical.not_not.mp h26)]), by first | (exfalso; exact absurd (h26.symm.trans (by first | exact h60 | exact Classical.not_not.mp h60)) (by decide)) | (exfalso; exact h43 h26) | (rw [m_set, if_pos h7, if_pos h19]; (first | rw [if_neg h26] | rw [if_pos h26] | rw [if_pos (Classical.not_not.mp h26)])), rfl⟩
      · skip
        refine J_aload_n hX 0 dX8_set_29 rfl ?_
        refine J_geti hX 77 5 dX8_set_30 jc_77 rfl rfl (by decide) inlX8 wm_8_4 ?_
        refine J_goto hX 40 dX8_set_33 (by decide) ?_
        refine J_istore_n (loc' := [(3, .int (M 77 5)), (0, .ref (a 77)), (1, .int o), (2, .int v)]) hX dX8_set_40 (by decide) rfl ?_
        refine J_aload_n hX 1 dX8_set_41 rfl ?_
        refine J_iload_n hX 2 dX8_set_42 rfl ?_
        refine J_if_ne hX 50 dX8_set_43 (by decide) (fun h43 => ?_) (fun h43 => ?_)
        · skip
          refine J_aload_n hX 1 dX8_set_50 rfl ?_
          refine J_geti hX 77 5 dX8_set_51 jc_77 rfl rfl (by decide) inlX8 wm_8_4 ?_
          refine J_puti (ty := .int) hX 77 5 dX8_set_54 jc_77 rfl rfl (by decide) inlX8 wm_8_4 tyX8 tyX8_ok nmX8 rfl (by decide +kernel) rfl rfl ?_
          refine J_aload_n hX 1 dX8_set_57 rfl ?_
          refine J_iload_n hX 2 dX8_set_58 rfl ?_
          refine J_iconst (v := 1) hX dX8_set_59 (by decide) ?_
          refine J_icmp_ne hX 67 dX8_set_60 (by decide) (fun h60 => ?_) (fun h60 => ?_)
          · skip
            refine J_aload_n hX 1 dX8_set_67 rfl ?_
            refine J_geti hX 77 6 dX8_set_68 jc_77 rfl rfl (by decide) inlX8 wm_8_5 ?_
            refine J_puti (ty := .int) hX 77 6 dX8_set_71 jc_77 rfl rfl (by decide) inlX8 wm_8_5 tyX8 tyX8_ok nmX8 rfl (by decide +kernel) rfl rfl ?_
            refine J_iload_n hX 0 dX8_set_74 rfl ?_
            exact J_ret hX hZ dX8_set_75 rfl rfl ⟨by rw [m_set, if_pos h7, if_pos h19]; (first | rw [if_neg h26] | rw [if_pos h26] | rw [if_pos (Classical.not_not.mp h26)]), by first | (exfalso; exact absurd (h26.symm.trans (by first | exact h60 | exact Classical.not_not.mp h60)) (by decide)) | (exfalso; exact h43 h26) | (rw [m_set, if_pos h7, if_pos h19]; (first | rw [if_neg h26] | rw [if_pos h26] | rw [if_pos (Classical.not_not.mp h26)])), rfl⟩
          · skip
            refine J_iload_n hX 3 dX8_set_63 rfl ?_
            refine J_goto hX 71 dX8_set_64 (by decide) ?_
            refine J_puti (ty := .int) hX 77 6 dX8_set_71 jc_77 rfl rfl (by decide) inlX8 wm_8_5 tyX8 tyX8_ok nmX8 rfl (by decide +kernel) rfl rfl ?_
            refine J_iload_n hX 0 dX8_set_74 rfl ?_
            exact J_ret hX hZ dX8_set_75 rfl rfl ⟨by rw [m_set, if_pos h7, if_pos h19]; (first | rw [if_neg h26] | rw [if_pos h26] | rw [if_pos (Classical.not_not.mp h26)]), by first | (exfalso; exact absurd (h26.symm.trans (by first | exact h60 | exact Classical.not_not.mp h60)) (by decide)) | (exfalso; exact h43 h26) | (rw [m_set, if_pos h7, if_pos h19]; (first | rw [if_neg h26] | rw [if_pos h26] | rw [if_pos (Classical.not_not.mp h26)])), rfl⟩
        · skip
          refine J_iload_n hX 3 dX8_set_46 rfl ?_
          refine J_goto hX 54 dX8_set_47 (by decide) ?_
          refine J_puti (ty := .int) hX 77 5 dX8_set_54 jc_77 rfl rfl (by decide) inlX8 wm_8_4 tyX8 tyX8_ok nmX8 rfl (by decide +kernel) rfl rfl ?_
          refine J_aload_n hX 1 dX8_set_57 rfl ?_
          refine J_iload_n hX 2 dX8_set_58 rfl ?_
          refine J_iconst (v := 1) hX dX8_set_59 (by decide) ?_
          refine J_icmp_ne hX 67 dX8_set_60 (by decide) (fun h60 => ?_) (fun h60 => ?_)
          · skip
            refine J_aload_n hX 1 dX8_set_67 rfl ?_
            refine J_geti hX 77 6 dX8_set_68 jc_77 rfl rfl (by decide) inlX8 wm_8_5 ?_
            refine J_puti (ty := .int) hX 77 6 dX8_set_71 jc_77 rfl rfl (by decide) inlX8 wm_8_5 tyX8 tyX8_ok nmX8 rfl (by decide +kernel) rfl rfl ?_
            refine J_iload_n hX 0 dX8_set_74 rfl ?_
            exact J_ret hX hZ dX8_set_75 rfl rfl ⟨by rw [m_set, if_pos h7, if_pos h19]; (first | rw [if_neg h26] | rw [if_pos h26] | rw [if_pos (Classical.not_not.mp h26)]), by first | (exfalso; exact absurd (h26.symm.trans (by first | exact h60 | exact Classical.not_not.mp h60)) (by decide)) | (exfalso; exact h43 h26) | (rw [m_set, if_pos h7, if_pos h19]; (first | rw [if_neg h26] | rw [if_pos h26] | rw [if_pos (Classical.not_not.mp h26)])), rfl⟩
          · skip
            refine J_iload_n hX 3 dX8_set_63 rfl ?_
            refine J_goto hX 71 dX8_set_64 (by decide) ?_
            refine J_puti (ty := .int) hX 77 6 dX8_set_71 jc_77 rfl rfl (by decide) inlX8 wm_8_5 tyX8 tyX8_ok nmX8 rfl (by decide +kernel) rfl rfl ?_
            refine J_iload_n hX 0 dX8_set_74 rfl ?_
            exact J_ret hX hZ dX8_set_75 rfl rfl ⟨by rw [m_set, if_pos h7, if_pos h19]; (first | rw [if_neg h26] | rw [if_pos h26] | rw [if_pos (Classical.not_not.mp h26)]), by first | (exfalso; exact absurd (h26.symm.trans (by first | exact h60 | exact Classical.not_not.mp h60)) (by decide)) | (exfalso; exact h43 h26) | (rw [m_set, if_pos h7, if_pos h19]; (first | rw [if_neg h26] | rw [if_pos h26] | rw [if_pos (Classical.not_not.mp h26)])), rfl⟩
    · skip
      refine J_bipush (v := (-2)) hX dX8_set_22 (by decide) ?_
      exact J_ret hX hZ dX8_set_24 rfl rfl ⟨by first | contradiction | simp [m_set, h7, h19], by simp [m_set, h7, h19], rfl⟩
def m_say (M : jM) (n : Nat) (s : Int32) : Int32 × jM := if (33 ≤ s.toInt ∧ s.toInt ≤ 126) then (if n = 60 then (-4, M) else (nI (n + 1), jU (jU M 86 n s) 77 14 (nI (n + 1)))) else (-2, M)
set_option maxHeartbeats 4000000 in
set_option maxRecDepth 10000 in
theorem c_X8_say (l : Launch) (D : va_G) (a : Nat → Nat) (g : Nat → ClassId) (M : jM) (L : jL) (n : Nat) (hn : M 77 14 = nI n) (hn60 : n ≤ 60) (s : Int32)  : jK l D a g yX8_say cX8_say 2 (some .int) 1 25 [.ref (a 77), .int s] M L (some (.int ((m_say M n s).1))) ((m_say M n s).2) L := by
  refine jMeth (by decide) (Nat.le_of_ble_eq_true rfl) ?_
  intro G hX hZ
  refine J_cg (loc' := [(0, .ref (a 77)), (1, .int s)]) rfl rfl rfl rfl ?_
  refine J_iload_n hX 1 dX8_say_0 rfl ?_
  refine J_i2l hX dX8_say_1 ?_
  refine J_ldc2 hX dX8_say_2 wm_8_20 ?_
  refine J_ldc2 hX dX8_say_5 wm_8_21 ?_
  refine J_callS hX [.long (Int32.toInt64 s), .long (33 : Int64), .long (126 : Int64)] [] dX8_say_8 (c_X8_in l D a g M L s (33 : Int64) (126 : Int64)) lk_X8_80 rfl rfl (Nat.le_of_ble_eq_true rfl) (Nat.le_of_ble_eq_true rfl) (Nat.le_of_ble_eq_true rfl) (J_eq (st := [.int (jB (33 ≤ s.toInt ∧ s.toInt ≤ 126))]) rfl ?_)
  refine J_ifB_ne hX 17 dX8_say_11 (by decide) (fun h11 => ?_) (fun h11 => ?_)
  · skip
    refine J_aload_n hX 0 dX8_say_17 rfl ?_
    refine J_geti hX 77 14 dX8_say_18 jc_77 rfl rfl (by decide) inlX8 wm_8_22 ?_
    refine J_bipush (v := 60) hX dX8_say_21 (by decide) ?_
    refine J_cmpN_ne hX 29 n 60 dX8_say_23 (by decide) hn rfl (by omega) (by omega) (fun h23 => ?_) (fun h23 => ?_)
    · skip
      refine J_aload_n hX 0 dX8_say_29 rfl ?_
      refine J_getr hX 77 13 dX8_say_30 jc_77 rfl rfl (by decide) inlX8 wm_5_3 ?_
      refine J_aload_n hX 0 dX8_say_33 rfl ?_
      refine J_geti hX 77 14 dX8_say_34 jc_77 rfl rfl (by decide) inlX8 wm_8_22 ?_
      refine J_iload_n hX 1 dX8_say_37 rfl ?_
      refine J_iast hX 86 n dX8_say_38 jc_86 hn (by omega) (by omega) ?_
      refine J_aload_n hX 0 dX8_say_39 rfl ?_
      refine J_dup hX dX8_say_40 rfl ?_
      refine J_geti hX 77 14 dX8_say_41 jc_77 rfl rfl (by decide) inlX8 wm_8_22 ?_
      refine J_topi (y := nI n) (by simpa [jU] using hn) ?_
      refine J_iconst (v := 1) hX dX8_say_44 (by decide) ?_
      refine J_iadd hX dX8_say_45 ?_
      refine J_topi (y := nI (n + 1)) (nI_1 n) ?_
      refine J_puti (ty := .int) hX 77 14 dX8_say_46 jc_77 rfl rfl (by decide) inlX8 wm_8_22 tyX8 tyX8_ok nmX8 rfl (by decide +kernel) rfl rfl ?_
      refine J_aload_n hX 0 dX8_say_49 rfl ?_
      refine J_geti hX 77 14 dX8_say_50 jc_77 rfl rfl (by decide) inlX8 wm_8_22 ?_
      refine J_topi (y := nI (n + 1)) jU_same ?_
      exact J_ret hX hZ dX8_say_53 rfl rfl ⟨by first | contradiction | simp [m_say, h11, h23], by simp [m_say, h11, h23], rfl⟩
    · skip
      refine J_bipush (v := (-4)) hX dX8_say_26 (by decide) ?_
      exact J_ret hX hZ dX8_say_28 rfl rfl ⟨by first | contradiction | simp [m_say, h11, h23], by simp [m_say, h11, h23], rfl⟩
  · skip
    refine J_bipush (v := (-2)) hX dX8_say_14 (by decide) ?_
    exact J_ret hX hZ dX8_say_16 rfl rfl ⟨by first | contradiction | simp [m_say, h11], by simp [m_say, h11], rfl⟩
def m_wipe (M : jM) : Int32 × jM := (M 77 14, jU M 77 14 0)
set_option maxHeartbeats 4000000 in
set_option maxRecDepth 10000 in
theorem c_X8_wipe (l : Launch) (D : va_G) (a : Nat → Nat) (g : Nat → ClassId) (M : jM) (L : jL)   : jK l D a g yX8_wipe cX8_wipe 2 (some .int) 0 0 [.ref (a 77)] M L (some (.int ((m_wipe M).1))) ((m_wipe M).2) L := by
  refine jMeth (by decide) (Nat.le_of_ble_eq_true rfl) ?_
  intro G hX hZ
  refine J_cg (loc' := [(0, .ref (a 77))]) rfl rfl rfl rfl ?_
  refine J_aload_n hX 0 dX8_wipe_0 rfl ?_
  refine J_geti hX 77 14 dX8_wipe_1 jc_77 rfl rfl (by decide) inlX8 wm_8_22 ?_
  refine J_istore_n (loc' := [(1, .int (M 77 14)), (0, .ref (a 77))]) hX dX8_wipe_4 (by decide) rfl ?_
  refine J_aload_n hX 1 dX8_wipe_5 rfl ?_
  refine J_iconst (v := 0) hX dX8_wipe_6 (by decide) ?_
  refine J_puti (ty := .int) hX 77 14 dX8_wipe_7 jc_77 rfl rfl (by decide) inlX8 wm_8_22 tyX8 tyX8_ok nmX8 rfl (by decide +kernel) rfl rfl ?_
  refine J_iload_n hX 0 dX8_wipe_10 rfl ?_
  exact J_ret hX hZ dX8_wipe_11 rfl rfl ⟨rfl, rfl, rfl⟩
def m_close (M : jM) (k : Nat) (w z : Int32) : jM := jU (jU (jU M 87 k w) 89 k z) 77 18 (nI (k + 1))
set_option maxHeartbeats 4000000 in
set_option maxRecDepth 10000 in
theorem c_X8_close (l : Launch) (D : va_G) (a : Nat → Nat) (g : Nat → ClassId) (M : jM) (L : jL) (k : Nat) (hk : M 77 18 = nI k) (hk60 : k < 60) (w z : Int32)  : jK l D a g yX8_close cX8_close 3 (some .int) 0 0 [.ref (a 77), .int w, .int z] M L (some (.int 0)) (m_close M k w z) L := by
  refine jMeth (by decide) (Nat.le_of_ble_eq_true rfl) ?_
  intro G hX hZ
  refine J_cg (loc' := [(0, .ref (a 77)), (1, .int w), (2, .int z)]) rfl rfl rfl rfl ?_
  refine J_aload_n hX 0 dX8_close_0 rfl ?_
  refine J_getr hX 77 15 dX8_close_1 jc_77 rfl rfl (by decide) inlX8 wm_5_4 ?_
  refine J_aload_n hX 0 dX8_close_4 rfl ?_
  refine J_geti hX 77 18 dX8_close_5 jc_77 rfl rfl (by decide) inlX8 wm_10_7 ?_
  refine J_iload_n hX 1 dX8_close_8 rfl ?_
  refine J_iast hX 87 k dX8_close_9 jc_87 hk (by omega) (by omega) ?_
  refine J_aload_n hX 0 dX8_close_10 rfl ?_
  refine J_getr hX 77 17 dX8_close_11 jc_77 rfl rfl (by decide) inlX8 wm_5_6 ?_
  refine J_aload_n hX 0 dX8_close_14 rfl ?_
  refine J_geti hX 77 18 dX8_close_15 jc_77 rfl rfl (by decide) inlX8 wm_10_7 ?_
  refine J_iload_n hX 2 dX8_close_18 rfl ?_
  refine J_iast hX 89 k dX8_close_19 jc_89 (by simpa [jU] using hk) (by omega) (by omega) ?_
  refine J_aload_n hX 0 dX8_close_20 rfl ?_
  refine J_dup hX dX8_close_21 rfl ?_
  refine J_geti hX 77 18 dX8_close_22 jc_77 rfl rfl (by decide) inlX8 wm_10_7 ?_
  refine J_topi (y := nI k) (by simpa [jU] using hk) ?_
  refine J_iconst (v := 1) hX dX8_close_25 (by decide) ?_
  refine J_iadd hX dX8_close_26 ?_
  refine J_topi (y := nI (k + 1)) (nI_1 k) ?_
  refine J_puti (ty := .int) hX 77 18 dX8_close_27 jc_77 rfl rfl (by decide) inlX8 wm_10_7 tyX8 tyX8_ok nmX8 rfl (by decide +kernel) rfl rfl ?_
  refine J_iconst (v := 0) hX dX8_close_30 (by decide) ?_
  exact J_ret hX hZ dX8_close_31 rfl rfl ⟨rfl, rfl, rfl⟩
def m_deed (c : Int32) : Int32 := if c = 36 then 5 else if c = 47 then 6 else if c = 62 then 7 else if c = 64 then 8 else -6
def m_bgW (c : Int32) : Int32 := if 65 ≤ c.toInt ∧ c.toInt ≤ 70 then c - 65 else 0
def m_begin (M : jM) (k : Nat) (c : Int32) : Int32 × jM := let M1 := jU M 88 k (m_bgW c)
  if c = 33 then (3, M1) else if c = 43 then (2, M1) else if c = 46 then (0, m_close M1 k 6 0) else if 65 ≤ c.toInt ∧ c.toInt ≤ 70 then (1, M1) else (-6, M1)
def m_forWhom (M : jM) (k : Nat) (c : Int32) : Int32 × jM := ((if 65 ≤ c.toInt ∧ c.toInt ≤ 70 then 4 else -6), jU M 88 k (c - 65))
def m_number (M : jM) (k : Nat) (w c t : Int32) : Int32 × jM := if 49 ≤ c.toInt ∧ c.toInt ≤ 57 then (0, m_close M k w (t * (c - 48))) else (-6, M)
def m_readOn (M : jM) (k : Nat) (d c : Int32) : Int32 × jM :=
  if d = 0 then m_begin M k c else if d = 1 then (m_deed c, M) else if d = 2 then m_number M k 0 c 100 else if d = 3 then m_forWhom M k c else if d = 4 then m_number M k 1 c 100
  else if d = 5 then (if 48 ≤ c.toInt ∧ c.toInt ≤ 55 then (0, m_close M k 2 (c - 48)) else (-6, M)) else if d = 6 then m_number M k 3 c 10
  else if d = 7 then (if 65 ≤ c.toInt ∧ c.toInt ≤ 70 then (0, m_close M k 4 (c - 65)) else (-6, M)) else m_number M k 5 c 100
set_option maxHeartbeats 4000000 in
set_option maxRecDepth 10000 in
theorem c_X8_deed (l : Launch) (D : va_G) (a : Nat → Nat) (g : Nat → ClassId) (M : jM) (L : jL) (c : Int32)  : jK l D a g yX8_deed cX8_deed 1 (some .int) 0 0 [.int c] M L (some (.int (m_deed c))) M L := by
  refine jMeth (by decide) (Nat.le_of_ble_eq_true rfl) ?_
  intro G hX hZ
  refine J_cg (loc' := [(0, .int c)]) rfl rfl rfl rfl ?_
  refine J_iload_n hX 0 dX8_deed_0 rfl ?_
  by_cases s1_36 : c = 36
  · refine J_lookup (off := 43) hX 44 dX8_deed_1 rfl (by rw [s1_36]; first | done | rfl) (by decide) ?_
    refine J_iconst (v := 5) hX dX8_deed_44 (by decide) ?_
    exact J_ret hX hZ dX8_deed_45 rfl rfl ⟨by simp [m_deed, s1_36], rfl, rfl⟩
  by_cases s1_47 : c = 47
  · refine J_lookup (off := 45) hX 46 dX8_deed_1 rfl (by rw [s1_47]; first | done | rfl) (by decide) ?_
    refine J_bipush (v := 6) hX dX8_deed_46 (by decide) ?_
    exact J_ret hX hZ dX8_deed_48 rfl rfl ⟨by simp [m_deed, s1_36, s1_47], rfl, rfl⟩
  by_cases s1_62 : c = 62
  · refine J_lookup (off := 48) hX 49 dX8_deed_1 rfl (by rw [s1_62]; first | done | rfl) (by decide) ?_
    refine J_bipush (v := 7) hX dX8_deed_49 (by decide) ?_
    exact J_ret hX hZ dX8_deed_51 rfl rfl ⟨by simp [m_deed, s1_36, s1_47, s1_62], rfl, rfl⟩
  by_cases s1_64 : c = 64
  · refine J_lookup (off := 51) hX 52 dX8_deed_1 rfl (by rw [s1_64]; first | done | rfl) (by decide) ?_
    refine J_bipush (v := 8) hX dX8_deed_52 (by decide) ?_
    exact J_ret hX hZ dX8_deed_54 rfl rfl ⟨by simp [m_deed, s1_36, s1_47, s1_62, s1_64], rfl, rfl⟩
  refine J_lookup (off := 54) hX 55 dX8_deed_1 rfl (by show Op.lookupswitch.offset [(36, 43), (47, 45), (62, 48), (64, 51)] 54 _ = _; rw [lv_osw (a := 36) s1_36 rfl, lv_osw (a := 47) s1_47 rfl, lv_osw (a := 62) s1_62 rfl, lv_osw (a := 64) s1_64 rfl]; first | done | rfl) (by decide) ?_
  refine J_bipush (v := (-6)) hX dX8_deed_55 (by decide) ?_
  exact J_ret hX hZ dX8_deed_57 rfl rfl ⟨by simp [m_deed, s1_36, s1_47, s1_62, s1_64], rfl, rfl⟩
set_option maxHeartbeats 4000000 in
set_option maxRecDepth 10000 in
theorem c_X8_begin (l : Launch) (D : va_G) (a : Nat → Nat) (g : Nat → ClassId) (M : jM) (L : jL) (k : Nat) (hk : M 77 18 = nI k) (hk60 : k < 60) (c : Int32)  : jK l D a g yX8_begin cX8_begin 2 (some .int) 2 45 [.ref (a 77), .int c] M L (some (.int ((m_begin M k c).1))) ((m_begin M k c).2) L := by
  refine jMeth (by decide) (Nat.le_of_ble_eq_true rfl) ?_
  intro G hX hZ
  refine J_cg (loc' := [(0, .ref (a 77)), (1, .int c)]) rfl rfl rfl rfl ?_
  refine J_aload_n hX 0 dX8_begin_0 rfl ?_
  refine J_getr hX 77 16 dX8_begin_1 jc_77 rfl rfl (by decide) inlX8 wm_5_5 ?_
  refine J_aload_n hX 0 dX8_begin_4 rfl ?_
  refine J_geti hX 77 18 dX8_begin_5 jc_77 rfl rfl (by decide) inlX8 wm_10_7 ?_
  refine J_iload_n hX 1 dX8_begin_8 rfl ?_
  refine J_callS hX [.int c] [.int (M 77 18), .ref (a 88)] dX8_begin_9 (c_X8_isLetter l D a g M L c) lk_X8_119 rfl rfl (Nat.le_of_ble_eq_true rfl) (Nat.le_of_ble_eq_true rfl) (Nat.le_of_ble_eq_true rfl) (J_eq (st := [.int (jB (65 ≤ c.toInt ∧ c.toInt ≤ 70)), .int (M 77 18), .ref (a 88)]) rfl ?_)
  refine J_ifB_eq hX 22 dX8_begin_12 (by decide) (fun h12 => ?_) (fun h12 => ?_)
  · skip
    refine J_iconst (v := 0) hX dX8_begin_22 (by decide) ?_
    refine J_topi (y := m_bgW c) (by simp [m_bgW, h12]) ?_
    refine J_iast hX 88 k dX8_begin_23 jc_88 hk (by omega) (by omega) ?_
    refine J_iload_n hX 1 dX8_begin_24 rfl ?_
    by_cases s25_33 : c = 33
    · refine J_lookup (off := 37) hX 62 dX8_begin_25 rfl (by rw [s25_33]; first | done | rfl) (by decide) ?_
      refine J_iconst (v := 3) hX dX8_begin_62 (by decide) ?_
      exact J_ret hX hZ dX8_begin_63 rfl rfl ⟨by first | contradiction | simp [m_begin, h12, s25_33], by simp [m_begin, h12, s25_33], rfl⟩
    by_cases s25_43 : c = 43
    · refine J_lookup (off := 35) hX 60 dX8_begin_25 rfl (by rw [s25_43]; first | done | rfl) (by decide) ?_
      refine J_iconst (v := 2) hX dX8_begin_60 (by decide) ?_
      exact J_ret hX hZ dX8_begin_61 rfl rfl ⟨by first | contradiction | simp [m_begin, h12, s25_33, s25_43], by simp [m_begin, h12, s25_33, s25_43], rfl⟩
    by_cases s25_46 : c = 46
    · refine J_lookup (off := 39) hX 64 dX8_begin_25 rfl (by rw [s25_46]; first | done | rfl) (by decide) ?_
      refine J_aload_n hX 0 dX8_begin_64 rfl ?_
      refine J_bipush (v := 6) hX dX8_begin_65 (by decide) ?_
      refine J_iconst (v := 0) hX dX8_begin_67 (by decide) ?_
      refine J_callV hX 77 [.int 6, .int 0] [] dX8_begin_68 (c_X8_close l D a g (jU M 88 k (m_bgW c)) L k (by simpa [jU] using hk) hk60 6 0) lk_X8_122 jc_77 rfl rfl rfl (Nat.le_of_ble_eq_true rfl) (Nat.le_of_ble_eq_true rfl) (Nat.le_of_ble_eq_true rfl) (J_eq (st := [.int 0]) rfl ?_)
      exact J_ret hX hZ dX8_begin_71 rfl rfl ⟨by first | contradiction | simp [m_begin, h12, s25_33, s25_43, s25_46], by simp [m_begin, h12, s25_33, s25_43, s25_46], rfl⟩
    refine J_lookup (off := 47) hX 72 dX8_begin_25 rfl (by show Op.lookupswitch.offset [(33, 37), (43, 35), (46, 39)] 47 _ = _; rw [lv_osw (a := 33) s25_33 rfl, lv_osw (a := 43) s25_43 rfl, lv_osw (a := 46) s25_46 rfl]; first | done | rfl) (by decide) ?_
    refine J_iload_n hX 1 dX8_begin_72 rfl ?_
    refine J_callS hX [.int c] [] dX8_begin_73 (c_X8_isLetter l D a g (jU M 88 k (m_bgW c)) L c) lk_X8_119 rfl rfl (Nat.le_of_ble_eq_true rfl) (Nat.le_of_ble_eq_true rfl) (Nat.le_of_ble_eq_true rfl) (J_eq (st := [.int (jB (65 ≤ c.toInt ∧ c.toInt ≤ 70))]) rfl ?_)
    refine J_ifB_eq hX 83 dX8_begin_76 (by decide) (fun h76 => ?_) (fun h76 => ?_)
    · skip
      refine J_bipush (v := (-6)) hX dX8_begin_83 (by decide) ?_
      exact J_ret hX hZ dX8_begin_85 rfl rfl ⟨by first | contradiction | simp [m_begin, h12, s25_33, s25_43, s25_46, h76], by simp [m_begin, h12, s25_33, s25_43, s25_46, h76], rfl⟩
    · skip
      refine J_iconst (v := 1) hX dX8_begin_79 (by decide) ?_
      refine J_goto hX 85 dX8_begin_80 (by decide) ?_
      exact J_ret hX hZ dX8_begin_85 rfl rfl ⟨by first | contradiction | simp [m_begin, h12, s25_33, s25_43, s25_46, h76], by simp [m_begin, h12, s25_33, s25_43, s25_46, h76], rfl⟩
  · skip
    refine J_iload_n hX 1 dX8_begin_15 rfl ?_
    refine J_bipush (v := 65) hX dX8_begin_16 (by decide) ?_
    refine J_isub hX dX8_begin_18 ?_
    refine J_goto hX 23 dX8_begin_19 (by decide) ?_
    refine J_topi (y := m_bgW c) (by simp [m_bgW, h12]) ?_
    refine J_iast hX 88 k dX8_begin_23 jc_88 hk (by omega) (by omega) ?_
    refine J_iload_n hX 1 dX8_begin_24 rfl ?_
    by_cases s25_33 : c = 33
    · refine J_lookup (off := 37) hX 62 dX8_begin_25 rfl (by rw [s25_33]; first | done | rfl) (by decide) ?_
      refine J_iconst (v := 3) hX dX8_begin_62 (by decide) ?_
      exact J_ret hX hZ dX8_begin_63 rfl rfl ⟨by first | contradiction | simp [m_begin, h12, s25_33], by simp [m_begin, h12, s25_33], rfl⟩
    by_cases s25_43 : c = 43
    · refine J_lookup (off := 35) hX 60 dX8_begin_25 rfl (by rw [s25_43]; first | done | rfl) (by decide) ?_
      refine J_iconst (v := 2) hX dX8_begin_60 (by decide) ?_
      exact J_ret hX hZ dX8_begin_61 rfl rfl ⟨by first | contradiction | simp [m_begin, h12, s25_33, s25_43], by simp [m_begin, h12, s25_33, s25_43], rfl⟩
    by_cases s25_46 : c = 46
    · refine J_lookup (off := 39) hX 64 dX8_begin_25 rfl (by rw [s25_46]; first | done | rfl) (by decide) ?_
      refine J_aload_n hX 0 dX8_begin_64 rfl ?_
      refine J_bipush (v := 6) hX dX8_begin_65 (by decide) ?_
      refine J_iconst (v := 0) hX dX8_begin_67 (by decide) ?_
      refine J_callV hX 77 [.int 6, .int 0] [] dX8_begin_68 (c_X8_close l D a g (jU M 88 k (m_bgW c)) L k (by simpa [jU] using hk) hk60 6 0) lk_X8_122 jc_77 rfl rfl rfl (Nat.le_of_ble_eq_true rfl) (Nat.le_of_ble_eq_true rfl) (Nat.le_of_ble_eq_true rfl) (J_eq (st := [.int 0]) rfl ?_)
      exact J_ret hX hZ dX8_begin_71 rfl rfl ⟨by first | contradiction | simp [m_begin, h12, s25_33, s25_43, s25_46], by simp [m_begin, h12, s25_33, s25_43, s25_46], rfl⟩
    refine J_lookup (off := 47) hX 72 dX8_begin_25 rfl (by show Op.lookupswitch.offset [(33, 37), (43, 35), (46, 39)] 47 _ = _; rw [lv_osw (a := 33) s25_33 rfl, lv_osw (a := 43) s25_43 rfl, lv_osw (a := 46) s25_46 rfl]; first | done | rfl) (by decide) ?_
    refine J_iload_n hX 1 dX8_begin_72 rfl ?_
    refine J_callS hX [.int c] [] dX8_begin_73 (c_X8_isLetter l D a g (jU M 88 k (m_bgW c)) L c) lk_X8_119 rfl rfl (Nat.le_of_ble_eq_true rfl) (Nat.le_of_ble_eq_true rfl) (Nat.le_of_ble_eq_true rfl) (J_eq (st := [.int (jB (65 ≤ c.toInt ∧ c.toInt ≤ 70))]) rfl ?_)
    refine J_ifB_eq hX 83 dX8_begin_76 (by decide) (fun h76 => ?_) (fun h76 => ?_)
    · skip
      refine J_bipush (v := (-6)) hX dX8_begin_83 (by decide) ?_
      exact J_ret hX hZ dX8_begin_85 rfl rfl ⟨by first | contradiction | simp [m_begin, h12, s25_33, s25_43, s25_46, h76], by simp [m_begin, h12, s25_33, s25_43, s25_46, h76], rfl⟩
    · skip
      refine J_iconst (v := 1) hX dX8_begin_79 (by decide) ?_
      refine J_goto hX 85 dX8_begin_80 (by decide) ?_
      exact J_ret hX hZ dX8_begin_85 rfl rfl ⟨by first | contradiction | simp [m_begin, h12, s25_33, s25_43, s25_46, h76], by simp [m_begin, h12, s25_33, s25_43, s25_46, h76], rfl⟩
set_option maxHeartbeats 4000000 in
set_option maxRecDepth 10000 in
theorem c_X8_forWhom (l : Launch) (D : va_G) (a : Nat → Nat) (g : Nat → ClassId) (M : jM) (L : jL) (k : Nat) (hk : M 77 18 = nI k) (hk60 : k < 60) (c : Int32)  : jK l D a g yX8_forWhom cX8_forWhom 2 (some .int) 2 45 [.ref (a 77), .int c] M L (some (.int ((m_forWhom M k c).1))) ((m_forWhom M k c).2) L := by
  refine jMeth (by decide) (Nat.le_of_ble_eq_true rfl) ?_
  intro G hX hZ
  refine J_cg (loc' := [(0, .ref (a 77)), (1, .int c)]) rfl rfl rfl rfl ?_
  refine J_aload_n hX 0 dX8_forWhom_0 rfl ?_
  refine J_getr hX 77 16 dX8_forWhom_1 jc_77 rfl rfl (by decide) inlX8 wm_5_5 ?_
  refine J_aload_n hX 0 dX8_forWhom_4 rfl ?_
  refine J_geti hX 77 18 dX8_forWhom_5 jc_77 rfl rfl (by decide) inlX8 wm_10_7 ?_
  refine J_iload_n hX 1 dX8_forWhom_8 rfl ?_
  refine J_bipush (v := 65) hX dX8_forWhom_9 (by decide) ?_
  refine J_isub hX dX8_forWhom_11 ?_
  refine J_iast hX 88 k dX8_forWhom_12 jc_88 hk (by omega) (by omega) ?_
  refine J_iload_n hX 1 dX8_forWhom_13 rfl ?_
  refine J_callS hX [.int c] [] dX8_forWhom_14 (c_X8_isLetter l D a g (jU M 88 k (c - 65)) L c) lk_X8_119 rfl rfl (Nat.le_of_ble_eq_true rfl) (Nat.le_of_ble_eq_true rfl) (Nat.le_of_ble_eq_true rfl) (J_eq (st := [.int (jB (65 ≤ c.toInt ∧ c.toInt ≤ 70))]) rfl ?_)
  refine J_ifB_eq hX 24 dX8_forWhom_17 (by decide) (fun h17 => ?_) (fun h17 => ?_)
  · skip
    refine J_bipush (v := (-6)) hX dX8_forWhom_24 (by decide) ?_
    exact J_ret hX hZ dX8_forWhom_26 rfl rfl ⟨by first | contradiction | simp [m_forWhom, h17], by simp [m_forWhom, h17], rfl⟩
  · skip
    refine J_iconst (v := 4) hX dX8_forWhom_20 (by decide) ?_
    refine J_goto hX 26 dX8_forWhom_21 (by decide) ?_
    exact J_ret hX hZ dX8_forWhom_26 rfl rfl ⟨by first | contradiction | simp [m_forWhom, h17], by simp [m_forWhom, h17], rfl⟩
set_option maxHeartbeats 4000000 in
set_option maxRecDepth 10000 in
theorem c_X8_number (l : Launch) (D : va_G) (a : Nat → Nat) (g : Nat → ClassId) (M : jM) (L : jL) (k : Nat) (hk : M 77 18 = nI k) (hk60 : k < 60) (w c t : Int32)  : jK l D a g yX8_number cX8_number 4 (some .int) 1 25 [.ref (a 77), .int w, .int c, .int t] M L (some (.int ((m_number M k w c t).1))) ((m_number M k w c t).2) L := by
  refine jMeth (by decide) (Nat.le_of_ble_eq_true rfl) ?_
  intro G hX hZ
  refine J_cg (loc' := [(0, .ref (a 77)), (1, .int w), (2, .int c), (3, .int t)]) rfl rfl rfl rfl ?_
  refine J_iload_n hX 2 dX8_number_0 rfl ?_
  refine J_i2l hX dX8_number_1 ?_
  refine J_ldc2 hX dX8_number_2 wm_11_10 ?_
  refine J_ldc2 hX dX8_number_5 wm_11_11 ?_
  refine J_callS hX [.long (Int32.toInt64 c), .long (49 : Int64), .long (57 : Int64)] [] dX8_number_8 (c_X8_in l D a g M L c (49 : Int64) (57 : Int64)) lk_X8_80 rfl rfl (Nat.le_of_ble_eq_true rfl) (Nat.le_of_ble_eq_true rfl) (Nat.le_of_ble_eq_true rfl) (J_eq (st := [.int (jB (49 ≤ c.toInt ∧ c.toInt ≤ 57))]) rfl ?_)
  refine J_ifB_eq hX 28 dX8_number_11 (by decide) (fun h11 => ?_) (fun h11 => ?_)
  · skip
    refine J_bipush (v := (-6)) hX dX8_number_28 (by decide) ?_
    exact J_ret hX hZ dX8_number_30 rfl rfl ⟨by first | contradiction | simp [m_number, h11], by simp [m_number, h11], rfl⟩
  · skip
    refine J_aload_n hX 0 dX8_number_14 rfl ?_
    refine J_iload_n hX 1 dX8_number_15 rfl ?_
    refine J_iload_n hX 3 dX8_number_16 rfl ?_
    refine J_iload_n hX 2 dX8_number_17 rfl ?_
    refine J_bipush (v := 48) hX dX8_number_18 (by decide) ?_
    refine J_isub hX dX8_number_20 ?_
    refine J_imul hX dX8_number_21 ?_
    refine J_callV hX 77 [.int w, .int (t * (c - 48))] [] dX8_number_22 (c_X8_close l D a g M L k hk hk60 w (t * (c - 48))) lk_X8_122 jc_77 rfl rfl rfl (Nat.le_of_ble_eq_true rfl) (Nat.le_of_ble_eq_true rfl) (Nat.le_of_ble_eq_true rfl) (J_eq (st := [.int 0]) rfl ?_)
    refine J_goto hX 30 dX8_number_25 (by decide) ?_
    exact J_ret hX hZ dX8_number_30 rfl rfl ⟨by first | contradiction | simp [m_number, h11], by simp [m_number, h11], rfl⟩
set_option maxHeartbeats 4000000 in
set_option maxRecDepth 10000 in
theorem c_X8_readOn (l : Launch) (D : va_G) (a : Nat → Nat) (g : Nat → ClassId) (M : jM) (L : jL) (k : Nat) (hk : M 77 18 = nI k) (hk60 : k < 60) (d c : Int32)  : jK l D a g yX8_readOn cX8_readOn 3 (some .int) 3 66 [.ref (a 77), .int d, .int c] M L (some (.int ((m_readOn M k d c).1))) ((m_readOn M k d c).2) L := by
  refine jMeth (by decide) (Nat.le_of_ble_eq_true rfl) ?_
  intro G hX hZ
  refine J_cg (loc' := [(0, .ref (a 77)), (1, .int d), (2, .int c)]) rfl rfl rfl rfl ?_
  refine J_iload_n hX 1 dX8_readOn_0 rfl ?_
  by_cases s1_0 : d = 0
  · refine J_tableIn hX 48 dX8_readOn_1 (by rw [s1_0]; decide) (by rw [s1_0]; decide) (by rw [s1_0]; rfl) (by decide) ?_
    refine J_aload_n hX 0 dX8_readOn_48 rfl ?_
    refine J_iload_n hX 2 dX8_readOn_49 rfl ?_
    refine J_callV hX 77 [.int c] [] dX8_readOn_50 (c_X8_begin l D a g M L k hk hk60 c) lk_X8_130 jc_77 rfl rfl rfl (Nat.le_of_ble_eq_true rfl) (Nat.le_of_ble_eq_true rfl) (Nat.le_of_ble_eq_true rfl) (J_eq (st := [.int ((m_begin M k c).1)]) rfl ?_)
    exact J_ret hX hZ dX8_readOn_53 rfl rfl ⟨by first | contradiction | simp [m_readOn, s1_0], by simp [m_readOn, s1_0], rfl⟩
  by_cases s1_1 : d = 1
  · refine J_tableIn hX 54 dX8_readOn_1 (by rw [s1_1]; decide) (by rw [s1_1]; decide) (by rw [s1_1]; rfl) (by decide) ?_
    refine J_iload_n hX 2 dX8_readOn_54 rfl ?_
    refine J_callS hX [.int c] [] dX8_readOn_55 (c_X8_deed l D a g M L c) lk_X8_134 rfl rfl (Nat.le_of_ble_eq_true rfl) (Nat.le_of_ble_eq_true rfl) (Nat.le_of_ble_eq_true rfl) (J_eq (st := [.int (m_deed c)]) rfl ?_)
    exact J_ret hX hZ dX8_readOn_58 rfl rfl ⟨by first | contradiction | simp [m_readOn, s1_0, s1_1], by simp [m_readOn, s1_0, s1_1], rfl⟩
  by_cases s1_2 : d = 2
  · refine J_tableIn hX 59 dX8_readOn_1 (by rw [s1_2]; decide) (by rw [s1_2]; decide) (by rw [s1_2]; rfl) (by decide) ?_
    refine J_aload_n hX 0 dX8_readOn_59 rfl ?_
    refine J_iconst (v := 0) hX dX8_readOn_60 (by decide) ?_
    refine J_iload_n hX 2 dX8_readOn_61 rfl ?_
    refine J_bipush (v := 100) hX dX8_readOn_62 (by decide) ?_
    refine J_callV hX 77 [.int 0, .int c, .int 100] [] dX8_readOn_64 (c_X8_number l D a g M L k hk hk60 0 c 100) lk_X8_137 jc_77 rfl rfl rfl (Nat.le_of_ble_eq_true rfl) (Nat.le_of_ble_eq_true rfl) (Nat.le_of_ble_eq_true rfl) (J_eq (st := [.int ((m_number M k 0 c 100).1)]) rfl ?_)
    exact J_ret hX hZ dX8_readOn_67 rfl rfl ⟨by first | contradiction | simp [m_readOn, s1_0, s1_1, s1_2], by simp [m_readOn, s1_0, s1_1, s1_2], rfl⟩
  by_cases s1_3 : d = 3
  · refine J_tableIn hX 68 dX8_readOn_1 (by rw [s1_3]; decide) (by rw [s1_3]; decide) (by rw [s1_3]; rfl) (by decide) ?_
    refine J_aload_n hX 0 dX8_readOn_68 rfl ?_
    refine J_iload_n hX 2 dX8_readOn_69 rfl ?_
    refine J_callV hX 77 [.int c] [] dX8_readOn_70 (c_X8_forWhom l D a g M L k hk hk60 c) lk_X8_141 jc_77 rfl rfl rfl (Nat.le_of_ble_eq_true rfl) (Nat.le_of_ble_eq_true rfl) (Nat.le_of_ble_eq_true rfl) (J_eq (st := [.int ((m_forWhom M k c).1)]) rfl ?_)
    exact J_ret hX hZ dX8_readOn_73 rfl rfl ⟨by first | contradiction | simp [m_readOn, s1_0, s1_1, s1_2, s1_3], by simp [m_readOn, s1_0, s1_1, s1_2, s1_3], rfl⟩
  by_cases s1_4 : d = 4
  · refine J_tableIn hX 74 dX8_readOn_1 (by rw [s1_4]; decide) (by rw [s1_4]; decide) (by rw [s1_4]; rfl) (by decide) ?_
    refine J_aload_n hX 0 dX8_readOn_74 rfl ?_
    refine J_iconst (v := 1) hX dX8_readOn_75 (by decide) ?_
    refine J_iload_n hX 2 dX8_readOn_76 rfl ?_
    refine J_bipush (v := 100) hX dX8_readOn_77 (by decide) ?_
    refine J_callV hX 77 [.int 1, .int c, .int 100] [] dX8_readOn_79 (c_X8_number l D a g M L k hk hk60 1 c 100) lk_X8_137 jc_77 rfl rfl rfl (Nat.le_of_ble_eq_true rfl) (Nat.le_of_ble_eq_true rfl) (Nat.le_of_ble_eq_true rfl) (J_eq (st := [.int ((m_number M k 1 c 100).1)]) rfl ?_)
    exact J_ret hX hZ dX8_readOn_82 rfl rfl ⟨by first | contradiction | simp [m_readOn, s1_0, s1_1, s1_2, s1_3, s1_4], by simp [m_readOn, s1_0, s1_1, s1_2, s1_3, s1_4], rfl⟩
  by_cases s1_5 : d = 5
  · refine J_tableIn hX 83 dX8_readOn_1 (by rw [s1_5]; decide) (by rw [s1_5]; decide) (by rw [s1_5]; rfl) (by decide) ?_
    refine J_iload_n hX 2 dX8_readOn_83 rfl ?_
    refine J_i2l hX dX8_readOn_84 ?_
    refine J_ldc2 hX dX8_readOn_85 wm_10_12 ?_
    refine J_ldc2 hX dX8_readOn_88 wm_10_13 ?_
    refine J_callS hX [.long (Int32.toInt64 c), .long (48 : Int64), .long (55 : Int64)] [] dX8_readOn_91 (c_X8_in l D a g M L c (48 : Int64) (55 : Int64)) lk_X8_80 rfl rfl (Nat.le_of_ble_eq_true rfl) (Nat.le_of_ble_eq_true rfl) (Nat.le_of_ble_eq_true rfl) (J_eq (st := [.int (jB (48 ≤ c.toInt ∧ c.toInt ≤ 55))]) rfl ?_)
    refine J_ifB_eq hX 109 dX8_readOn_94 (by decide) (fun h94 => ?_) (fun h94 => ?_)
    · skip
      refine J_bipush (v := (-6)) hX dX8_readOn_109 (by decide) ?_
      exact J_ret hX hZ dX8_readOn_111 rfl rfl ⟨by first | contradiction | simp [m_readOn, s1_0, s1_1, s1_2, s1_3, s1_4, s1_5, h94], by simp [m_readOn, s1_0, s1_1, s1_2, s1_3, s1_4, s1_5, h94], rfl⟩
    · skip
      refine J_aload_n hX 0 dX8_readOn_97 rfl ?_
      refine J_iconst (v := 2) hX dX8_readOn_98 (by decide) ?_
      refine J_iload_n hX 2 dX8_readOn_99 rfl ?_
      refine J_bipush (v := 48) hX dX8_readOn_100 (by decide) ?_
      refine J_isub hX dX8_readOn_102 ?_
      refine J_callV hX 77 [.int 2, .int (c - 48)] [] dX8_readOn_103 (c_X8_close l D a g M L k hk hk60 2 (c - 48)) lk_X8_122 jc_77 rfl rfl rfl (Nat.le_of_ble_eq_true rfl) (Nat.le_of_ble_eq_true rfl) (Nat.le_of_ble_eq_true rfl) (J_eq (st := [.int 0]) rfl ?_)
      refine J_goto hX 111 dX8_readOn_106 (by decide) ?_
      exact J_ret hX hZ dX8_readOn_111 rfl rfl ⟨by first | contradiction | simp [m_readOn, s1_0, s1_1, s1_2, s1_3, s1_4, s1_5, h94], by simp [m_readOn, s1_0, s1_1, s1_2, s1_3, s1_4, s1_5, h94], rfl⟩
  by_cases s1_6 : d = 6
  · refine J_tableIn hX 112 dX8_readOn_1 (by rw [s1_6]; decide) (by rw [s1_6]; decide) (by rw [s1_6]; rfl) (by decide) ?_
    refine J_aload_n hX 0 dX8_readOn_112 rfl ?_
    refine J_iconst (v := 3) hX dX8_readOn_113 (by decide) ?_
    refine J_iload_n hX 2 dX8_readOn_114 rfl ?_
    refine J_bipush (v := 10) hX dX8_readOn_115 (by decide) ?_
    refine J_callV hX 77 [.int 3, .int c, .int 10] [] dX8_readOn_117 (c_X8_number l D a g M L k hk hk60 3 c 10) lk_X8_137 jc_77 rfl rfl rfl (Nat.le_of_ble_eq_true rfl) (Nat.le_of_ble_eq_true rfl) (Nat.le_of_ble_eq_true rfl) (J_eq (st := [.int ((m_number M k 3 c 10).1)]) rfl ?_)
    exact J_ret hX hZ dX8_readOn_120 rfl rfl ⟨by first | contradiction | simp [m_readOn, s1_0, s1_1, s1_2, s1_3, s1_4, s1_5, s1_6], by simp [m_readOn, s1_0, s1_1, s1_2, s1_3, s1_4, s1_5, s1_6], rfl⟩
  by_cases s1_7 : d = 7
  · refine J_tableIn hX 121 dX8_readOn_1 (by rw [s1_7]; decide) (by rw [s1_7]; decide) (by rw [s1_7]; rfl) (by decide) ?_
    refine J_iload_n hX 2 dX8_readOn_121 rfl ?_
    refine J_callS hX [.int c] [] dX8_readOn_122 (c_X8_isLetter l D a g M L c) lk_X8_119 rfl rfl (Nat.le_of_ble_eq_true rfl) (Nat.le_of_ble_eq_true rfl) (Nat.le_of_ble_eq_true rfl) (J_eq (st := [.int (jB (65 ≤ c.toInt ∧ c.toInt ≤ 70))]) rfl ?_)
    refine J_ifB_eq hX 140 dX8_readOn_125 (by decide) (fun h125 => ?_) (fun h125 => ?_)
    · skip
      refine J_bipush (v := (-6)) hX dX8_readOn_140 (by decide) ?_
      exact J_ret hX hZ dX8_readOn_142 rfl rfl ⟨by first | contradiction | simp [m_readOn, s1_0, s1_1, s1_2, s1_3, s1_4, s1_5, s1_6, s1_7, h125], by simp [m_readOn, s1_0, s1_1, s1_2, s1_3, s1_4, s1_5, s1_6, s1_7, h125], rfl⟩
    · skip
      refine J_aload_n hX 0 dX8_readOn_128 rfl ?_
      refine J_iconst (v := 4) hX dX8_readOn_129 (by decide) ?_
      refine J_iload_n hX 2 dX8_readOn_130 rfl ?_
      refine J_bipush (v := 65) hX dX8_readOn_131 (by decide) ?_
      refine J_isub hX dX8_readOn_133 ?_
      refine J_callV hX 77 [.int 4, .int (c - 65)] [] dX8_readOn_134 (c_X8_close l D a g M L k hk hk60 4 (c - 65)) lk_X8_122 jc_77 rfl rfl rfl (Nat.le_of_ble_eq_true rfl) (Nat.le_of_ble_eq_true rfl) (Nat.le_of_ble_eq_true rfl) (J_eq (st := [.int 0]) rfl ?_)
      refine J_goto hX 142 dX8_readOn_137 (by decide) ?_
      exact J_ret hX hZ dX8_readOn_142 rfl rfl ⟨by first | contradiction | simp [m_readOn, s1_0, s1_1, s1_2, s1_3, s1_4, s1_5, s1_6, s1_7, h125], by simp [m_readOn, s1_0, s1_1, s1_2, s1_3, s1_4, s1_5, s1_6, s1_7, h125], rfl⟩
  have t1_0 := lv_neT s1_0 (show (0 : Int32).toInt = 0 from rfl)
  have t1_1 := lv_neT s1_1 (show (1 : Int32).toInt = 1 from rfl)
  have t1_2 := lv_neT s1_2 (show (2 : Int32).toInt = 2 from rfl)
  have t1_3 := lv_neT s1_3 (show (3 : Int32).toInt = 3 from rfl)
  have t1_4 := lv_neT s1_4 (show (4 : Int32).toInt = 4 from rfl)
  have t1_5 := lv_neT s1_5 (show (5 : Int32).toInt = 5 from rfl)
  have t1_6 := lv_neT s1_6 (show (6 : Int32).toInt = 6 from rfl)
  have t1_7 := lv_neT s1_7 (show (7 : Int32).toInt = 7 from rfl)
  refine J_tableOut hX 143 dX8_readOn_1 (by omega) (by decide) ?_
  refine J_aload_n hX 0 dX8_readOn_143 rfl ?_
  refine J_iconst (v := 5) hX dX8_readOn_144 (by decide) ?_
  refine J_iload_n hX 2 dX8_readOn_145 rfl ?_
  refine J_bipush (v := 100) hX dX8_readOn_146 (by decide) ?_
  refine J_callV hX 77 [.int 5, .int c, .int 100] [] dX8_readOn_148 (c_X8_number l D a g M L k hk hk60 5 c 100) lk_X8_137 jc_77 rfl rfl rfl (Nat.le_of_ble_eq_true rfl) (Nat.le_of_ble_eq_true rfl) (Nat.le_of_ble_eq_true rfl) (J_eq (st := [.int ((m_number M k 5 c 100).1)]) rfl ?_)
  exact J_ret hX hZ dX8_readOn_151 rfl rfl ⟨by first | contradiction | simp [m_readOn, s1_0, s1_1, s1_2, s1_3, s1_4, s1_5, s1_6, s1_7], by simp [m_readOn, s1_0, s1_1, s1_2, s1_3, s1_4, s1_5, s1_6, s1_7], rfl⟩
