def m_addS (M : jM) (s : Nat) (c m h : Int32) : jM := jU (jU (jU (jU M 83 s c) 84 s m) 85 s h) 77 12 (nI (s + 1))
def m_seen (M : jM) (s : Nat) (c m h : Int32) : Int32 × jM := if (0 ≤ c.toInt ∧ c.toInt ≤ 255) then (if (0 ≤ m.toInt ∧ m.toInt ≤ 8) then (if (0 ≤ h.toInt ∧ h.toInt ≤ 1) then (if s = 8 then (-4, M) else (nI (s + 1), m_addS M s c m h)) else (-2, M)) else (-2, M)) else (-2, M)
set_option maxHeartbeats 4000000 in
set_option maxRecDepth 10000 in
theorem c_X8_seen (l : Launch) (D : va_G) (a : Nat → Nat) (g : Nat → ClassId) (M : jM) (L : jL) (s : Nat) (hs : M 77 12 = nI s) (hs8 : s ≤ 8) (c m h : Int32)  : jK l D a g yX8_seen cX8_seen 4 (some .int) 1 25 [.ref (a 77), .int c, .int m, .int h] M L (some (.int ((m_seen M s c m h).1))) ((m_seen M s c m h).2) L := by
  refine jMeth (by decide) (Nat.le_of_ble_eq_true rfl) ?_
  intro G hX hZ
  refine J_cg (loc' := [(0, .ref (a 77)), (1, .int c), (2, .int m), (3, .int h)]) rfl rfl rfl rfl ?_
  refine J_iload_n hX 1 dX8_seen_0 rfl ?_
  refine J_i2l hX dX8_seen_1 ?_
  refine J_lconst (v := 0) hX dX8_seen_2 (by decide) ?_
  refine J_ldc2 hX dX8_seen_3 wm_28_6 ?_
  refine J_callS hX [.long (Int32.toInt64 c), .long (0 : Int64), .long (255 : Int64)] [] dX8_seen_6 (c_X8_in l D a g M L c (0 : Int64) (255 : Int64)) lk_X8_80 rfl rfl (Nat.le_of_ble_eq_true rfl) (Nat.le_of_ble_eq_true rfl) (Nat.le_of_ble_eq_true rfl) (J_eq (st := [.int (jB (0 ≤ c.toInt ∧ c.toInt ≤ 255))]) rfl ?_)
  refine J_ifB_eq hX 34 dX8_seen_9 (by decide) (fun h9 => ?_) (fun h9 => ?_)
  · skip
    refine J_bipush (v := (-2)) hX dX8_seen_34 (by decide) ?_
    exact J_ret hX hZ dX8_seen_36 rfl rfl ⟨by first | contradiction | simp [m_seen, h9], by simp [m_seen, h9], rfl⟩
  · skip
    refine J_iload_n hX 2 dX8_seen_12 rfl ?_
    refine J_i2l hX dX8_seen_13 ?_
    refine J_lconst (v := 0) hX dX8_seen_14 (by decide) ?_
    refine J_ldc2 hX dX8_seen_15 wm_25_19 ?_
    refine J_callS hX [.long (Int32.toInt64 m), .long (0 : Int64), .long (8 : Int64)] [] dX8_seen_18 (c_X8_in l D a g M L m (0 : Int64) (8 : Int64)) lk_X8_80 rfl rfl (Nat.le_of_ble_eq_true rfl) (Nat.le_of_ble_eq_true rfl) (Nat.le_of_ble_eq_true rfl) (J_eq (st := [.int (jB (0 ≤ m.toInt ∧ m.toInt ≤ 8))]) rfl ?_)
    refine J_ifB_eq hX 34 dX8_seen_21 (by decide) (fun h21 => ?_) (fun h21 => ?_)
    · skip
      refine J_bipush (v := (-2)) hX dX8_seen_34 (by decide) ?_
      exact J_ret hX hZ dX8_seen_36 rfl rfl ⟨by first | contradiction | simp [m_seen, h9, h21], by simp [m_seen, h9, h21], rfl⟩
    · skip
      refine J_iload_n hX 3 dX8_seen_24 rfl ?_
      refine J_i2l hX dX8_seen_25 ?_
      refine J_lconst (v := 0) hX dX8_seen_26 (by decide) ?_
      refine J_lconst (v := 1) hX dX8_seen_27 (by decide) ?_
      refine J_callS hX [.long (Int32.toInt64 h), .long (0 : Int64), .long (1 : Int64)] [] dX8_seen_28 (c_X8_in l D a g M L h (0 : Int64) (1 : Int64)) lk_X8_80 rfl rfl (Nat.le_of_ble_eq_true rfl) (Nat.le_of_ble_eq_true rfl) (Nat.le_of_ble_eq_true rfl) (J_eq (st := [.int (jB (0 ≤ h.toInt ∧ h.toInt ≤ 1))]) rfl ?_)
      refine J_ifB_ne hX 37 dX8_seen_31 (by decide) (fun h31 => ?_) (fun h31 => ?_)
      · skip
        refine J_aload_n hX 0 dX8_seen_37 rfl ?_
        refine J_geti hX 77 12 dX8_seen_38 jc_77 rfl rfl (by decide) inlX8 wm_28_7 ?_
        refine J_bipush (v := 8) hX dX8_seen_41 (by decide) ?_
        refine J_cmpN_ne hX 49 s 8 dX8_seen_43 (by decide) hs rfl (by omega) (by omega) (fun h43 => ?_) (fun h43 => ?_)
        · skip
          refine J_aload_n hX 0 dX8_seen_49 rfl ?_
          refine J_getr hX 77 9 dX8_seen_50 jc_77 rfl rfl (by decide) inlX8 wm_5_0 ?_
          refine J_aload_n hX 0 dX8_seen_53 rfl ?_
          refine J_geti hX 77 12 dX8_seen_54 jc_77 rfl rfl (by decide) inlX8 wm_28_7 ?_
          refine J_iload_n hX 1 dX8_seen_57 rfl ?_
          refine J_iast hX 83 s dX8_seen_58 jc_83 hs (by omega) (by omega) ?_
          refine J_aload_n hX 0 dX8_seen_59 rfl ?_
          refine J_getr hX 77 10 dX8_seen_60 jc_77 rfl rfl (by decide) inlX8 wm_5_1 ?_
          refine J_aload_n hX 0 dX8_seen_63 rfl ?_
          refine J_geti hX 77 12 dX8_seen_64 jc_77 rfl rfl (by decide) inlX8 wm_28_7 ?_
          refine J_iload_n hX 2 dX8_seen_67 rfl ?_
          refine J_iast hX 84 s dX8_seen_68 jc_84 (by simpa [jU] using hs) (by omega) (by omega) ?_
          refine J_aload_n hX 0 dX8_seen_69 rfl ?_
          refine J_getr hX 77 11 dX8_seen_70 jc_77 rfl rfl (by decide) inlX8 wm_5_2 ?_
          refine J_aload_n hX 0 dX8_seen_73 rfl ?_
          refine J_geti hX 77 12 dX8_seen_74 jc_77 rfl rfl (by decide) inlX8 wm_28_7 ?_
          refine J_iload_n hX 3 dX8_seen_77 rfl ?_
          refine J_iast hX 85 s dX8_seen_78 jc_85 (by simpa [jU] using hs) (by omega) (by omega) ?_
          refine J_aload_n hX 0 dX8_seen_79 rfl ?_
          refine J_dup hX dX8_seen_80 rfl ?_
          refine J_geti hX 77 12 dX8_seen_81 jc_77 rfl rfl (by decide) inlX8 wm_28_7 ?_
          refine J_topi (y := nI s) (by simpa [jU] using hs) ?_
          refine J_iconst (v := 1) hX dX8_seen_84 (by decide) ?_
          refine J_iadd hX dX8_seen_85 ?_
          refine J_topi (y := nI (s + 1)) (nI_1 s) ?_
          refine J_puti (ty := .int) hX 77 12 dX8_seen_86 jc_77 rfl rfl (by decide) inlX8 wm_28_7 tyX8 tyX8_ok nmX8 rfl (by decide +kernel) rfl rfl ?_
          refine J_cg (M' := m_addS M s c m h) rfl rfl rfl rfl ?_
          refine J_aload_n hX 0 dX8_seen_89 rfl ?_
          refine J_geti hX 77 12 dX8_seen_90 jc_77 rfl rfl (by decide) inlX8 wm_28_7 ?_
          refine J_topi (y := nI (s + 1)) (by rw [m_addS, jU_same]) ?_
          exact J_ret hX hZ dX8_seen_93 rfl rfl ⟨by first | contradiction | simp [m_seen, h9, h21, h31, h43], by simp [m_seen, h9, h21, h31, h43], rfl⟩
        · skip
          refine J_bipush (v := (-4)) hX dX8_seen_46 (by decide) ?_
          exact J_ret hX hZ dX8_seen_48 rfl rfl ⟨by first | contradiction | simp [m_seen, h9, h21, h31, h43], by simp [m_seen, h9, h21, h31, h43], rfl⟩
      · skip
        refine J_bipush (v := (-2)) hX dX8_seen_34 (by decide) ?_
        exact J_ret hX hZ dX8_seen_36 rfl rfl ⟨by first | contradiction | simp [m_seen, h9, h21, h31], by simp [m_seen, h9, h21, h31], rfl⟩
def m_forget (M : jM) : Int32 × jM := (M 77 12, jU M 77 12 0)
set_option maxHeartbeats 4000000 in
set_option maxRecDepth 10000 in
theorem c_X8_forget (l : Launch) (D : va_G) (a : Nat → Nat) (g : Nat → ClassId) (M : jM) (L : jL)   : jK l D a g yX8_forget cX8_forget 2 (some .int) 0 0 [.ref (a 77)] M L (some (.int ((m_forget M).1))) ((m_forget M).2) L := by
  refine jMeth (by decide) (Nat.le_of_ble_eq_true rfl) ?_
  intro G hX hZ
  refine J_cg (loc' := [(0, .ref (a 77))]) rfl rfl rfl rfl ?_
  refine J_aload_n hX 0 dX8_forget_0 rfl ?_
  refine J_geti hX 77 12 dX8_forget_1 jc_77 rfl rfl (by decide) inlX8 wm_28_7 ?_
  refine J_istore_n (loc' := [(1, .int (M 77 12)), (0, .ref (a 77))]) hX dX8_forget_4 (by decide) rfl ?_
  refine J_aload_n hX 1 dX8_forget_5 rfl ?_
  refine J_iconst (v := 0) hX dX8_forget_6 (by decide) ?_
  refine J_puti (ty := .int) hX 77 12 dX8_forget_7 jc_77 rfl rfl (by decide) inlX8 wm_28_7 tyX8 tyX8_ok nmX8 rfl (by decide +kernel) rfl rfl ?_
  refine J_iload_n hX 0 dX8_forget_10 rfl ?_
  exact J_ret hX hZ dX8_forget_11 rfl rfl ⟨rfl, rfl, rfl⟩
theorem m_and_le {x y : Int32} (h : 0 ≤ x.toInt ∧ x.toInt ≤ 255) : 0 ≤ (x &&& y).toInt ∧ (x &&& y).toInt ≤ 255 := by
  have ix := jix h
  have lx := jixl h
  have e : x &&& y = nI (x.toNatClampNeg &&& y.toBitVec.toNat) := by
    have q : nI x.toNatClampNeg &&& nI y.toBitVec.toNat = nI (x.toNatClampNeg &&& y.toBitVec.toNat) := j_and _ _
    rw [← ix] at q
    rw [← q]
    congr 1
    apply Int32.toBitVec_inj.mp
    show y.toBitVec = BitVec.ofNat 32 y.toBitVec.toNat
    rw [BitVec.ofNat_toNat, BitVec.setWidth_eq]
  have l2 : x.toNatClampNeg &&& y.toBitVec.toNat ≤ x.toNatClampNeg := Nat.and_le_left
  rw [e, nI_toInt (by omega)]
  omega
def m_tr (M : jM) (t i : Nat) : Int32 := m_bc (M 83 i &&& (nI t ^^^ (-1)))
def m_fit1 (M : jM) (t i : Nat) : Bool := decide (if M 85 i = 0 then m_tr M t i = M 84 i else M 84 i ≤ m_tr M t i)
def m_fitN (M : jM) (t : Nat) (d : Int32) : Nat → Bool
  | 0 => decide (m_bc (nI t) ≤ d)
  | i + 1 => m_fitN M t d i && m_fit1 M t i
def m_fit (M : jM) (s t : Nat) (d : Int32) : Bool := m_fitN M t d s
set_option maxHeartbeats 4000000 in
set_option maxRecDepth 10000 in
theorem c_X8_fits (l : Launch) (D : va_G) (a : Nat → Nat) (g : Nat → ClassId) (M : jM) (L : jL) (s : Nat) (hs : M 77 12 = nI s) (hs8 : s ≤ 8) (hS : ∀ i, i < 8 → 0 ≤ (M 83 i).toInt ∧ (M 83 i).toInt ≤ 255) (d : Int32) (t : Nat) (ht : t < 256)  : jK l D a g yX8_fits cX8_fits 6 (some .boolean) 1 22 [.ref (a 77), .int d, .int (nI t)] M L (some (.int (jB (m_fit M s t d = true)))) M L := by
  refine jMeth (by decide) (Nat.le_of_ble_eq_true rfl) ?_
  intro G hX hZ
  refine J_cg (loc' := [(0, .ref (a 77)), (1, .int d), (2, .int (nI t))]) rfl rfl rfl rfl ?_
  refine J_iload_n hX 2 dX8_fits_0 rfl ?_
  refine J_callS hX [.int (nI t)] [] dX8_fits_1 (c_X8_bitsOf l D a g M L (nI t) (by rw [nI_toInt (by omega)]; omega)) lk_X8_279 rfl rfl (Nat.le_of_ble_eq_true rfl) (Nat.le_of_ble_eq_true rfl) (Nat.le_of_ble_eq_true rfl) (J_eq (st := [.int (m_bc (nI t))]) rfl ?_)
  refine J_iload_n hX 1 dX8_fits_4 rfl ?_
  refine J_icmp_gt hX 12 dX8_fits_5 (by decide) (fun h5 => ?_) (fun h5 => ?_)
  · skip
    refine J_iconst (v := 0) hX dX8_fits_12 (by decide) ?_
    refine J_topi (y := jB (m_fitN M t d 0 = true)) (by rw [jB_f (by rw [m_fitN, decide_eq_true_eq]; exact Int32.not_le.mpr h5)]) ?_
    refine J_istore_n (loc' := [(3, .int (jB (m_fitN M t d 0 = true))), (0, .ref (a 77)), (1, .int d), (2, .int (nI t))]) hX dX8_fits_13 (by decide) rfl ?_
    refine J_iconst (v := 0) hX dX8_fits_14 (by decide) ?_
    refine J_istore (loc' := [(4, .int 0), (3, .int (jB (m_fitN M t d 0 = true))), (0, .ref (a 77)), (1, .int d), (2, .int (nI t))]) hX dX8_fits_15 (by decide) rfl ?_
    have key17 : ∀ (fu17 : Nat) (i : Nat), s - i < fu17 → (i ≤ s) → J l D a g G 6 M L 17 [(0, .ref (a 77)), (1, .int d), (2, .int (nI t)), (3, .int (jB (m_fitN M t d i = true))), (4, .int (nI i))] [] := by
      intro fu17
      induction fu17 with
      | zero => intro i hmu; exact absurd hmu (Nat.not_lt_zero _)
      | succ fu17 ih17 =>
        intro i hmu17 hi
        refine J_iload hX 4 dX8_fits_17 rfl ?_
        refine J_aload_n hX 0 dX8_fits_19 rfl ?_
        refine J_geti hX 77 12 dX8_fits_20 jc_77 rfl rfl (by decide) inlX8 wm_28_7 ?_
        refine J_topi (y := nI s) hs ?_
        refine J_cmpN_ge hX 95 i s dX8_fits_23 (by decide) rfl rfl (by omega) (by omega) (fun h23 => ?_) (fun h23 => ?_)
        · skip
          refine J_iload_n hX 3 dX8_fits_95 rfl ?_
          exact J_ret hX hZ dX8_fits_96 rfl (jB_nar _) ⟨by rw [m_fit, ← show i = s by omega], rfl, rfl⟩
        · skip
          refine J_aload_n hX 0 dX8_fits_26 rfl ?_
          refine J_getr hX 77 9 dX8_fits_27 jc_77 rfl rfl (by decide) inlX8 wm_5_0 ?_
          refine J_iload hX 4 dX8_fits_30 rfl ?_
          refine J_iald hX 83 i dX8_fits_32 jc_83 rfl (by omega) (by omega) ?_
          refine J_iload_n hX 2 dX8_fits_33 rfl ?_
          refine J_iconst (v := (-1)) hX dX8_fits_34 (by decide) ?_
          refine J_ixor hX dX8_fits_35 ?_
          refine J_iand hX dX8_fits_36 ?_
          refine J_callS hX [.int ((M 83 i) &&& ((nI t) ^^^ (-1)))] [] dX8_fits_37 (c_X8_bitsOf l D a g M L ((M 83 i) &&& ((nI t) ^^^ (-1))) (m_and_le (hS i (by omega)))) lk_X8_279 rfl rfl (Nat.le_of_ble_eq_true rfl) (Nat.le_of_ble_eq_true rfl) (Nat.le_of_ble_eq_true rfl) (J_eq (st := [.int (m_bc ((M 83 i) &&& ((nI t) ^^^ (-1))))]) rfl ?_)
          refine J_topi (y := m_tr M t i) rfl ?_
          refine J_istore (loc' := [(5, .int (m_tr M t i)), (0, .ref (a 77)), (1, .int d), (2, .int (nI t)), (3, .int (jB (m_fitN M t d i = true))), (4, .int (nI i))]) hX dX8_fits_40 (by decide) rfl ?_
          refine J_iload_n hX 4 dX8_fits_42 rfl ?_
          refine J_ifB_eq hX 87 dX8_fits_43 (by decide) (fun h43 => ?_) (fun h43 => ?_)
          · skip
            refine J_iconst (v := 0) hX dX8_fits_87 (by decide) ?_
            refine J_topi (y := jB (m_fitN M t d (i + 1) = true)) (by rw [jB_f (by rw [m_fitN, Bool.eq_false_iff.mpr h43, Bool.false_and]; decide)]) ?_
            refine J_istore_n (loc' := [(3, .int (jB (m_fitN M t d (i + 1) = true))), (5, .int (m_tr M t i)), (0, .ref (a 77)), (1, .int d), (2, .int (nI t)), (4, .int (nI i))]) hX dX8_fits_88 (by decide) rfl ?_
            refine J_iinc (v := nI (i + 1)) (loc' := [(4, .int (nI (i + 1))), (3, .int (jB (m_fitN M t d (i + 1) = true))), (5, .int (m_tr M t i)), (0, .ref (a 77)), (1, .int d), (2, .int (nI t))]) hX 5 dX8_fits_89 rfl (jinc i) (by decide) rfl ?_
            refine J_goto hX 17 dX8_fits_92 (by decide) ?_
            refine J_sub (loc' := [(0, .ref (a 77)), (1, .int d), (2, .int (nI t)), (3, .int (jB (m_fitN M t d (i + 1) = true))), (4, .int (nI (i + 1)))]) [3, 4, 5, 1, 0] rfl ?_
            exact ih17  (i + 1) (by omega) (by omega)
          · skip
            refine J_aload_n hX 1 dX8_fits_46 rfl ?_
            refine J_getr hX 77 11 dX8_fits_47 jc_77 rfl rfl (by decide) inlX8 wm_5_2 ?_
            refine J_iload hX 5 dX8_fits_50 rfl ?_
            refine J_iald hX 85 i dX8_fits_52 jc_85 rfl (by omega) (by omega) ?_
            refine J_if_ne hX 71 dX8_fits_53 (by decide) (fun h53 => ?_) (fun h53 => ?_)
            · skip
              refine J_iload hX 0 dX8_fits_71 rfl ?_
              refine J_aload_n hX 1 dX8_fits_73 rfl ?_
              refine J_getr hX 77 10 dX8_fits_74 jc_77 rfl rfl (by decide) inlX8 wm_5_1 ?_
              refine J_iload hX 5 dX8_fits_77 rfl ?_
              refine J_iald hX 84 i dX8_fits_79 jc_84 rfl (by omega) (by omega) ?_
              refine J_icmp_lt hX 87 dX8_fits_80 (by decide) (fun h80 => ?_) (fun h80 => ?_)
              · skip
                refine J_iconst (v := 0) hX dX8_fits_87 (by decide) ?_
                refine J_topi (y := jB (m_fitN M t d (i + 1) = true)) (by rw [jB_f (by rw [m_fitN, h43, Bool.true_and, m_fit1, decide_eq_true_eq]; (first | rw [if_pos h53] | rw [if_neg h53] | rw [if_pos (Classical.not_not.mp h53)]); first | exact h80 | exact Int32.not_le.mpr h80)]) ?_
                refine J_istore_n (loc' := [(3, .int (jB (m_fitN M t d (i + 1) = true))), (5, .int (m_tr M t i)), (0, .ref (a 77)), (1, .int d), (2, .int (nI t)), (4, .int (nI i))]) hX dX8_fits_88 (by decide) rfl ?_
                refine J_iinc (v := nI (i + 1)) (loc' := [(4, .int (nI (i + 1))), (3, .int (jB (m_fitN M t d (i + 1) = true))), (5, .int (m_tr M t i)), (0, .ref (a 77)), (1, .int d), (2, .int (nI t))]) hX 5 dX8_fits_89 rfl (jinc i) (by decide) rfl ?_
                refine J_goto hX 17 dX8_fits_92 (by decide) ?_
                refine J_sub (loc' := [(0, .ref (a 77)), (1, .int d), (2, .int (nI t)), (3, .int (jB (m_fitN M t d (i + 1) = true))), (4, .int (nI (i + 1)))]) [3, 4, 5, 1, 0] rfl ?_
                exact ih17  (i + 1) (by omega) (by omega)
              · skip
                refine J_iconst (v := 1) hX dX8_fits_83 (by decide) ?_
                refine J_goto hX 88 dX8_fits_84 (by decide) ?_
                refine J_topi (y := jB (m_fitN M t d (i + 1) = true)) (by rw [jB_t (by rw [m_fitN, h43, Bool.true_and, m_fit1]; apply decide_eq_true; (first | rw [if_pos h53] | rw [if_neg h53] | rw [if_pos (Classical.not_not.mp h53)]); first | exact h80 | exact Classical.not_not.mp h80 | exact Int32.not_lt.mp h80)]) ?_
                refine J_istore_n (loc' := [(3, .int (jB (m_fitN M t d (i + 1) = true))), (5, .int (m_tr M t i)), (0, .ref (a 77)), (1, .int d), (2, .int (nI t)), (4, .int (nI i))]) hX dX8_fits_88 (by decide) rfl ?_
                refine J_iinc (v := nI (i + 1)) (loc' := [(4, .int (nI (i + 1))), (3, .int (jB (m_fitN M t d (i + 1) = true))), (5, .int (m_tr M t i)), (0, .ref (a 77)), (1, .int d), (2, .int (nI t))]) hX 5 dX8_fits_89 rfl (jinc i) (by decide) rfl ?_
                refine J_goto hX 17 dX8_fits_92 (by decide) ?_
                refine J_sub (loc' := [(0, .ref (a 77)), (1, .int d), (2, .int (nI t)), (3, .int (jB (m_fitN M t d (i + 1) = true))), (4, .int (nI (i + 1)))]) [3, 4, 5, 1, 0] rfl ?_
                exact ih17  (i + 1) (by omega) (by omega)
            · skip
              refine J_iload hX 0 dX8_fits_56 rfl ?_
              refine J_aload_n hX 1 dX8_fits_58 rfl ?_
              refine J_getr hX 77 10 dX8_fits_59 jc_77 rfl rfl (by decide) inlX8 wm_5_1 ?_
              refine J_iload hX 5 dX8_fits_62 rfl ?_
              refine J_iald hX 84 i dX8_fits_64 jc_84 rfl (by omega) (by omega) ?_
              refine J_icmp_ne hX 87 dX8_fits_65 (by decide) (fun h65 => ?_) (fun h65 => ?_)
              · skip
                refine J_iconst (v := 0) hX dX8_fits_87 (by decide) ?_
                refine J_topi (y := jB (m_fitN M t d (i + 1) = true)) (by rw [jB_f (by rw [m_fitN, h43, Bool.true_and, m_fit1, decide_eq_true_eq]; (first | rw [if_pos h53] | rw [if_neg h53] | rw [if_pos (Classical.not_not.mp h53)]); first | exact h65 | exact Int32.not_le.mpr h65)]) ?_
                refine J_istore_n (loc' := [(3, .int (jB (m_fitN M t d (i + 1) = true))), (5, .int (m_tr M t i)), (0, .ref (a 77)), (1, .int d), (2, .int (nI t)), (4, .int (nI i))]) hX dX8_fits_88 (by decide) rfl ?_
                refine J_iinc (v := nI (i + 1)) (loc' := [(4, .int (nI (i + 1))), (3, .int (jB (m_fitN M t d (i + 1) = true))), (5, .int (m_tr M t i)), (0, .ref (a 77)), (1, .int d), (2, .int (nI t))]) hX 5 dX8_fits_89 rfl (jinc i) (by decide) rfl ?_
                refine J_goto hX 17 dX8_fits_92 (by decide) ?_
                refine J_sub (loc' := [(0, .ref (a 77)), (1, .int d), (2, .int (nI t)), (3, .int (jB (m_fitN M t d (i + 1) = true))), (4, .int (nI (i + 1)))]) [3, 4, 5, 1, 0] rfl ?_
                exact ih17  (i + 1) (by omega) (by omega)
              · skip
                refine J_goto hX 83 dX8_fits_68 (by decide) ?_
                refine J_iconst (v := 1) hX dX8_fits_83 (by decide) ?_
                refine J_goto hX 88 dX8_fits_84 (by decide) ?_
                refine J_topi (y := jB (m_fitN M t d (i + 1) = true)) (by rw [jB_t (by rw [m_fitN, h43, Bool.true_and, m_fit1]; apply decide_eq_true; (first | rw [if_pos h53] | rw [if_neg h53] | rw [if_pos (Classical.not_not.mp h53)]); first | exact h65 | exact Classical.not_not.mp h65 | exact Int32.not_lt.mp h65)]) ?_
                refine J_istore_n (loc' := [(3, .int (jB (m_fitN M t d (i + 1) = true))), (5, .int (m_tr M t i)), (0, .ref (a 77)), (1, .int d), (2, .int (nI t)), (4, .int (nI i))]) hX dX8_fits_88 (by decide) rfl ?_
                refine J_iinc (v := nI (i + 1)) (loc' := [(4, .int (nI (i + 1))), (3, .int (jB (m_fitN M t d (i + 1) = true))), (5, .int (m_tr M t i)), (0, .ref (a 77)), (1, .int d), (2, .int (nI t))]) hX 5 dX8_fits_89 rfl (jinc i) (by decide) rfl ?_
                refine J_goto hX 17 dX8_fits_92 (by decide) ?_
                refine J_sub (loc' := [(0, .ref (a 77)), (1, .int d), (2, .int (nI t)), (3, .int (jB (m_fitN M t d (i + 1) = true))), (4, .int (nI (i + 1)))]) [3, 4, 5, 1, 0] rfl ?_
                exact ih17  (i + 1) (by omega) (by omega)
    refine J_sub (loc' := [(0, .ref (a 77)), (1, .int d), (2, .int (nI t)), (3, .int (jB (m_fitN M t d 0 = true))), (4, .int 0)]) [2, 3, 4, 1, 0] rfl ?_
    refine J_seti (y := nI 0) (loc' := [(0, .ref (a 77)), (1, .int d), (2, .int (nI t)), (3, .int (jB (m_fitN M t d 0 = true))), (4, .int (nI 0))]) 4 rfl rfl rfl ?_
    exact key17 _ 0 (Nat.lt_succ_self _) (by omega)
  · skip
    refine J_iconst (v := 1) hX dX8_fits_8 (by decide) ?_
    refine J_goto hX 13 dX8_fits_9 (by decide) ?_
    refine J_topi (y := jB (m_fitN M t d 0 = true)) (by rw [jB_t (by rw [m_fitN]; exact decide_eq_true (Int32.not_lt.mp h5))]) ?_
    refine J_istore_n (loc' := [(3, .int (jB (m_fitN M t d 0 = true))), (0, .ref (a 77)), (1, .int d), (2, .int (nI t))]) hX dX8_fits_13 (by decide) rfl ?_
    refine J_iconst (v := 0) hX dX8_fits_14 (by decide) ?_
    refine J_istore (loc' := [(4, .int 0), (3, .int (jB (m_fitN M t d 0 = true))), (0, .ref (a 77)), (1, .int d), (2, .int (nI t))]) hX dX8_fits_15 (by decide) rfl ?_
    have key17 : ∀ (fu17 : Nat) (i : Nat), s - i < fu17 → (i ≤ s) → J l D a g G 6 M L 17 [(0, .ref (a 77)), (1, .int d), (2, .int (nI t)), (3, .int (jB (m_fitN M t d i = true))), (4, .int (nI i))] [] := by
      intro fu17
      induction fu17 with
      | zero => intro i hmu; exact absurd hmu (Nat.not_lt_zero _)
      | succ fu17 ih17 =>
        intro i hmu17 hi
        refine J_iload hX 4 dX8_fits_17 rfl ?_
        refine J_aload_n hX 0 dX8_fits_19 rfl ?_
        refine J_geti hX 77 12 dX8_fits_20 jc_77 rfl rfl (by decide) inlX8 wm_28_7 ?_
        refine J_topi (y := nI s) hs ?_
        refine J_cmpN_ge hX 95 i s dX8_fits_23 (by decide) rfl rfl (by omega) (by omega) (fun h23 => ?_) (fun h23 => ?_)
        · skip
          refine J_iload_n hX 3 dX8_fits_95 rfl ?_
          exact J_ret hX hZ dX8_fits_96 rfl (jB_nar _) ⟨by rw [m_fit, ← show i = s by omega], rfl, rfl⟩
        · skip
          refine J_aload_n hX 0 dX8_fits_26 rfl ?_
          refine J_getr hX 77 9 dX8_fits_27 jc_77 rfl rfl (by decide) inlX8 wm_5_0 ?_
          refine J_iload hX 4 dX8_fits_30 rfl ?_
          refine J_iald hX 83 i dX8_fits_32 jc_83 rfl (by omega) (by omega) ?_
          refine J_iload_n hX 2 dX8_fits_33 rfl ?_
          refine J_iconst (v := (-1)) hX dX8_fits_34 (by decide) ?_
          refine J_ixor hX dX8_fits_35 ?_
          refine J_iand hX dX8_fits_36 ?_
          refine J_callS hX [.int ((M 83 i) &&& ((nI t) ^^^ (-1)))] [] dX8_fits_37 (c_X8_bitsOf l D a g M L ((M 83 i) &&& ((nI t) ^^^ (-1))) (m_and_le (hS i (by omega)))) lk_X8_279 rfl rfl (Nat.le_of_ble_eq_true rfl) (Nat.le_of_ble_eq_true rfl) (Nat.le_of_ble_eq_true rfl) (J_eq (st := [.int (m_bc ((M 83 i) &&& ((nI t) ^^^ (-1))))]) rfl ?_)
          refine J_topi (y := m_tr M t i) rfl ?_
          refine J_istore (loc' := [(5, .int (m_tr M t i)), (0, .ref (a 77)), (1, .int d), (2, .int (nI t)), (3, .int (jB (m_fitN M t d i = true))), (4, .int (nI i))]) hX dX8_fits_40 (by decide) rfl ?_
          refine J_iload_n hX 4 dX8_fits_42 rfl ?_
          refine J_ifB_eq hX 87 dX8_fits_43 (by decide) (fun h43 => ?_) (fun h43 => ?_)
          · skip
            refine J_iconst (v := 0) hX dX8_fits_87 (by decide) ?_
            refine J_topi (y := jB (m_fitN M t d (i + 1) = true)) (by rw [jB_f (by rw [m_fitN, Bool.eq_false_iff.mpr h43, Bool.false_and]; decide)]) ?_
            refine J_istore_n (loc' := [(3, .int (jB (m_fitN M t d (i + 1) = true))), (5, .int (m_tr M t i)), (0, .ref (a 77)), (1, .int d), (2, .int (nI t)), (4, .int (nI i))]) hX dX8_fits_88 (by decide) rfl ?_
            refine J_iinc (v := nI (i + 1)) (loc' := [(4, .int (nI (i + 1))), (3, .int (jB (m_fitN M t d (i + 1) = true))), (5, .int (m_tr M t i)), (0, .ref (a 77)), (1, .int d), (2, .int (nI t))]) hX 5 dX8_fits_89 rfl (jinc i) (by decide) rfl ?_
            refine J_goto hX 17 dX8_fits_92 (by decide) ?_
            refine J_sub (loc' := [(0, .ref (a 77)), (1, .int d), (2, .int (nI t)), (3, .int (jB (m_fitN M t d (i + 1) = true))), (4, .int (nI (i + 1)))]) [3, 4, 5, 1, 0] rfl ?_
            exact ih17  (i + 1) (by omega) (by omega)
          · skip
            refine J_aload_n hX 1 dX8_fits_46 rfl ?_
            refine J_getr hX 77 11 dX8_fits_47 jc_77 rfl rfl (by decide) inlX8 wm_5_2 ?_
            refine J_iload hX 5 dX8_fits_50 rfl ?_
            refine J_iald hX 85 i dX8_fits_52 jc_85 rfl (by omega) (by omega) ?_
            refine J_if_ne hX 71 dX8_fits_53 (by decide) (fun h53 => ?_) (fun h53 => ?_)
            · skip
              refine J_iload hX 0 dX8_fits_71 rfl ?_
              refine J_aload_n hX 1 dX8_fits_73 rfl ?_
              refine J_getr hX 77 10 dX8_fits_74 jc_77 rfl rfl (by decide) inlX8 wm_5_1 ?_
              refine J_iload hX 5 dX8_fits_77 rfl ?_
              refine J_iald hX 84 i dX8_fits_79 jc_84 rfl (by omega) (by omega) ?_
              refine J_icmp_lt hX 87 dX8_fits_80 (by decide) (fun h80 => ?_) (fun h80 => ?_)
              · skip
                refine J_iconst (v := 0) hX dX8_fits_87 (by decide) ?_
                refine J_topi (y := jB (m_fitN M t d (i + 1) = true)) (by rw [jB_f (by rw [m_fitN, h43, Bool.true_and, m_fit1, decide_eq_true_eq]; (first | rw [if_pos h53] | rw [if_neg h53] | rw [if_pos (Classical.not_not.mp h53)]); first | exact h80 | exact Int32.not_le.mpr h80)]) ?_
                refine J_istore_n (loc' := [(3, .int (jB (m_fitN M t d (i + 1) = true))), (5, .int (m_tr M t i)), (0, .ref (a 77)), (1, .int d), (2, .int (nI t)), (4, .int (nI i))]) hX dX8_fits_88 (by decide) rfl ?_
                refine J_iinc (v := nI (i + 1)) (loc' := [(4, .int (nI (i + 1))), (3, .int (jB (m_fitN M t d (i + 1) = true))), (5, .int (m_tr M t i)), (0, .ref (a 77)), (1, .int d), (2, .int (nI t))]) hX 5 dX8_fits_89 rfl (jinc i) (by decide) rfl ?_
                refine J_goto hX 17 dX8_fits_92 (by decide) ?_
                refine J_sub (loc' := [(0, .ref (a 77)), (1, .int d), (2, .int (nI t)), (3, .int (jB (m_fitN M t d (i + 1) = true))), (4, .int (nI (i + 1)))]) [3, 4, 5, 1, 0] rfl ?_
                exact ih17  (i + 1) (by omega) (by omega)
              · skip
                refine J_iconst (v := 1) hX dX8_fits_83 (by decide) ?_
                refine J_goto hX 88 dX8_fits_84 (by decide) ?_
                refine J_topi (y := jB (m_fitN M t d (i + 1) = true)) (by rw [jB_t (by rw [m_fitN, h43, Bool.true_and, m_fit1]; apply decide_eq_true; (first | rw [if_pos h53] | rw [if_neg h53] | rw [if_pos (Classical.not_not.mp h53)]); first | exact h80 | exact Classical.not_not.mp h80 | exact Int32.not_lt.mp h80)]) ?_
                refine J_istore_n (loc' := [(3, .int (jB (m_fitN M t d (i + 1) = true))), (5, .int (m_tr M t i)), (0, .ref (a 77)), (1, .int d), (2, .int (nI t)), (4, .int (nI i))]) hX dX8_fits_88 (by decide) rfl ?_
                refine J_iinc (v := nI (i + 1)) (loc' := [(4, .int (nI (i + 1))), (3, .int (jB (m_fitN M t d (i + 1) = true))), (5, .int (m_tr M t i)), (0, .ref (a 77)), (1, .int d), (2, .int (nI t))]) hX 5 dX8_fits_89 rfl (jinc i) (by decide) rfl ?_
                refine J_goto hX 17 dX8_fits_92 (by decide) ?_
                refine J_sub (loc' := [(0, .ref (a 77)), (1, .int d), (2, .int (nI t)), (3, .int (jB (m_fitN M t d (i + 1) = true))), (4, .int (nI (i + 1)))]) [3, 4, 5, 1, 0] rfl ?_
                exact ih17  (i + 1) (by omega) (by omega)
            · skip
              refine J_iload hX 0 dX8_fits_56 rfl ?_
              refine J_aload_n hX 1 dX8_fits_58 rfl ?_
              refine J_getr hX 77 10 dX8_fits_59 jc_77 rfl rfl (by decide) inlX8 wm_5_1 ?_
              refine J_iload hX 5 dX8_fits_62 rfl ?_
              refine J_iald hX 84 i dX8_fits_64 jc_84 rfl (by omega) (by omega) ?_
              refine J_icmp_ne hX 87 dX8_fits_65 (by decide) (fun h65 => ?_) (fun h65 => ?_)
              · skip
                refine J_iconst (v := 0) hX dX8_fits_87 (by decide) ?_
                refine J_topi (y := jB (m_fitN M t d (i + 1) = true)) (by rw [jB_f (by rw [m_fitN, h43, Bool.true_and, m_fit1, decide_eq_true_eq]; (first | rw [if_pos h53] | rw [if_neg h53] | rw [if_pos (Classical.not_not.mp h53)]); first | exact h65 | exact Int32.not_le.mpr h65)]) ?_
                refine J_istore_n (loc' := [(3, .int (jB (m_fitN M t d (i + 1) = true))), (5, .int (m_tr M t i)), (0, .ref (a 77)), (1, .int d), (2, .int (nI t)), (4, .int (nI i))]) hX dX8_fits_88 (by decide) rfl ?_
                refine J_iinc (v := nI (i + 1)) (loc' := [(4, .int (nI (i + 1))), (3, .int (jB (m_fitN M t d (i + 1) = true))), (5, .int (m_tr M t i)), (0, .ref (a 77)), (1, .int d), (2, .int (nI t))]) hX 5 dX8_fits_89 rfl (jinc i) (by decide) rfl ?_
                refine J_goto hX 17 dX8_fits_92 (by decide) ?_
                refine J_sub (loc' := [(0, .ref (a 77)), (1, .int d), (2, .int (nI t)), (3, .int (jB (m_fitN M t d (i + 1) = true))), (4, .int (nI (i + 1)))]) [3, 4, 5, 1, 0] rfl ?_
                exact ih17  (i + 1) (by omega) (by omega)
              · skip
                refine J_goto hX 83 dX8_fits_68 (by decide) ?_
                refine J_iconst (v := 1) hX dX8_fits_83 (by decide) ?_
                refine J_goto hX 88 dX8_fits_84 (by decide) ?_
                refine J_topi (y := jB (m_fitN M t d (i + 1) = true)) (by rw [jB_t (by rw [m_fitN, h43, Bool.true_and, m_fit1]; apply decide_eq_true; (first | rw [if_pos h53] | rw [if_neg h53] | rw [if_pos (Classical.not_not.mp h53)]); first | exact h65 | exact Classical.not_not.mp h65 | exact Int32.not_lt.mp h65)]) ?_
                refine J_istore_n (loc' := [(3, .int (jB (m_fitN M t d (i + 1) = true))), (5, .int (m_tr M t i)), (0, .ref (a 77)), (1, .int d), (2, .int (nI t)), (4, .int (nI i))]) hX dX8_fits_88 (by decide) rfl ?_
                refine J_iinc (v := nI (i + 1)) (loc' := [(4, .int (nI (i + 1))), (3, .int (jB (m_fitN M t d (i + 1) = true))), (5, .int (m_tr M t i)), (0, .ref (a 77)), (1, .int d), (2, .int (nI t))]) hX 5 dX8_fits_89 rfl (jinc i) (by decide) rfl ?_
                refine J_goto hX 17 dX8_fits_92 (by decide) ?_
                refine J_sub (loc' := [(0, .ref (a 77)), (1, .int d), (2, .int (nI t)), (3, .int (jB (m_fitN M t d (i + 1) = true))), (4, .int (nI (i + 1)))]) [3, 4, 5, 1, 0] rfl ?_
                exact ih17  (i + 1) (by omega) (by omega)
    refine J_sub (loc' := [(0, .ref (a 77)), (1, .int d), (2, .int (nI t)), (3, .int (jB (m_fitN M t d 0 = true))), (4, .int 0)]) [2, 3, 4, 1, 0] rfl ?_
    refine J_seti (y := nI 0) (loc' := [(0, .ref (a 77)), (1, .int d), (2, .int (nI t)), (3, .int (jB (m_fitN M t d 0 = true))), (4, .int (nI 0))]) 4 rfl rfl rfl ?_
    exact key17 _ 0 (Nat.lt_succ_self _) (by omega)
def m_cnt (M : jM) (s : Nat) (d : Int32) : Nat → Nat
  | 0 => 0
  | k + 1 => if m_fit M s k d = true then m_cnt M s d k + 1 else m_cnt M s d k
theorem m_cnt_le (M : jM) (s : Nat) (d : Int32) (k : Nat) : m_cnt M s d k ≤ k := by
  induction k with
  | zero => exact Nat.le_refl 0
  | succ k ih => rw [m_cnt]; split <;> omega
def m_clF (M : jM) (s : Nat) (d i : Int32) : Nat → Nat → Int32
  | 0, k => if i = -1 then nI (m_cnt M s d k) else -6
  | r + 1, k => if m_fit M s k d = true then (if nI (m_cnt M s d k) = i then nI k else m_clF M s d i r (k + 1)) else m_clF M s d i r (k + 1)
theorem m_clF_s {M : jM} {s k : Nat} {d i : Int32} (h : k < 256) : m_clF M s d i (256 - k) k = if m_fit M s k d = true then (if nI (m_cnt M s d k) = i then nI k else m_clF M s d i (256 - (k + 1)) (k + 1)) else m_clF M s d i (256 - (k + 1)) (k + 1) := by
  rw [show 256 - k = (256 - (k + 1)) + 1 by omega, m_clF]
def m_not (M : jM) (s : Nat) (d : Int32) (c : Nat) : Nat → Nat
  | 0 => 0
  | k + 1 => if m_fit M s k d = true then (if (nI k >>> (nI c &&& 31)) &&& 1 = 1 then m_not M s d c k + 1 else m_not M s d c k) else m_not M s d c k
theorem m_not_le (M : jM) (s : Nat) (d : Int32) (c k : Nat) : m_not M s d c k ≤ m_cnt M s d k := by
  induction k with
  | zero => exact Nat.le_refl 0
  | succ k ih => rw [m_not, m_cnt]; split; (split <;> omega); omega
def m_clerks (M : jM) (s : Nat) (d i : Int32) : Int32 := if (0 ≤ d.toInt ∧ d.toInt ≤ 3) then m_clF M s d i 256 0 else -2
def m_ml (M : jM) (s : Nat) (d : Int32) (c : Nat) : Nat := if m_not M s d c 256 ≤ m_cnt M s d 256 - m_not M s d c 256 then m_cnt M s d 256 - m_not M s d c 256 else m_not M s d c 256
theorem m_ml_le (M : jM) (s : Nat) (d : Int32) (c : Nat) : m_ml M s d c ≤ 256 := by
  have := m_not_le M s d c 256
  have := m_cnt_le M s d 256
  unfold m_ml
  split <;> omega
def m_best (M : jM) (s : Nat) (d : Int32) : Nat → Nat
  | 0 => 0
  | k + 1 => if m_ml M s d (m_best M s d k) ≤ m_ml M s d (k + 1) then m_best M s d k else k + 1
def m_count (M : jM) (s : Nat) (d k : Int32) : Int32 := if (0 ≤ d.toInt ∧ d.toInt ≤ 3) then (if (0 ≤ k.toInt ∧ k.toInt ≤ 1) then (if m_ml M s d (m_best M s d 7) = 0 then -6 else if k = 0 then nI (m_best M s d 7) else nI (m_ml M s d (m_best M s d 7))) else -2) else -2
set_option maxHeartbeats 4000000 in
set_option maxRecDepth 10000 in
theorem c_X8_clerks (l : Launch) (D : va_G) (a : Nat → Nat) (g : Nat → ClassId) (M : jM) (L : jL) (s : Nat) (hs : M 77 12 = nI s) (hs8 : s ≤ 8) (hS : ∀ i, i < 8 → 0 ≤ (M 83 i).toInt ∧ (M 83 i).toInt ≤ 255) (d i : Int32)  : jK l D a g yX8_clerks cX8_clerks 5 (some .int) 2 47 [.ref (a 77), .int d, .int i] M L (some (.int (m_clerks M s d i))) M L := by
  refine jMeth (by decide) (Nat.le_of_ble_eq_true rfl) ?_
  intro G hX hZ
  refine J_cg (loc' := [(0, .ref (a 77)), (1, .int d), (2, .int i)]) rfl rfl rfl rfl ?_
  refine J_iload_n hX 1 dX8_clerks_0 rfl ?_
  refine J_i2l hX dX8_clerks_1 ?_
  refine J_lconst (v := 0) hX dX8_clerks_2 (by decide) ?_
  refine J_ldc2 hX dX8_clerks_3 wm_20_8 ?_
  refine J_callS hX [.long (Int32.toInt64 d), .long (0 : Int64), .long (3 : Int64)] [] dX8_clerks_6 (c_X8_in l D a g M L d (0 : Int64) (3 : Int64)) lk_X8_80 rfl rfl (Nat.le_of_ble_eq_true rfl) (Nat.le_of_ble_eq_true rfl) (Nat.le_of_ble_eq_true rfl) (J_eq (st := [.int (jB (0 ≤ d.toInt ∧ d.toInt ≤ 3))]) rfl ?_)
  refine J_ifB_ne hX 15 dX8_clerks_9 (by decide) (fun h9 => ?_) (fun h9 => ?_)
  · skip
    refine J_iconst (v := 0) hX dX8_clerks_15 (by decide) ?_
    refine J_istore_n (loc' := [(3, .int 0), (0, .ref (a 77)), (1, .int d), (2, .int i)]) hX dX8_clerks_16 (by decide) rfl ?_
    refine J_iconst (v := 0) hX dX8_clerks_17 (by decide) ?_
    refine J_istore (loc' := [(4, .int 0), (3, .int 0), (0, .ref (a 77)), (1, .int d), (2, .int i)]) hX dX8_clerks_18 (by decide) rfl ?_
    have key20 : ∀ (fu20 : Nat) (k : Nat), 256 - k < fu20 → (k ≤ 256) → (m_clerks M s d i = m_clF M s d i (256 - k) k) → J l D a g G 5 M L 20 [(0, .ref (a 77)), (1, .int d), (2, .int i), (3, .int (nI (m_cnt M s d k))), (4, .int (nI k))] [] := by
      intro fu20
      induction fu20 with
      | zero => intro k hmu; exact absurd hmu (Nat.not_lt_zero _)
      | succ fu20 ih20 =>
        intro k hmu20 hk he
        have ck := m_cnt_le M s d k
        refine J_iload hX 4 dX8_clerks_20 rfl ?_
        refine J_sipush (v := 256) hX dX8_clerks_22 (by decide) ?_
        refine J_cmpN_ge hX 55 k 256 dX8_clerks_25 (by decide) rfl rfl (by omega) (by omega) (fun h25 => ?_) (fun h25 => ?_)
        · skip
          refine J_iload_n hX 2 dX8_clerks_55 rfl ?_
          refine J_iconst (v := (-1)) hX dX8_clerks_56 (by decide) ?_
          refine J_icmp_ne hX 64 dX8_clerks_57 (by decide) (fun h57 => ?_) (fun h57 => ?_)
          · skip
            refine J_bipush (v := (-6)) hX dX8_clerks_64 (by decide) ?_
            exact J_ret hX hZ dX8_clerks_66 rfl rfl ⟨by rw [he, show 256 - k = 0 by omega, m_clF]; (first | rw [if_pos h57] | rw [if_neg h57] | rw [if_pos (Classical.not_not.mp h57)]), rfl, rfl⟩
          · skip
            refine J_iload_n hX 3 dX8_clerks_60 rfl ?_
            refine J_goto hX 66 dX8_clerks_61 (by decide) ?_
            exact J_ret hX hZ dX8_clerks_66 rfl rfl ⟨by rw [he, show 256 - k = 0 by omega, m_clF]; (first | rw [if_pos h57] | rw [if_neg h57] | rw [if_pos (Classical.not_not.mp h57)]), rfl, rfl⟩
        · skip
          refine J_aload_n hX 0 dX8_clerks_28 rfl ?_
          refine J_iload_n hX 1 dX8_clerks_29 rfl ?_
          refine J_iload hX 4 dX8_clerks_30 rfl ?_
          refine J_callV hX 77 [.int d, .int (nI k)] [] dX8_clerks_32 (c_X8_fits l D a g M L s hs hs8 hS d k (by omega)) lk_X8_282 jc_77 rfl rfl rfl (Nat.le_of_ble_eq_true rfl) (Nat.le_of_ble_eq_true rfl) (Nat.le_of_ble_eq_true rfl) (J_eq (st := [.int (jB (m_fit M s k d = true))]) rfl ?_)
          refine J_ifB_eq hX 49 dX8_clerks_35 (by decide) (fun h35 => ?_) (fun h35 => ?_)
          · skip
            refine J_iinc (v := nI (k + 1)) (loc' := [(4, .int (nI (k + 1))), (0, .ref (a 77)), (1, .int d), (2, .int i), (3, .int (nI (m_cnt M s d k)))]) hX 4 dX8_clerks_49 rfl (jinc k) (by decide) rfl ?_
            refine J_goto hX 20 dX8_clerks_52 (by decide) ?_
            refine J_sub (loc' := [(0, .ref (a 77)), (1, .int d), (2, .int i), (3, .int (nI (m_cnt M s d k))), (4, .int (nI (k + 1)))]) [1, 2, 3, 4, 0] rfl ?_
            refine J_seti (y := nI (m_cnt M s d (k + 1))) (loc' := [(0, .ref (a 77)), (1, .int d), (2, .int i), (3, .int (nI (m_cnt M s d (k + 1)))), (4, .int (nI (k + 1)))]) 3 rfl (by rw [m_cnt]; (first | rw [if_pos h35] | rw [if_neg h35])) rfl ?_
            exact ih20  (k + 1) (by omega) (by omega) (he.trans (by rw [m_clF_s h25]; (first | rw [if_pos h35] | rw [if_neg h35]); (first | rw [if_neg h40] | skip)))
          · skip
            refine J_iload_n hX 3 dX8_clerks_38 rfl ?_
            refine J_iload_n hX 2 dX8_clerks_39 rfl ?_
            refine J_icmp_ne hX 46 dX8_clerks_40 (by decide) (fun h40 => ?_) (fun h40 => ?_)
            · skip
              refine J_iinc (v := nI (m_cnt M s d k + 1)) (loc' := [(3, .int (nI (m_cnt M s d k + 1))), (0, .ref (a 77)), (1, .int d), (2, .int i), (4, .int (nI k))]) hX 3 dX8_clerks_46 rfl (jinc (m_cnt M s d k)) (by decide) rfl ?_
              refine J_iinc (v := nI (k + 1)) (loc' := [(4, .int (nI (k + 1))), (3, .int (nI (m_cnt M s d k + 1))), (0, .ref (a 77)), (1, .int d), (2, .int i)]) hX 4 dX8_clerks_49 rfl (jinc k) (by decide) rfl ?_
              refine J_goto hX 20 dX8_clerks_52 (by decide) ?_
              refine J_sub (loc' := [(0, .ref (a 77)), (1, .int d), (2, .int i), (3, .int (nI (m_cnt M s d k + 1))), (4, .int (nI (k + 1)))]) [2, 3, 4, 1, 0] rfl ?_
              refine J_seti (y := nI (m_cnt M s d (k + 1))) (loc' := [(0, .ref (a 77)), (1, .int d), (2, .int i), (3, .int (nI (m_cnt M s d (k + 1)))), (4, .int (nI (k + 1)))]) 3 rfl (by rw [m_cnt]; (first | rw [if_pos h35] | rw [if_neg h35])) rfl ?_
              exact ih20  (k + 1) (by omega) (by omega) (he.trans (by rw [m_clF_s h25]; (first | rw [if_pos h35] | rw [if_neg h35]); (first | rw [if_neg h40] | skip)))
            · skip
              refine J_iload hX 4 dX8_clerks_43 rfl ?_
              exact J_ret hX hZ dX8_clerks_45 rfl rfl ⟨by rw [he, m_clF_s h25, if_pos h35, if_pos (by first | exact h40 | exact Classical.not_not.mp h40)], rfl, rfl⟩
    refine J_sub (loc' := [(0, .ref (a 77)), (1, .int d), (2, .int i), (3, .int 0), (4, .int 0)]) [2, 3, 4, 1, 0] rfl ?_
    refine J_seti (y := nI (m_cnt M s d 0)) (loc' := [(0, .ref (a 77)), (1, .int d), (2, .int i), (3, .int (nI (m_cnt M s d 0))), (4, .int 0)]) 3 rfl rfl rfl ?_
    refine J_seti (y := nI 0) (loc' := [(0, .ref (a 77)), (1, .int d), (2, .int i), (3, .int (nI (m_cnt M s d 0))), (4, .int (nI 0))]) 4 rfl rfl rfl ?_
    exact key20 _ 0 (Nat.lt_succ_self _) (by omega) (by rw [m_clerks, if_pos h9])
  · skip
    refine J_bipush (v := (-2)) hX dX8_clerks_12 (by decide) ?_
    exact J_ret hX hZ dX8_clerks_14 rfl rfl ⟨by rw [m_clerks]; (first | rw [if_pos h9] | rw [if_neg h9] | skip), rfl, rfl⟩
set_option maxHeartbeats 4000000 in
set_option maxRecDepth 10000 in
theorem c_X8_mostLeft (l : Launch) (D : va_G) (a : Nat → Nat) (g : Nat → ClassId) (M : jM) (L : jL) (s : Nat) (hs : M 77 12 = nI s) (hs8 : s ≤ 8) (hS : ∀ i, i < 8 → 0 ≤ (M 83 i).toInt ∧ (M 83 i).toInt ≤ 255) (d : Int32) (c : Nat) (hc : c < 8)  : jK l D a g yX8_mostLeft cX8_mostLeft 7 (some .int) 2 47 [.ref (a 77), .int d, .int (nI c)] M L (some (.int (nI (m_ml M s d c)))) M L := by
  refine jMeth (by decide) (Nat.le_of_ble_eq_true rfl) ?_
  intro G hX hZ
  refine J_cg (loc' := [(0, .ref (a 77)), (1, .int d), (2, .int (nI c))]) rfl rfl rfl rfl ?_
  refine J_iconst (v := 0) hX dX8_mostLeft_0 (by decide) ?_
  refine J_istore_n (loc' := [(3, .int 0), (0, .ref (a 77)), (1, .int d), (2, .int (nI c))]) hX dX8_mostLeft_1 (by decide) rfl ?_
  refine J_iconst (v := 0) hX dX8_mostLeft_2 (by decide) ?_
  refine J_istore (loc' := [(4, .int 0), (3, .int 0), (0, .ref (a 77)), (1, .int d), (2, .int (nI c))]) hX dX8_mostLeft_3 (by decide) rfl ?_
  refine J_iconst (v := 0) hX dX8_mostLeft_5 (by decide) ?_
  refine J_istore (loc' := [(5, .int 0), (4, .int 0), (3, .int 0), (0, .ref (a 77)), (1, .int d), (2, .int (nI c))]) hX dX8_mostLeft_6 (by decide) rfl ?_
  have key8 : ∀ (fu8 : Nat) (k : Nat), 256 - k < fu8 → (k ≤ 256) → J l D a g G 7 M L 8 [(0, .ref (a 77)), (1, .int d), (2, .int (nI c)), (3, .int (nI (m_not M s d c k))), (4, .int (nI (m_cnt M s d k))), (5, .int (nI k))] [] := by
    intro fu8
    induction fu8 with
    | zero => intro k hmu; exact absurd hmu (Nat.not_lt_zero _)
    | succ fu8 ih8 =>
      intro k hmu8 hk
      have ck := m_cnt_le M s d k
      have cn := m_not_le M s d c k
      refine J_iload hX 5 dX8_mostLeft_8 rfl ?_
      refine J_sipush (v := 256) hX dX8_mostLeft_10 (by decide) ?_
      refine J_cmpN_ge hX 69 k 256 dX8_mostLeft_13 (by decide) rfl rfl (by omega) (by omega) (fun h13 => ?_) (fun h13 => ?_)
      · skip
        have k256 : k = 256 := by omega
        refine J_iload_n hX 3 dX8_mostLeft_69 rfl ?_
        refine J_iload hX 4 dX8_mostLeft_70 rfl ?_
        refine J_iload_n hX 3 dX8_mostLeft_72 rfl ?_
        refine J_isub hX dX8_mostLeft_73 ?_
        refine J_topi (y := nI (m_cnt M s d k - m_not M s d c k)) (pk_sub cn) ?_
        refine J_cmpN_le hX 81 (m_not M s d c k) (m_cnt M s d k - m_not M s d c k) dX8_mostLeft_74 (by decide) rfl rfl (by omega) (by omega) (fun h74 => ?_) (fun h74 => ?_)
        · skip
          refine J_iload hX 4 dX8_mostLeft_81 rfl ?_
          refine J_iload_n hX 3 dX8_mostLeft_83 rfl ?_
          refine J_isub hX dX8_mostLeft_84 ?_
          refine J_topi (y := nI (m_cnt M s d k - m_not M s d c k)) (pk_sub cn) ?_
          exact J_ret hX hZ dX8_mostLeft_85 rfl rfl ⟨by unfold m_ml; rw [k256] at *; (first | rw [if_pos h74] | rw [if_neg (by omega)]), rfl, rfl⟩
        · skip
          refine J_iload_n hX 3 dX8_mostLeft_77 rfl ?_
          refine J_goto hX 85 dX8_mostLeft_78 (by decide) ?_
          exact J_ret hX hZ dX8_mostLeft_85 rfl rfl ⟨by unfold m_ml; rw [k256] at *; (first | rw [if_pos h74] | rw [if_neg (by omega)]), rfl, rfl⟩
      · skip
        refine J_aload_n hX 0 dX8_mostLeft_16 rfl ?_
        refine J_iload_n hX 1 dX8_mostLeft_17 rfl ?_
        refine J_iload hX 5 dX8_mostLeft_18 rfl ?_
        refine J_callV hX 77 [.int d, .int (nI k)] [] dX8_mostLeft_20 (c_X8_fits l D a g M L s hs hs8 hS d k (by omega)) lk_X8_282 jc_77 rfl rfl rfl (Nat.le_of_ble_eq_true rfl) (Nat.le_of_ble_eq_true rfl) (Nat.le_of_ble_eq_true rfl) (J_eq (st := [.int (jB (m_fit M s k d = true))]) rfl ?_)
        refine J_istore (loc' := [(6, .int (jB (m_fit M s k d = true))), (0, .ref (a 77)), (1, .int d), (2, .int (nI c)), (3, .int (nI (m_not M s d c k))), (4, .int (nI (m_cnt M s d k))), (5, .int (nI k))]) hX dX8_mostLeft_23 (by decide) rfl ?_
        refine J_iload hX 5 dX8_mostLeft_25 rfl ?_
        refine J_iload hX 0 dX8_mostLeft_27 rfl ?_
        refine J_ifB_eq hX 36 dX8_mostLeft_29 (by decide) (fun h29 => ?_) (fun h29 => ?_)
        · skip
          refine J_iconst (v := 0) hX dX8_mostLeft_36 (by decide) ?_
          refine J_iadd hX dX8_mostLeft_37 ?_
          refine J_topi (y := nI (m_cnt M s d (k + 1))) (by rw [m_cnt, if_neg h29]; exact Int32.add_zero _) ?_
          refine J_istore (loc' := [(4, .int (nI (m_cnt M s d (k + 1)))), (6, .int (jB (m_fit M s k d = true))), (0, .ref (a 77)), (1, .int d), (2, .int (nI c)), (3, .int (nI (m_not M s d c k))), (5, .int (nI k))]) hX dX8_mostLeft_38 (by decide) rfl ?_
          refine J_iload_n hX 5 dX8_mostLeft_40 rfl ?_
          refine J_iload hX 1 dX8_mostLeft_41 rfl ?_
          refine J_ifB_eq hX 60 dX8_mostLeft_43 (by decide) (fun h43 => ?_) (fun h43 => absurd h43 h29)
          refine J_iconst (v := 0) hX dX8_mostLeft_60 (by decide) ?_
          refine J_iadd hX dX8_mostLeft_61 ?_
          refine J_topi (y := nI (m_not M s d c (k + 1))) (by rw [m_not]; (first | rw [if_pos h29] | rw [if_neg h29] | rw [if_pos (Classical.not_not.mp h29)] | skip); first | exact nI_1 _ | exact Int32.add_zero _) ?_
          refine J_istore_n (loc' := [(3, .int (nI (m_not M s d c (k + 1)))), (4, .int (nI (m_cnt M s d (k + 1)))), (6, .int (jB (m_fit M s k d = true))), (0, .ref (a 77)), (1, .int d), (2, .int (nI c)), (5, .int (nI k))]) hX dX8_mostLeft_62 (by decide) rfl ?_
          refine J_iinc (v := nI (k + 1)) (loc' := [(5, .int (nI (k + 1))), (3, .int (nI (m_not M s d c (k + 1)))), (4, .int (nI (m_cnt M s d (k + 1)))), (6, .int (jB (m_fit M s k d = true))), (0, .ref (a 77)), (1, .int d), (2, .int (nI c))]) hX 6 dX8_mostLeft_63 rfl (jinc k) (by decide) rfl ?_
          refine J_goto hX 8 dX8_mostLeft_66 (by decide) ?_
          refine J_sub (loc' := [(0, .ref (a 77)), (1, .int d), (2, .int (nI c)), (3, .int (nI (m_not M s d c (k + 1)))), (4, .int (nI (m_cnt M s d (k + 1)))), (5, .int (nI (k + 1)))]) [4, 5, 6, 1, 2, 0] rfl ?_
          exact ih8  (k + 1) (by omega) (by omega)
        · skip
          refine J_iconst (v := 1) hX dX8_mostLeft_32 (by decide) ?_
          refine J_goto hX 37 dX8_mostLeft_33 (by decide) ?_
          refine J_iadd hX dX8_mostLeft_37 ?_
          refine J_topi (y := nI (m_cnt M s d (k + 1))) (by rw [m_cnt, if_pos h29]; exact nI_1 _) ?_
          refine J_istore (loc' := [(4, .int (nI (m_cnt M s d (k + 1)))), (6, .int (jB (m_fit M s k d = true))), (0, .ref (a 77)), (1, .int d), (2, .int (nI c)), (3, .int (nI (m_not M s d c k))), (5, .int (nI k))]) hX dX8_mostLeft_38 (by decide) rfl ?_
          refine J_iload_n hX 5 dX8_mostLeft_40 rfl ?_
          refine J_iload hX 1 dX8_mostLeft_41 rfl ?_
          refine J_ifB_eq hX 60 dX8_mostLeft_43 (by decide) (fun h43 => absurd h29 h43) (fun h43 => ?_)
          refine J_iload hX 6 dX8_mostLeft_46 rfl ?_
          refine J_iload_n hX 4 dX8_mostLeft_48 rfl ?_
          refine J_ishr hX dX8_mostLeft_49 ?_
          refine J_iconst (v := 1) hX dX8_mostLeft_50 (by decide) ?_
          refine J_iand hX dX8_mostLeft_51 ?_
          refine J_iconst (v := 1) hX dX8_mostLeft_52 (by decide) ?_
          refine J_icmp_ne hX 60 dX8_mostLeft_53 (by decide) (fun h53 => ?_) (fun h53 => ?_)
          · skip
            refine J_iconst (v := 0) hX dX8_mostLeft_60 (by decide) ?_
            refine J_iadd hX dX8_mostLeft_61 ?_
            refine J_topi (y := nI (m_not M s d c (k + 1))) (by rw [m_not]; (first | rw [if_pos h29] | rw [if_neg h29] | rw [if_pos (Classical.not_not.mp h29)] | skip); (first | rw [if_pos h53] | rw [if_neg h53] | rw [if_pos (Classical.not_not.mp h53)] | skip); first | exact nI_1 _ | exact Int32.add_zero _) ?_
            refine J_istore_n (loc' := [(3, .int (nI (m_not M s d c (k + 1)))), (4, .int (nI (m_cnt M s d (k + 1)))), (6, .int (jB (m_fit M s k d = true))), (0, .ref (a 77)), (1, .int d), (2, .int (nI c)), (5, .int (nI k))]) hX dX8_mostLeft_62 (by decide) rfl ?_
            refine J_iinc (v := nI (k + 1)) (loc' := [(5, .int (nI (k + 1))), (3, .int (nI (m_not M s d c (k + 1)))), (4, .int (nI (m_cnt M s d (k + 1)))), (6, .int (jB (m_fit M s k d = true))), (0, .ref (a 77)), (1, .int d), (2, .int (nI c))]) hX 6 dX8_mostLeft_63 rfl (jinc k) (by decide) rfl ?_
            refine J_goto hX 8 dX8_mostLeft_66 (by decide) ?_
            refine J_sub (loc' := [(0, .ref (a 77)), (1, .int d), (2, .int (nI c)), (3, .int (nI (m_not M s d c (k + 1)))), (4, .int (nI (m_cnt M s d (k + 1)))), (5, .int (nI (k + 1)))]) [4, 5, 6, 1, 2, 0] rfl ?_
            exact ih8  (k + 1) (by omega) (by omega)
          · skip
            refine J_iconst (v := 1) hX dX8_mostLeft_56 (by decide) ?_
            refine J_goto hX 61 dX8_mostLeft_57 (by decide) ?_
            refine J_iadd hX dX8_mostLeft_61 ?_
            refine J_topi (y := nI (m_not M s d c (k + 1))) (by rw [m_not]; (first | rw [if_pos h29] | rw [if_neg h29] | rw [if_pos (Classical.not_not.mp h29)] | skip); (first | rw [if_pos h53] | rw [if_neg h53] | rw [if_pos (Classical.not_not.mp h53)] | skip); first | exact nI_1 _ | exact Int32.add_zero _) ?_
            refine J_istore_n (loc' := [(3, .int (nI (m_not M s d c (k + 1)))), (4, .int (nI (m_cnt M s d (k + 1)))), (6, .int (jB (m_fit M s k d = true))), (0, .ref (a 77)), (1, .int d), (2, .int (nI c)), (5, .int (nI k))]) hX dX8_mostLeft_62 (by decide) rfl ?_
            refine J_iinc (v := nI (k + 1)) (loc' := [(5, .int (nI (k + 1))), (3, .int (nI (m_not M s d c (k + 1)))), (4, .int (nI (m_cnt M s d (k + 1)))), (6, .int (jB (m_fit M s k d = true))), (0, .ref (a 77)), (1, .int d), (2, .int (nI c))]) hX 6 dX8_mostLeft_63 rfl (jinc k) (by decide) rfl ?_
            refine J_goto hX 8 dX8_mostLeft_66 (by decide) ?_
            refine J_sub (loc' := [(0, .ref (a 77)), (1, .int d), (2, .int (nI c)), (3, .int (nI (m_not M s d c (k + 1)))), (4, .int (nI (m_cnt M s d (k + 1)))), (5, .int (nI (k + 1)))]) [4, 5, 6, 1, 2, 0] rfl ?_
            exact ih8  (k + 1) (by omega) (by omega)
  refine J_sub (loc' := [(0, .ref (a 77)), (1, .int d), (2, .int (nI c)), (3, .int 0), (4, .int 0), (5, .int 0)]) [3, 4, 5, 2, 1, 0] rfl ?_
  refine J_seti (y := nI (m_not M s d c 0)) (loc' := [(0, .ref (a 77)), (1, .int d), (2, .int (nI c)), (3, .int (nI (m_not M s d c 0))), (4, .int 0), (5, .int 0)]) 3 rfl rfl rfl ?_
  refine J_seti (y := nI (m_cnt M s d 0)) (loc' := [(0, .ref (a 77)), (1, .int d), (2, .int (nI c)), (3, .int (nI (m_not M s d c 0))), (4, .int (nI (m_cnt M s d 0))), (5, .int 0)]) 4 rfl rfl rfl ?_
  refine J_seti (y := nI 0) (loc' := [(0, .ref (a 77)), (1, .int d), (2, .int (nI c)), (3, .int (nI (m_not M s d c 0))), (4, .int (nI (m_cnt M s d 0))), (5, .int (nI 0))]) 5 rfl rfl rfl ?_
  exact key8 _ 0 (Nat.lt_succ_self _) (by omega)
set_option maxHeartbeats 4000000 in
set_option maxRecDepth 10000 in
theorem c_X8_count (l : Launch) (D : va_G) (a : Nat → Nat) (g : Nat → ClassId) (M : jM) (L : jL) (s : Nat) (hs : M 77 12 = nI s) (hs8 : s ≤ 8) (hS : ∀ i, i < 8 → 0 ≤ (M 83 i).toInt ∧ (M 83 i).toInt ≤ 255) (d k : Int32)  : jK l D a g yX8_count cX8_count 7 (some .int) 3 73 [.ref (a 77), .int d, .int k] M L (some (.int (m_count M s d k))) M L := by
  refine jMeth (by decide) (Nat.le_of_ble_eq_true rfl) ?_
  intro G hX hZ
  refine J_cg (loc' := [(0, .ref (a 77)), (1, .int d), (2, .int k)]) rfl rfl rfl rfl ?_
  refine J_iload_n hX 1 dX8_count_0 rfl ?_
  refine J_i2l hX dX8_count_1 ?_
  refine J_lconst (v := 0) hX dX8_count_2 (by decide) ?_
  refine J_ldc2 hX dX8_count_3 wm_20_8 ?_
  refine J_callS hX [.long (Int32.toInt64 d), .long (0 : Int64), .long (3 : Int64)] [] dX8_count_6 (c_X8_in l D a g M L d (0 : Int64) (3 : Int64)) lk_X8_80 rfl rfl (Nat.le_of_ble_eq_true rfl) (Nat.le_of_ble_eq_true rfl) (Nat.le_of_ble_eq_true rfl) (J_eq (st := [.int (jB (0 ≤ d.toInt ∧ d.toInt ≤ 3))]) rfl ?_)
  refine J_ifB_eq hX 22 dX8_count_9 (by decide) (fun h9 => ?_) (fun h9 => ?_)
  · skip
    refine J_bipush (v := (-2)) hX dX8_count_22 (by decide) ?_
    exact J_ret hX hZ dX8_count_24 rfl rfl ⟨by rw [m_count]; (first | rw [if_pos h9] | rw [if_neg h9] | skip), rfl, rfl⟩
  · skip
    refine J_iload_n hX 2 dX8_count_12 rfl ?_
    refine J_i2l hX dX8_count_13 ?_
    refine J_lconst (v := 0) hX dX8_count_14 (by decide) ?_
    refine J_lconst (v := 1) hX dX8_count_15 (by decide) ?_
    refine J_callS hX [.long (Int32.toInt64 k), .long (0 : Int64), .long (1 : Int64)] [] dX8_count_16 (c_X8_in l D a g M L k (0 : Int64) (1 : Int64)) lk_X8_80 rfl rfl (Nat.le_of_ble_eq_true rfl) (Nat.le_of_ble_eq_true rfl) (Nat.le_of_ble_eq_true rfl) (J_eq (st := [.int (jB (0 ≤ k.toInt ∧ k.toInt ≤ 1))]) rfl ?_)
    refine J_ifB_ne hX 25 dX8_count_19 (by decide) (fun h19 => ?_) (fun h19 => ?_)
    · skip
      refine J_iconst (v := 0) hX dX8_count_25 (by decide) ?_
      refine J_istore_n (loc' := [(3, .int 0), (0, .ref (a 77)), (1, .int d), (2, .int k)]) hX dX8_count_26 (by decide) rfl ?_
      refine J_aload_n hX 1 dX8_count_27 rfl ?_
      refine J_iload_n hX 2 dX8_count_28 rfl ?_
      refine J_iconst (v := 0) hX dX8_count_29 (by decide) ?_
      refine J_callV hX 77 [.int d, .int 0] [] dX8_count_30 (c_X8_mostLeft l D a g M L s hs hs8 hS d 0 (by omega)) lk_X8_286 jc_77 rfl rfl rfl (Nat.le_of_ble_eq_true rfl) (Nat.le_of_ble_eq_true rfl) (Nat.le_of_ble_eq_true rfl) (J_eq (st := [.int (nI (m_ml M s d 0))]) rfl ?_)
      refine J_istore (loc' := [(4, .int (nI (m_ml M s d 0))), (3, .int 0), (0, .ref (a 77)), (1, .int d), (2, .int k)]) hX dX8_count_33 (by decide) rfl ?_
      refine J_iconst (v := 1) hX dX8_count_35 (by decide) ?_
      refine J_istore (loc' := [(5, .int 1), (4, .int (nI (m_ml M s d 0))), (3, .int 0), (0, .ref (a 77)), (1, .int d), (2, .int k)]) hX dX8_count_36 (by decide) rfl ?_
      have key38 : ∀ (fu38 : Nat) (i : Nat), 7 - i < fu38 → (i ≤ 7) → J l D a g G 7 M L 38 [(0, .ref (a 77)), (1, .int d), (2, .int k), (3, .int (nI (m_best M s d i))), (4, .int (nI (m_ml M s d (m_best M s d i)))), (5, .int (nI (i + 1)))] [] := by
        intro fu38
        induction fu38 with
        | zero => intro i hmu; exact absurd hmu (Nat.not_lt_zero _)
        | succ fu38 ih38 =>
          intro i hmu38 hi
          have l1 := m_ml_le M s d (m_best M s d i)
          have l2 := m_ml_le M s d (i + 1)
          refine J_iload hX 5 dX8_count_38 rfl ?_
          refine J_bipush (v := 8) hX dX8_count_40 (by decide) ?_
          refine J_cmpN_ge hX 90 (i + 1) 8 dX8_count_42 (by decide) rfl rfl (by omega) (by omega) (fun h42 => ?_) (fun h42 => ?_)
          · skip
            have i7 : i = 7 := by omega
            refine J_iload hX 4 dX8_count_90 rfl ?_
            refine J_if_ne hX 100 dX8_count_92 (by decide) (fun h92 => ?_) (fun h92 => ?_)
            · skip
              refine J_iload_n hX 2 dX8_count_100 rfl ?_
              refine J_if_ne hX 108 dX8_count_101 (by decide) (fun h101 => ?_) (fun h101 => ?_)
              · skip
                refine J_iload hX 4 dX8_count_108 rfl ?_
                exact J_ret hX hZ dX8_count_110 rfl rfl ⟨by rw [m_count, if_pos h9, if_pos h19, ← i7]; (first | rw [if_pos ((nI_eq (by omega) (by omega)).mp (by first | exact h92 | exact Classical.not_not.mp h92))] | rw [if_neg (fun q => h92 (by rw [q]; rfl))]); (first | rw [if_pos h101] | rw [if_neg h101] | rw [if_pos (Classical.not_not.mp h101)]), rfl, rfl⟩
              · skip
                refine J_iload_n hX 3 dX8_count_104 rfl ?_
                refine J_goto hX 110 dX8_count_105 (by decide) ?_
                exact J_ret hX hZ dX8_count_110 rfl rfl ⟨by rw [m_count, if_pos h9, if_pos h19, ← i7]; (first | rw [if_pos ((nI_eq (by omega) (by omega)).mp (by first | exact h92 | exact Classical.not_not.mp h92))] | rw [if_neg (fun q => h92 (by rw [q]; rfl))]); (first | rw [if_pos h101] | rw [if_neg h101] | rw [if_pos (Classical.not_not.mp h101)]), rfl, rfl⟩
            · skip
              refine J_bipush (v := (-6)) hX dX8_count_95 (by decide) ?_
              refine J_goto hX 110 dX8_count_97 (by decide) ?_
              exact J_ret hX hZ dX8_count_110 rfl rfl ⟨by rw [m_count, if_pos h9, if_pos h19, ← i7]; (first | rw [if_pos ((nI_eq (by omega) (by omega)).mp (by first | exact h92 | exact Classical.not_not.mp h92))] | rw [if_neg (fun q => h92 (by rw [q]; rfl))]); skip, rfl, rfl⟩
          · skip
            refine J_aload_n hX 0 dX8_count_45 rfl ?_
            refine J_iload_n hX 1 dX8_count_46 rfl ?_
            refine J_iload hX 5 dX8_count_47 rfl ?_
            refine J_callV hX 77 [.int d, .int (nI (i + 1))] [] dX8_count_49 (c_X8_mostLeft l D a g M L s hs hs8 hS d (i + 1) (by omega)) lk_X8_286 jc_77 rfl rfl rfl (Nat.le_of_ble_eq_true rfl) (Nat.le_of_ble_eq_true rfl) (Nat.le_of_ble_eq_true rfl) (J_eq (st := [.int (nI (m_ml M s d (i + 1)))]) rfl ?_)
            refine J_istore (loc' := [(6, .int (nI (m_ml M s d (i + 1)))), (0, .ref (a 77)), (1, .int d), (2, .int k), (3, .int (nI (m_best M s d i))), (4, .int (nI (m_ml M s d (m_best M s d i)))), (5, .int (nI (i + 1)))]) hX dX8_count_52 (by decide) rfl ?_
            refine J_iload hX 0 dX8_count_54 rfl ?_
            refine J_iload hX 5 dX8_count_56 rfl ?_
            refine J_cmpN_ge hX 66 (m_ml M s d (i + 1)) (m_ml M s d (m_best M s d i)) dX8_count_58 (by decide) rfl rfl (by omega) (by omega) (fun h58 => ?_) (fun h58 => ?_)
            · skip
              refine J_iload_n hX 4 dX8_count_66 rfl ?_
              refine J_topi (y := nI (m_best M s d (i + 1))) (by rw [m_best]; (first | rw [if_pos h58] | rw [if_neg (by omega)])) ?_
              refine J_istore_n (loc' := [(3, .int (nI (m_best M s d (i + 1)))), (6, .int (nI (m_ml M s d (i + 1)))), (0, .ref (a 77)), (1, .int d), (2, .int k), (4, .int (nI (m_ml M s d (m_best M s d i)))), (5, .int (nI (i + 1)))]) hX dX8_count_67 (by decide) rfl ?_
              refine J_iload hX 1 dX8_count_68 rfl ?_
              refine J_iload hX 5 dX8_count_70 rfl ?_
              refine J_cmpN_ge hX 80 (m_ml M s d (i + 1)) (m_ml M s d (m_best M s d i)) dX8_count_72 (by decide) rfl rfl (by omega) (by omega) (fun h72 => ?_) (fun h72 => ?_)
              · skip
                refine J_iload hX 5 dX8_count_80 rfl ?_
                refine J_topi (y := nI (m_ml M s d (m_best M s d (i + 1)))) (by rw [m_best]; (first | rw [if_pos h72] | rw [if_neg (by omega)])) ?_
                refine J_istore (loc' := [(4, .int (nI (m_ml M s d (m_best M s d (i + 1))))), (3, .int (nI (m_best M s d (i + 1)))), (6, .int (nI (m_ml M s d (i + 1)))), (0, .ref (a 77)), (1, .int d), (2, .int k), (5, .int (nI (i + 1)))]) hX dX8_count_82 (by decide) rfl ?_
                refine J_iinc (v := nI (i + 1 + 1)) (loc' := [(5, .int (nI (i + 1 + 1))), (4, .int (nI (m_ml M s d (m_best M s d (i + 1))))), (3, .int (nI (m_best M s d (i + 1)))), (6, .int (nI (m_ml M s d (i + 1)))), (0, .ref (a 77)), (1, .int d), (2, .int k)]) hX 6 dX8_count_84 rfl (jinc (i + 1)) (by decide) rfl ?_
                refine J_goto hX 38 dX8_count_87 (by decide) ?_
                refine J_sub (loc' := [(0, .ref (a 77)), (1, .int d), (2, .int k), (3, .int (nI (m_best M s d (i + 1)))), (4, .int (nI (m_ml M s d (m_best M s d (i + 1))))), (5, .int (nI (i + 1 + 1)))]) [4, 5, 6, 2, 1, 0] rfl ?_
                refine J_seti (y := nI ((i + 1) + 1)) (loc' := [(0, .ref (a 77)), (1, .int d), (2, .int k), (3, .int (nI (m_best M s d (i + 1)))), (4, .int (nI (m_ml M s d (m_best M s d (i + 1))))), (5, .int (nI ((i + 1) + 1)))]) 5 rfl rfl rfl ?_
                exact ih38  (i + 1) (by omega) (by omega)
              · skip
                refine J_iload hX 1 dX8_count_75 rfl ?_
                refine J_goto hX 82 dX8_count_77 (by decide) ?_
                refine J_topi (y := nI (m_ml M s d (m_best M s d (i + 1)))) (by rw [m_best]; (first | rw [if_pos h72] | rw [if_neg (by omega)])) ?_
                refine J_istore (loc' := [(4, .int (nI (m_ml M s d (m_best M s d (i + 1))))), (3, .int (nI (m_best M s d (i + 1)))), (6, .int (nI (m_ml M s d (i + 1)))), (0, .ref (a 77)), (1, .int d), (2, .int k), (5, .int (nI (i + 1)))]) hX dX8_count_82 (by decide) rfl ?_
                refine J_iinc (v := nI (i + 1 + 1)) (loc' := [(5, .int (nI (i + 1 + 1))), (4, .int (nI (m_ml M s d (m_best M s d (i + 1))))), (3, .int (nI (m_best M s d (i + 1)))), (6, .int (nI (m_ml M s d (i + 1)))), (0, .ref (a 77)), (1, .int d), (2, .int k)]) hX 6 dX8_count_84 rfl (jinc (i + 1)) (by decide) rfl ?_
                refine J_goto hX 38 dX8_count_87 (by decide) ?_
                refine J_sub (loc' := [(0, .ref (a 77)), (1, .int d), (2, .int k), (3, .int (nI (m_best M s d (i + 1)))), (4, .int (nI (m_ml M s d (m_best M s d (i + 1))))), (5, .int (nI (i + 1 + 1)))]) [4, 5, 6, 2, 1, 0] rfl ?_
                refine J_seti (y := nI ((i + 1) + 1)) (loc' := [(0, .ref (a 77)), (1, .int d), (2, .int k), (3, .int (nI (m_best M s d (i + 1)))), (4, .int (nI (m_ml M s d (m_best M s d (i + 1))))), (5, .int (nI ((i + 1) + 1)))]) 5 rfl rfl rfl ?_
                exact ih38  (i + 1) (by omega) (by omega)
            · skip
              refine J_iload hX 6 dX8_count_61 rfl ?_
              refine J_goto hX 67 dX8_count_63 (by decide) ?_
              refine J_topi (y := nI (m_best M s d (i + 1))) (by rw [m_best]; (first | rw [if_pos h58] | rw [if_neg (by omega)])) ?_
              refine J_istore_n (loc' := [(3, .int (nI (m_best M s d (i + 1)))), (6, .int (nI (m_ml M s d (i + 1)))), (0, .ref (a 77)), (1, .int d), (2, .int k), (4, .int (nI (m_ml M s d (m_best M s d i)))), (5, .int (nI (i + 1)))]) hX dX8_count_67 (by decide) rfl ?_
              refine J_iload hX 1 dX8_count_68 rfl ?_
              refine J_iload hX 5 dX8_count_70 rfl ?_
              refine J_cmpN_ge hX 80 (m_ml M s d (i + 1)) (m_ml M s d (m_best M s d i)) dX8_count_72 (by decide) rfl rfl (by omega) (by omega) (fun h72 => ?_) (fun h72 => ?_)
              · skip
                refine J_iload hX 5 dX8_count_80 rfl ?_
                refine J_topi (y := nI (m_ml M s d (m_best M s d (i + 1)))) (by rw [m_best]; (first | rw [if_pos h72] | rw [if_neg (by omega)])) ?_
                refine J_istore (loc' := [(4, .int (nI (m_ml M s d (m_best M s d (i + 1))))), (3, .int (nI (m_best M s d (i + 1)))), (6, .int (nI (m_ml M s d (i + 1)))), (0, .ref (a 77)), (1, .int d), (2, .int k), (5, .int (nI (i + 1)))]) hX dX8_count_82 (by decide) rfl ?_
                refine J_iinc (v := nI (i + 1 + 1)) (loc' := [(5, .int (nI (i + 1 + 1))), (4, .int (nI (m_ml M s d (m_best M s d (i + 1))))), (3, .int (nI (m_best M s d (i + 1)))), (6, .int (nI (m_ml M s d (i + 1)))), (0, .ref (a 77)), (1, .int d), (2, .int k)]) hX 6 dX8_count_84 rfl (jinc (i + 1)) (by decide) rfl ?_
                refine J_goto hX 38 dX8_count_87 (by decide) ?_
                refine J_sub (loc' := [(0, .ref (a 77)), (1, .int d), (2, .int k), (3, .int (nI (m_best M s d (i + 1)))), (4, .int (nI (m_ml M s d (m_best M s d (i + 1))))), (5, .int (nI (i + 1 + 1)))]) [4, 5, 6, 2, 1, 0] rfl ?_
                refine J_seti (y := nI ((i + 1) + 1)) (loc' := [(0, .ref (a 77)), (1, .int d), (2, .int k), (3, .int (nI (m_best M s d (i + 1)))), (4, .int (nI (m_ml M s d (m_best M s d (i + 1))))), (5, .int (nI ((i + 1) + 1)))]) 5 rfl rfl rfl ?_
                exact ih38  (i + 1) (by omega) (by omega)
              · skip
                refine J_iload hX 1 dX8_count_75 rfl ?_
                refine J_goto hX 82 dX8_count_77 (by decide) ?_
                refine J_topi (y := nI (m_ml M s d (m_best M s d (i + 1)))) (by rw [m_best]; (first | rw [if_pos h72] | rw [if_neg (by omega)])) ?_
                refine J_istore (loc' := [(4, .int (nI (m_ml M s d (m_best M s d (i + 1))))), (3, .int (nI (m_best M s d (i + 1)))), (6, .int (nI (m_ml M s d (i + 1)))), (0, .ref (a 77)), (1, .int d), (2, .int k), (5, .int (nI (i + 1)))]) hX dX8_count_82 (by decide) rfl ?_
                refine J_iinc (v := nI (i + 1 + 1)) (loc' := [(5, .int (nI (i + 1 + 1))), (4, .int (nI (m_ml M s d (m_best M s d (i + 1))))), (3, .int (nI (m_best M s d (i + 1)))), (6, .int (nI (m_ml M s d (i + 1)))), (0, .ref (a 77)), (1, .int d), (2, .int k)]) hX 6 dX8_count_84 rfl (jinc (i + 1)) (by decide) rfl ?_
                refine J_goto hX 38 dX8_count_87 (by decide) ?_
                refine J_sub (loc' := [(0, .ref (a 77)), (1, .int d), (2, .int k), (3, .int (nI (m_best M s d (i + 1)))), (4, .int (nI (m_ml M s d (m_best M s d (i + 1))))), (5, .int (nI (i + 1 + 1)))]) [4, 5, 6, 2, 1, 0] rfl ?_
                refine J_seti (y := nI ((i + 1) + 1)) (loc' := [(0, .ref (a 77)), (1, .int d), (2, .int k), (3, .int (nI (m_best M s d (i + 1)))), (4, .int (nI (m_ml M s d (m_best M s d (i + 1))))), (5, .int (nI ((i + 1) + 1)))]) 5 rfl rfl rfl ?_
                exact ih38  (i + 1) (by omega) (by omega)
      refine J_sub (loc' := [(0, .ref (a 77)), (1, .int d), (2, .int k), (3, .int 0), (4, .int (nI (m_ml M s d 0))), (5, .int 1)]) [3, 4, 5, 2, 1, 0] rfl ?_
      refine J_seti (y := nI (m_best M s d 0)) (loc' := [(0, .ref (a 77)), (1, .int d), (2, .int k), (3, .int (nI (m_best M s d 0))), (4, .int (nI (m_ml M s d 0))), (5, .int 1)]) 3 rfl rfl rfl ?_
      refine J_seti (y := nI (m_ml M s d (m_best M s d 0))) (loc' := [(0, .ref (a 77)), (1, .int d), (2, .int k), (3, .int (nI (m_best M s d 0))), (4, .int (nI (m_ml M s d (m_best M s d 0)))), (5, .int 1)]) 4 rfl rfl rfl ?_
      refine J_seti (y := nI (0 + 1)) (loc' := [(0, .ref (a 77)), (1, .int d), (2, .int k), (3, .int (nI (m_best M s d 0))), (4, .int (nI (m_ml M s d (m_best M s d 0)))), (5, .int (nI (0 + 1)))]) 5 rfl rfl rfl ?_
      exact key38 _ 0 (Nat.lt_succ_self _) (by omega)
    · skip
      refine J_bipush (v := (-2)) hX dX8_count_22 (by decide) ?_
      exact J_ret hX hZ dX8_count_24 rfl rfl ⟨by rw [m_count]; (first | rw [if_pos h9] | rw [if_neg h9] | skip); (first | rw [if_pos h19] | rw [if_neg h19] | skip), rfl, rfl⟩
def m_actBy (k : Int32) : Int32 := if k = 0 then 0 else if k = 1 then 5 else if k = 2 then 2 else if k = 3 then 2 else if k = 4 then 3 else if k = 5 then 4 else if k = 6 then 1 else 6
def m_muchBy (h : Int32) (f : Nat) : Int32 := if h = 2 then nI (f % 8) else if h = 3 then nI (10 * (1 + f % 9)) else if h = 4 then nI (f % 6) else nI (100 * (1 + f % 9))
set_option maxHeartbeats 4000000 in
set_option maxRecDepth 10000 in
theorem c_X8_actBy (l : Launch) (D : va_G) (a : Nat → Nat) (g : Nat → ClassId) (M : jM) (L : jL) (k : Int32)  : jK l D a g yX8_actBy cX8_actBy 1 (some .int) 0 0 [.int k] M L (some (.int (m_actBy k))) M L := by
  refine jMeth (by decide) (Nat.le_of_ble_eq_true rfl) ?_
  intro G hX hZ
  refine J_cg (loc' := [(0, .int k)]) rfl rfl rfl rfl ?_
  refine J_iload_n hX 0 dX8_actBy_0 rfl ?_
  by_cases s1_0 : k = 0
  · refine J_tableIn hX 44 dX8_actBy_1 (by rw [s1_0]; decide) (by rw [s1_0]; decide) (by rw [s1_0]; rfl) (by decide) ?_
    refine J_iconst (v := 0) hX dX8_actBy_44 (by decide) ?_
    exact J_ret hX hZ dX8_actBy_45 rfl rfl ⟨by simp [m_actBy, s1_0], rfl, rfl⟩
  by_cases s1_1 : k = 1
  · refine J_tableIn hX 46 dX8_actBy_1 (by rw [s1_1]; decide) (by rw [s1_1]; decide) (by rw [s1_1]; rfl) (by decide) ?_
    refine J_iconst (v := 5) hX dX8_actBy_46 (by decide) ?_
    exact J_ret hX hZ dX8_actBy_47 rfl rfl ⟨by simp [m_actBy, s1_0, s1_1], rfl, rfl⟩
  by_cases s1_2 : k = 2
  · refine J_tableIn hX 48 dX8_actBy_1 (by rw [s1_2]; decide) (by rw [s1_2]; decide) (by rw [s1_2]; rfl) (by decide) ?_
    refine J_iconst (v := 2) hX dX8_actBy_48 (by decide) ?_
    exact J_ret hX hZ dX8_actBy_49 rfl rfl ⟨by simp [m_actBy, s1_0, s1_1, s1_2], rfl, rfl⟩
  by_cases s1_3 : k = 3
  · refine J_tableIn hX 48 dX8_actBy_1 (by rw [s1_3]; decide) (by rw [s1_3]; decide) (by rw [s1_3]; rfl) (by decide) ?_
    refine J_iconst (v := 2) hX dX8_actBy_48 (by decide) ?_
    exact J_ret hX hZ dX8_actBy_49 rfl rfl ⟨by simp [m_actBy, s1_0, s1_1, s1_2, s1_3], rfl, rfl⟩
  by_cases s1_4 : k = 4
  · refine J_tableIn hX 50 dX8_actBy_1 (by rw [s1_4]; decide) (by rw [s1_4]; decide) (by rw [s1_4]; rfl) (by decide) ?_
    refine J_iconst (v := 3) hX dX8_actBy_50 (by decide) ?_
    exact J_ret hX hZ dX8_actBy_51 rfl rfl ⟨by simp [m_actBy, s1_0, s1_1, s1_2, s1_3, s1_4], rfl, rfl⟩
  by_cases s1_5 : k = 5
  · refine J_tableIn hX 52 dX8_actBy_1 (by rw [s1_5]; decide) (by rw [s1_5]; decide) (by rw [s1_5]; rfl) (by decide) ?_
    refine J_iconst (v := 4) hX dX8_actBy_52 (by decide) ?_
    exact J_ret hX hZ dX8_actBy_53 rfl rfl ⟨by simp [m_actBy, s1_0, s1_1, s1_2, s1_3, s1_4, s1_5], rfl, rfl⟩
  by_cases s1_6 : k = 6
  · refine J_tableIn hX 54 dX8_actBy_1 (by rw [s1_6]; decide) (by rw [s1_6]; decide) (by rw [s1_6]; rfl) (by decide) ?_
    refine J_iconst (v := 1) hX dX8_actBy_54 (by decide) ?_
    exact J_ret hX hZ dX8_actBy_55 rfl rfl ⟨by simp [m_actBy, s1_0, s1_1, s1_2, s1_3, s1_4, s1_5, s1_6], rfl, rfl⟩
  have t1_0 := lv_neT s1_0 (show (0 : Int32).toInt = 0 from rfl)
  have t1_1 := lv_neT s1_1 (show (1 : Int32).toInt = 1 from rfl)
  have t1_2 := lv_neT s1_2 (show (2 : Int32).toInt = 2 from rfl)
  have t1_3 := lv_neT s1_3 (show (3 : Int32).toInt = 3 from rfl)
  have t1_4 := lv_neT s1_4 (show (4 : Int32).toInt = 4 from rfl)
  have t1_5 := lv_neT s1_5 (show (5 : Int32).toInt = 5 from rfl)
  have t1_6 := lv_neT s1_6 (show (6 : Int32).toInt = 6 from rfl)
  refine J_tableOut hX 56 dX8_actBy_1 (by omega) (by decide) ?_
  refine J_bipush (v := 6) hX dX8_actBy_56 (by decide) ?_
  exact J_ret hX hZ dX8_actBy_58 rfl rfl ⟨by simp [m_actBy, s1_0, s1_1, s1_2, s1_3, s1_4, s1_5, s1_6], rfl, rfl⟩
set_option maxHeartbeats 4000000 in
set_option maxRecDepth 10000 in
theorem c_X8_muchBy (l : Launch) (D : va_G) (a : Nat → Nat) (g : Nat → ClassId) (M : jM) (L : jL) (h : Int32) (f : Nat) (hf : f < 100000)  : jK l D a g yX8_muchBy cX8_muchBy 2 (some .int) 0 0 [.int h, .int (nI f)] M L (some (.int (m_muchBy h f))) M L := by
  refine jMeth (by decide) (Nat.le_of_ble_eq_true rfl) ?_
  intro G hX hZ
  refine J_cg (loc' := [(0, .int h), (1, .int (nI f))]) rfl rfl rfl rfl ?_
  refine J_iload_n hX 0 dX8_muchBy_0 rfl ?_
  by_cases s1_2 : h = 2
  · refine J_tableIn hX 28 dX8_muchBy_1 (by rw [s1_2]; decide) (by rw [s1_2]; decide) (by rw [s1_2]; rfl) (by decide) ?_
    refine J_iload_n hX 1 dX8_muchBy_28 rfl ?_
    refine J_bipush (v := 8) hX dX8_muchBy_29 (by decide) ?_
    refine J_irem hX dX8_muchBy_31 (by decide) ?_
    refine J_topi (y := nI (f % 8)) (pk_rem (d := 8) (by omega) (by omega) (by omega)) ?_
    exact J_ret hX hZ dX8_muchBy_32 rfl rfl ⟨by simp [m_muchBy, s1_2], rfl, rfl⟩
  by_cases s1_3 : h = 3
  · refine J_tableIn hX 38 dX8_muchBy_1 (by rw [s1_3]; decide) (by rw [s1_3]; decide) (by rw [s1_3]; rfl) (by decide) ?_
    refine J_bipush (v := 10) hX dX8_muchBy_38 (by decide) ?_
    refine J_iconst (v := 1) hX dX8_muchBy_40 (by decide) ?_
    refine J_iload_n hX 1 dX8_muchBy_41 rfl ?_
    refine J_bipush (v := 9) hX dX8_muchBy_42 (by decide) ?_
    refine J_irem hX dX8_muchBy_44 (by decide) ?_
    refine J_topi (y := nI (f % 9)) (pk_rem (d := 9) (by omega) (by omega) (by omega)) ?_
    refine J_iadd hX dX8_muchBy_45 ?_
    refine J_topi (y := nI (1 + f % 9)) (nI_add 1 _) ?_
    refine J_imul hX dX8_muchBy_46 ?_
    refine J_topi (y := nI (10 * (1 + f % 9))) (pk_mul 10 _) ?_
    exact J_ret hX hZ dX8_muchBy_47 rfl rfl ⟨by simp [m_muchBy, s1_2, s1_3], rfl, rfl⟩
  by_cases s1_4 : h = 4
  · refine J_tableIn hX 33 dX8_muchBy_1 (by rw [s1_4]; decide) (by rw [s1_4]; decide) (by rw [s1_4]; rfl) (by decide) ?_
    refine J_iload_n hX 1 dX8_muchBy_33 rfl ?_
    refine J_bipush (v := 6) hX dX8_muchBy_34 (by decide) ?_
    refine J_irem hX dX8_muchBy_36 (by decide) ?_
    refine J_topi (y := nI (f % 6)) (pk_rem (d := 6) (by omega) (by omega) (by omega)) ?_
    exact J_ret hX hZ dX8_muchBy_37 rfl rfl ⟨by simp [m_muchBy, s1_2, s1_3, s1_4], rfl, rfl⟩
  have t1_2 := lv_neT s1_2 (show (2 : Int32).toInt = 2 from rfl)
  have t1_3 := lv_neT s1_3 (show (3 : Int32).toInt = 3 from rfl)
  have t1_4 := lv_neT s1_4 (show (4 : Int32).toInt = 4 from rfl)
  refine J_tableOut hX 48 dX8_muchBy_1 (by omega) (by decide) ?_
  refine J_bipush (v := 100) hX dX8_muchBy_48 (by decide) ?_
  refine J_iconst (v := 1) hX dX8_muchBy_50 (by decide) ?_
  refine J_iload_n hX 1 dX8_muchBy_51 rfl ?_
  refine J_bipush (v := 9) hX dX8_muchBy_52 (by decide) ?_
  refine J_irem hX dX8_muchBy_54 (by decide) ?_
  refine J_topi (y := nI (f % 9)) (pk_rem (d := 9) (by omega) (by omega) (by omega)) ?_
  refine J_iadd hX dX8_muchBy_55 ?_
  refine J_topi (y := nI (1 + f % 9)) (nI_add 1 _) ?_
  refine J_imul hX dX8_muchBy_56 ?_
  refine J_topi (y := nI (100 * (1 + f % 9))) (pk_mul 100 _) ?_
  exact J_ret hX hZ dX8_muchBy_57 rfl rfl ⟨by simp [m_muchBy, s1_2, s1_3, s1_4], rfl, rfl⟩
def m_yh (x : Nat) : Int32 := m_actBy (nI (x / 6 % 8))
def m_yv (x : Nat) : Int32 := m_muchBy (m_yh x) (x / 48)
def m_yA (M : jM) (x : Nat) : jM := if m_whyNot M (m_yh x) (x % 6) (m_yv x) = 0 then m_happen M (m_yh x) (x % 6) (m_yv x) else M
def m_yM (M : jM) (s : Nat) : Nat → jM
  | 0 => m_keep M
  | i + 1 => m_yA (m_yM M s i) (x_yx s (i + 1))
def m_year (M : jM) (s m k : Int32) : Int32 × jM := if (0 ≤ s.toInt ∧ s.toInt ≤ 9999) then (if (1 ≤ m.toInt ∧ m.toInt ≤ 99) then (if (0 ≤ k.toInt ∧ k.toInt ≤ 2) then (let M1 := m_yM M s.toNatClampNeg m.toNatClampNeg
  ((if k = 0 then m_notes M1 else if k = 1 then m_rate M1 else m_bc (m_lotsOf M1 (-6))), m_back M1)) else (-2, M)) else (-2, M)) else (-2, M)
theorem m_yv2 {x : Nat} (h : m_yh x = 2) : x_lt (m_yv x) 8 := by
  unfold m_yv m_muchBy
  rw [if_pos h]
  exact x_lt_of rfl (Nat.mod_lt _ (by omega)) (by omega)
theorem m_yv4 {x : Nat} (h : m_yh x = 4) : x_lt (m_yv x) 6 := by
  unfold m_yv m_muchBy
  rw [h, if_neg (by decide), if_neg (by decide), if_pos rfl]
  exact x_lt_of rfl (Nat.mod_lt _ (by omega)) (by omega)
theorem j_or (p q : Nat) : nI p ||| nI q = nI (p ||| q) := by
  apply Int32.toBitVec_inj.mp
  show BitVec.ofNat 32 p ||| BitVec.ofNat 32 q = BitVec.ofNat 32 (p ||| q)
  exact (BitVec.ofNat_or).symm
theorem j_shl : ∀ n, n < 8 → (1 : Int32) <<< (nI n &&& 31) = nI (2 ^ n) := by decide +kernel
theorem m_lots_b (M : jM) (w : Int32) : ∀ n, n ≤ 8 → ∃ z, z < 2 ^ n ∧ m_lotsN M w n = nI z := by
  intro n
  induction n with
  | zero => intro _; exact ⟨0, by omega, rfl⟩
  | succ n ih =>
    intro hn
    obtain ⟨z, z1, z2⟩ := ih (by omega)
    rw [m_lotsN, z2, m_lotsF]
    split
    · rw [j_shl n (by omega), j_or]
      exact ⟨_, Nat.or_lt_two_pow (by rw [Nat.pow_succ]; omega) (Nat.pow_lt_pow_right (by omega) (by omega)), rfl⟩
    · exact ⟨z, by rw [Nat.pow_succ]; omega, by rw [show (0 : Int32) = nI 0 from rfl, j_or, Nat.or_zero]⟩
theorem m_lots_le (M : jM) (w : Int32) : 0 ≤ (m_lotsOf M w).toInt ∧ (m_lotsOf M w).toInt ≤ 255 := by
  obtain ⟨z, z1, z2⟩ := m_lots_b M w 8 (Nat.le_refl 8)
  rw [m_lotsOf, z2, nI_toInt (by omega)]
  omega
set_option maxHeartbeats 4000000 in
set_option maxRecDepth 10000 in
theorem c_X8_year (l : Launch) (D : va_G) (a : Nat → Nat) (g : Nat → ClassId) (M : jM) (L : jL) (s m k : Int32)  : jK l D a g yX8_year cX8_year 9 (some .int) 5 110 [.ref (a 77), .int s, .int m, .int k] M L (some (.int ((m_year M s m k).1))) ((m_year M s m k).2) L := by
  refine jMeth (by decide) (Nat.le_of_ble_eq_true rfl) ?_
  intro G hX hZ
  refine J_cg (loc' := [(0, .ref (a 77)), (1, .int s), (2, .int m), (3, .int k)]) rfl rfl rfl rfl ?_
  refine J_iload_n hX 1 dX8_year_0 rfl ?_
  refine J_i2l hX dX8_year_1 ?_
  refine J_lconst (v := 0) hX dX8_year_2 (by decide) ?_
  refine J_ldc2 hX dX8_year_3 wm_6_10 ?_
  refine J_callS hX [.long (Int32.toInt64 s), .long (0 : Int64), .long (9999 : Int64)] [] dX8_year_6 (c_X8_in l D a g M L s (0 : Int64) (9999 : Int64)) lk_X8_80 rfl rfl (Nat.le_of_ble_eq_true rfl) (Nat.le_of_ble_eq_true rfl) (Nat.le_of_ble_eq_true rfl) (J_eq (st := [.int (jB (0 ≤ s.toInt ∧ s.toInt ≤ 9999))]) rfl ?_)
  refine J_ifB_eq hX 36 dX8_year_9 (by decide) (fun h9 => ?_) (fun h9 => ?_)
  · skip
    refine J_bipush (v := (-2)) hX dX8_year_36 (by decide) ?_
    exact J_ret hX hZ dX8_year_38 rfl rfl ⟨by rw [m_year]; (first | rw [if_pos h9] | rw [if_neg h9]), by rw [m_year]; (first | rw [if_pos h9] | rw [if_neg h9]), rfl⟩
  · skip
    refine J_iload_n hX 2 dX8_year_12 rfl ?_
    refine J_i2l hX dX8_year_13 ?_
    refine J_lconst (v := 1) hX dX8_year_14 (by decide) ?_
    refine J_ldc2 hX dX8_year_15 wm_25_7 ?_
    refine J_callS hX [.long (Int32.toInt64 m), .long (1 : Int64), .long (99 : Int64)] [] dX8_year_18 (c_X8_in l D a g M L m (1 : Int64) (99 : Int64)) lk_X8_80 rfl rfl (Nat.le_of_ble_eq_true rfl) (Nat.le_of_ble_eq_true rfl) (Nat.le_of_ble_eq_true rfl) (J_eq (st := [.int (jB (1 ≤ m.toInt ∧ m.toInt ≤ 99))]) rfl ?_)
    refine J_ifB_eq hX 36 dX8_year_21 (by decide) (fun h21 => ?_) (fun h21 => ?_)
    · skip
      refine J_bipush (v := (-2)) hX dX8_year_36 (by decide) ?_
      exact J_ret hX hZ dX8_year_38 rfl rfl ⟨by rw [m_year]; (first | rw [if_pos h9] | rw [if_neg h9]); (first | rw [if_pos h21] | rw [if_neg h21]), by rw [m_year]; (first | rw [if_pos h9] | rw [if_neg h9]); (first | rw [if_pos h21] | rw [if_neg h21]), rfl⟩
    · skip
      refine J_iload_n hX 3 dX8_year_24 rfl ?_
      refine J_i2l hX dX8_year_25 ?_
      refine J_lconst (v := 0) hX dX8_year_26 (by decide) ?_
      refine J_ldc2 hX dX8_year_27 wm_16_7 ?_
      refine J_callS hX [.long (Int32.toInt64 k), .long (0 : Int64), .long (2 : Int64)] [] dX8_year_30 (c_X8_in l D a g M L k (0 : Int64) (2 : Int64)) lk_X8_80 rfl rfl (Nat.le_of_ble_eq_true rfl) (Nat.le_of_ble_eq_true rfl) (Nat.le_of_ble_eq_true rfl) (J_eq (st := [.int (jB (0 ≤ k.toInt ∧ k.toInt ≤ 2))]) rfl ?_)
      refine J_ifB_ne hX 39 dX8_year_33 (by decide) (fun h33 => ?_) (fun h33 => ?_)
      · skip
        refine J_aload_n hX 0 dX8_year_39 rfl ?_
        refine J_callV hX 77 [] [] dX8_year_40 (c_X8_keepNow l D a g M L ) lk_X8_212 jc_77 rfl rfl rfl (Nat.le_of_ble_eq_true rfl) (Nat.le_of_ble_eq_true rfl) (Nat.le_of_ble_eq_true rfl) (J_eq (st := []) rfl ?_)
        have is := jix h9
        have ls := jixl h9
        have im : m = nI m.toNatClampNeg := jix (b := 99) ⟨by omega, h21.2⟩
        have lm := jixl (o := m) (b := 99) ⟨by omega, h21.2⟩
        refine J_seti (y := nI s.toNatClampNeg) (loc' := [(0, .ref (a 77)), (1, .int (nI s.toNatClampNeg)), (2, .int m), (3, .int k)]) 1 rfl is rfl ?_
        refine J_seti (y := nI m.toNatClampNeg) (loc' := [(0, .ref (a 77)), (1, .int (nI s.toNatClampNeg)), (2, .int (nI m.toNatClampNeg)), (3, .int k)]) 2 rfl im rfl ?_
        refine J_iload_n hX 1 dX8_year_43 rfl ?_
        refine J_istore (loc' := [(4, .int (nI s.toNatClampNeg)), (0, .ref (a 77)), (1, .int (nI s.toNatClampNeg)), (2, .int (nI m.toNatClampNeg)), (3, .int k)]) hX dX8_year_44 (by decide) rfl ?_
        refine J_iconst (v := 0) hX dX8_year_46 (by decide) ?_
        refine J_istore (loc' := [(5, .int 0), (4, .int (nI s.toNatClampNeg)), (0, .ref (a 77)), (1, .int (nI s.toNatClampNeg)), (2, .int (nI m.toNatClampNeg)), (3, .int k)]) hX dX8_year_47 (by decide) rfl ?_
        have key49 : ∀ (fu49 : Nat) (i : Nat), m.toNatClampNeg - i < fu49 → (i ≤ m.toNatClampNeg) → J l D a g G 9 (m_yM M s.toNatClampNeg i) L 49 [(0, .ref (a 77)), (2, .int (nI m.toNatClampNeg)), (3, .int k), (4, .int (nI (x_yx s.toNatClampNeg i))), (5, .int (nI i))] [] := by
          intro fu49
          induction fu49 with
          | zero => intro i hmu; exact absurd hmu (Nat.not_lt_zero _)
          | succ fu49 ih49 =>
            intro i hmu49 hi
            have bx := x_yx_lt (s := s.toNatClampNeg) (by omega) i
            have by_ := x_yx_lt (s := s.toNatClampNeg) (by omega) (i + 1)
            refine J_iload hX 4 dX8_year_49 rfl ?_
            refine J_iload_n hX 1 dX8_year_51 rfl ?_
            refine J_cmpN_ge hX 134 i m.toNatClampNeg dX8_year_52 (by decide) rfl rfl (by omega) (by omega) (fun h52 => ?_) (fun h52 => ?_)
            · skip
              have ei : i = m.toNatClampNeg := by omega
              refine J_iload_n hX 2 dX8_year_134 rfl ?_
              refine J_if_ne hX 145 dX8_year_135 (by decide) (fun h135 => ?_) (fun h135 => ?_)
              · skip
                refine J_iload_n hX 2 dX8_year_145 rfl ?_
                refine J_iconst (v := 1) hX dX8_year_146 (by decide) ?_
                refine J_icmp_ne hX 157 dX8_year_147 (by decide) (fun h147 => ?_) (fun h147 => ?_)
                · skip
                  refine J_aload_n hX 0 dX8_year_157 rfl ?_
                  refine J_bipush (v := (-6)) hX dX8_year_158 (by decide) ?_
                  refine J_callV hX 77 [.int (-6)] [] dX8_year_160 (c_X8_lotsOf l D a g (m_yM M s.toNatClampNeg i) L (-6)) lk_X8_229 jc_77 rfl rfl rfl (Nat.le_of_ble_eq_true rfl) (Nat.le_of_ble_eq_true rfl) (Nat.le_of_ble_eq_true rfl) (J_eq (st := [.int (m_lotsOf (m_yM M s.toNatClampNeg i) (-6))]) rfl ?_)
                  refine J_callS hX [.int (m_lotsOf (m_yM M s.toNatClampNeg i) (-6))] [] dX8_year_163 (c_X8_bitsOf l D a g (m_yM M s.toNatClampNeg i) L (m_lotsOf (m_yM M s.toNatClampNeg i) (-6)) (m_lots_le _ _)) lk_X8_279 rfl rfl (Nat.le_of_ble_eq_true rfl) (Nat.le_of_ble_eq_true rfl) (Nat.le_of_ble_eq_true rfl) (J_eq (st := [.int (m_bc (m_lotsOf (m_yM M s.toNatClampNeg i) (-6)))]) rfl ?_)
                  refine J_topi (y := if k = 0 then m_notes (m_yM M s.toNatClampNeg i) else if k = 1 then m_rate (m_yM M s.toNatClampNeg i) else m_bc (m_lotsOf (m_yM M s.toNatClampNeg i) (-6))) (by (first | rw [if_pos h135] | rw [if_neg h135] | rw [if_pos (Classical.not_not.mp h135)]); (first | rw [if_pos h147] | rw [if_neg h147] | rw [if_pos (Classical.not_not.mp h147)])) ?_
                  refine J_istore (loc' := [(5, .int (if k = 0 then m_notes (m_yM M s.toNatClampNeg i) else if k = 1 then m_rate (m_yM M s.toNatClampNeg i) else m_bc (m_lotsOf (m_yM M s.toNatClampNeg i) (-6)))), (0, .ref (a 77)), (2, .int (nI m.toNatClampNeg)), (3, .int k), (4, .int (nI (x_yx s.toNatClampNeg i)))]) hX dX8_year_166 (by decide) rfl ?_
                  refine J_aload_n hX 1 dX8_year_168 rfl ?_
                  refine J_iload hX 0 dX8_year_169 rfl ?_
                  refine J_callV hX 77 [.int (if k = 0 then m_notes (m_yM M s.toNatClampNeg i) else if k = 1 then m_rate (m_yM M s.toNatClampNeg i) else m_bc (m_lotsOf (m_yM M s.toNatClampNeg i) (-6)))] [] dX8_year_171 (c_X8_back l D a g (m_yM M s.toNatClampNeg i) L (if k = 0 then m_notes (m_yM M s.toNatClampNeg i) else if k = 1 then m_rate (m_yM M s.toNatClampNeg i) else m_bc (m_lotsOf (m_yM M s.toNatClampNeg i) (-6)))) lk_X8_226 jc_77 rfl rfl rfl (Nat.le_of_ble_eq_true rfl) (Nat.le_of_ble_eq_true rfl) (Nat.le_of_ble_eq_true rfl) (J_eq (st := [.int (if k = 0 then m_notes (m_yM M s.toNatClampNeg i) else if k = 1 then m_rate (m_yM M s.toNatClampNeg i) else m_bc (m_lotsOf (m_yM M s.toNatClampNeg i) (-6)))]) rfl ?_)
                  exact J_ret hX hZ dX8_year_174 rfl rfl ⟨by rw [m_year, if_pos h9, if_pos h21, if_pos h33, ei], by rw [m_year, if_pos h9, if_pos h21, if_pos h33, ei], rfl⟩
                · skip
                  refine J_aload_n hX 0 dX8_year_150 rfl ?_
                  refine J_callV hX 77 [] [] dX8_year_151 (c_X8_rate l D a g (m_yM M s.toNatClampNeg i) L ) lk_X8_164 jc_77 rfl rfl rfl (Nat.le_of_ble_eq_true rfl) (Nat.le_of_ble_eq_true rfl) (Nat.le_of_ble_eq_true rfl) (J_eq (st := [.int (m_rate (m_yM M s.toNatClampNeg i))]) rfl ?_)
                  refine J_goto hX 166 dX8_year_154 (by decide) ?_
                  refine J_topi (y := if k = 0 then m_notes (m_yM M s.toNatClampNeg i) else if k = 1 then m_rate (m_yM M s.toNatClampNeg i) else m_bc (m_lotsOf (m_yM M s.toNatClampNeg i) (-6))) (by (first | rw [if_pos h135] | rw [if_neg h135] | rw [if_pos (Classical.not_not.mp h135)]); (first | rw [if_pos h147] | rw [if_neg h147] | rw [if_pos (Classical.not_not.mp h147)])) ?_
                  refine J_istore (loc' := [(5, .int (if k = 0 then m_notes (m_yM M s.toNatClampNeg i) else if k = 1 then m_rate (m_yM M s.toNatClampNeg i) else m_bc (m_lotsOf (m_yM M s.toNatClampNeg i) (-6)))), (0, .ref (a 77)), (2, .int (nI m.toNatClampNeg)), (3, .int k), (4, .int (nI (x_yx s.toNatClampNeg i)))]) hX dX8_year_166 (by decide) rfl ?_
                  refine J_aload_n hX 1 dX8_year_168 rfl ?_
                  refine J_iload hX 0 dX8_year_169 rfl ?_
                  refine J_callV hX 77 [.int (if k = 0 then m_notes (m_yM M s.toNatClampNeg i) else if k = 1 then m_rate (m_yM M s.toNatClampNeg i) else m_bc (m_lotsOf (m_yM M s.toNatClampNeg i) (-6)))] [] dX8_year_171 (c_X8_back l D a g (m_yM M s.toNatClampNeg i) L (if k = 0 then m_notes (m_yM M s.toNatClampNeg i) else if k = 1 then m_rate (m_yM M s.toNatClampNeg i) else m_bc (m_lotsOf (m_yM M s.toNatClampNeg i) (-6)))) lk_X8_226 jc_77 rfl rfl rfl (Nat.le_of_ble_eq_true rfl) (Nat.le_of_ble_eq_true rfl) (Nat.le_of_ble_eq_true rfl) (J_eq (st := [.int (if k = 0 then m_notes (m_yM M s.toNatClampNeg i) else if k = 1 then m_rate (m_yM M s.toNatClampNeg i) else m_bc (m_lotsOf (m_yM M s.toNatClampNeg i) (-6)))]) rfl ?_)
                  exact J_ret hX hZ dX8_year_174 rfl rfl ⟨by rw [m_year, if_pos h9, if_pos h21, if_pos h33, ei], by rw [m_year, if_pos h9, if_pos h21, if_pos h33, ei], rfl⟩
              · skip
                refine J_aload_n hX 0 dX8_year_138 rfl ?_
                refine J_callV hX 77 [] [] dX8_year_139 (c_X8_notes l D a g (m_yM M s.toNatClampNeg i) L ) lk_X8_157 jc_77 rfl rfl rfl (Nat.le_of_ble_eq_true rfl) (Nat.le_of_ble_eq_true rfl) (Nat.le_of_ble_eq_true rfl) (J_eq (st := [.int (m_notes (m_yM M s.toNatClampNeg i))]) rfl ?_)
                refine J_goto hX 166 dX8_year_142 (by decide) ?_
                refine J_topi (y := if k = 0 then m_notes (m_yM M s.toNatClampNeg i) else if k = 1 then m_rate (m_yM M s.toNatClampNeg i) else m_bc (m_lotsOf (m_yM M s.toNatClampNeg i) (-6))) (by (first | rw [if_pos h135] | rw [if_neg h135] | rw [if_pos (Classical.not_not.mp h135)])) ?_
                refine J_istore (loc' := [(5, .int (if k = 0 then m_notes (m_yM M s.toNatClampNeg i) else if k = 1 then m_rate (m_yM M s.toNatClampNeg i) else m_bc (m_lotsOf (m_yM M s.toNatClampNeg i) (-6)))), (0, .ref (a 77)), (2, .int (nI m.toNatClampNeg)), (3, .int k), (4, .int (nI (x_yx s.toNatClampNeg i)))]) hX dX8_year_166 (by decide) rfl ?_
                refine J_aload_n hX 1 dX8_year_168 rfl ?_
                refine J_iload hX 0 dX8_year_169 rfl ?_
                refine J_callV hX 77 [.int (if k = 0 then m_notes (m_yM M s.toNatClampNeg i) else if k = 1 then m_rate (m_yM M s.toNatClampNeg i) else m_bc (m_lotsOf (m_yM M s.toNatClampNeg i) (-6)))] [] dX8_year_171 (c_X8_back l D a g (m_yM M s.toNatClampNeg i) L (if k = 0 then m_notes (m_yM M s.toNatClampNeg i) else if k = 1 then m_rate (m_yM M s.toNatClampNeg i) else m_bc (m_lotsOf (m_yM M s.toNatClampNeg i) (-6)))) lk_X8_226 jc_77 rfl rfl rfl (Nat.le_of_ble_eq_true rfl) (Nat.le_of_ble_eq_true rfl) (Nat.le_of_ble_eq_true rfl) (J_eq (st := [.int (if k = 0 then m_notes (m_yM M s.toNatClampNeg i) else if k = 1 then m_rate (m_yM M s.toNatClampNeg i) else m_bc (m_lotsOf (m_yM M s.toNatClampNeg i) (-6)))]) rfl ?_)
                exact J_ret hX hZ dX8_year_174 rfl rfl ⟨by rw [m_year, if_pos h9, if_pos h21, if_pos h33, ei], by rw [m_year, if_pos h9, if_pos h21, if_pos h33, ei], rfl⟩
            · skip
              refine J_ldc2 hX dX8_year_55 wm_31_6 ?_
              refine J_iload hX 3 dX8_year_58 rfl ?_
              refine J_i2l hX dX8_year_60 ?_
              refine J_topl (y := lN (x_yx s.toNatClampNeg i)) (nI_l (by omega)) ?_
              refine J_lmul hX dX8_year_61 ?_
              refine J_topl (y := lN (75 * x_yx s.toNatClampNeg i)) (lN_mul 75 _) ?_
              refine J_ldc2 hX dX8_year_62 wm_31_7 ?_
              refine J_ladd hX dX8_year_65 ?_
              refine J_topl (y := lN (75 * x_yx s.toNatClampNeg i + 74)) (lN_add _ 74) ?_
              refine J_ldc2 hX dX8_year_66 wm_31_8 ?_
              refine J_lrem hX dX8_year_69 (by decide) ?_
              refine J_topl (y := lN (x_yx s.toNatClampNeg (i + 1))) (pk_lRem (b := 65537) (by omega) (by omega) (by omega)) ?_
              refine J_l2i hX dX8_year_70 ?_
              refine J_topi (y := nI (x_yx s.toNatClampNeg (i + 1))) (lN_i _) ?_
              refine J_istore (loc' := [(4, .int (nI (x_yx s.toNatClampNeg (i + 1)))), (0, .ref (a 77)), (2, .int (nI m.toNatClampNeg)), (3, .int k), (5, .int (nI i))]) hX dX8_year_71 (by decide) rfl ?_
              refine J_iload hX 0 dX8_year_73 rfl ?_
              refine J_bipush (v := 6) hX dX8_year_75 (by decide) ?_
              refine J_idiv hX dX8_year_77 (by decide) ?_
              refine J_topi (y := nI (x_yx s.toNatClampNeg (i + 1) / 6)) (pk_div (d := 6) (by omega) (by omega) (by omega)) ?_
              refine J_bipush (v := 8) hX dX8_year_78 (by decide) ?_
              refine J_irem hX dX8_year_80 (by decide) ?_
              refine J_topi (y := nI (x_yx s.toNatClampNeg (i + 1) / 6 % 8)) (pk_rem (d := 8) (by omega) (by omega) (by omega)) ?_
              refine J_callS hX [.int (nI (x_yx s.toNatClampNeg (i + 1) / 6 % 8))] [] dX8_year_81 (c_X8_actBy l D a g (m_yM M s.toNatClampNeg i) L (nI (x_yx s.toNatClampNeg (i + 1) / 6 % 8))) lk_X8_295 rfl rfl (Nat.le_of_ble_eq_true rfl) (Nat.le_of_ble_eq_true rfl) (Nat.le_of_ble_eq_true rfl) (J_eq (st := [.int (m_actBy (nI (x_yx s.toNatClampNeg (i + 1) / 6 % 8)))]) rfl ?_)
              refine J_topi (y := m_yh (x_yx s.toNatClampNeg (i + 1))) rfl ?_
              refine J_istore (loc' := [(6, .int (m_yh (x_yx s.toNatClampNeg (i + 1)))), (4, .int (nI (x_yx s.toNatClampNeg (i + 1)))), (0, .ref (a 77)), (2, .int (nI m.toNatClampNeg)), (3, .int k), (5, .int (nI i))]) hX dX8_year_84 (by decide) rfl ?_
              refine J_iload hX 1 dX8_year_86 rfl ?_
              refine J_bipush (v := 6) hX dX8_year_88 (by decide) ?_
              refine J_irem hX dX8_year_90 (by decide) ?_
              refine J_topi (y := nI (x_yx s.toNatClampNeg (i + 1) % 6)) (pk_rem (d := 6) (by omega) (by omega) (by omega)) ?_
              refine J_istore (loc' := [(7, .int (nI (x_yx s.toNatClampNeg (i + 1) % 6))), (6, .int (m_yh (x_yx s.toNatClampNeg (i + 1)))), (4, .int (nI (x_yx s.toNatClampNeg (i + 1)))), (0, .ref (a 77)), (2, .int (nI m.toNatClampNeg)), (3, .int k), (5, .int (nI i))]) hX dX8_year_91 (by decide) rfl ?_
              refine J_iload hX 1 dX8_year_93 rfl ?_
              refine J_iload hX 2 dX8_year_95 rfl ?_
              refine J_bipush (v := 48) hX dX8_year_97 (by decide) ?_
              refine J_idiv hX dX8_year_99 (by decide) ?_
              refine J_topi (y := nI (x_yx s.toNatClampNeg (i + 1) / 48)) (pk_div (d := 48) (by omega) (by omega) (by omega)) ?_
              refine J_callS hX [.int (m_yh (x_yx s.toNatClampNeg (i + 1))), .int (nI (x_yx s.toNatClampNeg (i + 1) / 48))] [] dX8_year_100 (c_X8_muchBy l D a g (m_yM M s.toNatClampNeg i) L (m_yh (x_yx s.toNatClampNeg (i + 1))) (x_yx s.toNatClampNeg (i + 1) / 48) (by omega)) lk_X8_298 rfl rfl (Nat.le_of_ble_eq_true rfl) (Nat.le_of_ble_eq_true rfl) (Nat.le_of_ble_eq_true rfl) (J_eq (st := [.int (m_muchBy (m_yh (x_yx s.toNatClampNeg (i + 1))) (x_yx s.toNatClampNeg (i + 1) / 48))]) rfl ?_)
              refine J_topi (y := m_yv (x_yx s.toNatClampNeg (i + 1))) rfl ?_
              refine J_istore (loc' := [(8, .int (m_yv (x_yx s.toNatClampNeg (i + 1)))), (7, .int (nI (x_yx s.toNatClampNeg (i + 1) % 6))), (6, .int (m_yh (x_yx s.toNatClampNeg (i + 1)))), (4, .int (nI (x_yx s.toNatClampNeg (i + 1)))), (0, .ref (a 77)), (2, .int (nI m.toNatClampNeg)), (3, .int k), (5, .int (nI i))]) hX dX8_year_103 (by decide) rfl ?_
              refine J_aload_n hX 4 dX8_year_105 rfl ?_
              refine J_iload hX 2 dX8_year_106 rfl ?_
              refine J_iload hX 1 dX8_year_108 rfl ?_
              refine J_iload hX 0 dX8_year_110 rfl ?_
              refine J_callV hX 77 [.int (m_yh (x_yx s.toNatClampNeg (i + 1))), .int (nI (x_yx s.toNatClampNeg (i + 1) % 6)), .int (m_yv (x_yx s.toNatClampNeg (i + 1)))] [] dX8_year_112 (c_X8_whyNot l D a g (m_yM M s.toNatClampNeg i) L (m_yh (x_yx s.toNatClampNeg (i + 1))) (x_yx s.toNatClampNeg (i + 1) % 6) (by omega) (m_yv (x_yx s.toNatClampNeg (i + 1))) m_yv2 m_yv4) lk_X8_205 jc_77 rfl rfl rfl (Nat.le_of_ble_eq_true rfl) (Nat.le_of_ble_eq_true rfl) (Nat.le_of_ble_eq_true rfl) (J_eq (st := [.int (m_whyNot (m_yM M s.toNatClampNeg i) (m_yh (x_yx s.toNatClampNeg (i + 1))) (x_yx s.toNatClampNeg (i + 1) % 6) (m_yv (x_yx s.toNatClampNeg (i + 1))))]) rfl ?_)
              refine J_if_ne hX 128 dX8_year_115 (by decide) (fun h115 => ?_) (fun h115 => ?_)
              · skip
                refine J_cg (M' := m_yM M s.toNatClampNeg (i + 1)) (by rw [m_yM, m_yA]; (first | rw [if_neg h115] | rw [if_pos h115] | rw [if_pos (Classical.not_not.mp h115)])) rfl rfl rfl ?_
                refine J_iinc (v := nI (i + 1)) (loc' := [(5, .int (nI (i + 1))), (8, .int (m_yv (x_yx s.toNatClampNeg (i + 1)))), (7, .int (nI (x_yx s.toNatClampNeg (i + 1) % 6))), (6, .int (m_yh (x_yx s.toNatClampNeg (i + 1)))), (4, .int (nI (x_yx s.toNatClampNeg (i + 1)))), (0, .ref (a 77)), (2, .int (nI m.toNatClampNeg)), (3, .int k)]) hX 7 dX8_year_128 rfl (jinc i) (by decide) rfl ?_
                refine J_goto hX 49 dX8_year_131 (by decide) ?_
                refine J_sub (loc' := [(0, .ref (a 77)), (2, .int (nI m.toNatClampNeg)), (3, .int k), (4, .int (nI (x_yx s.toNatClampNeg (i + 1)))), (5, .int (nI (i + 1)))]) [5, 6, 7, 4, 0] rfl ?_
                exact ih49  (i + 1) (by omega) (by omega)
              · skip
                refine J_aload_n hX 4 dX8_year_118 rfl ?_
                refine J_iload hX 2 dX8_year_119 rfl ?_
                refine J_iload hX 1 dX8_year_121 rfl ?_
                refine J_iload hX 0 dX8_year_123 rfl ?_
                refine J_callV hX 77 [.int (m_yh (x_yx s.toNatClampNeg (i + 1))), .int (nI (x_yx s.toNatClampNeg (i + 1) % 6)), .int (m_yv (x_yx s.toNatClampNeg (i + 1)))] [] dX8_year_125 (c_X8_happen l D a g (m_yM M s.toNatClampNeg i) L (m_yh (x_yx s.toNatClampNeg (i + 1))) (x_yx s.toNatClampNeg (i + 1) % 6) (by omega) (m_yv (x_yx s.toNatClampNeg (i + 1))) m_yv2 m_yv4) lk_X8_208 jc_77 rfl rfl rfl (Nat.le_of_ble_eq_true rfl) (Nat.le_of_ble_eq_true rfl) (Nat.le_of_ble_eq_true rfl) (J_eq (st := []) rfl ?_)
                refine J_cg (M' := m_yM M s.toNatClampNeg (i + 1)) (by rw [m_yM, m_yA]; (first | rw [if_neg h115] | rw [if_pos h115] | rw [if_pos (Classical.not_not.mp h115)])) rfl rfl rfl ?_
                refine J_iinc (v := nI (i + 1)) (loc' := [(5, .int (nI (i + 1))), (8, .int (m_yv (x_yx s.toNatClampNeg (i + 1)))), (7, .int (nI (x_yx s.toNatClampNeg (i + 1) % 6))), (6, .int (m_yh (x_yx s.toNatClampNeg (i + 1)))), (4, .int (nI (x_yx s.toNatClampNeg (i + 1)))), (0, .ref (a 77)), (2, .int (nI m.toNatClampNeg)), (3, .int k)]) hX 7 dX8_year_128 rfl (jinc i) (by decide) rfl ?_
                refine J_goto hX 49 dX8_year_131 (by decide) ?_
                refine J_sub (loc' := [(0, .ref (a 77)), (2, .int (nI m.toNatClampNeg)), (3, .int k), (4, .int (nI (x_yx s.toNatClampNeg (i + 1)))), (5, .int (nI (i + 1)))]) [5, 6, 7, 4, 0] rfl ?_
                exact ih49  (i + 1) (by omega) (by omega)
        refine J_sub (loc' := [(0, .ref (a 77)), (2, .int (nI m.toNatClampNeg)), (3, .int k), (4, .int (nI s.toNatClampNeg)), (5, .int 0)]) [2, 4, 5, 1, 0] rfl ?_
        refine J_seti (y := nI (x_yx s.toNatClampNeg 0)) (loc' := [(0, .ref (a 77)), (2, .int (nI m.toNatClampNeg)), (3, .int k), (4, .int (nI (x_yx s.toNatClampNeg 0))), (5, .int 0)]) 3 rfl rfl rfl ?_
        refine J_seti (y := nI 0) (loc' := [(0, .ref (a 77)), (2, .int (nI m.toNatClampNeg)), (3, .int k), (4, .int (nI (x_yx s.toNatClampNeg 0))), (5, .int (nI 0))]) 4 rfl rfl rfl ?_
        refine J_cg (M' := m_yM M s.toNatClampNeg 0) (L' := L) rfl rfl rfl rfl ?_
        exact key49 _ 0 (Nat.lt_succ_self _) (by omega)
      · skip
        refine J_bipush (v := (-2)) hX dX8_year_36 (by decide) ?_
        exact J_ret hX hZ dX8_year_38 rfl rfl ⟨by rw [m_year]; (first | rw [if_pos h9] | rw [if_neg h9]); (first | rw [if_pos h21] | rw [if_neg h21]); (first | rw [if_pos h33] | rw [if_neg h33]), by rw [m_year]; (first | rw [if_pos h9] | rw [if_neg h9]); (first | rw [if_pos h21] | rw [if_neg h21]); (first | rw [if_pos h33] | rw [if_neg h33]), rfl⟩
