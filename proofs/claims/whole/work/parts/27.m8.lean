def m_pv (M : jM) (k : Nat) (v : Int32) : Int32 := if M 77 33 = 0 then M 98 k else v
def m_pM (M : jM) (k : Nat) (v : Int32) : jM := jU (jU M 98 k (m_pv M k v)) 77 32 (nI (k + 1))
set_option maxHeartbeats 4000000 in
set_option maxRecDepth 10000 in
theorem c_X8_pass (l : Launch) (D : va_G) (a : Nat → Nat) (g : Nat → ClassId) (M : jM) (L : jL) (k : Nat) (hk : M 77 32 = nI k) (hk2 : k < 200) (v : Int32)  : jK l D a g yX8_pass cX8_pass 3 (some .int) 0 0 [.ref (a 77), .int v] M L (some (.int (m_pv M k v))) (m_pM M k v) L := by
  refine jMeth (by decide) (Nat.le_of_ble_eq_true rfl) ?_
  intro G hX hZ
  refine J_cg (loc' := [(0, .ref (a 77)), (1, .int v)]) rfl rfl rfl rfl ?_
  refine J_aload_n hX 0 dX8_pass_0 rfl ?_
  refine J_geti hX 77 33 dX8_pass_1 jc_77 rfl rfl (by decide) inlX8 wm_32_8 ?_
  refine J_if_eq hX 11 dX8_pass_4 (by decide) (fun h4 => ?_) (fun h4 => ?_)
  · skip
    refine J_aload_n hX 0 dX8_pass_11 rfl ?_
    refine J_getr hX 77 30 dX8_pass_12 jc_77 rfl rfl (by decide) inlX8 wm_5_15 ?_
    refine J_aload_n hX 0 dX8_pass_15 rfl ?_
    refine J_geti hX 77 32 dX8_pass_16 jc_77 rfl rfl (by decide) inlX8 wm_32_7 ?_
    refine J_iald hX 98 k dX8_pass_19 jc_98 hk (by omega) (by omega) ?_
    refine J_topi (y := m_pv M k v) (by rw [m_pv]; (first | rw [if_pos h4] | rw [if_neg h4])) ?_
    refine J_istore_n (loc' := [(2, .int (m_pv M k v)), (0, .ref (a 77)), (1, .int v)]) hX dX8_pass_20 (by decide) rfl ?_
    refine J_aload_n hX 1 dX8_pass_21 rfl ?_
    refine J_getr hX 77 30 dX8_pass_22 jc_77 rfl rfl (by decide) inlX8 wm_5_15 ?_
    refine J_aload_n hX 1 dX8_pass_25 rfl ?_
    refine J_geti hX 77 32 dX8_pass_26 jc_77 rfl rfl (by decide) inlX8 wm_32_7 ?_
    refine J_iload_n hX 0 dX8_pass_29 rfl ?_
    refine J_iast hX 98 k dX8_pass_30 jc_98 hk (by omega) (by omega) ?_
    refine J_aload_n hX 1 dX8_pass_31 rfl ?_
    refine J_dup hX dX8_pass_32 rfl ?_
    refine J_geti hX 77 32 dX8_pass_33 jc_77 rfl rfl (by decide) inlX8 wm_32_7 ?_
    refine J_topi (y := nI k) (by simpa [jU] using hk) ?_
    refine J_iconst (v := 1) hX dX8_pass_36 (by decide) ?_
    refine J_iadd hX dX8_pass_37 ?_
    refine J_topi (y := nI (k + 1)) (nI_1 k) ?_
    refine J_puti (ty := .int) hX 77 32 dX8_pass_38 jc_77 rfl rfl (by decide) inlX8 wm_32_7 tyX8 tyX8_ok nmX8 rfl (by decide +kernel) rfl rfl ?_
    refine J_iload_n hX 0 dX8_pass_41 rfl ?_
    exact J_ret hX hZ dX8_pass_42 rfl rfl ⟨rfl, rfl, rfl⟩
  · skip
    refine J_iload_n hX 1 dX8_pass_7 rfl ?_
    refine J_goto hX 20 dX8_pass_8 (by decide) ?_
    refine J_topi (y := m_pv M k v) (by rw [m_pv]; (first | rw [if_pos h4] | rw [if_neg h4])) ?_
    refine J_istore_n (loc' := [(2, .int (m_pv M k v)), (0, .ref (a 77)), (1, .int v)]) hX dX8_pass_20 (by decide) rfl ?_
    refine J_aload_n hX 1 dX8_pass_21 rfl ?_
    refine J_getr hX 77 30 dX8_pass_22 jc_77 rfl rfl (by decide) inlX8 wm_5_15 ?_
    refine J_aload_n hX 1 dX8_pass_25 rfl ?_
    refine J_geti hX 77 32 dX8_pass_26 jc_77 rfl rfl (by decide) inlX8 wm_32_7 ?_
    refine J_iload_n hX 0 dX8_pass_29 rfl ?_
    refine J_iast hX 98 k dX8_pass_30 jc_98 hk (by omega) (by omega) ?_
    refine J_aload_n hX 1 dX8_pass_31 rfl ?_
    refine J_dup hX dX8_pass_32 rfl ?_
    refine J_geti hX 77 32 dX8_pass_33 jc_77 rfl rfl (by decide) inlX8 wm_32_7 ?_
    refine J_topi (y := nI k) (by simpa [jU] using hk) ?_
    refine J_iconst (v := 1) hX dX8_pass_36 (by decide) ?_
    refine J_iadd hX dX8_pass_37 ?_
    refine J_topi (y := nI (k + 1)) (nI_1 k) ?_
    refine J_puti (ty := .int) hX 77 32 dX8_pass_38 jc_77 rfl rfl (by decide) inlX8 wm_32_7 tyX8 tyX8_ok nmX8 rfl (by decide +kernel) rfl rfl ?_
    refine J_iload_n hX 0 dX8_pass_41 rfl ?_
    exact J_ret hX hZ dX8_pass_42 rfl rfl ⟨rfl, rfl, rfl⟩
def m_row (M : jM) (k r : Nat) : Nat → jM
  | 0 => M
  | i + 1 => jU (m_pM (m_row M k r i) (k + i) (m_row M k r i r i)) r i (m_pv (m_row M k r i) (k + i) (m_row M k r i r i))
theorem m_row_32 {M : jM} {k r : Nat} (hr : r ≠ 77) (hk : M 77 32 = nI k) : ∀ i, m_row M k r i 77 32 = nI (k + i) := by
  intro i
  induction i with
  | zero => exact hk
  | succ i ih =>
    rw [m_row, jU_cell (by omega)]
    unfold m_pM
    rw [jU_same]
    rfl
def m_sc (M : jM) (k f : Nat) : jM := jU (m_pM M k (M 77 f)) 77 f (m_pv M k (M 77 f))
theorem m_sc_32 {M : jM} {k f : Nat} (hf : f ≠ 32) : m_sc M k f 77 32 = nI (k + 1) := by
  unfold m_sc m_pM
  rw [jU_slot (by omega), jU_same]
set_option maxHeartbeats 4000000 in
set_option maxRecDepth 10000 in
theorem c_X8_passRow (l : Launch) (D : va_G) (a : Nat → Nat) (g : Nat → ClassId) (M : jM) (L : jL) (r n : Nat) (hr : jCs[r]? = some (ji 0 n)) (hr7 : r ≠ 77) (hn : n < 1000) (k : Nat) (hk : M 77 32 = nI k) (m : Nat) (hm : m ≤ n) (hkm : k + m ≤ 200)  : jK l D a g yX8_passRow cX8_passRow 4 none 1 22 [.ref (a 77), .ref (a r), .int (nI m)] M L none (m_row M k r m) L := by
  refine jMeth (by decide) (Nat.le_of_ble_eq_true rfl) ?_
  intro G hX hZ
  refine J_cg (loc' := [(0, .ref (a 77)), (1, .ref (a r)), (2, .int (nI m))]) rfl rfl rfl rfl ?_
  refine J_iconst (v := 0) hX dX8_passRow_0 (by decide) ?_
  refine J_istore_n (loc' := [(3, .int 0), (0, .ref (a 77)), (1, .ref (a r)), (2, .int (nI m))]) hX dX8_passRow_1 (by decide) rfl ?_
  have key2 : ∀ (fu2 : Nat) (i : Nat), m - i < fu2 → (i ≤ m) → J l D a g G 4 (m_row M k r i) L 2 [(0, .ref (a 77)), (1, .ref (a r)), (2, .int (nI m)), (3, .int (nI i))] [] := by
    intro fu2
    induction fu2 with
    | zero => intro i hmu; exact absurd hmu (Nat.not_lt_zero _)
    | succ fu2 ih2 =>
      intro i hmu2 hi
      refine J_iload_n hX 3 dX8_passRow_2 rfl ?_
      refine J_iload_n hX 2 dX8_passRow_3 rfl ?_
      refine J_cmpN_ge hX 23 i m dX8_passRow_4 (by decide) rfl rfl (by omega) (by omega) (fun h4 => ?_) (fun h4 => ?_)
      · skip
        exact J_vret hX hZ dX8_passRow_23 ⟨rfl, by rw [show i = m by omega], rfl⟩
      · skip
        refine J_aload_n hX 1 dX8_passRow_7 rfl ?_
        refine J_iload_n hX 3 dX8_passRow_8 rfl ?_
        refine J_aload_n hX 0 dX8_passRow_9 rfl ?_
        refine J_aload_n hX 1 dX8_passRow_10 rfl ?_
        refine J_iload_n hX 3 dX8_passRow_11 rfl ?_
        refine J_iald hX r i dX8_passRow_12 hr rfl (by omega) (by omega) ?_
        refine J_callV hX 77 [.int ((m_row M k r i) r i)] [.int (nI i), .ref (a r)] dX8_passRow_13 (c_X8_pass l D a g (m_row M k r i) L (k + i) (m_row_32 hr7 hk i) (by omega) ((m_row M k r i) r i)) lk_X8_308 jc_77 rfl rfl rfl (Nat.le_of_ble_eq_true rfl) (Nat.le_of_ble_eq_true rfl) (Nat.le_of_ble_eq_true rfl) (J_eq (st := [.int (m_pv (m_row M k r i) (k + i) ((m_row M k r i) r i)), .int (nI i), .ref (a r)]) rfl ?_)
        refine J_iast hX r i dX8_passRow_16 hr rfl (by omega) (by omega) ?_
        refine J_iinc (v := nI (i + 1)) (loc' := [(3, .int (nI (i + 1))), (0, .ref (a 77)), (1, .ref (a r)), (2, .int (nI m))]) hX 3 dX8_passRow_17 rfl (jinc i) (by decide) rfl ?_
        refine J_goto hX 2 dX8_passRow_20 (by decide) ?_
        refine J_sub (loc' := [(0, .ref (a 77)), (1, .ref (a r)), (2, .int (nI m)), (3, .int (nI (i + 1)))]) [1, 2, 3, 0] rfl ?_
        refine J_cg (M' := m_row M k r (i + 1)) (L' := L) rfl rfl rfl rfl ?_
        exact ih2  (i + 1) (by omega) (by omega)
  refine J_sub (loc' := [(0, .ref (a 77)), (1, .ref (a r)), (2, .int (nI m)), (3, .int 0)]) [1, 2, 3, 0] rfl ?_
  refine J_seti (y := nI 0) (loc' := [(0, .ref (a 77)), (1, .ref (a r)), (2, .int (nI m)), (3, .int (nI 0))]) 3 rfl rfl rfl ?_
  refine J_cg (M' := m_row M k r 0) (L' := L) rfl rfl rfl rfl ?_
  exact key2 _ 0 (Nat.lt_succ_self _) (by omega)
def m_pA0 (M : jM) (k : Nat) : jM := m_sc (m_sc (m_sc (m_sc (m_sc M k 5) (k + 1) 6) (k + 2) 7) (k + 3) 8) (k + 4) 12
theorem m_pA0_32 {M : jM} {k : Nat} : m_pA0 M k 77 32 = nI (k + 5) := m_sc_32 (by decide)
def m_pA1 (M : jM) (k : Nat) : jM := m_row (m_pA0 M k) (k + 5) 78 6
def m_pA2 (M : jM) (k : Nat) : jM := m_row (m_pA1 M k) (k + 11) 79 6
def m_pA3 (M : jM) (k : Nat) : jM := m_row (m_pA2 M k) (k + 17) 80 36
def m_pA4 (M : jM) (k : Nat) : jM := m_row (m_pA3 M k) (k + 53) 81 8
def m_pA5 (M : jM) (k : Nat) : jM := m_row (m_pA4 M k) (k + 61) 82 8
def m_pA6 (M : jM) (k : Nat) : jM := m_row (m_pA5 M k) (k + 69) 83 8
def m_pA7 (M : jM) (k : Nat) : jM := m_row (m_pA6 M k) (k + 77) 84 8
def m_pA8 (M : jM) (k : Nat) : jM := m_row (m_pA7 M k) (k + 85) 85 8
theorem m_pA1_32 {M : jM} {k : Nat} : m_pA1 M k 77 32 = nI (k + 11) := m_row_32 (by decide) m_pA0_32 6
theorem m_pA2_32 {M : jM} {k : Nat} : m_pA2 M k 77 32 = nI (k + 17) := m_row_32 (by decide) m_pA1_32 6
theorem m_pA3_32 {M : jM} {k : Nat} : m_pA3 M k 77 32 = nI (k + 53) := m_row_32 (by decide) m_pA2_32 36
theorem m_pA4_32 {M : jM} {k : Nat} : m_pA4 M k 77 32 = nI (k + 61) := m_row_32 (by decide) m_pA3_32 8
theorem m_pA5_32 {M : jM} {k : Nat} : m_pA5 M k 77 32 = nI (k + 69) := m_row_32 (by decide) m_pA4_32 8
theorem m_pA6_32 {M : jM} {k : Nat} : m_pA6 M k 77 32 = nI (k + 77) := m_row_32 (by decide) m_pA5_32 8
theorem m_pA7_32 {M : jM} {k : Nat} : m_pA7 M k 77 32 = nI (k + 85) := m_row_32 (by decide) m_pA6_32 8
set_option maxHeartbeats 4000000 in
set_option maxRecDepth 10000 in
theorem c_X8_passAll (l : Launch) (D : va_G) (a : Nat → Nat) (g : Nat → ClassId) (M : jM) (L : jL) (k : Nat) (hk : M 77 32 = nI k) (hk2 : k ≤ 100)  : jK l D a g yX8_passAll cX8_passAll 1 none 2 45 [.ref (a 77)] M L none (m_pA8 M k) L := by
  refine jMeth (by decide) (Nat.le_of_ble_eq_true rfl) ?_
  intro G hX hZ
  refine J_cg (loc' := [(0, .ref (a 77))]) rfl rfl rfl rfl ?_
  refine J_aload_n hX 0 dX8_passAll_0 rfl ?_
  refine J_aload_n hX 0 dX8_passAll_1 rfl ?_
  refine J_aload_n hX 0 dX8_passAll_2 rfl ?_
  refine J_geti hX 77 5 dX8_passAll_3 jc_77 rfl rfl (by decide) inlX8 wm_8_4 ?_
  refine J_callV hX 77 [.int (M 77 5)] [.ref (a 77)] dX8_passAll_6 (c_X8_pass l D a g M L k hk (by omega) (M 77 5)) lk_X8_308 jc_77 rfl rfl rfl (Nat.le_of_ble_eq_true rfl) (Nat.le_of_ble_eq_true rfl) (Nat.le_of_ble_eq_true rfl) (J_eq (st := [.int (m_pv M k (M 77 5)), .ref (a 77)]) rfl ?_)
  refine J_puti (ty := .int) hX 77 5 dX8_passAll_9 jc_77 rfl rfl (by decide) inlX8 wm_8_4 tyX8 tyX8_ok nmX8 rfl (by decide +kernel) rfl rfl ?_
  refine J_cg (M' := m_sc M k 5) rfl rfl rfl rfl ?_
  refine J_aload_n hX 0 dX8_passAll_12 rfl ?_
  refine J_aload_n hX 0 dX8_passAll_13 rfl ?_
  refine J_aload_n hX 0 dX8_passAll_14 rfl ?_
  refine J_geti hX 77 6 dX8_passAll_15 jc_77 rfl rfl (by decide) inlX8 wm_8_5 ?_
  refine J_callV hX 77 [.int ((m_sc M k 5) 77 6)] [.ref (a 77)] dX8_passAll_18 (c_X8_pass l D a g (m_sc M k 5) L (k + 1) (m_sc_32 (by decide)) (by omega) ((m_sc M k 5) 77 6)) lk_X8_308 jc_77 rfl rfl rfl (Nat.le_of_ble_eq_true rfl) (Nat.le_of_ble_eq_true rfl) (Nat.le_of_ble_eq_true rfl) (J_eq (st := [.int (m_pv (m_sc M k 5) (k + 1) ((m_sc M k 5) 77 6)), .ref (a 77)]) rfl ?_)
  refine J_puti (ty := .int) hX 77 6 dX8_passAll_21 jc_77 rfl rfl (by decide) inlX8 wm_8_5 tyX8 tyX8_ok nmX8 rfl (by decide +kernel) rfl rfl ?_
  refine J_cg (M' := m_sc (m_sc M k 5) (k + 1) 6) rfl rfl rfl rfl ?_
  refine J_aload_n hX 0 dX8_passAll_24 rfl ?_
  refine J_aload_n hX 0 dX8_passAll_25 rfl ?_
  refine J_aload_n hX 0 dX8_passAll_26 rfl ?_
  refine J_geti hX 77 7 dX8_passAll_27 jc_77 rfl rfl (by decide) inlX8 wm_16_19 ?_
  refine J_callV hX 77 [.int ((m_sc (m_sc M k 5) (k + 1) 6) 77 7)] [.ref (a 77)] dX8_passAll_30 (c_X8_pass l D a g (m_sc (m_sc M k 5) (k + 1) 6) L (k + 2) (m_sc_32 (by decide)) (by omega) ((m_sc (m_sc M k 5) (k + 1) 6) 77 7)) lk_X8_308 jc_77 rfl rfl rfl (Nat.le_of_ble_eq_true rfl) (Nat.le_of_ble_eq_true rfl) (Nat.le_of_ble_eq_true rfl) (J_eq (st := [.int (m_pv (m_sc (m_sc M k 5) (k + 1) 6) (k + 2) ((m_sc (m_sc M k 5) (k + 1) 6) 77 7)), .ref (a 77)]) rfl ?_)
  refine J_puti (ty := .int) hX 77 7 dX8_passAll_33 jc_77 rfl rfl (by decide) inlX8 wm_16_19 tyX8 tyX8_ok nmX8 rfl (by decide +kernel) rfl rfl ?_
  refine J_cg (M' := m_sc (m_sc (m_sc M k 5) (k + 1) 6) (k + 2) 7) rfl rfl rfl rfl ?_
  refine J_aload_n hX 0 dX8_passAll_36 rfl ?_
  refine J_aload_n hX 0 dX8_passAll_37 rfl ?_
  refine J_aload_n hX 0 dX8_passAll_38 rfl ?_
  refine J_geti hX 77 8 dX8_passAll_39 jc_77 rfl rfl (by decide) inlX8 wm_16_20 ?_
  refine J_callV hX 77 [.int ((m_sc (m_sc (m_sc M k 5) (k + 1) 6) (k + 2) 7) 77 8)] [.ref (a 77)] dX8_passAll_42 (c_X8_pass l D a g (m_sc (m_sc (m_sc M k 5) (k + 1) 6) (k + 2) 7) L (k + 3) (m_sc_32 (by decide)) (by omega) ((m_sc (m_sc (m_sc M k 5) (k + 1) 6) (k + 2) 7) 77 8)) lk_X8_308 jc_77 rfl rfl rfl (Nat.le_of_ble_eq_true rfl) (Nat.le_of_ble_eq_true rfl) (Nat.le_of_ble_eq_true rfl) (J_eq (st := [.int (m_pv (m_sc (m_sc (m_sc M k 5) (k + 1) 6) (k + 2) 7) (k + 3) ((m_sc (m_sc (m_sc M k 5) (k + 1) 6) (k + 2) 7) 77 8)), .ref (a 77)]) rfl ?_)
  refine J_puti (ty := .int) hX 77 8 dX8_passAll_45 jc_77 rfl rfl (by decide) inlX8 wm_16_20 tyX8 tyX8_ok nmX8 rfl (by decide +kernel) rfl rfl ?_
  refine J_cg (M' := m_sc (m_sc (m_sc (m_sc M k 5) (k + 1) 6) (k + 2) 7) (k + 3) 8) rfl rfl rfl rfl ?_
  refine J_aload_n hX 0 dX8_passAll_48 rfl ?_
  refine J_aload_n hX 0 dX8_passAll_49 rfl ?_
  refine J_aload_n hX 0 dX8_passAll_50 rfl ?_
  refine J_geti hX 77 12 dX8_passAll_51 jc_77 rfl rfl (by decide) inlX8 wm_28_7 ?_
  refine J_callV hX 77 [.int ((m_sc (m_sc (m_sc (m_sc M k 5) (k + 1) 6) (k + 2) 7) (k + 3) 8) 77 12)] [.ref (a 77)] dX8_passAll_54 (c_X8_pass l D a g (m_sc (m_sc (m_sc (m_sc M k 5) (k + 1) 6) (k + 2) 7) (k + 3) 8) L (k + 4) (m_sc_32 (by decide)) (by omega) ((m_sc (m_sc (m_sc (m_sc M k 5) (k + 1) 6) (k + 2) 7) (k + 3) 8) 77 12)) lk_X8_308 jc_77 rfl rfl rfl (Nat.le_of_ble_eq_true rfl) (Nat.le_of_ble_eq_true rfl) (Nat.le_of_ble_eq_true rfl) (J_eq (st := [.int (m_pv (m_sc (m_sc (m_sc (m_sc M k 5) (k + 1) 6) (k + 2) 7) (k + 3) 8) (k + 4) ((m_sc (m_sc (m_sc (m_sc M k 5) (k + 1) 6) (k + 2) 7) (k + 3) 8) 77 12)), .ref (a 77)]) rfl ?_)
  refine J_puti (ty := .int) hX 77 12 dX8_passAll_57 jc_77 rfl rfl (by decide) inlX8 wm_28_7 tyX8 tyX8_ok nmX8 rfl (by decide +kernel) rfl rfl ?_
  refine J_cg (M' := m_pA0 M k) rfl rfl rfl rfl ?_
  refine J_aload_n hX 0 dX8_passAll_60 rfl ?_
  refine J_aload_n hX 0 dX8_passAll_61 rfl ?_
  refine J_getr hX 77 0 dX8_passAll_62 jc_77 rfl rfl (by decide) inlX8 wm_4_19 ?_
  refine J_bipush (v := 6) hX dX8_passAll_65 (by decide) ?_
  refine J_callV hX 77 [.ref (a 78), .int 6] [] dX8_passAll_67 (c_X8_passRow l D a g (m_pA0 M k) L 78 6 jc_78 (by decide) (by decide) (k + 5) m_pA0_32 6 (by decide) (by omega)) lk_X8_311 jc_77 rfl rfl rfl (Nat.le_of_ble_eq_true rfl) (Nat.le_of_ble_eq_true rfl) (Nat.le_of_ble_eq_true rfl) (J_eq (st := []) rfl ?_)
  refine J_cg (M' := m_pA1 M k) rfl rfl rfl rfl ?_
  refine J_aload_n hX 0 dX8_passAll_70 rfl ?_
  refine J_aload_n hX 0 dX8_passAll_71 rfl ?_
  refine J_getr hX 77 1 dX8_passAll_72 jc_77 rfl rfl (by decide) inlX8 wm_4_20 ?_
  refine J_bipush (v := 6) hX dX8_passAll_75 (by decide) ?_
  refine J_callV hX 77 [.ref (a 79), .int 6] [] dX8_passAll_77 (c_X8_passRow l D a g (m_pA1 M k) L 79 6 jc_79 (by decide) (by decide) (k + 11) m_pA1_32 6 (by decide) (by omega)) lk_X8_311 jc_77 rfl rfl rfl (Nat.le_of_ble_eq_true rfl) (Nat.le_of_ble_eq_true rfl) (Nat.le_of_ble_eq_true rfl) (J_eq (st := []) rfl ?_)
  refine J_cg (M' := m_pA2 M k) rfl rfl rfl rfl ?_
  refine J_aload_n hX 0 dX8_passAll_80 rfl ?_
  refine J_aload_n hX 0 dX8_passAll_81 rfl ?_
  refine J_getr hX 77 2 dX8_passAll_82 jc_77 rfl rfl (by decide) inlX8 wm_4_21 ?_
  refine J_bipush (v := 36) hX dX8_passAll_85 (by decide) ?_
  refine J_callV hX 77 [.ref (a 80), .int 36] [] dX8_passAll_87 (c_X8_passRow l D a g (m_pA2 M k) L 80 36 jc_80 (by decide) (by decide) (k + 17) m_pA2_32 36 (by decide) (by omega)) lk_X8_311 jc_77 rfl rfl rfl (Nat.le_of_ble_eq_true rfl) (Nat.le_of_ble_eq_true rfl) (Nat.le_of_ble_eq_true rfl) (J_eq (st := []) rfl ?_)
  refine J_cg (M' := m_pA3 M k) rfl rfl rfl rfl ?_
  refine J_aload_n hX 0 dX8_passAll_90 rfl ?_
  refine J_aload_n hX 0 dX8_passAll_91 rfl ?_
  refine J_getr hX 77 3 dX8_passAll_92 jc_77 rfl rfl (by decide) inlX8 wm_4_22 ?_
  refine J_bipush (v := 8) hX dX8_passAll_95 (by decide) ?_
  refine J_callV hX 77 [.ref (a 81), .int 8] [] dX8_passAll_97 (c_X8_passRow l D a g (m_pA3 M k) L 81 8 jc_81 (by decide) (by decide) (k + 53) m_pA3_32 8 (by decide) (by omega)) lk_X8_311 jc_77 rfl rfl rfl (Nat.le_of_ble_eq_true rfl) (Nat.le_of_ble_eq_true rfl) (Nat.le_of_ble_eq_true rfl) (J_eq (st := []) rfl ?_)
  refine J_cg (M' := m_pA4 M k) rfl rfl rfl rfl ?_
  refine J_aload_n hX 0 dX8_passAll_100 rfl ?_
  refine J_aload_n hX 0 dX8_passAll_101 rfl ?_
  refine J_getr hX 77 4 dX8_passAll_102 jc_77 rfl rfl (by decide) inlX8 wm_4_23 ?_
  refine J_bipush (v := 8) hX dX8_passAll_105 (by decide) ?_
  refine J_callV hX 77 [.ref (a 82), .int 8] [] dX8_passAll_107 (c_X8_passRow l D a g (m_pA4 M k) L 82 8 jc_82 (by decide) (by decide) (k + 61) m_pA4_32 8 (by decide) (by omega)) lk_X8_311 jc_77 rfl rfl rfl (Nat.le_of_ble_eq_true rfl) (Nat.le_of_ble_eq_true rfl) (Nat.le_of_ble_eq_true rfl) (J_eq (st := []) rfl ?_)
  refine J_cg (M' := m_pA5 M k) rfl rfl rfl rfl ?_
  refine J_aload_n hX 0 dX8_passAll_110 rfl ?_
  refine J_aload_n hX 0 dX8_passAll_111 rfl ?_
  refine J_getr hX 77 9 dX8_passAll_112 jc_77 rfl rfl (by decide) inlX8 wm_5_0 ?_
  refine J_bipush (v := 8) hX dX8_passAll_115 (by decide) ?_
  refine J_callV hX 77 [.ref (a 83), .int 8] [] dX8_passAll_117 (c_X8_passRow l D a g (m_pA5 M k) L 83 8 jc_83 (by decide) (by decide) (k + 69) m_pA5_32 8 (by decide) (by omega)) lk_X8_311 jc_77 rfl rfl rfl (Nat.le_of_ble_eq_true rfl) (Nat.le_of_ble_eq_true rfl) (Nat.le_of_ble_eq_true rfl) (J_eq (st := []) rfl ?_)
  refine J_cg (M' := m_pA6 M k) rfl rfl rfl rfl ?_
  refine J_aload_n hX 0 dX8_passAll_120 rfl ?_
  refine J_aload_n hX 0 dX8_passAll_121 rfl ?_
  refine J_getr hX 77 10 dX8_passAll_122 jc_77 rfl rfl (by decide) inlX8 wm_5_1 ?_
  refine J_bipush (v := 8) hX dX8_passAll_125 (by decide) ?_
  refine J_callV hX 77 [.ref (a 84), .int 8] [] dX8_passAll_127 (c_X8_passRow l D a g (m_pA6 M k) L 84 8 jc_84 (by decide) (by decide) (k + 77) m_pA6_32 8 (by decide) (by omega)) lk_X8_311 jc_77 rfl rfl rfl (Nat.le_of_ble_eq_true rfl) (Nat.le_of_ble_eq_true rfl) (Nat.le_of_ble_eq_true rfl) (J_eq (st := []) rfl ?_)
  refine J_cg (M' := m_pA7 M k) rfl rfl rfl rfl ?_
  refine J_aload_n hX 0 dX8_passAll_130 rfl ?_
  refine J_aload_n hX 0 dX8_passAll_131 rfl ?_
  refine J_getr hX 77 11 dX8_passAll_132 jc_77 rfl rfl (by decide) inlX8 wm_5_2 ?_
  refine J_bipush (v := 8) hX dX8_passAll_135 (by decide) ?_
  refine J_callV hX 77 [.ref (a 85), .int 8] [] dX8_passAll_137 (c_X8_passRow l D a g (m_pA7 M k) L 85 8 jc_85 (by decide) (by decide) (k + 85) m_pA7_32 8 (by decide) (by omega)) lk_X8_311 jc_77 rfl rfl rfl (Nat.le_of_ble_eq_true rfl) (Nat.le_of_ble_eq_true rfl) (Nat.le_of_ble_eq_true rfl) (J_eq (st := []) rfl ?_)
  refine J_cg (M' := m_pA8 M k) rfl rfl rfl rfl ?_
  exact J_vret hX hZ dX8_passAll_140 ⟨rfl, rfl, rfl⟩
def m_st (M : jM) (k : Nat) (b : Int32) : jM := jU (jU M 77 32 (nI k)) 77 33 b
def m_image (M : jM) (k : Int32) : Int32 × jM := if (0 ≤ k.toInt ∧ k.toInt ≤ 1) then (if k = 0 then (1, jU (m_pA8 (m_st M 0 1) 0) 99 0 1) else (1, jU (m_pA8 (m_st M 100 1) 100) 99 1 1)) else (-2, M)
def m_restore (M : jM) (k : Int32) : Int32 × jM := if (0 ≤ k.toInt ∧ k.toInt ≤ 1) then (if k = 0 then (if M 99 0 = 0 then (-3, M) else (1, m_pA8 (m_st M 0 0) 0)) else (if M 99 1 = 0 then (-3, M) else (1, m_pA8 (m_st M 100 0) 100))) else (-2, M)
set_option maxHeartbeats 4000000 in
set_option maxRecDepth 10000 in
theorem c_X8_image (l : Launch) (D : va_G) (a : Nat → Nat) (g : Nat → ClassId) (M : jM) (L : jL) (k : Int32)  : jK l D a g yX8_image cX8_image 2 (some .int) 3 65 [.ref (a 77), .int k] M L (some (.int ((m_image M k).1))) ((m_image M k).2) L := by
  refine jMeth (by decide) (Nat.le_of_ble_eq_true rfl) ?_
  intro G hX hZ
  refine J_cg (loc' := [(0, .ref (a 77)), (1, .int k)]) rfl rfl rfl rfl ?_
  refine J_iload_n hX 1 dX8_image_0 rfl ?_
  refine J_i2l hX dX8_image_1 ?_
  refine J_lconst (v := 0) hX dX8_image_2 (by decide) ?_
  refine J_lconst (v := 1) hX dX8_image_3 (by decide) ?_
  refine J_callS hX [.long (Int32.toInt64 k), .long (0 : Int64), .long (1 : Int64)] [] dX8_image_4 (c_X8_in l D a g M L k (0 : Int64) (1 : Int64)) lk_X8_80 rfl rfl (Nat.le_of_ble_eq_true rfl) (Nat.le_of_ble_eq_true rfl) (Nat.le_of_ble_eq_true rfl) (J_eq (st := [.int (jB (0 ≤ k.toInt ∧ k.toInt ≤ 1))]) rfl ?_)
  refine J_ifB_ne hX 13 dX8_image_7 (by decide) (fun h7 => ?_) (fun h7 => ?_)
  · skip
    by_cases k0 : k = 0
    · have hk : k = nI 0 := k0
      refine J_aload_n hX 0 dX8_image_13 rfl ?_
      refine J_bipush (v := 100) hX dX8_image_14 (by decide) ?_
      refine J_iload_n hX 1 dX8_image_16 rfl ?_
      refine J_imul hX dX8_image_17 ?_
      refine J_topi (y := nI 0) (by rw [hk]; rfl) ?_
      refine J_puti (ty := .int) hX 77 32 dX8_image_18 jc_77 rfl rfl (by decide) inlX8 wm_32_7 tyX8 tyX8_ok nmX8 rfl (by decide +kernel) rfl rfl ?_
      refine J_aload_n hX 0 dX8_image_21 rfl ?_
      refine J_iconst (v := 1) hX dX8_image_22 (by decide) ?_
      refine J_puti (ty := .boolean) hX 77 33 dX8_image_23 jc_77 rfl rfl (by decide) inlX8 wm_32_8 tyX8 tyX8_ok nmX8 rfl (by decide +kernel) rfl rfl ?_
      refine J_cg (M' := m_st M 0 1) rfl rfl rfl rfl ?_
      refine J_aload_n hX 0 dX8_image_26 rfl ?_
      refine J_callV hX 77 [] [] dX8_image_27 (c_X8_passAll l D a g (m_st M 0 1) L 0 (by unfold m_st; rw [jU_slot (by decide), jU_same]) (by decide)) lk_X8_315 jc_77 rfl rfl rfl (Nat.le_of_ble_eq_true rfl) (Nat.le_of_ble_eq_true rfl) (Nat.le_of_ble_eq_true rfl) (J_eq (st := []) rfl ?_)
      refine J_aload_n hX 0 dX8_image_30 rfl ?_
      refine J_getr hX 77 31 dX8_image_31 jc_77 rfl rfl (by decide) inlX8 wm_5_17 ?_
      refine J_iload_n hX 1 dX8_image_34 rfl ?_
      refine J_iconst (v := 1) hX dX8_image_35 (by decide) ?_
      refine J_zast hX 99 0 dX8_image_36 jc_99 hk (by omega) (by omega) rfl ?_
      refine J_iconst (v := 1) hX dX8_image_37 (by decide) ?_
      exact J_ret hX hZ dX8_image_38 rfl rfl ⟨by first | contradiction | simp [m_image, h7, k0], by simp [m_image, h7, k0], rfl⟩
    · have hk : k = nI 1 := jk01 h7 k0
      refine J_aload_n hX 0 dX8_image_13 rfl ?_
      refine J_bipush (v := 100) hX dX8_image_14 (by decide) ?_
      refine J_iload_n hX 1 dX8_image_16 rfl ?_
      refine J_imul hX dX8_image_17 ?_
      refine J_topi (y := nI 100) (by rw [hk]; rfl) ?_
      refine J_puti (ty := .int) hX 77 32 dX8_image_18 jc_77 rfl rfl (by decide) inlX8 wm_32_7 tyX8 tyX8_ok nmX8 rfl (by decide +kernel) rfl rfl ?_
      refine J_aload_n hX 0 dX8_image_21 rfl ?_
      refine J_iconst (v := 1) hX dX8_image_22 (by decide) ?_
      refine J_puti (ty := .boolean) hX 77 33 dX8_image_23 jc_77 rfl rfl (by decide) inlX8 wm_32_8 tyX8 tyX8_ok nmX8 rfl (by decide +kernel) rfl rfl ?_
      refine J_cg (M' := m_st M 100 1) rfl rfl rfl rfl ?_
      refine J_aload_n hX 0 dX8_image_26 rfl ?_
      refine J_callV hX 77 [] [] dX8_image_27 (c_X8_passAll l D a g (m_st M 100 1) L 100 (by unfold m_st; rw [jU_slot (by decide), jU_same]) (by decide)) lk_X8_315 jc_77 rfl rfl rfl (Nat.le_of_ble_eq_true rfl) (Nat.le_of_ble_eq_true rfl) (Nat.le_of_ble_eq_true rfl) (J_eq (st := []) rfl ?_)
      refine J_aload_n hX 0 dX8_image_30 rfl ?_
      refine J_getr hX 77 31 dX8_image_31 jc_77 rfl rfl (by decide) inlX8 wm_5_17 ?_
      refine J_iload_n hX 1 dX8_image_34 rfl ?_
      refine J_iconst (v := 1) hX dX8_image_35 (by decide) ?_
      refine J_zast hX 99 1 dX8_image_36 jc_99 hk (by omega) (by omega) rfl ?_
      refine J_iconst (v := 1) hX dX8_image_37 (by decide) ?_
      exact J_ret hX hZ dX8_image_38 rfl rfl ⟨by first | contradiction | simp [m_image, h7, k0], by simp [m_image, h7, k0], rfl⟩
  · skip
    refine J_bipush (v := (-2)) hX dX8_image_10 (by decide) ?_
    exact J_ret hX hZ dX8_image_12 rfl rfl ⟨by first | contradiction | simp [m_image, h7], by simp [m_image, h7], rfl⟩
set_option maxHeartbeats 4000000 in
set_option maxRecDepth 10000 in
theorem c_X8_restore (l : Launch) (D : va_G) (a : Nat → Nat) (g : Nat → ClassId) (M : jM) (L : jL) (k : Int32)  : jK l D a g yX8_restore cX8_restore 2 (some .int) 3 65 [.ref (a 77), .int k] M L (some (.int ((m_restore M k).1))) ((m_restore M k).2) L := by
  refine jMeth (by decide) (Nat.le_of_ble_eq_true rfl) ?_
  intro G hX hZ
  refine J_cg (loc' := [(0, .ref (a 77)), (1, .int k)]) rfl rfl rfl rfl ?_
  refine J_iload_n hX 1 dX8_restore_0 rfl ?_
  refine J_i2l hX dX8_restore_1 ?_
  refine J_lconst (v := 0) hX dX8_restore_2 (by decide) ?_
  refine J_lconst (v := 1) hX dX8_restore_3 (by decide) ?_
  refine J_callS hX [.long (Int32.toInt64 k), .long (0 : Int64), .long (1 : Int64)] [] dX8_restore_4 (c_X8_in l D a g M L k (0 : Int64) (1 : Int64)) lk_X8_80 rfl rfl (Nat.le_of_ble_eq_true rfl) (Nat.le_of_ble_eq_true rfl) (Nat.le_of_ble_eq_true rfl) (J_eq (st := [.int (jB (0 ≤ k.toInt ∧ k.toInt ≤ 1))]) rfl ?_)
  refine J_ifB_ne hX 13 dX8_restore_7 (by decide) (fun h7 => ?_) (fun h7 => ?_)
  · skip
    by_cases k0 : k = 0
    · have hk : k = nI 0 := k0
      refine J_aload_n hX 0 dX8_restore_13 rfl ?_
      refine J_getr hX 77 31 dX8_restore_14 jc_77 rfl rfl (by decide) inlX8 wm_5_17 ?_
      refine J_iload_n hX 1 dX8_restore_17 rfl ?_
      refine J_zald hX 99 0 dX8_restore_18 jc_99 hk (by omega) (by omega) ?_
      refine J_if_ne hX 25 dX8_restore_19 (by decide) (fun h19 => ?_) (fun h19 => ?_)
      · skip
        refine J_aload_n hX 0 dX8_restore_25 rfl ?_
        refine J_bipush (v := 100) hX dX8_restore_26 (by decide) ?_
        refine J_iload_n hX 1 dX8_restore_28 rfl ?_
        refine J_imul hX dX8_restore_29 ?_
        refine J_topi (y := nI 0) (by rw [hk]; rfl) ?_
        refine J_puti (ty := .int) hX 77 32 dX8_restore_30 jc_77 rfl rfl (by decide) inlX8 wm_32_7 tyX8 tyX8_ok nmX8 rfl (by decide +kernel) rfl rfl ?_
        refine J_aload_n hX 0 dX8_restore_33 rfl ?_
        refine J_iconst (v := 0) hX dX8_restore_34 (by decide) ?_
        refine J_puti (ty := .boolean) hX 77 33 dX8_restore_35 jc_77 rfl rfl (by decide) inlX8 wm_32_8 tyX8 tyX8_ok nmX8 rfl (by decide +kernel) rfl rfl ?_
        refine J_cg (M' := m_st M 0 0) rfl rfl rfl rfl ?_
        refine J_aload_n hX 0 dX8_restore_38 rfl ?_
        refine J_callV hX 77 [] [] dX8_restore_39 (c_X8_passAll l D a g (m_st M 0 0) L 0 (by unfold m_st; rw [jU_slot (by decide), jU_same]) (by decide)) lk_X8_315 jc_77 rfl rfl rfl (Nat.le_of_ble_eq_true rfl) (Nat.le_of_ble_eq_true rfl) (Nat.le_of_ble_eq_true rfl) (J_eq (st := []) rfl ?_)
        refine J_iconst (v := 1) hX dX8_restore_42 (by decide) ?_
        exact J_ret hX hZ dX8_restore_43 rfl rfl ⟨by first | contradiction | simp [m_restore, h7, k0, h19], by simp [m_restore, h7, k0, h19], rfl⟩
      · skip
        refine J_bipush (v := (-3)) hX dX8_restore_22 (by decide) ?_
        exact J_ret hX hZ dX8_restore_24 rfl rfl ⟨by first | contradiction | simp [m_restore, h7, k0, h19], by simp [m_restore, h7, k0, h19], rfl⟩
    · have hk : k = nI 1 := jk01 h7 k0
      refine J_aload_n hX 0 dX8_restore_13 rfl ?_
      refine J_getr hX 77 31 dX8_restore_14 jc_77 rfl rfl (by decide) inlX8 wm_5_17 ?_
      refine J_iload_n hX 1 dX8_restore_17 rfl ?_
      refine J_zald hX 99 1 dX8_restore_18 jc_99 hk (by omega) (by omega) ?_
      refine J_if_ne hX 25 dX8_restore_19 (by decide) (fun h19 => ?_) (fun h19 => ?_)
      · skip
        refine J_aload_n hX 0 dX8_restore_25 rfl ?_
        refine J_bipush (v := 100) hX dX8_restore_26 (by decide) ?_
        refine J_iload_n hX 1 dX8_restore_28 rfl ?_
        refine J_imul hX dX8_restore_29 ?_
        refine J_topi (y := nI 100) (by rw [hk]; rfl) ?_
        refine J_puti (ty := .int) hX 77 32 dX8_restore_30 jc_77 rfl rfl (by decide) inlX8 wm_32_7 tyX8 tyX8_ok nmX8 rfl (by decide +kernel) rfl rfl ?_
        refine J_aload_n hX 0 dX8_restore_33 rfl ?_
        refine J_iconst (v := 0) hX dX8_restore_34 (by decide) ?_
        refine J_puti (ty := .boolean) hX 77 33 dX8_restore_35 jc_77 rfl rfl (by decide) inlX8 wm_32_8 tyX8 tyX8_ok nmX8 rfl (by decide +kernel) rfl rfl ?_
        refine J_cg (M' := m_st M 100 0) rfl rfl rfl rfl ?_
        refine J_aload_n hX 0 dX8_restore_38 rfl ?_
        refine J_callV hX 77 [] [] dX8_restore_39 (c_X8_passAll l D a g (m_st M 100 0) L 100 (by unfold m_st; rw [jU_slot (by decide), jU_same]) (by decide)) lk_X8_315 jc_77 rfl rfl rfl (Nat.le_of_ble_eq_true rfl) (Nat.le_of_ble_eq_true rfl) (Nat.le_of_ble_eq_true rfl) (J_eq (st := []) rfl ?_)
        refine J_iconst (v := 1) hX dX8_restore_42 (by decide) ?_
        exact J_ret hX hZ dX8_restore_43 rfl rfl ⟨by first | contradiction | simp [m_restore, h7, k0, h19], by simp [m_restore, h7, k0, h19], rfl⟩
      · skip
        refine J_bipush (v := (-3)) hX dX8_restore_22 (by decide) ?_
        exact J_ret hX hZ dX8_restore_24 rfl rfl ⟨by first | contradiction | simp [m_restore, h7, k0, h19], by simp [m_restore, h7, k0, h19], rfl⟩
  · skip
    refine J_bipush (v := (-2)) hX dX8_restore_10 (by decide) ?_
    exact J_ret hX hZ dX8_restore_12 rfl rfl ⟨by first | contradiction | simp [m_restore, h7], by simp [m_restore, h7], rfl⟩
def m_tAll (M : jM) (k : Int32) : Int32 := if k = 0 then M 77 14 else if k = 1 then M 77 5 else if k = 2 then M 77 6 else if k = 3 then M 77 7 else if k = 4 then M 77 8 else if k = 5 then M 77 12 else if k = 6 then m_notes M else if k = 7 then m_land M else if k = 8 then m_rate M else -2
def m_told (M : jM) (k : Int32) : Int32 := if (200 ≤ k.toInt ∧ k.toInt ≤ 259) then (if k.toNatClampNeg % 10 < 6 then M 80 (6 * ((k.toNatClampNeg - 200) / 10) + k.toNatClampNeg % 10) else -2)
  else if (100 ≤ k.toInt ∧ k.toInt ≤ 179) then (if k.toNatClampNeg % 10 = 0 then M 81 ((k.toNatClampNeg - 100) / 10) else if k.toNatClampNeg % 10 = 1 then M 82 ((k.toNatClampNeg - 100) / 10) else -2)
  else if (10 ≤ k.toInt ∧ k.toInt ≤ 69) then (if k.toNatClampNeg % 10 < 3 then m_ofOne M (k.toNatClampNeg / 10 - 1) (nI (k.toNatClampNeg % 10)) else -2) else m_tAll M k
set_option maxHeartbeats 4000000 in
set_option maxRecDepth 10000 in
theorem c_X8_toldOfAll (l : Launch) (D : va_G) (a : Nat → Nat) (g : Nat → ClassId) (M : jM) (L : jL) (k : Int32)  : jK l D a g yX8_toldOfAll cX8_toldOfAll 2 (some .int) 2 44 [.ref (a 77), .int k] M L (some (.int (m_tAll M k))) M L := by
  refine jMeth (by decide) (Nat.le_of_ble_eq_true rfl) ?_
  intro G hX hZ
  refine J_cg (loc' := [(0, .ref (a 77)), (1, .int k)]) rfl rfl rfl rfl ?_
  refine J_iload_n hX 1 dX8_toldOfAll_0 rfl ?_
  by_cases s1_0 : k = 0
  · refine J_tableIn hX 52 dX8_toldOfAll_1 (by rw [s1_0]; decide) (by rw [s1_0]; decide) (by rw [s1_0]; rfl) (by decide) ?_
    refine J_aload_n hX 0 dX8_toldOfAll_52 rfl ?_
    refine J_geti hX 77 14 dX8_toldOfAll_53 jc_77 rfl rfl (by decide) inlX8 wm_8_22 ?_
    exact J_ret hX hZ dX8_toldOfAll_56 rfl rfl ⟨by simp [m_tAll, s1_0], rfl, rfl⟩
  by_cases s1_1 : k = 1
  · refine J_tableIn hX 57 dX8_toldOfAll_1 (by rw [s1_1]; decide) (by rw [s1_1]; decide) (by rw [s1_1]; rfl) (by decide) ?_
    refine J_aload_n hX 0 dX8_toldOfAll_57 rfl ?_
    refine J_geti hX 77 5 dX8_toldOfAll_58 jc_77 rfl rfl (by decide) inlX8 wm_8_4 ?_
    exact J_ret hX hZ dX8_toldOfAll_61 rfl rfl ⟨by simp [m_tAll, s1_0, s1_1], rfl, rfl⟩
  by_cases s1_2 : k = 2
  · refine J_tableIn hX 62 dX8_toldOfAll_1 (by rw [s1_2]; decide) (by rw [s1_2]; decide) (by rw [s1_2]; rfl) (by decide) ?_
    refine J_aload_n hX 0 dX8_toldOfAll_62 rfl ?_
    refine J_geti hX 77 6 dX8_toldOfAll_63 jc_77 rfl rfl (by decide) inlX8 wm_8_5 ?_
    exact J_ret hX hZ dX8_toldOfAll_66 rfl rfl ⟨by simp [m_tAll, s1_0, s1_1, s1_2], rfl, rfl⟩
  by_cases s1_3 : k = 3
  · refine J_tableIn hX 67 dX8_toldOfAll_1 (by rw [s1_3]; decide) (by rw [s1_3]; decide) (by rw [s1_3]; rfl) (by decide) ?_
    refine J_aload_n hX 0 dX8_toldOfAll_67 rfl ?_
    refine J_geti hX 77 7 dX8_toldOfAll_68 jc_77 rfl rfl (by decide) inlX8 wm_16_19 ?_
    exact J_ret hX hZ dX8_toldOfAll_71 rfl rfl ⟨by simp [m_tAll, s1_0, s1_1, s1_2, s1_3], rfl, rfl⟩
  by_cases s1_4 : k = 4
  · refine J_tableIn hX 72 dX8_toldOfAll_1 (by rw [s1_4]; decide) (by rw [s1_4]; decide) (by rw [s1_4]; rfl) (by decide) ?_
    refine J_aload_n hX 0 dX8_toldOfAll_72 rfl ?_
    refine J_geti hX 77 8 dX8_toldOfAll_73 jc_77 rfl rfl (by decide) inlX8 wm_16_20 ?_
    exact J_ret hX hZ dX8_toldOfAll_76 rfl rfl ⟨by simp [m_tAll, s1_0, s1_1, s1_2, s1_3, s1_4], rfl, rfl⟩
  by_cases s1_5 : k = 5
  · refine J_tableIn hX 77 dX8_toldOfAll_1 (by rw [s1_5]; decide) (by rw [s1_5]; decide) (by rw [s1_5]; rfl) (by decide) ?_
    refine J_aload_n hX 0 dX8_toldOfAll_77 rfl ?_
    refine J_geti hX 77 12 dX8_toldOfAll_78 jc_77 rfl rfl (by decide) inlX8 wm_28_7 ?_
    exact J_ret hX hZ dX8_toldOfAll_81 rfl rfl ⟨by simp [m_tAll, s1_0, s1_1, s1_2, s1_3, s1_4, s1_5], rfl, rfl⟩
  by_cases s1_6 : k = 6
  · refine J_tableIn hX 82 dX8_toldOfAll_1 (by rw [s1_6]; decide) (by rw [s1_6]; decide) (by rw [s1_6]; rfl) (by decide) ?_
    refine J_aload_n hX 0 dX8_toldOfAll_82 rfl ?_
    refine J_callV hX 77 [] [] dX8_toldOfAll_83 (c_X8_notes l D a g M L ) lk_X8_157 jc_77 rfl rfl rfl (Nat.le_of_ble_eq_true rfl) (Nat.le_of_ble_eq_true rfl) (Nat.le_of_ble_eq_true rfl) (J_eq (st := [.int (m_notes M)]) rfl ?_)
    exact J_ret hX hZ dX8_toldOfAll_86 rfl rfl ⟨by simp [m_tAll, s1_0, s1_1, s1_2, s1_3, s1_4, s1_5, s1_6], rfl, rfl⟩
  by_cases s1_7 : k = 7
  · refine J_tableIn hX 87 dX8_toldOfAll_1 (by rw [s1_7]; decide) (by rw [s1_7]; decide) (by rw [s1_7]; rfl) (by decide) ?_
    refine J_aload_n hX 0 dX8_toldOfAll_87 rfl ?_
    refine J_callV hX 77 [] [] dX8_toldOfAll_88 (c_X8_land l D a g M L ) lk_X8_153 jc_77 rfl rfl rfl (Nat.le_of_ble_eq_true rfl) (Nat.le_of_ble_eq_true rfl) (Nat.le_of_ble_eq_true rfl) (J_eq (st := [.int (m_land M)]) rfl ?_)
    exact J_ret hX hZ dX8_toldOfAll_91 rfl rfl ⟨by simp [m_tAll, s1_0, s1_1, s1_2, s1_3, s1_4, s1_5, s1_6, s1_7], rfl, rfl⟩
  by_cases s1_8 : k = 8
  · refine J_tableIn hX 92 dX8_toldOfAll_1 (by rw [s1_8]; decide) (by rw [s1_8]; decide) (by rw [s1_8]; rfl) (by decide) ?_
    refine J_aload_n hX 0 dX8_toldOfAll_92 rfl ?_
    refine J_callV hX 77 [] [] dX8_toldOfAll_93 (c_X8_rate l D a g M L ) lk_X8_164 jc_77 rfl rfl rfl (Nat.le_of_ble_eq_true rfl) (Nat.le_of_ble_eq_true rfl) (Nat.le_of_ble_eq_true rfl) (J_eq (st := [.int (m_rate M)]) rfl ?_)
    exact J_ret hX hZ dX8_toldOfAll_96 rfl rfl ⟨by simp [m_tAll, s1_0, s1_1, s1_2, s1_3, s1_4, s1_5, s1_6, s1_7, s1_8], rfl, rfl⟩
  have t1_0 := lv_neT s1_0 (show (0 : Int32).toInt = 0 from rfl)
  have t1_1 := lv_neT s1_1 (show (1 : Int32).toInt = 1 from rfl)
  have t1_2 := lv_neT s1_2 (show (2 : Int32).toInt = 2 from rfl)
  have t1_3 := lv_neT s1_3 (show (3 : Int32).toInt = 3 from rfl)
  have t1_4 := lv_neT s1_4 (show (4 : Int32).toInt = 4 from rfl)
  have t1_5 := lv_neT s1_5 (show (5 : Int32).toInt = 5 from rfl)
  have t1_6 := lv_neT s1_6 (show (6 : Int32).toInt = 6 from rfl)
  have t1_7 := lv_neT s1_7 (show (7 : Int32).toInt = 7 from rfl)
  have t1_8 := lv_neT s1_8 (show (8 : Int32).toInt = 8 from rfl)
  refine J_tableOut hX 97 dX8_toldOfAll_1 (by omega) (by decide) ?_
  refine J_bipush (v := (-2)) hX dX8_toldOfAll_97 (by decide) ?_
  exact J_ret hX hZ dX8_toldOfAll_99 rfl rfl ⟨by simp [m_tAll, s1_0, s1_1, s1_2, s1_3, s1_4, s1_5, s1_6, s1_7, s1_8], rfl, rfl⟩
set_option maxHeartbeats 4000000 in
set_option maxRecDepth 10000 in
theorem c_X8_toldOfOne (l : Launch) (D : va_G) (a : Nat → Nat) (g : Nat → ClassId) (M : jM) (L : jL) (x : Nat) (hx : x < 6) (y : Nat) (hy : y < 10)  : jK l D a g yX8_toldOfOne cX8_toldOfOne 3 (some .int) 2 45 [.ref (a 77), .int (nI x), .int (nI y)] M L (some (.int (if y < 3 then m_ofOne M x (nI y) else -2))) M L := by
  refine jMeth (by decide) (Nat.le_of_ble_eq_true rfl) ?_
  intro G hX hZ
  refine J_cg (loc' := [(0, .ref (a 77)), (1, .int (nI x)), (2, .int (nI y))]) rfl rfl rfl rfl ?_
  refine J_iload_n hX 2 dX8_toldOfOne_0 rfl ?_
  refine J_iconst (v := 3) hX dX8_toldOfOne_1 (by decide) ?_
  refine J_cmpN_ge hX 14 y 3 dX8_toldOfOne_2 (by decide) rfl rfl (by omega) (by omega) (fun h2 => ?_) (fun h2 => ?_)
  · skip
    refine J_bipush (v := (-2)) hX dX8_toldOfOne_14 (by decide) ?_
    exact J_ret hX hZ dX8_toldOfOne_16 rfl rfl ⟨by (first | rw [if_pos h2] | rw [if_neg (by omega)]), rfl, rfl⟩
  · skip
    refine J_aload_n hX 0 dX8_toldOfOne_5 rfl ?_
    refine J_iload_n hX 1 dX8_toldOfOne_6 rfl ?_
    refine J_iload_n hX 2 dX8_toldOfOne_7 rfl ?_
    refine J_callV hX 77 [.int (nI x), .int (nI y)] [] dX8_toldOfOne_8 (c_X8_ofOne l D a g M L x (by omega) (nI y)) lk_X8_237 jc_77 rfl rfl rfl (Nat.le_of_ble_eq_true rfl) (Nat.le_of_ble_eq_true rfl) (Nat.le_of_ble_eq_true rfl) (J_eq (st := [.int (m_ofOne M x (nI y))]) rfl ?_)
    refine J_goto hX 16 dX8_toldOfOne_11 (by decide) ?_
    exact J_ret hX hZ dX8_toldOfOne_16 rfl rfl ⟨by (first | rw [if_pos h2] | rw [if_neg (by omega)]), rfl, rfl⟩
set_option maxHeartbeats 4000000 in
set_option maxRecDepth 10000 in
theorem c_X8_told (l : Launch) (D : va_G) (a : Nat → Nat) (g : Nat → ClassId) (M : jM) (L : jL) (k : Int32)  : jK l D a g yX8_told cX8_told 3 (some .int) 3 67 [.ref (a 77), .int k] M L (some (.int (m_told M k))) M L := by
  refine jMeth (by decide) (Nat.le_of_ble_eq_true rfl) ?_
  intro G hX hZ
  refine J_cg (loc' := [(0, .ref (a 77)), (1, .int k)]) rfl rfl rfl rfl ?_
  refine J_iload_n hX 1 dX8_told_0 rfl ?_
  refine J_i2l hX dX8_told_1 ?_
  refine J_ldc2 hX dX8_told_2 wm_34_5 ?_
  refine J_ldc2 hX dX8_told_5 wm_34_6 ?_
  refine J_callS hX [.long (Int32.toInt64 k), .long (200 : Int64), .long (259 : Int64)] [] dX8_told_8 (c_X8_in l D a g M L k (200 : Int64) (259 : Int64)) lk_X8_80 rfl rfl (Nat.le_of_ble_eq_true rfl) (Nat.le_of_ble_eq_true rfl) (Nat.le_of_ble_eq_true rfl) (J_eq (st := [.int (jB (200 ≤ k.toInt ∧ k.toInt ≤ 259))]) rfl ?_)
  refine J_ifB_eq hX 50 dX8_told_11 (by decide) (fun h11 => ?_) (fun h11 => ?_)
  · skip
    refine J_iload_n hX 1 dX8_told_50 rfl ?_
    refine J_i2l hX dX8_told_51 ?_
    refine J_ldc2 hX dX8_told_52 wm_18_6 ?_
    refine J_ldc2 hX dX8_told_55 wm_34_7 ?_
    refine J_callS hX [.long (Int32.toInt64 k), .long (100 : Int64), .long (179 : Int64)] [] dX8_told_58 (c_X8_in l D a g M L k (100 : Int64) (179 : Int64)) lk_X8_80 rfl rfl (Nat.le_of_ble_eq_true rfl) (Nat.le_of_ble_eq_true rfl) (Nat.le_of_ble_eq_true rfl) (J_eq (st := [.int (jB (100 ≤ k.toInt ∧ k.toInt ≤ 179))]) rfl ?_)
    refine J_ifB_eq hX 108 dX8_told_61 (by decide) (fun h61 => ?_) (fun h61 => ?_)
    · skip
      refine J_iload_n hX 1 dX8_told_108 rfl ?_
      refine J_i2l hX dX8_told_109 ?_
      refine J_ldc2 hX dX8_told_110 wm_26_19 ?_
      refine J_ldc2 hX dX8_told_113 wm_34_8 ?_
      refine J_callS hX [.long (Int32.toInt64 k), .long (10 : Int64), .long (69 : Int64)] [] dX8_told_116 (c_X8_in l D a g M L k (10 : Int64) (69 : Int64)) lk_X8_80 rfl rfl (Nat.le_of_ble_eq_true rfl) (Nat.le_of_ble_eq_true rfl) (Nat.le_of_ble_eq_true rfl) (J_eq (st := [.int (jB (10 ≤ k.toInt ∧ k.toInt ≤ 69))]) rfl ?_)
      refine J_ifB_eq hX 139 dX8_told_119 (by decide) (fun h119 => ?_) (fun h119 => ?_)
      · skip
        refine J_aload_n hX 0 dX8_told_139 rfl ?_
        refine J_iload_n hX 1 dX8_told_140 rfl ?_
        refine J_callV hX 77 [.int k] [] dX8_told_141 (c_X8_toldOfAll l D a g M L k) lk_X8_329 jc_77 rfl rfl rfl (Nat.le_of_ble_eq_true rfl) (Nat.le_of_ble_eq_true rfl) (Nat.le_of_ble_eq_true rfl) (J_eq (st := [.int (m_tAll M k)]) rfl ?_)
        exact J_ret hX hZ dX8_told_144 rfl rfl ⟨by rw [m_told, if_neg h11, if_neg h61]; (first | rw [if_pos h119] | rw [if_neg h119]), rfl, rfl⟩
      · skip
        have ik : k = nI k.toNatClampNeg := jix (b := 69) ⟨by omega, h119.2⟩
        have lk := jixl (o := k) (b := 69) ⟨by omega, h119.2⟩
        have gk : 10 ≤ k.toNatClampNeg := by rw [jtn]; omega
        refine J_seti (y := nI k.toNatClampNeg) (loc' := [(0, .ref (a 77)), (1, .int (nI k.toNatClampNeg))]) 1 rfl ik rfl ?_
        refine J_aload_n hX 0 dX8_told_122 rfl ?_
        refine J_iload_n hX 1 dX8_told_123 rfl ?_
        refine J_bipush (v := 10) hX dX8_told_124 (by decide) ?_
        refine J_idiv hX dX8_told_126 (by decide) ?_
        refine J_topi (y := nI (k.toNatClampNeg / 10)) (jdiv10 (by omega)) ?_
        refine J_iconst (v := 1) hX dX8_told_127 (by decide) ?_
        refine J_isub hX dX8_told_128 ?_
        refine J_topi (y := nI (k.toNatClampNeg / 10 - 1)) (by rw [show k.toNatClampNeg / 10 = (k.toNatClampNeg / 10 - 1) + 1 by omega, nI_pred]; rfl) ?_
        refine J_iload_n hX 1 dX8_told_129 rfl ?_
        refine J_bipush (v := 10) hX dX8_told_130 (by decide) ?_
        refine J_irem hX dX8_told_132 (by decide) ?_
        refine J_topi (y := nI (k.toNatClampNeg % 10)) (jrem10 (by omega)) ?_
        refine J_callV hX 77 [.int (nI (k.toNatClampNeg / 10 - 1)), .int (nI (k.toNatClampNeg % 10))] [] dX8_told_133 (c_X8_toldOfOne l D a g M L (k.toNatClampNeg / 10 - 1) (by omega) (k.toNatClampNeg % 10) (by omega)) lk_X8_326 jc_77 rfl rfl rfl (Nat.le_of_ble_eq_true rfl) (Nat.le_of_ble_eq_true rfl) (Nat.le_of_ble_eq_true rfl) (J_eq (st := [.int (if k.toNatClampNeg % 10 < 3 then m_ofOne M (k.toNatClampNeg / 10 - 1) (nI (k.toNatClampNeg % 10)) else -2)]) rfl ?_)
        refine J_goto hX 144 dX8_told_136 (by decide) ?_
        exact J_ret hX hZ dX8_told_144 rfl rfl ⟨by rw [m_told, if_neg h11, if_neg h61]; (first | rw [if_pos h119] | rw [if_neg h119]), rfl, rfl⟩
    · skip
      have ik : k = nI k.toNatClampNeg := jix (b := 179) ⟨by omega, h61.2⟩
      have lk := jixl (o := k) (b := 179) ⟨by omega, h61.2⟩
      have gk : 100 ≤ k.toNatClampNeg := by rw [jtn]; omega
      refine J_seti (y := nI k.toNatClampNeg) (loc' := [(0, .ref (a 77)), (1, .int (nI k.toNatClampNeg))]) 1 rfl ik rfl ?_
      refine J_iload_n hX 1 dX8_told_64 rfl ?_
      refine J_bipush (v := 100) hX dX8_told_65 (by decide) ?_
      refine J_isub hX dX8_told_67 ?_
      refine J_topi (y := nI (k.toNatClampNeg - 100)) (pk_sub gk) ?_
      refine J_bipush (v := 10) hX dX8_told_68 (by decide) ?_
      refine J_idiv hX dX8_told_70 (by decide) ?_
      refine J_topi (y := nI ((k.toNatClampNeg - 100) / 10)) (jdiv10 (by omega)) ?_
      refine J_istore_n (loc' := [(2, .int (nI ((k.toNatClampNeg - 100) / 10))), (0, .ref (a 77)), (1, .int (nI k.toNatClampNeg))]) hX dX8_told_71 (by decide) rfl ?_
      refine J_iload_n hX 2 dX8_told_72 rfl ?_
      refine J_bipush (v := 10) hX dX8_told_73 (by decide) ?_
      refine J_irem hX dX8_told_75 (by decide) ?_
      refine J_topi (y := nI (k.toNatClampNeg % 10)) (jrem10 (by omega)) ?_
      refine J_if_ne hX 88 dX8_told_76 (by decide) (fun h76 => ?_) (fun h76 => ?_)
      · skip
        refine J_iload_n hX 2 dX8_told_88 rfl ?_
        refine J_bipush (v := 10) hX dX8_told_89 (by decide) ?_
        refine J_irem hX dX8_told_91 (by decide) ?_
        refine J_topi (y := nI (k.toNatClampNeg % 10)) (jrem10 (by omega)) ?_
        refine J_iconst (v := 1) hX dX8_told_92 (by decide) ?_
        refine J_cmpN_ne hX 105 (k.toNatClampNeg % 10) 1 dX8_told_93 (by decide) rfl rfl (by omega) (by omega) (fun h93 => ?_) (fun h93 => ?_)
        · skip
          refine J_bipush (v := (-2)) hX dX8_told_105 (by decide) ?_
          exact J_ret hX hZ dX8_told_107 rfl rfl ⟨by rw [m_told, if_neg h11, if_pos h61]; (first | rw [if_pos ((nI_eq (by omega) (by omega)).mp (show nI (k.toNatClampNeg % 10) = nI 0 by first | exact h76 | exact Classical.not_not.mp h76))] | rw [if_neg (fun q => h76 (by rw [q]; rfl))]); (first | rw [if_pos h93] | rw [if_neg h93] | rw [if_pos (Classical.not_not.mp h93)]), rfl, rfl⟩
        · skip
          refine J_aload_n hX 1 dX8_told_96 rfl ?_
          refine J_getr hX 77 4 dX8_told_97 jc_77 rfl rfl (by decide) inlX8 wm_4_23 ?_
          refine J_iload_n hX 0 dX8_told_100 rfl ?_
          refine J_iald hX 82 ((k.toNatClampNeg - 100) / 10) dX8_told_101 jc_82 rfl (by omega) (by omega) ?_
          refine J_goto hX 107 dX8_told_102 (by decide) ?_
          exact J_ret hX hZ dX8_told_107 rfl rfl ⟨by rw [m_told, if_neg h11, if_pos h61]; (first | rw [if_pos ((nI_eq (by omega) (by omega)).mp (show nI (k.toNatClampNeg % 10) = nI 0 by first | exact h76 | exact Classical.not_not.mp h76))] | rw [if_neg (fun q => h76 (by rw [q]; rfl))]); (first | rw [if_pos h93] | rw [if_neg h93] | rw [if_pos (Classical.not_not.mp h93)]), rfl, rfl⟩
      · skip
        refine J_aload_n hX 1 dX8_told_79 rfl ?_
        refine J_getr hX 77 3 dX8_told_80 jc_77 rfl rfl (by decide) inlX8 wm_4_22 ?_
        refine J_iload_n hX 0 dX8_told_83 rfl ?_
        refine J_iald hX 81 ((k.toNatClampNeg - 100) / 10) dX8_told_84 jc_81 rfl (by omega) (by omega) ?_
        refine J_goto hX 107 dX8_told_85 (by decide) ?_
        exact J_ret hX hZ dX8_told_107 rfl rfl ⟨by rw [m_told, if_neg h11, if_pos h61]; (first | rw [if_pos ((nI_eq (by omega) (by omega)).mp (show nI (k.toNatClampNeg % 10) = nI 0 by first | exact h76 | exact Classical.not_not.mp h76))] | rw [if_neg (fun q => h76 (by rw [q]; rfl))]); skip, rfl, rfl⟩
  · skip
    have ik : k = nI k.toNatClampNeg := jix (b := 259) ⟨by omega, h11.2⟩
    have lk := jixl (o := k) (b := 259) ⟨by omega, h11.2⟩
    have gk : 200 ≤ k.toNatClampNeg := by rw [jtn]; omega
    refine J_seti (y := nI k.toNatClampNeg) (loc' := [(0, .ref (a 77)), (1, .int (nI k.toNatClampNeg))]) 1 rfl ik rfl ?_
    refine J_iload_n hX 1 dX8_told_14 rfl ?_
    refine J_bipush (v := 10) hX dX8_told_15 (by decide) ?_
    refine J_irem hX dX8_told_17 (by decide) ?_
    refine J_topi (y := nI (k.toNatClampNeg % 10)) (jrem10 (by omega)) ?_
    refine J_bipush (v := 6) hX dX8_told_18 (by decide) ?_
    refine J_cmpN_ge hX 47 (k.toNatClampNeg % 10) 6 dX8_told_20 (by decide) rfl rfl (by omega) (by omega) (fun h20 => ?_) (fun h20 => ?_)
    · skip
      refine J_bipush (v := (-2)) hX dX8_told_47 (by decide) ?_
      exact J_ret hX hZ dX8_told_49 rfl rfl ⟨by rw [m_told, if_pos h11]; (first | rw [if_pos h20] | rw [if_neg (by omega)]), rfl, rfl⟩
    · skip
      refine J_aload_n hX 0 dX8_told_23 rfl ?_
      refine J_getr hX 77 2 dX8_told_24 jc_77 rfl rfl (by decide) inlX8 wm_4_21 ?_
      refine J_bipush (v := 6) hX dX8_told_27 (by decide) ?_
      refine J_iload_n hX 1 dX8_told_29 rfl ?_
      refine J_sipush (v := 200) hX dX8_told_30 (by decide) ?_
      refine J_isub hX dX8_told_33 ?_
      refine J_topi (y := nI (k.toNatClampNeg - 200)) (pk_sub gk) ?_
      refine J_bipush (v := 10) hX dX8_told_34 (by decide) ?_
      refine J_idiv hX dX8_told_36 (by decide) ?_
      refine J_topi (y := nI ((k.toNatClampNeg - 200) / 10)) (jdiv10 (by omega)) ?_
      refine J_imul hX dX8_told_37 ?_
      refine J_topi (y := nI (6 * ((k.toNatClampNeg - 200) / 10))) (pk_mul 6 _) ?_
      refine J_iload_n hX 1 dX8_told_38 rfl ?_
      refine J_bipush (v := 10) hX dX8_told_39 (by decide) ?_
      refine J_irem hX dX8_told_41 (by decide) ?_
      refine J_topi (y := nI (k.toNatClampNeg % 10)) (jrem10 (by omega)) ?_
      refine J_iadd hX dX8_told_42 ?_
      refine J_topi (y := nI (6 * ((k.toNatClampNeg - 200) / 10) + k.toNatClampNeg % 10)) (nI_add _ _) ?_
      refine J_iald hX 80 (6 * ((k.toNatClampNeg - 200) / 10) + k.toNatClampNeg % 10) dX8_told_43 jc_80 rfl (by omega) (by omega) ?_
      refine J_goto hX 49 dX8_told_44 (by decide) ?_
      exact J_ret hX hZ dX8_told_49 rfl rfl ⟨by rw [m_told, if_pos h11]; (first | rw [if_pos h20] | rw [if_neg (by omega)]), rfl, rfl⟩
