def x_printed (M : jM) (q : Nat) (s : Int32) : Int32 × jM := if M q 5 + s ≤ 99999 then (0, jU M q 5 (M q 5 + s)) else (5, M)
set_option maxHeartbeats 4000000 in
set_option maxRecDepth 10000 in
theorem c_X2_printed (l : Launch) (D : va_G) (a : Nat → Nat) (g : Nat → ClassId) (M : jM) (L : jL) (q : Nat) (hq : jRl q) (s : Int32)  : jK l D a g yX2_printed cX2_printed 2 (some .int) 0 0 [.ref (a q), .int s] M L (some (.int ((x_printed M q s).1))) ((x_printed M q s).2) L := by
  refine jMeth (by decide) (Nat.le_of_ble_eq_true rfl) ?_
  intro G hX hZ
  refine J_cg (loc' := [(0, .ref (a q)), (1, .int s)]) rfl rfl rfl rfl ?_
  refine J_aload_n hX 0 dX2_printed_0 rfl ?_
  refine J_geti hX q 5 dX2_printed_1 hq.o rfl rfl (by decide) inlX2 wm_13_0 ?_
  refine J_iload_n hX 1 dX2_printed_4 rfl ?_
  refine J_iadd hX dX2_printed_5 ?_
  refine J_ldc hX dX2_printed_6 wm_14_2 ?_
  refine J_icmp_le hX 13 dX2_printed_8 (by decide) (fun h8 => ?_) (fun h8 => ?_)
  · skip
    refine J_aload_n hX 0 dX2_printed_13 rfl ?_
    refine J_dup hX dX2_printed_14 rfl ?_
    refine J_geti hX q 5 dX2_printed_15 hq.o rfl rfl (by decide) inlX2 wm_13_0 ?_
    refine J_iload_n hX 1 dX2_printed_18 rfl ?_
    refine J_iadd hX dX2_printed_19 ?_
    refine J_puti (ty := .int) hX q 5 dX2_printed_20 hq.o rfl rfl (by decide) inlX2 wm_13_0 tyX2 tyX2_ok nmX2 rfl (by decide +kernel) rfl rfl ?_
    refine J_iconst (v := 0) hX dX2_printed_23 (by decide) ?_
    exact J_ret hX hZ dX2_printed_24 rfl rfl ⟨by simp [x_printed, h8], by simp [x_printed, h8], rfl⟩
  · skip
    refine J_iconst (v := 5) hX dX2_printed_11 (by decide) ?_
    exact J_ret hX hZ dX2_printed_12 rfl rfl ⟨by simp [x_printed, h8], by simp [x_printed, h8], rfl⟩
def x_paid (M : jM) (q w : Nat) (s : Int32) : Int32 × jM := if s ≤ M q 5 then (if M (q + 1) w + s ≤ 9999 then (0, jU (jU M q 5 (M q 5 - s)) (q + 1) w (jU M q 5 (M q 5 - s) (q + 1) w + s)) else (5, M)) else (3, M)
set_option maxHeartbeats 4000000 in
set_option maxRecDepth 10000 in
theorem c_X2_paidByState (l : Launch) (D : va_G) (a : Nat → Nat) (g : Nat → ClassId) (M : jM) (L : jL) (q : Nat) (hq : jRl q) (w : Nat) (hw : w < 6) (s : Int32)  : jK l D a g yX2_paidByState cX2_paidByState 3 (some .int) 0 0 [.ref (a q), .int (nI w), .int s] M L (some (.int ((x_paid M q w s).1))) ((x_paid M q w s).2) L := by
  refine jMeth (by decide) (Nat.le_of_ble_eq_true rfl) ?_
  intro G hX hZ
  refine J_cg (loc' := [(0, .ref (a q)), (1, .int (nI w)), (2, .int s)]) rfl rfl rfl rfl ?_
  refine J_aload_n hX 0 dX2_paidByState_0 rfl ?_
  refine J_geti hX q 5 dX2_paidByState_1 hq.o rfl rfl (by decide) inlX2 wm_13_0 ?_
  refine J_iload_n hX 2 dX2_paidByState_4 rfl ?_
  refine J_icmp_ge hX 10 dX2_paidByState_5 (by decide) (fun h5 => ?_) (fun h5 => ?_)
  · skip
    refine J_aload_n hX 0 dX2_paidByState_10 rfl ?_
    refine J_getr hX q 0 dX2_paidByState_11 hq.o rfl rfl (by decide) inlX2 wm_2_21 ?_
    refine J_iload_n hX 1 dX2_paidByState_14 rfl ?_
    refine J_iald hX (q + 1) w dX2_paidByState_15 hq.c1 rfl (by omega) (by omega) ?_
    refine J_iload_n hX 2 dX2_paidByState_16 rfl ?_
    refine J_iadd hX dX2_paidByState_17 ?_
    refine J_sipush (v := 9999) hX dX2_paidByState_18 (by decide) ?_
    refine J_icmp_le hX 26 dX2_paidByState_21 (by decide) (fun h21 => ?_) (fun h21 => ?_)
    · skip
      refine J_aload_n hX 0 dX2_paidByState_26 rfl ?_
      refine J_dup hX dX2_paidByState_27 rfl ?_
      refine J_geti hX q 5 dX2_paidByState_28 hq.o rfl rfl (by decide) inlX2 wm_13_0 ?_
      refine J_iload_n hX 2 dX2_paidByState_31 rfl ?_
      refine J_isub hX dX2_paidByState_32 ?_
      refine J_puti (ty := .int) hX q 5 dX2_paidByState_33 hq.o rfl rfl (by decide) inlX2 wm_13_0 tyX2 tyX2_ok nmX2 rfl (by decide +kernel) rfl rfl ?_
      refine J_aload_n hX 0 dX2_paidByState_36 rfl ?_
      refine J_getr hX q 0 dX2_paidByState_37 hq.o rfl rfl (by decide) inlX2 wm_2_21 ?_
      refine J_iload_n hX 1 dX2_paidByState_40 rfl ?_
      refine J_dup2 hX dX2_paidByState_41 rfl rfl ?_
      refine J_iald hX (q + 1) w dX2_paidByState_42 hq.c1 rfl (by omega) (by omega) ?_
      refine J_iload_n hX 2 dX2_paidByState_43 rfl ?_
      refine J_iadd hX dX2_paidByState_44 ?_
      refine J_iast hX (q + 1) w dX2_paidByState_45 hq.c1 rfl (by omega) (by omega) ?_
      refine J_iconst (v := 0) hX dX2_paidByState_46 (by decide) ?_
      exact J_ret hX hZ dX2_paidByState_47 rfl rfl ⟨by simp [x_paid, h5, h21], by simp [x_paid, h5, h21], rfl⟩
    · skip
      refine J_iconst (v := 5) hX dX2_paidByState_24 (by decide) ?_
      exact J_ret hX hZ dX2_paidByState_25 rfl rfl ⟨by simp [x_paid, h5, h21], by simp [x_paid, h5, h21], rfl⟩
  · skip
    refine J_iconst (v := 3) hX dX2_paidByState_8 (by decide) ?_
    exact J_ret hX hZ dX2_paidByState_9 rfl rfl ⟨by simp [x_paid, h5], by simp [x_paid, h5], rfl⟩
def x_boughtM (M : jM) (q w v : Nat) : jM :=
  let M1 := jU M (q + 1) w (M (q + 1) w - M (q + 4) v)
  let M2 := jU M1 q 7 (M1 q 7 + M1 (q + 4) v)
  jU M2 (q + 5) v (nI w)
def x_bought (M : jM) (q w v : Nat) : Int32 × jM := if M (q + 5) v = -1 then (if M (q + 4) v ≤ M (q + 1) w then (0, x_boughtM M q w v) else (3, M)) else (2, M)
set_option maxHeartbeats 4000000 in
set_option maxRecDepth 10000 in
theorem c_X2_bought (l : Launch) (D : va_G) (a : Nat → Nat) (g : Nat → ClassId) (M : jM) (L : jL) (q : Nat) (hq : jRl q) (w : Nat) (hw : w < 6) (v : Nat) (hv : v < 8)  : jK l D a g yX2_bought cX2_bought 3 (some .int) 0 0 [.ref (a q), .int (nI w), .int (nI v)] M L (some (.int ((x_bought M q w v).1))) ((x_bought M q w v).2) L := by
  refine jMeth (by decide) (Nat.le_of_ble_eq_true rfl) ?_
  intro G hX hZ
  refine J_cg (loc' := [(0, .ref (a q)), (1, .int (nI w)), (2, .int (nI v))]) rfl rfl rfl rfl ?_
  refine J_aload_n hX 0 dX2_bought_0 rfl ?_
  refine J_getr hX q 4 dX2_bought_1 hq.o rfl rfl (by decide) inlX2 wm_3_2 ?_
  refine J_iload_n hX 2 dX2_bought_4 rfl ?_
  refine J_iald hX (q + 5) v dX2_bought_5 hq.c5 rfl (by omega) (by omega) ?_
  refine J_iconst (v := (-1)) hX dX2_bought_6 (by decide) ?_
  refine J_icmp_eq hX 12 dX2_bought_7 (by decide) (fun h7 => ?_) (fun h7 => ?_)
  · skip
    refine J_aload_n hX 0 dX2_bought_12 rfl ?_
    refine J_getr hX q 0 dX2_bought_13 hq.o rfl rfl (by decide) inlX2 wm_2_21 ?_
    refine J_iload_n hX 1 dX2_bought_16 rfl ?_
    refine J_iald hX (q + 1) w dX2_bought_17 hq.c1 rfl (by omega) (by omega) ?_
    refine J_aload_n hX 0 dX2_bought_18 rfl ?_
    refine J_getr hX q 3 dX2_bought_19 hq.o rfl rfl (by decide) inlX2 wm_3_1 ?_
    refine J_iload_n hX 2 dX2_bought_22 rfl ?_
    refine J_iald hX (q + 4) v dX2_bought_23 hq.c4 rfl (by omega) (by omega) ?_
    refine J_icmp_ge hX 29 dX2_bought_24 (by decide) (fun h24 => ?_) (fun h24 => ?_)
    · skip
      refine J_aload_n hX 0 dX2_bought_29 rfl ?_
      refine J_getr hX q 0 dX2_bought_30 hq.o rfl rfl (by decide) inlX2 wm_2_21 ?_
      refine J_iload_n hX 1 dX2_bought_33 rfl ?_
      refine J_dup2 hX dX2_bought_34 rfl rfl ?_
      refine J_iald hX (q + 1) w dX2_bought_35 hq.c1 rfl (by omega) (by omega) ?_
      refine J_aload_n hX 0 dX2_bought_36 rfl ?_
      refine J_getr hX q 3 dX2_bought_37 hq.o rfl rfl (by decide) inlX2 wm_3_1 ?_
      refine J_iload_n hX 2 dX2_bought_40 rfl ?_
      refine J_iald hX (q + 4) v dX2_bought_41 hq.c4 rfl (by omega) (by omega) ?_
      refine J_isub hX dX2_bought_42 ?_
      refine J_iast hX (q + 1) w dX2_bought_43 hq.c1 rfl (by omega) (by omega) ?_
      refine J_aload_n hX 0 dX2_bought_44 rfl ?_
      refine J_dup hX dX2_bought_45 rfl ?_
      refine J_geti hX q 7 dX2_bought_46 hq.o rfl rfl (by decide) inlX2 wm_13_2 ?_
      refine J_aload_n hX 0 dX2_bought_49 rfl ?_
      refine J_getr hX q 3 dX2_bought_50 hq.o rfl rfl (by decide) inlX2 wm_3_1 ?_
      refine J_iload_n hX 2 dX2_bought_53 rfl ?_
      refine J_iald hX (q + 4) v dX2_bought_54 hq.c4 rfl (by omega) (by omega) ?_
      refine J_iadd hX dX2_bought_55 ?_
      refine J_puti (ty := .int) hX q 7 dX2_bought_56 hq.o rfl rfl (by decide) inlX2 wm_13_2 tyX2 tyX2_ok nmX2 rfl (by decide +kernel) rfl rfl ?_
      refine J_aload_n hX 0 dX2_bought_59 rfl ?_
      refine J_getr hX q 4 dX2_bought_60 hq.o rfl rfl (by decide) inlX2 wm_3_2 ?_
      refine J_iload_n hX 2 dX2_bought_63 rfl ?_
      refine J_iload_n hX 1 dX2_bought_64 rfl ?_
      refine J_iast hX (q + 5) v dX2_bought_65 hq.c5 rfl (by omega) (by omega) ?_
      refine J_iconst (v := 0) hX dX2_bought_66 (by decide) ?_
      exact J_ret hX hZ dX2_bought_67 rfl rfl ⟨by simp [x_bought, h7, h24], by simp [x_bought, x_boughtM, h7, h24], rfl⟩
    · skip
      refine J_iconst (v := 3) hX dX2_bought_27 (by decide) ?_
      exact J_ret hX hZ dX2_bought_28 rfl rfl ⟨by simp [x_bought, h7, h24], by simp [x_bought, x_boughtM, h7, h24], rfl⟩
  · skip
    refine J_iconst (v := 2) hX dX2_bought_10 (by decide) ?_
    exact J_ret hX hZ dX2_bought_11 rfl rfl ⟨by simp [x_bought, h7], by simp [x_bought, x_boughtM, h7], rfl⟩
def x_worth (M : jM) (q : Nat) (s : Int32) : Int32 := s * x_rate M q / 100
def x_exchM (M : jM) (q w : Nat) (s : Int32) : jM :=
  let M1 := jU M (q + 1) w (M (q + 1) w - s)
  let M2 := jU M1 q 5 (M1 q 5 + s)
  jU M2 (q + 2) w (M2 (q + 2) w + x_worth M q s)
def x_exch (M : jM) (q w : Nat) (s : Int32) : Int32 × jM := if s ≤ M (q + 1) w then (if 99999 < M q 5 + s then (5, M) else if M (q + 2) w + x_worth M q s ≤ 9999 then (0, x_exchM M q w s) else (5, M)) else (3, M)
set_option maxHeartbeats 4000000 in
set_option maxRecDepth 10000 in
theorem c_X2_exchanged (l : Launch) (D : va_G) (a : Nat → Nat) (g : Nat → ClassId) (M : jM) (L : jL) (q : Nat) (hq : jRl q) (w : Nat) (hw : w < 6) (s : Int32)  : jK l D a g yX2_exchanged cX2_exchanged 4 (some .int) 3 71 [.ref (a q), .int (nI w), .int s] M L (some (.int ((x_exch M q w s).1))) ((x_exch M q w s).2) L := by
  refine jMeth (by decide) (Nat.le_of_ble_eq_true rfl) ?_
  intro G hX hZ
  refine J_cg (loc' := [(0, .ref (a q)), (1, .int (nI w)), (2, .int s)]) rfl rfl rfl rfl ?_
  refine J_aload_n hX 0 dX2_exchanged_0 rfl ?_
  refine J_getr hX q 0 dX2_exchanged_1 hq.o rfl rfl (by decide) inlX2 wm_2_21 ?_
  refine J_iload_n hX 1 dX2_exchanged_4 rfl ?_
  refine J_iald hX (q + 1) w dX2_exchanged_5 hq.c1 rfl (by omega) (by omega) ?_
  refine J_iload_n hX 2 dX2_exchanged_6 rfl ?_
  refine J_icmp_ge hX 12 dX2_exchanged_7 (by decide) (fun h7 => ?_) (fun h7 => ?_)
  · skip
    refine J_iload_n hX 2 dX2_exchanged_12 rfl ?_
    refine J_aload_n hX 0 dX2_exchanged_13 rfl ?_
    refine J_callV hX q [] [.int s] dX2_exchanged_14 (c_X2_rate l D a g M L q hq) lk_X2_88 hq.o rfl rfl rfl (Nat.le_of_ble_eq_true rfl) (Nat.le_of_ble_eq_true rfl) (Nat.le_of_ble_eq_true rfl) (J_eq (st := [.int (x_rate M q), .int s]) rfl ?_)
    refine J_imul hX dX2_exchanged_17 ?_
    refine J_bipush (v := 100) hX dX2_exchanged_18 (by decide) ?_
    refine J_idiv hX dX2_exchanged_20 (by decide) ?_
    refine J_topi (y := x_worth M q s) rfl ?_
    refine J_istore_n (loc' := [(3, .int (x_worth M q s)), (0, .ref (a q)), (1, .int (nI w)), (2, .int s)]) hX dX2_exchanged_21 (by decide) rfl ?_
    refine J_aload_n hX 1 dX2_exchanged_22 rfl ?_
    refine J_geti hX q 5 dX2_exchanged_23 hq.o rfl rfl (by decide) inlX2 wm_13_0 ?_
    refine J_iload_n hX 3 dX2_exchanged_26 rfl ?_
    refine J_iadd hX dX2_exchanged_27 ?_
    refine J_ldc hX dX2_exchanged_28 wm_14_2 ?_
    refine J_icmp_gt hX 47 dX2_exchanged_30 (by decide) (fun h30 => ?_) (fun h30 => ?_)
    · skip
      refine J_iconst (v := 5) hX dX2_exchanged_47 (by decide) ?_
      exact J_ret hX hZ dX2_exchanged_48 rfl rfl ⟨by simp [x_exch, h7, h30], by simp [x_exch, x_exchM, h7, h30], rfl⟩
    · skip
      refine J_aload_n hX 1 dX2_exchanged_33 rfl ?_
      refine J_getr hX q 1 dX2_exchanged_34 hq.o rfl rfl (by decide) inlX2 wm_2_22 ?_
      refine J_iload_n hX 2 dX2_exchanged_37 rfl ?_
      refine J_iald hX (q + 2) w dX2_exchanged_38 hq.c2 rfl (by omega) (by omega) ?_
      refine J_iload_n hX 0 dX2_exchanged_39 rfl ?_
      refine J_iadd hX dX2_exchanged_40 ?_
      refine J_sipush (v := 9999) hX dX2_exchanged_41 (by decide) ?_
      refine J_icmp_le hX 49 dX2_exchanged_44 (by decide) (fun h44 => ?_) (fun h44 => ?_)
      · skip
        refine J_aload_n hX 1 dX2_exchanged_49 rfl ?_
        refine J_getr hX q 0 dX2_exchanged_50 hq.o rfl rfl (by decide) inlX2 wm_2_21 ?_
        refine J_iload_n hX 2 dX2_exchanged_53 rfl ?_
        refine J_dup2 hX dX2_exchanged_54 rfl rfl ?_
        refine J_iald hX (q + 1) w dX2_exchanged_55 hq.c1 rfl (by omega) (by omega) ?_
        refine J_iload_n hX 3 dX2_exchanged_56 rfl ?_
        refine J_isub hX dX2_exchanged_57 ?_
        refine J_iast hX (q + 1) w dX2_exchanged_58 hq.c1 rfl (by omega) (by omega) ?_
        refine J_aload_n hX 1 dX2_exchanged_59 rfl ?_
        refine J_dup hX dX2_exchanged_60 rfl ?_
        refine J_geti hX q 5 dX2_exchanged_61 hq.o rfl rfl (by decide) inlX2 wm_13_0 ?_
        refine J_iload_n hX 3 dX2_exchanged_64 rfl ?_
        refine J_iadd hX dX2_exchanged_65 ?_
        refine J_puti (ty := .int) hX q 5 dX2_exchanged_66 hq.o rfl rfl (by decide) inlX2 wm_13_0 tyX2 tyX2_ok nmX2 rfl (by decide +kernel) rfl rfl ?_
        refine J_aload_n hX 1 dX2_exchanged_69 rfl ?_
        refine J_getr hX q 1 dX2_exchanged_70 hq.o rfl rfl (by decide) inlX2 wm_2_22 ?_
        refine J_iload_n hX 2 dX2_exchanged_73 rfl ?_
        refine J_dup2 hX dX2_exchanged_74 rfl rfl ?_
        refine J_iald hX (q + 2) w dX2_exchanged_75 hq.c2 rfl (by omega) (by omega) ?_
        refine J_iload_n hX 0 dX2_exchanged_76 rfl ?_
        refine J_iadd hX dX2_exchanged_77 ?_
        refine J_iast hX (q + 2) w dX2_exchanged_78 hq.c2 rfl (by omega) (by omega) ?_
        refine J_iconst (v := 0) hX dX2_exchanged_79 (by decide) ?_
        exact J_ret hX hZ dX2_exchanged_80 rfl rfl ⟨by simp [x_exch, h7, h30, h44], by simp [x_exch, x_exchM, h7, h30, h44], rfl⟩
      · skip
        refine J_iconst (v := 5) hX dX2_exchanged_47 (by decide) ?_
        exact J_ret hX hZ dX2_exchanged_48 rfl rfl ⟨by simp [x_exch, h7, h30, h44], by simp [x_exch, x_exchM, h7, h30, h44], rfl⟩
  · skip
    refine J_iconst (v := 3) hX dX2_exchanged_10 (by decide) ?_
    exact J_ret hX hZ dX2_exchanged_11 rfl rfl ⟨by simp [x_exch, h7], by simp [x_exch, x_exchM, h7], rfl⟩
def x_sum (M : jM) (q w v : Nat) : Int32 := if M (q + 1) w < M (q + 6 + w) v then M (q + 1) w else M (q + 6 + w) v
def x_settM (M : jM) (q w v : Nat) : jM :=
  let M1 := jU M (q + 6 + w) v (M (q + 6 + w) v - x_sum M q w v)
  let M2 := jU M1 (q + 1) w (M1 (q + 1) w - x_sum M q w v)
  jU M2 (q + 1) v (M2 (q + 1) v + x_sum M q w v)
def x_sett (M : jM) (q w v : Nat) : Int32 × jM := if w = v then (1, M) else if x_sum M q w v = 0 then (4, M) else if M (q + 1) v + x_sum M q w v ≤ 9999 then (0, x_settM M q w v) else (5, M)
set_option maxHeartbeats 4000000 in
set_option maxRecDepth 10000 in
theorem c_X2_settled (l : Launch) (D : va_G) (a : Nat → Nat) (g : Nat → ClassId) (M : jM) (L : jL) (q : Nat) (hq : jRl q) (w : Nat) (hw : w < 6) (v : Nat) (hv : v < 6)  : jK l D a g yX2_settled cX2_settled 4 (some .int) 1 30 [.ref (a q), .int (nI w), .int (nI v)] M L (some (.int ((x_sett M q w v).1))) ((x_sett M q w v).2) L := by
  refine jMeth (by decide) (Nat.le_of_ble_eq_true rfl) ?_
  intro G hX hZ
  refine J_cg (loc' := [(0, .ref (a q)), (1, .int (nI w)), (2, .int (nI v))]) rfl rfl rfl rfl ?_
  refine J_iload_n hX 1 dX2_settled_0 rfl ?_
  refine J_iload_n hX 2 dX2_settled_1 rfl ?_
  refine J_cmpN_ne hX 7 w v dX2_settled_2 (by decide) rfl rfl (by omega) (by omega) (fun h2 => ?_) (fun h2 => ?_)
  · skip
    refine J_aload_n hX 0 dX2_settled_7 rfl ?_
    refine J_getr hX q 2 dX2_settled_8 hq.o rfl rfl (by decide) inlX2 wm_3_0 ?_
    refine J_iload_n hX 1 dX2_settled_11 rfl ?_
    refine J_aald (ty := .array .int) hX (q + 3) w dX2_settled_12 hq.c3 rfl rfl rfl (hq.at (by omega)) (Nat.le_of_ble_eq_true rfl) ?_
    refine J_iload_n hX 2 dX2_settled_13 rfl ?_
    refine J_iald hX (q + 6 + w) v dX2_settled_14 (hq.row (by omega)) rfl (by omega) (by omega) ?_
    refine J_aload_n hX 0 dX2_settled_15 rfl ?_
    refine J_getr hX q 0 dX2_settled_16 hq.o rfl rfl (by decide) inlX2 wm_2_21 ?_
    refine J_iload_n hX 1 dX2_settled_19 rfl ?_
    refine J_iald hX (q + 1) w dX2_settled_20 hq.c1 rfl (by omega) (by omega) ?_
    refine J_mmin hX dX2_settled_21 wm_15_13 wm_15_6 wm_15_7 wm_15_8 (Nat.le_of_ble_eq_true rfl) (Nat.le_of_ble_eq_true rfl) ?_
    refine J_topi (y := x_sum M q w v) rfl ?_
    refine J_istore_n (loc' := [(3, .int (x_sum M q w v)), (0, .ref (a q)), (1, .int (nI w)), (2, .int (nI v))]) hX dX2_settled_24 (by decide) rfl ?_
    refine J_iload_n hX 0 dX2_settled_25 rfl ?_
    refine J_if_ne hX 31 dX2_settled_26 (by decide) (fun h26 => ?_) (fun h26 => ?_)
    · skip
      refine J_aload_n hX 1 dX2_settled_31 rfl ?_
      refine J_getr hX q 0 dX2_settled_32 hq.o rfl rfl (by decide) inlX2 wm_2_21 ?_
      refine J_iload_n hX 3 dX2_settled_35 rfl ?_
      refine J_iald hX (q + 1) v dX2_settled_36 hq.c1 rfl (by omega) (by omega) ?_
      refine J_iload_n hX 0 dX2_settled_37 rfl ?_
      refine J_iadd hX dX2_settled_38 ?_
      refine J_sipush (v := 9999) hX dX2_settled_39 (by decide) ?_
      refine J_icmp_le hX 47 dX2_settled_42 (by decide) (fun h42 => ?_) (fun h42 => ?_)
      · skip
        refine J_aload_n hX 1 dX2_settled_47 rfl ?_
        refine J_getr hX q 2 dX2_settled_48 hq.o rfl rfl (by decide) inlX2 wm_3_0 ?_
        refine J_iload_n hX 2 dX2_settled_51 rfl ?_
        refine J_aald (ty := .array .int) hX (q + 3) w dX2_settled_52 hq.c3 rfl rfl rfl (hq.at (by omega)) (Nat.le_of_ble_eq_true rfl) ?_
        refine J_iload_n hX 3 dX2_settled_53 rfl ?_
        refine J_dup2 hX dX2_settled_54 rfl rfl ?_
        refine J_iald hX (q + 6 + w) v dX2_settled_55 (hq.row (by omega)) rfl (by omega) (by omega) ?_
        refine J_iload_n hX 0 dX2_settled_56 rfl ?_
        refine J_isub hX dX2_settled_57 ?_
        refine J_iast hX (q + 6 + w) v dX2_settled_58 (hq.row (by omega)) rfl (by omega) (by omega) ?_
        refine J_aload_n hX 1 dX2_settled_59 rfl ?_
        refine J_getr hX q 0 dX2_settled_60 hq.o rfl rfl (by decide) inlX2 wm_2_21 ?_
        refine J_iload_n hX 2 dX2_settled_63 rfl ?_
        refine J_dup2 hX dX2_settled_64 rfl rfl ?_
        refine J_iald hX (q + 1) w dX2_settled_65 hq.c1 rfl (by omega) (by omega) ?_
        refine J_iload_n hX 0 dX2_settled_66 rfl ?_
        refine J_isub hX dX2_settled_67 ?_
        refine J_iast hX (q + 1) w dX2_settled_68 hq.c1 rfl (by omega) (by omega) ?_
        refine J_aload_n hX 1 dX2_settled_69 rfl ?_
        refine J_getr hX q 0 dX2_settled_70 hq.o rfl rfl (by decide) inlX2 wm_2_21 ?_
        refine J_iload_n hX 3 dX2_settled_73 rfl ?_
        refine J_dup2 hX dX2_settled_74 rfl rfl ?_
        refine J_iald hX (q + 1) v dX2_settled_75 hq.c1 rfl (by omega) (by omega) ?_
        refine J_iload_n hX 0 dX2_settled_76 rfl ?_
        refine J_iadd hX dX2_settled_77 ?_
        refine J_iast hX (q + 1) v dX2_settled_78 hq.c1 rfl (by omega) (by omega) ?_
        refine J_iconst (v := 0) hX dX2_settled_79 (by decide) ?_
        exact J_ret hX hZ dX2_settled_80 rfl rfl ⟨by simp [x_sett, h2, h26, h42], by simp [x_sett, x_settM, h2, h26, h42], rfl⟩
      · skip
        refine J_iconst (v := 5) hX dX2_settled_45 (by decide) ?_
        exact J_ret hX hZ dX2_settled_46 rfl rfl ⟨by simp [x_sett, h2, h26, h42], by simp [x_sett, x_settM, h2, h26, h42], rfl⟩
    · skip
      refine J_iconst (v := 4) hX dX2_settled_29 (by decide) ?_
      exact J_ret hX hZ dX2_settled_30 rfl rfl ⟨by simp [x_sett, h2, h26], by simp [x_sett, x_settM, h2, h26], rfl⟩
  · skip
    refine J_iconst (v := 1) hX dX2_settled_5 (by decide) ?_
    exact J_ret hX hZ dX2_settled_6 rfl rfl ⟨by simp [x_sett, h2], by simp [x_sett, x_settM, h2], rfl⟩
def x_forgM (M : jM) (q w : Nat) (s : Int32) : jM :=
  let M1 := jU M (q + 1) w (M (q + 1) w + s)
  jU M1 q 6 (M1 q 6 + s)
def x_forg (M : jM) (q w : Nat) (s : Int32) : Int32 × jM := if 9999 < M (q + 1) w + s then (5, M) else if M q 6 + s ≤ 99999 then (0, x_forgM M q w s) else (5, M)
set_option maxHeartbeats 4000000 in
set_option maxRecDepth 10000 in
theorem c_X2_forgedFor (l : Launch) (D : va_G) (a : Nat → Nat) (g : Nat → ClassId) (M : jM) (L : jL) (q : Nat) (hq : jRl q) (w : Nat) (hw : w < 6) (s : Int32)  : jK l D a g yX2_forgedFor cX2_forgedFor 3 (some .int) 0 0 [.ref (a q), .int (nI w), .int s] M L (some (.int ((x_forg M q w s).1))) ((x_forg M q w s).2) L := by
  refine jMeth (by decide) (Nat.le_of_ble_eq_true rfl) ?_
  intro G hX hZ
  refine J_cg (loc' := [(0, .ref (a q)), (1, .int (nI w)), (2, .int s)]) rfl rfl rfl rfl ?_
  refine J_aload_n hX 0 dX2_forgedFor_0 rfl ?_
  refine J_getr hX q 0 dX2_forgedFor_1 hq.o rfl rfl (by decide) inlX2 wm_2_21 ?_
  refine J_iload_n hX 1 dX2_forgedFor_4 rfl ?_
  refine J_iald hX (q + 1) w dX2_forgedFor_5 hq.c1 rfl (by omega) (by omega) ?_
  refine J_iload_n hX 2 dX2_forgedFor_6 rfl ?_
  refine J_iadd hX dX2_forgedFor_7 ?_
  refine J_sipush (v := 9999) hX dX2_forgedFor_8 (by decide) ?_
  refine J_icmp_gt hX 25 dX2_forgedFor_11 (by decide) (fun h11 => ?_) (fun h11 => ?_)
  · skip
    refine J_iconst (v := 5) hX dX2_forgedFor_25 (by decide) ?_
    exact J_ret hX hZ dX2_forgedFor_26 rfl rfl ⟨by simp [x_forg, h11], by simp [x_forg, x_forgM, h11], rfl⟩
  · skip
    refine J_aload_n hX 0 dX2_forgedFor_14 rfl ?_
    refine J_geti hX q 6 dX2_forgedFor_15 hq.o rfl rfl (by decide) inlX2 wm_13_1 ?_
    refine J_iload_n hX 2 dX2_forgedFor_18 rfl ?_
    refine J_iadd hX dX2_forgedFor_19 ?_
    refine J_ldc hX dX2_forgedFor_20 wm_14_2 ?_
    refine J_icmp_le hX 27 dX2_forgedFor_22 (by decide) (fun h22 => ?_) (fun h22 => ?_)
    · skip
      refine J_aload_n hX 0 dX2_forgedFor_27 rfl ?_
      refine J_getr hX q 0 dX2_forgedFor_28 hq.o rfl rfl (by decide) inlX2 wm_2_21 ?_
      refine J_iload_n hX 1 dX2_forgedFor_31 rfl ?_
      refine J_dup2 hX dX2_forgedFor_32 rfl rfl ?_
      refine J_iald hX (q + 1) w dX2_forgedFor_33 hq.c1 rfl (by omega) (by omega) ?_
      refine J_iload_n hX 2 dX2_forgedFor_34 rfl ?_
      refine J_iadd hX dX2_forgedFor_35 ?_
      refine J_iast hX (q + 1) w dX2_forgedFor_36 hq.c1 rfl (by omega) (by omega) ?_
      refine J_aload_n hX 0 dX2_forgedFor_37 rfl ?_
      refine J_dup hX dX2_forgedFor_38 rfl ?_
      refine J_geti hX q 6 dX2_forgedFor_39 hq.o rfl rfl (by decide) inlX2 wm_13_1 ?_
      refine J_iload_n hX 2 dX2_forgedFor_42 rfl ?_
      refine J_iadd hX dX2_forgedFor_43 ?_
      refine J_puti (ty := .int) hX q 6 dX2_forgedFor_44 hq.o rfl rfl (by decide) inlX2 wm_13_1 tyX2 tyX2_ok nmX2 rfl (by decide +kernel) rfl rfl ?_
      refine J_iconst (v := 0) hX dX2_forgedFor_47 (by decide) ?_
      exact J_ret hX hZ dX2_forgedFor_48 rfl rfl ⟨by simp [x_forg, h11, h22], by simp [x_forg, x_forgM, h11, h22], rfl⟩
    · skip
      refine J_iconst (v := 5) hX dX2_forgedFor_25 (by decide) ?_
      exact J_ret hX hZ dX2_forgedFor_26 rfl rfl ⟨by simp [x_forg, h11, h22], by simp [x_forg, x_forgM, h11, h22], rfl⟩
def x_month (M : jM) (q : Nat) : Int32 × jM := if M q 8 = 99 then (6, M) else (0, jU M q 8 (M q 8 + 1))
set_option maxHeartbeats 4000000 in
set_option maxRecDepth 10000 in
theorem c_X2_monthEnded (l : Launch) (D : va_G) (a : Nat → Nat) (g : Nat → ClassId) (M : jM) (L : jL) (q : Nat) (hq : jRl q)  : jK l D a g yX2_monthEnded cX2_monthEnded 1 (some .int) 0 0 [.ref (a q)] M L (some (.int ((x_month M q).1))) ((x_month M q).2) L := by
  refine jMeth (by decide) (Nat.le_of_ble_eq_true rfl) ?_
  intro G hX hZ
  refine J_cg (loc' := [(0, .ref (a q))]) rfl rfl rfl rfl ?_
  refine J_aload_n hX 0 dX2_monthEnded_0 rfl ?_
  refine J_geti hX q 8 dX2_monthEnded_1 hq.o rfl rfl (by decide) inlX2 wm_13_3 ?_
  refine J_bipush (v := 99) hX dX2_monthEnded_4 (by decide) ?_
  refine J_icmp_ne hX 12 dX2_monthEnded_6 (by decide) (fun h6 => ?_) (fun h6 => ?_)
  · skip
    refine J_aload_n hX 0 dX2_monthEnded_12 rfl ?_
    refine J_dup hX dX2_monthEnded_13 rfl ?_
    refine J_geti hX q 8 dX2_monthEnded_14 hq.o rfl rfl (by decide) inlX2 wm_13_3 ?_
    refine J_iconst (v := 1) hX dX2_monthEnded_17 (by decide) ?_
    refine J_iadd hX dX2_monthEnded_18 ?_
    refine J_puti (ty := .int) hX q 8 dX2_monthEnded_19 hq.o rfl rfl (by decide) inlX2 wm_13_3 tyX2 tyX2_ok nmX2 rfl (by decide +kernel) rfl rfl ?_
    refine J_iconst (v := 0) hX dX2_monthEnded_22 (by decide) ?_
    exact J_ret hX hZ dX2_monthEnded_23 rfl rfl ⟨by simp [x_month, h6], by simp [x_month, h6], rfl⟩
  · skip
    refine J_bipush (v := 6) hX dX2_monthEnded_9 (by decide) ?_
    exact J_ret hX hZ dX2_monthEnded_11 rfl rfl ⟨by simp [x_month, h6], by simp [x_month, h6], rfl⟩
def x_act (M : jM) (q : Nat) (k : Int32) (w : Nat) (z : Int32) : Int32 × jM :=
  if k = 0 then x_printed M q (100 * z) else if k = 1 then x_paid M q w (100 * z) else if k = 2 then x_bought M q w z.toNatClampNeg else if k = 3 then x_bought M q w z.toNatClampNeg
  else if k = 4 then x_exch M q w (10 * z) else if k = 5 then x_sett M q w z.toNatClampNeg else if k = 6 then x_forg M q w (100 * z) else x_month M q
/-- a number that is a place below b -/
def x_lt (z : Int32) (b : Nat) : Prop := z.toNatClampNeg < b ∧ z = nI z.toNatClampNeg
set_option maxHeartbeats 4000000 in
set_option maxRecDepth 10000 in
theorem c_X2_act (l : Launch) (D : va_G) (a : Nat → Nat) (g : Nat → ClassId) (M : jM) (L : jL) (q : Nat) (hq : jRl q) (k : Int32) (w : Nat) (hw : w < 6) (z : Int32) (h2 : k = 2 ∨ k = 3 → x_lt z 8) (h5 : k = 5 → x_lt z 6)  : jK l D a g yX2_act cX2_act 4 (some .int) 4 94 [.ref (a q), .int k, .int (nI w), .int z] M L (some (.int ((x_act M q k w z).1))) ((x_act M q k w z).2) L := by
  refine jMeth (by decide) (Nat.le_of_ble_eq_true rfl) ?_
  intro G hX hZ
  refine J_cg (loc' := [(0, .ref (a q)), (1, .int k), (2, .int (nI w)), (3, .int z)]) rfl rfl rfl rfl ?_
  refine J_iload_n hX 1 dX2_act_0 rfl ?_
  by_cases s1_0 : k = 0
  · refine J_tableIn hX 44 dX2_act_1 (by rw [s1_0]; decide) (by rw [s1_0]; decide) (by rw [s1_0]; rfl) (by decide) ?_
    refine J_aload_n hX 0 dX2_act_44 rfl ?_
    refine J_bipush (v := 100) hX dX2_act_45 (by decide) ?_
    refine J_iload_n hX 3 dX2_act_47 rfl ?_
    refine J_imul hX dX2_act_48 ?_
    refine J_callV hX q [.int (100 * z)] [] dX2_act_49 (c_X2_printed l D a g M L q hq (100 * z)) lk_X2_66 hq.o rfl rfl rfl (Nat.le_of_ble_eq_true rfl) (Nat.le_of_ble_eq_true rfl) (Nat.le_of_ble_eq_true rfl) (J_eq (st := [.int ((x_printed M q (100 * z)).1)]) rfl ?_)
    exact J_ret hX hZ dX2_act_52 rfl rfl ⟨by simp [x_act, s1_0], by simp [x_act, s1_0], rfl⟩
  by_cases s1_1 : k = 1
  · refine J_tableIn hX 53 dX2_act_1 (by rw [s1_1]; decide) (by rw [s1_1]; decide) (by rw [s1_1]; rfl) (by decide) ?_
    refine J_aload_n hX 0 dX2_act_53 rfl ?_
    refine J_iload_n hX 2 dX2_act_54 rfl ?_
    refine J_bipush (v := 100) hX dX2_act_55 (by decide) ?_
    refine J_iload_n hX 3 dX2_act_57 rfl ?_
    refine J_imul hX dX2_act_58 ?_
    refine J_callV hX q [.int (nI w), .int (100 * z)] [] dX2_act_59 (c_X2_paidByState l D a g M L q hq w (by omega) (100 * z)) lk_X2_69 hq.o rfl rfl rfl (Nat.le_of_ble_eq_true rfl) (Nat.le_of_ble_eq_true rfl) (Nat.le_of_ble_eq_true rfl) (J_eq (st := [.int ((x_paid M q w (100 * z)).1)]) rfl ?_)
    exact J_ret hX hZ dX2_act_62 rfl rfl ⟨by simp [x_act, s1_0, s1_1], by simp [x_act, s1_0, s1_1], rfl⟩
  by_cases s1_2 : k = 2
  · refine J_tableIn hX 63 dX2_act_1 (by rw [s1_2]; decide) (by rw [s1_2]; decide) (by rw [s1_2]; rfl) (by decide) ?_
    have hv := h2 (Or.inl s1_2)
    refine J_aload_n hX 0 dX2_act_63 rfl ?_
    refine J_iload_n hX 2 dX2_act_64 rfl ?_
    refine J_iload_n hX 3 dX2_act_65 rfl ?_
    refine J_topi (y := nI z.toNatClampNeg) hv.2 ?_
    refine J_callV hX q [.int (nI w), .int (nI z.toNatClampNeg)] [] dX2_act_66 (c_X2_bought l D a g M L q hq w (by omega) z.toNatClampNeg hv.1) lk_X2_72 hq.o rfl rfl rfl (Nat.le_of_ble_eq_true rfl) (Nat.le_of_ble_eq_true rfl) (Nat.le_of_ble_eq_true rfl) (J_eq (st := [.int ((x_bought M q w z.toNatClampNeg).1)]) rfl ?_)
    exact J_ret hX hZ dX2_act_69 rfl rfl ⟨by simp [x_act, s1_0, s1_1, s1_2], by simp [x_act, s1_0, s1_1, s1_2], rfl⟩
  by_cases s1_3 : k = 3
  · refine J_tableIn hX 63 dX2_act_1 (by rw [s1_3]; decide) (by rw [s1_3]; decide) (by rw [s1_3]; rfl) (by decide) ?_
    have hv := h2 (Or.inr s1_3)
    refine J_aload_n hX 0 dX2_act_63 rfl ?_
    refine J_iload_n hX 2 dX2_act_64 rfl ?_
    refine J_iload_n hX 3 dX2_act_65 rfl ?_
    refine J_topi (y := nI z.toNatClampNeg) hv.2 ?_
    refine J_callV hX q [.int (nI w), .int (nI z.toNatClampNeg)] [] dX2_act_66 (c_X2_bought l D a g M L q hq w (by omega) z.toNatClampNeg hv.1) lk_X2_72 hq.o rfl rfl rfl (Nat.le_of_ble_eq_true rfl) (Nat.le_of_ble_eq_true rfl) (Nat.le_of_ble_eq_true rfl) (J_eq (st := [.int ((x_bought M q w z.toNatClampNeg).1)]) rfl ?_)
    exact J_ret hX hZ dX2_act_69 rfl rfl ⟨by simp [x_act, s1_0, s1_1, s1_2, s1_3], by simp [x_act, s1_0, s1_1, s1_2, s1_3], rfl⟩
  by_cases s1_4 : k = 4
  · refine J_tableIn hX 70 dX2_act_1 (by rw [s1_4]; decide) (by rw [s1_4]; decide) (by rw [s1_4]; rfl) (by decide) ?_
    refine J_aload_n hX 0 dX2_act_70 rfl ?_
    refine J_iload_n hX 2 dX2_act_71 rfl ?_
    refine J_bipush (v := 10) hX dX2_act_72 (by decide) ?_
    refine J_iload_n hX 3 dX2_act_74 rfl ?_
    refine J_imul hX dX2_act_75 ?_
    refine J_callV hX q [.int (nI w), .int (10 * z)] [] dX2_act_76 (c_X2_exchanged l D a g M L q hq w (by omega) (10 * z)) lk_X2_75 hq.o rfl rfl rfl (Nat.le_of_ble_eq_true rfl) (Nat.le_of_ble_eq_true rfl) (Nat.le_of_ble_eq_true rfl) (J_eq (st := [.int ((x_exch M q w (10 * z)).1)]) rfl ?_)
    exact J_ret hX hZ dX2_act_79 rfl rfl ⟨by simp [x_act, s1_0, s1_1, s1_2, s1_3, s1_4], by simp [x_act, s1_0, s1_1, s1_2, s1_3, s1_4], rfl⟩
  by_cases s1_5 : k = 5
  · refine J_tableIn hX 80 dX2_act_1 (by rw [s1_5]; decide) (by rw [s1_5]; decide) (by rw [s1_5]; rfl) (by decide) ?_
    have hv := h5 s1_5
    refine J_aload_n hX 0 dX2_act_80 rfl ?_
    refine J_iload_n hX 2 dX2_act_81 rfl ?_
    refine J_iload_n hX 3 dX2_act_82 rfl ?_
    refine J_topi (y := nI z.toNatClampNeg) hv.2 ?_
    refine J_callV hX q [.int (nI w), .int (nI z.toNatClampNeg)] [] dX2_act_83 (c_X2_settled l D a g M L q hq w (by omega) z.toNatClampNeg hv.1) lk_X2_78 hq.o rfl rfl rfl (Nat.le_of_ble_eq_true rfl) (Nat.le_of_ble_eq_true rfl) (Nat.le_of_ble_eq_true rfl) (J_eq (st := [.int ((x_sett M q w z.toNatClampNeg).1)]) rfl ?_)
    exact J_ret hX hZ dX2_act_86 rfl rfl ⟨by simp [x_act, s1_0, s1_1, s1_2, s1_3, s1_4, s1_5], by simp [x_act, s1_0, s1_1, s1_2, s1_3, s1_4, s1_5], rfl⟩
  by_cases s1_6 : k = 6
  · refine J_tableIn hX 87 dX2_act_1 (by rw [s1_6]; decide) (by rw [s1_6]; decide) (by rw [s1_6]; rfl) (by decide) ?_
    refine J_aload_n hX 0 dX2_act_87 rfl ?_
    refine J_iload_n hX 2 dX2_act_88 rfl ?_
    refine J_bipush (v := 100) hX dX2_act_89 (by decide) ?_
    refine J_iload_n hX 3 dX2_act_91 rfl ?_
    refine J_imul hX dX2_act_92 ?_
    refine J_callV hX q [.int (nI w), .int (100 * z)] [] dX2_act_93 (c_X2_forgedFor l D a g M L q hq w (by omega) (100 * z)) lk_X2_81 hq.o rfl rfl rfl (Nat.le_of_ble_eq_true rfl) (Nat.le_of_ble_eq_true rfl) (Nat.le_of_ble_eq_true rfl) (J_eq (st := [.int ((x_forg M q w (100 * z)).1)]) rfl ?_)
    exact J_ret hX hZ dX2_act_96 rfl rfl ⟨by simp [x_act, s1_0, s1_1, s1_2, s1_3, s1_4, s1_5, s1_6], by simp [x_act, s1_0, s1_1, s1_2, s1_3, s1_4, s1_5, s1_6], rfl⟩
  have t1_0 := lv_neT s1_0 (show (0 : Int32).toInt = 0 from rfl)
  have t1_1 := lv_neT s1_1 (show (1 : Int32).toInt = 1 from rfl)
  have t1_2 := lv_neT s1_2 (show (2 : Int32).toInt = 2 from rfl)
  have t1_3 := lv_neT s1_3 (show (3 : Int32).toInt = 3 from rfl)
  have t1_4 := lv_neT s1_4 (show (4 : Int32).toInt = 4 from rfl)
  have t1_5 := lv_neT s1_5 (show (5 : Int32).toInt = 5 from rfl)
  have t1_6 := lv_neT s1_6 (show (6 : Int32).toInt = 6 from rfl)
  refine J_tableOut hX 97 dX2_act_1 (by omega) (by decide) ?_
  refine J_aload_n hX 0 dX2_act_97 rfl ?_
  refine J_callV hX q [] [] dX2_act_98 (c_X2_monthEnded l D a g M L q hq) lk_X2_84 hq.o rfl rfl rfl (Nat.le_of_ble_eq_true rfl) (Nat.le_of_ble_eq_true rfl) (Nat.le_of_ble_eq_true rfl) (J_eq (st := [.int ((x_month M q).1)]) rfl ?_)
  exact J_ret hX hZ dX2_act_101 rfl rfl ⟨by simp [x_act, s1_0, s1_1, s1_2, s1_3, s1_4, s1_5, s1_6], by simp [x_act, s1_0, s1_1, s1_2, s1_3, s1_4, s1_5, s1_6], rfl⟩
def x_cpR (M : jM) (r q : Nat) : Nat → jM
  | 0 => M
  | n + 1 => jCp (x_cpR M r q n) (r + 6 + n) (q + 6 + n) 6
def x_cpS (M : jM) (r q : Nat) : Nat → jM
  | 0 => M
  | n + 1 => jU (x_cpS M r q n) q (5 + n) (x_cpS M r q n r (5 + n))
def x_copy (M : jM) (r q : Nat) : jM := x_cpS (jCp (jCp (x_cpR (jCp (jCp M (r + 1) (q + 1) 6) (r + 2) (q + 2) 6) r q 6) (r + 4) (q + 4) 8) (r + 5) (q + 5) 8) r q 4
set_option maxHeartbeats 4000000 in
set_option maxRecDepth 10000 in
theorem c_X2_copyFrom (l : Launch) (D : va_G) (a : Nat → Nat) (g : Nat → ClassId) (M : jM) (L : jL) (q : Nat) (hq : jRl q) (r : Nat) (hr : jRl r)  : jK l D a g yX2_copyFrom cX2_copyFrom 3 none 1 60 [.ref (a q), .ref (a r)] M L none (x_copy M r q) L := by
  refine jMeth (by decide) (Nat.le_of_ble_eq_true rfl) ?_
  intro G hX hZ
  refine J_cg (loc' := [(0, .ref (a q)), (1, .ref (a r))]) rfl rfl rfl rfl ?_
  refine J_aload_n hX 1 dX2_copyFrom_0 rfl ?_
  refine J_getr hX r 0 dX2_copyFrom_1 hr.o rfl rfl (by decide) inlX2 wm_2_21 ?_
  refine J_iconst (v := 0) hX dX2_copyFrom_4 (by decide) ?_
  refine J_aload_n hX 0 dX2_copyFrom_5 rfl ?_
  refine J_getr hX q 0 dX2_copyFrom_6 hq.o rfl rfl (by decide) inlX2 wm_2_21 ?_
  refine J_iconst (v := 0) hX dX2_copyFrom_9 (by decide) ?_
  refine J_bipush (v := 6) hX dX2_copyFrom_10 (by decide) ?_
  refine J_copyi (n := 6) hX (r + 1) (q + 1) dX2_copyFrom_12 wm_12_20 wm_12_21 wm_12_22 wm_12_23 hr.c1 hq.c1 rfl (by omega) (by omega) (by omega) (Nat.le_of_ble_eq_true rfl) (Nat.le_of_ble_eq_true rfl) ?_
  refine J_aload_n hX 1 dX2_copyFrom_15 rfl ?_
  refine J_getr hX r 1 dX2_copyFrom_16 hr.o rfl rfl (by decide) inlX2 wm_2_22 ?_
  refine J_iconst (v := 0) hX dX2_copyFrom_19 (by decide) ?_
  refine J_aload_n hX 0 dX2_copyFrom_20 rfl ?_
  refine J_getr hX q 1 dX2_copyFrom_21 hq.o rfl rfl (by decide) inlX2 wm_2_22 ?_
  refine J_iconst (v := 0) hX dX2_copyFrom_24 (by decide) ?_
  refine J_bipush (v := 6) hX dX2_copyFrom_25 (by decide) ?_
  refine J_copyi (n := 6) hX (r + 2) (q + 2) dX2_copyFrom_27 wm_12_20 wm_12_21 wm_12_22 wm_12_23 hr.c2 hq.c2 rfl (by omega) (by omega) (by omega) (Nat.le_of_ble_eq_true rfl) (Nat.le_of_ble_eq_true rfl) ?_
  refine J_iconst (v := 0) hX dX2_copyFrom_30 (by decide) ?_
  refine J_istore_n (loc' := [(2, .int 0), (0, .ref (a q)), (1, .ref (a r))]) hX dX2_copyFrom_31 (by decide) rfl ?_
  have key32 : ∀ (fu32 : Nat) (i : Nat), 6 - i < fu32 → i ≤ 6 → J l D a g G 3 (x_cpR (jCp (jCp M (r + 1) (q + 1) 6) (r + 2) (q + 2) 6) r q i) L 32 [(0, .ref (a q)), (1, .ref (a r)), (2, .int (nI i))] [] := by
    intro fu32
    induction fu32 with
    | zero => intro i hmu; exact absurd hmu (Nat.not_lt_zero _)
    | succ fu32 ih32 =>
      intro i hmu32 hi
      refine J_iload_n hX 2 dX2_copyFrom_32 rfl ?_
      refine J_bipush (v := 6) hX dX2_copyFrom_33 (by decide) ?_
      refine J_cmpN_ge hX 63 i 6 dX2_copyFrom_35 (by decide) rfl rfl (by omega) (by omega) (fun h35 => ?_) (fun h35 => ?_)
      · skip
        refine J_aload_n hX 1 dX2_copyFrom_63 rfl ?_
        refine J_getr hX r 3 dX2_copyFrom_64 hr.o rfl rfl (by decide) inlX2 wm_3_1 ?_
        refine J_iconst (v := 0) hX dX2_copyFrom_67 (by decide) ?_
        refine J_aload_n hX 0 dX2_copyFrom_68 rfl ?_
        refine J_getr hX q 3 dX2_copyFrom_69 hq.o rfl rfl (by decide) inlX2 wm_3_1 ?_
        refine J_iconst (v := 0) hX dX2_copyFrom_72 (by decide) ?_
        refine J_bipush (v := 8) hX dX2_copyFrom_73 (by decide) ?_
        refine J_copyi (n := 8) hX (r + 4) (q + 4) dX2_copyFrom_75 wm_12_20 wm_12_21 wm_12_22 wm_12_23 hr.c4 hq.c4 rfl (by omega) (by omega) (by omega) (Nat.le_of_ble_eq_true rfl) (Nat.le_of_ble_eq_true rfl) ?_
        refine J_aload_n hX 1 dX2_copyFrom_78 rfl ?_
        refine J_getr hX r 4 dX2_copyFrom_79 hr.o rfl rfl (by decide) inlX2 wm_3_2 ?_
        refine J_iconst (v := 0) hX dX2_copyFrom_82 (by decide) ?_
        refine J_aload_n hX 0 dX2_copyFrom_83 rfl ?_
        refine J_getr hX q 4 dX2_copyFrom_84 hq.o rfl rfl (by decide) inlX2 wm_3_2 ?_
        refine J_iconst (v := 0) hX dX2_copyFrom_87 (by decide) ?_
        refine J_bipush (v := 8) hX dX2_copyFrom_88 (by decide) ?_
        refine J_copyi (n := 8) hX (r + 5) (q + 5) dX2_copyFrom_90 wm_12_20 wm_12_21 wm_12_22 wm_12_23 hr.c5 hq.c5 rfl (by omega) (by omega) (by omega) (Nat.le_of_ble_eq_true rfl) (Nat.le_of_ble_eq_true rfl) ?_
        refine J_aload_n hX 0 dX2_copyFrom_93 rfl ?_
        refine J_aload_n hX 1 dX2_copyFrom_94 rfl ?_
        refine J_geti hX r 5 dX2_copyFrom_95 hr.o rfl rfl (by decide) inlX2 wm_13_0 ?_
        refine J_puti (ty := .int) hX q 5 dX2_copyFrom_98 hq.o rfl rfl (by decide) inlX2 wm_13_0 tyX2 tyX2_ok nmX2 rfl (by decide +kernel) rfl rfl ?_
        refine J_aload_n hX 0 dX2_copyFrom_101 rfl ?_
        refine J_aload_n hX 1 dX2_copyFrom_102 rfl ?_
        refine J_geti hX r 6 dX2_copyFrom_103 hr.o rfl rfl (by decide) inlX2 wm_13_1 ?_
        refine J_puti (ty := .int) hX q 6 dX2_copyFrom_106 hq.o rfl rfl (by decide) inlX2 wm_13_1 tyX2 tyX2_ok nmX2 rfl (by decide +kernel) rfl rfl ?_
        refine J_aload_n hX 0 dX2_copyFrom_109 rfl ?_
        refine J_aload_n hX 1 dX2_copyFrom_110 rfl ?_
        refine J_geti hX r 7 dX2_copyFrom_111 hr.o rfl rfl (by decide) inlX2 wm_13_2 ?_
        refine J_puti (ty := .int) hX q 7 dX2_copyFrom_114 hq.o rfl rfl (by decide) inlX2 wm_13_2 tyX2 tyX2_ok nmX2 rfl (by decide +kernel) rfl rfl ?_
        refine J_aload_n hX 0 dX2_copyFrom_117 rfl ?_
        refine J_aload_n hX 1 dX2_copyFrom_118 rfl ?_
        refine J_geti hX r 8 dX2_copyFrom_119 hr.o rfl rfl (by decide) inlX2 wm_13_3 ?_
        refine J_puti (ty := .int) hX q 8 dX2_copyFrom_122 hq.o rfl rfl (by decide) inlX2 wm_13_3 tyX2 tyX2_ok nmX2 rfl (by decide +kernel) rfl rfl ?_
        exact J_vret hX hZ dX2_copyFrom_125 ⟨rfl, by rw [show i = 6 by omega]; rfl, rfl⟩
      · skip
        refine J_aload_n hX 1 dX2_copyFrom_38 rfl ?_
        refine J_getr hX r 2 dX2_copyFrom_39 hr.o rfl rfl (by decide) inlX2 wm_3_0 ?_
        refine J_iload_n hX 2 dX2_copyFrom_42 rfl ?_
        refine J_aald (ty := .array .int) hX (r + 3) i dX2_copyFrom_43 hr.c3 rfl rfl rfl (hr.at (by omega)) (Nat.le_of_ble_eq_true rfl) ?_
        refine J_iconst (v := 0) hX dX2_copyFrom_44 (by decide) ?_
        refine J_aload_n hX 0 dX2_copyFrom_45 rfl ?_
        refine J_getr hX q 2 dX2_copyFrom_46 hq.o rfl rfl (by decide) inlX2 wm_3_0 ?_
        refine J_iload_n hX 2 dX2_copyFrom_49 rfl ?_
        refine J_aald (ty := .array .int) hX (q + 3) i dX2_copyFrom_50 hq.c3 rfl rfl rfl (hq.at (by omega)) (Nat.le_of_ble_eq_true rfl) ?_
        refine J_iconst (v := 0) hX dX2_copyFrom_51 (by decide) ?_
        refine J_bipush (v := 6) hX dX2_copyFrom_52 (by decide) ?_
        refine J_copyi (n := 6) hX (r + 6 + i) (q + 6 + i) dX2_copyFrom_54 wm_12_20 wm_12_21 wm_12_22 wm_12_23 (hr.row (by omega)) (hq.row (by omega)) rfl (by omega) (by omega) (by omega) (Nat.le_of_ble_eq_true rfl) (Nat.le_of_ble_eq_true rfl) ?_
        refine J_iinc (v := nI (i + 1)) (loc' := [(2, .int (nI (i + 1))), (0, .ref (a q)), (1, .ref (a r))]) hX 2 dX2_copyFrom_57 rfl (jinc i) (by decide) rfl ?_
        refine J_goto hX 32 dX2_copyFrom_60 (by decide) ?_
        refine J_sub (loc' := [(0, .ref (a q)), (1, .ref (a r)), (2, .int (nI (i + 1)))]) [1, 2, 0] rfl ?_
        refine J_cg (M' := x_cpR (jCp (jCp M (r + 1) (q + 1) 6) (r + 2) (q + 2) 6) r q (i + 1)) (L' := L) rfl rfl rfl rfl ?_
        exact ih32  (i + 1) (by omega) (by omega)
  refine J_sub (loc' := [(0, .ref (a q)), (1, .ref (a r)), (2, .int 0)]) [1, 2, 0] rfl ?_
  refine J_seti (y := nI 0) (loc' := [(0, .ref (a q)), (1, .ref (a r)), (2, .int (nI 0))]) 2 rfl rfl rfl ?_
  refine J_cg (M' := x_cpR (jCp (jCp M (r + 1) (q + 1) 6) (r + 2) (q + 2) 6) r q 0) (L' := L) rfl rfl rfl rfl ?_
  exact key32 _ 0 (Nat.lt_succ_self _) (by omega)
