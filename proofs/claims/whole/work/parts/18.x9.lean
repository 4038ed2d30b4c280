def x_due (M : jM) (i : Nat) : Int32 := jSum (fun k => M (1 + 6 + k) i) (-(x_owes M 1 i)) 6
def x_frc (c : Nat) (M M' : jM) : Prop := ∀ k, k ≠ c → M' k = M k
theorem x_frc.u {c : Nat} {M M' : jM} {i : Nat} {v : Int32} (h : x_frc c M M') : x_frc c M (jU M' c i v) := fun k hk => by rw [jU_ne hk]; exact h k hk
set_option maxHeartbeats 4000000 in
set_option maxRecDepth 10000 in
theorem c_X3_weigh (l : Launch) (D : va_G) (a : Nat → Nat) (g : Nat → ClassId) (M : jM) (L : jL)   : jV l D a g yX3_weigh cX3_weigh 4 none 1 23 [.ref (a 33), .ref (a 1)] M L (fun rv M1 L1 => rv = none ∧ (∀ i, i < 6 → M1 34 i = x_due M i) ∧ x_frc 34 M M1 ∧ L1 = L) := by
  refine jMeth (by decide) (Nat.le_of_ble_eq_true rfl) ?_
  intro G hX hZ
  refine J_cg (loc' := [(0, .ref (a 33)), (1, .ref (a 1))]) rfl rfl rfl rfl ?_
  refine J_iconst (v := 0) hX dX3_weigh_0 (by decide) ?_
  refine J_istore_n (loc' := [(2, .int 0), (0, .ref (a 33)), (1, .ref (a 1))]) hX dX3_weigh_1 (by decide) rfl ?_
  have key2 : ∀ (fu2 : Nat) (i : Nat) (M' : jM), 6 - i < fu2 → (i ≤ 6) → (∀ j, j < i → M' 34 j = x_due M j) → (x_frc 34 M M') → J l D a g G 4 M' L 2 [(0, .ref (a 33)), (1, .ref (a 1)), (2, .int (nI i))] [] := by
    intro fu2
    induction fu2 with
    | zero => intro i M' hmu; exact absurd hmu (Nat.not_lt_zero _)
    | succ fu2 ih2 =>
      intro i M' hmu2 hi hd hF
      refine J_iload_n hX 2 dX3_weigh_2 rfl ?_
      refine J_bipush (v := 6) hX dX3_weigh_3 (by decide) ?_
      refine J_cmpN_ge hX 57 i 6 dX3_weigh_5 (by decide) rfl rfl (by omega) (by omega) (fun h5 => ?_) (fun h5 => ?_)
      · skip
        exact J_vret hX hZ dX3_weigh_57 ⟨rfl, fun j hj => hd j (by omega), hF, rfl⟩
      · skip
        refine J_aload_n hX 0 dX3_weigh_8 rfl ?_
        refine J_getr hX 33 0 dX3_weigh_9 jc_33 rfl rfl (by decide) inlX3 wm_3_23 ?_
        refine J_iload_n hX 2 dX3_weigh_12 rfl ?_
        refine J_aload_n hX 1 dX3_weigh_13 rfl ?_
        refine J_iload_n hX 2 dX3_weigh_14 rfl ?_
        refine J_callV hX 1 [.int (nI i)] [.int (nI i), .ref (a 34)] dX3_weigh_15 (c_X2_owesInAll l D a g M' L 1 jRl_1 i (by omega)) lk_X3_18 jc_1 rfl rfl rfl (Nat.le_of_ble_eq_true rfl) (Nat.le_of_ble_eq_true rfl) (Nat.le_of_ble_eq_true rfl) (J_eq (st := [.int (x_owes M' 1 i), .int (nI i), .ref (a 34)]) rfl ?_)
        refine J_topi (y := x_owes M 1 i) (by unfold x_owes; rw [hF _ (by omega)]) ?_
        refine J_ineg hX dX3_weigh_18 ?_
        refine J_iast hX 34 i dX3_weigh_19 jc_34 rfl (by omega) (by omega) ?_
        refine J_iconst (v := 0) hX dX3_weigh_20 (by decide) ?_
        refine J_istore_n (loc' := [(3, .int 0), (0, .ref (a 33)), (1, .ref (a 1)), (2, .int (nI i))]) hX dX3_weigh_21 (by decide) rfl ?_
        have key22 : ∀ (fu22 : Nat) (k : Nat) (N2 : jM), 6 - k < fu22 → (k ≤ 6) → (N2 34 i = jSum (fun k => M (1 + 6 + k) i) (-(x_owes M 1 i)) k) → (∀ j, j < i → N2 34 j = x_due M j) → (x_frc 34 M N2) → J l D a g G 4 N2 L 22 [(0, .ref (a 33)), (1, .ref (a 1)), (2, .int (nI i)), (3, .int (nI k))] [] := by
          intro fu22
          induction fu22 with
          | zero => intro k N2 hmu; exact absurd hmu (Nat.not_lt_zero _)
          | succ fu22 ih22 =>
            intro k N2 hmu22 hk hv hw hH
            refine J_iload_n hX 3 dX3_weigh_22 rfl ?_
            refine J_bipush (v := 6) hX dX3_weigh_23 (by decide) ?_
            refine J_cmpN_ge hX 51 k 6 dX3_weigh_25 (by decide) rfl rfl (by omega) (by omega) (fun h25 => ?_) (fun h25 => ?_)
            · skip
              refine J_iinc (v := nI (i + 1)) (loc' := [(2, .int (nI (i + 1))), (0, .ref (a 33)), (1, .ref (a 1)), (3, .int (nI k))]) hX 2 dX3_weigh_51 rfl (jinc i) (by decide) rfl ?_
              refine J_goto hX 2 dX3_weigh_54 (by decide) ?_
              refine J_sub (loc' := [(0, .ref (a 33)), (1, .ref (a 1)), (2, .int (nI (i + 1)))]) [1, 2, 0] rfl ?_
              exact ih2  (i + 1) N2 (by omega) (by omega) (fun j hj => by by_cases e : j = i; (subst e; rw [hv, show k = 6 by omega]; rfl); (exact hw j (by omega))) hH
            · skip
              refine J_aload_n hX 0 dX3_weigh_28 rfl ?_
              refine J_getr hX 33 0 dX3_weigh_29 jc_33 rfl rfl (by decide) inlX3 wm_3_23 ?_
              refine J_iload_n hX 2 dX3_weigh_32 rfl ?_
              refine J_dup2 hX dX3_weigh_33 rfl rfl ?_
              refine J_iald hX 34 i dX3_weigh_34 jc_34 rfl (by omega) (by omega) ?_
              refine J_topi (y := jSum (fun k => M (1 + 6 + k) i) (-(x_owes M 1 i)) k) hv ?_
              refine J_aload_n hX 1 dX3_weigh_35 rfl ?_
              refine J_getr hX 1 2 dX3_weigh_36 jc_1 rfl rfl (by decide) inlX2 wm_22_16 ?_
              refine J_iload_n hX 3 dX3_weigh_39 rfl ?_
              refine J_aald (ty := .array .int) hX 4 k dX3_weigh_40 jc_4 rfl rfl rfl (jRl_1.at (by omega)) (Nat.le_of_ble_eq_true rfl) ?_
              refine J_iload_n hX 2 dX3_weigh_41 rfl ?_
              refine J_iald hX (1 + 6 + k) i dX3_weigh_42 (jRl_1.row (by omega)) rfl (by omega) (by omega) ?_
              refine J_topi (y := M (1 + 6 + k) i) (by rw [hH _ (by omega)]) ?_
              refine J_iadd hX dX3_weigh_43 ?_
              refine J_topi (y := jSum (fun k => M (1 + 6 + k) i) (-(x_owes M 1 i)) (k + 1)) rfl ?_
              refine J_iast hX 34 i dX3_weigh_44 jc_34 rfl (by omega) (by omega) ?_
              refine J_iinc (v := nI (k + 1)) (loc' := [(3, .int (nI (k + 1))), (0, .ref (a 33)), (1, .ref (a 1)), (2, .int (nI i))]) hX 3 dX3_weigh_45 rfl (jinc k) (by decide) rfl ?_
              refine J_goto hX 22 dX3_weigh_48 (by decide) ?_
              refine J_sub (loc' := [(0, .ref (a 33)), (1, .ref (a 1)), (2, .int (nI i)), (3, .int (nI (k + 1)))]) [1, 2, 3, 0] rfl ?_
              refine J_cg (M' := (jU N2 34 i (jSum (fun k => M (1 + 6 + k) i) (-(x_owes M 1 i)) (k + 1)))) (L' := L) rfl rfl rfl rfl ?_
              exact ih22  (k + 1) (jU N2 34 i (jSum (fun k => M (1 + 6 + k) i) (-(x_owes M 1 i)) (k + 1))) (by omega) (by omega) jU_same (fun j hj => by rw [jU_slot (by omega)]; exact hw j hj) hH.u
        refine J_sub (loc' := [(0, .ref (a 33)), (1, .ref (a 1)), (2, .int (nI i)), (3, .int 0)]) [1, 2, 3, 0] rfl ?_
        refine J_seti (y := nI 0) (loc' := [(0, .ref (a 33)), (1, .ref (a 1)), (2, .int (nI i)), (3, .int (nI 0))]) 3 rfl rfl rfl ?_
        refine J_cg (M' := (jU M' 34 i (-(x_owes M 1 i)))) (L' := L) rfl rfl rfl rfl ?_
        exact key22 _ 0 (jU M' 34 i (-(x_owes M 1 i))) (Nat.lt_succ_self _) (by omega) jU_same (fun j hj => by rw [jU_slot (by omega)]; exact hd j hj) hF.u
  refine J_sub (loc' := [(0, .ref (a 33)), (1, .ref (a 1)), (2, .int 0)]) [1, 2, 0] rfl ?_
  refine J_seti (y := nI 0) (loc' := [(0, .ref (a 33)), (1, .ref (a 1)), (2, .int (nI 0))]) 2 rfl rfl rfl ?_
  exact key2 _ 0 M (Nat.lt_succ_self _) (by omega) (fun c h => absurd h (Nat.not_lt_zero c)) (fun _ _ => rfl)
def x_posF (d : Nat → Int32) : Nat → Int32 := fun i => if 0 < d i then d i else 0
def x_dT (d : Nat → Int32) (t : Nat) : Int32 := jSum (fun i => if (nI t >>> (nI i &&& 31)) &&& 1 = 1 then d i else 0) 0 6
set_option maxHeartbeats 4000000 in
set_option maxRecDepth 10000 in
theorem c_X3_leastPaid (l : Launch) (D : va_G) (a : Nat → Nat) (g : Nat → ClassId) (M : jM) (L : jL)   : jK l D a g yX3_leastPaid cX3_leastPaid 3 (some .int) 1 30 [.ref (a 33)] M L (some (.int (jSum (x_posF (M 34)) 0 6))) M L := by
  refine jMeth (by decide) (Nat.le_of_ble_eq_true rfl) ?_
  intro G hX hZ
  refine J_cg (loc' := [(0, .ref (a 33))]) rfl rfl rfl rfl ?_
  refine J_iconst (v := 0) hX dX3_leastPaid_0 (by decide) ?_
  refine J_istore_n (loc' := [(1, .int 0), (0, .ref (a 33))]) hX dX3_leastPaid_1 (by decide) rfl ?_
  refine J_iconst (v := 0) hX dX3_leastPaid_2 (by decide) ?_
  refine J_istore_n (loc' := [(2, .int 0), (1, .int 0), (0, .ref (a 33))]) hX dX3_leastPaid_3 (by decide) rfl ?_
  have key4 : ∀ (fu4 : Nat) (i : Nat), 6 - i < fu4 → (i ≤ 6) → J l D a g G 3 M L 4 [(0, .ref (a 33)), (1, .int (jSum (x_posF (M 34)) 0 i)), (2, .int (nI i))] [] := by
    intro fu4
    induction fu4 with
    | zero => intro i hmu; exact absurd hmu (Nat.not_lt_zero _)
    | succ fu4 ih4 =>
      intro i hmu4 hi
      refine J_iload_n hX 2 dX3_leastPaid_4 rfl ?_
      refine J_bipush (v := 6) hX dX3_leastPaid_5 (by decide) ?_
      refine J_cmpN_ge hX 29 i 6 dX3_leastPaid_7 (by decide) rfl rfl (by omega) (by omega) (fun h7 => ?_) (fun h7 => ?_)
      · skip
        refine J_iload_n hX 1 dX3_leastPaid_29 rfl ?_
        exact J_ret hX hZ dX3_leastPaid_30 rfl rfl ⟨by rw [show i = 6 by omega], rfl, rfl⟩
      · skip
        refine J_iload_n hX 1 dX3_leastPaid_10 rfl ?_
        refine J_iconst (v := 0) hX dX3_leastPaid_11 (by decide) ?_
        refine J_aload_n hX 0 dX3_leastPaid_12 rfl ?_
        refine J_getr hX 33 0 dX3_leastPaid_13 jc_33 rfl rfl (by decide) inlX3 wm_3_23 ?_
        refine J_iload_n hX 2 dX3_leastPaid_16 rfl ?_
        refine J_iald hX 34 i dX3_leastPaid_17 jc_34 rfl (by omega) (by omega) ?_
        refine J_mmax hX dX3_leastPaid_18 wm_22_22 wm_22_23 wm_15_7 wm_23_0 (Nat.le_of_ble_eq_true rfl) (Nat.le_of_ble_eq_true rfl) ?_
        refine J_iadd hX dX3_leastPaid_21 ?_
        refine J_istore_n (loc' := [(1, .int ((jSum (x_posF (M 34)) 0 i) + (if 0 < (M 34 i) then M 34 i else 0))), (0, .ref (a 33)), (2, .int (nI i))]) hX dX3_leastPaid_22 (by decide) rfl ?_
        refine J_iinc (v := nI (i + 1)) (loc' := [(2, .int (nI (i + 1))), (1, .int ((jSum (x_posF (M 34)) 0 i) + (if 0 < (M 34 i) then M 34 i else 0))), (0, .ref (a 33))]) hX 2 dX3_leastPaid_23 rfl (jinc i) (by decide) rfl ?_
        refine J_goto hX 4 dX3_leastPaid_26 (by decide) ?_
        refine J_sub (loc' := [(0, .ref (a 33)), (1, .int ((jSum (x_posF (M 34)) 0 i) + (if 0 < (M 34 i) then M 34 i else 0))), (2, .int (nI (i + 1)))]) [2, 1, 0] rfl ?_
        refine J_seti (y := jSum (x_posF (M 34)) 0 (i + 1)) (loc' := [(0, .ref (a 33)), (1, .int (jSum (x_posF (M 34)) 0 (i + 1))), (2, .int (nI (i + 1)))]) 1 rfl rfl rfl ?_
        exact ih4  (i + 1) (by omega) (by omega)
  refine J_sub (loc' := [(0, .ref (a 33)), (1, .int 0), (2, .int 0)]) [2, 1, 0] rfl ?_
  refine J_seti (y := jSum (x_posF (M 34)) 0 0) (loc' := [(0, .ref (a 33)), (1, .int (jSum (x_posF (M 34)) 0 0)), (2, .int 0)]) 1 rfl rfl rfl ?_
  refine J_seti (y := nI 0) (loc' := [(0, .ref (a 33)), (1, .int (jSum (x_posF (M 34)) 0 0)), (2, .int (nI 0))]) 2 rfl rfl rfl ?_
  exact key4 _ 0 (Nat.lt_succ_self _) (by omega)
set_option maxHeartbeats 4000000 in
set_option maxRecDepth 10000 in
theorem c_X3_dueTo (l : Launch) (D : va_G) (a : Nat → Nat) (g : Nat → ClassId) (M : jM) (L : jL) (t : Nat)  : jK l D a g yX3_dueTo cX3_dueTo 4 (some .int) 0 0 [.ref (a 33), .int (nI t)] M L (some (.int (x_dT (M 34) t))) M L := by
  refine jMeth (by decide) (Nat.le_of_ble_eq_true rfl) ?_
  intro G hX hZ
  refine J_cg (loc' := [(0, .ref (a 33)), (1, .int (nI t))]) rfl rfl rfl rfl ?_
  refine J_iconst (v := 0) hX dX3_dueTo_0 (by decide) ?_
  refine J_istore_n (loc' := [(2, .int 0), (0, .ref (a 33)), (1, .int (nI t))]) hX dX3_dueTo_1 (by decide) rfl ?_
  refine J_iconst (v := 0) hX dX3_dueTo_2 (by decide) ?_
  refine J_istore_n (loc' := [(3, .int 0), (2, .int 0), (0, .ref (a 33)), (1, .int (nI t))]) hX dX3_dueTo_3 (by decide) rfl ?_
  have key4 : ∀ (fu4 : Nat) (j : Nat), 6 - j < fu4 → (j ≤ 6) → J l D a g G 4 M L 4 [(0, .ref (a 33)), (1, .int (nI t)), (2, .int (jSum (fun i => if (nI t >>> (nI i &&& 31)) &&& 1 = 1 then M 34 i else 0) 0 j)), (3, .int (nI j))] [] := by
    intro fu4
    induction fu4 with
    | zero => intro j hmu; exact absurd hmu (Nat.not_lt_zero _)
    | succ fu4 ih4 =>
      intro j hmu4 hj
      refine J_iload_n hX 3 dX3_dueTo_4 rfl ?_
      refine J_bipush (v := 6) hX dX3_dueTo_5 (by decide) ?_
      refine J_cmpN_ge hX 34 j 6 dX3_dueTo_7 (by decide) rfl rfl (by omega) (by omega) (fun h7 => ?_) (fun h7 => ?_)
      · skip
        refine J_iload_n hX 2 dX3_dueTo_34 rfl ?_
        exact J_ret hX hZ dX3_dueTo_35 rfl rfl ⟨by rw [show j = 6 by omega]; rfl, rfl, rfl⟩
      · skip
        refine J_iload_n hX 1 dX3_dueTo_10 rfl ?_
        refine J_iload_n hX 3 dX3_dueTo_11 rfl ?_
        refine J_ishr hX dX3_dueTo_12 ?_
        refine J_iconst (v := 1) hX dX3_dueTo_13 (by decide) ?_
        refine J_iand hX dX3_dueTo_14 ?_
        refine J_iconst (v := 1) hX dX3_dueTo_15 (by decide) ?_
        refine J_icmp_ne hX 28 dX3_dueTo_16 (by decide) (fun h16 => ?_) (fun h16 => ?_)
        · skip
          refine J_iinc (v := nI (j + 1)) (loc' := [(3, .int (nI (j + 1))), (0, .ref (a 33)), (1, .int (nI t)), (2, .int (jSum (fun i => if (nI t >>> (nI i &&& 31)) &&& 1 = 1 then M 34 i else 0) 0 j))]) hX 3 dX3_dueTo_28 rfl (jinc j) (by decide) rfl ?_
          refine J_goto hX 4 dX3_dueTo_31 (by decide) ?_
          refine J_sub (loc' := [(0, .ref (a 33)), (1, .int (nI t)), (2, .int (jSum (fun i => if (nI t >>> (nI i &&& 31)) &&& 1 = 1 then M 34 i else 0) 0 j)), (3, .int (nI (j + 1)))]) [1, 2, 3, 0] rfl ?_
          refine J_seti (y := jSum (fun i => if (nI t >>> (nI i &&& 31)) &&& 1 = 1 then M 34 i else 0) 0 (j + 1)) (loc' := [(0, .ref (a 33)), (1, .int (nI t)), (2, .int (jSum (fun i => if (nI t >>> (nI i &&& 31)) &&& 1 = 1 then M 34 i else 0) 0 (j + 1))), (3, .int (nI (j + 1)))]) 2 rfl (by rw [jSum]; (first | rw [if_pos h16] | rw [if_neg h16]); (first | done | rw [Int32.add_zero])) rfl ?_
          exact ih4  (j + 1) (by omega) (by omega)
        · skip
          refine J_iload_n hX 2 dX3_dueTo_19 rfl ?_
          refine J_aload_n hX 0 dX3_dueTo_20 rfl ?_
          refine J_getr hX 33 0 dX3_dueTo_21 jc_33 rfl rfl (by decide) inlX3 wm_3_23 ?_
          refine J_iload_n hX 3 dX3_dueTo_24 rfl ?_
          refine J_iald hX 34 j dX3_dueTo_25 jc_34 rfl (by omega) (by omega) ?_
          refine J_iadd hX dX3_dueTo_26 ?_
          refine J_istore_n (loc' := [(2, .int ((jSum (fun i => if (nI t >>> (nI i &&& 31)) &&& 1 = 1 then M 34 i else 0) 0 j) + (M 34 j))), (0, .ref (a 33)), (1, .int (nI t)), (3, .int (nI j))]) hX dX3_dueTo_27 (by decide) rfl ?_
          refine J_iinc (v := nI (j + 1)) (loc' := [(3, .int (nI (j + 1))), (2, .int ((jSum (fun i => if (nI t >>> (nI i &&& 31)) &&& 1 = 1 then M 34 i else 0) 0 j) + (M 34 j))), (0, .ref (a 33)), (1, .int (nI t))]) hX 3 dX3_dueTo_28 rfl (jinc j) (by decide) rfl ?_
          refine J_goto hX 4 dX3_dueTo_31 (by decide) ?_
          refine J_sub (loc' := [(0, .ref (a 33)), (1, .int (nI t)), (2, .int ((jSum (fun i => if (nI t >>> (nI i &&& 31)) &&& 1 = 1 then M 34 i else 0) 0 j) + (M 34 j))), (3, .int (nI (j + 1)))]) [2, 3, 1, 0] rfl ?_
          refine J_seti (y := jSum (fun i => if (nI t >>> (nI i &&& 31)) &&& 1 = 1 then M 34 i else 0) 0 (j + 1)) (loc' := [(0, .ref (a 33)), (1, .int (nI t)), (2, .int (jSum (fun i => if (nI t >>> (nI i &&& 31)) &&& 1 = 1 then M 34 i else 0) 0 (j + 1))), (3, .int (nI (j + 1)))]) 2 rfl (by rw [jSum]; (first | rw [if_pos h16] | rw [if_neg h16]); (first | done | rw [Int32.add_zero])) rfl ?_
          exact ih4  (j + 1) (by omega) (by omega)
  refine J_sub (loc' := [(0, .ref (a 33)), (1, .int (nI t)), (2, .int 0), (3, .int 0)]) [2, 3, 1, 0] rfl ?_
  refine J_seti (y := jSum (fun i => if (nI t >>> (nI i &&& 31)) &&& 1 = 1 then M 34 i else 0) 0 0) (loc' := [(0, .ref (a 33)), (1, .int (nI t)), (2, .int (jSum (fun i => if (nI t >>> (nI i &&& 31)) &&& 1 = 1 then M 34 i else 0) 0 0)), (3, .int 0)]) 2 rfl rfl rfl ?_
  refine J_seti (y := nI 0) (loc' := [(0, .ref (a 33)), (1, .int (nI t)), (2, .int (jSum (fun i => if (nI t >>> (nI i &&& 31)) &&& 1 = 1 then M 34 i else 0) 0 0)), (3, .int (nI 0))]) 3 rfl rfl rfl ?_
  exact key4 _ 0 (Nat.lt_succ_self _) (by omega)
def x_gm (T : Nat → Int32) (k : Nat) : Nat → Int32
  | 0 => 0
  | i + 1 => if (nI k >>> (nI i &&& 31)) &&& 1 = 1 then (if x_gm T k i < T (k - 2 ^ i) then T (k - 2 ^ i) else x_gm T k i) else x_gm T k i
def x_tb (d : Nat → Int32) : Nat → Nat → Int32
  | 0 => fun _ => 0
  | k + 1 => fun j => if j = k then (if k = 0 then 0 else if x_dT d k = 0 then x_gm (x_tb d k) k 6 + 1 else x_gm (x_tb d k) k 6) else x_tb d k j
theorem x_tb_new {d : Nat → Int32} {k : Nat} (h : 0 < k) : x_tb d (k + 1) k = if x_dT d k = 0 then x_gm (x_tb d k) k 6 + 1 else x_gm (x_tb d k) k 6 := by
  show (if k = k then _ else _) = _
  rw [if_pos rfl, if_neg (by omega)]
theorem x_tb_old {d : Nat → Int32} {k j : Nat} (h : j ≠ k) : x_tb d (k + 1) j = x_tb d k j := by
  show (if j = k then _ else _) = _
  rw [if_neg h]
theorem x_clr : ∀ k, k < 64 → ∀ i, i < 6 → (nI k >>> (nI i &&& 31)) &&& 1 = 1 → nI k &&& (((1 : Int32) <<< (nI i &&& 31)) ^^^ (-1)) = nI (k - 2 ^ i) ∧ 2 ^ i ≤ k := by decide +kernel
theorem x_p2 (i : Nat) : 0 < 2 ^ i := Nat.pow_pos (by omega)
set_option maxHeartbeats 4000000 in
set_option maxRecDepth 10000 in
theorem c_X3_fewestPayments (l : Launch) (D : va_G) (a : Nat → Nat) (g : Nat → ClassId) (M : jM) (L : jL)   : jV l D a g yX3_fewestPayments cX3_fewestPayments 5 (some .int) 1 30 [.ref (a 33)] M L (fun rv M1 L1 => rv = some (.int (6 - x_tb (M 34) 64 63)) ∧ x_frc 35 M M1 ∧ L1 = L) := by
  refine jMeth (by decide) (Nat.le_of_ble_eq_true rfl) ?_
  intro G hX hZ
  refine J_cg (loc' := [(0, .ref (a 33))]) rfl rfl rfl rfl ?_
  refine J_bipush (v := 63) hX dX3_fewestPayments_0 (by decide) ?_
  refine J_istore_n (loc' := [(1, .int 63), (0, .ref (a 33))]) hX dX3_fewestPayments_2 (by decide) rfl ?_
  refine J_aload_n hX 1 dX3_fewestPayments_3 rfl ?_
  refine J_getr hX 33 1 dX3_fewestPayments_4 jc_33 rfl rfl (by decide) inlX3 wm_4_0 ?_
  refine J_iconst (v := 0) hX dX3_fewestPayments_7 (by decide) ?_
  refine J_iconst (v := 0) hX dX3_fewestPayments_8 (by decide) ?_
  refine J_iast hX 35 0 dX3_fewestPayments_9 jc_35 rfl (by omega) (by omega) ?_
  refine J_iconst (v := 1) hX dX3_fewestPayments_10 (by decide) ?_
  refine J_istore_n (loc' := [(2, .int 1), (1, .int 63), (0, .ref (a 33))]) hX dX3_fewestPayments_11 (by decide) rfl ?_
  have key12 : ∀ (fu12 : Nat) (k : Nat) (M' : jM), 64 - k < fu12 → (1 ≤ k) → (k ≤ 64) → (∀ j, j < k → M' 35 j = x_tb (M 34) k j) → (x_frc 35 M M') → J l D a g G 5 M' L 12 [(0, .ref (a 33)), (1, .int 63), (2, .int (nI k))] [] := by
    intro fu12
    induction fu12 with
    | zero => intro k M' hmu; exact absurd hmu (Nat.not_lt_zero _)
    | succ fu12 ih12 =>
      intro k M' hmu12 k1 hk hT hF
      refine J_iload_n hX 2 dX3_fewestPayments_12 rfl ?_
      refine J_iload_n hX 1 dX3_fewestPayments_13 rfl ?_
      refine J_cmpN_gt hX 90 k 63 dX3_fewestPayments_14 (by decide) rfl rfl (by omega) (by omega) (fun h14 => ?_) (fun h14 => ?_)
      · skip
        refine J_bipush (v := 6) hX dX3_fewestPayments_90 (by decide) ?_
        refine J_aload_n hX 0 dX3_fewestPayments_92 rfl ?_
        refine J_getr hX 33 1 dX3_fewestPayments_93 jc_33 rfl rfl (by decide) inlX3 wm_4_0 ?_
        refine J_iload_n hX 1 dX3_fewestPayments_96 rfl ?_
        refine J_iald hX 35 63 dX3_fewestPayments_97 jc_35 rfl (by omega) (by omega) ?_
        refine J_isub hX dX3_fewestPayments_98 ?_
        exact J_ret hX hZ dX3_fewestPayments_99 rfl rfl ⟨by rw [hT 63 (by omega), show k = 64 by omega], hF, rfl⟩
      · skip
        refine J_iconst (v := 0) hX dX3_fewestPayments_17 (by decide) ?_
        refine J_istore_n (loc' := [(3, .int 0), (0, .ref (a 33)), (1, .int 63), (2, .int (nI k))]) hX dX3_fewestPayments_18 (by decide) rfl ?_
        refine J_iconst (v := 0) hX dX3_fewestPayments_19 (by decide) ?_
        refine J_istore (loc' := [(4, .int 0), (3, .int 0), (0, .ref (a 33)), (1, .int 63), (2, .int (nI k))]) hX dX3_fewestPayments_20 (by decide) rfl ?_
        have key22 : ∀ (fu22 : Nat) (i : Nat), 6 - i < fu22 → (i ≤ 6) → J l D a g G 5 M' L 22 [(0, .ref (a 33)), (1, .int 63), (2, .int (nI k)), (3, .int (x_gm (x_tb (M 34) k) k i)), (4, .int (nI i))] [] := by
          intro fu22
          induction fu22 with
          | zero => intro i hmu; exact absurd hmu (Nat.not_lt_zero _)
          | succ fu22 ih22 =>
            intro i hmu22 hi
            refine J_iload hX 4 dX3_fewestPayments_22 rfl ?_
            refine J_bipush (v := 6) hX dX3_fewestPayments_24 (by decide) ?_
            refine J_cmpN_ge hX 63 i 6 dX3_fewestPayments_26 (by decide) rfl rfl (by omega) (by omega) (fun h26 => ?_) (fun h26 => ?_)
            · skip
              refine J_aload_n hX 0 dX3_fewestPayments_63 rfl ?_
              refine J_getr hX 33 1 dX3_fewestPayments_64 jc_33 rfl rfl (by decide) inlX3 wm_4_0 ?_
              refine J_iload_n hX 2 dX3_fewestPayments_67 rfl ?_
              refine J_aload_n hX 0 dX3_fewestPayments_68 rfl ?_
              refine J_iload_n hX 2 dX3_fewestPayments_69 rfl ?_
              refine J_callV hX 33 [.int (nI k)] [.int (nI k), .ref (a 35)] dX3_fewestPayments_70 (c_X3_dueTo l D a g M' L k) lk_X3_34 jc_33 rfl rfl rfl (Nat.le_of_ble_eq_true rfl) (Nat.le_of_ble_eq_true rfl) (Nat.le_of_ble_eq_true rfl) (J_eq (st := [.int (x_dT (M' 34) k), .int (nI k), .ref (a 35)]) rfl ?_)
              refine J_topi (y := x_dT (M 34) k) (by rw [hF 34 (by decide)]) ?_
              refine J_if_ne hX 82 dX3_fewestPayments_73 (by decide) (fun h73 => ?_) (fun h73 => ?_)
              · skip
                refine J_iload_n hX 3 dX3_fewestPayments_82 rfl ?_
                refine J_topi (y := x_tb (M 34) (k + 1) k) (by rw [x_tb_new (by omega), show i = 6 by omega]; (first | rw [if_pos h73] | rw [if_neg h73] | rw [if_pos (Classical.not_not.mp h73)])) ?_
                refine J_iast hX 35 k dX3_fewestPayments_83 jc_35 rfl (by omega) (by omega) ?_
                refine J_iinc (v := nI (k + 1)) (loc' := [(2, .int (nI (k + 1))), (0, .ref (a 33)), (1, .int 63), (3, .int (x_gm (x_tb (M 34) k) k i)), (4, .int (nI i))]) hX 2 dX3_fewestPayments_84 rfl (jinc k) (by decide) rfl ?_
                refine J_goto hX 12 dX3_fewestPayments_87 (by decide) ?_
                refine J_sub (loc' := [(0, .ref (a 33)), (1, .int 63), (2, .int (nI (k + 1)))]) [1, 2, 0] rfl ?_
                refine J_cg (M' := (jU M' 35 k (x_tb (M 34) (k + 1) k))) (L' := L) rfl rfl rfl rfl ?_
                exact ih12  (k + 1) (jU M' 35 k (x_tb (M 34) (k + 1) k)) (by omega) (by omega) (by omega) (fun j hj => by by_cases e : j = k; (subst e; exact jU_same); (rw [jU_slot e, x_tb_old e]; exact hT j (by omega))) hF.u
              · skip
                refine J_iload_n hX 3 dX3_fewestPayments_76 rfl ?_
                refine J_iconst (v := 1) hX dX3_fewestPayments_77 (by decide) ?_
                refine J_iadd hX dX3_fewestPayments_78 ?_
                refine J_goto hX 83 dX3_fewestPayments_79 (by decide) ?_
                refine J_topi (y := x_tb (M 34) (k + 1) k) (by rw [x_tb_new (by omega), show i = 6 by omega]; (first | rw [if_pos h73] | rw [if_neg h73] | rw [if_pos (Classical.not_not.mp h73)])) ?_
                refine J_iast hX 35 k dX3_fewestPayments_83 jc_35 rfl (by omega) (by omega) ?_
                refine J_iinc (v := nI (k + 1)) (loc' := [(2, .int (nI (k + 1))), (0, .ref (a 33)), (1, .int 63), (3, .int (x_gm (x_tb (M 34) k) k i)), (4, .int (nI i))]) hX 2 dX3_fewestPayments_84 rfl (jinc k) (by decide) rfl ?_
                refine J_goto hX 12 dX3_fewestPayments_87 (by decide) ?_
                refine J_sub (loc' := [(0, .ref (a 33)), (1, .int 63), (2, .int (nI (k + 1)))]) [1, 2, 0] rfl ?_
                refine J_cg (M' := (jU M' 35 k (x_tb (M 34) (k + 1) k))) (L' := L) rfl rfl rfl rfl ?_
                exact ih12  (k + 1) (jU M' 35 k (x_tb (M 34) (k + 1) k)) (by omega) (by omega) (by omega) (fun j hj => by by_cases e : j = k; (subst e; exact jU_same); (rw [jU_slot e, x_tb_old e]; exact hT j (by omega))) hF.u
            · skip
              refine J_iload_n hX 2 dX3_fewestPayments_29 rfl ?_
              refine J_iload hX 4 dX3_fewestPayments_30 rfl ?_
              refine J_ishr hX dX3_fewestPayments_32 ?_
              refine J_iconst (v := 1) hX dX3_fewestPayments_33 (by decide) ?_
              refine J_iand hX dX3_fewestPayments_34 ?_
              refine J_iconst (v := 1) hX dX3_fewestPayments_35 (by decide) ?_
              refine J_icmp_ne hX 57 dX3_fewestPayments_36 (by decide) (fun h36 => ?_) (fun h36 => ?_)
              · skip
                refine J_iinc (v := nI (i + 1)) (loc' := [(4, .int (nI (i + 1))), (0, .ref (a 33)), (1, .int 63), (2, .int (nI k)), (3, .int (x_gm (x_tb (M 34) k) k i))]) hX 4 dX3_fewestPayments_57 rfl (jinc i) (by decide) rfl ?_
                refine J_goto hX 22 dX3_fewestPayments_60 (by decide) ?_
                refine J_sub (loc' := [(0, .ref (a 33)), (1, .int 63), (2, .int (nI k)), (3, .int (x_gm (x_tb (M 34) k) k i)), (4, .int (nI (i + 1)))]) [1, 2, 3, 4, 0] rfl ?_
                refine J_seti (y := x_gm (x_tb (M 34) k) k (i + 1)) (loc' := [(0, .ref (a 33)), (1, .int 63), (2, .int (nI k)), (3, .int (x_gm (x_tb (M 34) k) k (i + 1))), (4, .int (nI (i + 1)))]) 3 rfl (by rw [x_gm]; (first | rw [if_pos h36] | rw [if_neg h36])) rfl ?_
                exact ih22  (i + 1) (by omega) (by omega)
              · skip
                have cl := x_clr k (by omega) i (by omega) (by first | exact h36 | exact Classical.not_not.mp h36)
                have p2 := x_p2 i
                refine J_iload_n hX 3 dX3_fewestPayments_39 rfl ?_
                refine J_aload_n hX 0 dX3_fewestPayments_40 rfl ?_
                refine J_getr hX 33 1 dX3_fewestPayments_41 jc_33 rfl rfl (by decide) inlX3 wm_4_0 ?_
                refine J_iload_n hX 2 dX3_fewestPayments_44 rfl ?_
                refine J_iconst (v := 1) hX dX3_fewestPayments_45 (by decide) ?_
                refine J_iload hX 4 dX3_fewestPayments_46 rfl ?_
                refine J_ishl hX dX3_fewestPayments_48 ?_
                refine J_iconst (v := (-1)) hX dX3_fewestPayments_49 (by decide) ?_
                refine J_ixor hX dX3_fewestPayments_50 ?_
                refine J_iand hX dX3_fewestPayments_51 ?_
                refine J_iald hX 35 (k - 2 ^ i) dX3_fewestPayments_52 jc_35 cl.1 (by omega) (by omega) ?_
                refine J_topi (y := x_tb (M 34) k (k - 2 ^ i)) (hT _ (by omega)) ?_
                refine J_mmax hX dX3_fewestPayments_53 wm_22_22 wm_22_23 wm_15_7 wm_23_0 (Nat.le_of_ble_eq_true rfl) (Nat.le_of_ble_eq_true rfl) ?_
                refine J_istore_n (loc' := [(3, .int (if (x_gm (x_tb (M 34) k) k i) < (x_tb (M 34) k (k - 2 ^ i)) then x_tb (M 34) k (k - 2 ^ i) else x_gm (x_tb (M 34) k) k i)), (0, .ref (a 33)), (1, .int 63), (2, .int (nI k)), (4, .int (nI i))]) hX dX3_fewestPayments_56 (by decide) rfl ?_
                refine J_iinc (v := nI (i + 1)) (loc' := [(4, .int (nI (i + 1))), (3, .int (if (x_gm (x_tb (M 34) k) k i) < (x_tb (M 34) k (k - 2 ^ i)) then x_tb (M 34) k (k - 2 ^ i) else x_gm (x_tb (M 34) k) k i)), (0, .ref (a 33)), (1, .int 63), (2, .int (nI k))]) hX 4 dX3_fewestPayments_57 rfl (jinc i) (by decide) rfl ?_
                refine J_goto hX 22 dX3_fewestPayments_60 (by decide) ?_
                refine J_sub (loc' := [(0, .ref (a 33)), (1, .int 63), (2, .int (nI k)), (3, .int (if (x_gm (x_tb (M 34) k) k i) < (x_tb (M 34) k (k - 2 ^ i)) then x_tb (M 34) k (k - 2 ^ i) else x_gm (x_tb (M 34) k) k i)), (4, .int (nI (i + 1)))]) [2, 3, 4, 1, 0] rfl ?_
                refine J_seti (y := x_gm (x_tb (M 34) k) k (i + 1)) (loc' := [(0, .ref (a 33)), (1, .int 63), (2, .int (nI k)), (3, .int (x_gm (x_tb (M 34) k) k (i + 1))), (4, .int (nI (i + 1)))]) 3 rfl (by rw [x_gm]; (first | rw [if_pos h36] | rw [if_neg h36])) rfl ?_
                exact ih22  (i + 1) (by omega) (by omega)
        refine J_sub (loc' := [(0, .ref (a 33)), (1, .int 63), (2, .int (nI k)), (3, .int 0), (4, .int 0)]) [2, 3, 4, 1, 0] rfl ?_
        refine J_seti (y := x_gm (x_tb (M 34) k) k 0) (loc' := [(0, .ref (a 33)), (1, .int 63), (2, .int (nI k)), (3, .int (x_gm (x_tb (M 34) k) k 0)), (4, .int 0)]) 3 rfl rfl rfl ?_
        refine J_seti (y := nI 0) (loc' := [(0, .ref (a 33)), (1, .int 63), (2, .int (nI k)), (3, .int (x_gm (x_tb (M 34) k) k 0)), (4, .int (nI 0))]) 4 rfl rfl rfl ?_
        exact key22 _ 0 (Nat.lt_succ_self _) (by omega)
  refine J_sub (loc' := [(0, .ref (a 33)), (1, .int 63), (2, .int 1)]) [2, 1, 0] rfl ?_
  refine J_seti (y := nI 1) (loc' := [(0, .ref (a 33)), (1, .int 63), (2, .int (nI 1))]) 2 rfl rfl rfl ?_
  refine J_cg (M' := (jU M 35 0 0)) (L' := L) rfl rfl rfl rfl ?_
  exact key12 _ 1 (jU M 35 0 0) (Nat.lt_succ_self _) (by omega) (by omega) (fun j hj => by rw [show j = 0 by omega, jU_same]; rfl) (fun k hk => by rw [jU_ne hk])
theorem x_dT_cg {d e : Nat → Int32} (h : ∀ i, i < 6 → d i = e i) (t : Nat) : x_dT d t = x_dT e t := by
  unfold x_dT
  simp only [jSum, h 0 (by omega), h 1 (by omega), h 2 (by omega), h 3 (by omega), h 4 (by omega), h 5 (by omega)]
theorem x_tb_cg {d e : Nat → Int32} (h : ∀ i, i < 6 → d i = e i) (k : Nat) : x_tb d k = x_tb e k := by
  induction k with
  | zero => rfl
  | succ k ih => funext j; rw [x_tb, x_tb, ih, x_dT_cg h]
def x_struck (M : jM) (k : Int32) : Int32 := if (0 ≤ k.toInt ∧ k.toInt ≤ 1) then (if k = 0 then 6 - x_tb (x_due M) 64 63 else jSum (x_posF (x_due M)) 0 6) else -2
theorem x_pos_cg {d e : Nat → Int32} (h : ∀ i, i < 6 → d i = e i) : jSum (x_posF d) 0 6 = jSum (x_posF e) 0 6 := by
  simp only [jSum, x_posF, h 0 (by omega), h 1 (by omega), h 2 (by omega), h 3 (by omega), h 4 (by omega), h 5 (by omega)]
set_option maxHeartbeats 4000000 in
set_option maxRecDepth 10000 in
theorem c_X7_struck (l : Launch) (D : va_G) (a : Nat → Nat) (g : Nat → ClassId) (M : jM) (L : jL) (k : Int32)  : jV l D a g yX7_struck cX7_struck 2 (some .int) 2 54 [.ref (a 0), .int k] M L (fun rv M1 L1 => rv = some (.int (x_struck M k)) ∧ (∀ c, c ≠ 34 → c ≠ 35 → M1 c = M c) ∧ L1 = L) := by
  refine jMeth (by decide) (Nat.le_of_ble_eq_true rfl) ?_
  intro G hX hZ
  refine J_cg (loc' := [(0, .ref (a 0)), (1, .int k)]) rfl rfl rfl rfl ?_
  refine J_iload_n hX 1 dX7_struck_0 rfl ?_
  refine J_iconst (v := 0) hX dX7_struck_1 (by decide) ?_
  refine J_iconst (v := 1) hX dX7_struck_2 (by decide) ?_
  refine J_callS hX [.int k, .int 0, .int 1] [] dX7_struck_3 (c_X7_within l D a g M L k 0 1) lk_X7_62 rfl rfl (Nat.le_of_ble_eq_true rfl) (Nat.le_of_ble_eq_true rfl) (Nat.le_of_ble_eq_true rfl) (J_eq (st := [.int (jB (0 ≤ k.toInt ∧ k.toInt ≤ 1))]) rfl ?_)
  refine J_ifB_ne hX 12 dX7_struck_6 (by decide) (fun h6 => ?_) (fun h6 => ?_)
  · skip
    refine J_aload_n hX 0 dX7_struck_12 rfl ?_
    refine J_getr hX 0 4 dX7_struck_13 jc_0 rfl rfl (by decide) inlX7 wm_2_7 ?_
    refine J_aload_n hX 0 dX7_struck_16 rfl ?_
    refine J_getr hX 0 0 dX7_struck_17 jc_0 rfl rfl (by decide) inlX7 wm_1_15 ?_
    refine J_callV hX 33 [.ref (a 1)] [] dX7_struck_20 (c_X3_weigh l D a g M L ) lk_X7_144 jc_33 rfl rfl rfl (Nat.le_of_ble_eq_true rfl) (Nat.le_of_ble_eq_true rfl) (Nat.le_of_ble_eq_true rfl) (fun rv20 M20 L20 hp20 => ?_)
    obtain ⟨rfl, hd, hF, eL⟩ := hp20
    have eL := eL.symm
    subst eL
    refine J_cg (st' := []) rfl rfl rfl rfl ?_
    refine J_iload_n hX 1 dX7_struck_23 rfl ?_
    refine J_if_ne hX 37 dX7_struck_24 (by decide) (fun h24 => ?_) (fun h24 => ?_)
    · skip
      refine J_aload_n hX 0 dX7_struck_37 rfl ?_
      refine J_getr hX 0 4 dX7_struck_38 jc_0 rfl rfl (by decide) inlX7 wm_2_7 ?_
      refine J_callV hX 33 [] [] dX7_struck_41 (c_X3_leastPaid l D a g M20 L ) lk_X7_150 jc_33 rfl rfl rfl (Nat.le_of_ble_eq_true rfl) (Nat.le_of_ble_eq_true rfl) (Nat.le_of_ble_eq_true rfl) (J_eq (st := [.int (jSum (x_posF (M20 34)) 0 6)]) rfl ?_)
      exact J_ret hX hZ dX7_struck_44 rfl rfl ⟨by rw [x_struck, if_pos h6, if_neg h24, x_pos_cg hd], fun c h1 _ => hF c h1, rfl⟩
    · skip
      refine J_aload_n hX 0 dX7_struck_27 rfl ?_
      refine J_getr hX 0 4 dX7_struck_28 jc_0 rfl rfl (by decide) inlX7 wm_2_7 ?_
      refine J_callV hX 33 [] [] dX7_struck_31 (c_X3_fewestPayments l D a g M20 L ) lk_X7_147 jc_33 rfl rfl rfl (Nat.le_of_ble_eq_true rfl) (Nat.le_of_ble_eq_true rfl) (Nat.le_of_ble_eq_true rfl) (fun rv31 M31 L31 hp31 => ?_)
      obtain ⟨rfl, hF2, eL⟩ := hp31
      have eL := eL.symm
      subst eL
      refine J_cg (st' := [.int (6 - x_tb (M20 34) 64 63)]) rfl rfl rfl rfl ?_
      refine J_goto hX 44 dX7_struck_34 (by decide) ?_
      exact J_ret hX hZ dX7_struck_44 rfl rfl ⟨by rw [x_struck, if_pos h6, if_pos (by first | exact h24 | exact Classical.not_not.mp h24), x_tb_cg hd], fun c h1 h2 => by rw [hF2 c h2, hF c h1], rfl⟩
  · skip
    refine J_bipush (v := (-2)) hX dX7_struck_9 (by decide) ?_
    exact J_ret hX hZ dX7_struck_11 rfl rfl ⟨by rw [x_struck, if_neg h6], fun _ _ _ => rfl, rfl⟩
def x_V (t : Nat) : Nat → Nat → Nat
  | 0, r => r
  | e + 1, r => max (r * 10 ^ (e + 1)) (t * x_V t e (r - 3) + (10 - t) * x_V t e (r + 1))
theorem x_V_le {t : Nat} (ht : t ≤ 10) : ∀ e r, x_V t e r ≤ (r + e) * 10 ^ e := by
  intro e
  induction e with
  | zero => intro r; simp [x_V]
  | succ e ih =>
    intro r
    rw [x_V]
    have h1 := ih (r - 3)
    have h2 := ih (r + 1)
    have m1 : (r - 3 + e) * 10 ^ e ≤ (r + (e + 1)) * 10 ^ e := Nat.mul_le_mul_right _ (by omega)
    have m2 : (r + 1 + e) * 10 ^ e ≤ (r + (e + 1)) * 10 ^ e := Nat.mul_le_mul_right _ (by omega)
    have q : (r + (e + 1)) * 10 ^ (e + 1) = 10 * ((r + (e + 1)) * 10 ^ e) := by rw [Nat.pow_succ, ← Nat.mul_assoc, Nat.mul_comm]
    have a1 : t * x_V t e (r - 3) ≤ t * ((r + (e + 1)) * 10 ^ e) := Nat.mul_le_mul_left _ (by omega)
    have a2 : (10 - t) * x_V t e (r + 1) ≤ (10 - t) * ((r + (e + 1)) * 10 ^ e) := Nat.mul_le_mul_left _ (by omega)
    have a3 : t * ((r + (e + 1)) * 10 ^ e) + (10 - t) * ((r + (e + 1)) * 10 ^ e) = 10 * ((r + (e + 1)) * 10 ^ e) := by rw [← Nat.add_mul, show t + (10 - t) = 10 by omega]
    have a4 : r * 10 ^ (e + 1) ≤ (r + (e + 1)) * 10 ^ (e + 1) := Nat.mul_le_mul_right _ (by omega)
    apply Nat.max_le.mpr
    exact ⟨a4, by omega⟩
theorem x_V_b {t e r : Nat} (ht : t ≤ 10) (he : e ≤ 9) (hr : r ≤ 70) : x_V t e r < 2 ^ 40 := by
  have h := x_V_le ht e r
  have h2 : (r + e) * 10 ^ e ≤ 79 * 10 ^ 9 := Nat.mul_le_mul (by omega) (Nat.pow_le_pow_right (by omega) he)
  have h3 : 79 * 10 ^ 9 < 2 ^ 40 := by decide
  omega
theorem x_p10 {r e : Nat} (hr : r ≤ 70) (he : e ≤ 9) : r * 10 ^ e < 2 ^ 40 := by
  have h2 : r * 10 ^ e ≤ 70 * 10 ^ 9 := Nat.mul_le_mul hr (Nat.pow_le_pow_right (by omega) he)
  have h3 : 70 * 10 ^ 9 < 2 ^ 40 := by decide
  omega
theorem lN_max {p q : Nat} (hp : p < 2 ^ 63) (hq : q < 2 ^ 63) : (if lN q < lN p then lN p else lN q) = lN (max p q) := by
  by_cases h : q < p
  · rw [if_pos ((pk_lLT hq hp).mpr h), Nat.max_eq_left (by omega)]
  · rw [if_neg (fun c => h ((pk_lLT hq hp).mp c)), Nat.max_eq_right (by omega)]
def x_frL (L L' : jL) : Prop := ∀ k, k ≠ 38 → k ≠ 39 → L' k = L k
theorem x_frL.u {L L' : jL} {x i : Nat} {v : Int64} (hx : x = 38 ∨ x = 39) (h : x_frL L L') : x_frL L (jUL L' x i v) := fun k h1 h2 => by rw [jUL_ne (by omega)]; exact h k h1 h2
theorem jUL_same {L : jL} {k i : Nat} {v : Int64} : jUL L k i v k i = v := if_pos ⟨rfl, rfl⟩
theorem jUL_slot {L : jL} {k i k' i' : Nat} {v : Int64} (h : i' ≠ i) : jUL L k i v k' i' = L k' i' := if_neg (fun q => h q.2)
theorem jUL_cell {L : jL} {k i k' i' : Nat} {v : Int64} (h : k' ≠ k) : jUL L k i v k' i' = L k' i' := if_neg (fun q => h q.1)
set_option maxHeartbeats 4000000 in
set_option maxRecDepth 10000 in
theorem c_X6_scaledMean (l : Launch) (D : va_G) (a : Nat → Nat) (g : Nat → ClassId) (M : jM) (L : jL) (v m t : Nat) (hv : v ≤ 60) (hm : m ≤ 8) (ht : t ≤ 10)  : jV l D a g yX6_scaledMean cX6_scaledMean 12 (some .long) 1 30 [.ref (a 36), .int (nI v), .int (nI m), .int (nI t)] M L (fun rv M1 L1 => rv = some (.long (lN (x_V t m v))) ∧ M1 = M ∧ x_frL L L1) := by
  refine jMeth (by decide) (Nat.le_of_ble_eq_true rfl) ?_
  intro G hX hZ
  refine J_cg (loc' := [(0, .ref (a 36)), (1, .int (nI v)), (2, .int (nI m)), (3, .int (nI t))]) rfl rfl rfl rfl ?_
  refine J_aload_n hX 0 dX6_scaledMean_0 rfl ?_
  refine J_getr hX 36 0 dX6_scaledMean_1 jc_36 rfl rfl (by decide) inlX6 wm_4_6 ?_
  refine J_iconst (v := 0) hX dX6_scaledMean_4 (by decide) ?_
  refine J_aald (ty := .array .long) hX 37 0 dX6_scaledMean_5 jc_37 rfl rfl rfl rfl (by decide) ?_
  refine J_astore (loc' := [(4, .ref (a 38)), (0, .ref (a 36)), (1, .int (nI v)), (2, .int (nI m)), (3, .int (nI t))]) hX dX6_scaledMean_6 (by decide) rfl ?_
  refine J_aload_n hX 1 dX6_scaledMean_8 rfl ?_
  refine J_getr hX 36 0 dX6_scaledMean_9 jc_36 rfl rfl (by decide) inlX6 wm_4_6 ?_
  refine J_iconst (v := 1) hX dX6_scaledMean_12 (by decide) ?_
  refine J_aald (ty := .array .long) hX 37 1 dX6_scaledMean_13 jc_37 rfl rfl rfl rfl (by decide) ?_
  refine J_astore (loc' := [(5, .ref (a 39)), (4, .ref (a 38)), (0, .ref (a 36)), (1, .int (nI v)), (2, .int (nI m)), (3, .int (nI t))]) hX dX6_scaledMean_14 (by decide) rfl ?_
  refine J_iconst (v := 0) hX dX6_scaledMean_16 (by decide) ?_
  refine J_istore (loc' := [(6, .int 0), (5, .ref (a 39)), (4, .ref (a 38)), (0, .ref (a 36)), (1, .int (nI v)), (2, .int (nI m)), (3, .int (nI t))]) hX dX6_scaledMean_17 (by decide) rfl ?_
  have key19 : ∀ (fu19 : Nat) (i : Nat) (L' : jL), v + m + 1 - i < fu19 → (i ≤ v + m + 1) → (∀ r, r < i → L' 38 r = lN r) → (x_frL L L') → J l D a g G 12 M L' 19 [(0, .ref (a 36)), (1, .int (nI v)), (2, .int (nI m)), (3, .int (nI t)), (4, .ref (a 38)), (5, .ref (a 39)), (6, .int (nI i))] [] := by
    intro fu19
    induction fu19 with
    | zero => intro i L' hmu; exact absurd hmu (Nat.not_lt_zero _)
    | succ fu19 ih19 =>
      intro i L' hmu19 hi hl hF
      refine J_iload hX 6 dX6_scaledMean_19 rfl ?_
      refine J_iload_n hX 1 dX6_scaledMean_21 rfl ?_
      refine J_iload_n hX 2 dX6_scaledMean_22 rfl ?_
      refine J_iadd hX dX6_scaledMean_23 ?_
      refine J_topi (y := nI (v + m)) (nI_add _ _) ?_
      refine J_cmpN_gt hX 41 i (v + m) dX6_scaledMean_24 (by decide) rfl rfl (by omega) (by omega) (fun h24 => ?_) (fun h24 => ?_)
      · skip
        refine J_lconst (v := 1) hX dX6_scaledMean_41 (by decide) ?_
        refine J_topl (y := lN (10 ^ 0)) rfl ?_
        refine J_lstore (loc' := [(6, .long (lN (10 ^ 0))), (0, .ref (a 36)), (1, .int (nI v)), (2, .int (nI m)), (3, .int (nI t)), (4, .ref (a 38)), (5, .ref (a 39))]) hX dX6_scaledMean_42 (by decide) rfl ?_
        refine J_iconst (v := 1) hX dX6_scaledMean_44 (by decide) ?_
        refine J_istore (loc' := [(8, .int 1), (6, .long (lN (10 ^ 0))), (0, .ref (a 36)), (1, .int (nI v)), (2, .int (nI m)), (3, .int (nI t)), (4, .ref (a 38)), (5, .ref (a 39))]) hX dX6_scaledMean_45 (by decide) rfl ?_
        have key47 : ∀ (fu47 : Nat) (e : Nat) (x : Nat) (y : Nat) (L1 : jL), m - e < fu47 → (e ≤ m) → (jCs[x]? = some (jj 69)) → (jCs[y]? = some (jj 69)) → ((x = 38 ∧ y = 39) ∨ (x = 39 ∧ y = 38)) → (∀ r, r ≤ v + m - e → L1 x r = lN (x_V t e r)) → (x_frL L L1) → J l D a g G 12 M L1 47 [(0, .ref (a 36)), (1, .int (nI v)), (2, .int (nI m)), (3, .int (nI t)), (4, .ref (a x)), (5, .ref (a y)), (6, .long (lN (10 ^ e))), (8, .int (nI (e + 1)))] [] := by
          intro fu47
          induction fu47 with
          | zero => intro e x y L1 hmu; exact absurd hmu (Nat.not_lt_zero _)
          | succ fu47 ih47 =>
            intro e x y L1 hmu47 he hx hy hxy hr hG
            refine J_iload hX 7 dX6_scaledMean_47 rfl ?_
            refine J_iload_n hX 2 dX6_scaledMean_49 rfl ?_
            refine J_cmpN_gt hX 145 (e + 1) m dX6_scaledMean_50 (by decide) rfl rfl (by omega) (by omega) (fun h50 => ?_) (fun h50 => ?_)
            · skip
              refine J_aload hX 4 dX6_scaledMean_145 rfl ?_
              refine J_iload_n hX 1 dX6_scaledMean_147 rfl ?_
              refine J_lald hX x v dX6_scaledMean_148 hx rfl (by omega) (by omega) ?_
              exact J_lret hX hZ dX6_scaledMean_149 ⟨by rw [hr v (by omega), show e = m by omega], rfl, hG⟩
            · skip
              refine J_lload hX 6 dX6_scaledMean_53 rfl ?_
              refine J_ldc2 hX dX6_scaledMean_55 wm_26_6 ?_
              refine J_lmul hX dX6_scaledMean_58 ?_
              refine J_topl (y := lN (10 ^ (e + 1))) (by rw [Nat.pow_succ, ← lN_mul]; rfl) ?_
              refine J_lstore (loc' := [(6, .long (lN (10 ^ (e + 1)))), (0, .ref (a 36)), (1, .int (nI v)), (2, .int (nI m)), (3, .int (nI t)), (4, .ref (a x)), (5, .ref (a y)), (8, .int (nI (e + 1)))]) hX dX6_scaledMean_59 (by decide) rfl ?_
              refine J_iconst (v := 0) hX dX6_scaledMean_61 (by decide) ?_
              refine J_istore (loc' := [(9, .int 0), (6, .long (lN (10 ^ (e + 1)))), (0, .ref (a 36)), (1, .int (nI v)), (2, .int (nI m)), (3, .int (nI t)), (4, .ref (a x)), (5, .ref (a y)), (8, .int (nI (e + 1)))]) hX dX6_scaledMean_62 (by decide) rfl ?_
              have key64 : ∀ (fu64 : Nat) (r : Nat) (L2 : jL), v + m - r < fu64 → (r ≤ v + m - (e + 1) + 1) → (∀ j, j < r → L2 y j = lN (x_V t (e + 1) j)) → (∀ j, j ≤ v + m - e → L2 x j = lN (x_V t e j)) → (x_frL L L2) → J l D a g G 12 M L2 64 [(0, .ref (a 36)), (1, .int (nI v)), (2, .int (nI m)), (3, .int (nI t)), (4, .ref (a x)), (5, .ref (a y)), (6, .long (lN (10 ^ (e + 1)))), (8, .int (nI (e + 1))), (9, .int (nI r))] [] := by
                intro fu64
                induction fu64 with
                | zero => intro r L2 hmu; exact absurd hmu (Nat.not_lt_zero _)
                | succ fu64 ih64 =>
                  intro r L2 hmu64 hq hz hw hH
                  have b1 := x_V_b (t := t) (e := e) (r := r - 3) ht (by omega) (by omega)
                  have b2 := x_V_b (t := t) (e := e) (r := r + 1) ht (by omega) (by omega)
                  have b3 := x_p10 (r := r) (e := e + 1) (by omega) (by omega)
                  have b4 : t * x_V t e (r - 3) ≤ 10 * 2 ^ 40 := Nat.mul_le_mul ht (Nat.le_of_lt b1)
                  have b5 : (10 - t) * x_V t e (r + 1) ≤ 10 * 2 ^ 40 := Nat.mul_le_mul (by omega) (Nat.le_of_lt b2)
                  refine J_iload hX 8 dX6_scaledMean_64 rfl ?_
                  refine J_iload_n hX 1 dX6_scaledMean_66 rfl ?_
                  refine J_iload_n hX 2 dX6_scaledMean_67 rfl ?_
                  refine J_iadd hX dX6_scaledMean_68 ?_
                  refine J_topi (y := nI (v + m)) (nI_add _ _) ?_
                  refine J_iload hX 7 dX6_scaledMean_69 rfl ?_
                  refine J_isub hX dX6_scaledMean_71 ?_
                  refine J_topi (y := nI (v + m - (e + 1))) (pk_sub (by omega)) ?_
                  refine J_cmpN_gt hX 127 r (v + m - (e + 1)) dX6_scaledMean_72 (by decide) rfl rfl (by omega) (by omega) (fun h72 => ?_) (fun h72 => ?_)
                  · skip
                    refine J_aload hX 4 dX6_scaledMean_127 rfl ?_
                    refine J_astore (loc' := [(9, .ref (a x)), (0, .ref (a 36)), (1, .int (nI v)), (2, .int (nI m)), (3, .int (nI t)), (4, .ref (a x)), (5, .ref (a y)), (6, .long (lN (10 ^ (e + 1)))), (8, .int (nI (e + 1)))]) hX dX6_scaledMean_129 (by decide) rfl ?_
                    refine J_aload hX 6 dX6_scaledMean_131 rfl ?_
                    refine J_astore (loc' := [(4, .ref (a y)), (9, .ref (a x)), (0, .ref (a 36)), (1, .int (nI v)), (2, .int (nI m)), (3, .int (nI t)), (5, .ref (a y)), (6, .long (lN (10 ^ (e + 1)))), (8, .int (nI (e + 1)))]) hX dX6_scaledMean_133 (by decide) rfl ?_
                    refine J_aload hX 1 dX6_scaledMean_135 rfl ?_
                    refine J_astore (loc' := [(5, .ref (a x)), (4, .ref (a y)), (9, .ref (a x)), (0, .ref (a 36)), (1, .int (nI v)), (2, .int (nI m)), (3, .int (nI t)), (6, .long (lN (10 ^ (e + 1)))), (8, .int (nI (e + 1)))]) hX dX6_scaledMean_137 (by decide) rfl ?_
                    refine J_iinc (v := nI (e + 1 + 1)) (loc' := [(8, .int (nI (e + 1 + 1))), (5, .ref (a x)), (4, .ref (a y)), (9, .ref (a x)), (0, .ref (a 36)), (1, .int (nI v)), (2, .int (nI m)), (3, .int (nI t)), (6, .long (lN (10 ^ (e + 1))))]) hX 8 dX6_scaledMean_139 rfl (jinc (e + 1)) (by decide) rfl ?_
                    refine J_goto hX 47 dX6_scaledMean_142 (by decide) ?_
                    refine J_sub (loc' := [(0, .ref (a 36)), (1, .int (nI v)), (2, .int (nI m)), (3, .int (nI t)), (4, .ref (a y)), (5, .ref (a x)), (6, .long (lN (10 ^ (e + 1)))), (8, .int (nI (e + 1 + 1)))]) [4, 5, 6, 7, 2, 1, 8, 0] rfl ?_
                    refine J_seti (y := nI ((e + 1) + 1)) (loc' := [(0, .ref (a 36)), (1, .int (nI v)), (2, .int (nI m)), (3, .int (nI t)), (4, .ref (a y)), (5, .ref (a x)), (6, .long (lN (10 ^ (e + 1)))), (8, .int (nI ((e + 1) + 1)))]) 7 rfl rfl rfl ?_
                    exact ih47  (e + 1) y x L2 (by omega) (by omega) hy hx (by omega) (fun r h => hz r (by omega)) hH
                  · skip
                    refine J_iload_n hX 3 dX6_scaledMean_75 rfl ?_
                    refine J_i2l hX dX6_scaledMean_76 ?_
                    refine J_topl (y := lN t) (nI_l (by omega)) ?_
                    refine J_aload hX 4 dX6_scaledMean_77 rfl ?_
                    refine J_iconst (v := 0) hX dX6_scaledMean_79 (by decide) ?_
                    refine J_iload hX 8 dX6_scaledMean_80 rfl ?_
                    refine J_iconst (v := 3) hX dX6_scaledMean_82 (by decide) ?_
                    refine J_isub hX dX6_scaledMean_83 ?_
                    refine J_mmax hX dX6_scaledMean_84 wm_26_7 wm_22_23 wm_15_7 wm_23_0 (Nat.le_of_ble_eq_true rfl) (Nat.le_of_ble_eq_true rfl) ?_
                    refine J_topi (y := nI (r - 3)) (jmax0 (b := 3) (by omega) (by omega)) ?_
                    refine J_lald hX x (r - 3) dX6_scaledMean_87 hx rfl (by omega) (by omega) ?_
                    refine J_topl (y := lN (x_V t e (r - 3))) (hw _ (by omega)) ?_
                    refine J_lmul hX dX6_scaledMean_88 ?_
                    refine J_topl (y := lN (t * x_V t e (r - 3))) (lN_mul _ _) ?_
                    refine J_bipush (v := 10) hX dX6_scaledMean_89 (by decide) ?_
                    refine J_iload_n hX 3 dX6_scaledMean_91 rfl ?_
                    refine J_isub hX dX6_scaledMean_92 ?_
                    refine J_topi (y := nI (10 - t)) (pk_sub (a := 10) ht) ?_
                    refine J_i2l hX dX6_scaledMean_93 ?_
                    refine J_topl (y := lN (10 - t)) (nI_l (by omega)) ?_
                    refine J_aload hX 4 dX6_scaledMean_94 rfl ?_
                    refine J_iload hX 8 dX6_scaledMean_96 rfl ?_
                    refine J_iconst (v := 1) hX dX6_scaledMean_98 (by decide) ?_
                    refine J_iadd hX dX6_scaledMean_99 ?_
                    refine J_topi (y := nI (r + 1)) (nI_1 r) ?_
                    refine J_lald hX x (r + 1) dX6_scaledMean_100 hx rfl (by omega) (by omega) ?_
                    refine J_topl (y := lN (x_V t e (r + 1))) (hw _ (by omega)) ?_
                    refine J_lmul hX dX6_scaledMean_101 ?_
                    refine J_topl (y := lN ((10 - t) * x_V t e (r + 1))) (lN_mul _ _) ?_
                    refine J_ladd hX dX6_scaledMean_102 ?_
                    refine J_topl (y := lN (t * x_V t e (r - 3) + (10 - t) * x_V t e (r + 1))) (lN_add _ _) ?_
                    refine J_lstore (loc' := [(10, .long (lN (t * x_V t e (r - 3) + (10 - t) * x_V t e (r + 1)))), (0, .ref (a 36)), (1, .int (nI v)), (2, .int (nI m)), (3, .int (nI t)), (4, .ref (a x)), (5, .ref (a y)), (6, .long (lN (10 ^ (e + 1)))), (8, .int (nI (e + 1))), (9, .int (nI r))]) hX dX6_scaledMean_103 (by decide) rfl ?_
                    refine J_aload hX 6 dX6_scaledMean_105 rfl ?_
                    refine J_iload hX 9 dX6_scaledMean_107 rfl ?_
                    refine J_iload hX 9 dX6_scaledMean_109 rfl ?_
                    refine J_i2l hX dX6_scaledMean_111 ?_
                    refine J_topl (y := lN r) (nI_l (by omega)) ?_
                    refine J_lload hX 7 dX6_scaledMean_112 rfl ?_
                    refine J_lmul hX dX6_scaledMean_114 ?_
                    refine J_topl (y := lN (r * 10 ^ (e + 1))) (lN_mul _ _) ?_
                    refine J_lload hX 0 dX6_scaledMean_115 rfl ?_
                    refine J_mmax_long hX dX6_scaledMean_117 wm_26_8 wm_26_9 wm_15_7 wm_26_10 (Nat.le_of_ble_eq_true rfl) (Nat.le_of_ble_eq_true rfl) ?_
                    refine J_topl (y := lN (x_V t (e + 1) r)) (lN_max (by omega) (by omega)) ?_
                    refine J_last hX y r dX6_scaledMean_120 hy rfl (by omega) (by omega) ?_
                    refine J_iinc (v := nI (r + 1)) (loc' := [(9, .int (nI (r + 1))), (10, .long (lN (t * x_V t e (r - 3) + (10 - t) * x_V t e (r + 1)))), (0, .ref (a 36)), (1, .int (nI v)), (2, .int (nI m)), (3, .int (nI t)), (4, .ref (a x)), (5, .ref (a y)), (6, .long (lN (10 ^ (e + 1)))), (8, .int (nI (e + 1)))]) hX 9 dX6_scaledMean_121 rfl (jinc r) (by decide) rfl ?_
                    refine J_goto hX 64 dX6_scaledMean_124 (by decide) ?_
                    refine J_sub (loc' := [(0, .ref (a 36)), (1, .int (nI v)), (2, .int (nI m)), (3, .int (nI t)), (4, .ref (a x)), (5, .ref (a y)), (6, .long (lN (10 ^ (e + 1)))), (8, .int (nI (e + 1))), (9, .int (nI (r + 1)))]) [2, 3, 4, 5, 6, 7, 8, 9, 0] rfl ?_
                    refine J_cg (M' := M) (L' := (jUL L2 y r (lN (x_V t (e + 1) r)))) rfl rfl rfl rfl ?_
                    exact ih64  (r + 1) (jUL L2 y r (lN (x_V t (e + 1) r))) (by omega) (by omega) (fun j hj => by by_cases q : j = r; (subst q; exact jUL_same); (rw [jUL_slot q]; exact hz j (by omega))) (fun j hj => by rw [jUL_cell (by omega)]; exact hw j hj) (hH.u (by omega))
              refine J_sub (loc' := [(0, .ref (a 36)), (1, .int (nI v)), (2, .int (nI m)), (3, .int (nI t)), (4, .ref (a x)), (5, .ref (a y)), (6, .long (lN (10 ^ (e + 1)))), (8, .int (nI (e + 1))), (9, .int 0)]) [2, 3, 4, 5, 6, 7, 1, 8, 0] rfl ?_
              refine J_seti (y := nI 0) (loc' := [(0, .ref (a 36)), (1, .int (nI v)), (2, .int (nI m)), (3, .int (nI t)), (4, .ref (a x)), (5, .ref (a y)), (6, .long (lN (10 ^ (e + 1)))), (8, .int (nI (e + 1))), (9, .int (nI 0))]) 8 rfl rfl rfl ?_
              exact key64 _ 0 L1 (Nat.lt_succ_self _) (by omega) (fun c h => absurd h (Nat.not_lt_zero c)) hr hG
        refine J_sub (loc' := [(0, .ref (a 36)), (1, .int (nI v)), (2, .int (nI m)), (3, .int (nI t)), (4, .ref (a 38)), (5, .ref (a 39)), (6, .long (lN (10 ^ 0))), (8, .int 1)]) [2, 3, 4, 5, 6, 7, 1, 0] rfl ?_
        refine J_seti (y := nI (0 + 1)) (loc' := [(0, .ref (a 36)), (1, .int (nI v)), (2, .int (nI m)), (3, .int (nI t)), (4, .ref (a 38)), (5, .ref (a 39)), (6, .long (lN (10 ^ 0))), (8, .int (nI (0 + 1)))]) 7 rfl rfl rfl ?_
        exact key47 _ 0 38 39 L' (Nat.lt_succ_self _) (by omega) jc_38 jc_39 (Or.inl ⟨rfl, rfl⟩) (fun r h => hl r (by omega)) hF
      · skip
        refine J_aload hX 4 dX6_scaledMean_27 rfl ?_
        refine J_iload hX 6 dX6_scaledMean_29 rfl ?_
        refine J_iload hX 6 dX6_scaledMean_31 rfl ?_
        refine J_i2l hX dX6_scaledMean_33 ?_
        refine J_topl (y := lN i) (nI_l (by omega)) ?_
        refine J_last hX 38 i dX6_scaledMean_34 jc_38 rfl (by omega) (by omega) ?_
        refine J_iinc (v := nI (i + 1)) (loc' := [(6, .int (nI (i + 1))), (0, .ref (a 36)), (1, .int (nI v)), (2, .int (nI m)), (3, .int (nI t)), (4, .ref (a 38)), (5, .ref (a 39))]) hX 6 dX6_scaledMean_35 rfl (jinc i) (by decide) rfl ?_
        refine J_goto hX 19 dX6_scaledMean_38 (by decide) ?_
        refine J_sub (loc' := [(0, .ref (a 36)), (1, .int (nI v)), (2, .int (nI m)), (3, .int (nI t)), (4, .ref (a 38)), (5, .ref (a 39)), (6, .int (nI (i + 1)))]) [1, 2, 3, 4, 5, 6, 0] rfl ?_
        refine J_cg (M' := M) (L' := (jUL L' 38 i (lN i))) rfl rfl rfl rfl ?_
        exact ih19  (i + 1) (jUL L' 38 i (lN i)) (by omega) (by omega) (fun r hr => by by_cases e : r = i; (subst e; exact jUL_same); (rw [jUL_slot e]; exact hl r (by omega))) (hF.u (Or.inl rfl))
  refine J_sub (loc' := [(0, .ref (a 36)), (1, .int (nI v)), (2, .int (nI m)), (3, .int (nI t)), (4, .ref (a 38)), (5, .ref (a 39)), (6, .int 0)]) [3, 4, 5, 6, 2, 1, 0] rfl ?_
  refine J_seti (y := nI 0) (loc' := [(0, .ref (a 36)), (1, .int (nI v)), (2, .int (nI m)), (3, .int (nI t)), (4, .ref (a 38)), (5, .ref (a 39)), (6, .int (nI 0))]) 6 rfl rfl rfl ?_
  exact key19 _ 0 L (Nat.lt_succ_self _) (by omega) (fun c h => absurd h (Nat.not_lt_zero c)) (fun _ _ _ => rfl)
def x_change (v m t k p : Int32) : Int64 := if (0 ≤ v.toInt ∧ v.toInt ≤ 60) then (if (0 ≤ m.toInt ∧ m.toInt ≤ 8) then (if (0 ≤ t.toInt ∧ t.toInt ≤ 10) then (if (0 ≤ k.toInt ∧ k.toInt ≤ 1) then (if (0 ≤ p.toInt ∧ p.toInt ≤ 1) then (if k = 1 then (if x_V t.toNatClampNeg m.toNatClampNeg v.toNatClampNeg = v.toNatClampNeg * 10 ^ m.toNatClampNeg then 1 else 0) else x_low (x_V t.toNatClampNeg m.toNatClampNeg v.toNatClampNeg) (10 ^ m.toNatClampNeg) p) else -1000000000000000002) else -1000000000000000002) else -1000000000000000002) else -1000000000000000002) else -1000000000000000002
set_option maxHeartbeats 4000000 in
set_option maxRecDepth 10000 in
theorem c_X7_change (l : Launch) (D : va_G) (a : Nat → Nat) (g : Nat → ClassId) (M : jM) (L : jL) (v m t k p : Int32)  : jV l D a g yX7_change cX7_change 10 (some .long) 2 61 [.ref (a 0), .int v, .int m, .int t, .int k, .int p] M L (fun rv M1 L1 => rv = some (.long (x_change v m t k p)) ∧ M1 = M ∧ x_frL L L1) := by
  refine jMeth (by decide) (Nat.le_of_ble_eq_true rfl) ?_
  intro G hX hZ
  refine J_cg (loc' := [(0, .ref (a 0)), (1, .int v), (2, .int m), (3, .int t), (4, .int k), (5, .int p)]) rfl rfl rfl rfl ?_
  refine J_iload_n hX 1 dX7_change_0 rfl ?_
  refine J_iconst (v := 0) hX dX7_change_1 (by decide) ?_
  refine J_bipush (v := 60) hX dX7_change_2 (by decide) ?_
  refine J_callS hX [.int v, .int 0, .int 60] [] dX7_change_4 (c_X7_within l D a g M L v 0 60) lk_X7_62 rfl rfl (Nat.le_of_ble_eq_true rfl) (Nat.le_of_ble_eq_true rfl) (Nat.le_of_ble_eq_true rfl) (J_eq (st := [.int (jB (0 ≤ v.toInt ∧ v.toInt ≤ 60))]) rfl ?_)
  refine J_ifB_eq hX 50 dX7_change_7 (by decide) (fun h7 => ?_) (fun h7 => ?_)
  · skip
    refine J_ldc2 hX dX7_change_50 wm_26_0 ?_
    exact J_lret hX hZ dX7_change_53 ⟨by rw [x_change]; (first | rw [if_pos h7] | rw [if_neg h7] | skip), rfl, fun _ _ _ => rfl⟩
  · skip
    refine J_iload_n hX 2 dX7_change_10 rfl ?_
    refine J_iconst (v := 0) hX dX7_change_11 (by decide) ?_
    refine J_bipush (v := 8) hX dX7_change_12 (by decide) ?_
    refine J_callS hX [.int m, .int 0, .int 8] [] dX7_change_14 (c_X7_within l D a g M L m 0 8) lk_X7_62 rfl rfl (Nat.le_of_ble_eq_true rfl) (Nat.le_of_ble_eq_true rfl) (Nat.le_of_ble_eq_true rfl) (J_eq (st := [.int (jB (0 ≤ m.toInt ∧ m.toInt ≤ 8))]) rfl ?_)
    refine J_ifB_eq hX 50 dX7_change_17 (by decide) (fun h17 => ?_) (fun h17 => ?_)
    · skip
      refine J_ldc2 hX dX7_change_50 wm_26_0 ?_
      exact J_lret hX hZ dX7_change_53 ⟨by rw [x_change]; (first | rw [if_pos h7] | rw [if_neg h7] | skip); (first | rw [if_pos h17] | rw [if_neg h17] | skip), rfl, fun _ _ _ => rfl⟩
    · skip
      refine J_iload_n hX 3 dX7_change_20 rfl ?_
      refine J_iconst (v := 0) hX dX7_change_21 (by decide) ?_
      refine J_bipush (v := 10) hX dX7_change_22 (by decide) ?_
      refine J_callS hX [.int t, .int 0, .int 10] [] dX7_change_24 (c_X7_within l D a g M L t 0 10) lk_X7_62 rfl rfl (Nat.le_of_ble_eq_true rfl) (Nat.le_of_ble_eq_true rfl) (Nat.le_of_ble_eq_true rfl) (J_eq (st := [.int (jB (0 ≤ t.toInt ∧ t.toInt ≤ 10))]) rfl ?_)
      refine J_ifB_eq hX 50 dX7_change_27 (by decide) (fun h27 => ?_) (fun h27 => ?_)
      · skip
        refine J_ldc2 hX dX7_change_50 wm_26_0 ?_
        exact J_lret hX hZ dX7_change_53 ⟨by rw [x_change]; (first | rw [if_pos h7] | rw [if_neg h7] | skip); (first | rw [if_pos h17] | rw [if_neg h17] | skip); (first | rw [if_pos h27] | rw [if_neg h27] | skip), rfl, fun _ _ _ => rfl⟩
      · skip
        refine J_iload hX 4 dX7_change_30 rfl ?_
        refine J_iconst (v := 0) hX dX7_change_32 (by decide) ?_
        refine J_iconst (v := 1) hX dX7_change_33 (by decide) ?_
        refine J_callS hX [.int k, .int 0, .int 1] [] dX7_change_34 (c_X7_within l D a g M L k 0 1) lk_X7_62 rfl rfl (Nat.le_of_ble_eq_true rfl) (Nat.le_of_ble_eq_true rfl) (Nat.le_of_ble_eq_true rfl) (J_eq (st := [.int (jB (0 ≤ k.toInt ∧ k.toInt ≤ 1))]) rfl ?_)
        refine J_ifB_eq hX 50 dX7_change_37 (by decide) (fun h37 => ?_) (fun h37 => ?_)
        · skip
          refine J_ldc2 hX dX7_change_50 wm_26_0 ?_
          exact J_lret hX hZ dX7_change_53 ⟨by rw [x_change]; (first | rw [if_pos h7] | rw [if_neg h7] | skip); (first | rw [if_pos h17] | rw [if_neg h17] | skip); (first | rw [if_pos h27] | rw [if_neg h27] | skip); (first | rw [if_pos h37] | rw [if_neg h37] | skip), rfl, fun _ _ _ => rfl⟩
        · skip
          refine J_iload hX 5 dX7_change_40 rfl ?_
          refine J_iconst (v := 0) hX dX7_change_42 (by decide) ?_
          refine J_iconst (v := 1) hX dX7_change_43 (by decide) ?_
          refine J_callS hX [.int p, .int 0, .int 1] [] dX7_change_44 (c_X7_within l D a g M L p 0 1) lk_X7_62 rfl rfl (Nat.le_of_ble_eq_true rfl) (Nat.le_of_ble_eq_true rfl) (Nat.le_of_ble_eq_true rfl) (J_eq (st := [.int (jB (0 ≤ p.toInt ∧ p.toInt ≤ 1))]) rfl ?_)
          refine J_ifB_ne hX 54 dX7_change_47 (by decide) (fun h47 => ?_) (fun h47 => ?_)
          · skip
            have iv := jix h7
            have lv := jixl h7
            have im := jix h17
            have lm := jixl h17
            have it := jix h27
            have lt := jixl h27
            refine J_seti (y := nI v.toNatClampNeg) (loc' := [(0, .ref (a 0)), (1, .int (nI v.toNatClampNeg)), (2, .int m), (3, .int t), (4, .int k), (5, .int p)]) 1 rfl iv rfl ?_
            refine J_seti (y := nI m.toNatClampNeg) (loc' := [(0, .ref (a 0)), (1, .int (nI v.toNatClampNeg)), (2, .int (nI m.toNatClampNeg)), (3, .int t), (4, .int k), (5, .int p)]) 2 rfl im rfl ?_
            refine J_seti (y := nI t.toNatClampNeg) (loc' := [(0, .ref (a 0)), (1, .int (nI v.toNatClampNeg)), (2, .int (nI m.toNatClampNeg)), (3, .int (nI t.toNatClampNeg)), (4, .int k), (5, .int p)]) 3 rfl it rfl ?_
            refine J_lconst (v := 1) hX dX7_change_54 (by decide) ?_
            refine J_topl (y := lN (10 ^ 0)) rfl ?_
            refine J_lstore (loc' := [(6, .long (lN (10 ^ 0))), (0, .ref (a 0)), (1, .int (nI v.toNatClampNeg)), (2, .int (nI m.toNatClampNeg)), (3, .int (nI t.toNatClampNeg)), (4, .int k), (5, .int p)]) hX dX7_change_55 (by decide) rfl ?_
            refine J_iconst (v := 0) hX dX7_change_57 (by decide) ?_
            refine J_istore (loc' := [(8, .int 0), (6, .long (lN (10 ^ 0))), (0, .ref (a 0)), (1, .int (nI v.toNatClampNeg)), (2, .int (nI m.toNatClampNeg)), (3, .int (nI t.toNatClampNeg)), (4, .int k), (5, .int p)]) hX dX7_change_58 (by decide) rfl ?_
            have key60 : ∀ (fu60 : Nat) (i : Nat), m.toNatClampNeg - i < fu60 → (i ≤ m.toNatClampNeg) → J l D a g G 10 M L 60 [(0, .ref (a 0)), (1, .int (nI v.toNatClampNeg)), (2, .int (nI m.toNatClampNeg)), (3, .int (nI t.toNatClampNeg)), (4, .int k), (5, .int p), (6, .long (lN (10 ^ i))), (8, .int (nI i))] [] := by
              intro fu60
              induction fu60 with
              | zero => intro i hmu; exact absurd hmu (Nat.not_lt_zero _)
              | succ fu60 ih60 =>
                intro i hmu60 hi
                refine J_iload hX 7 dX7_change_60 rfl ?_
                refine J_iload_n hX 2 dX7_change_62 rfl ?_
                refine J_cmpN_ge hX 80 i m.toNatClampNeg dX7_change_63 (by decide) rfl rfl (by omega) (by omega) (fun h63 => ?_) (fun h63 => ?_)
                · skip
                  have ei : i = m.toNatClampNeg := by omega
                  have bV := x_V_b (t := t.toNatClampNeg) (e := m.toNatClampNeg) (r := v.toNatClampNeg) (by omega) (by omega) (by omega)
                  have bP := x_p10 (r := v.toNatClampNeg) (e := m.toNatClampNeg) (by omega) (by omega)
                  have bQ := x_p10 (r := 1) (e := m.toNatClampNeg) (by omega) (by omega)
                  refine J_setl (y := lN (10 ^ m.toNatClampNeg)) (loc' := [(0, .ref (a 0)), (1, .int (nI v.toNatClampNeg)), (2, .int (nI m.toNatClampNeg)), (3, .int (nI t.toNatClampNeg)), (4, .int k), (5, .int p), (6, .long (lN (10 ^ m.toNatClampNeg))), (8, .int (nI i))]) 6 rfl (by rw [ei]) rfl ?_
                  refine J_aload_n hX 0 dX7_change_80 rfl ?_
                  refine J_getr hX 0 5 dX7_change_81 jc_0 rfl rfl (by decide) inlX7 wm_2_11 ?_
                  refine J_iload_n hX 1 dX7_change_84 rfl ?_
                  refine J_iload_n hX 2 dX7_change_85 rfl ?_
                  refine J_iload_n hX 3 dX7_change_86 rfl ?_
                  refine J_callV hX 36 [.int (nI v.toNatClampNeg), .int (nI m.toNatClampNeg), .int (nI t.toNatClampNeg)] [] dX7_change_87 (c_X6_scaledMean l D a g M L v.toNatClampNeg m.toNatClampNeg t.toNatClampNeg (by omega) (by omega) (by omega)) lk_X7_179 jc_36 rfl rfl rfl (Nat.le_of_ble_eq_true rfl) (Nat.le_of_ble_eq_true rfl) (Nat.le_of_ble_eq_true rfl) (fun rv87 M87 L87 hp87 => ?_)
                  obtain ⟨rfl, eM, hF⟩ := hp87
                  have eM := eM.symm
                  subst eM
                  refine J_cg (st' := [.long (lN (x_V t.toNatClampNeg m.toNatClampNeg v.toNatClampNeg))]) rfl rfl rfl rfl ?_
                  refine J_lstore (loc' := [(8, .long (lN (x_V t.toNatClampNeg m.toNatClampNeg v.toNatClampNeg))), (0, .ref (a 0)), (1, .int (nI v.toNatClampNeg)), (2, .int (nI m.toNatClampNeg)), (3, .int (nI t.toNatClampNeg)), (4, .int k), (5, .int p), (6, .long (lN (10 ^ m.toNatClampNeg)))]) hX dX7_change_90 (by decide) rfl ?_
                  refine J_iload hX 5 dX7_change_92 rfl ?_
                  refine J_iconst (v := 1) hX dX7_change_94 (by decide) ?_
                  refine J_icmp_ne hX 115 dX7_change_95 (by decide) (fun h95 => ?_) (fun h95 => ?_)
                  · skip
                    refine J_lload hX 0 dX7_change_115 rfl ?_
                    refine J_lload hX 7 dX7_change_117 rfl ?_
                    refine J_iload hX 6 dX7_change_119 rfl ?_
                    refine J_callS hX [.long (lN (x_V t.toNatClampNeg m.toNatClampNeg v.toNatClampNeg)), .long (lN (10 ^ m.toNatClampNeg)), .int p] [] dX7_change_121 (c_X7_lowest l D a g M L87 (x_V t.toNatClampNeg m.toNatClampNeg v.toNatClampNeg) (10 ^ m.toNatClampNeg) (by omega) (by omega) (Nat.pow_pos (by omega)) p) lk_X7_183 rfl rfl (Nat.le_of_ble_eq_true rfl) (Nat.le_of_ble_eq_true rfl) (Nat.le_of_ble_eq_true rfl) (J_eq (st := [.long (x_low (x_V t.toNatClampNeg m.toNatClampNeg v.toNatClampNeg) (10 ^ m.toNatClampNeg) p)]) rfl ?_)
                    exact J_lret hX hZ dX7_change_124 ⟨by rw [x_change, if_pos h7, if_pos h17, if_pos h27, if_pos h37, if_pos h47]; rw [if_neg h95], rfl, hF⟩
                  · skip
                    refine J_lload hX 0 dX7_change_98 rfl ?_
                    refine J_iload_n hX 2 dX7_change_100 rfl ?_
                    refine J_i2l hX dX7_change_101 ?_
                    refine J_topl (y := lN v.toNatClampNeg) (nI_l (by omega)) ?_
                    refine J_lload hX 7 dX7_change_102 rfl ?_
                    refine J_lmul hX dX7_change_104 ?_
                    refine J_topl (y := lN (v.toNatClampNeg * 10 ^ m.toNatClampNeg)) (lN_mul _ _) ?_
                    refine J_lcmp hX dX7_change_105 ?_
                    refine J_ifK_ne hX 113 dX7_change_106 (by decide) (fun h106 => ?_) (fun h106 => ?_)
                    · skip
                      refine J_lconst (v := 0) hX dX7_change_113 (by decide) ?_
                      exact J_lret hX hZ dX7_change_114 ⟨by rw [x_change, if_pos h7, if_pos h17, if_pos h27, if_pos h37, if_pos h47]; rw [if_pos (by first | exact h95 | exact Classical.not_not.mp h95)]; (first | rw [if_pos ((pk_lEQ (by omega) (by omega)).mp h106)] | rw [if_pos ((pk_lEQ (by omega) (by omega)).mp (Classical.not_not.mp h106))] | rw [if_neg (fun q => h106 ((pk_lEQ (by omega) (by omega)).mpr q))]), rfl, hF⟩
                    · skip
                      refine J_lconst (v := 1) hX dX7_change_109 (by decide) ?_
                      refine J_goto hX 114 dX7_change_110 (by decide) ?_
                      exact J_lret hX hZ dX7_change_114 ⟨by rw [x_change, if_pos h7, if_pos h17, if_pos h27, if_pos h37, if_pos h47]; rw [if_pos (by first | exact h95 | exact Classical.not_not.mp h95)]; (first | rw [if_pos ((pk_lEQ (by omega) (by omega)).mp h106)] | rw [if_pos ((pk_lEQ (by omega) (by omega)).mp (Classical.not_not.mp h106))] | rw [if_neg (fun q => h106 ((pk_lEQ (by omega) (by omega)).mpr q))]), rfl, hF⟩
                · skip
                  refine J_lload hX 6 dX7_change_66 rfl ?_
                  refine J_ldc2 hX dX7_change_68 wm_26_1 ?_
                  refine J_lmul hX dX7_change_71 ?_
                  refine J_topl (y := lN (10 ^ (i + 1))) (by rw [Nat.pow_succ, ← lN_mul]; rfl) ?_
                  refine J_lstore (loc' := [(6, .long (lN (10 ^ (i + 1)))), (0, .ref (a 0)), (1, .int (nI v.toNatClampNeg)), (2, .int (nI m.toNatClampNeg)), (3, .int (nI t.toNatClampNeg)), (4, .int k), (5, .int p), (8, .int (nI i))]) hX dX7_change_72 (by decide) rfl ?_
                  refine J_iinc (v := nI (i + 1)) (loc' := [(8, .int (nI (i + 1))), (6, .long (lN (10 ^ (i + 1)))), (0, .ref (a 0)), (1, .int (nI v.toNatClampNeg)), (2, .int (nI m.toNatClampNeg)), (3, .int (nI t.toNatClampNeg)), (4, .int k), (5, .int p)]) hX 7 dX7_change_74 rfl (jinc i) (by decide) rfl ?_
                  refine J_goto hX 60 dX7_change_77 (by decide) ?_
                  refine J_sub (loc' := [(0, .ref (a 0)), (1, .int (nI v.toNatClampNeg)), (2, .int (nI m.toNatClampNeg)), (3, .int (nI t.toNatClampNeg)), (4, .int k), (5, .int p), (6, .long (lN (10 ^ (i + 1)))), (8, .int (nI (i + 1)))]) [2, 3, 4, 5, 6, 7, 1, 0] rfl ?_
                  exact ih60  (i + 1) (by omega) (by omega)
            refine J_sub (loc' := [(0, .ref (a 0)), (1, .int (nI v.toNatClampNeg)), (2, .int (nI m.toNatClampNeg)), (3, .int (nI t.toNatClampNeg)), (4, .int k), (5, .int p), (6, .long (lN (10 ^ 0))), (8, .int 0)]) [2, 3, 4, 5, 6, 7, 1, 0] rfl ?_
            refine J_seti (y := nI 0) (loc' := [(0, .ref (a 0)), (1, .int (nI v.toNatClampNeg)), (2, .int (nI m.toNatClampNeg)), (3, .int (nI t.toNatClampNeg)), (4, .int k), (5, .int p), (6, .long (lN (10 ^ 0))), (8, .int (nI 0))]) 7 rfl rfl rfl ?_
            exact key60 _ 0 (Nat.lt_succ_self _) (by omega)
          · skip
            refine J_ldc2 hX dX7_change_50 wm_26_0 ?_
            exact J_lret hX hZ dX7_change_53 ⟨by rw [x_change]; (first | rw [if_pos h7] | rw [if_neg h7] | skip); (first | rw [if_pos h17] | rw [if_neg h17] | skip); (first | rw [if_pos h27] | rw [if_neg h27] | skip); (first | rw [if_pos h37] | rw [if_neg h37] | skip); (first | rw [if_pos h47] | rw [if_neg h47] | skip), rfl, fun _ _ _ => rfl⟩
