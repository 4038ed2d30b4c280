set_option maxHeartbeats 4000000 in
set_option maxRecDepth 10000 in
theorem c_X8_netOf (l : Launch) (D : va_G) (a : Nat → Nat) (g : Nat → ClassId) (M : jM) (L : jL) (t : Nat)  : jK l D a g yX8_netOf cX8_netOf 4 (some .int) 0 0 [.ref (a 77), .int (nI t)] M L (some (.int (x_dT (M 92) t))) M L := by
  refine jMeth (by decide) (Nat.le_of_ble_eq_true rfl) ?_
  intro G hX hZ
  refine J_cg (loc' := [(0, .ref (a 77)), (1, .int (nI t))]) rfl rfl rfl rfl ?_
  refine J_iconst (v := 0) hX dX8_netOf_0 (by decide) ?_
  refine J_istore_n (loc' := [(2, .int 0), (0, .ref (a 77)), (1, .int (nI t))]) hX dX8_netOf_1 (by decide) rfl ?_
  refine J_iconst (v := 0) hX dX8_netOf_2 (by decide) ?_
  refine J_istore_n (loc' := [(3, .int 0), (2, .int 0), (0, .ref (a 77)), (1, .int (nI t))]) hX dX8_netOf_3 (by decide) rfl ?_
  have key4 : ∀ (fu4 : Nat) (j : Nat), 6 - j < fu4 → (j ≤ 6) → J l D a g G 4 M L 4 [(0, .ref (a 77)), (1, .int (nI t)), (2, .int (jSum (fun i => if (nI t >>> (nI i &&& 31)) &&& 1 = 1 then M 92 i else 0) 0 j)), (3, .int (nI j))] [] := by
    intro fu4
    induction fu4 with
    | zero => intro j hmu; exact absurd hmu (Nat.not_lt_zero _)
    | succ fu4 ih4 =>
      intro j hmu4 hj
      refine J_iload_n hX 3 dX8_netOf_4 rfl ?_
      refine J_bipush (v := 6) hX dX8_netOf_5 (by decide) ?_
      refine J_cmpN_ge hX 38 j 6 dX8_netOf_7 (by decide) rfl rfl (by omega) (by omega) (fun h7 => ?_) (fun h7 => ?_)
      · skip
        refine J_iload_n hX 2 dX8_netOf_38 rfl ?_
        exact J_ret hX hZ dX8_netOf_39 rfl rfl ⟨by rw [show j = 6 by omega]; rfl, rfl, rfl⟩
      · skip
        refine J_iload_n hX 2 dX8_netOf_10 rfl ?_
        refine J_iload_n hX 1 dX8_netOf_11 rfl ?_
        refine J_iload_n hX 3 dX8_netOf_12 rfl ?_
        refine J_ishr hX dX8_netOf_13 ?_
        refine J_iconst (v := 1) hX dX8_netOf_14 (by decide) ?_
        refine J_iand hX dX8_netOf_15 ?_
        refine J_iconst (v := 1) hX dX8_netOf_16 (by decide) ?_
        refine J_icmp_ne hX 29 dX8_netOf_17 (by decide) (fun h17 => ?_) (fun h17 => ?_)
        · skip
          refine J_iconst (v := 0) hX dX8_netOf_29 (by decide) ?_
          refine J_topi (y := if (nI t >>> (nI j &&& 31)) &&& 1 = 1 then M 92 j else 0) (by (first | rw [if_neg h17] | rw [if_pos h17] | rw [if_pos (Classical.not_not.mp h17)])) ?_
          refine J_iadd hX dX8_netOf_30 ?_
          refine J_istore_n (loc' := [(2, .int ((jSum (fun i => if (nI t >>> (nI i &&& 31)) &&& 1 = 1 then M 92 i else 0) 0 j) + (if (nI t >>> (nI j &&& 31)) &&& 1 = 1 then M 92 j else 0))), (0, .ref (a 77)), (1, .int (nI t)), (3, .int (nI j))]) hX dX8_netOf_31 (by decide) rfl ?_
          refine J_iinc (v := nI (j + 1)) (loc' := [(3, .int (nI (j + 1))), (2, .int ((jSum (fun i => if (nI t >>> (nI i &&& 31)) &&& 1 = 1 then M 92 i else 0) 0 j) + (if (nI t >>> (nI j &&& 31)) &&& 1 = 1 then M 92 j else 0))), (0, .ref (a 77)), (1, .int (nI t))]) hX 3 dX8_netOf_32 rfl (jinc j) (by decide) rfl ?_
          refine J_goto hX 4 dX8_netOf_35 (by decide) ?_
          refine J_sub (loc' := [(0, .ref (a 77)), (1, .int (nI t)), (2, .int ((jSum (fun i => if (nI t >>> (nI i &&& 31)) &&& 1 = 1 then M 92 i else 0) 0 j) + (if (nI t >>> (nI j &&& 31)) &&& 1 = 1 then M 92 j else 0))), (3, .int (nI (j + 1)))]) [2, 3, 1, 0] rfl ?_
          refine J_seti (y := jSum (fun i => if (nI t >>> (nI i &&& 31)) &&& 1 = 1 then M 92 i else 0) 0 (j + 1)) (loc' := [(0, .ref (a 77)), (1, .int (nI t)), (2, .int (jSum (fun i => if (nI t >>> (nI i &&& 31)) &&& 1 = 1 then M 92 i else 0) 0 (j + 1))), (3, .int (nI (j + 1)))]) 2 rfl rfl rfl ?_
          exact ih4  (j + 1) (by omega) (by omega)
        · skip
          refine J_aload_n hX 0 dX8_netOf_20 rfl ?_
          refine J_getr hX 77 24 dX8_netOf_21 jc_77 rfl rfl (by decide) inlX8 wm_5_9 ?_
          refine J_iload_n hX 3 dX8_netOf_24 rfl ?_
          refine J_iald hX 92 j dX8_netOf_25 jc_92 rfl (by omega) (by omega) ?_
          refine J_goto hX 30 dX8_netOf_26 (by decide) ?_
          refine J_topi (y := if (nI t >>> (nI j &&& 31)) &&& 1 = 1 then M 92 j else 0) (by (first | rw [if_neg h17] | rw [if_pos h17] | rw [if_pos (Classical.not_not.mp h17)])) ?_
          refine J_iadd hX dX8_netOf_30 ?_
          refine J_istore_n (loc' := [(2, .int ((jSum (fun i => if (nI t >>> (nI i &&& 31)) &&& 1 = 1 then M 92 i else 0) 0 j) + (if (nI t >>> (nI j &&& 31)) &&& 1 = 1 then M 92 j else 0))), (0, .ref (a 77)), (1, .int (nI t)), (3, .int (nI j))]) hX dX8_netOf_31 (by decide) rfl ?_
          refine J_iinc (v := nI (j + 1)) (loc' := [(3, .int (nI (j + 1))), (2, .int ((jSum (fun i => if (nI t >>> (nI i &&& 31)) &&& 1 = 1 then M 92 i else 0) 0 j) + (if (nI t >>> (nI j &&& 31)) &&& 1 = 1 then M 92 j else 0))), (0, .ref (a 77)), (1, .int (nI t))]) hX 3 dX8_netOf_32 rfl (jinc j) (by decide) rfl ?_
          refine J_goto hX 4 dX8_netOf_35 (by decide) ?_
          refine J_sub (loc' := [(0, .ref (a 77)), (1, .int (nI t)), (2, .int ((jSum (fun i => if (nI t >>> (nI i &&& 31)) &&& 1 = 1 then M 92 i else 0) 0 j) + (if (nI t >>> (nI j &&& 31)) &&& 1 = 1 then M 92 j else 0))), (3, .int (nI (j + 1)))]) [2, 3, 1, 0] rfl ?_
          refine J_seti (y := jSum (fun i => if (nI t >>> (nI i &&& 31)) &&& 1 = 1 then M 92 i else 0) 0 (j + 1)) (loc' := [(0, .ref (a 77)), (1, .int (nI t)), (2, .int (jSum (fun i => if (nI t >>> (nI i &&& 31)) &&& 1 = 1 then M 92 i else 0) 0 (j + 1))), (3, .int (nI (j + 1)))]) 2 rfl rfl rfl ?_
          exact ih4  (j + 1) (by omega) (by omega)
  refine J_sub (loc' := [(0, .ref (a 77)), (1, .int (nI t)), (2, .int 0), (3, .int 0)]) [2, 3, 1, 0] rfl ?_
  refine J_seti (y := jSum (fun i => if (nI t >>> (nI i &&& 31)) &&& 1 = 1 then M 92 i else 0) 0 0) (loc' := [(0, .ref (a 77)), (1, .int (nI t)), (2, .int (jSum (fun i => if (nI t >>> (nI i &&& 31)) &&& 1 = 1 then M 92 i else 0) 0 0)), (3, .int 0)]) 2 rfl rfl rfl ?_
  refine J_seti (y := nI 0) (loc' := [(0, .ref (a 77)), (1, .int (nI t)), (2, .int (jSum (fun i => if (nI t >>> (nI i &&& 31)) &&& 1 = 1 then M 92 i else 0) 0 0)), (3, .int (nI 0))]) 3 rfl rfl rfl ?_
  exact key4 _ 0 (Nat.lt_succ_self _) (by omega)
def m_is (T : Nat → Int32) (t o : Nat) : Int32 := if nI o &&& (nI t ^^^ (-1)) = 0 then (if T o ≤ 0 then -6 else if T (t - o) ≤ 0 then -6 else T o + T (t - o)) else -6
def m_me (T : Nat → Int32) (b : Int32) (t : Nat) : Nat → Int32
  | 0 => b
  | k + 1 => if m_is T t (k + 1) ≤ m_me T b t k then m_me T b t k else m_is T t (k + 1)
theorem m_sub : ∀ t, t < 64 → ∀ o, o < 64 → nI o &&& (nI t ^^^ (-1)) = 0 → nI t &&& (nI o ^^^ (-1)) = nI (t - o) ∧ o ≤ t := by decide +kernel
theorem m_me_cg {T U : Nat → Int32} {b : Int32} {t : Nat} (ht : t < 64) (h : ∀ j, 1 ≤ j → j < t → T j = U j) : ∀ i, i < t → m_me T b t i = m_me U b t i := by
  intro i
  induction i with
  | zero => intro _; rfl
  | succ i ih =>
    intro hi
    have e := ih (by omega)
    have q : m_is T t (i + 1) = m_is U t (i + 1) := by
      unfold m_is
      by_cases c : nI (i + 1) &&& (nI t ^^^ (-1)) = 0
      · rw [if_pos c, if_pos c, h (i + 1) (by omega) hi, h (t - (i + 1)) (by omega) (by omega)]
      · rw [if_neg c, if_neg c]
    rw [m_me, m_me, e, q]
set_option maxHeartbeats 4000000 in
set_option maxRecDepth 10000 in
theorem c_X8_mostEven (l : Launch) (D : va_G) (a : Nat → Nat) (g : Nat → ClassId) (M : jM) (L : jL) (t : Nat) (t1 : 1 ≤ t) (ht : t < 64)  : jK l D a g yX8_mostEven cX8_mostEven 6 (some .int) 1 23 [.ref (a 77), .int (nI t)] M L (some (.int (m_me (M 93) (if x_dT (M 92) t = 0 then 1 else -6) t (t - 1)))) M L := by
  refine jMeth (by decide) (Nat.le_of_ble_eq_true rfl) ?_
  intro G hX hZ
  refine J_cg (loc' := [(0, .ref (a 77)), (1, .int (nI t))]) rfl rfl rfl rfl ?_
  refine J_aload_n hX 0 dX8_mostEven_0 rfl ?_
  refine J_iload_n hX 1 dX8_mostEven_1 rfl ?_
  refine J_callV hX 77 [.int (nI t)] [] dX8_mostEven_2 (c_X8_netOf l D a g M L t) lk_X8_243 jc_77 rfl rfl rfl (Nat.le_of_ble_eq_true rfl) (Nat.le_of_ble_eq_true rfl) (Nat.le_of_ble_eq_true rfl) (J_eq (st := [.int (x_dT (M 92) t)]) rfl ?_)
  refine J_if_ne hX 12 dX8_mostEven_5 (by decide) (fun h5 => ?_) (fun h5 => ?_)
  · skip
    refine J_bipush (v := (-6)) hX dX8_mostEven_12 (by decide) ?_
    refine J_topi (y := if x_dT (M 92) t = 0 then 1 else -6) (by (first | rw [if_neg h5] | rw [if_pos h5] | rw [if_pos (Classical.not_not.mp h5)])) ?_
    refine J_istore_n (loc' := [(2, .int (if x_dT (M 92) t = 0 then 1 else -6)), (0, .ref (a 77)), (1, .int (nI t))]) hX dX8_mostEven_14 (by decide) rfl ?_
    refine J_iconst (v := 1) hX dX8_mostEven_15 (by decide) ?_
    refine J_istore_n (loc' := [(3, .int 1), (2, .int (if x_dT (M 92) t = 0 then 1 else -6)), (0, .ref (a 77)), (1, .int (nI t))]) hX dX8_mostEven_16 (by decide) rfl ?_
    have key17 : ∀ (fu17 : Nat) (k : Nat), t - k < fu17 → (k + 1 ≤ t) → J l D a g G 6 M L 17 [(0, .ref (a 77)), (1, .int (nI t)), (2, .int (m_me (M 93) (if x_dT (M 92) t = 0 then 1 else -6) t k)), (3, .int (nI (k + 1)))] [] := by
      intro fu17
      induction fu17 with
      | zero => intro k hmu; exact absurd hmu (Nat.not_lt_zero _)
      | succ fu17 ih17 =>
        intro k hmu17 hk
        refine J_iload_n hX 3 dX8_mostEven_17 rfl ?_
        refine J_iload_n hX 1 dX8_mostEven_18 rfl ?_
        refine J_cmpN_ge hX 107 (k + 1) t dX8_mostEven_19 (by decide) rfl rfl (by omega) (by omega) (fun h19 => ?_) (fun h19 => ?_)
        · skip
          refine J_iload_n hX 2 dX8_mostEven_107 rfl ?_
          exact J_ret hX hZ dX8_mostEven_108 rfl rfl ⟨by rw [show k = t - 1 by omega], rfl, rfl⟩
        · skip
          refine J_iload_n hX 3 dX8_mostEven_22 rfl ?_
          refine J_iload_n hX 1 dX8_mostEven_23 rfl ?_
          refine J_iconst (v := (-1)) hX dX8_mostEven_24 (by decide) ?_
          refine J_ixor hX dX8_mostEven_25 ?_
          refine J_iand hX dX8_mostEven_26 ?_
          refine J_if_ne hX 56 dX8_mostEven_27 (by decide) (fun h27 => ?_) (fun h27 => ?_)
          · skip
            refine J_iconst (v := 0) hX dX8_mostEven_56 (by decide) ?_
            refine J_istore (loc' := [(4, .int 0), (0, .ref (a 77)), (1, .int (nI t)), (2, .int (m_me (M 93) (if x_dT (M 92) t = 0 then 1 else -6) t k)), (3, .int (nI (k + 1)))]) hX dX8_mostEven_57 (by decide) rfl ?_
            refine J_iload hX 0 dX8_mostEven_59 rfl ?_
            refine J_if_eq hX 84 dX8_mostEven_61 (by decide) (fun h61 => ?_) (fun h61 => absurd h61 (by decide))
            refine J_bipush (v := (-6)) hX dX8_mostEven_84 (by decide) ?_
            refine J_topi (y := m_is (M 93) t (k + 1)) (by unfold m_is; (first | rw [if_pos h27] | rw [if_neg h27] | rw [if_pos (Classical.not_not.mp h27)] | skip)) ?_
            refine J_istore (loc' := [(5, .int (m_is (M 93) t (k + 1))), (4, .int 0), (0, .ref (a 77)), (1, .int (nI t)), (2, .int (m_me (M 93) (if x_dT (M 92) t = 0 then 1 else -6) t k)), (3, .int (nI (k + 1)))]) hX dX8_mostEven_86 (by decide) rfl ?_
            refine J_iload hX 0 dX8_mostEven_88 rfl ?_
            refine J_iload_n hX 4 dX8_mostEven_90 rfl ?_
            refine J_icmp_le hX 99 dX8_mostEven_91 (by decide) (fun h91 => ?_) (fun h91 => ?_)
            · skip
              refine J_iload_n hX 4 dX8_mostEven_99 rfl ?_
              refine J_topi (y := m_me (M 93) (if x_dT (M 92) t = 0 then 1 else -6) t (k + 1)) (by rw [m_me]; (first | rw [if_pos h91] | rw [if_neg h91])) ?_
              refine J_istore_n (loc' := [(2, .int (m_me (M 93) (if x_dT (M 92) t = 0 then 1 else -6) t (k + 1))), (5, .int (m_is (M 93) t (k + 1))), (4, .int 0), (0, .ref (a 77)), (1, .int (nI t)), (3, .int (nI (k + 1)))]) hX dX8_mostEven_100 (by decide) rfl ?_
              refine J_iinc (v := nI (k + 1 + 1)) (loc' := [(3, .int (nI (k + 1 + 1))), (2, .int (m_me (M 93) (if x_dT (M 92) t = 0 then 1 else -6) t (k + 1))), (5, .int (m_is (M 93) t (k + 1))), (4, .int 0), (0, .ref (a 77)), (1, .int (nI t))]) hX 5 dX8_mostEven_101 rfl (jinc (k + 1)) (by decide) rfl ?_
              refine J_goto hX 17 dX8_mostEven_104 (by decide) ?_
              refine J_sub (loc' := [(0, .ref (a 77)), (1, .int (nI t)), (2, .int (m_me (M 93) (if x_dT (M 92) t = 0 then 1 else -6) t (k + 1))), (3, .int (nI (k + 1 + 1)))]) [4, 5, 1, 0] rfl ?_
              refine J_seti (y := nI ((k + 1) + 1)) (loc' := [(0, .ref (a 77)), (1, .int (nI t)), (2, .int (m_me (M 93) (if x_dT (M 92) t = 0 then 1 else -6) t (k + 1))), (3, .int (nI ((k + 1) + 1)))]) 3 rfl rfl rfl ?_
              exact ih17  (k + 1) (by omega) (by omega)
            · skip
              refine J_iload hX 0 dX8_mostEven_94 rfl ?_
              refine J_goto hX 100 dX8_mostEven_96 (by decide) ?_
              refine J_topi (y := m_me (M 93) (if x_dT (M 92) t = 0 then 1 else -6) t (k + 1)) (by rw [m_me]; (first | rw [if_pos h91] | rw [if_neg h91])) ?_
              refine J_istore_n (loc' := [(2, .int (m_me (M 93) (if x_dT (M 92) t = 0 then 1 else -6) t (k + 1))), (5, .int (m_is (M 93) t (k + 1))), (4, .int 0), (0, .ref (a 77)), (1, .int (nI t)), (3, .int (nI (k + 1)))]) hX dX8_mostEven_100 (by decide) rfl ?_
              refine J_iinc (v := nI (k + 1 + 1)) (loc' := [(3, .int (nI (k + 1 + 1))), (2, .int (m_me (M 93) (if x_dT (M 92) t = 0 then 1 else -6) t (k + 1))), (5, .int (m_is (M 93) t (k + 1))), (4, .int 0), (0, .ref (a 77)), (1, .int (nI t))]) hX 5 dX8_mostEven_101 rfl (jinc (k + 1)) (by decide) rfl ?_
              refine J_goto hX 17 dX8_mostEven_104 (by decide) ?_
              refine J_sub (loc' := [(0, .ref (a 77)), (1, .int (nI t)), (2, .int (m_me (M 93) (if x_dT (M 92) t = 0 then 1 else -6) t (k + 1))), (3, .int (nI (k + 1 + 1)))]) [4, 5, 1, 0] rfl ?_
              refine J_seti (y := nI ((k + 1) + 1)) (loc' := [(0, .ref (a 77)), (1, .int (nI t)), (2, .int (m_me (M 93) (if x_dT (M 92) t = 0 then 1 else -6) t (k + 1))), (3, .int (nI ((k + 1) + 1)))]) 3 rfl rfl rfl ?_
              exact ih17  (k + 1) (by omega) (by omega)
          · skip
            have sb := m_sub t ht (k + 1) (by omega) (by first | exact h27 | exact Classical.not_not.mp h27)
            refine J_aload_n hX 0 dX8_mostEven_30 rfl ?_
            refine J_getr hX 77 25 dX8_mostEven_31 jc_77 rfl rfl (by decide) inlX8 wm_5_10 ?_
            refine J_iload_n hX 3 dX8_mostEven_34 rfl ?_
            refine J_iald hX 93 (k + 1) dX8_mostEven_35 jc_93 rfl (by omega) (by omega) ?_
            refine J_if_le hX 56 dX8_mostEven_36 (by decide) (fun h36 => ?_) (fun h36 => ?_)
            · skip
              refine J_iconst (v := 0) hX dX8_mostEven_56 (by decide) ?_
              refine J_istore (loc' := [(4, .int 0), (0, .ref (a 77)), (1, .int (nI t)), (2, .int (m_me (M 93) (if x_dT (M 92) t = 0 then 1 else -6) t k)), (3, .int (nI (k + 1)))]) hX dX8_mostEven_57 (by decide) rfl ?_
              refine J_iload hX 0 dX8_mostEven_59 rfl ?_
              refine J_if_eq hX 84 dX8_mostEven_61 (by decide) (fun h61 => ?_) (fun h61 => absurd h61 (by decide))
              refine J_bipush (v := (-6)) hX dX8_mostEven_84 (by decide) ?_
              refine J_topi (y := m_is (M 93) t (k + 1)) (by unfold m_is; (first | rw [if_pos h27] | rw [if_neg h27] | rw [if_pos (Classical.not_not.mp h27)] | skip); (first | rw [if_pos h36] | rw [if_neg h36] | rw [if_pos (Classical.not_not.mp h36)] | skip)) ?_
              refine J_istore (loc' := [(5, .int (m_is (M 93) t (k + 1))), (4, .int 0), (0, .ref (a 77)), (1, .int (nI t)), (2, .int (m_me (M 93) (if x_dT (M 92) t = 0 then 1 else -6) t k)), (3, .int (nI (k + 1)))]) hX dX8_mostEven_86 (by decide) rfl ?_
              refine J_iload hX 0 dX8_mostEven_88 rfl ?_
              refine J_iload_n hX 4 dX8_mostEven_90 rfl ?_
              refine J_icmp_le hX 99 dX8_mostEven_91 (by decide) (fun h91 => ?_) (fun h91 => ?_)
              · skip
                refine J_iload_n hX 4 dX8_mostEven_99 rfl ?_
                refine J_topi (y := m_me (M 93) (if x_dT (M 92) t = 0 then 1 else -6) t (k + 1)) (by rw [m_me]; (first | rw [if_pos h91] | rw [if_neg h91])) ?_
                refine J_istore_n (loc' := [(2, .int (m_me (M 93) (if x_dT (M 92) t = 0 then 1 else -6) t (k + 1))), (5, .int (m_is (M 93) t (k + 1))), (4, .int 0), (0, .ref (a 77)), (1, .int (nI t)), (3, .int (nI (k + 1)))]) hX dX8_mostEven_100 (by decide) rfl ?_
                refine J_iinc (v := nI (k + 1 + 1)) (loc' := [(3, .int (nI (k + 1 + 1))), (2, .int (m_me (M 93) (if x_dT (M 92) t = 0 then 1 else -6) t (k + 1))), (5, .int (m_is (M 93) t (k + 1))), (4, .int 0), (0, .ref (a 77)), (1, .int (nI t))]) hX 5 dX8_mostEven_101 rfl (jinc (k + 1)) (by decide) rfl ?_
                refine J_goto hX 17 dX8_mostEven_104 (by decide) ?_
                refine J_sub (loc' := [(0, .ref (a 77)), (1, .int (nI t)), (2, .int (m_me (M 93) (if x_dT (M 92) t = 0 then 1 else -6) t (k + 1))), (3, .int (nI (k + 1 + 1)))]) [4, 5, 1, 0] rfl ?_
                refine J_seti (y := nI ((k + 1) + 1)) (loc' := [(0, .ref (a 77)), (1, .int (nI t)), (2, .int (m_me (M 93) (if x_dT (M 92) t = 0 then 1 else -6) t (k + 1))), (3, .int (nI ((k + 1) + 1)))]) 3 rfl rfl rfl ?_
                exact ih17  (k + 1) (by omega) (by omega)
              · skip
                refine J_iload hX 0 dX8_mostEven_94 rfl ?_
                refine J_goto hX 100 dX8_mostEven_96 (by decide) ?_
                refine J_topi (y := m_me (M 93) (if x_dT (M 92) t = 0 then 1 else -6) t (k + 1)) (by rw [m_me]; (first | rw [if_pos h91] | rw [if_neg h91])) ?_
                refine J_istore_n (loc' := [(2, .int (m_me (M 93) (if x_dT (M 92) t = 0 then 1 else -6) t (k + 1))), (5, .int (m_is (M 93) t (k + 1))), (4, .int 0), (0, .ref (a 77)), (1, .int (nI t)), (3, .int (nI (k + 1)))]) hX dX8_mostEven_100 (by decide) rfl ?_
                refine J_iinc (v := nI (k + 1 + 1)) (loc' := [(3, .int (nI (k + 1 + 1))), (2, .int (m_me (M 93) (if x_dT (M 92) t = 0 then 1 else -6) t (k + 1))), (5, .int (m_is (M 93) t (k + 1))), (4, .int 0), (0, .ref (a 77)), (1, .int (nI t))]) hX 5 dX8_mostEven_101 rfl (jinc (k + 1)) (by decide) rfl ?_
                refine J_goto hX 17 dX8_mostEven_104 (by decide) ?_
                refine J_sub (loc' := [(0, .ref (a 77)), (1, .int (nI t)), (2, .int (m_me (M 93) (if x_dT (M 92) t = 0 then 1 else -6) t (k + 1))), (3, .int (nI (k + 1 + 1)))]) [4, 5, 1, 0] rfl ?_
                refine J_seti (y := nI ((k + 1) + 1)) (loc' := [(0, .ref (a 77)), (1, .int (nI t)), (2, .int (m_me (M 93) (if x_dT (M 92) t = 0 then 1 else -6) t (k + 1))), (3, .int (nI ((k + 1) + 1)))]) 3 rfl rfl rfl ?_
                exact ih17  (k + 1) (by omega) (by omega)
            · skip
              refine J_aload_n hX 0 dX8_mostEven_39 rfl ?_
              refine J_getr hX 77 25 dX8_mostEven_40 jc_77 rfl rfl (by decide) inlX8 wm_5_10 ?_
              refine J_iload_n hX 1 dX8_mostEven_43 rfl ?_
              refine J_iload_n hX 3 dX8_mostEven_44 rfl ?_
              refine J_iconst (v := (-1)) hX dX8_mostEven_45 (by decide) ?_
              refine J_ixor hX dX8_mostEven_46 ?_
              refine J_iand hX dX8_mostEven_47 ?_
              refine J_iald hX 93 (t - (k + 1)) dX8_mostEven_48 jc_93 sb.1 (by omega) (by omega) ?_
              refine J_if_le hX 56 dX8_mostEven_49 (by decide) (fun h49 => ?_) (fun h49 => ?_)
              · skip
                refine J_iconst (v := 0) hX dX8_mostEven_56 (by decide) ?_
                refine J_istore (loc' := [(4, .int 0), (0, .ref (a 77)), (1, .int (nI t)), (2, .int (m_me (M 93) (if x_dT (M 92) t = 0 then 1 else -6) t k)), (3, .int (nI (k + 1)))]) hX dX8_mostEven_57 (by decide) rfl ?_
                refine J_iload hX 0 dX8_mostEven_59 rfl ?_
                refine J_if_eq hX 84 dX8_mostEven_61 (by decide) (fun h61 => ?_) (fun h61 => absurd h61 (by decide))
                refine J_bipush (v := (-6)) hX dX8_mostEven_84 (by decide) ?_
                refine J_topi (y := m_is (M 93) t (k + 1)) (by unfold m_is; (first | rw [if_pos h27] | rw [if_neg h27] | rw [if_pos (Classical.not_not.mp h27)] | skip); (first | rw [if_pos h36] | rw [if_neg h36] | rw [if_pos (Classical.not_not.mp h36)] | skip); (first | rw [if_pos h49] | rw [if_neg h49] | rw [if_pos (Classical.not_not.mp h49)] | skip)) ?_
                refine J_istore (loc' := [(5, .int (m_is (M 93) t (k + 1))), (4, .int 0), (0, .ref (a 77)), (1, .int (nI t)), (2, .int (m_me (M 93) (if x_dT (M 92) t = 0 then 1 else -6) t k)), (3, .int (nI (k + 1)))]) hX dX8_mostEven_86 (by decide) rfl ?_
                refine J_iload hX 0 dX8_mostEven_88 rfl ?_
                refine J_iload_n hX 4 dX8_mostEven_90 rfl ?_
                refine J_icmp_le hX 99 dX8_mostEven_91 (by decide) (fun h91 => ?_) (fun h91 => ?_)
                · skip
                  refine J_iload_n hX 4 dX8_mostEven_99 rfl ?_
                  refine J_topi (y := m_me (M 93) (if x_dT (M 92) t = 0 then 1 else -6) t (k + 1)) (by rw [m_me]; (first | rw [if_pos h91] | rw [if_neg h91])) ?_
                  refine J_istore_n (loc' := [(2, .int (m_me (M 93) (if x_dT (M 92) t = 0 then 1 else -6) t (k + 1))), (5, .int (m_is (M 93) t (k + 1))), (4, .int 0), (0, .ref (a 77)), (1, .int (nI t)), (3, .int (nI (k + 1)))]) hX dX8_mostEven_100 (by decide) rfl ?_
                  refine J_iinc (v := nI (k + 1 + 1)) (loc' := [(3, .int (nI (k + 1 + 1))), (2, .int (m_me (M 93) (if x_dT (M 92) t = 0 then 1 else -6) t (k + 1))), (5, .int (m_is (M 93) t (k + 1))), (4, .int 0), (0, .ref (a 77)), (1, .int (nI t))]) hX 5 dX8_mostEven_101 rfl (jinc (k + 1)) (by decide) rfl ?_
                  refine J_goto hX 17 dX8_mostEven_104 (by decide) ?_
                  refine J_sub (loc' := [(0, .ref (a 77)), (1, .int (nI t)), (2, .int (m_me (M 93) (if x_dT (M 92) t = 0 then 1 else -6) t (k + 1))), (3, .int (nI (k + 1 + 1)))]) [4, 5, 1, 0] rfl ?_
                  refine J_seti (y := nI ((k + 1) + 1)) (loc' := [(0, .ref (a 77)), (1, .int (nI t)), (2, .int (m_me (M 93) (if x_dT (M 92) t = 0 then 1 else -6) t (k + 1))), (3, .int (nI ((k + 1) + 1)))]) 3 rfl rfl rfl ?_
                  exact ih17  (k + 1) (by omega) (by omega)
                · skip
                  refine J_iload hX 0 dX8_mostEven_94 rfl ?_
                  refine J_goto hX 100 dX8_mostEven_96 (by decide) ?_
                  refine J_topi (y := m_me (M 93) (if x_dT (M 92) t = 0 then 1 else -6) t (k + 1)) (by rw [m_me]; (first | rw [if_pos h91] | rw [if_neg h91])) ?_
                  refine J_istore_n (loc' := [(2, .int (m_me (M 93) (if x_dT (M 92) t = 0 then 1 else -6) t (k + 1))), (5, .int (m_is (M 93) t (k + 1))), (4, .int 0), (0, .ref (a 77)), (1, .int (nI t)), (3, .int (nI (k + 1)))]) hX dX8_mostEven_100 (by decide) rfl ?_
                  refine J_iinc (v := nI (k + 1 + 1)) (loc' := [(3, .int (nI (k + 1 + 1))), (2, .int (m_me (M 93) (if x_dT (M 92) t = 0 then 1 else -6) t (k + 1))), (5, .int (m_is (M 93) t (k + 1))), (4, .int 0), (0, .ref (a 77)), (1, .int (nI t))]) hX 5 dX8_mostEven_101 rfl (jinc (k + 1)) (by decide) rfl ?_
                  refine J_goto hX 17 dX8_mostEven_104 (by decide) ?_
                  refine J_sub (loc' := [(0, .ref (a 77)), (1, .int (nI t)), (2, .int (m_me (M 93) (if x_dT (M 92) t = 0 then 1 else -6) t (k + 1))), (3, .int (nI (k + 1 + 1)))]) [4, 5, 1, 0] rfl ?_
                  refine J_seti (y := nI ((k + 1) + 1)) (loc' := [(0, .ref (a 77)), (1, .int (nI t)), (2, .int (m_me (M 93) (if x_dT (M 92) t = 0 then 1 else -6) t (k + 1))), (3, .int (nI ((k + 1) + 1)))]) 3 rfl rfl rfl ?_
                  exact ih17  (k + 1) (by omega) (by omega)
              · skip
                refine J_iconst (v := 1) hX dX8_mostEven_52 (by decide) ?_
                refine J_goto hX 57 dX8_mostEven_53 (by decide) ?_
                refine J_istore (loc' := [(4, .int 1), (0, .ref (a 77)), (1, .int (nI t)), (2, .int (m_me (M 93) (if x_dT (M 92) t = 0 then 1 else -6) t k)), (3, .int (nI (k + 1)))]) hX dX8_mostEven_57 (by decide) rfl ?_
                refine J_iload hX 0 dX8_mostEven_59 rfl ?_
                refine J_if_eq hX 84 dX8_mostEven_61 (by decide) (fun h61 => absurd h61 (by decide)) (fun h61 => ?_)
                refine J_aload_n hX 1 dX8_mostEven_64 rfl ?_
                refine J_getr hX 77 25 dX8_mostEven_65 jc_77 rfl rfl (by decide) inlX8 wm_5_10 ?_
                refine J_iload_n hX 4 dX8_mostEven_68 rfl ?_
                refine J_iald hX 93 (k + 1) dX8_mostEven_69 jc_93 rfl (by omega) (by omega) ?_
                refine J_aload_n hX 1 dX8_mostEven_70 rfl ?_
                refine J_getr hX 77 25 dX8_mostEven_71 jc_77 rfl rfl (by decide) inlX8 wm_5_10 ?_
                refine J_iload_n hX 2 dX8_mostEven_74 rfl ?_
                refine J_iload_n hX 4 dX8_mostEven_75 rfl ?_
                refine J_iconst (v := (-1)) hX dX8_mostEven_76 (by decide) ?_
                refine J_ixor hX dX8_mostEven_77 ?_
                refine J_iand hX dX8_mostEven_78 ?_
                refine J_iald hX 93 (t - (k + 1)) dX8_mostEven_79 jc_93 sb.1 (by omega) (by omega) ?_
                refine J_iadd hX dX8_mostEven_80 ?_
                refine J_goto hX 86 dX8_mostEven_81 (by decide) ?_
                refine J_topi (y := m_is (M 93) t (k + 1)) (by unfold m_is; (first | rw [if_pos h27] | rw [if_neg h27] | rw [if_pos (Classical.not_not.mp h27)] | skip); (first | rw [if_pos h36] | rw [if_neg h36] | rw [if_pos (Classical.not_not.mp h36)] | skip); (first | rw [if_pos h49] | rw [if_neg h49] | rw [if_pos (Classical.not_not.mp h49)] | skip)) ?_
                refine J_istore (loc' := [(5, .int (m_is (M 93) t (k + 1))), (4, .int 1), (0, .ref (a 77)), (1, .int (nI t)), (2, .int (m_me (M 93) (if x_dT (M 92) t = 0 then 1 else -6) t k)), (3, .int (nI (k + 1)))]) hX dX8_mostEven_86 (by decide) rfl ?_
                refine J_iload hX 0 dX8_mostEven_88 rfl ?_
                refine J_iload_n hX 4 dX8_mostEven_90 rfl ?_
                refine J_icmp_le hX 99 dX8_mostEven_91 (by decide) (fun h91 => ?_) (fun h91 => ?_)
                · skip
                  refine J_iload_n hX 4 dX8_mostEven_99 rfl ?_
                  refine J_topi (y := m_me (M 93) (if x_dT (M 92) t = 0 then 1 else -6) t (k + 1)) (by rw [m_me]; (first | rw [if_pos h91] | rw [if_neg h91])) ?_
                  refine J_istore_n (loc' := [(2, .int (m_me (M 93) (if x_dT (M 92) t = 0 then 1 else -6) t (k + 1))), (5, .int (m_is (M 93) t (k + 1))), (4, .int 1), (0, .ref (a 77)), (1, .int (nI t)), (3, .int (nI (k + 1)))]) hX dX8_mostEven_100 (by decide) rfl ?_
                  refine J_iinc (v := nI (k + 1 + 1)) (loc' := [(3, .int (nI (k + 1 + 1))), (2, .int (m_me (M 93) (if x_dT (M 92) t = 0 then 1 else -6) t (k + 1))), (5, .int (m_is (M 93) t (k + 1))), (4, .int 1), (0, .ref (a 77)), (1, .int (nI t))]) hX 5 dX8_mostEven_101 rfl (jinc (k + 1)) (by decide) rfl ?_
                  refine J_goto hX 17 dX8_mostEven_104 (by decide) ?_
                  refine J_sub (loc' := [(0, .ref (a 77)), (1, .int (nI t)), (2, .int (m_me (M 93) (if x_dT (M 92) t = 0 then 1 else -6) t (k + 1))), (3, .int (nI (k + 1 + 1)))]) [4, 5, 1, 0] rfl ?_
                  refine J_seti (y := nI ((k + 1) + 1)) (loc' := [(0, .ref (a 77)), (1, .int (nI t)), (2, .int (m_me (M 93) (if x_dT (M 92) t = 0 then 1 else -6) t (k + 1))), (3, .int (nI ((k + 1) + 1)))]) 3 rfl rfl rfl ?_
                  exact ih17  (k + 1) (by omega) (by omega)
                · skip
                  refine J_iload hX 0 dX8_mostEven_94 rfl ?_
                  refine J_goto hX 100 dX8_mostEven_96 (by decide) ?_
                  refine J_topi (y := m_me (M 93) (if x_dT (M 92) t = 0 then 1 else -6) t (k + 1)) (by rw [m_me]; (first | rw [if_pos h91] | rw [if_neg h91])) ?_
                  refine J_istore_n (loc' := [(2, .int (m_me (M 93) (if x_dT (M 92) t = 0 then 1 else -6) t (k + 1))), (5, .int (m_is (M 93) t (k + 1))), (4, .int 1), (0, .ref (a 77)), (1, .int (nI t)), (3, .int (nI (k + 1)))]) hX dX8_mostEven_100 (by decide) rfl ?_
                  refine J_iinc (v := nI (k + 1 + 1)) (loc' := [(3, .int (nI (k + 1 + 1))), (2, .int (m_me (M 93) (if x_dT (M 92) t = 0 then 1 else -6) t (k + 1))), (5, .int (m_is (M 93) t (k + 1))), (4, .int 1), (0, .ref (a 77)), (1, .int (nI t))]) hX 5 dX8_mostEven_101 rfl (jinc (k + 1)) (by decide) rfl ?_
                  refine J_goto hX 17 dX8_mostEven_104 (by decide) ?_
                  refine J_sub (loc' := [(0, .ref (a 77)), (1, .int (nI t)), (2, .int (m_me (M 93) (if x_dT (M 92) t = 0 then 1 else -6) t (k + 1))), (3, .int (nI (k + 1 + 1)))]) [4, 5, 1, 0] rfl ?_
                  refine J_seti (y := nI ((k + 1) + 1)) (loc' := [(0, .ref (a 77)), (1, .int (nI t)), (2, .int (m_me (M 93) (if x_dT (M 92) t = 0 then 1 else -6) t (k + 1))), (3, .int (nI ((k + 1) + 1)))]) 3 rfl rfl rfl ?_
                  exact ih17  (k + 1) (by omega) (by omega)
    refine J_sub (loc' := [(0, .ref (a 77)), (1, .int (nI t)), (2, .int (if x_dT (M 92) t = 0 then 1 else -6)), (3, .int 1)]) [2, 3, 1, 0] rfl ?_
    refine J_seti (y := m_me (M 93) (if x_dT (M 92) t = 0 then 1 else -6) t 0) (loc' := [(0, .ref (a 77)), (1, .int (nI t)), (2, .int (m_me (M 93) (if x_dT (M 92) t = 0 then 1 else -6) t 0)), (3, .int 1)]) 2 rfl rfl rfl ?_
    refine J_seti (y := nI (0 + 1)) (loc' := [(0, .ref (a 77)), (1, .int (nI t)), (2, .int (m_me (M 93) (if x_dT (M 92) t = 0 then 1 else -6) t 0)), (3, .int (nI (0 + 1)))]) 3 rfl rfl rfl ?_
    exact key17 _ 0 (Nat.lt_succ_self _) (by omega)
  · skip
    refine J_iconst (v := 1) hX dX8_mostEven_8 (by decide) ?_
    refine J_goto hX 14 dX8_mostEven_9 (by decide) ?_
    refine J_topi (y := if x_dT (M 92) t = 0 then 1 else -6) (by (first | rw [if_neg h5] | rw [if_pos h5] | rw [if_pos (Classical.not_not.mp h5)])) ?_
    refine J_istore_n (loc' := [(2, .int (if x_dT (M 92) t = 0 then 1 else -6)), (0, .ref (a 77)), (1, .int (nI t))]) hX dX8_mostEven_14 (by decide) rfl ?_
    refine J_iconst (v := 1) hX dX8_mostEven_15 (by decide) ?_
    refine J_istore_n (loc' := [(3, .int 1), (2, .int (if x_dT (M 92) t = 0 then 1 else -6)), (0, .ref (a 77)), (1, .int (nI t))]) hX dX8_mostEven_16 (by decide) rfl ?_
    have key17 : ∀ (fu17 : Nat) (k : Nat), t - k < fu17 → (k + 1 ≤ t) → J l D a g G 6 M L 17 [(0, .ref (a 77)), (1, .int (nI t)), (2, .int (m_me (M 93) (if x_dT (M 92) t = 0 then 1 else -6) t k)), (3, .int (nI (k + 1)))] [] := by
      intro fu17
      induction fu17 with
      | zero => intro k hmu; exact absurd hmu (Nat.not_lt_zero _)
      | succ fu17 ih17 =>
        intro k hmu17 hk
        refine J_iload_n hX 3 dX8_mostEven_17 rfl ?_
        refine J_iload_n hX 1 dX8_mostEven_18 rfl ?_
        refine J_cmpN_ge hX 107 (k + 1) t dX8_mostEven_19 (by decide) rfl rfl (by omega) (by omega) (fun h19 => ?_) (fun h19 => ?_)
        · skip
          refine J_iload_n hX 2 dX8_mostEven_107 rfl ?_
          exact J_ret hX hZ dX8_mostEven_108 rfl rfl ⟨by rw [show k = t - 1 by omega], rfl, rfl⟩
        · skip
          refine J_iload_n hX 3 dX8_mostEven_22 rfl ?_
          refine J_iload_n hX 1 dX8_mostEven_23 rfl ?_
          refine J_iconst (v := (-1)) hX dX8_mostEven_24 (by decide) ?_
          refine J_ixor hX dX8_mostEven_25 ?_
          refine J_iand hX dX8_mostEven_26 ?_
          refine J_if_ne hX 56 dX8_mostEven_27 (by decide) (fun h27 => ?_) (fun h27 => ?_)
          · skip
            refine J_iconst (v := 0) hX dX8_mostEven_56 (by decide) ?_
            refine J_istore (loc' := [(4, .int 0), (0, .ref (a 77)), (1, .int (nI t)), (2, .int (m_me (M 93) (if x_dT (M 92) t = 0 then 1 else -6) t k)), (3, .int (nI (k + 1)))]) hX dX8_mostEven_57 (by decide) rfl ?_
            refine J_iload hX 0 dX8_mostEven_59 rfl ?_
            refine J_if_eq hX 84 dX8_mostEven_61 (by decide) (fun h61 => ?_) (fun h61 => absurd h61 (by decide))
            refine J_bipush (v := (-6)) hX dX8_mostEven_84 (by decide) ?_
            refine J_topi (y := m_is (M 93) t (k + 1)) (by unfold m_is; (first | rw [if_pos h27] | rw [if_neg h27] | rw [if_pos (Classical.not_not.mp h27)] | skip)) ?_
            refine J_istore (loc' := [(5, .int (m_is (M 93) t (k + 1))), (4, .int 0), (0, .ref (a 77)), (1, .int (nI t)), (2, .int (m_me (M 93) (if x_dT (M 92) t = 0 then 1 else -6) t k)), (3, .int (nI (k + 1)))]) hX dX8_mostEven_86 (by decide) rfl ?_
            refine J_iload hX 0 dX8_mostEven_88 rfl ?_
            refine J_iload_n hX 4 dX8_mostEven_90 rfl ?_
            refine J_icmp_le hX 99 dX8_mostEven_91 (by decide) (fun h91 => ?_) (fun h91 => ?_)
            · skip
              refine J_iload_n hX 4 dX8_mostEven_99 rfl ?_
              refine J_topi (y := m_me (M 93) (if x_dT (M 92) t = 0 then 1 else -6) t (k + 1)) (by rw [m_me]; (first | rw [if_pos h91] | rw [if_neg h91])) ?_
              refine J_istore_n (loc' := [(2, .int (m_me (M 93) (if x_dT (M 92) t = 0 then 1 else -6) t (k + 1))), (5, .int (m_is (M 93) t (k + 1))), (4, .int 0), (0, .ref (a 77)), (1, .int (nI t)), (3, .int (nI (k + 1)))]) hX dX8_mostEven_100 (by decide) rfl ?_
              refine J_iinc (v := nI (k + 1 + 1)) (loc' := [(3, .int (nI (k + 1 + 1))), (2, .int (m_me (M 93) (if x_dT (M 92) t = 0 then 1 else -6) t (k + 1))), (5, .int (m_is (M 93) t (k + 1))), (4, .int 0), (0, .ref (a 77)), (1, .int (nI t))]) hX 5 dX8_mostEven_101 rfl (jinc (k + 1)) (by decide) rfl ?_
              refine J_goto hX 17 dX8_mostEven_104 (by decide) ?_
              refine J_sub (loc' := [(0, .ref (a 77)), (1, .int (nI t)), (2, .int (m_me (M 93) (if x_dT (M 92) t = 0 then 1 else -6) t (k + 1))), (3, .int (nI (k + 1 + 1)))]) [4, 5, 1, 0] rfl ?_
              refine J_seti (y := nI ((k + 1) + 1)) (loc' := [(0, .ref (a 77)), (1, .int (nI t)), (2, .int (m_me (M 93) (if x_dT (M 92) t = 0 then 1 else -6) t (k + 1))), (3, .int (nI ((k + 1) + 1)))]) 3 rfl rfl rfl ?_
              exact ih17  (k + 1) (by omega) (by omega)
            · skip
              refine J_iload hX 0 dX8_mostEven_94 rfl ?_
              refine J_goto hX 100 dX8_mostEven_96 (by decide) ?_
              refine J_topi (y := m_me (M 93) (if x_dT (M 92) t = 0 then 1 else -6) t (k + 1)) (by rw [m_me]; (first | rw [if_pos h91] | rw [if_neg h91])) ?_
              refine J_istore_n (loc' := [(2, .int (m_me (M 93) (if x_dT (M 92) t = 0 then 1 else -6) t (k + 1))), (5, .int (m_is (M 93) t (k + 1))), (4, .int 0), (0, .ref (a 77)), (1, .int (nI t)), (3, .int (nI (k + 1)))]) hX dX8_mostEven_100 (by decide) rfl ?_
              refine J_iinc (v := nI (k + 1 + 1)) (loc' := [(3, .int (nI (k + 1 + 1))), (2, .int (m_me (M 93) (if x_dT (M 92) t = 0 then 1 else -6) t (k + 1))), (5, .int (m_is (M 93) t (k + 1))), (4, .int 0), (0, .ref (a 77)), (1, .int (nI t))]) hX 5 dX8_mostEven_101 rfl (jinc (k + 1)) (by decide) rfl ?_
              refine J_goto hX 17 dX8_mostEven_104 (by decide) ?_
              refine J_sub (loc' := [(0, .ref (a 77)), (1, .int (nI t)), (2, .int (m_me (M 93) (if x_dT (M 92) t = 0 then 1 else -6) t (k + 1))), (3, .int (nI (k + 1 + 1)))]) [4, 5, 1, 0] rfl ?_
              refine J_seti (y := nI ((k + 1) + 1)) (loc' := [(0, .ref (a 77)), (1, .int (nI t)), (2, .int (m_me (M 93) (if x_dT (M 92) t = 0 then 1 else -6) t (k + 1))), (3, .int (nI ((k + 1) + 1)))]) 3 rfl rfl rfl ?_
              exact ih17  (k + 1) (by omega) (by omega)
          · skip
            have sb := m_sub t ht (k + 1) (by omega) (by first | exact h27 | exact Classical.not_not.mp h27)
            refine J_aload_n hX 0 dX8_mostEven_30 rfl ?_
            refine J_getr hX 77 25 dX8_mostEven_31 jc_77 rfl rfl (by decide) inlX8 wm_5_10 ?_
            refine J_iload_n hX 3 dX8_mostEven_34 rfl ?_
            refine J_iald hX 93 (k + 1) dX8_mostEven_35 jc_93 rfl (by omega) (by omega) ?_
            refine J_if_le hX 56 dX8_mostEven_36 (by decide) (fun h36 => ?_) (fun h36 => ?_)
            · skip
              refine J_iconst (v := 0) hX dX8_mostEven_56 (by decide) ?_
              refine J_istore (loc' := [(4, .int 0), (0, .ref (a 77)), (1, .int (nI t)), (2, .int (m_me (M 93) (if x_dT (M 92) t = 0 then 1 else -6) t k)), (3, .int (nI (k + 1)))]) hX dX8_mostEven_57 (by decide) rfl ?_
              refine J_iload hX 0 dX8_mostEven_59 rfl ?_
              refine J_if_eq hX 84 dX8_mostEven_61 (by decide) (fun h61 => ?_) (fun h61 => absurd h61 (by decide))
              refine J_bipush (v := (-6)) hX dX8_mostEven_84 (by decide) ?_
              refine J_topi (y := m_is (M 93) t (k + 1)) (by unfold m_is; (first | rw [if_pos h27] | rw [if_neg h27] | rw [if_pos (Classical.not_not.mp h27)] | skip); (first | rw [if_pos h36] | rw [if_neg h36] | rw [if_pos (Classical.not_not.mp h36)] | skip)) ?_
              refine J_istore (loc' := [(5, .int (m_is (M 93) t (k + 1))), (4, .int 0), (0, .ref (a 77)), (1, .int (nI t)), (2, .int (m_me (M 93) (if x_dT (M 92) t = 0 then 1 else -6) t k)), (3, .int (nI (k + 1)))]) hX dX8_mostEven_86 (by decide) rfl ?_
              refine J_iload hX 0 dX8_mostEven_88 rfl ?_
              refine J_iload_n hX 4 dX8_mostEven_90 rfl ?_
              refine J_icmp_le hX 99 dX8_mostEven_91 (by decide) (fun h91 => ?_) (fun h91 => ?_)
              · skip
                refine J_iload_n hX 4 dX8_mostEven_99 rfl ?_
                refine J_topi (y := m_me (M 93) (if x_dT (M 92) t = 0 then 1 else -6) t (k + 1)) (by rw [m_me]; (first | rw [if_pos h91] | rw [if_neg h91])) ?_
                refine J_istore_n (loc' := [(2, .int (m_me (M 93) (if x_dT (M 92) t = 0 then 1 else -6) t (k + 1))), (5, .int (m_is (M 93) t (k + 1))), (4, .int 0), (0, .ref (a 77)), (1, .int (nI t)), (3, .int (nI (k + 1)))]) hX dX8_mostEven_100 (by decide) rfl ?_
                refine J_iinc (v := nI (k + 1 + 1)) (loc' := [(3, .int (nI (k + 1 + 1))), (2, .int (m_me (M 93) (if x_dT (M 92) t = 0 then 1 else -6) t (k + 1))), (5, .int (m_is (M 93) t (k + 1))), (4, .int 0), (0, .ref (a 77)), (1, .int (nI t))]) hX 5 dX8_mostEven_101 rfl (jinc (k + 1)) (by decide) rfl ?_
                refine J_goto hX 17 dX8_mostEven_104 (by decide) ?_
                refine J_sub (loc' := [(0, .ref (a 77)), (1, .int (nI t)), (2, .int (m_me (M 93) (if x_dT (M 92) t = 0 then 1 else -6) t (k + 1))), (3, .int (nI (k + 1 + 1)))]) [4, 5, 1, 0] rfl ?_
                refine J_seti (y := nI ((k + 1) + 1)) (loc' := [(0, .ref (a 77)), (1, .int (nI t)), (2, .int (m_me (M 93) (if x_dT (M 92) t = 0 then 1 else -6) t (k + 1))), (3, .int (nI ((k + 1) + 1)))]) 3 rfl rfl rfl ?_
                exact ih17  (k + 1) (by omega) (by omega)
              · skip
                refine J_iload hX 0 dX8_mostEven_94 rfl ?_
                refine J_goto hX 100 dX8_mostEven_96 (by decide) ?_
                refine J_topi (y := m_me (M 93) (if x_dT (M 92) t = 0 then 1 else -6) t (k + 1)) (by rw [m_me]; (first | rw [if_pos h91] | rw [if_neg h91])) ?_
                refine J_istore_n (loc' := [(2, .int (m_me (M 93) (if x_dT (M 92) t = 0 then 1 else -6) t (k + 1))), (5, .int (m_is (M 93) t (k + 1))), (4, .int 0), (0, .ref (a 77)), (1, .int (nI t)), (3, .int (nI (k + 1)))]) hX dX8_mostEven_100 (by decide) rfl ?_
                refine J_iinc (v := nI (k + 1 + 1)) (loc' := [(3, .int (nI (k + 1 + 1))), (2, .int (m_me (M 93) (if x_dT (M 92) t = 0 then 1 else -6) t (k + 1))), (5, .int (m_is (M 93) t (k + 1))), (4, .int 0), (0, .ref (a 77)), (1, .int (nI t))]) hX 5 dX8_mostEven_101 rfl (jinc (k + 1)) (by decide) rfl ?_
                refine J_goto hX 17 dX8_mostEven_104 (by decide) ?_
                refine J_sub (loc' := [(0, .ref (a 77)), (1, .int (nI t)), (2, .int (m_me (M 93) (if x_dT (M 92) t = 0 then 1 else -6) t (k + 1))), (3, .int (nI (k + 1 + 1)))]) [4, 5, 1, 0] rfl ?_
                refine J_seti (y := nI ((k + 1) + 1)) (loc' := [(0, .ref (a 77)), (1, .int (nI t)), (2, .int (m_me (M 93) (if x_dT (M 92) t = 0 then 1 else -6) t (k + 1))), (3, .int (nI ((k + 1) + 1)))]) 3 rfl rfl rfl ?_
                exact ih17  (k + 1) (by omega) (by omega)
            · skip
              refine J_aload_n hX 0 dX8_mostEven_39 rfl ?_
              refine J_getr hX 77 25 dX8_mostEven_40 jc_77 rfl rfl (by decide) inlX8 wm_5_10 ?_
              refine J_iload_n hX 1 dX8_mostEven_43 rfl ?_
              refine J_iload_n hX 3 dX8_mostEven_44 rfl ?_
              refine J_iconst (v := (-1)) hX dX8_mostEven_45 (by decide) ?_
              refine J_ixor hX dX8_mostEven_46 ?_
              refine J_iand hX dX8_mostEven_47 ?_
              refine J_iald hX 93 (t - (k + 1)) dX8_mostEven_48 jc_93 sb.1 (by omega) (by omega) ?_
              refine J_if_le hX 56 dX8_mostEven_49 (by decide) (fun h49 => ?_) (fun h49 => ?_)
              · skip
                refine J_iconst (v := 0) hX dX8_mostEven_56 (by decide) ?_
                refine J_istore (loc' := [(4, .int 0), (0, .ref (a 77)), (1, .int (nI t)), (2, .int (m_me (M 93) (if x_dT (M 92) t = 0 then 1 else -6) t k)), (3, .int (nI (k + 1)))]) hX dX8_mostEven_57 (by decide) rfl ?_
                refine J_iload hX 0 dX8_mostEven_59 rfl ?_
                refine J_if_eq hX 84 dX8_mostEven_61 (by decide) (fun h61 => ?_) (fun h61 => absurd h61 (by decide))
                refine J_bipush (v := (-6)) hX dX8_mostEven_84 (by decide) ?_
                refine J_topi (y := m_is (M 93) t (k + 1)) (by unfold m_is; (first | rw [if_pos h27] | rw [if_neg h27] | rw [if_pos (Classical.not_not.mp h27)] | skip); (first | rw [if_pos h36] | rw [if_neg h36] | rw [if_pos (Classical.not_not.mp h36)] | skip); (first | rw [if_pos h49] | rw [if_neg h49] | rw [if_pos (Classical.not_not.mp h49)] | skip)) ?_
                refine J_istore (loc' := [(5, .int (m_is (M 93) t (k + 1))), (4, .int 0), (0, .ref (a 77)), (1, .int (nI t)), (2, .int (m_me (M 93) (if x_dT (M 92) t = 0 then 1 else -6) t k)), (3, .int (nI (k + 1)))]) hX dX8_mostEven_86 (by decide) rfl ?_
                refine J_iload hX 0 dX8_mostEven_88 rfl ?_
                refine J_iload_n hX 4 dX8_mostEven_90 rfl ?_
                refine J_icmp_le hX 99 dX8_mostEven_91 (by decide) (fun h91 => ?_) (fun h91 => ?_)
                · skip
                  refine J_iload_n hX 4 dX8_mostEven_99 rfl ?_
                  refine J_topi (y := m_me (M 93) (if x_dT (M 92) t = 0 then 1 else -6) t (k + 1)) (by rw [m_me]; (first | rw [if_pos h91] | rw [if_neg h91])) ?_
                  refine J_istore_n (loc' := [(2, .int (m_me (M 93) (if x_dT (M 92) t = 0 then 1 else -6) t (k + 1))), (5, .int (m_is (M 93) t (k + 1))), (4, .int 0), (0, .ref (a 77)), (1, .int (nI t)), (3, .int (nI (k + 1)))]) hX dX8_mostEven_100 (by decide) rfl ?_
                  refine J_iinc (v := nI (k + 1 + 1)) (loc' := [(3, .int (nI (k + 1 + 1))), (2, .int (m_me (M 93) (if x_dT (M 92) t = 0 then 1 else -6) t (k + 1))), (5, .int (m_is (M 93) t (k + 1))), (4, .int 0), (0, .ref (a 77)), (1, .int (nI t))]) hX 5 dX8_mostEven_101 rfl (jinc (k + 1)) (by decide) rfl ?_
                  refine J_goto hX 17 dX8_mostEven_104 (by decide) ?_
                  refine J_sub (loc' := [(0, .ref (a 77)), (1, .int (nI t)), (2, .int (m_me (M 93) (if x_dT (M 92) t = 0 then 1 else -6) t (k + 1))), (3, .int (nI (k + 1 + 1)))]) [4, 5, 1, 0] rfl ?_
                  refine J_seti (y := nI ((k + 1) + 1)) (loc' := [(0, .ref (a 77)), (1, .int (nI t)), (2, .int (m_me (M 93) (if x_dT (M 92) t = 0 then 1 else -6) t (k + 1))), (3, .int (nI ((k + 1) + 1)))]) 3 rfl rfl rfl ?_
                  exact ih17  (k + 1) (by omega) (by omega)
                · skip
                  refine J_iload hX 0 dX8_mostEven_94 rfl ?_
                  refine J_goto hX 100 dX8_mostEven_96 (by decide) ?_
                  refine J_topi (y := m_me (M 93) (if x_dT (M 92) t = 0 then 1 else -6) t (k + 1)) (by rw [m_me]; (first | rw [if_pos h91] | rw [if_neg h91])) ?_
                  refine J_istore_n (loc' := [(2, .int (m_me (M 93) (if x_dT (M 92) t = 0 then 1 else -6) t (k + 1))), (5, .int (m_is (M 93) t (k + 1))), (4, .int 0), (0, .ref (a 77)), (1, .int (nI t)), (3, .int (nI (k + 1)))]) hX dX8_mostEven_100 (by decide) rfl ?_
                  refine J_iinc (v := nI (k + 1 + 1)) (loc' := [(3, .int (nI (k + 1 + 1))), (2, .int (m_me (M 93) (if x_dT (M 92) t = 0 then 1 else -6) t (k + 1))), (5, .int (m_is (M 93) t (k + 1))), (4, .int 0), (0, .ref (a 77)), (1, .int (nI t))]) hX 5 dX8_mostEven_101 rfl (jinc (k + 1)) (by decide) rfl ?_
                  refine J_goto hX 17 dX8_mostEven_104 (by decide) ?_
                  refine J_sub (loc' := [(0, .ref (a 77)), (1, .int (nI t)), (2, .int (m_me (M 93) (if x_dT (M 92) t = 0 then 1 else -6) t (k + 1))), (3, .int (nI (k + 1 + 1)))]) [4, 5, 1, 0] rfl ?_
                  refine J_seti (y := nI ((k + 1) + 1)) (loc' := [(0, .ref (a 77)), (1, .int (nI t)), (2, .int (m_me (M 93) (if x_dT (M 92) t = 0 then 1 else -6) t (k + 1))), (3, .int (nI ((k + 1) + 1)))]) 3 rfl rfl rfl ?_
                  exact ih17  (k + 1) (by omega) (by omega)
              · skip
                refine J_iconst (v := 1) hX dX8_mostEven_52 (by decide) ?_
                refine J_goto hX 57 dX8_mostEven_53 (by decide) ?_
                refine J_istore (loc' := [(4, .int 1), (0, .ref (a 77)), (1, .int (nI t)), (2, .int (m_me (M 93) (if x_dT (M 92) t = 0 then 1 else -6) t k)), (3, .int (nI (k + 1)))]) hX dX8_mostEven_57 (by decide) rfl ?_
                refine J_iload hX 0 dX8_mostEven_59 rfl ?_
                refine J_if_eq hX 84 dX8_mostEven_61 (by decide) (fun h61 => absurd h61 (by decide)) (fun h61 => ?_)
                refine J_aload_n hX 1 dX8_mostEven_64 rfl ?_
                refine J_getr hX 77 25 dX8_mostEven_65 jc_77 rfl rfl (by decide) inlX8 wm_5_10 ?_
                refine J_iload_n hX 4 dX8_mostEven_68 rfl ?_
                refine J_iald hX 93 (k + 1) dX8_mostEven_69 jc_93 rfl (by omega) (by omega) ?_
                refine J_aload_n hX 1 dX8_mostEven_70 rfl ?_
                refine J_getr hX 77 25 dX8_mostEven_71 jc_77 rfl rfl (by decide) inlX8 wm_5_10 ?_
                refine J_iload_n hX 2 dX8_mostEven_74 rfl ?_
                refine J_iload_n hX 4 dX8_mostEven_75 rfl ?_
                refine J_iconst (v := (-1)) hX dX8_mostEven_76 (by decide) ?_
                refine J_ixor hX dX8_mostEven_77 ?_
                refine J_iand hX dX8_mostEven_78 ?_
                refine J_iald hX 93 (t - (k + 1)) dX8_mostEven_79 jc_93 sb.1 (by omega) (by omega) ?_
                refine J_iadd hX dX8_mostEven_80 ?_
                refine J_goto hX 86 dX8_mostEven_81 (by decide) ?_
                refine J_topi (y := m_is (M 93) t (k + 1)) (by unfold m_is; (first | rw [if_pos h27] | rw [if_neg h27] | rw [if_pos (Classical.not_not.mp h27)] | skip); (first | rw [if_pos h36] | rw [if_neg h36] | rw [if_pos (Classical.not_not.mp h36)] | skip); (first | rw [if_pos h49] | rw [if_neg h49] | rw [if_pos (Classical.not_not.mp h49)] | skip)) ?_
                refine J_istore (loc' := [(5, .int (m_is (M 93) t (k + 1))), (4, .int 1), (0, .ref (a 77)), (1, .int (nI t)), (2, .int (m_me (M 93) (if x_dT (M 92) t = 0 then 1 else -6) t k)), (3, .int (nI (k + 1)))]) hX dX8_mostEven_86 (by decide) rfl ?_
                refine J_iload hX 0 dX8_mostEven_88 rfl ?_
                refine J_iload_n hX 4 dX8_mostEven_90 rfl ?_
                refine J_icmp_le hX 99 dX8_mostEven_91 (by decide) (fun h91 => ?_) (fun h91 => ?_)
                · skip
                  refine J_iload_n hX 4 dX8_mostEven_99 rfl ?_
                  refine J_topi (y := m_me (M 93) (if x_dT (M 92) t = 0 then 1 else -6) t (k + 1)) (by rw [m_me]; (first | rw [if_pos h91] | rw [if_neg h91])) ?_
                  refine J_istore_n (loc' := [(2, .int (m_me (M 93) (if x_dT (M 92) t = 0 then 1 else -6) t (k + 1))), (5, .int (m_is (M 93) t (k + 1))), (4, .int 1), (0, .ref (a 77)), (1, .int (nI t)), (3, .int (nI (k + 1)))]) hX dX8_mostEven_100 (by decide) rfl ?_
                  refine J_iinc (v := nI (k + 1 + 1)) (loc' := [(3, .int (nI (k + 1 + 1))), (2, .int (m_me (M 93) (if x_dT (M 92) t = 0 then 1 else -6) t (k + 1))), (5, .int (m_is (M 93) t (k + 1))), (4, .int 1), (0, .ref (a 77)), (1, .int (nI t))]) hX 5 dX8_mostEven_101 rfl (jinc (k + 1)) (by decide) rfl ?_
                  refine J_goto hX 17 dX8_mostEven_104 (by decide) ?_
                  refine J_sub (loc' := [(0, .ref (a 77)), (1, .int (nI t)), (2, .int (m_me (M 93) (if x_dT (M 92) t = 0 then 1 else -6) t (k + 1))), (3, .int (nI (k + 1 + 1)))]) [4, 5, 1, 0] rfl ?_
                  refine J_seti (y := nI ((k + 1) + 1)) (loc' := [(0, .ref (a 77)), (1, .int (nI t)), (2, .int (m_me (M 93) (if x_dT (M 92) t = 0 then 1 else -6) t (k + 1))), (3, .int (nI ((k + 1) + 1)))]) 3 rfl rfl rfl ?_
                  exact ih17  (k + 1) (by omega) (by omega)
                · skip
                  refine J_iload hX 0 dX8_mostEven_94 rfl ?_
                  refine J_goto hX 100 dX8_mostEven_96 (by decide) ?_
                  refine J_topi (y := m_me (M 93) (if x_dT (M 92) t = 0 then 1 else -6) t (k + 1)) (by rw [m_me]; (first | rw [if_pos h91] | rw [if_neg h91])) ?_
                  refine J_istore_n (loc' := [(2, .int (m_me (M 93) (if x_dT (M 92) t = 0 then 1 else -6) t (k + 1))), (5, .int (m_is (M 93) t (k + 1))), (4, .int 1), (0, .ref (a 77)), (1, .int (nI t)), (3, .int (nI (k + 1)))]) hX dX8_mostEven_100 (by decide) rfl ?_
                  refine J_iinc (v := nI (k + 1 + 1)) (loc' := [(3, .int (nI (k + 1 + 1))), (2, .int (m_me (M 93) (if x_dT (M 92) t = 0 then 1 else -6) t (k + 1))), (5, .int (m_is (M 93) t (k + 1))), (4, .int 1), (0, .ref (a 77)), (1, .int (nI t))]) hX 5 dX8_mostEven_101 rfl (jinc (k + 1)) (by decide) rfl ?_
                  refine J_goto hX 17 dX8_mostEven_104 (by decide) ?_
                  refine J_sub (loc' := [(0, .ref (a 77)), (1, .int (nI t)), (2, .int (m_me (M 93) (if x_dT (M 92) t = 0 then 1 else -6) t (k + 1))), (3, .int (nI (k + 1 + 1)))]) [4, 5, 1, 0] rfl ?_
                  refine J_seti (y := nI ((k + 1) + 1)) (loc' := [(0, .ref (a 77)), (1, .int (nI t)), (2, .int (m_me (M 93) (if x_dT (M 92) t = 0 then 1 else -6) t (k + 1))), (3, .int (nI ((k + 1) + 1)))]) 3 rfl rfl rfl ?_
                  exact ih17  (k + 1) (by omega) (by omega)
    refine J_sub (loc' := [(0, .ref (a 77)), (1, .int (nI t)), (2, .int (if x_dT (M 92) t = 0 then 1 else -6)), (3, .int 1)]) [2, 3, 1, 0] rfl ?_
    refine J_seti (y := m_me (M 93) (if x_dT (M 92) t = 0 then 1 else -6) t 0) (loc' := [(0, .ref (a 77)), (1, .int (nI t)), (2, .int (m_me (M 93) (if x_dT (M 92) t = 0 then 1 else -6) t 0)), (3, .int 1)]) 2 rfl rfl rfl ?_
    refine J_seti (y := nI (0 + 1)) (loc' := [(0, .ref (a 77)), (1, .int (nI t)), (2, .int (m_me (M 93) (if x_dT (M 92) t = 0 then 1 else -6) t 0)), (3, .int (nI (0 + 1)))]) 3 rfl rfl rfl ?_
    exact key17 _ 0 (Nat.lt_succ_self _) (by omega)
def m_net (M : jM) (i : Nat) : Int32 := jSum (fun e => M 80 (6 * e + i)) (-(m_owes M i)) 6
def m_tb (d : Nat → Int32) : Nat → Nat → Int32
  | 0 => fun _ => 0
  | k + 1 => fun j => if j = k then m_me (m_tb d k) (if x_dT d k = 0 then 1 else -6) k (k - 1) else m_tb d k j
theorem m_tb_new {d : Nat → Int32} {k : Nat} : m_tb d (k + 1) k = m_me (m_tb d k) (if x_dT d k = 0 then 1 else -6) k (k - 1) := by
  show (if k = k then _ else _) = _
  rw [if_pos rfl]
theorem m_tb_old {d : Nat → Int32} {k j : Nat} (h : j ≠ k) : m_tb d (k + 1) j = m_tb d k j := by
  show (if j = k then _ else _) = _
  rw [if_neg h]
def m_struck (M : jM) (k : Int32) : Int32 := if (0 ≤ k.toInt ∧ k.toInt ≤ 1) then (if k = 1 then jSum (x_posF (m_net M)) 0 6 else 6 - m_tb (m_net M) 64 63) else -2
def m_frs (M M' : jM) : Prop := ∀ c, c ≠ 92 → c ≠ 93 → M' c = M c
theorem m_frs.u2 {M M' : jM} {i : Nat} {v : Int32} (h : m_frs M M') : m_frs M (jU M' 92 i v) := fun c h1 h2 => by rw [jU_ne h1]; exact h c h1 h2
theorem m_frs.u3 {M M' : jM} {i : Nat} {v : Int32} (h : m_frs M M') : m_frs M (jU M' 93 i v) := fun c h1 h2 => by rw [jU_ne h2]; exact h c h1 h2
set_option maxHeartbeats 4000000 in
set_option maxRecDepth 10000 in
theorem c_X8_struck (l : Launch) (D : va_G) (a : Nat → Nat) (g : Nat → ClassId) (M : jM) (L : jL) (k : Int32)  : jV l D a g yX8_struck cX8_struck 5 (some .int) 2 48 [.ref (a 77), .int k] M L (fun rv M1 L1 => rv = some (.int (m_struck M k)) ∧ m_frs M M1 ∧ L1 = L) := by
  refine jMeth (by decide) (Nat.le_of_ble_eq_true rfl) ?_
  intro G hX hZ
  refine J_cg (loc' := [(0, .ref (a 77)), (1, .int k)]) rfl rfl rfl rfl ?_
  refine J_iload_n hX 1 dX8_struck_0 rfl ?_
  refine J_i2l hX dX8_struck_1 ?_
  refine J_lconst (v := 0) hX dX8_struck_2 (by decide) ?_
  refine J_lconst (v := 1) hX dX8_struck_3 (by decide) ?_
  refine J_callS hX [.long (Int32.toInt64 k), .long (0 : Int64), .long (1 : Int64)] [] dX8_struck_4 (c_X8_in l D a g M L k (0 : Int64) (1 : Int64)) lk_X8_80 rfl rfl (Nat.le_of_ble_eq_true rfl) (Nat.le_of_ble_eq_true rfl) (Nat.le_of_ble_eq_true rfl) (J_eq (st := [.int (jB (0 ≤ k.toInt ∧ k.toInt ≤ 1))]) rfl ?_)
  refine J_ifB_ne hX 13 dX8_struck_7 (by decide) (fun h7 => ?_) (fun h7 => ?_)
  · skip
    refine J_iconst (v := 0) hX dX8_struck_13 (by decide) ?_
    refine J_istore_n (loc' := [(2, .int 0), (0, .ref (a 77)), (1, .int k)]) hX dX8_struck_14 (by decide) rfl ?_
    refine J_iconst (v := 0) hX dX8_struck_15 (by decide) ?_
    refine J_istore_n (loc' := [(3, .int 0), (2, .int 0), (0, .ref (a 77)), (1, .int k)]) hX dX8_struck_16 (by decide) rfl ?_
    have key17 : ∀ (fu17 : Nat) (i : Nat) (M' : jM), 6 - i < fu17 → (i ≤ 6) → (∀ j, j < i → M' 92 j = m_net M j) → (m_frs M M') → J l D a g G 5 M' L 17 [(0, .ref (a 77)), (1, .int k), (2, .int (jSum (x_posF (m_net M)) 0 i)), (3, .int (nI i))] [] := by
      intro fu17
      induction fu17 with
      | zero => intro i M' hmu; exact absurd hmu (Nat.not_lt_zero _)
      | succ fu17 ih17 =>
        intro i M' hmu17 hi hd hF
        refine J_iload_n hX 3 dX8_struck_17 rfl ?_
        refine J_bipush (v := 6) hX dX8_struck_18 (by decide) ?_
        refine J_cmpN_ge hX 100 i 6 dX8_struck_20 (by decide) rfl rfl (by omega) (by omega) (fun h20 => ?_) (fun h20 => ?_)
        · skip
          refine J_iload_n hX 1 dX8_struck_100 rfl ?_
          refine J_iconst (v := 1) hX dX8_struck_101 (by decide) ?_
          refine J_icmp_ne hX 107 dX8_struck_102 (by decide) (fun h102 => ?_) (fun h102 => ?_)
          · skip
            have hd6 : ∀ j, j < 6 → M' 92 j = m_net M j := fun j hj => hd j (by omega)
            refine J_iconst (v := 1) hX dX8_struck_107 (by decide) ?_
            refine J_istore_n (loc' := [(3, .int 1), (0, .ref (a 77)), (1, .int k), (2, .int (jSum (x_posF (m_net M)) 0 i))]) hX dX8_struck_108 (by decide) rfl ?_
            have key109 : ∀ (fu109 : Nat) (t : Nat) (N3 : jM), 64 - t < fu109 → (1 ≤ t) → (t ≤ 64) → (∀ j, 1 ≤ j → j < t → N3 93 j = m_tb (m_net M) t j) → (∀ j, j < 6 → N3 92 j = m_net M j) → (m_frs M N3) → J l D a g G 5 N3 L 109 [(0, .ref (a 77)), (1, .int k), (3, .int (nI t))] [] := by
              intro fu109
              induction fu109 with
              | zero => intro t N3 hmu; exact absurd hmu (Nat.not_lt_zero _)
              | succ fu109 ih109 =>
                intro t N3 hmu109 t1 ht hT h92 hG
                refine J_iload_n hX 2 dX8_struck_109 rfl ?_
                refine J_bipush (v := 64) hX dX8_struck_110 (by decide) ?_
                refine J_cmpN_ge hX 132 t 64 dX8_struck_112 (by decide) rfl rfl (by omega) (by omega) (fun h112 => ?_) (fun h112 => ?_)
                · skip
                  refine J_bipush (v := 6) hX dX8_struck_132 (by decide) ?_
                  refine J_aload_n hX 0 dX8_struck_134 rfl ?_
                  refine J_getr hX 77 25 dX8_struck_135 jc_77 rfl rfl (by decide) inlX8 wm_5_10 ?_
                  refine J_bipush (v := 63) hX dX8_struck_138 (by decide) ?_
                  refine J_iald hX 93 63 dX8_struck_140 jc_93 rfl (by omega) (by omega) ?_
                  refine J_isub hX dX8_struck_141 ?_
                  exact J_ret hX hZ dX8_struck_142 rfl rfl ⟨by rw [m_struck, if_pos h7, if_neg h102, hT 63 (by omega) (by omega), show t = 64 by omega], hG, rfl⟩
                · skip
                  refine J_aload_n hX 0 dX8_struck_115 rfl ?_
                  refine J_getr hX 77 25 dX8_struck_116 jc_77 rfl rfl (by decide) inlX8 wm_5_10 ?_
                  refine J_iload_n hX 2 dX8_struck_119 rfl ?_
                  refine J_aload_n hX 0 dX8_struck_120 rfl ?_
                  refine J_iload_n hX 2 dX8_struck_121 rfl ?_
                  refine J_callV hX 77 [.int (nI t)] [.int (nI t), .ref (a 93)] dX8_struck_122 (c_X8_mostEven l D a g N3 L t (by omega) (by omega)) lk_X8_246 jc_77 rfl rfl rfl (Nat.le_of_ble_eq_true rfl) (Nat.le_of_ble_eq_true rfl) (Nat.le_of_ble_eq_true rfl) (J_eq (st := [.int (m_me (N3 93) (if x_dT (N3 92) t = 0 then 1 else -6) t (t - 1)), .int (nI t), .ref (a 93)]) rfl ?_)
                  refine J_topi (y := m_tb (m_net M) (t + 1) t) (by rw [m_tb_new, x_dT_cg h92, m_me_cg (by omega) (fun j h1 h2 => hT j h1 h2) (t - 1) (by omega)]) ?_
                  refine J_iast hX 93 t dX8_struck_125 jc_93 rfl (by omega) (by omega) ?_
                  refine J_iinc (v := nI (t + 1)) (loc' := [(3, .int (nI (t + 1))), (0, .ref (a 77)), (1, .int k)]) hX 2 dX8_struck_126 rfl (jinc t) (by decide) rfl ?_
                  refine J_goto hX 109 dX8_struck_129 (by decide) ?_
                  refine J_sub (loc' := [(0, .ref (a 77)), (1, .int k), (3, .int (nI (t + 1)))]) [1, 2, 0] rfl ?_
                  refine J_cg (M' := (jU N3 93 t (m_tb (m_net M) (t + 1) t))) (L' := L) rfl rfl rfl rfl ?_
                  exact ih109  (t + 1) (jU N3 93 t (m_tb (m_net M) (t + 1) t)) (by omega) (by omega) (by omega) (fun j h1 h2 => by by_cases q : j = t; (subst q; exact jU_same); (rw [jU_slot q, m_tb_old q]; exact hT j h1 (by omega))) (fun j hj => by rw [jU_cell (by decide)]; exact h92 j hj) hG.u3
            refine J_sub (loc' := [(0, .ref (a 77)), (1, .int k), (3, .int 1)]) [1, 2, 0] rfl ?_
            refine J_seti (y := nI 1) (loc' := [(0, .ref (a 77)), (1, .int k), (3, .int (nI 1))]) 2 rfl rfl rfl ?_
            exact key109 _ 1 M' (Nat.lt_succ_self _) (by omega) (by omega) (fun j h1 h2 => by omega) hd6 hF
          · skip
            refine J_iload_n hX 2 dX8_struck_105 rfl ?_
            exact J_ret hX hZ dX8_struck_106 rfl rfl ⟨by rw [m_struck, if_pos h7, if_pos (by first | exact h102 | exact Classical.not_not.mp h102), show i = 6 by omega], hF, rfl⟩
        · skip
          refine J_aload_n hX 0 dX8_struck_23 rfl ?_
          refine J_getr hX 77 24 dX8_struck_24 jc_77 rfl rfl (by decide) inlX8 wm_5_9 ?_
          refine J_iload_n hX 3 dX8_struck_27 rfl ?_
          refine J_aload_n hX 0 dX8_struck_28 rfl ?_
          refine J_iload_n hX 3 dX8_struck_29 rfl ?_
          refine J_callV hX 77 [.int (nI i)] [.int (nI i), .ref (a 92)] dX8_struck_30 (c_X8_owesInAll l D a g M' L i (by omega)) lk_X8_232 jc_77 rfl rfl rfl (Nat.le_of_ble_eq_true rfl) (Nat.le_of_ble_eq_true rfl) (Nat.le_of_ble_eq_true rfl) (J_eq (st := [.int (m_owes M' i), .int (nI i), .ref (a 92)]) rfl ?_)
          refine J_topi (y := m_owes M i) (by unfold m_owes; rw [hF 80 (by decide) (by decide)]) ?_
          refine J_ineg hX dX8_struck_33 ?_
          refine J_iast hX 92 i dX8_struck_34 jc_92 rfl (by omega) (by omega) ?_
          refine J_iconst (v := 0) hX dX8_struck_35 (by decide) ?_
          refine J_istore (loc' := [(4, .int 0), (0, .ref (a 77)), (1, .int k), (2, .int (jSum (x_posF (m_net M)) 0 i)), (3, .int (nI i))]) hX dX8_struck_36 (by decide) rfl ?_
          have key38 : ∀ (fu38 : Nat) (e : Nat) (N2 : jM), 6 - e < fu38 → (e ≤ 6) → (N2 92 i = jSum (fun e => M 80 (6 * e + i)) (-(m_owes M i)) e) → (∀ j, j < i → N2 92 j = m_net M j) → (m_frs M N2) → J l D a g G 5 N2 L 38 [(0, .ref (a 77)), (1, .int k), (2, .int (jSum (x_posF (m_net M)) 0 i)), (3, .int (nI i)), (4, .int (nI e))] [] := by
            intro fu38
            induction fu38 with
            | zero => intro e N2 hmu; exact absurd hmu (Nat.not_lt_zero _)
            | succ fu38 ih38 =>
              intro e N2 hmu38 he hv hw hH
              refine J_iload hX 4 dX8_struck_38 rfl ?_
              refine J_bipush (v := 6) hX dX8_struck_40 (by decide) ?_
              refine J_cmpN_ge hX 72 e 6 dX8_struck_42 (by decide) rfl rfl (by omega) (by omega) (fun h42 => ?_) (fun h42 => ?_)
              · skip
                have hn2 : N2 92 i = m_net M i := by rw [hv, show e = 6 by omega]; rfl
                refine J_iload_n hX 2 dX8_struck_72 rfl ?_
                refine J_aload_n hX 0 dX8_struck_73 rfl ?_
                refine J_getr hX 77 24 dX8_struck_74 jc_77 rfl rfl (by decide) inlX8 wm_5_9 ?_
                refine J_iload_n hX 3 dX8_struck_77 rfl ?_
                refine J_iald hX 92 i dX8_struck_78 jc_92 rfl (by omega) (by omega) ?_
                refine J_topi (y := m_net M i) hn2 ?_
                refine J_if_le hX 91 dX8_struck_79 (by decide) (fun h79 => ?_) (fun h79 => ?_)
                · skip
                  refine J_iconst (v := 0) hX dX8_struck_91 (by decide) ?_
                  refine J_topi (y := x_posF (m_net M) i) (by rw [x_posF, if_neg (Int32.not_lt.mpr h79)]) ?_
                  refine J_iadd hX dX8_struck_92 ?_
                  refine J_istore_n (loc' := [(2, .int ((jSum (x_posF (m_net M)) 0 i) + (x_posF (m_net M) i))), (0, .ref (a 77)), (1, .int k), (3, .int (nI i)), (4, .int (nI e))]) hX dX8_struck_93 (by decide) rfl ?_
                  refine J_iinc (v := nI (i + 1)) (loc' := [(3, .int (nI (i + 1))), (2, .int ((jSum (x_posF (m_net M)) 0 i) + (x_posF (m_net M) i))), (0, .ref (a 77)), (1, .int k), (4, .int (nI e))]) hX 3 dX8_struck_94 rfl (jinc i) (by decide) rfl ?_
                  refine J_goto hX 17 dX8_struck_97 (by decide) ?_
                  refine J_sub (loc' := [(0, .ref (a 77)), (1, .int k), (2, .int ((jSum (x_posF (m_net M)) 0 i) + (x_posF (m_net M) i))), (3, .int (nI (i + 1)))]) [2, 3, 1, 0] rfl ?_
                  refine J_seti (y := jSum (x_posF (m_net M)) 0 (i + 1)) (loc' := [(0, .ref (a 77)), (1, .int k), (2, .int (jSum (x_posF (m_net M)) 0 (i + 1))), (3, .int (nI (i + 1)))]) 2 rfl rfl rfl ?_
                  exact ih17  (i + 1) N2 (by omega) (by omega) (fun j hj => by by_cases q : j = i; (subst q; exact hn2); (exact hw j (by omega))) hH
                · skip
                  refine J_aload_n hX 0 dX8_struck_82 rfl ?_
                  refine J_getr hX 77 24 dX8_struck_83 jc_77 rfl rfl (by decide) inlX8 wm_5_9 ?_
                  refine J_iload_n hX 3 dX8_struck_86 rfl ?_
                  refine J_iald hX 92 i dX8_struck_87 jc_92 rfl (by omega) (by omega) ?_
                  refine J_goto hX 92 dX8_struck_88 (by decide) ?_
                  refine J_topi (y := x_posF (m_net M) i) (by rw [hn2, x_posF, if_pos (Int32.not_le.mp h79)]) ?_
                  refine J_iadd hX dX8_struck_92 ?_
                  refine J_istore_n (loc' := [(2, .int ((jSum (x_posF (m_net M)) 0 i) + (x_posF (m_net M) i))), (0, .ref (a 77)), (1, .int k), (3, .int (nI i)), (4, .int (nI e))]) hX dX8_struck_93 (by decide) rfl ?_
                  refine J_iinc (v := nI (i + 1)) (loc' := [(3, .int (nI (i + 1))), (2, .int ((jSum (x_posF (m_net M)) 0 i) + (x_posF (m_net M) i))), (0, .ref (a 77)), (1, .int k), (4, .int (nI e))]) hX 3 dX8_struck_94 rfl (jinc i) (by decide) rfl ?_
                  refine J_goto hX 17 dX8_struck_97 (by decide) ?_
                  refine J_sub (loc' := [(0, .ref (a 77)), (1, .int k), (2, .int ((jSum (x_posF (m_net M)) 0 i) + (x_posF (m_net M) i))), (3, .int (nI (i + 1)))]) [2, 3, 1, 0] rfl ?_
                  refine J_seti (y := jSum (x_posF (m_net M)) 0 (i + 1)) (loc' := [(0, .ref (a 77)), (1, .int k), (2, .int (jSum (x_posF (m_net M)) 0 (i + 1))), (3, .int (nI (i + 1)))]) 2 rfl rfl rfl ?_
                  exact ih17  (i + 1) N2 (by omega) (by omega) (fun j hj => by by_cases q : j = i; (subst q; exact hn2); (exact hw j (by omega))) hH
              · skip
                refine J_aload_n hX 0 dX8_struck_45 rfl ?_
                refine J_getr hX 77 24 dX8_struck_46 jc_77 rfl rfl (by decide) inlX8 wm_5_9 ?_
                refine J_iload_n hX 3 dX8_struck_49 rfl ?_
                refine J_dup2 hX dX8_struck_50 rfl rfl ?_
                refine J_iald hX 92 i dX8_struck_51 jc_92 rfl (by omega) (by omega) ?_
                refine J_topi (y := jSum (fun e => M 80 (6 * e + i)) (-(m_owes M i)) e) hv ?_
                refine J_aload_n hX 0 dX8_struck_52 rfl ?_
                refine J_getr hX 77 2 dX8_struck_53 jc_77 rfl rfl (by decide) inlX8 wm_4_21 ?_
                refine J_bipush (v := 6) hX dX8_struck_56 (by decide) ?_
                refine J_iload hX 4 dX8_struck_58 rfl ?_
                refine J_imul hX dX8_struck_60 ?_
                refine J_topi (y := nI (6 * e)) (pk_mul 6 e) ?_
                refine J_iload_n hX 3 dX8_struck_61 rfl ?_
                refine J_iadd hX dX8_struck_62 ?_
                refine J_topi (y := nI (6 * e + i)) (nI_add _ _) ?_
                refine J_iald hX 80 (6 * e + i) dX8_struck_63 jc_80 rfl (by omega) (by omega) ?_
                refine J_topi (y := M 80 (6 * e + i)) (by rw [hH 80 (by decide) (by decide)]) ?_
                refine J_iadd hX dX8_struck_64 ?_
                refine J_topi (y := jSum (fun e => M 80 (6 * e + i)) (-(m_owes M i)) (e + 1)) rfl ?_
                refine J_iast hX 92 i dX8_struck_65 jc_92 rfl (by omega) (by omega) ?_
                refine J_iinc (v := nI (e + 1)) (loc' := [(4, .int (nI (e + 1))), (0, .ref (a 77)), (1, .int k), (2, .int (jSum (x_posF (m_net M)) 0 i)), (3, .int (nI i))]) hX 4 dX8_struck_66 rfl (jinc e) (by decide) rfl ?_
                refine J_goto hX 38 dX8_struck_69 (by decide) ?_
                refine J_sub (loc' := [(0, .ref (a 77)), (1, .int k), (2, .int (jSum (x_posF (m_net M)) 0 i)), (3, .int (nI i)), (4, .int (nI (e + 1)))]) [1, 2, 3, 4, 0] rfl ?_
                refine J_cg (M' := (jU N2 92 i (jSum (fun e => M 80 (6 * e + i)) (-(m_owes M i)) (e + 1)))) (L' := L) rfl rfl rfl rfl ?_
                exact ih38  (e + 1) (jU N2 92 i (jSum (fun e => M 80 (6 * e + i)) (-(m_owes M i)) (e + 1))) (by omega) (by omega) jU_same (fun j hj => by rw [jU_slot (by omega)]; exact hw j hj) hH.u2
          refine J_sub (loc' := [(0, .ref (a 77)), (1, .int k), (2, .int (jSum (x_posF (m_net M)) 0 i)), (3, .int (nI i)), (4, .int 0)]) [1, 2, 3, 4, 0] rfl ?_
          refine J_seti (y := nI 0) (loc' := [(0, .ref (a 77)), (1, .int k), (2, .int (jSum (x_posF (m_net M)) 0 i)), (3, .int (nI i)), (4, .int (nI 0))]) 4 rfl rfl rfl ?_
          refine J_cg (M' := (jU M' 92 i (-(m_owes M i)))) (L' := L) rfl rfl rfl rfl ?_
          exact key38 _ 0 (jU M' 92 i (-(m_owes M i))) (Nat.lt_succ_self _) (by omega) jU_same (fun j hj => by rw [jU_slot (by omega)]; exact hd j hj) hF.u2
    refine J_sub (loc' := [(0, .ref (a 77)), (1, .int k), (2, .int 0), (3, .int 0)]) [2, 3, 1, 0] rfl ?_
    refine J_seti (y := jSum (x_posF (m_net M)) 0 0) (loc' := [(0, .ref (a 77)), (1, .int k), (2, .int (jSum (x_posF (m_net M)) 0 0)), (3, .int 0)]) 2 rfl rfl rfl ?_
    refine J_seti (y := nI 0) (loc' := [(0, .ref (a 77)), (1, .int k), (2, .int (jSum (x_posF (m_net M)) 0 0)), (3, .int (nI 0))]) 3 rfl rfl rfl ?_
    exact key17 _ 0 M (Nat.lt_succ_self _) (by omega) (fun c h => absurd h (Nat.not_lt_zero c)) (fun _ _ _ => rfl)
  · skip
    refine J_bipush (v := (-2)) hX dX8_struck_10 (by decide) ?_
    exact J_ret hX hZ dX8_struck_12 rfl rfl ⟨by rw [m_struck, if_neg h7], fun _ _ _ => rfl, rfl⟩
def m_prA (M : jM) (h : Nat) : Int64 := (m_notes M).toInt64 + 100 * (nI h).toInt64
def m_prF (M : jM) (v : Int32) : Nat → Int32
  | 0 => -6
  | h + 1 => if m_rateOf (m_land M) (m_prA M h) < v then m_prF M v h else nI h
def m_prints (M : jM) (v : Int32) : Int32 := if (1 ≤ v.toInt ∧ v.toInt ≤ 100) then m_prF M v 1000 else -2
set_option maxHeartbeats 4000000 in
set_option maxRecDepth 10000 in
theorem c_X8_prints (l : Launch) (D : va_G) (a : Nat → Nat) (g : Nat → ClassId) (M : jM) (L : jL) (v : Int32)  : jK l D a g yX8_prints cX8_prints 4 (some .int) 1 25 [.ref (a 77), .int v] M L (some (.int (m_prints M v))) M L := by
  refine jMeth (by decide) (Nat.le_of_ble_eq_true rfl) ?_
  intro G hX hZ
  refine J_cg (loc' := [(0, .ref (a 77)), (1, .int v)]) rfl rfl rfl rfl ?_
  refine J_iload_n hX 1 dX8_prints_0 rfl ?_
  refine J_i2l hX dX8_prints_1 ?_
  refine J_lconst (v := 1) hX dX8_prints_2 (by decide) ?_
  refine J_ldc2 hX dX8_prints_3 wm_18_6 ?_
  refine J_callS hX [.long (Int32.toInt64 v), .long (1 : Int64), .long (100 : Int64)] [] dX8_prints_6 (c_X8_in l D a g M L v (1 : Int64) (100 : Int64)) lk_X8_80 rfl rfl (Nat.le_of_ble_eq_true rfl) (Nat.le_of_ble_eq_true rfl) (Nat.le_of_ble_eq_true rfl) (J_eq (st := [.int (jB (1 ≤ v.toInt ∧ v.toInt ≤ 100))]) rfl ?_)
  refine J_ifB_ne hX 15 dX8_prints_9 (by decide) (fun h9 => ?_) (fun h9 => ?_)
  · skip
    refine J_bipush (v := (-6)) hX dX8_prints_15 (by decide) ?_
    refine J_istore_n (loc' := [(2, .int (-6)), (0, .ref (a 77)), (1, .int v)]) hX dX8_prints_17 (by decide) rfl ?_
    refine J_iconst (v := 0) hX dX8_prints_18 (by decide) ?_
    refine J_istore_n (loc' := [(3, .int 0), (2, .int (-6)), (0, .ref (a 77)), (1, .int v)]) hX dX8_prints_19 (by decide) rfl ?_
    have key20 : ∀ (fu20 : Nat) (h : Nat), 1000 - h < fu20 → (h ≤ 1000) → J l D a g G 4 M L 20 [(0, .ref (a 77)), (1, .int v), (2, .int (m_prF M v h)), (3, .int (nI h))] [] := by
      intro fu20
      induction fu20 with
      | zero => intro h hmu; exact absurd hmu (Nat.not_lt_zero _)
      | succ fu20 ih20 =>
        intro h hmu20 hh
        refine J_iload_n hX 3 dX8_prints_20 rfl ?_
        refine J_sipush (v := 999) hX dX8_prints_21 (by decide) ?_
        refine J_cmpN_gt hX 62 h 999 dX8_prints_24 (by decide) rfl rfl (by omega) (by omega) (fun h24 => ?_) (fun h24 => ?_)
        · skip
          refine J_iload_n hX 2 dX8_prints_62 rfl ?_
          exact J_ret hX hZ dX8_prints_63 rfl rfl ⟨by rw [m_prints, if_pos h9, show h = 1000 by omega], rfl, rfl⟩
        · skip
          refine J_aload_n hX 0 dX8_prints_27 rfl ?_
          refine J_callV hX 77 [] [] dX8_prints_28 (c_X8_land l D a g M L ) lk_X8_153 jc_77 rfl rfl rfl (Nat.le_of_ble_eq_true rfl) (Nat.le_of_ble_eq_true rfl) (Nat.le_of_ble_eq_true rfl) (J_eq (st := [.int (m_land M)]) rfl ?_)
          refine J_aload_n hX 0 dX8_prints_31 rfl ?_
          refine J_callV hX 77 [] [.int (m_land M)] dX8_prints_32 (c_X8_notes l D a g M L ) lk_X8_157 jc_77 rfl rfl rfl (Nat.le_of_ble_eq_true rfl) (Nat.le_of_ble_eq_true rfl) (Nat.le_of_ble_eq_true rfl) (J_eq (st := [.int (m_notes M), .int (m_land M)]) rfl ?_)
          refine J_i2l hX dX8_prints_35 ?_
          refine J_ldc2 hX dX8_prints_36 wm_18_6 ?_
          refine J_iload_n hX 3 dX8_prints_39 rfl ?_
          refine J_i2l hX dX8_prints_40 ?_
          refine J_lmul hX dX8_prints_41 ?_
          refine J_ladd hX dX8_prints_42 ?_
          refine J_topl (y := m_prA M h) rfl ?_
          refine J_callS hX [.int (m_land M), .long (m_prA M h)] [] dX8_prints_43 (c_X8_rateOf l D a g M L (m_land M) (m_prA M h)) lk_X8_160 rfl rfl (Nat.le_of_ble_eq_true rfl) (Nat.le_of_ble_eq_true rfl) (Nat.le_of_ble_eq_true rfl) (J_eq (st := [.int (m_rateOf (m_land M) (m_prA M h))]) rfl ?_)
          refine J_iload_n hX 1 dX8_prints_46 rfl ?_
          refine J_icmp_lt hX 54 dX8_prints_47 (by decide) (fun h47 => ?_) (fun h47 => ?_)
          · skip
            refine J_iload_n hX 2 dX8_prints_54 rfl ?_
            refine J_topi (y := m_prF M v (h + 1)) (by rw [m_prF]; (first | rw [if_pos h47] | rw [if_neg h47])) ?_
            refine J_istore_n (loc' := [(2, .int (m_prF M v (h + 1))), (0, .ref (a 77)), (1, .int v), (3, .int (nI h))]) hX dX8_prints_55 (by decide) rfl ?_
            refine J_iinc (v := nI (h + 1)) (loc' := [(3, .int (nI (h + 1))), (2, .int (m_prF M v (h + 1))), (0, .ref (a 77)), (1, .int v)]) hX 3 dX8_prints_56 rfl (jinc h) (by decide) rfl ?_
            refine J_goto hX 20 dX8_prints_59 (by decide) ?_
            refine J_sub (loc' := [(0, .ref (a 77)), (1, .int v), (2, .int (m_prF M v (h + 1))), (3, .int (nI (h + 1)))]) [2, 3, 1, 0] rfl ?_
            exact ih20  (h + 1) (by omega) (by omega)
          · skip
            refine J_iload_n hX 3 dX8_prints_50 rfl ?_
            refine J_goto hX 55 dX8_prints_51 (by decide) ?_
            refine J_topi (y := m_prF M v (h + 1)) (by rw [m_prF]; (first | rw [if_pos h47] | rw [if_neg h47])) ?_
            refine J_istore_n (loc' := [(2, .int (m_prF M v (h + 1))), (0, .ref (a 77)), (1, .int v), (3, .int (nI h))]) hX dX8_prints_55 (by decide) rfl ?_
            refine J_iinc (v := nI (h + 1)) (loc' := [(3, .int (nI (h + 1))), (2, .int (m_prF M v (h + 1))), (0, .ref (a 77)), (1, .int v)]) hX 3 dX8_prints_56 rfl (jinc h) (by decide) rfl ?_
            refine J_goto hX 20 dX8_prints_59 (by decide) ?_
            refine J_sub (loc' := [(0, .ref (a 77)), (1, .int v), (2, .int (m_prF M v (h + 1))), (3, .int (nI (h + 1)))]) [2, 3, 1, 0] rfl ?_
            exact ih20  (h + 1) (by omega) (by omega)
    refine J_sub (loc' := [(0, .ref (a 77)), (1, .int v), (2, .int (-6)), (3, .int 0)]) [2, 3, 1, 0] rfl ?_
    refine J_seti (y := m_prF M v 0) (loc' := [(0, .ref (a 77)), (1, .int v), (2, .int (m_prF M v 0)), (3, .int 0)]) 2 rfl rfl rfl ?_
    refine J_seti (y := nI 0) (loc' := [(0, .ref (a 77)), (1, .int v), (2, .int (m_prF M v 0)), (3, .int (nI 0))]) 3 rfl rfl rfl ?_
    exact key20 _ 0 (Nat.lt_succ_self _) (by omega)
  · skip
    refine J_bipush (v := (-2)) hX dX8_prints_12 (by decide) ?_
    exact J_ret hX hZ dX8_prints_14 rfl rfl ⟨by rw [m_prints]; (first | rw [if_pos h9] | rw [if_neg h9] | skip), rfl, rfl⟩
def m_pricesF (M : jM) (s : Int32) : Nat → Int32 := fun i => if (s >>> (nI i &&& 31)) &&& 1 = 1 then M 81 i else 0
def m_prices (M : jM) (s : Int32) : Int32 := jSum (m_pricesF M s) 0 8
set_option maxHeartbeats 4000000 in
set_option maxRecDepth 10000 in
theorem c_X8_pricesOf (l : Launch) (D : va_G) (a : Nat → Nat) (g : Nat → ClassId) (M : jM) (L : jL) (s : Int32)  : jK l D a g yX8_pricesOf cX8_pricesOf 4 (some .int) 0 0 [.ref (a 77), .int s] M L (some (.int (m_prices M s))) M L := by
  refine jMeth (by decide) (Nat.le_of_ble_eq_true rfl) ?_
  intro G hX hZ
  refine J_cg (loc' := [(0, .ref (a 77)), (1, .int s)]) rfl rfl rfl rfl ?_
  refine J_iconst (v := 0) hX dX8_pricesOf_0 (by decide) ?_
  refine J_istore_n (loc' := [(2, .int 0), (0, .ref (a 77)), (1, .int s)]) hX dX8_pricesOf_1 (by decide) rfl ?_
  refine J_iconst (v := 0) hX dX8_pricesOf_2 (by decide) ?_
  refine J_istore_n (loc' := [(3, .int 0), (2, .int 0), (0, .ref (a 77)), (1, .int s)]) hX dX8_pricesOf_3 (by decide) rfl ?_
  have key4 : ∀ (fu4 : Nat) (i : Nat), 8 - i < fu4 → (i ≤ 8) → J l D a g G 4 M L 4 [(0, .ref (a 77)), (1, .int s), (2, .int (jSum (m_pricesF M s) 0 i)), (3, .int (nI i))] [] := by
    intro fu4
    induction fu4 with
    | zero => intro i hmu; exact absurd hmu (Nat.not_lt_zero _)
    | succ fu4 ih4 =>
      intro i hmu4 hi
      refine J_iload_n hX 3 dX8_pricesOf_4 rfl ?_
      refine J_bipush (v := 8) hX dX8_pricesOf_5 (by decide) ?_
      refine J_cmpN_ge hX 38 i 8 dX8_pricesOf_7 (by decide) rfl rfl (by omega) (by omega) (fun h7 => ?_) (fun h7 => ?_)
      · skip
        refine J_iload_n hX 2 dX8_pricesOf_38 rfl ?_
        exact J_ret hX hZ dX8_pricesOf_39 rfl rfl ⟨by rw [show i = 8 by omega]; rfl, rfl, rfl⟩
      · skip
        refine J_iload_n hX 2 dX8_pricesOf_10 rfl ?_
        refine J_iload_n hX 1 dX8_pricesOf_11 rfl ?_
        refine J_iload_n hX 3 dX8_pricesOf_12 rfl ?_
        refine J_ishr hX dX8_pricesOf_13 ?_
        refine J_iconst (v := 1) hX dX8_pricesOf_14 (by decide) ?_
        refine J_iand hX dX8_pricesOf_15 ?_
        refine J_iconst (v := 1) hX dX8_pricesOf_16 (by decide) ?_
        refine J_icmp_ne hX 29 dX8_pricesOf_17 (by decide) (fun h17 => ?_) (fun h17 => ?_)
        · skip
          refine J_iconst (v := 0) hX dX8_pricesOf_29 (by decide) ?_
          refine J_topi (y := m_pricesF M s i) (by unfold m_pricesF; (first | rw [if_neg h17] | rw [if_pos h17] | rw [if_pos (Classical.not_not.mp h17)])) ?_
          refine J_iadd hX dX8_pricesOf_30 ?_
          refine J_istore_n (loc' := [(2, .int ((jSum (m_pricesF M s) 0 i) + (m_pricesF M s i))), (0, .ref (a 77)), (1, .int s), (3, .int (nI i))]) hX dX8_pricesOf_31 (by decide) rfl ?_
          refine J_iinc (v := nI (i + 1)) (loc' := [(3, .int (nI (i + 1))), (2, .int ((jSum (m_pricesF M s) 0 i) + (m_pricesF M s i))), (0, .ref (a 77)), (1, .int s)]) hX 3 dX8_pricesOf_32 rfl (jinc i) (by decide) rfl ?_
          refine J_goto hX 4 dX8_pricesOf_35 (by decide) ?_
          refine J_sub (loc' := [(0, .ref (a 77)), (1, .int s), (2, .int ((jSum (m_pricesF M s) 0 i) + (m_pricesF M s i))), (3, .int (nI (i + 1)))]) [2, 3, 1, 0] rfl ?_
          refine J_seti (y := jSum (m_pricesF M s) 0 (i + 1)) (loc' := [(0, .ref (a 77)), (1, .int s), (2, .int (jSum (m_pricesF M s) 0 (i + 1))), (3, .int (nI (i + 1)))]) 2 rfl rfl rfl ?_
          exact ih4  (i + 1) (by omega) (by omega)
        · skip
          refine J_aload_n hX 0 dX8_pricesOf_20 rfl ?_
          refine J_getr hX 77 3 dX8_pricesOf_21 jc_77 rfl rfl (by decide) inlX8 wm_4_22 ?_
          refine J_iload_n hX 3 dX8_pricesOf_24 rfl ?_
          refine J_iald hX 81 i dX8_pricesOf_25 jc_81 rfl (by omega) (by omega) ?_
          refine J_goto hX 30 dX8_pricesOf_26 (by decide) ?_
          refine J_topi (y := m_pricesF M s i) (by unfold m_pricesF; (first | rw [if_neg h17] | rw [if_pos h17] | rw [if_pos (Classical.not_not.mp h17)])) ?_
          refine J_iadd hX dX8_pricesOf_30 ?_
          refine J_istore_n (loc' := [(2, .int ((jSum (m_pricesF M s) 0 i) + (m_pricesF M s i))), (0, .ref (a 77)), (1, .int s), (3, .int (nI i))]) hX dX8_pricesOf_31 (by decide) rfl ?_
          refine J_iinc (v := nI (i + 1)) (loc' := [(3, .int (nI (i + 1))), (2, .int ((jSum (m_pricesF M s) 0 i) + (m_pricesF M s i))), (0, .ref (a 77)), (1, .int s)]) hX 3 dX8_pricesOf_32 rfl (jinc i) (by decide) rfl ?_
          refine J_goto hX 4 dX8_pricesOf_35 (by decide) ?_
          refine J_sub (loc' := [(0, .ref (a 77)), (1, .int s), (2, .int ((jSum (m_pricesF M s) 0 i) + (m_pricesF M s i))), (3, .int (nI (i + 1)))]) [2, 3, 1, 0] rfl ?_
          refine J_seti (y := jSum (m_pricesF M s) 0 (i + 1)) (loc' := [(0, .ref (a 77)), (1, .int s), (2, .int (jSum (m_pricesF M s) 0 (i + 1))), (3, .int (nI (i + 1)))]) 2 rfl rfl rfl ?_
          exact ih4  (i + 1) (by omega) (by omega)
  refine J_sub (loc' := [(0, .ref (a 77)), (1, .int s), (2, .int 0), (3, .int 0)]) [2, 3, 1, 0] rfl ?_
  refine J_seti (y := jSum (m_pricesF M s) 0 0) (loc' := [(0, .ref (a 77)), (1, .int s), (2, .int (jSum (m_pricesF M s) 0 0)), (3, .int 0)]) 2 rfl rfl rfl ?_
  refine J_seti (y := nI 0) (loc' := [(0, .ref (a 77)), (1, .int s), (2, .int (jSum (m_pricesF M s) 0 0)), (3, .int (nI 0))]) 3 rfl rfl rfl ?_
  exact key4 _ 0 (Nat.lt_succ_self _) (by omega)
def m_buyS (M : jM) (v f : Int32) : Nat → Nat
  | 0 => 0
  | k + 1 => if nI (k + 1) &&& (f ^^^ (-1)) = 0 then (if v < m_prices M (nI (k + 1)) then m_buyS M v f k else if m_prices M (nI (k + 1)) ≤ m_prices M (nI (m_buyS M v f k)) then m_buyS M v f k else k + 1) else m_buyS M v f k
def m_buys (M : jM) (v k : Int32) : Int32 := if (0 ≤ v.toInt ∧ v.toInt ≤ 9999) then (if (0 ≤ k.toInt ∧ k.toInt ≤ 1) then (if k = 0 then m_prices M (nI (m_buyS M v (m_lotsOf M (-6)) 255)) else nI (m_buyS M v (m_lotsOf M (-6)) 255)) else -2) else -2
set_option maxHeartbeats 4000000 in
set_option maxRecDepth 10000 in
theorem c_X8_buys (l : Launch) (D : va_G) (a : Nat → Nat) (g : Nat → ClassId) (M : jM) (L : jL) (v k : Int32)  : jK l D a g yX8_buys cX8_buys 7 (some .int) 1 25 [.ref (a 77), .int v, .int k] M L (some (.int (m_buys M v k))) M L := by
  refine jMeth (by decide) (Nat.le_of_ble_eq_true rfl) ?_
  intro G hX hZ
  refine J_cg (loc' := [(0, .ref (a 77)), (1, .int v), (2, .int k)]) rfl rfl rfl rfl ?_
  refine J_iload_n hX 1 dX8_buys_0 rfl ?_
  refine J_i2l hX dX8_buys_1 ?_
  refine J_lconst (v := 0) hX dX8_buys_2 (by decide) ?_
  refine J_ldc2 hX dX8_buys_3 wm_6_10 ?_
  refine J_callS hX [.long (Int32.toInt64 v), .long (0 : Int64), .long (9999 : Int64)] [] dX8_buys_6 (c_X8_in l D a g M L v (0 : Int64) (9999 : Int64)) lk_X8_80 rfl rfl (Nat.le_of_ble_eq_true rfl) (Nat.le_of_ble_eq_true rfl) (Nat.le_of_ble_eq_true rfl) (J_eq (st := [.int (jB (0 ≤ v.toInt ∧ v.toInt ≤ 9999))]) rfl ?_)
  refine J_ifB_eq hX 22 dX8_buys_9 (by decide) (fun h9 => ?_) (fun h9 => ?_)
  · skip
    refine J_bipush (v := (-2)) hX dX8_buys_22 (by decide) ?_
    exact J_ret hX hZ dX8_buys_24 rfl rfl ⟨by rw [m_buys]; (first | rw [if_pos h9] | rw [if_neg h9] | skip), rfl, rfl⟩
  · skip
    refine J_iload_n hX 2 dX8_buys_12 rfl ?_
    refine J_i2l hX dX8_buys_13 ?_
    refine J_lconst (v := 0) hX dX8_buys_14 (by decide) ?_
    refine J_lconst (v := 1) hX dX8_buys_15 (by decide) ?_
    refine J_callS hX [.long (Int32.toInt64 k), .long (0 : Int64), .long (1 : Int64)] [] dX8_buys_16 (c_X8_in l D a g M L k (0 : Int64) (1 : Int64)) lk_X8_80 rfl rfl (Nat.le_of_ble_eq_true rfl) (Nat.le_of_ble_eq_true rfl) (Nat.le_of_ble_eq_true rfl) (J_eq (st := [.int (jB (0 ≤ k.toInt ∧ k.toInt ≤ 1))]) rfl ?_)
    refine J_ifB_ne hX 25 dX8_buys_19 (by decide) (fun h19 => ?_) (fun h19 => ?_)
    · skip
      refine J_aload_n hX 0 dX8_buys_25 rfl ?_
      refine J_bipush (v := (-6)) hX dX8_buys_26 (by decide) ?_
      refine J_callV hX 77 [.int (-6)] [] dX8_buys_28 (c_X8_lotsOf l D a g M L (-6)) lk_X8_229 jc_77 rfl rfl rfl (Nat.le_of_ble_eq_true rfl) (Nat.le_of_ble_eq_true rfl) (Nat.le_of_ble_eq_true rfl) (J_eq (st := [.int (m_lotsOf M (-6))]) rfl ?_)
      refine J_istore_n (loc' := [(3, .int (m_lotsOf M (-6))), (0, .ref (a 77)), (1, .int v), (2, .int k)]) hX dX8_buys_31 (by decide) rfl ?_
      refine J_iconst (v := 0) hX dX8_buys_32 (by decide) ?_
      refine J_istore (loc' := [(4, .int 0), (3, .int (m_lotsOf M (-6))), (0, .ref (a 77)), (1, .int v), (2, .int k)]) hX dX8_buys_33 (by decide) rfl ?_
      refine J_iconst (v := 1) hX dX8_buys_35 (by decide) ?_
      refine J_istore (loc' := [(5, .int 1), (4, .int 0), (3, .int (m_lotsOf M (-6))), (0, .ref (a 77)), (1, .int v), (2, .int k)]) hX dX8_buys_36 (by decide) rfl ?_
      have key38 : ∀ (fu38 : Nat) (i : Nat), 255 - i < fu38 → (i ≤ 255) → J l D a g G 7 M L 38 [(0, .ref (a 77)), (1, .int v), (2, .int k), (3, .int (m_lotsOf M (-6))), (4, .int (nI (m_buyS M v (m_lotsOf M (-6)) i))), (5, .int (nI (i + 1)))] [] := by
        intro fu38
        induction fu38 with
        | zero => intro i hmu; exact absurd hmu (Nat.not_lt_zero _)
        | succ fu38 ih38 =>
          intro i hmu38 hi
          refine J_iload hX 5 dX8_buys_38 rfl ?_
          refine J_sipush (v := 256) hX dX8_buys_40 (by decide) ?_
          refine J_cmpN_ge hX 107 (i + 1) 256 dX8_buys_43 (by decide) rfl rfl (by omega) (by omega) (fun h43 => ?_) (fun h43 => ?_)
          · skip
            refine J_iload_n hX 2 dX8_buys_107 rfl ?_
            refine J_if_ne hX 120 dX8_buys_108 (by decide) (fun h108 => ?_) (fun h108 => ?_)
            · skip
              refine J_iload hX 4 dX8_buys_120 rfl ?_
              exact J_ret hX hZ dX8_buys_122 rfl rfl ⟨by rw [m_buys, if_pos h9, if_pos h19]; (first | rw [if_neg h108] | rw [if_pos h108] | rw [if_pos (Classical.not_not.mp h108)]); rw [show i = 255 by omega], rfl, rfl⟩
            · skip
              refine J_aload_n hX 0 dX8_buys_111 rfl ?_
              refine J_iload hX 4 dX8_buys_112 rfl ?_
              refine J_callV hX 77 [.int (nI (m_buyS M v (m_lotsOf M (-6)) i))] [] dX8_buys_114 (c_X8_pricesOf l D a g M L (nI (m_buyS M v (m_lotsOf M (-6)) i))) lk_X8_249 jc_77 rfl rfl rfl (Nat.le_of_ble_eq_true rfl) (Nat.le_of_ble_eq_true rfl) (Nat.le_of_ble_eq_true rfl) (J_eq (st := [.int (m_prices M (nI (m_buyS M v (m_lotsOf M (-6)) i)))]) rfl ?_)
              refine J_goto hX 122 dX8_buys_117 (by decide) ?_
              exact J_ret hX hZ dX8_buys_122 rfl rfl ⟨by rw [m_buys, if_pos h9, if_pos h19]; (first | rw [if_neg h108] | rw [if_pos h108] | rw [if_pos (Classical.not_not.mp h108)]); rw [show i = 255 by omega], rfl, rfl⟩
          · skip
            refine J_iload hX 5 dX8_buys_46 rfl ?_
            refine J_iload_n hX 3 dX8_buys_48 rfl ?_
            refine J_iconst (v := (-1)) hX dX8_buys_49 (by decide) ?_
            refine J_ixor hX dX8_buys_50 ?_
            refine J_iand hX dX8_buys_51 ?_
            refine J_if_ne hX 69 dX8_buys_52 (by decide) (fun h52 => ?_) (fun h52 => ?_)
            · skip
              refine J_iconst (v := 0) hX dX8_buys_69 (by decide) ?_
              refine J_istore (loc' := [(6, .int 0), (0, .ref (a 77)), (1, .int v), (2, .int k), (3, .int (m_lotsOf M (-6))), (4, .int (nI (m_buyS M v (m_lotsOf M (-6)) i))), (5, .int (nI (i + 1)))]) hX dX8_buys_70 (by decide) rfl ?_
              refine J_iload hX 0 dX8_buys_72 rfl ?_
              refine J_if_eq hX 97 dX8_buys_74 (by decide) (fun h74 => ?_) (fun h74 => absurd h74 (by decide))
              refine J_iload hX 5 dX8_buys_97 rfl ?_
              refine J_topi (y := nI (m_buyS M v (m_lotsOf M (-6)) (i + 1))) (by rw [m_buyS]; (first | rw [if_pos h52] | rw [if_neg h52] | skip)) ?_
              refine J_istore (loc' := [(4, .int (nI (m_buyS M v (m_lotsOf M (-6)) (i + 1)))), (6, .int 0), (0, .ref (a 77)), (1, .int v), (2, .int k), (3, .int (m_lotsOf M (-6))), (5, .int (nI (i + 1)))]) hX dX8_buys_99 (by decide) rfl ?_
              refine J_iinc (v := nI (i + 1 + 1)) (loc' := [(5, .int (nI (i + 1 + 1))), (4, .int (nI (m_buyS M v (m_lotsOf M (-6)) (i + 1)))), (6, .int 0), (0, .ref (a 77)), (1, .int v), (2, .int k), (3, .int (m_lotsOf M (-6)))]) hX 6 dX8_buys_101 rfl (jinc (i + 1)) (by decide) rfl ?_
              refine J_goto hX 38 dX8_buys_104 (by decide) ?_
              refine J_sub (loc' := [(0, .ref (a 77)), (1, .int v), (2, .int k), (3, .int (m_lotsOf M (-6))), (4, .int (nI (m_buyS M v (m_lotsOf M (-6)) (i + 1)))), (5, .int (nI (i + 1 + 1)))]) [3, 4, 5, 6, 1, 0] rfl ?_
              refine J_seti (y := nI ((i + 1) + 1)) (loc' := [(0, .ref (a 77)), (1, .int v), (2, .int k), (3, .int (m_lotsOf M (-6))), (4, .int (nI (m_buyS M v (m_lotsOf M (-6)) (i + 1)))), (5, .int (nI ((i + 1) + 1)))]) 5 rfl rfl rfl ?_
              exact ih38  (i + 1) (by omega) (by omega)
            · skip
              refine J_aload_n hX 0 dX8_buys_55 rfl ?_
              refine J_iload hX 5 dX8_buys_56 rfl ?_
              refine J_callV hX 77 [.int (nI (i + 1))] [] dX8_buys_58 (c_X8_pricesOf l D a g M L (nI (i + 1))) lk_X8_249 jc_77 rfl rfl rfl (Nat.le_of_ble_eq_true rfl) (Nat.le_of_ble_eq_true rfl) (Nat.le_of_ble_eq_true rfl) (J_eq (st := [.int (m_prices M (nI (i + 1)))]) rfl ?_)
              refine J_iload_n hX 1 dX8_buys_61 rfl ?_
              refine J_icmp_gt hX 69 dX8_buys_62 (by decide) (fun h62 => ?_) (fun h62 => ?_)
              · skip
                refine J_iconst (v := 0) hX dX8_buys_69 (by decide) ?_
                refine J_istore (loc' := [(6, .int 0), (0, .ref (a 77)), (1, .int v), (2, .int k), (3, .int (m_lotsOf M (-6))), (4, .int (nI (m_buyS M v (m_lotsOf M (-6)) i))), (5, .int (nI (i + 1)))]) hX dX8_buys_70 (by decide) rfl ?_
                refine J_iload hX 0 dX8_buys_72 rfl ?_
                refine J_if_eq hX 97 dX8_buys_74 (by decide) (fun h74 => ?_) (fun h74 => absurd h74 (by decide))
                refine J_iload hX 5 dX8_buys_97 rfl ?_
                refine J_topi (y := nI (m_buyS M v (m_lotsOf M (-6)) (i + 1))) (by rw [m_buyS]; (first | rw [if_pos h52] | rw [if_neg h52] | skip); (first | rw [if_pos h62] | rw [if_neg h62] | skip)) ?_
                refine J_istore (loc' := [(4, .int (nI (m_buyS M v (m_lotsOf M (-6)) (i + 1)))), (6, .int 0), (0, .ref (a 77)), (1, .int v), (2, .int k), (3, .int (m_lotsOf M (-6))), (5, .int (nI (i + 1)))]) hX dX8_buys_99 (by decide) rfl ?_
                refine J_iinc (v := nI (i + 1 + 1)) (loc' := [(5, .int (nI (i + 1 + 1))), (4, .int (nI (m_buyS M v (m_lotsOf M (-6)) (i + 1)))), (6, .int 0), (0, .ref (a 77)), (1, .int v), (2, .int k), (3, .int (m_lotsOf M (-6)))]) hX 6 dX8_buys_101 rfl (jinc (i + 1)) (by decide) rfl ?_
                refine J_goto hX 38 dX8_buys_104 (by decide) ?_
                refine J_sub (loc' := [(0, .ref (a 77)), (1, .int v), (2, .int k), (3, .int (m_lotsOf M (-6))), (4, .int (nI (m_buyS M v (m_lotsOf M (-6)) (i + 1)))), (5, .int (nI (i + 1 + 1)))]) [3, 4, 5, 6, 1, 0] rfl ?_
                refine J_seti (y := nI ((i + 1) + 1)) (loc' := [(0, .ref (a 77)), (1, .int v), (2, .int k), (3, .int (m_lotsOf M (-6))), (4, .int (nI (m_buyS M v (m_lotsOf M (-6)) (i + 1)))), (5, .int (nI ((i + 1) + 1)))]) 5 rfl rfl rfl ?_
                exact ih38  (i + 1) (by omega) (by omega)
              · skip
                refine J_iconst (v := 1) hX dX8_buys_65 (by decide) ?_
                refine J_goto hX 70 dX8_buys_66 (by decide) ?_
                refine J_istore (loc' := [(6, .int 1), (0, .ref (a 77)), (1, .int v), (2, .int k), (3, .int (m_lotsOf M (-6))), (4, .int (nI (m_buyS M v (m_lotsOf M (-6)) i))), (5, .int (nI (i + 1)))]) hX dX8_buys_70 (by decide) rfl ?_
                refine J_iload hX 0 dX8_buys_72 rfl ?_
                refine J_if_eq hX 97 dX8_buys_74 (by decide) (fun h74 => absurd h74 (by decide)) (fun h74 => ?_)
                refine J_aload_n hX 1 dX8_buys_77 rfl ?_
                refine J_iload hX 6 dX8_buys_78 rfl ?_
                refine J_callV hX 77 [.int (nI (i + 1))] [] dX8_buys_80 (c_X8_pricesOf l D a g M L (nI (i + 1))) lk_X8_249 jc_77 rfl rfl rfl (Nat.le_of_ble_eq_true rfl) (Nat.le_of_ble_eq_true rfl) (Nat.le_of_ble_eq_true rfl) (J_eq (st := [.int (m_prices M (nI (i + 1)))]) rfl ?_)
                refine J_aload_n hX 1 dX8_buys_83 rfl ?_
                refine J_iload hX 5 dX8_buys_84 rfl ?_
                refine J_callV hX 77 [.int (nI (m_buyS M v (m_lotsOf M (-6)) i))] [.int (m_prices M (nI (i + 1)))] dX8_buys_86 (c_X8_pricesOf l D a g M L (nI (m_buyS M v (m_lotsOf M (-6)) i))) lk_X8_249 jc_77 rfl rfl rfl (Nat.le_of_ble_eq_true rfl) (Nat.le_of_ble_eq_true rfl) (Nat.le_of_ble_eq_true rfl) (J_eq (st := [.int (m_prices M (nI (m_buyS M v (m_lotsOf M (-6)) i))), .int (m_prices M (nI (i + 1)))]) rfl ?_)
                refine J_icmp_le hX 97 dX8_buys_89 (by decide) (fun h89 => ?_) (fun h89 => ?_)
                · skip
                  refine J_iload hX 5 dX8_buys_97 rfl ?_
                  refine J_topi (y := nI (m_buyS M v (m_lotsOf M (-6)) (i + 1))) (by rw [m_buyS]; (first | rw [if_pos h52] | rw [if_neg h52] | skip); (first | rw [if_pos h62] | rw [if_neg h62] | skip); (first | rw [if_pos h89] | rw [if_neg h89] | skip)) ?_
                  refine J_istore (loc' := [(4, .int (nI (m_buyS M v (m_lotsOf M (-6)) (i + 1)))), (6, .int 1), (0, .ref (a 77)), (1, .int v), (2, .int k), (3, .int (m_lotsOf M (-6))), (5, .int (nI (i + 1)))]) hX dX8_buys_99 (by decide) rfl ?_
                  refine J_iinc (v := nI (i + 1 + 1)) (loc' := [(5, .int (nI (i + 1 + 1))), (4, .int (nI (m_buyS M v (m_lotsOf M (-6)) (i + 1)))), (6, .int 1), (0, .ref (a 77)), (1, .int v), (2, .int k), (3, .int (m_lotsOf M (-6)))]) hX 6 dX8_buys_101 rfl (jinc (i + 1)) (by decide) rfl ?_
                  refine J_goto hX 38 dX8_buys_104 (by decide) ?_
                  refine J_sub (loc' := [(0, .ref (a 77)), (1, .int v), (2, .int k), (3, .int (m_lotsOf M (-6))), (4, .int (nI (m_buyS M v (m_lotsOf M (-6)) (i + 1)))), (5, .int (nI (i + 1 + 1)))]) [3, 4, 5, 6, 1, 0] rfl ?_
                  refine J_seti (y := nI ((i + 1) + 1)) (loc' := [(0, .ref (a 77)), (1, .int v), (2, .int k), (3, .int (m_lotsOf M (-6))), (4, .int (nI (m_buyS M v (m_lotsOf M (-6)) (i + 1)))), (5, .int (nI ((i + 1) + 1)))]) 5 rfl rfl rfl ?_
                  exact ih38  (i + 1) (by omega) (by omega)
                · skip
                  refine J_iload hX 6 dX8_buys_92 rfl ?_
                  refine J_goto hX 99 dX8_buys_94 (by decide) ?_
                  refine J_topi (y := nI (m_buyS M v (m_lotsOf M (-6)) (i + 1))) (by rw [m_buyS]; (first | rw [if_pos h52] | rw [if_neg h52] | skip); (first | rw [if_pos h62] | rw [if_neg h62] | skip); (first | rw [if_pos h89] | rw [if_neg h89] | skip)) ?_
                  refine J_istore (loc' := [(4, .int (nI (m_buyS M v (m_lotsOf M (-6)) (i + 1)))), (6, .int 1), (0, .ref (a 77)), (1, .int v), (2, .int k), (3, .int (m_lotsOf M (-6))), (5, .int (nI (i + 1)))]) hX dX8_buys_99 (by decide) rfl ?_
                  refine J_iinc (v := nI (i + 1 + 1)) (loc' := [(5, .int (nI (i + 1 + 1))), (4, .int (nI (m_buyS M v (m_lotsOf M (-6)) (i + 1)))), (6, .int 1), (0, .ref (a 77)), (1, .int v), (2, .int k), (3, .int (m_lotsOf M (-6)))]) hX 6 dX8_buys_101 rfl (jinc (i + 1)) (by decide) rfl ?_
                  refine J_goto hX 38 dX8_buys_104 (by decide) ?_
                  refine J_sub (loc' := [(0, .ref (a 77)), (1, .int v), (2, .int k), (3, .int (m_lotsOf M (-6))), (4, .int (nI (m_buyS M v (m_lotsOf M (-6)) (i + 1)))), (5, .int (nI (i + 1 + 1)))]) [3, 4, 5, 6, 1, 0] rfl ?_
                  refine J_seti (y := nI ((i + 1) + 1)) (loc' := [(0, .ref (a 77)), (1, .int v), (2, .int k), (3, .int (m_lotsOf M (-6))), (4, .int (nI (m_buyS M v (m_lotsOf M (-6)) (i + 1)))), (5, .int (nI ((i + 1) + 1)))]) 5 rfl rfl rfl ?_
                  exact ih38  (i + 1) (by omega) (by omega)
      refine J_sub (loc' := [(0, .ref (a 77)), (1, .int v), (2, .int k), (3, .int (m_lotsOf M (-6))), (4, .int 0), (5, .int 1)]) [3, 4, 5, 2, 1, 0] rfl ?_
      refine J_seti (y := nI (m_buyS M v (m_lotsOf M (-6)) 0)) (loc' := [(0, .ref (a 77)), (1, .int v), (2, .int k), (3, .int (m_lotsOf M (-6))), (4, .int (nI (m_buyS M v (m_lotsOf M (-6)) 0))), (5, .int 1)]) 4 rfl rfl rfl ?_
      refine J_seti (y := nI (0 + 1)) (loc' := [(0, .ref (a 77)), (1, .int v), (2, .int k), (3, .int (m_lotsOf M (-6))), (4, .int (nI (m_buyS M v (m_lotsOf M (-6)) 0))), (5, .int (nI (0 + 1)))]) 5 rfl rfl rfl ?_
      exact key38 _ 0 (Nat.lt_succ_self _) (by omega)
    · skip
      refine J_bipush (v := (-2)) hX dX8_buys_22 (by decide) ?_
      exact J_ret hX hZ dX8_buys_24 rfl rfl ⟨by rw [m_buys]; (first | rw [if_pos h9] | rw [if_neg h9] | skip); (first | rw [if_pos h19] | rw [if_neg h19] | skip), rfl, rfl⟩
def m_rn (ld g x : Int32) : Nat → Int64
  | 0 => x.toInt64
  | i + 1 => m_rn ld g x i + (m_rn ld g x i * g.toInt64 / 100 + 100 * (100 - m_rateOf ld (m_rn ld g x i)).toInt64)
def m_runF (ld g x v : Int32) : Nat → Nat → Int32
  | 0, _ => -6
  | r + 1, i => if v ≤ m_rateOf ld (m_rn ld g x i) then m_runF ld g x v r (i + 1) else nI i
def m_runs (M : jM) (x g v : Int32) : Int32 := if (1 ≤ x.toInt ∧ x.toInt ≤ 99999) then (if (0 ≤ g.toInt ∧ g.toInt ≤ 99) then (if (1 ≤ v.toInt ∧ v.toInt ≤ 100) then m_runF (m_land M) g x v 101 0 else -2) else -2) else -2
theorem m_runF_go {ld g x v : Int32} {i : Nat} (h : i ≤ 100) (h1 : v ≤ m_rateOf ld (m_rn ld g x i)) : m_runF ld g x v (101 - i) i = m_runF ld g x v (101 - (i + 1)) (i + 1) := by
  rw [show 101 - i = (101 - (i + 1)) + 1 by omega, m_runF, if_pos h1]
theorem m_runF_at {ld g x v : Int32} {i : Nat} (h : i ≤ 100) (h1 : ¬ v ≤ m_rateOf ld (m_rn ld g x i)) : m_runF ld g x v (101 - i) i = nI i := by
  rw [show 101 - i = (101 - (i + 1)) + 1 by omega, m_runF, if_neg h1]
set_option maxHeartbeats 4000000 in
set_option maxRecDepth 10000 in
theorem c_X8_runs (l : Launch) (D : va_G) (a : Nat → Nat) (g : Nat → ClassId) (M : jM) (L : jL) (x q v : Int32)  : jK l D a g yX8_runs cX8_runs 8 (some .int) 1 25 [.ref (a 77), .int x, .int q, .int v] M L (some (.int (m_runs M x q v))) M L := by
  refine jMeth (by decide) (Nat.le_of_ble_eq_true rfl) ?_
  intro G hX hZ
  refine J_cg (loc' := [(0, .ref (a 77)), (1, .int x), (2, .int q), (3, .int v)]) rfl rfl rfl rfl ?_
  refine J_iload_n hX 1 dX8_runs_0 rfl ?_
  refine J_i2l hX dX8_runs_1 ?_
  refine J_lconst (v := 1) hX dX8_runs_2 (by decide) ?_
  refine J_ldc2 hX dX8_runs_3 wm_8_3 ?_
  refine J_callS hX [.long (Int32.toInt64 x), .long (1 : Int64), .long (99999 : Int64)] [] dX8_runs_6 (c_X8_in l D a g M L x (1 : Int64) (99999 : Int64)) lk_X8_80 rfl rfl (Nat.le_of_ble_eq_true rfl) (Nat.le_of_ble_eq_true rfl) (Nat.le_of_ble_eq_true rfl) (J_eq (st := [.int (jB (1 ≤ x.toInt ∧ x.toInt ≤ 99999))]) rfl ?_)
  refine J_ifB_eq hX 36 dX8_runs_9 (by decide) (fun h9 => ?_) (fun h9 => ?_)
  · skip
    refine J_bipush (v := (-2)) hX dX8_runs_36 (by decide) ?_
    exact J_ret hX hZ dX8_runs_38 rfl rfl ⟨by rw [m_runs]; (first | rw [if_pos h9] | rw [if_neg h9] | skip), rfl, rfl⟩
  · skip
    refine J_iload_n hX 2 dX8_runs_12 rfl ?_
    refine J_i2l hX dX8_runs_13 ?_
    refine J_lconst (v := 0) hX dX8_runs_14 (by decide) ?_
    refine J_ldc2 hX dX8_runs_15 wm_25_7 ?_
    refine J_callS hX [.long (Int32.toInt64 q), .long (0 : Int64), .long (99 : Int64)] [] dX8_runs_18 (c_X8_in l D a g M L q (0 : Int64) (99 : Int64)) lk_X8_80 rfl rfl (Nat.le_of_ble_eq_true rfl) (Nat.le_of_ble_eq_true rfl) (Nat.le_of_ble_eq_true rfl) (J_eq (st := [.int (jB (0 ≤ q.toInt ∧ q.toInt ≤ 99))]) rfl ?_)
    refine J_ifB_eq hX 36 dX8_runs_21 (by decide) (fun h21 => ?_) (fun h21 => ?_)
    · skip
      refine J_bipush (v := (-2)) hX dX8_runs_36 (by decide) ?_
      exact J_ret hX hZ dX8_runs_38 rfl rfl ⟨by rw [m_runs]; (first | rw [if_pos h9] | rw [if_neg h9] | skip); (first | rw [if_pos h21] | rw [if_neg h21] | skip), rfl, rfl⟩
    · skip
      refine J_iload_n hX 3 dX8_runs_24 rfl ?_
      refine J_i2l hX dX8_runs_25 ?_
      refine J_lconst (v := 1) hX dX8_runs_26 (by decide) ?_
      refine J_ldc2 hX dX8_runs_27 wm_18_6 ?_
      refine J_callS hX [.long (Int32.toInt64 v), .long (1 : Int64), .long (100 : Int64)] [] dX8_runs_30 (c_X8_in l D a g M L v (1 : Int64) (100 : Int64)) lk_X8_80 rfl rfl (Nat.le_of_ble_eq_true rfl) (Nat.le_of_ble_eq_true rfl) (Nat.le_of_ble_eq_true rfl) (J_eq (st := [.int (jB (1 ≤ v.toInt ∧ v.toInt ≤ 100))]) rfl ?_)
      refine J_ifB_ne hX 39 dX8_runs_33 (by decide) (fun h33 => ?_) (fun h33 => ?_)
      · skip
        refine J_iload_n hX 1 dX8_runs_39 rfl ?_
        refine J_i2l hX dX8_runs_40 ?_
        refine J_lstore (loc' := [(4, .long (Int32.toInt64 x)), (0, .ref (a 77)), (1, .int x), (2, .int q), (3, .int v)]) hX dX8_runs_41 (by decide) rfl ?_
        refine J_iconst (v := 0) hX dX8_runs_43 (by decide) ?_
        refine J_istore (loc' := [(6, .int 0), (4, .long (Int32.toInt64 x)), (0, .ref (a 77)), (1, .int x), (2, .int q), (3, .int v)]) hX dX8_runs_44 (by decide) rfl ?_
        have key46 : ∀ (fu46 : Nat) (i : Nat), 101 - i < fu46 → (i ≤ 101) → (m_runs M x q v = m_runF (m_land M) q x v (101 - i) i) → J l D a g G 8 M L 46 [(0, .ref (a 77)), (1, .int x), (2, .int q), (3, .int v), (4, .long (m_rn (m_land M) q x i)), (6, .int (nI i))] [] := by
          intro fu46
          induction fu46 with
          | zero => intro i hmu; exact absurd hmu (Nat.not_lt_zero _)
          | succ fu46 ih46 =>
            intro i hmu46 hi he
            refine J_iload hX 5 dX8_runs_46 rfl ?_
            refine J_bipush (v := 100) hX dX8_runs_48 (by decide) ?_
            refine J_cmpN_gt hX 104 i 100 dX8_runs_50 (by decide) rfl rfl (by omega) (by omega) (fun h50 => ?_) (fun h50 => ?_)
            · skip
              refine J_bipush (v := (-6)) hX dX8_runs_104 (by decide) ?_
              exact J_ret hX hZ dX8_runs_106 rfl rfl ⟨by rw [he, show 101 - i = 0 by omega, m_runF], rfl, rfl⟩
            · skip
              refine J_aload_n hX 0 dX8_runs_53 rfl ?_
              refine J_callV hX 77 [] [] dX8_runs_54 (c_X8_land l D a g M L ) lk_X8_153 jc_77 rfl rfl rfl (Nat.le_of_ble_eq_true rfl) (Nat.le_of_ble_eq_true rfl) (Nat.le_of_ble_eq_true rfl) (J_eq (st := [.int (m_land M)]) rfl ?_)
              refine J_lload hX 4 dX8_runs_57 rfl ?_
              refine J_callS hX [.int (m_land M), .long (m_rn (m_land M) q x i)] [] dX8_runs_59 (c_X8_rateOf l D a g M L (m_land M) (m_rn (m_land M) q x i)) lk_X8_160 rfl rfl (Nat.le_of_ble_eq_true rfl) (Nat.le_of_ble_eq_true rfl) (Nat.le_of_ble_eq_true rfl) (J_eq (st := [.int (m_rateOf (m_land M) (m_rn (m_land M) q x i))]) rfl ?_)
              refine J_istore (loc' := [(7, .int (m_rateOf (m_land M) (m_rn (m_land M) q x i))), (0, .ref (a 77)), (1, .int x), (2, .int q), (3, .int v), (4, .long (m_rn (m_land M) q x i)), (6, .int (nI i))]) hX dX8_runs_62 (by decide) rfl ?_
              refine J_iload hX 0 dX8_runs_64 rfl ?_
              refine J_iload_n hX 4 dX8_runs_66 rfl ?_
              refine J_icmp_ge hX 73 dX8_runs_67 (by decide) (fun h67 => ?_) (fun h67 => ?_)
              · skip
                refine J_lload hX 5 dX8_runs_73 rfl ?_
                refine J_lload hX 5 dX8_runs_75 rfl ?_
                refine J_iload_n hX 3 dX8_runs_77 rfl ?_
                refine J_i2l hX dX8_runs_78 ?_
                refine J_lmul hX dX8_runs_79 ?_
                refine J_ldc2 hX dX8_runs_80 wm_18_6 ?_
                refine J_ldiv hX dX8_runs_83 (by decide) ?_
                refine J_ldc2 hX dX8_runs_84 wm_18_6 ?_
                refine J_bipush (v := 100) hX dX8_runs_87 (by decide) ?_
                refine J_iload hX 0 dX8_runs_89 rfl ?_
                refine J_isub hX dX8_runs_91 ?_
                refine J_i2l hX dX8_runs_92 ?_
                refine J_lmul hX dX8_runs_93 ?_
                refine J_ladd hX dX8_runs_94 ?_
                refine J_ladd hX dX8_runs_95 ?_
                refine J_lstore (loc' := [(4, .long ((m_rn (m_land M) q x i) + ((((m_rn (m_land M) q x i) * (Int32.toInt64 q)) / (100 : Int64)) + ((100 : Int64) * (Int32.toInt64 (100 - (m_rateOf (m_land M) (m_rn (m_land M) q x i)))))))), (7, .int (m_rateOf (m_land M) (m_rn (m_land M) q x i))), (0, .ref (a 77)), (1, .int x), (2, .int q), (3, .int v), (6, .int (nI i))]) hX dX8_runs_96 (by decide) rfl ?_
                refine J_iinc (v := nI (i + 1)) (loc' := [(6, .int (nI (i + 1))), (4, .long ((m_rn (m_land M) q x i) + ((((m_rn (m_land M) q x i) * (Int32.toInt64 q)) / (100 : Int64)) + ((100 : Int64) * (Int32.toInt64 (100 - (m_rateOf (m_land M) (m_rn (m_land M) q x i)))))))), (7, .int (m_rateOf (m_land M) (m_rn (m_land M) q x i))), (0, .ref (a 77)), (1, .int x), (2, .int q), (3, .int v)]) hX 6 dX8_runs_98 rfl (jinc i) (by decide) rfl ?_
                refine J_goto hX 46 dX8_runs_101 (by decide) ?_
                refine J_sub (loc' := [(0, .ref (a 77)), (1, .int x), (2, .int q), (3, .int v), (4, .long ((m_rn (m_land M) q x i) + ((((m_rn (m_land M) q x i) * (Int32.toInt64 q)) / (100 : Int64)) + ((100 : Int64) * (Int32.toInt64 (100 - (m_rateOf (m_land M) (m_rn (m_land M) q x i)))))))), (6, .int (nI (i + 1)))]) [3, 4, 5, 6, 1, 0] rfl ?_
                refine J_setl (y := m_rn (m_land M) q x (i + 1)) (loc' := [(0, .ref (a 77)), (1, .int x), (2, .int q), (3, .int v), (4, .long (m_rn (m_land M) q x (i + 1))), (6, .int (nI (i + 1)))]) 4 rfl rfl rfl ?_
                exact ih46  (i + 1) (by omega) (by omega) (he.trans (m_runF_go h50 h67))
              · skip
                refine J_iload hX 6 dX8_runs_70 rfl ?_
                exact J_ret hX hZ dX8_runs_72 rfl rfl ⟨by rw [he, m_runF_at h50 h67], rfl, rfl⟩
        refine J_sub (loc' := [(0, .ref (a 77)), (1, .int x), (2, .int q), (3, .int v), (4, .long (Int32.toInt64 x)), (6, .int 0)]) [2, 3, 4, 5, 1, 0] rfl ?_
        refine J_setl (y := m_rn (m_land M) q x 0) (loc' := [(0, .ref (a 77)), (1, .int x), (2, .int q), (3, .int v), (4, .long (m_rn (m_land M) q x 0)), (6, .int 0)]) 4 rfl rfl rfl ?_
        refine J_seti (y := nI 0) (loc' := [(0, .ref (a 77)), (1, .int x), (2, .int q), (3, .int v), (4, .long (m_rn (m_land M) q x 0)), (6, .int (nI 0))]) 5 rfl rfl rfl ?_
        exact key46 _ 0 (Nat.lt_succ_self _) (by omega) (by rw [m_runs, if_pos h9, if_pos h21, if_pos h33])
      · skip
        refine J_bipush (v := (-2)) hX dX8_runs_36 (by decide) ?_
        exact J_ret hX hZ dX8_runs_38 rfl rfl ⟨by rw [m_runs]; (first | rw [if_pos h9] | rw [if_neg h9] | skip); (first | rw [if_pos h21] | rw [if_neg h21] | skip); (first | rw [if_pos h33] | rw [if_neg h33] | skip), rfl, rfl⟩
def m_dg (p m : Nat) : Nat := p / 10 ^ (8 - m) % 10
def m_wl (p n : Nat) : Nat → Nat
  | 0 => 0
  | m + 1 => m_wl p n m + (m_dg p m - (if m < n then 0 else m_dg p (m - n)))
def m_wages (v k : Int32) : Int32 := if (0 ≤ v.toInt ∧ v.toInt ≤ 999999999) then (if (0 ≤ k.toInt ∧ k.toInt ≤ 8) then nI (m_wl v.toNatClampNeg k.toNatClampNeg 9) else -2) else -2
def m_dn (c : Nat) : Int32 := nI 8 - nI c
theorem m_dn_s (c : Nat) : m_dn c + (-1) = m_dn (c + 1) := by
  unfold m_dn
  rw [show nI (c + 1) = nI c + 1 from nI_succ c, Int32.sub_eq_add_neg (nI 8) (nI c), Int32.sub_eq_add_neg (nI 8) (nI c + 1), Int32.neg_add, Int32.add_assoc, Int32.sub_eq_add_neg (-nI c) 1]
theorem m_dn_e {c : Nat} (h : c ≤ 8) : m_dn c = nI (8 - c) := pk_sub h
theorem m_dn_9 : m_dn 9 < 0 := by decide
theorem m_dg_lt (p m : Nat) : m_dg p m < 10 := Nat.mod_lt _ (by omega)
set_option maxHeartbeats 4000000 in
set_option maxRecDepth 10000 in
theorem c_X8_wages (l : Launch) (D : va_G) (a : Nat → Nat) (g : Nat → ClassId) (M : jM) (L : jL) (v k : Int32)  : jV l D a g yX8_wages cX8_wages 7 (some .int) 1 25 [.ref (a 77), .int v, .int k] M L (fun rv M1 L1 => rv = some (.int (m_wages v k)) ∧ x_frc 94 M M1 ∧ L1 = L) := by
  refine jMeth (by decide) (Nat.le_of_ble_eq_true rfl) ?_
  intro G hX hZ
  refine J_cg (loc' := [(0, .ref (a 77)), (1, .int v), (2, .int k)]) rfl rfl rfl rfl ?_
  refine J_iload_n hX 1 dX8_wages_0 rfl ?_
  refine J_i2l hX dX8_wages_1 ?_
  refine J_lconst (v := 0) hX dX8_wages_2 (by decide) ?_
  refine J_ldc2 hX dX8_wages_3 wm_25_18 ?_
  refine J_callS hX [.long (Int32.toInt64 v), .long (0 : Int64), .long (999999999 : Int64)] [] dX8_wages_6 (c_X8_in l D a g M L v (0 : Int64) (999999999 : Int64)) lk_X8_80 rfl rfl (Nat.le_of_ble_eq_true rfl) (Nat.le_of_ble_eq_true rfl) (Nat.le_of_ble_eq_true rfl) (J_eq (st := [.int (jB (0 ≤ v.toInt ∧ v.toInt ≤ 999999999))]) rfl ?_)
  refine J_ifB_eq hX 24 dX8_wages_9 (by decide) (fun h9 => ?_) (fun h9 => ?_)
  · skip
    refine J_bipush (v := (-2)) hX dX8_wages_24 (by decide) ?_
    exact J_ret hX hZ dX8_wages_26 rfl rfl ⟨by rw [m_wages]; (first | rw [if_pos h9] | rw [if_neg h9]), fun _ _ => rfl, rfl⟩
  · skip
    refine J_iload_n hX 2 dX8_wages_12 rfl ?_
    refine J_i2l hX dX8_wages_13 ?_
    refine J_lconst (v := 0) hX dX8_wages_14 (by decide) ?_
    refine J_ldc2 hX dX8_wages_15 wm_25_19 ?_
    refine J_callS hX [.long (Int32.toInt64 k), .long (0 : Int64), .long (8 : Int64)] [] dX8_wages_18 (c_X8_in l D a g M L k (0 : Int64) (8 : Int64)) lk_X8_80 rfl rfl (Nat.le_of_ble_eq_true rfl) (Nat.le_of_ble_eq_true rfl) (Nat.le_of_ble_eq_true rfl) (J_eq (st := [.int (jB (0 ≤ k.toInt ∧ k.toInt ≤ 8))]) rfl ?_)
    refine J_ifB_ne hX 27 dX8_wages_21 (by decide) (fun h21 => ?_) (fun h21 => ?_)
    · skip
      have iv := jix h9
      have lv := jixl h9
      have ik := jix h21
      have lk := jixl h21
      refine J_seti (y := nI v.toNatClampNeg) (loc' := [(0, .ref (a 77)), (1, .int (nI v.toNatClampNeg)), (2, .int k)]) 1 rfl iv rfl ?_
      refine J_seti (y := nI k.toNatClampNeg) (loc' := [(0, .ref (a 77)), (1, .int (nI v.toNatClampNeg)), (2, .int (nI k.toNatClampNeg))]) 2 rfl ik rfl ?_
      refine J_iload_n hX 1 dX8_wages_27 rfl ?_
      refine J_istore_n (loc' := [(3, .int (nI v.toNatClampNeg)), (0, .ref (a 77)), (1, .int (nI v.toNatClampNeg)), (2, .int (nI k.toNatClampNeg))]) hX dX8_wages_28 (by decide) rfl ?_
      refine J_bipush (v := 8) hX dX8_wages_29 (by decide) ?_
      refine J_istore (loc' := [(4, .int 8), (3, .int (nI v.toNatClampNeg)), (0, .ref (a 77)), (1, .int (nI v.toNatClampNeg)), (2, .int (nI k.toNatClampNeg))]) hX dX8_wages_31 (by decide) rfl ?_
      have key33 : ∀ (fu33 : Nat) (c : Nat) (M' : jM), 9 - c < fu33 → (c ≤ 9) → (∀ m, 9 - c ≤ m → m < 9 → M' 94 m = nI (m_dg v.toNatClampNeg m)) → (x_frc 94 M M') → J l D a g G 7 M' L 33 [(0, .ref (a 77)), (2, .int (nI k.toNatClampNeg)), (3, .int (nI (v.toNatClampNeg / 10 ^ c))), (4, .int (m_dn c))] [] := by
        intro fu33
        induction fu33 with
        | zero => intro c M' hmu; exact absurd hmu (Nat.not_lt_zero _)
        | succ fu33 ih33 =>
          intro c M' hmu33 hc hr hF
          have b1 : v.toNatClampNeg / 10 ^ c < 2 ^ 30 := Nat.lt_of_le_of_lt (Nat.div_le_self _ _) (by omega)
          refine J_iload hX 3 dX8_wages_33 rfl ?_
          refine J_if_lt hX 60 dX8_wages_35 (by decide) (fun h35 => ?_) (fun h35 => ?_)
          · skip
            have c9 : c = 9 := by rcases Nat.lt_or_ge c 9 with q | q; (exact absurd (by rw [m_dn_e (by omega)] at h35; exact h35) (nI_pos (by omega))); (omega)
            have rr : ∀ m, m < 9 → M' 94 m = nI (m_dg v.toNatClampNeg m) := fun m hm => hr m (by omega) hm
            refine J_iconst (v := 0) hX dX8_wages_60 (by decide) ?_
            refine J_istore (loc' := [(4, .int 0), (0, .ref (a 77)), (2, .int (nI k.toNatClampNeg)), (3, .int (nI (v.toNatClampNeg / 10 ^ c)))]) hX dX8_wages_61 (by decide) rfl ?_
            refine J_iconst (v := 0) hX dX8_wages_63 (by decide) ?_
            refine J_istore (loc' := [(5, .int 0), (4, .int 0), (0, .ref (a 77)), (2, .int (nI k.toNatClampNeg)), (3, .int (nI (v.toNatClampNeg / 10 ^ c)))]) hX dX8_wages_64 (by decide) rfl ?_
            have key66 : ∀ (fu66 : Nat) (m : Nat), 9 - m < fu66 → (m ≤ 9) → J l D a g G 7 M' L 66 [(0, .ref (a 77)), (2, .int (nI k.toNatClampNeg)), (4, .int (nI (m_wl v.toNatClampNeg k.toNatClampNeg m))), (5, .int (nI m))] [] := by
              intro fu66
              induction fu66 with
              | zero => intro m hmu; exact absurd hmu (Nat.not_lt_zero _)
              | succ fu66 ih66 =>
                intro m hmu66 hm
                have d1 := m_dg_lt v.toNatClampNeg m
                have d2 := m_dg_lt v.toNatClampNeg (m - k.toNatClampNeg)
                refine J_iload hX 3 dX8_wages_66 rfl ?_
                refine J_bipush (v := 9) hX dX8_wages_68 (by decide) ?_
                refine J_cmpN_ge hX 131 m 9 dX8_wages_70 (by decide) rfl rfl (by omega) (by omega) (fun h70 => ?_) (fun h70 => ?_)
                · skip
                  refine J_iload hX 2 dX8_wages_131 rfl ?_
                  exact J_ret hX hZ dX8_wages_133 rfl rfl ⟨by rw [m_wages, if_pos h9, if_pos h21, show m = 9 by omega], hF, rfl⟩
                · skip
                  refine J_iload hX 3 dX8_wages_73 rfl ?_
                  refine J_iload_n hX 1 dX8_wages_75 rfl ?_
                  refine J_cmpN_ge hX 83 m k.toNatClampNeg dX8_wages_76 (by decide) rfl rfl (by omega) (by omega) (fun h76 => ?_) (fun h76 => ?_)
                  · skip
                    refine J_aload_n hX 0 dX8_wages_83 rfl ?_
                    refine J_getr hX 77 26 dX8_wages_84 jc_77 rfl rfl (by decide) inlX8 wm_5_11 ?_
                    refine J_iload hX 3 dX8_wages_87 rfl ?_
                    refine J_iload_n hX 1 dX8_wages_89 rfl ?_
                    refine J_isub hX dX8_wages_90 ?_
                    refine J_topi (y := nI (m - k.toNatClampNeg)) (pk_sub h76) ?_
                    refine J_iald hX 94 (m - k.toNatClampNeg) dX8_wages_91 jc_94 rfl (by omega) (by omega) ?_
                    refine J_topi (y := nI (if m < k.toNatClampNeg then 0 else m_dg v.toNatClampNeg (m - k.toNatClampNeg))) (by rw [rr _ (by omega), if_neg (by omega)]) ?_
                    refine J_istore (loc' := [(6, .int (nI (if m < k.toNatClampNeg then 0 else m_dg v.toNatClampNeg (m - k.toNatClampNeg)))), (0, .ref (a 77)), (2, .int (nI k.toNatClampNeg)), (4, .int (nI (m_wl v.toNatClampNeg k.toNatClampNeg m))), (5, .int (nI m))]) hX dX8_wages_92 (by decide) rfl ?_
                    refine J_iload hX 3 dX8_wages_94 rfl ?_
                    refine J_aload_n hX 1 dX8_wages_96 rfl ?_
                    refine J_getr hX 77 26 dX8_wages_97 jc_77 rfl rfl (by decide) inlX8 wm_5_11 ?_
                    refine J_iload hX 4 dX8_wages_100 rfl ?_
                    refine J_iald hX 94 m dX8_wages_102 jc_94 rfl (by omega) (by omega) ?_
                    refine J_topi (y := nI (m_dg v.toNatClampNeg m)) (rr m h70) ?_
                    refine J_iload hX 0 dX8_wages_103 rfl ?_
                    refine J_cmpN_le hX 121 (m_dg v.toNatClampNeg m) (if m < k.toNatClampNeg then 0 else m_dg v.toNatClampNeg (m - k.toNatClampNeg)) dX8_wages_105 (by decide) rfl rfl (by omega) (by split <;> omega) (fun h105 => ?_) (fun h105 => ?_)
                    · skip
                      refine J_iconst (v := 0) hX dX8_wages_121 (by decide) ?_
                      refine J_topi (y := nI (m_dg v.toNatClampNeg m - (if m < k.toNatClampNeg then 0 else m_dg v.toNatClampNeg (m - k.toNatClampNeg)))) (by rw [show m_dg v.toNatClampNeg m - (if m < k.toNatClampNeg then 0 else m_dg v.toNatClampNeg (m - k.toNatClampNeg)) = 0 by omega]; rfl) ?_
                      refine J_iadd hX dX8_wages_122 ?_
                      refine J_topi (y := nI (m_wl v.toNatClampNeg k.toNatClampNeg (m + 1))) (nI_add _ _) ?_
                      refine J_istore (loc' := [(4, .int (nI (m_wl v.toNatClampNeg k.toNatClampNeg (m + 1)))), (6, .int (nI (if m < k.toNatClampNeg then 0 else m_dg v.toNatClampNeg (m - k.toNatClampNeg)))), (0, .ref (a 77)), (2, .int (nI k.toNatClampNeg)), (5, .int (nI m))]) hX dX8_wages_123 (by decide) rfl ?_
                      refine J_iinc (v := nI (m + 1)) (loc' := [(5, .int (nI (m + 1))), (4, .int (nI (m_wl v.toNatClampNeg k.toNatClampNeg (m + 1)))), (6, .int (nI (if m < k.toNatClampNeg then 0 else m_dg v.toNatClampNeg (m - k.toNatClampNeg)))), (0, .ref (a 77)), (2, .int (nI k.toNatClampNeg))]) hX 4 dX8_wages_125 rfl (jinc m) (by decide) rfl ?_
                      refine J_goto hX 66 dX8_wages_128 (by decide) ?_
                      refine J_sub (loc' := [(0, .ref (a 77)), (2, .int (nI k.toNatClampNeg)), (4, .int (nI (m_wl v.toNatClampNeg k.toNatClampNeg (m + 1)))), (5, .int (nI (m + 1)))]) [3, 4, 1, 0] rfl ?_
                      exact ih66  (m + 1) (by omega) (by omega)
                    · skip
                      refine J_aload_n hX 1 dX8_wages_108 rfl ?_
                      refine J_getr hX 77 26 dX8_wages_109 jc_77 rfl rfl (by decide) inlX8 wm_5_11 ?_
                      refine J_iload hX 4 dX8_wages_112 rfl ?_
                      refine J_iald hX 94 m dX8_wages_114 jc_94 rfl (by omega) (by omega) ?_
                      refine J_topi (y := nI (m_dg v.toNatClampNeg m)) (rr m h70) ?_
                      refine J_iload hX 0 dX8_wages_115 rfl ?_
                      refine J_isub hX dX8_wages_117 ?_
                      refine J_goto hX 122 dX8_wages_118 (by decide) ?_
                      refine J_topi (y := nI (m_dg v.toNatClampNeg m - (if m < k.toNatClampNeg then 0 else m_dg v.toNatClampNeg (m - k.toNatClampNeg)))) (pk_sub (by omega)) ?_
                      refine J_iadd hX dX8_wages_122 ?_
                      refine J_topi (y := nI (m_wl v.toNatClampNeg k.toNatClampNeg (m + 1))) (nI_add _ _) ?_
                      refine J_istore (loc' := [(4, .int (nI (m_wl v.toNatClampNeg k.toNatClampNeg (m + 1)))), (6, .int (nI (if m < k.toNatClampNeg then 0 else m_dg v.toNatClampNeg (m - k.toNatClampNeg)))), (0, .ref (a 77)), (2, .int (nI k.toNatClampNeg)), (5, .int (nI m))]) hX dX8_wages_123 (by decide) rfl ?_
                      refine J_iinc (v := nI (m + 1)) (loc' := [(5, .int (nI (m + 1))), (4, .int (nI (m_wl v.toNatClampNeg k.toNatClampNeg (m + 1)))), (6, .int (nI (if m < k.toNatClampNeg then 0 else m_dg v.toNatClampNeg (m - k.toNatClampNeg)))), (0, .ref (a 77)), (2, .int (nI k.toNatClampNeg))]) hX 4 dX8_wages_125 rfl (jinc m) (by decide) rfl ?_
                      refine J_goto hX 66 dX8_wages_128 (by decide) ?_
                      refine J_sub (loc' := [(0, .ref (a 77)), (2, .int (nI k.toNatClampNeg)), (4, .int (nI (m_wl v.toNatClampNeg k.toNatClampNeg (m + 1)))), (5, .int (nI (m + 1)))]) [3, 4, 1, 0] rfl ?_
                      exact ih66  (m + 1) (by omega) (by omega)
                  · skip
                    refine J_iconst (v := 0) hX dX8_wages_79 (by decide) ?_
                    refine J_goto hX 92 dX8_wages_80 (by decide) ?_
                    refine J_topi (y := nI (if m < k.toNatClampNeg then 0 else m_dg v.toNatClampNeg (m - k.toNatClampNeg))) (by rw [if_pos h76]; rfl) ?_
                    refine J_istore (loc' := [(6, .int (nI (if m < k.toNatClampNeg then 0 else m_dg v.toNatClampNeg (m - k.toNatClampNeg)))), (0, .ref (a 77)), (2, .int (nI k.toNatClampNeg)), (4, .int (nI (m_wl v.toNatClampNeg k.toNatClampNeg m))), (5, .int (nI m))]) hX dX8_wages_92 (by decide) rfl ?_
                    refine J_iload hX 3 dX8_wages_94 rfl ?_
                    refine J_aload_n hX 1 dX8_wages_96 rfl ?_
                    refine J_getr hX 77 26 dX8_wages_97 jc_77 rfl rfl (by decide) inlX8 wm_5_11 ?_
                    refine J_iload hX 4 dX8_wages_100 rfl ?_
                    refine J_iald hX 94 m dX8_wages_102 jc_94 rfl (by omega) (by omega) ?_
                    refine J_topi (y := nI (m_dg v.toNatClampNeg m)) (rr m h70) ?_
                    refine J_iload hX 0 dX8_wages_103 rfl ?_
                    refine J_cmpN_le hX 121 (m_dg v.toNatClampNeg m) (if m < k.toNatClampNeg then 0 else m_dg v.toNatClampNeg (m - k.toNatClampNeg)) dX8_wages_105 (by decide) rfl rfl (by omega) (by split <;> omega) (fun h105 => ?_) (fun h105 => ?_)
                    · skip
                      refine J_iconst (v := 0) hX dX8_wages_121 (by decide) ?_
                      refine J_topi (y := nI (m_dg v.toNatClampNeg m - (if m < k.toNatClampNeg then 0 else m_dg v.toNatClampNeg (m - k.toNatClampNeg)))) (by rw [show m_dg v.toNatClampNeg m - (if m < k.toNatClampNeg then 0 else m_dg v.toNatClampNeg (m - k.toNatClampNeg)) = 0 by omega]; rfl) ?_
                      refine J_iadd hX dX8_wages_122 ?_
                      refine J_topi (y := nI (m_wl v.toNatClampNeg k.toNatClampNeg (m + 1))) (nI_add _ _) ?_
                      refine J_istore (loc' := [(4, .int (nI (m_wl v.toNatClampNeg k.toNatClampNeg (m + 1)))), (6, .int (nI (if m < k.toNatClampNeg then 0 else m_dg v.toNatClampNeg (m - k.toNatClampNeg)))), (0, .ref (a 77)), (2, .int (nI k.toNatClampNeg)), (5, .int (nI m))]) hX dX8_wages_123 (by decide) rfl ?_
                      refine J_iinc (v := nI (m + 1)) (loc' := [(5, .int (nI (m + 1))), (4, .int (nI (m_wl v.toNatClampNeg k.toNatClampNeg (m + 1)))), (6, .int (nI (if m < k.toNatClampNeg then 0 else m_dg v.toNatClampNeg (m - k.toNatClampNeg)))), (0, .ref (a 77)), (2, .int (nI k.toNatClampNeg))]) hX 4 dX8_wages_125 rfl (jinc m) (by decide) rfl ?_
                      refine J_goto hX 66 dX8_wages_128 (by decide) ?_
                      refine J_sub (loc' := [(0, .ref (a 77)), (2, .int (nI k.toNatClampNeg)), (4, .int (nI (m_wl v.toNatClampNeg k.toNatClampNeg (m + 1)))), (5, .int (nI (m + 1)))]) [3, 4, 1, 0] rfl ?_
                      exact ih66  (m + 1) (by omega) (by omega)
                    · skip
                      refine J_aload_n hX 1 dX8_wages_108 rfl ?_
                      refine J_getr hX 77 26 dX8_wages_109 jc_77 rfl rfl (by decide) inlX8 wm_5_11 ?_
                      refine J_iload hX 4 dX8_wages_112 rfl ?_
                      refine J_iald hX 94 m dX8_wages_114 jc_94 rfl (by omega) (by omega) ?_
                      refine J_topi (y := nI (m_dg v.toNatClampNeg m)) (rr m h70) ?_
                      refine J_iload hX 0 dX8_wages_115 rfl ?_
                      refine J_isub hX dX8_wages_117 ?_
                      refine J_goto hX 122 dX8_wages_118 (by decide) ?_
                      refine J_topi (y := nI (m_dg v.toNatClampNeg m - (if m < k.toNatClampNeg then 0 else m_dg v.toNatClampNeg (m - k.toNatClampNeg)))) (pk_sub (by omega)) ?_
                      refine J_iadd hX dX8_wages_122 ?_
                      refine J_topi (y := nI (m_wl v.toNatClampNeg k.toNatClampNeg (m + 1))) (nI_add _ _) ?_
                      refine J_istore (loc' := [(4, .int (nI (m_wl v.toNatClampNeg k.toNatClampNeg (m + 1)))), (6, .int (nI (if m < k.toNatClampNeg then 0 else m_dg v.toNatClampNeg (m - k.toNatClampNeg)))), (0, .ref (a 77)), (2, .int (nI k.toNatClampNeg)), (5, .int (nI m))]) hX dX8_wages_123 (by decide) rfl ?_
                      refine J_iinc (v := nI (m + 1)) (loc' := [(5, .int (nI (m + 1))), (4, .int (nI (m_wl v.toNatClampNeg k.toNatClampNeg (m + 1)))), (6, .int (nI (if m < k.toNatClampNeg then 0 else m_dg v.toNatClampNeg (m - k.toNatClampNeg)))), (0, .ref (a 77)), (2, .int (nI k.toNatClampNeg))]) hX 4 dX8_wages_125 rfl (jinc m) (by decide) rfl ?_
                      refine J_goto hX 66 dX8_wages_128 (by decide) ?_
                      refine J_sub (loc' := [(0, .ref (a 77)), (2, .int (nI k.toNatClampNeg)), (4, .int (nI (m_wl v.toNatClampNeg k.toNatClampNeg (m + 1)))), (5, .int (nI (m + 1)))]) [3, 4, 1, 0] rfl ?_
                      exact ih66  (m + 1) (by omega) (by omega)
            refine J_sub (loc' := [(0, .ref (a 77)), (2, .int (nI k.toNatClampNeg)), (4, .int 0), (5, .int 0)]) [2, 3, 1, 0] rfl ?_
            refine J_seti (y := nI (m_wl v.toNatClampNeg k.toNatClampNeg 0)) (loc' := [(0, .ref (a 77)), (2, .int (nI k.toNatClampNeg)), (4, .int (nI (m_wl v.toNatClampNeg k.toNatClampNeg 0))), (5, .int 0)]) 2 rfl rfl rfl ?_
            refine J_seti (y := nI 0) (loc' := [(0, .ref (a 77)), (2, .int (nI k.toNatClampNeg)), (4, .int (nI (m_wl v.toNatClampNeg k.toNatClampNeg 0))), (5, .int (nI 0))]) 3 rfl rfl rfl ?_
            exact key66 _ 0 (Nat.lt_succ_self _) (by omega)
          · skip
            have c8 : c ≤ 8 := by rcases Nat.lt_or_ge c 9 with q | q; (omega); (exact absurd (by rw [show c = 9 by omega]; exact m_dn_9) h35)
            refine J_aload_n hX 0 dX8_wages_38 rfl ?_
            refine J_getr hX 77 26 dX8_wages_39 jc_77 rfl rfl (by decide) inlX8 wm_5_11 ?_
            refine J_iload hX 3 dX8_wages_42 rfl ?_
            refine J_iload_n hX 2 dX8_wages_44 rfl ?_
            refine J_bipush (v := 10) hX dX8_wages_45 (by decide) ?_
            refine J_irem hX dX8_wages_47 (by decide) ?_
            refine J_topi (y := nI (m_dg v.toNatClampNeg (8 - c))) (by rw [jrem10 (by omega), m_dg, show 8 - (8 - c) = c by omega]) ?_
            refine J_iast hX 94 (8 - c) dX8_wages_48 jc_94 (m_dn_e c8) (by omega) (by omega) ?_
            refine J_iload_n hX 2 dX8_wages_49 rfl ?_
            refine J_bipush (v := 10) hX dX8_wages_50 (by decide) ?_
            refine J_idiv hX dX8_wages_52 (by decide) ?_
            refine J_topi (y := nI (v.toNatClampNeg / 10 ^ c / 10)) (jdiv10 (by omega)) ?_
            refine J_istore_n (loc' := [(3, .int (nI (v.toNatClampNeg / 10 ^ c / 10))), (0, .ref (a 77)), (2, .int (nI k.toNatClampNeg)), (4, .int (m_dn c))]) hX dX8_wages_53 (by decide) rfl ?_
            refine J_iinc (v := m_dn c + (-1)) (loc' := [(4, .int (m_dn c + (-1))), (3, .int (nI (v.toNatClampNeg / 10 ^ c / 10))), (0, .ref (a 77)), (2, .int (nI k.toNatClampNeg))]) hX 3 dX8_wages_54 rfl rfl (by decide) rfl ?_
            refine J_goto hX 33 dX8_wages_57 (by decide) ?_
            refine J_sub (loc' := [(0, .ref (a 77)), (2, .int (nI k.toNatClampNeg)), (3, .int (nI (v.toNatClampNeg / 10 ^ c / 10))), (4, .int (m_dn c + (-1)))]) [2, 3, 1, 0] rfl ?_
            refine J_seti (y := nI (v.toNatClampNeg / 10 ^ (c + 1))) (loc' := [(0, .ref (a 77)), (2, .int (nI k.toNatClampNeg)), (3, .int (nI (v.toNatClampNeg / 10 ^ (c + 1)))), (4, .int (m_dn c + (-1)))]) 2 rfl (by rw [Nat.pow_succ, ← Nat.div_div_eq_div_mul]) rfl ?_
            refine J_seti (y := m_dn (c + 1)) (loc' := [(0, .ref (a 77)), (2, .int (nI k.toNatClampNeg)), (3, .int (nI (v.toNatClampNeg / 10 ^ (c + 1)))), (4, .int (m_dn (c + 1)))]) 3 rfl (m_dn_s c) rfl ?_
            refine J_cg (M' := (jU M' 94 (8 - c) (nI (m_dg v.toNatClampNeg (8 - c))))) (L' := L) rfl rfl rfl rfl ?_
            exact ih33  (c + 1) (jU M' 94 (8 - c) (nI (m_dg v.toNatClampNeg (8 - c)))) (by omega) (by omega) (fun m h1 h2 => by by_cases q : m = 8 - c; (subst q; exact jU_same); (rw [jU_slot q]; exact hr m (by omega) h2)) hF.u
      refine J_sub (loc' := [(0, .ref (a 77)), (2, .int (nI k.toNatClampNeg)), (3, .int (nI v.toNatClampNeg)), (4, .int 8)]) [2, 4, 1, 0] rfl ?_
      refine J_seti (y := nI (v.toNatClampNeg / 10 ^ 0)) (loc' := [(0, .ref (a 77)), (2, .int (nI k.toNatClampNeg)), (3, .int (nI (v.toNatClampNeg / 10 ^ 0))), (4, .int 8)]) 2 rfl (by rw [Nat.pow_zero, Nat.div_one]) rfl ?_
      refine J_seti (y := m_dn 0) (loc' := [(0, .ref (a 77)), (2, .int (nI k.toNatClampNeg)), (3, .int (nI (v.toNatClampNeg / 10 ^ 0))), (4, .int (m_dn 0))]) 3 rfl rfl rfl ?_
      exact key33 _ 0 M (Nat.lt_succ_self _) (by omega) (fun m h1 h2 => by omega) (fun _ _ => rfl)
    · skip
      refine J_bipush (v := (-2)) hX dX8_wages_24 (by decide) ?_
      exact J_ret hX hZ dX8_wages_26 rfl rfl ⟨by rw [m_wages]; (first | rw [if_pos h9] | rw [if_neg h9]); (first | rw [if_pos h21] | rw [if_neg h21]), fun _ _ => rfl, rfl⟩
set_option maxHeartbeats 4000000 in
set_option maxRecDepth 10000 in
theorem c_X8_lowest (l : Launch) (D : va_G) (a : Nat → Nat) (g : Nat → ClassId) (M : jM) (L : jL) (u w : Nat) (hu : u < 2 ^ 62) (hw : w < 2 ^ 62) (w0 : 0 < w) (p : Int32)  : jK l D a g yX8_lowest cX8_lowest 11 (some .long) 0 0 [.long (lN u), .long (lN w), .int p] M L (some (.long (x_low u w p))) M L := by
  refine jMeth (by decide) (Nat.le_of_ble_eq_true rfl) ?_
  intro G hX hZ
  refine J_cg (loc' := [(0, .long (lN u)), (2, .long (lN w)), (4, .int p)]) rfl rfl rfl rfl ?_
  refine J_lload_n hX 1 dX8_lowest_0 rfl ?_
  refine J_lstore (loc' := [(5, .long (lN w)), (0, .long (lN u)), (2, .long (lN w)), (4, .int p)]) hX dX8_lowest_1 (by decide) rfl ?_
  refine J_lload_n hX 1 dX8_lowest_3 rfl ?_
  refine J_lstore (loc' := [(7, .long (lN u)), (5, .long (lN w)), (0, .long (lN u)), (2, .long (lN w)), (4, .int p)]) hX dX8_lowest_4 (by decide) rfl ?_
  have key6 : ∀ (fu6 : Nat) (x : Nat) (y : Nat), y < fu6 → (0 < x) → (x < 2 ^ 62) → (y < 2 ^ 62) → (Nat.gcd y x = Nat.gcd u w) → J l D a g G 11 M L 6 [(0, .long (lN u)), (2, .long (lN w)), (4, .int p), (5, .long (lN x)), (7, .long (lN y))] [] := by
    intro fu6
    induction fu6 with
    | zero => intro x y hmu; exact absurd hmu (Nat.not_lt_zero _)
    | succ fu6 ih6 =>
      intro x y hmu6 x0 hx hy hg
      refine J_lload hX 4 dX8_lowest_6 rfl ?_
      refine J_lconst (v := 0) hX dX8_lowest_8 (by decide) ?_
      refine J_topl (y := lN 0) rfl ?_
      refine J_lcmp hX dX8_lowest_9 ?_
      refine J_ifK_eq hX 31 dX8_lowest_10 (by decide) (fun h10 => ?_) (fun h10 => ?_)
      · skip
        have yz : y = 0 := (pk_lEQ (by omega) (by omega)).mp (by first | exact h10 | exact Classical.not_not.mp h10)
        have gx : Nat.gcd u w = x := by rw [← hg, yz, Nat.gcd_zero_left]
        refine J_iload hX 2 dX8_lowest_31 rfl ?_
        refine J_if_ne hX 43 dX8_lowest_33 (by decide) (fun h33 => ?_) (fun h33 => ?_)
        · skip
          refine J_lload_n hX 1 dX8_lowest_43 rfl ?_
          refine J_lload hX 3 dX8_lowest_44 rfl ?_
          refine J_ldiv hX dX8_lowest_46 (lN_ne0 x0 (by omega)) ?_
          exact J_lret hX hZ dX8_lowest_47 ⟨by rw [x_low, gx]; (first | rw [if_pos h33] | rw [if_neg h33] | rw [if_pos (Classical.not_not.mp h33)]); rw [pk_lDiv (by omega) x0 (by omega)], rfl, rfl⟩
        · skip
          refine J_lload_n hX 0 dX8_lowest_36 rfl ?_
          refine J_lload hX 3 dX8_lowest_37 rfl ?_
          refine J_ldiv hX dX8_lowest_39 (lN_ne0 x0 (by omega)) ?_
          refine J_goto hX 47 dX8_lowest_40 (by decide) ?_
          exact J_lret hX hZ dX8_lowest_47 ⟨by rw [x_low, gx]; (first | rw [if_pos h33] | rw [if_neg h33] | rw [if_pos (Classical.not_not.mp h33)]); rw [pk_lDiv (by omega) x0 (by omega)], rfl, rfl⟩
      · skip
        have y0 : 0 < y := Nat.pos_of_ne_zero (fun e => h10 (by rw [e]))
        refine J_lload hX 3 dX8_lowest_13 rfl ?_
        refine J_lload hX 4 dX8_lowest_15 rfl ?_
        refine J_lrem hX dX8_lowest_17 (lN_ne0 y0 (by omega)) ?_
        refine J_topl (y := lN (x % y)) (pk_lRem (by omega) y0 (by omega)) ?_
        refine J_lstore (loc' := [(9, .long (lN (x % y))), (0, .long (lN u)), (2, .long (lN w)), (4, .int p), (5, .long (lN x)), (7, .long (lN y))]) hX dX8_lowest_18 (by decide) rfl ?_
        refine J_lload hX 5 dX8_lowest_20 rfl ?_
        refine J_lstore (loc' := [(5, .long (lN y)), (9, .long (lN (x % y))), (0, .long (lN u)), (2, .long (lN w)), (4, .int p), (7, .long (lN y))]) hX dX8_lowest_22 (by decide) rfl ?_
        refine J_lload hX 1 dX8_lowest_24 rfl ?_
        refine J_lstore (loc' := [(7, .long (lN (x % y))), (5, .long (lN y)), (9, .long (lN (x % y))), (0, .long (lN u)), (2, .long (lN w)), (4, .int p)]) hX dX8_lowest_26 (by decide) rfl ?_
        refine J_goto hX 6 dX8_lowest_28 (by decide) ?_
        refine J_sub (loc' := [(0, .long (lN u)), (2, .long (lN w)), (4, .int p), (5, .long (lN y)), (7, .long (lN (x % y)))]) [3, 4, 5, 1, 0] rfl ?_
        exact ih6  y (x % y) (by have := Nat.mod_lt x y0; omega) y0 hy (Nat.lt_of_le_of_lt (Nat.mod_le _ _) hx) (by rw [x_gcd_step]; exact hg)
  refine J_sub (loc' := [(0, .long (lN u)), (2, .long (lN w)), (4, .int p), (5, .long (lN w)), (7, .long (lN u))]) [2, 3, 4, 1, 0] rfl ?_
  exact key6 _ w u (Nat.lt_succ_self _) w0 hw hu rfl
