def x_tr (M : jM) (t i : Nat) : Int32 := x_bc (M 14 i &&& (nI t ^^^ (-1)))
def x_fit1 (M : jM) (t i : Nat) : Bool := decide (¬ x_tr M t i < M 15 i ∧ (M 16 i = 0 → x_tr M t i ≤ M 15 i))
def x_fitN (M : jM) (t : Nat) : Nat → Bool
  | 0 => true
  | i + 1 => x_fitN M t i && x_fit1 M t i
def x_fit (M : jM) (s t : Nat) (d : Int32) : Bool := decide (x_bc (nI t) ≤ d) && x_fitN M t s
theorem x_fitN_no {M : jM} {t i : Nat} (h : x_fit1 M t i = false) : ∀ n, i < n → x_fitN M t n = false := by
  intro n
  induction n with
  | zero => intro h; omega
  | succ n ih =>
    intro hi
    rw [x_fitN]
    by_cases e : i = n
    · subst e; rw [h, Bool.and_false]
    · rw [ih (by omega), Bool.false_and]
theorem x_fit_cg {M M' : jM} (h4 : M' 14 = M 14) (h5 : M' 15 = M 15) (h6 : M' 16 = M 16) (s t : Nat) (d : Int32) : x_fit M' s t d = x_fit M s t d := by
  have e : ∀ n, x_fitN M' t n = x_fitN M t n := by
    intro n
    induction n with
    | zero => rfl
    | succ n ih => rw [x_fitN, x_fitN, ih, x_fit1, x_fit1, x_tr, x_tr, h4, h5, h6]
  rw [x_fit, x_fit, e]
set_option maxHeartbeats 4000000 in
set_option maxRecDepth 10000 in
theorem c_X4_fit (l : Launch) (D : va_G) (a : Nat → Nat) (g : Nat → ClassId) (M : jM) (L : jL) (s : Nat) (hs : M 13 4 = nI s) (hs8 : s ≤ 8) (t : Nat) (d : Int32)  : jK l D a g yX4_fit cX4_fit 5 (some .boolean) 1 20 [.ref (a 13), .int (nI t), .int d] M L (some (.int (jB (x_fit M s t d = true)))) M L := by
  refine jMeth (by decide) (Nat.le_of_ble_eq_true rfl) ?_
  intro G hX hZ
  refine J_cg (loc' := [(0, .ref (a 13)), (1, .int (nI t)), (2, .int d)]) rfl rfl rfl rfl ?_
  refine J_iload_n hX 1 dX4_fit_0 rfl ?_
  refine J_callS hX [.int (nI t)] [] dX4_fit_1 (c_J6_bitCount_0f7a4 l D a g M L (nI t)) lk_X4_34 rfl rfl (Nat.le_of_ble_eq_true rfl) (Nat.le_of_ble_eq_true rfl) (Nat.le_of_ble_eq_true rfl) (J_eq (st := [.int (x_bc (nI t))]) rfl ?_)
  refine J_iload_n hX 2 dX4_fit_4 rfl ?_
  refine J_icmp_le hX 10 dX4_fit_5 (by decide) (fun h5 => ?_) (fun h5 => ?_)
  · skip
    refine J_iconst (v := 0) hX dX4_fit_10 (by decide) ?_
    refine J_istore_n (loc' := [(3, .int 0), (0, .ref (a 13)), (1, .int (nI t)), (2, .int d)]) hX dX4_fit_11 (by decide) rfl ?_
    have key12 : ∀ (fu12 : Nat) (i : Nat), s - i < fu12 → (i ≤ s) → (x_fitN M t i = true) → J l D a g G 5 M L 12 [(0, .ref (a 13)), (1, .int (nI t)), (2, .int d), (3, .int (nI i))] [] := by
      intro fu12
      induction fu12 with
      | zero => intro i hmu; exact absurd hmu (Nat.not_lt_zero _)
      | succ fu12 ih12 =>
        intro i hmu12 hi hf
        refine J_iload_n hX 3 dX4_fit_12 rfl ?_
        refine J_aload_n hX 0 dX4_fit_13 rfl ?_
        refine J_geti hX 13 4 dX4_fit_14 jc_13 rfl rfl (by decide) inlX4 wm_28_1 ?_
        refine J_topi (y := nI s) hs ?_
        refine J_cmpN_ge hX 74 i s dX4_fit_17 (by decide) rfl rfl (by omega) (by omega) (fun h17 => ?_) (fun h17 => ?_)
        · skip
          refine J_iconst (v := 1) hX dX4_fit_74 (by decide) ?_
          exact J_ret hX hZ dX4_fit_75 rfl rfl ⟨by rw [jB_t (by rw [x_fit, decide_eq_true h5, Bool.true_and, ← show i = s by omega]; exact hf)], rfl, rfl⟩
        · skip
          refine J_aload_n hX 0 dX4_fit_20 rfl ?_
          refine J_getr hX 13 0 dX4_fit_21 jc_13 rfl rfl (by decide) inlX4 wm_3_6 ?_
          refine J_iload_n hX 3 dX4_fit_24 rfl ?_
          refine J_iald hX 14 i dX4_fit_25 jc_14 rfl (by omega) (by omega) ?_
          refine J_iload_n hX 1 dX4_fit_26 rfl ?_
          refine J_iconst (v := (-1)) hX dX4_fit_27 (by decide) ?_
          refine J_ixor hX dX4_fit_28 ?_
          refine J_iand hX dX4_fit_29 ?_
          refine J_callS hX [.int ((M 14 i) &&& ((nI t) ^^^ (-1)))] [] dX4_fit_30 (c_J6_bitCount_0f7a4 l D a g M L ((M 14 i) &&& ((nI t) ^^^ (-1)))) lk_X4_34 rfl rfl (Nat.le_of_ble_eq_true rfl) (Nat.le_of_ble_eq_true rfl) (Nat.le_of_ble_eq_true rfl) (J_eq (st := [.int (x_bc ((M 14 i) &&& ((nI t) ^^^ (-1))))]) rfl ?_)
          refine J_topi (y := x_tr M t i) rfl ?_
          refine J_istore (loc' := [(4, .int (x_tr M t i)), (0, .ref (a 13)), (1, .int (nI t)), (2, .int d), (3, .int (nI i))]) hX dX4_fit_33 (by decide) rfl ?_
          refine J_iload hX 0 dX4_fit_35 rfl ?_
          refine J_aload_n hX 1 dX4_fit_37 rfl ?_
          refine J_getr hX 13 1 dX4_fit_38 jc_13 rfl rfl (by decide) inlX4 wm_3_7 ?_
          refine J_iload_n hX 4 dX4_fit_41 rfl ?_
          refine J_iald hX 15 i dX4_fit_42 jc_15 rfl (by omega) (by omega) ?_
          refine J_icmp_lt hX 66 dX4_fit_43 (by decide) (fun h43 => ?_) (fun h43 => ?_)
          · skip
            refine J_iconst (v := 0) hX dX4_fit_66 (by decide) ?_
            exact J_ret hX hZ dX4_fit_67 rfl rfl ⟨by rw [jB_f (by rw [x_fit, x_fitN_no (i := i) (by unfold x_fit1; apply decide_eq_false; intro q; exact q.1 h43) s h17, Bool.and_false]; decide)], rfl, rfl⟩
          · skip
            refine J_aload_n hX 1 dX4_fit_46 rfl ?_
            refine J_getr hX 13 2 dX4_fit_47 jc_13 rfl rfl (by decide) inlX4 wm_3_8 ?_
            refine J_iload_n hX 4 dX4_fit_50 rfl ?_
            refine J_iald hX 16 i dX4_fit_51 jc_16 rfl (by omega) (by omega) ?_
            refine J_if_ne hX 68 dX4_fit_52 (by decide) (fun h52 => ?_) (fun h52 => ?_)
            · skip
              have ok1 : x_fit1 M t i = true := by unfold x_fit1; apply decide_eq_true; exact ⟨h43, fun q => absurd q h52⟩
              refine J_iinc (v := nI (i + 1)) (loc' := [(3, .int (nI (i + 1))), (4, .int (x_tr M t i)), (0, .ref (a 13)), (1, .int (nI t)), (2, .int d)]) hX 4 dX4_fit_68 rfl (jinc i) (by decide) rfl ?_
              refine J_goto hX 12 dX4_fit_71 (by decide) ?_
              refine J_sub (loc' := [(0, .ref (a 13)), (1, .int (nI t)), (2, .int d), (3, .int (nI (i + 1)))]) [2, 3, 4, 0] rfl ?_
              exact ih12  (i + 1) (by omega) (by omega) (by rw [x_fitN, hf, Bool.true_and]; exact ok1)
            · skip
              refine J_iload hX 0 dX4_fit_55 rfl ?_
              refine J_aload_n hX 1 dX4_fit_57 rfl ?_
              refine J_getr hX 13 1 dX4_fit_58 jc_13 rfl rfl (by decide) inlX4 wm_3_7 ?_
              refine J_iload_n hX 4 dX4_fit_61 rfl ?_
              refine J_iald hX 15 i dX4_fit_62 jc_15 rfl (by omega) (by omega) ?_
              refine J_icmp_le hX 68 dX4_fit_63 (by decide) (fun h63 => ?_) (fun h63 => ?_)
              · skip
                have ok1 : x_fit1 M t i = true := by unfold x_fit1; apply decide_eq_true; exact ⟨h43, fun q => h63⟩
                refine J_iinc (v := nI (i + 1)) (loc' := [(3, .int (nI (i + 1))), (4, .int (x_tr M t i)), (0, .ref (a 13)), (1, .int (nI t)), (2, .int d)]) hX 4 dX4_fit_68 rfl (jinc i) (by decide) rfl ?_
                refine J_goto hX 12 dX4_fit_71 (by decide) ?_
                refine J_sub (loc' := [(0, .ref (a 13)), (1, .int (nI t)), (2, .int d), (3, .int (nI (i + 1)))]) [2, 3, 4, 0] rfl ?_
                exact ih12  (i + 1) (by omega) (by omega) (by rw [x_fitN, hf, Bool.true_and]; exact ok1)
              · skip
                refine J_iconst (v := 0) hX dX4_fit_66 (by decide) ?_
                exact J_ret hX hZ dX4_fit_67 rfl rfl ⟨by rw [jB_f (by rw [x_fit, x_fitN_no (i := i) (by unfold x_fit1; apply decide_eq_false; intro q; exact h63 (q.2 (by first | exact h52 | exact Classical.not_not.mp h52))) s h17, Bool.and_false]; decide)], rfl, rfl⟩
    refine J_sub (loc' := [(0, .ref (a 13)), (1, .int (nI t)), (2, .int d), (3, .int 0)]) [1, 2, 3, 0] rfl ?_
    refine J_seti (y := nI 0) (loc' := [(0, .ref (a 13)), (1, .int (nI t)), (2, .int d), (3, .int (nI 0))]) 3 rfl rfl rfl ?_
    exact key12 _ 0 (Nat.lt_succ_self _) (by omega) rfl
  · skip
    refine J_iconst (v := 0) hX dX4_fit_8 (by decide) ?_
    exact J_ret hX hZ dX4_fit_9 rfl rfl ⟨by rw [jB_f (by rw [x_fit, decide_eq_false h5, Bool.false_and]; decide)], rfl, rfl⟩
def x_cnt (M : jM) (s : Nat) (d : Int32) : Nat → Nat
  | 0 => 0
  | k + 1 => if x_fit M s k d = true then x_cnt M s d k + 1 else x_cnt M s d k
theorem x_cnt_le (M : jM) (s : Nat) (d : Int32) (k : Nat) : x_cnt M s d k ≤ k := by
  induction k with
  | zero => exact Nat.le_refl 0
  | succ k ih => rw [x_cnt]; split <;> omega
def x_un (M : jM) (s : Nat) (d : Int32) (c : Nat) : Nat → Int32
  | 0 => 0
  | k + 1 => if x_fit M s k d = true then x_un M s d c k + (nI k >>> (nI c &&& 31) &&& 1) else x_un M s d c k
def x_clF (M : jM) (s : Nat) (d i : Int32) : Nat → Nat → Int32
  | 0, k => if i = -1 then nI (x_cnt M s d k) else -6
  | r + 1, k => if x_fit M s k d = true then (if nI (x_cnt M s d k) = i then nI k else x_clF M s d i r (k + 1)) else x_clF M s d i r (k + 1)
theorem x_clF_s {M : jM} {s k : Nat} {d i : Int32} (h : k < 256) : x_clF M s d i (256 - k) k = if x_fit M s k d = true then (if nI (x_cnt M s d k) = i then nI k else x_clF M s d i (256 - (k + 1)) (k + 1)) else x_clF M s d i (256 - (k + 1)) (k + 1) := by
  rw [show 256 - k = (256 - (k + 1)) + 1 by omega, x_clF]
def x_clerks (M : jM) (s : Nat) (d i : Int32) : Int32 := if (0 ≤ d.toInt ∧ d.toInt ≤ 3) then x_clF M s d i 256 0 else -2
set_option maxHeartbeats 4000000 in
set_option maxRecDepth 10000 in
theorem c_X7_clerks (l : Launch) (D : va_G) (a : Nat → Nat) (g : Nat → ClassId) (M : jM) (L : jL) (s : Nat) (hs : M 13 4 = nI s) (hs8 : s ≤ 8) (d i : Int32)  : jK l D a g yX7_clerks cX7_clerks 5 (some .int) 2 44 [.ref (a 0), .int d, .int i] M L (some (.int (x_clerks M s d i))) M L := by
  refine jMeth (by decide) (Nat.le_of_ble_eq_true rfl) ?_
  intro G hX hZ
  refine J_cg (loc' := [(0, .ref (a 0)), (1, .int d), (2, .int i)]) rfl rfl rfl rfl ?_
  refine J_iload_n hX 1 dX7_clerks_0 rfl ?_
  refine J_iconst (v := 0) hX dX7_clerks_1 (by decide) ?_
  refine J_iconst (v := 3) hX dX7_clerks_2 (by decide) ?_
  refine J_callS hX [.int d, .int 0, .int 3] [] dX7_clerks_3 (c_X7_within l D a g M L d 0 3) lk_X7_62 rfl rfl (Nat.le_of_ble_eq_true rfl) (Nat.le_of_ble_eq_true rfl) (Nat.le_of_ble_eq_true rfl) (J_eq (st := [.int (jB (0 ≤ d.toInt ∧ d.toInt ≤ 3))]) rfl ?_)
  refine J_ifB_ne hX 12 dX7_clerks_6 (by decide) (fun h6 => ?_) (fun h6 => ?_)
  · skip
    refine J_iconst (v := 0) hX dX7_clerks_12 (by decide) ?_
    refine J_istore_n (loc' := [(3, .int 0), (0, .ref (a 0)), (1, .int d), (2, .int i)]) hX dX7_clerks_13 (by decide) rfl ?_
    refine J_iconst (v := 0) hX dX7_clerks_14 (by decide) ?_
    refine J_istore (loc' := [(4, .int 0), (3, .int 0), (0, .ref (a 0)), (1, .int d), (2, .int i)]) hX dX7_clerks_15 (by decide) rfl ?_
    have key17 : ∀ (fu17 : Nat) (k : Nat), 256 - k < fu17 → (k ≤ 256) → (x_clerks M s d i = x_clF M s d i (256 - k) k) → J l D a g G 5 M L 17 [(0, .ref (a 0)), (1, .int d), (2, .int i), (3, .int (nI (x_cnt M s d k))), (4, .int (nI k))] [] := by
      intro fu17
      induction fu17 with
      | zero => intro k hmu; exact absurd hmu (Nat.not_lt_zero _)
      | succ fu17 ih17 =>
        intro k hmu17 hk he
        have ck := x_cnt_le M s d k
        refine J_iload hX 4 dX7_clerks_17 rfl ?_
        refine J_sipush (v := 256) hX dX7_clerks_19 (by decide) ?_
        refine J_cmpN_ge hX 55 k 256 dX7_clerks_22 (by decide) rfl rfl (by omega) (by omega) (fun h22 => ?_) (fun h22 => ?_)
        · skip
          refine J_iload_n hX 2 dX7_clerks_55 rfl ?_
          refine J_iconst (v := (-1)) hX dX7_clerks_56 (by decide) ?_
          refine J_icmp_ne hX 64 dX7_clerks_57 (by decide) (fun h57 => ?_) (fun h57 => ?_)
          · skip
            refine J_bipush (v := (-6)) hX dX7_clerks_64 (by decide) ?_
            exact J_ret hX hZ dX7_clerks_66 rfl rfl ⟨by rw [he, show 256 - k = 0 by omega, x_clF]; (first | rw [if_pos h57] | rw [if_neg h57] | rw [if_pos (Classical.not_not.mp h57)]), rfl, rfl⟩
          · skip
            refine J_iload_n hX 3 dX7_clerks_60 rfl ?_
            refine J_goto hX 66 dX7_clerks_61 (by decide) ?_
            exact J_ret hX hZ dX7_clerks_66 rfl rfl ⟨by rw [he, show 256 - k = 0 by omega, x_clF]; (first | rw [if_pos h57] | rw [if_neg h57] | rw [if_pos (Classical.not_not.mp h57)]), rfl, rfl⟩
        · skip
          refine J_aload_n hX 0 dX7_clerks_25 rfl ?_
          refine J_getr hX 0 1 dX7_clerks_26 jc_0 rfl rfl (by decide) inlX7 wm_1_19 ?_
          refine J_iload hX 4 dX7_clerks_29 rfl ?_
          refine J_iload_n hX 1 dX7_clerks_31 rfl ?_
          refine J_callV hX 13 [.int (nI k), .int d] [] dX7_clerks_32 (c_X4_fit l D a g M L s hs hs8 k d) lk_X7_195 jc_13 rfl rfl rfl (Nat.le_of_ble_eq_true rfl) (Nat.le_of_ble_eq_true rfl) (Nat.le_of_ble_eq_true rfl) (J_eq (st := [.int (jB (x_fit M s k d = true))]) rfl ?_)
          refine J_ifB_eq hX 49 dX7_clerks_35 (by decide) (fun h35 => ?_) (fun h35 => ?_)
          · skip
            refine J_iinc (v := nI (k + 1)) (loc' := [(4, .int (nI (k + 1))), (0, .ref (a 0)), (1, .int d), (2, .int i), (3, .int (nI (x_cnt M s d k)))]) hX 4 dX7_clerks_49 rfl (jinc k) (by decide) rfl ?_
            refine J_goto hX 17 dX7_clerks_52 (by decide) ?_
            refine J_sub (loc' := [(0, .ref (a 0)), (1, .int d), (2, .int i), (3, .int (nI (x_cnt M s d k))), (4, .int (nI (k + 1)))]) [1, 2, 3, 4, 0] rfl ?_
            refine J_seti (y := nI (x_cnt M s d (k + 1))) (loc' := [(0, .ref (a 0)), (1, .int d), (2, .int i), (3, .int (nI (x_cnt M s d (k + 1)))), (4, .int (nI (k + 1)))]) 3 rfl (by rw [x_cnt]; (first | rw [if_pos h35] | rw [if_neg h35])) rfl ?_
            exact ih17  (k + 1) (by omega) (by omega) (he.trans (by rw [x_clF_s h22]; (first | rw [if_pos h35] | rw [if_neg h35]); (first | rw [if_neg h40] | skip)))
          · skip
            refine J_iload_n hX 3 dX7_clerks_38 rfl ?_
            refine J_iload_n hX 2 dX7_clerks_39 rfl ?_
            refine J_icmp_ne hX 46 dX7_clerks_40 (by decide) (fun h40 => ?_) (fun h40 => ?_)
            · skip
              refine J_iinc (v := nI (x_cnt M s d k + 1)) (loc' := [(3, .int (nI (x_cnt M s d k + 1))), (0, .ref (a 0)), (1, .int d), (2, .int i), (4, .int (nI k))]) hX 3 dX7_clerks_46 rfl (jinc (x_cnt M s d k)) (by decide) rfl ?_
              refine J_iinc (v := nI (k + 1)) (loc' := [(4, .int (nI (k + 1))), (3, .int (nI (x_cnt M s d k + 1))), (0, .ref (a 0)), (1, .int d), (2, .int i)]) hX 4 dX7_clerks_49 rfl (jinc k) (by decide) rfl ?_
              refine J_goto hX 17 dX7_clerks_52 (by decide) ?_
              refine J_sub (loc' := [(0, .ref (a 0)), (1, .int d), (2, .int i), (3, .int (nI (x_cnt M s d k + 1))), (4, .int (nI (k + 1)))]) [2, 3, 4, 1, 0] rfl ?_
              refine J_seti (y := nI (x_cnt M s d (k + 1))) (loc' := [(0, .ref (a 0)), (1, .int d), (2, .int i), (3, .int (nI (x_cnt M s d (k + 1)))), (4, .int (nI (k + 1)))]) 3 rfl (by rw [x_cnt]; (first | rw [if_pos h35] | rw [if_neg h35])) rfl ?_
              exact ih17  (k + 1) (by omega) (by omega) (he.trans (by rw [x_clF_s h22]; (first | rw [if_pos h35] | rw [if_neg h35]); (first | rw [if_neg h40] | skip)))
            · skip
              refine J_iload hX 4 dX7_clerks_43 rfl ?_
              exact J_ret hX hZ dX7_clerks_45 rfl rfl ⟨by rw [he, x_clF_s h22, if_pos h35, if_pos (by first | exact h40 | exact Classical.not_not.mp h40)], rfl, rfl⟩
    refine J_sub (loc' := [(0, .ref (a 0)), (1, .int d), (2, .int i), (3, .int 0), (4, .int 0)]) [2, 3, 4, 1, 0] rfl ?_
    refine J_seti (y := nI (x_cnt M s d 0)) (loc' := [(0, .ref (a 0)), (1, .int d), (2, .int i), (3, .int (nI (x_cnt M s d 0))), (4, .int 0)]) 3 rfl rfl rfl ?_
    refine J_seti (y := nI 0) (loc' := [(0, .ref (a 0)), (1, .int d), (2, .int i), (3, .int (nI (x_cnt M s d 0))), (4, .int (nI 0))]) 4 rfl rfl rfl ?_
    exact key17 _ 0 (Nat.lt_succ_self _) (by omega) (by rw [x_clerks, if_pos h6])
  · skip
    refine J_bipush (v := (-2)) hX dX7_clerks_9 (by decide) ?_
    exact J_ret hX hZ dX7_clerks_11 rfl rfl ⟨by rw [x_clerks]; (first | rw [if_pos h6] | rw [if_neg h6] | skip), rfl, rfl⟩
def x_fr17 (M M' : jM) : Prop := ∀ k, k ≠ 17 → M' k = M k
theorem x_fr17.u {M M' : jM} {i : Nat} {v : Int32} (h : x_fr17 M M') : x_fr17 M (jU M' 17 i v) := fun k hk => by rw [jU_ne hk]; exact h k hk
set_option maxHeartbeats 4000000 in
set_option maxRecDepth 10000 in
theorem c_X4_tally (l : Launch) (D : va_G) (a : Nat → Nat) (g : Nat → ClassId) (M : jM) (L : jL) (s : Nat) (hs : M 13 4 = nI s) (hs8 : s ≤ 8) (d : Int32)  : jV l D a g yX4_tally cX4_tally 5 (some .int) 2 44 [.ref (a 13), .int d] M L (fun rv M1 L1 => rv = some (.int (nI (x_cnt M s d 256))) ∧ (∀ c, c < 8 → M1 17 c = x_un M s d c 256) ∧ x_fr17 M M1 ∧ L1 = L) := by
  refine jMeth (by decide) (Nat.le_of_ble_eq_true rfl) ?_
  intro G hX hZ
  refine J_cg (loc' := [(0, .ref (a 13)), (1, .int d)]) rfl rfl rfl rfl ?_
  refine J_iconst (v := 0) hX dX4_tally_0 (by decide) ?_
  refine J_istore_n (loc' := [(2, .int 0), (0, .ref (a 13)), (1, .int d)]) hX dX4_tally_1 (by decide) rfl ?_
  have key2 : ∀ (fu2 : Nat) (i : Nat) (M' : jM), 8 - i < fu2 → (i ≤ 8) → (∀ c, c < i → M' 17 c = 0) → (x_fr17 M M') → J l D a g G 5 M' L 2 [(0, .ref (a 13)), (1, .int d), (2, .int (nI i))] [] := by
    intro fu2
    induction fu2 with
    | zero => intro i M' hmu; exact absurd hmu (Nat.not_lt_zero _)
    | succ fu2 ih2 =>
      intro i M' hmu2 hi hz hF
      refine J_iload_n hX 2 dX4_tally_2 rfl ?_
      refine J_bipush (v := 8) hX dX4_tally_3 (by decide) ?_
      refine J_cmpN_ge hX 21 i 8 dX4_tally_5 (by decide) rfl rfl (by omega) (by omega) (fun h5 => ?_) (fun h5 => ?_)
      · skip
        refine J_iconst (v := 0) hX dX4_tally_21 (by decide) ?_
        refine J_istore_n (loc' := [(2, .int 0), (0, .ref (a 13)), (1, .int d)]) hX dX4_tally_22 (by decide) rfl ?_
        refine J_iconst (v := 0) hX dX4_tally_23 (by decide) ?_
        refine J_istore_n (loc' := [(3, .int 0), (2, .int 0), (0, .ref (a 13)), (1, .int d)]) hX dX4_tally_24 (by decide) rfl ?_
        have key25 : ∀ (fu25 : Nat) (k : Nat) (N1 : jM), 256 - k < fu25 → (k ≤ 256) → (∀ c, c < 8 → N1 17 c = x_un M s d c k) → (x_fr17 M N1) → J l D a g G 5 N1 L 25 [(0, .ref (a 13)), (1, .int d), (2, .int (nI (x_cnt M s d k))), (3, .int (nI k))] [] := by
          intro fu25
          induction fu25 with
          | zero => intro k N1 hmu; exact absurd hmu (Nat.not_lt_zero _)
          | succ fu25 ih25 =>
            intro k N1 hmu25 hk hu hG
            have ck := x_cnt_le M s d k
            refine J_iload_n hX 3 dX4_tally_25 rfl ?_
            refine J_sipush (v := 256) hX dX4_tally_26 (by decide) ?_
            refine J_cmpN_ge hX 82 k 256 dX4_tally_29 (by decide) rfl rfl (by omega) (by omega) (fun h29 => ?_) (fun h29 => ?_)
            · skip
              refine J_iload_n hX 2 dX4_tally_82 rfl ?_
              exact J_ret hX hZ dX4_tally_83 rfl rfl ⟨by rw [show k = 256 by omega], fun c hc => by rw [hu c hc, show k = 256 by omega], hG, rfl⟩
            · skip
              refine J_aload_n hX 0 dX4_tally_32 rfl ?_
              refine J_iload_n hX 3 dX4_tally_33 rfl ?_
              refine J_iload_n hX 1 dX4_tally_34 rfl ?_
              refine J_callV hX 13 [.int (nI k), .int d] [] dX4_tally_35 (c_X4_fit l D a g N1 L s (by rw [hG 13 (by decide)]; exact hs) hs8 k d) lk_X4_40 jc_13 rfl rfl rfl (Nat.le_of_ble_eq_true rfl) (Nat.le_of_ble_eq_true rfl) (Nat.le_of_ble_eq_true rfl) (J_eq (st := [.int (jB (x_fit N1 s k d = true))]) rfl ?_)
              refine J_topi (y := jB (x_fit M s k d = true)) (by rw [x_fit_cg (hG 14 (by decide)) (hG 15 (by decide)) (hG 16 (by decide))]) ?_
              refine J_ifB_eq hX 76 dX4_tally_38 (by decide) (fun h38 => ?_) (fun h38 => ?_)
              · skip
                refine J_iinc (v := nI (k + 1)) (loc' := [(3, .int (nI (k + 1))), (0, .ref (a 13)), (1, .int d), (2, .int (nI (x_cnt M s d k)))]) hX 3 dX4_tally_76 rfl (jinc k) (by decide) rfl ?_
                refine J_goto hX 25 dX4_tally_79 (by decide) ?_
                refine J_sub (loc' := [(0, .ref (a 13)), (1, .int d), (2, .int (nI (x_cnt M s d k))), (3, .int (nI (k + 1)))]) [1, 2, 3, 0] rfl ?_
                refine J_seti (y := nI (x_cnt M s d (k + 1))) (loc' := [(0, .ref (a 13)), (1, .int d), (2, .int (nI (x_cnt M s d (k + 1)))), (3, .int (nI (k + 1)))]) 2 rfl (by rw [x_cnt, if_neg h38]) rfl ?_
                exact ih25  (k + 1) N1 (by omega) (by omega) (fun c hc => by rw [x_un, if_neg h38]; exact hu c hc) hG
              · skip
                refine J_iinc (v := nI (x_cnt M s d k + 1)) (loc' := [(2, .int (nI (x_cnt M s d k + 1))), (0, .ref (a 13)), (1, .int d), (3, .int (nI k))]) hX 2 dX4_tally_41 rfl (jinc (x_cnt M s d k)) (by decide) rfl ?_
                refine J_iconst (v := 0) hX dX4_tally_44 (by decide) ?_
                refine J_istore (loc' := [(4, .int 0), (2, .int (nI (x_cnt M s d k + 1))), (0, .ref (a 13)), (1, .int d), (3, .int (nI k))]) hX dX4_tally_45 (by decide) rfl ?_
                have key47 : ∀ (fu47 : Nat) (c : Nat) (N2 : jM), 8 - c < fu47 → (c ≤ 8) → (∀ j, j < 8 → N2 17 j = if j < c then x_un M s d j (k + 1) else x_un M s d j k) → (x_fr17 M N2) → J l D a g G 5 N2 L 47 [(0, .ref (a 13)), (1, .int d), (2, .int (nI (x_cnt M s d k + 1))), (3, .int (nI k)), (4, .int (nI c))] [] := by
                  intro fu47
                  induction fu47 with
                  | zero => intro c N2 hmu; exact absurd hmu (Nat.not_lt_zero _)
                  | succ fu47 ih47 =>
                    intro c N2 hmu47 hc hv hH
                    refine J_iload hX 4 dX4_tally_47 rfl ?_
                    refine J_bipush (v := 8) hX dX4_tally_49 (by decide) ?_
                    refine J_cmpN_ge hX 76 c 8 dX4_tally_51 (by decide) rfl rfl (by omega) (by omega) (fun h51 => ?_) (fun h51 => ?_)
                    · skip
                      refine J_iinc (v := nI (k + 1)) (loc' := [(3, .int (nI (k + 1))), (0, .ref (a 13)), (1, .int d), (2, .int (nI (x_cnt M s d k + 1))), (4, .int (nI c))]) hX 3 dX4_tally_76 rfl (jinc k) (by decide) rfl ?_
                      refine J_goto hX 25 dX4_tally_79 (by decide) ?_
                      refine J_sub (loc' := [(0, .ref (a 13)), (1, .int d), (2, .int (nI (x_cnt M s d k + 1))), (3, .int (nI (k + 1)))]) [1, 2, 3, 0] rfl ?_
                      refine J_seti (y := nI (x_cnt M s d (k + 1))) (loc' := [(0, .ref (a 13)), (1, .int d), (2, .int (nI (x_cnt M s d (k + 1)))), (3, .int (nI (k + 1)))]) 2 rfl (by rw [x_cnt, if_pos h38]) rfl ?_
                      exact ih25  (k + 1) N2 (by omega) (by omega) (fun j hj => by rw [hv j hj, if_pos (by omega)]) hH
                    · skip
                      refine J_aload_n hX 0 dX4_tally_54 rfl ?_
                      refine J_getr hX 13 3 dX4_tally_55 jc_13 rfl rfl (by decide) inlX4 wm_3_9 ?_
                      refine J_iload hX 4 dX4_tally_58 rfl ?_
                      refine J_dup2 hX dX4_tally_60 rfl rfl ?_
                      refine J_iald hX 17 c dX4_tally_61 jc_17 rfl (by omega) (by omega) ?_
                      refine J_iload_n hX 3 dX4_tally_62 rfl ?_
                      refine J_iload hX 4 dX4_tally_63 rfl ?_
                      refine J_ishr hX dX4_tally_65 ?_
                      refine J_iconst (v := 1) hX dX4_tally_66 (by decide) ?_
                      refine J_iand hX dX4_tally_67 ?_
                      refine J_iadd hX dX4_tally_68 ?_
                      refine J_iast hX 17 c dX4_tally_69 jc_17 rfl (by omega) (by omega) ?_
                      refine J_iinc (v := nI (c + 1)) (loc' := [(4, .int (nI (c + 1))), (0, .ref (a 13)), (1, .int d), (2, .int (nI (x_cnt M s d k + 1))), (3, .int (nI k))]) hX 4 dX4_tally_70 rfl (jinc c) (by decide) rfl ?_
                      refine J_goto hX 47 dX4_tally_73 (by decide) ?_
                      refine J_sub (loc' := [(0, .ref (a 13)), (1, .int d), (2, .int (nI (x_cnt M s d k + 1))), (3, .int (nI k)), (4, .int (nI (c + 1)))]) [1, 2, 3, 4, 0] rfl ?_
                      refine J_cg (M' := (jU N2 17 c (N2 17 c + ((nI k >>> (nI c &&& 31)) &&& 1)))) (L' := L) rfl rfl rfl rfl ?_
                      exact ih47  (c + 1) (jU N2 17 c (N2 17 c + ((nI k >>> (nI c &&& 31)) &&& 1))) (by omega) (by omega) (fun j hj => by by_cases e : j = c; (subst e; rw [jU_same, hv j hj, if_neg (Nat.lt_irrefl j), if_pos (Nat.lt_succ_self j), x_un, if_pos h38]); (rw [jU_slot e, hv j hj]; by_cases q : j < c; (rw [if_pos q, if_pos (by omega)]); (rw [if_neg q, if_neg (by omega)]))) hH.u
                refine J_sub (loc' := [(0, .ref (a 13)), (1, .int d), (2, .int (nI (x_cnt M s d k + 1))), (3, .int (nI k)), (4, .int 0)]) [2, 3, 1, 4, 0] rfl ?_
                refine J_seti (y := nI 0) (loc' := [(0, .ref (a 13)), (1, .int d), (2, .int (nI (x_cnt M s d k + 1))), (3, .int (nI k)), (4, .int (nI 0))]) 4 rfl rfl rfl ?_
                exact key47 _ 0 N1 (Nat.lt_succ_self _) (by omega) (fun j hj => by rw [if_neg (Nat.not_lt_zero j)]; exact hu j hj) hG
        refine J_sub (loc' := [(0, .ref (a 13)), (1, .int d), (2, .int 0), (3, .int 0)]) [2, 3, 1, 0] rfl ?_
        refine J_seti (y := nI (x_cnt M s d 0)) (loc' := [(0, .ref (a 13)), (1, .int d), (2, .int (nI (x_cnt M s d 0))), (3, .int 0)]) 2 rfl rfl rfl ?_
        refine J_seti (y := nI 0) (loc' := [(0, .ref (a 13)), (1, .int d), (2, .int (nI (x_cnt M s d 0))), (3, .int (nI 0))]) 3 rfl rfl rfl ?_
        exact key25 _ 0 M' (Nat.lt_succ_self _) (by omega) (fun c hc => hz c (by omega)) hF
      · skip
        refine J_aload_n hX 0 dX4_tally_8 rfl ?_
        refine J_getr hX 13 3 dX4_tally_9 jc_13 rfl rfl (by decide) inlX4 wm_3_9 ?_
        refine J_iload_n hX 2 dX4_tally_12 rfl ?_
        refine J_iconst (v := 0) hX dX4_tally_13 (by decide) ?_
        refine J_iast hX 17 i dX4_tally_14 jc_17 rfl (by omega) (by omega) ?_
        refine J_iinc (v := nI (i + 1)) (loc' := [(2, .int (nI (i + 1))), (0, .ref (a 13)), (1, .int d)]) hX 2 dX4_tally_15 rfl (jinc i) (by decide) rfl ?_
        refine J_goto hX 2 dX4_tally_18 (by decide) ?_
        refine J_sub (loc' := [(0, .ref (a 13)), (1, .int d), (2, .int (nI (i + 1)))]) [1, 2, 0] rfl ?_
        refine J_cg (M' := (jU M' 17 i 0)) (L' := L) rfl rfl rfl rfl ?_
        exact ih2  (i + 1) (jU M' 17 i 0) (by omega) (by omega) (fun c hc => by by_cases e : c = i; (subst e; exact jU_same); (rw [jU_slot e]; exact hz c (by omega))) hF.u
  refine J_sub (loc' := [(0, .ref (a 13)), (1, .int d), (2, .int 0)]) [1, 2, 0] rfl ?_
  refine J_seti (y := nI 0) (loc' := [(0, .ref (a 13)), (1, .int d), (2, .int (nI 0))]) 2 rfl rfl rfl ?_
  exact key2 _ 0 M (Nat.lt_succ_self _) (by omega) (fun c h => absurd h (Nat.not_lt_zero c)) (fun _ _ => rfl)
def x_ml (u f : Int32) : Int32 := if u < f - u then f - u else u
set_option maxHeartbeats 4000000 in
set_option maxRecDepth 10000 in
theorem c_X4_mostLeft (l : Launch) (D : va_G) (a : Nat → Nat) (g : Nat → ClassId) (M : jM) (L : jL) (c : Nat) (hc : c < 8) (f : Int32)  : jK l D a g yX4_mostLeft cX4_mostLeft 3 (some .int) 1 30 [.ref (a 13), .int (nI c), .int f] M L (some (.int (x_ml (M 17 c) f))) M L := by
  refine jMeth (by decide) (Nat.le_of_ble_eq_true rfl) ?_
  intro G hX hZ
  refine J_cg (loc' := [(0, .ref (a 13)), (1, .int (nI c)), (2, .int f)]) rfl rfl rfl rfl ?_
  refine J_aload_n hX 0 dX4_mostLeft_0 rfl ?_
  refine J_getr hX 13 3 dX4_mostLeft_1 jc_13 rfl rfl (by decide) inlX4 wm_3_9 ?_
  refine J_iload_n hX 1 dX4_mostLeft_4 rfl ?_
  refine J_iald hX 17 c dX4_mostLeft_5 jc_17 rfl (by omega) (by omega) ?_
  refine J_iload_n hX 2 dX4_mostLeft_6 rfl ?_
  refine J_aload_n hX 0 dX4_mostLeft_7 rfl ?_
  refine J_getr hX 13 3 dX4_mostLeft_8 jc_13 rfl rfl (by decide) inlX4 wm_3_9 ?_
  refine J_iload_n hX 1 dX4_mostLeft_11 rfl ?_
  refine J_iald hX 17 c dX4_mostLeft_12 jc_17 rfl (by omega) (by omega) ?_
  refine J_isub hX dX4_mostLeft_13 ?_
  refine J_mmax hX dX4_mostLeft_14 wm_30_7 wm_22_23 wm_15_7 wm_23_0 (Nat.le_of_ble_eq_true rfl) (Nat.le_of_ble_eq_true rfl) ?_
  exact J_ret hX hZ dX4_mostLeft_17 rfl rfl ⟨rfl, rfl, rfl⟩
/-- the first chest of those below k + 1 that leaves fewest -/
def x_best (u : Nat → Int32) (f : Int32) : Nat → Nat
  | 0 => 0
  | k + 1 => if x_ml (u (x_best u f k)) f ≤ x_ml (u (k + 1)) f then x_best u f k else k + 1
theorem x_best_le (u : Nat → Int32) (f : Int32) (k : Nat) : x_best u f k ≤ k := by
  induction k with
  | zero => exact Nat.le_refl 0
  | succ k ih => rw [x_best]; split <;> omega
theorem x_best_cg {u u' : Nat → Int32} {f : Int32} : ∀ k, (∀ c, c ≤ k → u c = u' c) → x_best u f k = x_best u' f k := by
  intro k
  induction k with
  | zero => intro _; rfl
  | succ k ih =>
    intro h
    have e := ih (fun c hc => h c (by omega))
    have b := x_best_le u' f k
    rw [x_best, x_best, e, h (k + 1) (Nat.le_refl _), h _ (show x_best u' f k ≤ k + 1 by omega)]
def x_unF (M : jM) (s : Nat) (d : Int32) : Nat → Int32 := fun c => x_un M s d c 256
def x_count (M : jM) (s : Nat) (d k : Int32) : Int32 := if (0 ≤ d.toInt ∧ d.toInt ≤ 3) then (if (0 ≤ k.toInt ∧ k.toInt ≤ 1) then (if x_cnt M s d 256 = 0 then -6 else if k = 0 then nI (x_best (x_unF M s d) (nI (x_cnt M s d 256)) 7) else x_ml (x_unF M s d (x_best (x_unF M s d) (nI (x_cnt M s d 256)) 7)) (nI (x_cnt M s d 256))) else -2) else -2
set_option maxHeartbeats 4000000 in
set_option maxRecDepth 10000 in
theorem c_X7_count (l : Launch) (D : va_G) (a : Nat → Nat) (g : Nat → ClassId) (M : jM) (L : jL) (s : Nat) (hs : M 13 4 = nI s) (hs8 : s ≤ 8) (d k : Int32)  : jV l D a g yX7_count cX7_count 6 (some .int) 3 68 [.ref (a 0), .int d, .int k] M L (fun rv M1 L1 => rv = some (.int (x_count M s d k)) ∧ x_fr17 M M1 ∧ L1 = L) := by
  refine jMeth (by decide) (Nat.le_of_ble_eq_true rfl) ?_
  intro G hX hZ
  refine J_cg (loc' := [(0, .ref (a 0)), (1, .int d), (2, .int k)]) rfl rfl rfl rfl ?_
  refine J_iload_n hX 1 dX7_count_0 rfl ?_
  refine J_iconst (v := 0) hX dX7_count_1 (by decide) ?_
  refine J_iconst (v := 3) hX dX7_count_2 (by decide) ?_
  refine J_callS hX [.int d, .int 0, .int 3] [] dX7_count_3 (c_X7_within l D a g M L d 0 3) lk_X7_62 rfl rfl (Nat.le_of_ble_eq_true rfl) (Nat.le_of_ble_eq_true rfl) (Nat.le_of_ble_eq_true rfl) (J_eq (st := [.int (jB (0 ≤ d.toInt ∧ d.toInt ≤ 3))]) rfl ?_)
  refine J_ifB_eq hX 18 dX7_count_6 (by decide) (fun h6 => ?_) (fun h6 => ?_)
  · skip
    refine J_bipush (v := (-2)) hX dX7_count_18 (by decide) ?_
    exact J_ret hX hZ dX7_count_20 rfl rfl ⟨by rw [x_count]; (first | rw [if_pos h6] | rw [if_neg h6]), fun _ _ => rfl, rfl⟩
  · skip
    refine J_iload_n hX 2 dX7_count_9 rfl ?_
    refine J_iconst (v := 0) hX dX7_count_10 (by decide) ?_
    refine J_iconst (v := 1) hX dX7_count_11 (by decide) ?_
    refine J_callS hX [.int k, .int 0, .int 1] [] dX7_count_12 (c_X7_within l D a g M L k 0 1) lk_X7_62 rfl rfl (Nat.le_of_ble_eq_true rfl) (Nat.le_of_ble_eq_true rfl) (Nat.le_of_ble_eq_true rfl) (J_eq (st := [.int (jB (0 ≤ k.toInt ∧ k.toInt ≤ 1))]) rfl ?_)
    refine J_ifB_ne hX 21 dX7_count_15 (by decide) (fun h15 => ?_) (fun h15 => ?_)
    · skip
      refine J_aload_n hX 0 dX7_count_21 rfl ?_
      refine J_getr hX 0 1 dX7_count_22 jc_0 rfl rfl (by decide) inlX7 wm_1_19 ?_
      refine J_iload_n hX 1 dX7_count_25 rfl ?_
      refine J_callV hX 13 [.int d] [] dX7_count_26 (c_X4_tally l D a g M L s hs hs8 d) lk_X7_199 jc_13 rfl rfl rfl (Nat.le_of_ble_eq_true rfl) (Nat.le_of_ble_eq_true rfl) (Nat.le_of_ble_eq_true rfl) (fun rv26 M26 L26 hp26 => ?_)
      obtain ⟨rfl, hu, hF, eL⟩ := hp26
      have eL := eL.symm
      subst eL
      refine J_cg (st' := [.int (nI (x_cnt M s d 256))]) rfl rfl rfl rfl ?_
      refine J_istore_n (loc' := [(3, .int (nI (x_cnt M s d 256))), (0, .ref (a 0)), (1, .int d), (2, .int k)]) hX dX7_count_29 (by decide) rfl ?_
      refine J_iload_n hX 0 dX7_count_30 rfl ?_
      have ck := x_cnt_le M s d 256
      refine J_if_ne hX 37 dX7_count_31 (by decide) (fun h31 => ?_) (fun h31 => ?_)
      · skip
        refine J_iconst (v := 0) hX dX7_count_37 (by decide) ?_
        refine J_istore (loc' := [(4, .int 0), (3, .int (nI (x_cnt M s d 256))), (0, .ref (a 0)), (1, .int d), (2, .int k)]) hX dX7_count_38 (by decide) rfl ?_
        refine J_iconst (v := 1) hX dX7_count_40 (by decide) ?_
        refine J_istore (loc' := [(5, .int 1), (4, .int 0), (3, .int (nI (x_cnt M s d 256))), (0, .ref (a 0)), (1, .int d), (2, .int k)]) hX dX7_count_41 (by decide) rfl ?_
        have key43 : ∀ (fu43 : Nat) (i : Nat), 7 - i < fu43 → (i ≤ 7) → J l D a g G 6 M26 L 43 [(0, .ref (a 0)), (2, .int k), (3, .int (nI (x_cnt M s d 256))), (4, .int (nI (x_best (x_unF M s d) (nI (x_cnt M s d 256)) i))), (5, .int (nI (i + 1)))] [] := by
          intro fu43
          induction fu43 with
          | zero => intro i hmu; exact absurd hmu (Nat.not_lt_zero _)
          | succ fu43 ih43 =>
            intro i hmu43 hi
            have bl := x_best_le (x_unF M s d) (nI (x_cnt M s d 256)) i
            refine J_iload hX 4 dX7_count_43 rfl ?_
            refine J_bipush (v := 8) hX dX7_count_45 (by decide) ?_
            refine J_cmpN_ge hX 83 (i + 1) 8 dX7_count_47 (by decide) rfl rfl (by omega) (by omega) (fun h47 => ?_) (fun h47 => ?_)
            · skip
              have ei : i = 7 := by omega
              refine J_iload_n hX 1 dX7_count_83 rfl ?_
              refine J_if_ne hX 92 dX7_count_84 (by decide) (fun h84 => ?_) (fun h84 => ?_)
              · skip
                refine J_aload_n hX 0 dX7_count_92 rfl ?_
                refine J_getr hX 0 1 dX7_count_93 jc_0 rfl rfl (by decide) inlX7 wm_1_19 ?_
                refine J_iload hX 3 dX7_count_96 rfl ?_
                refine J_iload_n hX 2 dX7_count_98 rfl ?_
                refine J_callV hX 13 [.int (nI (x_best (x_unF M s d) (nI (x_cnt M s d 256)) i)), .int (nI (x_cnt M s d 256))] [] dX7_count_99 (c_X4_mostLeft l D a g M26 L (x_best (x_unF M s d) (nI (x_cnt M s d 256)) i) (by omega) (nI (x_cnt M s d 256))) lk_X7_202 jc_13 rfl rfl rfl (Nat.le_of_ble_eq_true rfl) (Nat.le_of_ble_eq_true rfl) (Nat.le_of_ble_eq_true rfl) (J_eq (st := [.int (x_ml (M26 17 (x_best (x_unF M s d) (nI (x_cnt M s d 256)) i)) (nI (x_cnt M s d 256)))]) rfl ?_)
                exact J_ret hX hZ dX7_count_102 rfl rfl ⟨by rw [x_count, if_pos h6, if_pos h15, if_neg (fun e => h31 (by rw [e]; rfl))]; (first | rw [if_pos h84] | rw [if_neg h84] | rw [if_pos (Classical.not_not.mp h84)]); rw [hu _ (by omega), ei]; rfl, hF, rfl⟩
              · skip
                refine J_iload hX 3 dX7_count_87 rfl ?_
                refine J_goto hX 102 dX7_count_89 (by decide) ?_
                exact J_ret hX hZ dX7_count_102 rfl rfl ⟨by rw [x_count, if_pos h6, if_pos h15, if_neg (fun e => h31 (by rw [e]; rfl))]; (first | rw [if_pos h84] | rw [if_neg h84] | rw [if_pos (Classical.not_not.mp h84)]); rw [ei], hF, rfl⟩
            · skip
              refine J_aload_n hX 0 dX7_count_50 rfl ?_
              refine J_getr hX 0 1 dX7_count_51 jc_0 rfl rfl (by decide) inlX7 wm_1_19 ?_
              refine J_iload hX 4 dX7_count_54 rfl ?_
              refine J_iload_n hX 2 dX7_count_56 rfl ?_
              refine J_callV hX 13 [.int (nI (i + 1)), .int (nI (x_cnt M s d 256))] [] dX7_count_57 (c_X4_mostLeft l D a g M26 L (i + 1) (by omega) (nI (x_cnt M s d 256))) lk_X7_202 jc_13 rfl rfl rfl (Nat.le_of_ble_eq_true rfl) (Nat.le_of_ble_eq_true rfl) (Nat.le_of_ble_eq_true rfl) (J_eq (st := [.int (x_ml (M26 17 (i + 1)) (nI (x_cnt M s d 256)))]) rfl ?_)
              refine J_topi (y := x_ml (x_unF M s d (i + 1)) (nI (x_cnt M s d 256))) (by rw [hu (i + 1) (by omega)]; rfl) ?_
              refine J_aload_n hX 0 dX7_count_60 rfl ?_
              refine J_getr hX 0 1 dX7_count_61 jc_0 rfl rfl (by decide) inlX7 wm_1_19 ?_
              refine J_iload hX 3 dX7_count_64 rfl ?_
              refine J_iload_n hX 2 dX7_count_66 rfl ?_
              refine J_callV hX 13 [.int (nI (x_best (x_unF M s d) (nI (x_cnt M s d 256)) i)), .int (nI (x_cnt M s d 256))] [.int (x_ml (x_unF M s d (i + 1)) (nI (x_cnt M s d 256)))] dX7_count_67 (c_X4_mostLeft l D a g M26 L (x_best (x_unF M s d) (nI (x_cnt M s d 256)) i) (by omega) (nI (x_cnt M s d 256))) lk_X7_202 jc_13 rfl rfl rfl (Nat.le_of_ble_eq_true rfl) (Nat.le_of_ble_eq_true rfl) (Nat.le_of_ble_eq_true rfl) (J_eq (st := [.int (x_ml (M26 17 (x_best (x_unF M s d) (nI (x_cnt M s d 256)) i)) (nI (x_cnt M s d 256))), .int (x_ml (x_unF M s d (i + 1)) (nI (x_cnt M s d 256)))]) rfl ?_)
              refine J_topi (y := x_ml (x_unF M s d (x_best (x_unF M s d) (nI (x_cnt M s d 256)) i)) (nI (x_cnt M s d 256))) (by rw [hu _ (by omega)]; rfl) ?_
              refine J_icmp_ge hX 77 dX7_count_70 (by decide) (fun h70 => ?_) (fun h70 => ?_)
              · skip
                refine J_iinc (v := nI (i + 1 + 1)) (loc' := [(5, .int (nI (i + 1 + 1))), (0, .ref (a 0)), (2, .int k), (3, .int (nI (x_cnt M s d 256))), (4, .int (nI (x_best (x_unF M s d) (nI (x_cnt M s d 256)) i)))]) hX 4 dX7_count_77 rfl (jinc (i + 1)) (by decide) rfl ?_
                refine J_goto hX 43 dX7_count_80 (by decide) ?_
                refine J_sub (loc' := [(0, .ref (a 0)), (2, .int k), (3, .int (nI (x_cnt M s d 256))), (4, .int (nI (x_best (x_unF M s d) (nI (x_cnt M s d 256)) i))), (5, .int (nI (i + 1 + 1)))]) [1, 2, 3, 4, 0] rfl ?_
                refine J_seti (y := nI (x_best (x_unF M s d) (nI (x_cnt M s d 256)) (i + 1))) (loc' := [(0, .ref (a 0)), (2, .int k), (3, .int (nI (x_cnt M s d 256))), (4, .int (nI (x_best (x_unF M s d) (nI (x_cnt M s d 256)) (i + 1)))), (5, .int (nI (i + 1 + 1)))]) 3 rfl (by rw [x_best]; (first | rw [if_pos h70] | rw [if_neg h70])) rfl ?_
                refine J_seti (y := nI ((i + 1) + 1)) (loc' := [(0, .ref (a 0)), (2, .int k), (3, .int (nI (x_cnt M s d 256))), (4, .int (nI (x_best (x_unF M s d) (nI (x_cnt M s d 256)) (i + 1)))), (5, .int (nI ((i + 1) + 1)))]) 4 rfl rfl rfl ?_
                exact ih43  (i + 1) (by omega) (by omega)
              · skip
                refine J_iload hX 4 dX7_count_73 rfl ?_
                refine J_istore (loc' := [(4, .int (nI (i + 1))), (0, .ref (a 0)), (2, .int k), (3, .int (nI (x_cnt M s d 256))), (5, .int (nI (i + 1)))]) hX dX7_count_75 (by decide) rfl ?_
                refine J_iinc (v := nI (i + 1 + 1)) (loc' := [(5, .int (nI (i + 1 + 1))), (4, .int (nI (i + 1))), (0, .ref (a 0)), (2, .int k), (3, .int (nI (x_cnt M s d 256)))]) hX 4 dX7_count_77 rfl (jinc (i + 1)) (by decide) rfl ?_
                refine J_goto hX 43 dX7_count_80 (by decide) ?_
                refine J_sub (loc' := [(0, .ref (a 0)), (2, .int k), (3, .int (nI (x_cnt M s d 256))), (4, .int (nI (i + 1))), (5, .int (nI (i + 1 + 1)))]) [2, 3, 4, 1, 0] rfl ?_
                refine J_seti (y := nI (x_best (x_unF M s d) (nI (x_cnt M s d 256)) (i + 1))) (loc' := [(0, .ref (a 0)), (2, .int k), (3, .int (nI (x_cnt M s d 256))), (4, .int (nI (x_best (x_unF M s d) (nI (x_cnt M s d 256)) (i + 1)))), (5, .int (nI (i + 1 + 1)))]) 3 rfl (by rw [x_best]; (first | rw [if_pos h70] | rw [if_neg h70])) rfl ?_
                refine J_seti (y := nI ((i + 1) + 1)) (loc' := [(0, .ref (a 0)), (2, .int k), (3, .int (nI (x_cnt M s d 256))), (4, .int (nI (x_best (x_unF M s d) (nI (x_cnt M s d 256)) (i + 1)))), (5, .int (nI ((i + 1) + 1)))]) 4 rfl rfl rfl ?_
                exact ih43  (i + 1) (by omega) (by omega)
        refine J_sub (loc' := [(0, .ref (a 0)), (2, .int k), (3, .int (nI (x_cnt M s d 256))), (4, .int 0), (5, .int 1)]) [3, 5, 2, 1, 0] rfl ?_
        refine J_seti (y := nI (x_best (x_unF M s d) (nI (x_cnt M s d 256)) 0)) (loc' := [(0, .ref (a 0)), (2, .int k), (3, .int (nI (x_cnt M s d 256))), (4, .int (nI (x_best (x_unF M s d) (nI (x_cnt M s d 256)) 0))), (5, .int 1)]) 3 rfl rfl rfl ?_
        refine J_seti (y := nI (0 + 1)) (loc' := [(0, .ref (a 0)), (2, .int k), (3, .int (nI (x_cnt M s d 256))), (4, .int (nI (x_best (x_unF M s d) (nI (x_cnt M s d 256)) 0))), (5, .int (nI (0 + 1)))]) 4 rfl rfl rfl ?_
        exact key43 _ 0 (Nat.lt_succ_self _) (by omega)
      · skip
        refine J_bipush (v := (-6)) hX dX7_count_34 (by decide) ?_
        exact J_ret hX hZ dX7_count_36 rfl rfl ⟨by rw [x_count, if_pos h6, if_pos h15, if_pos ((nI_eq (by omega) (by omega)).mp (by first | exact h31 | exact Classical.not_not.mp h31))], hF, rfl⟩
    · skip
      refine J_bipush (v := (-2)) hX dX7_count_18 (by decide) ?_
      exact J_ret hX hZ dX7_count_20 rfl rfl ⟨by rw [x_count]; (first | rw [if_pos h6] | rw [if_neg h6]); (first | rw [if_pos h15] | rw [if_neg h15]), fun _ _ => rfl, rfl⟩
