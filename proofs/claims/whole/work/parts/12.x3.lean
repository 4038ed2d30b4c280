set_option maxHeartbeats 4000000 in
set_option maxRecDepth 10000 in
theorem c_X1_isLetter (l : Launch) (D : va_G) (a : Nat → Nat) (g : Nat → ClassId) (M : jM) (L : jL) (s : Int32)  : jK l D a g yX1_isLetter cX1_isLetter 1 (some .boolean) 1 22 [.int s] M L (some (.int (jB (65 ≤ s.toInt ∧ s.toInt ≤ 70)))) M L := by
  refine jMeth (by decide) (Nat.le_of_ble_eq_true rfl) ?_
  intro G hX hZ
  refine J_cg (loc' := [(0, .int s)]) rfl rfl rfl rfl ?_
  refine J_iload_n hX 0 dX1_isLetter_0 rfl ?_
  refine J_bipush (v := 65) hX dX1_isLetter_1 (by decide) ?_
  refine J_bipush (v := 70) hX dX1_isLetter_3 (by decide) ?_
  refine J_callN hX [.int s, .int 65, .int 70] [] dX1_isLetter_5 (c_X7_within l D a g M L s 65 70) lk_X1_27 hX.2.2.2.2.2.2.1.1 rfl rfl (Nat.le_of_ble_eq_true rfl) (Nat.le_of_ble_eq_true rfl) (Nat.le_of_ble_eq_true rfl) (J_eq (st := [.int (jB (65 ≤ s.toInt ∧ s.toInt ≤ 70))]) rfl ?_)
  exact J_ret hX hZ dX1_isLetter_8 rfl (jB_nar _) ⟨rfl, rfl, rfl⟩
def x_nDeed (s : Int32) : Int32 := if s = 36 then 4 else if s = 47 then 1 else if s = 62 then 5 else if s = 64 then 1 else 6
def x_nFirst (s : Int32) : Int32 := if s = 33 then 2 else if s = 43 then 1 else if s = 46 then 0 else if 65 ≤ s.toInt ∧ s.toInt ≤ 70 then 3 else 6
def x_next (k s : Int32) : Int32 := if k = 0 then x_nFirst s else if k = 1 then (if 49 ≤ s.toInt ∧ s.toInt ≤ 57 then 0 else 6) else if k = 2 then (if 65 ≤ s.toInt ∧ s.toInt ≤ 70 then 1 else 6) else if k = 3 then x_nDeed s else if k = 4 then (if 48 ≤ s.toInt ∧ s.toInt ≤ 55 then 0 else 6) else if 65 ≤ s.toInt ∧ s.toInt ≤ 70 then 0 else 6
set_option maxHeartbeats 4000000 in
set_option maxRecDepth 10000 in
theorem c_X1_nextBehindDeed (l : Launch) (D : va_G) (a : Nat → Nat) (g : Nat → ClassId) (M : jM) (L : jL) (s : Int32)  : jK l D a g yX1_nextBehindDeed cX1_nextBehindDeed 1 (some .int) 0 0 [.int s] M L (some (.int (x_nDeed s))) M L := by
  refine jMeth (by decide) (Nat.le_of_ble_eq_true rfl) ?_
  intro G hX hZ
  refine J_cg (loc' := [(0, .int s)]) rfl rfl rfl rfl ?_
  refine J_iload_n hX 0 dX1_nextBehindDeed_0 rfl ?_
  by_cases s1_36 : s = 36
  · refine J_lookup (off := 43) hX 44 dX1_nextBehindDeed_1 rfl (by rw [s1_36]; first | done | rfl) (by decide) ?_
    refine J_iconst (v := 4) hX dX1_nextBehindDeed_44 (by decide) ?_
    exact J_ret hX hZ dX1_nextBehindDeed_45 rfl rfl ⟨by simp [x_nDeed, s1_36], rfl, rfl⟩
  by_cases s1_47 : s = 47
  · refine J_lookup (off := 47) hX 48 dX1_nextBehindDeed_1 rfl (by rw [s1_47]; first | done | rfl) (by decide) ?_
    refine J_iconst (v := 1) hX dX1_nextBehindDeed_48 (by decide) ?_
    exact J_ret hX hZ dX1_nextBehindDeed_49 rfl rfl ⟨by simp [x_nDeed, s1_36, s1_47], rfl, rfl⟩
  by_cases s1_62 : s = 62
  · refine J_lookup (off := 45) hX 46 dX1_nextBehindDeed_1 rfl (by rw [s1_62]; first | done | rfl) (by decide) ?_
    refine J_iconst (v := 5) hX dX1_nextBehindDeed_46 (by decide) ?_
    exact J_ret hX hZ dX1_nextBehindDeed_47 rfl rfl ⟨by simp [x_nDeed, s1_36, s1_47, s1_62], rfl, rfl⟩
  by_cases s1_64 : s = 64
  · refine J_lookup (off := 47) hX 48 dX1_nextBehindDeed_1 rfl (by rw [s1_64]; first | done | rfl) (by decide) ?_
    refine J_iconst (v := 1) hX dX1_nextBehindDeed_48 (by decide) ?_
    exact J_ret hX hZ dX1_nextBehindDeed_49 rfl rfl ⟨by simp [x_nDeed, s1_36, s1_47, s1_62, s1_64], rfl, rfl⟩
  refine J_lookup (off := 49) hX 50 dX1_nextBehindDeed_1 rfl (by show Op.lookupswitch.offset [(36, 43), (47, 47), (62, 45), (64, 47)] 49 _ = _; rw [lv_osw (a := 36) s1_36 rfl, lv_osw (a := 47) s1_47 rfl, lv_osw (a := 62) s1_62 rfl, lv_osw (a := 64) s1_64 rfl]; first | done | rfl) (by decide) ?_
  refine J_bipush (v := 6) hX dX1_nextBehindDeed_50 (by decide) ?_
  exact J_ret hX hZ dX1_nextBehindDeed_52 rfl rfl ⟨by simp [x_nDeed, s1_36, s1_47, s1_62, s1_64], rfl, rfl⟩
set_option maxHeartbeats 4000000 in
set_option maxRecDepth 10000 in
theorem c_X1_nextBehindFirst (l : Launch) (D : va_G) (a : Nat → Nat) (g : Nat → ClassId) (M : jM) (L : jL) (s : Int32)  : jK l D a g yX1_nextBehindFirst cX1_nextBehindFirst 1 (some .int) 2 42 [.int s] M L (some (.int (x_nFirst s))) M L := by
  refine jMeth (by decide) (Nat.le_of_ble_eq_true rfl) ?_
  intro G hX hZ
  refine J_cg (loc' := [(0, .int s)]) rfl rfl rfl rfl ?_
  refine J_iload_n hX 0 dX1_nextBehindFirst_0 rfl ?_
  by_cases s1_33 : s = 33
  · refine J_lookup (off := 39) hX 40 dX1_nextBehindFirst_1 rfl (by rw [s1_33]; first | done | rfl) (by decide) ?_
    refine J_iconst (v := 2) hX dX1_nextBehindFirst_40 (by decide) ?_
    exact J_ret hX hZ dX1_nextBehindFirst_41 rfl rfl ⟨by simp [x_nFirst, s1_33], rfl, rfl⟩
  by_cases s1_43 : s = 43
  · refine J_lookup (off := 37) hX 38 dX1_nextBehindFirst_1 rfl (by rw [s1_43]; first | done | rfl) (by decide) ?_
    refine J_iconst (v := 1) hX dX1_nextBehindFirst_38 (by decide) ?_
    exact J_ret hX hZ dX1_nextBehindFirst_39 rfl rfl ⟨by simp [x_nFirst, s1_33, s1_43], rfl, rfl⟩
  by_cases s1_46 : s = 46
  · refine J_lookup (off := 35) hX 36 dX1_nextBehindFirst_1 rfl (by rw [s1_46]; first | done | rfl) (by decide) ?_
    refine J_iconst (v := 0) hX dX1_nextBehindFirst_36 (by decide) ?_
    exact J_ret hX hZ dX1_nextBehindFirst_37 rfl rfl ⟨by simp [x_nFirst, s1_33, s1_43, s1_46], rfl, rfl⟩
  refine J_lookup (off := 41) hX 42 dX1_nextBehindFirst_1 rfl (by show Op.lookupswitch.offset [(33, 39), (43, 37), (46, 35)] 41 _ = _; rw [lv_osw (a := 33) s1_33 rfl, lv_osw (a := 43) s1_43 rfl, lv_osw (a := 46) s1_46 rfl]; first | done | rfl) (by decide) ?_
  refine J_iload_n hX 0 dX1_nextBehindFirst_42 rfl ?_
  refine J_callS hX [.int s] [] dX1_nextBehindFirst_43 (c_X1_isLetter l D a g M L s) lk_X1_31 rfl rfl (Nat.le_of_ble_eq_true rfl) (Nat.le_of_ble_eq_true rfl) (Nat.le_of_ble_eq_true rfl) (J_eq (st := [.int (jB (65 ≤ s.toInt ∧ s.toInt ≤ 70))]) rfl ?_)
  refine J_ifB_eq hX 53 dX1_nextBehindFirst_46 (by decide) (fun h46 => ?_) (fun h46 => ?_)
  · skip
    refine J_bipush (v := 6) hX dX1_nextBehindFirst_53 (by decide) ?_
    exact J_ret hX hZ dX1_nextBehindFirst_55 rfl rfl ⟨by simp [x_nFirst, s1_33, s1_43, s1_46, h46], rfl, rfl⟩
  · skip
    refine J_iconst (v := 3) hX dX1_nextBehindFirst_49 (by decide) ?_
    refine J_goto hX 55 dX1_nextBehindFirst_50 (by decide) ?_
    exact J_ret hX hZ dX1_nextBehindFirst_55 rfl rfl ⟨by simp [x_nFirst, s1_33, s1_43, s1_46, h46], rfl, rfl⟩
set_option maxHeartbeats 4000000 in
set_option maxRecDepth 10000 in
theorem c_X1_nextBehind (l : Launch) (D : va_G) (a : Nat → Nat) (g : Nat → ClassId) (M : jM) (L : jL) (k s : Int32)  : jK l D a g yX1_nextBehind cX1_nextBehind 2 (some .int) 3 62 [.int k, .int s] M L (some (.int (x_next k s))) M L := by
  refine jMeth (by decide) (Nat.le_of_ble_eq_true rfl) ?_
  intro G hX hZ
  refine J_cg (loc' := [(0, .int k), (1, .int s)]) rfl rfl rfl rfl ?_
  refine J_iload_n hX 0 dX1_nextBehind_0 rfl ?_
  by_cases s1_0 : k = 0
  · refine J_tableIn hX 36 dX1_nextBehind_1 (by rw [s1_0]; decide) (by rw [s1_0]; decide) (by rw [s1_0]; rfl) (by decide) ?_
    refine J_iload_n hX 1 dX1_nextBehind_36 rfl ?_
    refine J_callS hX [.int s] [] dX1_nextBehind_37 (c_X1_nextBehindFirst l D a g M L s) lk_X1_23 rfl rfl (Nat.le_of_ble_eq_true rfl) (Nat.le_of_ble_eq_true rfl) (Nat.le_of_ble_eq_true rfl) (J_eq (st := [.int (x_nFirst s)]) rfl ?_)
    exact J_ret hX hZ dX1_nextBehind_40 rfl rfl ⟨by simp [x_next, s1_0], rfl, rfl⟩
  by_cases s1_1 : k = 1
  · refine J_tableIn hX 41 dX1_nextBehind_1 (by rw [s1_1]; decide) (by rw [s1_1]; decide) (by rw [s1_1]; rfl) (by decide) ?_
    refine J_iload_n hX 1 dX1_nextBehind_41 rfl ?_
    refine J_bipush (v := 49) hX dX1_nextBehind_42 (by decide) ?_
    refine J_bipush (v := 57) hX dX1_nextBehind_44 (by decide) ?_
    refine J_callN hX [.int s, .int 49, .int 57] [] dX1_nextBehind_46 (c_X7_within l D a g M L s 49 57) lk_X1_27 hX.2.2.2.2.2.2.1.1 rfl rfl (Nat.le_of_ble_eq_true rfl) (Nat.le_of_ble_eq_true rfl) (Nat.le_of_ble_eq_true rfl) (J_eq (st := [.int (jB (49 ≤ s.toInt ∧ s.toInt ≤ 57))]) rfl ?_)
    refine J_ifB_eq hX 56 dX1_nextBehind_49 (by decide) (fun h49 => ?_) (fun h49 => ?_)
    · skip
      refine J_bipush (v := 6) hX dX1_nextBehind_56 (by decide) ?_
      exact J_ret hX hZ dX1_nextBehind_58 rfl rfl ⟨by simp [x_next, s1_0, s1_1, h49], rfl, rfl⟩
    · skip
      refine J_iconst (v := 0) hX dX1_nextBehind_52 (by decide) ?_
      refine J_goto hX 58 dX1_nextBehind_53 (by decide) ?_
      exact J_ret hX hZ dX1_nextBehind_58 rfl rfl ⟨by simp [x_next, s1_0, s1_1, h49], rfl, rfl⟩
  by_cases s1_2 : k = 2
  · refine J_tableIn hX 59 dX1_nextBehind_1 (by rw [s1_2]; decide) (by rw [s1_2]; decide) (by rw [s1_2]; rfl) (by decide) ?_
    refine J_iload_n hX 1 dX1_nextBehind_59 rfl ?_
    refine J_callS hX [.int s] [] dX1_nextBehind_60 (c_X1_isLetter l D a g M L s) lk_X1_31 rfl rfl (Nat.le_of_ble_eq_true rfl) (Nat.le_of_ble_eq_true rfl) (Nat.le_of_ble_eq_true rfl) (J_eq (st := [.int (jB (65 ≤ s.toInt ∧ s.toInt ≤ 70))]) rfl ?_)
    refine J_ifB_eq hX 70 dX1_nextBehind_63 (by decide) (fun h63 => ?_) (fun h63 => ?_)
    · skip
      refine J_bipush (v := 6) hX dX1_nextBehind_70 (by decide) ?_
      exact J_ret hX hZ dX1_nextBehind_72 rfl rfl ⟨by simp [x_next, s1_0, s1_1, s1_2, h63], rfl, rfl⟩
    · skip
      refine J_iconst (v := 1) hX dX1_nextBehind_66 (by decide) ?_
      refine J_goto hX 72 dX1_nextBehind_67 (by decide) ?_
      exact J_ret hX hZ dX1_nextBehind_72 rfl rfl ⟨by simp [x_next, s1_0, s1_1, s1_2, h63], rfl, rfl⟩
  by_cases s1_3 : k = 3
  · refine J_tableIn hX 73 dX1_nextBehind_1 (by rw [s1_3]; decide) (by rw [s1_3]; decide) (by rw [s1_3]; rfl) (by decide) ?_
    refine J_iload_n hX 1 dX1_nextBehind_73 rfl ?_
    refine J_callS hX [.int s] [] dX1_nextBehind_74 (c_X1_nextBehindDeed l D a g M L s) lk_X1_35 rfl rfl (Nat.le_of_ble_eq_true rfl) (Nat.le_of_ble_eq_true rfl) (Nat.le_of_ble_eq_true rfl) (J_eq (st := [.int (x_nDeed s)]) rfl ?_)
    exact J_ret hX hZ dX1_nextBehind_77 rfl rfl ⟨by simp [x_next, s1_0, s1_1, s1_2, s1_3], rfl, rfl⟩
  by_cases s1_4 : k = 4
  · refine J_tableIn hX 78 dX1_nextBehind_1 (by rw [s1_4]; decide) (by rw [s1_4]; decide) (by rw [s1_4]; rfl) (by decide) ?_
    refine J_iload_n hX 1 dX1_nextBehind_78 rfl ?_
    refine J_bipush (v := 48) hX dX1_nextBehind_79 (by decide) ?_
    refine J_bipush (v := 55) hX dX1_nextBehind_81 (by decide) ?_
    refine J_callN hX [.int s, .int 48, .int 55] [] dX1_nextBehind_83 (c_X7_within l D a g M L s 48 55) lk_X1_27 hX.2.2.2.2.2.2.1.1 rfl rfl (Nat.le_of_ble_eq_true rfl) (Nat.le_of_ble_eq_true rfl) (Nat.le_of_ble_eq_true rfl) (J_eq (st := [.int (jB (48 ≤ s.toInt ∧ s.toInt ≤ 55))]) rfl ?_)
    refine J_ifB_eq hX 93 dX1_nextBehind_86 (by decide) (fun h86 => ?_) (fun h86 => ?_)
    · skip
      refine J_bipush (v := 6) hX dX1_nextBehind_93 (by decide) ?_
      exact J_ret hX hZ dX1_nextBehind_95 rfl rfl ⟨by simp [x_next, s1_0, s1_1, s1_2, s1_3, s1_4, h86], rfl, rfl⟩
    · skip
      refine J_iconst (v := 0) hX dX1_nextBehind_89 (by decide) ?_
      refine J_goto hX 95 dX1_nextBehind_90 (by decide) ?_
      exact J_ret hX hZ dX1_nextBehind_95 rfl rfl ⟨by simp [x_next, s1_0, s1_1, s1_2, s1_3, s1_4, h86], rfl, rfl⟩
  have t1_0 := lv_neT s1_0 (show (0 : Int32).toInt = 0 from rfl)
  have t1_1 := lv_neT s1_1 (show (1 : Int32).toInt = 1 from rfl)
  have t1_2 := lv_neT s1_2 (show (2 : Int32).toInt = 2 from rfl)
  have t1_3 := lv_neT s1_3 (show (3 : Int32).toInt = 3 from rfl)
  have t1_4 := lv_neT s1_4 (show (4 : Int32).toInt = 4 from rfl)
  refine J_tableOut hX 96 dX1_nextBehind_1 (by omega) (by decide) ?_
  refine J_iload_n hX 1 dX1_nextBehind_96 rfl ?_
  refine J_callS hX [.int s] [] dX1_nextBehind_97 (c_X1_isLetter l D a g M L s) lk_X1_31 rfl rfl (Nat.le_of_ble_eq_true rfl) (Nat.le_of_ble_eq_true rfl) (Nat.le_of_ble_eq_true rfl) (J_eq (st := [.int (jB (65 ≤ s.toInt ∧ s.toInt ≤ 70))]) rfl ?_)
  refine J_ifB_eq hX 107 dX1_nextBehind_100 (by decide) (fun h100 => ?_) (fun h100 => ?_)
  · skip
    refine J_bipush (v := 6) hX dX1_nextBehind_107 (by decide) ?_
    exact J_ret hX hZ dX1_nextBehind_109 rfl rfl ⟨by simp [x_next, s1_0, s1_1, s1_2, s1_3, s1_4, h100], rfl, rfl⟩
  · skip
    refine J_iconst (v := 0) hX dX1_nextBehind_103 (by decide) ?_
    refine J_goto hX 109 dX1_nextBehind_104 (by decide) ?_
    exact J_ret hX hZ dX1_nextBehind_109 rfl rfl ⟨by simp [x_next, s1_0, s1_1, s1_2, s1_3, s1_4, h100], rfl, rfl⟩
/-- what must come behind i signs -/
def x_scan (f : Nat → Int32) : Nat → Int32
  | 0 => 0
  | i + 1 => x_next (x_scan f i) (f i)
def x_fp (f : Nat → Int32) (n : Nat) : Nat → Nat → Int32
  | 0, i => if x_scan f i = 0 then -6 else nI n
  | k + 1, i => if x_scan f (i + 1) = 6 then nI i else x_fp f n k (i + 1)
def x_fault (f : Nat → Int32) (n : Nat) : Int32 := x_fp f n n 0
theorem x_fp_step {f : Nat → Int32} {n i : Nat} (h : i < n) (h6 : ¬ x_scan f (i + 1) = 6) : x_fp f n (n - i) i = x_fp f n (n - (i + 1)) (i + 1) := by
  rw [show n - i = (n - (i + 1)) + 1 by omega, x_fp, if_neg h6]
theorem x_fp_at {f : Nat → Int32} {n i : Nat} (h : i < n) (h6 : x_scan f (i + 1) = 6) : x_fp f n (n - i) i = nI i := by
  rw [show n - i = (n - (i + 1)) + 1 by omega, x_fp, if_pos h6]
theorem x_fp_end {f : Nat → Int32} {n i : Nat} (h : i = n) : x_fp f n (n - i) i = if x_scan f n = 0 then -6 else nI n := by
  subst h
  rw [Nat.sub_self, x_fp]
set_option maxHeartbeats 4000000 in
set_option maxRecDepth 10000 in
theorem c_X1_faultPlace (l : Launch) (D : va_G) (a : Nat → Nat) (g : Nat → ClassId) (M : jM) (L : jL) (n : Nat) (hn : M 18 1 = nI n) (hn60 : n ≤ 60)  : jK l D a g yX1_faultPlace cX1_faultPlace 3 (some .int) 4 83 [.ref (a 18)] M L (some (.int (x_fault (M 19) n))) M L := by
  refine jMeth (by decide) (Nat.le_of_ble_eq_true rfl) ?_
  intro G hX hZ
  refine J_cg (loc' := [(0, .ref (a 18))]) rfl rfl rfl rfl ?_
  refine J_iconst (v := 0) hX dX1_faultPlace_0 (by decide) ?_
  refine J_istore_n (loc' := [(1, .int 0), (0, .ref (a 18))]) hX dX1_faultPlace_1 (by decide) rfl ?_
  refine J_iconst (v := 0) hX dX1_faultPlace_2 (by decide) ?_
  refine J_istore_n (loc' := [(2, .int 0), (1, .int 0), (0, .ref (a 18))]) hX dX1_faultPlace_3 (by decide) rfl ?_
  have key4 : ∀ (fu4 : Nat) (i : Nat), n - i < fu4 → i ≤ n → x_fault (M 19) n = x_fp (M 19) n (n - i) i → J l D a g G 3 M L 4 [(0, .ref (a 18)), (1, .int (x_scan (M 19) i)), (2, .int (nI i))] [] := by
    intro fu4
    induction fu4 with
    | zero => intro i hmu; exact absurd hmu (Nat.not_lt_zero _)
    | succ fu4 ih4 =>
      intro i hmu4 hi he
      refine J_iload_n hX 2 dX1_faultPlace_4 rfl ?_
      refine J_aload_n hX 0 dX1_faultPlace_5 rfl ?_
      refine J_geti hX 18 1 dX1_faultPlace_6 jc_18 rfl rfl (by decide) inlX1 wm_8_15 ?_
      refine J_topi (y := nI n) hn ?_
      refine J_cmpN_ge hX 37 i n dX1_faultPlace_9 (by decide) rfl rfl (by omega) (by omega) (fun h9 => ?_) (fun h9 => ?_)
      · skip
        refine J_iload_n hX 1 dX1_faultPlace_37 rfl ?_
        refine J_if_ne hX 46 dX1_faultPlace_38 (by decide) (fun h38 => ?_) (fun h38 => ?_)
        · skip
          refine J_aload_n hX 0 dX1_faultPlace_46 rfl ?_
          refine J_geti hX 18 1 dX1_faultPlace_47 jc_18 rfl rfl (by decide) inlX1 wm_8_15 ?_
          exact J_ret hX hZ dX1_faultPlace_50 rfl rfl ⟨by rw [he, x_fp_end (show i = n by omega), if_neg (by rw [← show i = n by omega]; exact h38), hn], rfl, rfl⟩
        · skip
          refine J_bipush (v := (-6)) hX dX1_faultPlace_41 (by decide) ?_
          refine J_goto hX 50 dX1_faultPlace_43 (by decide) ?_
          exact J_ret hX hZ dX1_faultPlace_50 rfl rfl ⟨by rw [he, x_fp_end (show i = n by omega), if_pos (by first | (rw [← show i = n by omega]; exact h38) | (rw [← show i = n by omega]; exact Classical.not_not.mp h38))], rfl, rfl⟩
      · skip
        refine J_iload_n hX 1 dX1_faultPlace_12 rfl ?_
        refine J_aload_n hX 0 dX1_faultPlace_13 rfl ?_
        refine J_getr hX 18 0 dX1_faultPlace_14 jc_18 rfl rfl (by decide) inlX1 wm_3_13 ?_
        refine J_iload_n hX 2 dX1_faultPlace_17 rfl ?_
        refine J_iald hX 19 i dX1_faultPlace_18 jc_19 rfl (by omega) (by omega) ?_
        refine J_callS hX [.int (x_scan (M 19) i), .int (M 19 i)] [] dX1_faultPlace_19 (c_X1_nextBehind l D a g M L (x_scan (M 19) i) (M 19 i)) lk_X1_19 rfl rfl (Nat.le_of_ble_eq_true rfl) (Nat.le_of_ble_eq_true rfl) (Nat.le_of_ble_eq_true rfl) (J_eq (st := [.int (x_next (x_scan (M 19) i) (M 19 i))]) rfl ?_)
        refine J_topi (y := x_scan (M 19) (i + 1)) rfl ?_
        refine J_istore_n (loc' := [(1, .int (x_scan (M 19) (i + 1))), (0, .ref (a 18)), (2, .int (nI i))]) hX dX1_faultPlace_22 (by decide) rfl ?_
        refine J_iload_n hX 0 dX1_faultPlace_23 rfl ?_
        refine J_bipush (v := 6) hX dX1_faultPlace_24 (by decide) ?_
        refine J_icmp_ne hX 31 dX1_faultPlace_26 (by decide) (fun h26 => ?_) (fun h26 => ?_)
        · skip
          refine J_iinc (v := nI (i + 1)) (loc' := [(2, .int (nI (i + 1))), (1, .int (x_scan (M 19) (i + 1))), (0, .ref (a 18))]) hX 2 dX1_faultPlace_31 rfl (jinc i) (by decide) rfl ?_
          refine J_goto hX 4 dX1_faultPlace_34 (by decide) ?_
          refine J_sub (loc' := [(0, .ref (a 18)), (1, .int (x_scan (M 19) (i + 1))), (2, .int (nI (i + 1)))]) [2, 1, 0] rfl ?_
          exact ih4  (i + 1) (by omega) (by omega) (he.trans (x_fp_step h9 h26))
        · skip
          refine J_iload_n hX 2 dX1_faultPlace_29 rfl ?_
          exact J_ret hX hZ dX1_faultPlace_30 rfl rfl ⟨by rw [he, x_fp_at h9 (by first | exact h26 | exact Classical.not_not.mp h26)], rfl, rfl⟩
  refine J_sub (loc' := [(0, .ref (a 18)), (1, .int 0), (2, .int 0)]) [2, 1, 0] rfl ?_
  refine J_seti (y := x_scan (M 19) 0) (loc' := [(0, .ref (a 18)), (1, .int (x_scan (M 19) 0)), (2, .int 0)]) 1 rfl rfl rfl ?_
  refine J_seti (y := nI 0) (loc' := [(0, .ref (a 18)), (1, .int (x_scan (M 19) 0)), (2, .int (nI 0))]) 2 rfl rfl rfl ?_
  exact key4 _ 0 (Nat.lt_succ_self _) (by omega) rfl
def x_sg (M : jM) (n p : Nat) : Int32 := if p < n then M 19 p else 0
set_option maxHeartbeats 4000000 in
set_option maxRecDepth 10000 in
theorem c_X1_signAt (l : Launch) (D : va_G) (a : Nat → Nat) (g : Nat → ClassId) (M : jM) (L : jL) (n : Nat) (hn : M 18 1 = nI n) (hn60 : n ≤ 60) (p : Nat) (hp : p < 1000)  : jK l D a g yX1_signAt cX1_signAt 2 (some .int) 0 0 [.ref (a 18), .int (nI p)] M L (some (.int (x_sg M n p))) M L := by
  refine jMeth (by decide) (Nat.le_of_ble_eq_true rfl) ?_
  intro G hX hZ
  refine J_cg (loc' := [(0, .ref (a 18)), (1, .int (nI p))]) rfl rfl rfl rfl ?_
  refine J_iload_n hX 1 dX1_signAt_0 rfl ?_
  refine J_if_lt hX 21 dX1_signAt_1 (by decide) (fun h1 => absurd h1 (nI_pos (by omega))) (fun h1 => ?_)
  refine J_iload_n hX 1 dX1_signAt_4 rfl ?_
  refine J_aload_n hX 0 dX1_signAt_5 rfl ?_
  refine J_geti hX 18 1 dX1_signAt_6 jc_18 rfl rfl (by decide) inlX1 wm_8_15 ?_
  refine J_topi (y := nI n) hn ?_
  refine J_cmpN_ge hX 21 p n dX1_signAt_9 (by decide) rfl rfl (by omega) (by omega) (fun h9 => ?_) (fun h9 => ?_)
  · skip
    refine J_iconst (v := 0) hX dX1_signAt_21 (by decide) ?_
    exact J_ret hX hZ dX1_signAt_22 rfl rfl ⟨by simp [x_sg, h9]; try omega, rfl, rfl⟩
  · skip
    refine J_aload_n hX 0 dX1_signAt_12 rfl ?_
    refine J_getr hX 18 0 dX1_signAt_13 jc_18 rfl rfl (by decide) inlX1 wm_3_13 ?_
    refine J_iload_n hX 1 dX1_signAt_16 rfl ?_
    refine J_iald hX 19 p dX1_signAt_17 jc_19 rfl (by omega) (by omega) ?_
    refine J_goto hX 22 dX1_signAt_18 (by decide) ?_
    exact J_ret hX hZ dX1_signAt_22 rfl rfl ⟨by simp [x_sg, h9]; try omega, rfl, rfl⟩
def x_add (M : jM) (n : Nat) (s : Int32) : jM := if n < 60 then jU (jU M 19 n s) 18 1 (nI (n + 1)) else M
set_option maxHeartbeats 4000000 in
set_option maxRecDepth 10000 in
theorem c_X1_add (l : Launch) (D : va_G) (a : Nat → Nat) (g : Nat → ClassId) (M : jM) (L : jL) (n : Nat) (hn : M 18 1 = nI n) (hn60 : n ≤ 60) (s : Int32)  : jK l D a g yX1_add cX1_add 2 none 0 0 [.ref (a 18), .int s] M L none (x_add M n s) L := by
  refine jMeth (by decide) (Nat.le_of_ble_eq_true rfl) ?_
  intro G hX hZ
  refine J_cg (loc' := [(0, .ref (a 18)), (1, .int s)]) rfl rfl rfl rfl ?_
  refine J_aload_n hX 0 dX1_add_0 rfl ?_
  refine J_geti hX 18 1 dX1_add_1 jc_18 rfl rfl (by decide) inlX1 wm_8_15 ?_
  refine J_bipush (v := 60) hX dX1_add_4 (by decide) ?_
  refine J_cmpN_ge hX 29 n 60 dX1_add_6 (by decide) hn rfl (by omega) (by omega) (fun h6 => ?_) (fun h6 => ?_)
  · skip
    exact J_vret hX hZ dX1_add_29 ⟨rfl, by simp [x_add]; try omega, rfl⟩
  · skip
    refine J_aload_n hX 0 dX1_add_9 rfl ?_
    refine J_getr hX 18 0 dX1_add_10 jc_18 rfl rfl (by decide) inlX1 wm_3_13 ?_
    refine J_aload_n hX 0 dX1_add_13 rfl ?_
    refine J_geti hX 18 1 dX1_add_14 jc_18 rfl rfl (by decide) inlX1 wm_8_15 ?_
    refine J_iload_n hX 1 dX1_add_17 rfl ?_
    refine J_iast hX 19 n dX1_add_18 jc_19 hn (by omega) (by omega) ?_
    refine J_aload_n hX 0 dX1_add_19 rfl ?_
    refine J_dup hX dX1_add_20 rfl ?_
    refine J_geti hX 18 1 dX1_add_21 jc_18 rfl rfl (by decide) inlX1 wm_8_15 ?_
    refine J_topi (y := nI n) (by simpa [jU] using hn) ?_
    refine J_iconst (v := 1) hX dX1_add_24 (by decide) ?_
    refine J_iadd hX dX1_add_25 ?_
    refine J_topi (y := nI (n + 1)) (nI_1 n) ?_
    refine J_puti (ty := .int) hX 18 1 dX1_add_26 jc_18 rfl rfl (by decide) inlX1 wm_8_15 tyX1 tyX1_ok nmX1 rfl (by decide +kernel) rfl rfl ?_
    exact J_vret hX hZ dX1_add_29 ⟨rfl, by simp [x_add]; try omega, rfl⟩
def x_kDeed (s : Int32) : Int32 := if s = 36 then 2 else if s = 47 then 4 else if s = 62 then 5 else 1
def x_kindOf (f s : Int32) : Int32 := if f = 33 then 6 else if f = 43 then 0 else if f = 46 then 7 else x_kDeed s
set_option maxHeartbeats 4000000 in
set_option maxRecDepth 10000 in
theorem c_X5_kindOfDeed (l : Launch) (D : va_G) (a : Nat → Nat) (g : Nat → ClassId) (M : jM) (L : jL) (s : Int32)  : jK l D a g yX5_kindOfDeed cX5_kindOfDeed 1 (some .int) 0 0 [.int s] M L (some (.int (x_kDeed s))) M L := by
  refine jMeth (by decide) (Nat.le_of_ble_eq_true rfl) ?_
  intro G hX hZ
  refine J_cg (loc' := [(0, .int s)]) rfl rfl rfl rfl ?_
  refine J_iload_n hX 0 dX5_kindOfDeed_0 rfl ?_
  by_cases s1_36 : s = 36
  · refine J_lookup (off := 35) hX 36 dX5_kindOfDeed_1 rfl (by rw [s1_36]; first | done | rfl) (by decide) ?_
    refine J_iconst (v := 2) hX dX5_kindOfDeed_36 (by decide) ?_
    exact J_ret hX hZ dX5_kindOfDeed_37 rfl rfl ⟨by simp [x_kDeed, s1_36], rfl, rfl⟩
  by_cases s1_47 : s = 47
  · refine J_lookup (off := 37) hX 38 dX5_kindOfDeed_1 rfl (by rw [s1_47]; first | done | rfl) (by decide) ?_
    refine J_iconst (v := 4) hX dX5_kindOfDeed_38 (by decide) ?_
    exact J_ret hX hZ dX5_kindOfDeed_39 rfl rfl ⟨by simp [x_kDeed, s1_36, s1_47], rfl, rfl⟩
  by_cases s1_62 : s = 62
  · refine J_lookup (off := 39) hX 40 dX5_kindOfDeed_1 rfl (by rw [s1_62]; first | done | rfl) (by decide) ?_
    refine J_iconst (v := 5) hX dX5_kindOfDeed_40 (by decide) ?_
    exact J_ret hX hZ dX5_kindOfDeed_41 rfl rfl ⟨by simp [x_kDeed, s1_36, s1_47, s1_62], rfl, rfl⟩
  refine J_lookup (off := 41) hX 42 dX5_kindOfDeed_1 rfl (by show Op.lookupswitch.offset [(36, 35), (47, 37), (62, 39)] 41 _ = _; rw [lv_osw (a := 36) s1_36 rfl, lv_osw (a := 47) s1_47 rfl, lv_osw (a := 62) s1_62 rfl]; first | done | rfl) (by decide) ?_
  refine J_iconst (v := 1) hX dX5_kindOfDeed_42 (by decide) ?_
  exact J_ret hX hZ dX5_kindOfDeed_43 rfl rfl ⟨by simp [x_kDeed, s1_36, s1_47, s1_62], rfl, rfl⟩
set_option maxHeartbeats 4000000 in
set_option maxRecDepth 10000 in
theorem c_X5_kindOf (l : Launch) (D : va_G) (a : Nat → Nat) (g : Nat → ClassId) (M : jM) (L : jL) (x s : Int32)  : jK l D a g yX5_kindOf cX5_kindOf 2 (some .int) 1 20 [.int x, .int s] M L (some (.int (x_kindOf x s))) M L := by
  refine jMeth (by decide) (Nat.le_of_ble_eq_true rfl) ?_
  intro G hX hZ
  refine J_cg (loc' := [(0, .int x), (1, .int s)]) rfl rfl rfl rfl ?_
  refine J_iload_n hX 0 dX5_kindOf_0 rfl ?_
  by_cases s1_33 : x = 33
  · refine J_lookup (off := 40) hX 41 dX5_kindOf_1 rfl (by rw [s1_33]; first | done | rfl) (by decide) ?_
    refine J_bipush (v := 6) hX dX5_kindOf_41 (by decide) ?_
    exact J_ret hX hZ dX5_kindOf_43 rfl rfl ⟨by simp [x_kindOf, s1_33], rfl, rfl⟩
  by_cases s1_43 : x = 43
  · refine J_lookup (off := 38) hX 39 dX5_kindOf_1 rfl (by rw [s1_43]; first | done | rfl) (by decide) ?_
    refine J_iconst (v := 0) hX dX5_kindOf_39 (by decide) ?_
    exact J_ret hX hZ dX5_kindOf_40 rfl rfl ⟨by simp [x_kindOf, s1_33, s1_43], rfl, rfl⟩
  by_cases s1_46 : x = 46
  · refine J_lookup (off := 35) hX 36 dX5_kindOf_1 rfl (by rw [s1_46]; first | done | rfl) (by decide) ?_
    refine J_bipush (v := 7) hX dX5_kindOf_36 (by decide) ?_
    exact J_ret hX hZ dX5_kindOf_38 rfl rfl ⟨by simp [x_kindOf, s1_33, s1_43, s1_46], rfl, rfl⟩
  refine J_lookup (off := 43) hX 44 dX5_kindOf_1 rfl (by show Op.lookupswitch.offset [(33, 40), (43, 38), (46, 35)] 43 _ = _; rw [lv_osw (a := 33) s1_33 rfl, lv_osw (a := 43) s1_43 rfl, lv_osw (a := 46) s1_46 rfl]; first | done | rfl) (by decide) ?_
  refine J_iload_n hX 1 dX5_kindOf_44 rfl ?_
  refine J_callS hX [.int s] [] dX5_kindOf_45 (c_X5_kindOfDeed l D a g M L s) lk_X5_76 rfl rfl (Nat.le_of_ble_eq_true rfl) (Nat.le_of_ble_eq_true rfl) (Nat.le_of_ble_eq_true rfl) (J_eq (st := [.int (x_kDeed s)]) rfl ?_)
  exact J_ret hX hZ dX5_kindOf_48 rfl rfl ⟨by simp [x_kindOf, s1_33, s1_43, s1_46], rfl, rfl⟩
def x_k (M : jM) (n p : Nat) : Int32 := x_kindOf (x_sg M n p) (x_sg M n (p + 1))
def x_len (M : jM) (n p : Nat) : Nat := if x_k M n p = 7 then 1 else if x_k M n p = 0 then 2 else 3
def x_who (M : jM) (n p : Nat) : Int32 := if x_len M n p < 3 then 0 else if x_k M n p = 6 then x_sg M n (p + 1) - 65 else x_sg M n p - 65
def x_num (M : jM) (n p : Nat) : Int32 := if x_k M n p = 5 then x_sg M n (p + x_len M n p - 1) - 65 else x_sg M n (p + x_len M n p - 1) - 48
def x_read (M : jM) (n p : Nat) : jM := jU (jU (jU (jU M 20 5 (x_k M n p)) 20 8 (nI (x_len M n p))) 20 6 (x_who M n p)) 20 7 (x_num M n p)
theorem x_ps (p k : Nat) (h : p + k < 2 ^ 31) (h0 : 0 < k) : nI p + nI k - 1 = nI (p + k - 1) := by
  rw [nI_add, show p + k = (p + k - 1) + 1 by omega, nI_pred]
  rfl
set_option maxHeartbeats 4000000 in
set_option maxRecDepth 10000 in
theorem c_X5_read (l : Launch) (D : va_G) (a : Nat → Nat) (g : Nat → ClassId) (M : jM) (L : jL) (n : Nat) (hn : M 18 1 = nI n) (hn60 : n ≤ 60) (p : Nat) (hp : p < 900)  : jK l D a g yX5_read cX5_read 5 none 2 41 [.ref (a 20), .ref (a 18), .int (nI p)] M L none (x_read M n p) L := by
  refine jMeth (by decide) (Nat.le_of_ble_eq_true rfl) ?_
  intro G hX hZ
  refine J_cg (loc' := [(0, .ref (a 20)), (1, .ref (a 18)), (2, .int (nI p))]) rfl rfl rfl rfl ?_
  refine J_aload_n hX 1 dX5_read_0 rfl ?_
  refine J_iload_n hX 2 dX5_read_1 rfl ?_
  refine J_callV hX 18 [.int (nI p)] [] dX5_read_2 (c_X1_signAt l D a g M L n (by simpa [jU] using hn) hn60 p (by omega)) lk_X5_68 jc_18 rfl rfl rfl (Nat.le_of_ble_eq_true rfl) (Nat.le_of_ble_eq_true rfl) (Nat.le_of_ble_eq_true rfl) (J_eq (st := [.int (x_sg M n p)]) rfl ?_)
  refine J_istore_n (loc' := [(3, .int (x_sg M n p)), (0, .ref (a 20)), (1, .ref (a 18)), (2, .int (nI p))]) hX dX5_read_5 (by decide) rfl ?_
  refine J_aload_n hX 2 dX5_read_6 rfl ?_
  refine J_iload_n hX 3 dX5_read_7 rfl ?_
  refine J_iconst (v := 1) hX dX5_read_8 (by decide) ?_
  refine J_iadd hX dX5_read_9 ?_
  refine J_topi (y := nI (p + 1)) (nI_1 p) ?_
  refine J_callV hX 18 [.int (nI (p + 1))] [] dX5_read_10 (c_X1_signAt l D a g M L n (by simpa [jU] using hn) hn60 (p + 1) (by omega)) lk_X5_68 jc_18 rfl rfl rfl (Nat.le_of_ble_eq_true rfl) (Nat.le_of_ble_eq_true rfl) (Nat.le_of_ble_eq_true rfl) (J_eq (st := [.int (x_sg M n (p + 1))]) rfl ?_)
  refine J_istore (loc' := [(4, .int (x_sg M n (p + 1))), (3, .int (x_sg M n p)), (0, .ref (a 20)), (1, .ref (a 18)), (2, .int (nI p))]) hX dX5_read_13 (by decide) rfl ?_
  refine J_aload_n hX 2 dX5_read_15 rfl ?_
  refine J_iload_n hX 1 dX5_read_16 rfl ?_
  refine J_iload hX 0 dX5_read_17 rfl ?_
  refine J_callS hX [.int (x_sg M n p), .int (x_sg M n (p + 1))] [.ref (a 20)] dX5_read_19 (c_X5_kindOf l D a g M L (x_sg M n p) (x_sg M n (p + 1))) lk_X5_72 rfl rfl (Nat.le_of_ble_eq_true rfl) (Nat.le_of_ble_eq_true rfl) (Nat.le_of_ble_eq_true rfl) (J_eq (st := [.int (x_kindOf (x_sg M n p) (x_sg M n (p + 1))), .ref (a 20)]) rfl ?_)
  refine J_topi (y := x_k M n p) rfl ?_
  refine J_puti (ty := .int) hX 20 5 dX5_read_22 jc_20 rfl rfl (by decide) inlX5 wm_12_12 tyX5 tyX5_ok nmX5 rfl (by decide +kernel) rfl rfl ?_
  refine J_aload_n hX 2 dX5_read_25 rfl ?_
  refine J_aload_n hX 2 dX5_read_26 rfl ?_
  refine J_geti hX 20 5 dX5_read_27 jc_20 rfl rfl (by decide) inlX5 wm_12_12 ?_
  refine J_topi (y := x_k M n p) (by simp [jU]) ?_
  refine J_bipush (v := 7) hX dX5_read_30 (by decide) ?_
  refine J_icmp_ne hX 39 dX5_read_32 (by decide) (fun h32 => ?_) (fun h32 => ?_)
  · skip
    refine J_aload_n hX 2 dX5_read_39 rfl ?_
    refine J_geti hX 20 5 dX5_read_40 jc_20 rfl rfl (by decide) inlX5 wm_12_12 ?_
    refine J_topi (y := x_k M n p) (by simp [jU]) ?_
    refine J_if_ne hX 50 dX5_read_43 (by decide) (fun h43 => ?_) (fun h43 => ?_)
    · skip
      refine J_iconst (v := 3) hX dX5_read_50 (by decide) ?_
      have hlen : x_len M n p = 3 := by simp [x_len, h32, h43]
      refine J_topi (y := nI (x_len M n p)) (by rw [hlen]; rfl) ?_
      refine J_puti (ty := .int) hX 20 8 dX5_read_51 jc_20 rfl rfl (by decide) inlX5 wm_12_15 tyX5 tyX5_ok nmX5 rfl (by decide +kernel) rfl rfl ?_
      refine J_aload_n hX 2 dX5_read_54 rfl ?_
      refine J_aload_n hX 2 dX5_read_55 rfl ?_
      refine J_geti hX 20 8 dX5_read_56 jc_20 rfl rfl (by decide) inlX5 wm_12_15 ?_
      refine J_topi (y := 3) (by simp [jU]; rw [hlen]; rfl) ?_
      refine J_iconst (v := 3) hX dX5_read_59 (by decide) ?_
      refine J_icmp_ge hX 67 dX5_read_60 (by decide) (fun h60 => ?_) (fun h60 => absurd h60 (by decide))
      refine J_aload_n hX 2 dX5_read_67 rfl ?_
      refine J_geti hX 20 5 dX5_read_68 jc_20 rfl rfl (by decide) inlX5 wm_12_12 ?_
      refine J_topi (y := x_k M n p) (by simp [jU]) ?_
      refine J_bipush (v := 6) hX dX5_read_71 (by decide) ?_
      refine J_icmp_ne hX 81 dX5_read_73 (by decide) (fun h73 => ?_) (fun h73 => ?_)
      · skip
        refine J_iload_n hX 1 dX5_read_81 rfl ?_
        refine J_bipush (v := 65) hX dX5_read_82 (by decide) ?_
        refine J_isub hX dX5_read_84 ?_
        refine J_topi (y := x_who M n p) (by simp [x_who, hlen, h73]) ?_
        refine J_puti (ty := .int) hX 20 6 dX5_read_85 jc_20 rfl rfl (by decide) inlX5 wm_12_13 tyX5 tyX5_ok nmX5 rfl (by decide +kernel) rfl rfl ?_
        refine J_aload_n hX 2 dX5_read_88 rfl ?_
        refine J_aload_n hX 3 dX5_read_89 rfl ?_
        refine J_iload_n hX 4 dX5_read_90 rfl ?_
        refine J_aload_n hX 2 dX5_read_91 rfl ?_
        refine J_geti hX 20 8 dX5_read_92 jc_20 rfl rfl (by decide) inlX5 wm_12_15 ?_
        refine J_topi (y := nI 3) (by simp [jU]; rw [hlen]) ?_
        refine J_iadd hX dX5_read_95 ?_
        refine J_iconst (v := 1) hX dX5_read_96 (by decide) ?_
        refine J_isub hX dX5_read_97 ?_
        refine J_topi (y := nI (p + 3 - 1)) (x_ps p 3 (by omega) (by omega)) ?_
        refine J_callV hX 18 [.int (nI (p + 3 - 1))] [.ref (a 20)] dX5_read_98 (c_X1_signAt l D a g (jU (jU (jU M 20 5 (x_k M n p)) 20 8 (nI (x_len M n p))) 20 6 (x_who M n p)) L n (by simpa [jU] using hn) hn60 (p + 3 - 1) (by omega)) lk_X5_68 jc_18 rfl rfl rfl (Nat.le_of_ble_eq_true rfl) (Nat.le_of_ble_eq_true rfl) (Nat.le_of_ble_eq_true rfl) (J_eq (st := [.int (x_sg (jU (jU (jU M 20 5 (x_k M n p)) 20 8 (nI (x_len M n p))) 20 6 (x_who M n p)) n (p + 3 - 1)), .ref (a 20)]) rfl ?_)
        refine J_topi (y := x_sg M n (p + x_len M n p - 1)) (by rw [hlen]; simp [x_sg, jU]) ?_
        refine J_aload_n hX 2 dX5_read_101 rfl ?_
        refine J_geti hX 20 5 dX5_read_102 jc_20 rfl rfl (by decide) inlX5 wm_12_12 ?_
        refine J_topi (y := x_k M n p) (by simp [jU]) ?_
        refine J_iconst (v := 5) hX dX5_read_105 (by decide) ?_
        refine J_icmp_ne hX 114 dX5_read_106 (by decide) (fun h106 => ?_) (fun h106 => ?_)
        · skip
          refine J_bipush (v := 48) hX dX5_read_114 (by decide) ?_
          refine J_isub hX dX5_read_116 ?_
          refine J_topi (y := x_num M n p) (by simp [x_num, h106]) ?_
          refine J_puti (ty := .int) hX 20 7 dX5_read_117 jc_20 rfl rfl (by decide) inlX5 wm_12_14 tyX5 tyX5_ok nmX5 rfl (by decide +kernel) rfl rfl ?_
          exact J_vret hX hZ dX5_read_120 ⟨rfl, rfl, rfl⟩
        · skip
          refine J_bipush (v := 65) hX dX5_read_109 (by decide) ?_
          refine J_goto hX 116 dX5_read_111 (by decide) ?_
          refine J_isub hX dX5_read_116 ?_
          refine J_topi (y := x_num M n p) (by simp [x_num, h106]) ?_
          refine J_puti (ty := .int) hX 20 7 dX5_read_117 jc_20 rfl rfl (by decide) inlX5 wm_12_14 tyX5 tyX5_ok nmX5 rfl (by decide +kernel) rfl rfl ?_
          exact J_vret hX hZ dX5_read_120 ⟨rfl, rfl, rfl⟩
      · skip
        refine J_iload hX 0 dX5_read_76 rfl ?_
        refine J_goto hX 82 dX5_read_78 (by decide) ?_
        refine J_bipush (v := 65) hX dX5_read_82 (by decide) ?_
        refine J_isub hX dX5_read_84 ?_
        refine J_topi (y := x_who M n p) (by simp [x_who, hlen, h73]) ?_
        refine J_puti (ty := .int) hX 20 6 dX5_read_85 jc_20 rfl rfl (by decide) inlX5 wm_12_13 tyX5 tyX5_ok nmX5 rfl (by decide +kernel) rfl rfl ?_
        refine J_aload_n hX 2 dX5_read_88 rfl ?_
        refine J_aload_n hX 3 dX5_read_89 rfl ?_
        refine J_iload_n hX 4 dX5_read_90 rfl ?_
        refine J_aload_n hX 2 dX5_read_91 rfl ?_
        refine J_geti hX 20 8 dX5_read_92 jc_20 rfl rfl (by decide) inlX5 wm_12_15 ?_
        refine J_topi (y := nI 3) (by simp [jU]; rw [hlen]) ?_
        refine J_iadd hX dX5_read_95 ?_
        refine J_iconst (v := 1) hX dX5_read_96 (by decide) ?_
        refine J_isub hX dX5_read_97 ?_
        refine J_topi (y := nI (p + 3 - 1)) (x_ps p 3 (by omega) (by omega)) ?_
        refine J_callV hX 18 [.int (nI (p + 3 - 1))] [.ref (a 20)] dX5_read_98 (c_X1_signAt l D a g (jU (jU (jU M 20 5 (x_k M n p)) 20 8 (nI (x_len M n p))) 20 6 (x_who M n p)) L n (by simpa [jU] using hn) hn60 (p + 3 - 1) (by omega)) lk_X5_68 jc_18 rfl rfl rfl (Nat.le_of_ble_eq_true rfl) (Nat.le_of_ble_eq_true rfl) (Nat.le_of_ble_eq_true rfl) (J_eq (st := [.int (x_sg (jU (jU (jU M 20 5 (x_k M n p)) 20 8 (nI (x_len M n p))) 20 6 (x_who M n p)) n (p + 3 - 1)), .ref (a 20)]) rfl ?_)
        refine J_topi (y := x_sg M n (p + x_len M n p - 1)) (by rw [hlen]; simp [x_sg, jU]) ?_
        refine J_aload_n hX 2 dX5_read_101 rfl ?_
        refine J_geti hX 20 5 dX5_read_102 jc_20 rfl rfl (by decide) inlX5 wm_12_12 ?_
        refine J_topi (y := x_k M n p) (by simp [jU]) ?_
        refine J_iconst (v := 5) hX dX5_read_105 (by decide) ?_
        refine J_icmp_ne hX 114 dX5_read_106 (by decide) (fun h106 => ?_) (fun h106 => ?_)
        · skip
          refine J_bipush (v := 48) hX dX5_read_114 (by decide) ?_
          refine J_isub hX dX5_read_116 ?_
          refine J_topi (y := x_num M n p) (by simp [x_num, h106]) ?_
          refine J_puti (ty := .int) hX 20 7 dX5_read_117 jc_20 rfl rfl (by decide) inlX5 wm_12_14 tyX5 tyX5_ok nmX5 rfl (by decide +kernel) rfl rfl ?_
          exact J_vret hX hZ dX5_read_120 ⟨rfl, rfl, rfl⟩
        · skip
          refine J_bipush (v := 65) hX dX5_read_109 (by decide) ?_
          refine J_goto hX 116 dX5_read_111 (by decide) ?_
          refine J_isub hX dX5_read_116 ?_
          refine J_topi (y := x_num M n p) (by simp [x_num, h106]) ?_
          refine J_puti (ty := .int) hX 20 7 dX5_read_117 jc_20 rfl rfl (by decide) inlX5 wm_12_14 tyX5 tyX5_ok nmX5 rfl (by decide +kernel) rfl rfl ?_
          exact J_vret hX hZ dX5_read_120 ⟨rfl, rfl, rfl⟩
    · skip
      refine J_iconst (v := 2) hX dX5_read_46 (by decide) ?_
      refine J_goto hX 51 dX5_read_47 (by decide) ?_
      have hlen : x_len M n p = 2 := by simp [x_len, h32, h43]
      refine J_topi (y := nI (x_len M n p)) (by rw [hlen]; rfl) ?_
      refine J_puti (ty := .int) hX 20 8 dX5_read_51 jc_20 rfl rfl (by decide) inlX5 wm_12_15 tyX5 tyX5_ok nmX5 rfl (by decide +kernel) rfl rfl ?_
      refine J_aload_n hX 2 dX5_read_54 rfl ?_
      refine J_aload_n hX 2 dX5_read_55 rfl ?_
      refine J_geti hX 20 8 dX5_read_56 jc_20 rfl rfl (by decide) inlX5 wm_12_15 ?_
      refine J_topi (y := 2) (by simp [jU]; rw [hlen]; rfl) ?_
      refine J_iconst (v := 3) hX dX5_read_59 (by decide) ?_
      refine J_icmp_ge hX 67 dX5_read_60 (by decide) (fun h60 => absurd h60 (by decide)) (fun h60 => ?_)
      refine J_iconst (v := 0) hX dX5_read_63 (by decide) ?_
      refine J_goto hX 85 dX5_read_64 (by decide) ?_
      refine J_topi (y := x_who M n p) (by simp [x_who, hlen]) ?_
      refine J_puti (ty := .int) hX 20 6 dX5_read_85 jc_20 rfl rfl (by decide) inlX5 wm_12_13 tyX5 tyX5_ok nmX5 rfl (by decide +kernel) rfl rfl ?_
      refine J_aload_n hX 2 dX5_read_88 rfl ?_
      refine J_aload_n hX 3 dX5_read_89 rfl ?_
      refine J_iload_n hX 4 dX5_read_90 rfl ?_
      refine J_aload_n hX 2 dX5_read_91 rfl ?_
      refine J_geti hX 20 8 dX5_read_92 jc_20 rfl rfl (by decide) inlX5 wm_12_15 ?_
      refine J_topi (y := nI 2) (by simp [jU]; rw [hlen]) ?_
      refine J_iadd hX dX5_read_95 ?_
      refine J_iconst (v := 1) hX dX5_read_96 (by decide) ?_
      refine J_isub hX dX5_read_97 ?_
      refine J_topi (y := nI (p + 2 - 1)) (x_ps p 2 (by omega) (by omega)) ?_
      refine J_callV hX 18 [.int (nI (p + 2 - 1))] [.ref (a 20)] dX5_read_98 (c_X1_signAt l D a g (jU (jU (jU M 20 5 (x_k M n p)) 20 8 (nI (x_len M n p))) 20 6 (x_who M n p)) L n (by simpa [jU] using hn) hn60 (p + 2 - 1) (by omega)) lk_X5_68 jc_18 rfl rfl rfl (Nat.le_of_ble_eq_true rfl) (Nat.le_of_ble_eq_true rfl) (Nat.le_of_ble_eq_true rfl) (J_eq (st := [.int (x_sg (jU (jU (jU M 20 5 (x_k M n p)) 20 8 (nI (x_len M n p))) 20 6 (x_who M n p)) n (p + 2 - 1)), .ref (a 20)]) rfl ?_)
      refine J_topi (y := x_sg M n (p + x_len M n p - 1)) (by rw [hlen]; simp [x_sg, jU]) ?_
      refine J_aload_n hX 2 dX5_read_101 rfl ?_
      refine J_geti hX 20 5 dX5_read_102 jc_20 rfl rfl (by decide) inlX5 wm_12_12 ?_
      refine J_topi (y := x_k M n p) (by simp [jU]) ?_
      refine J_iconst (v := 5) hX dX5_read_105 (by decide) ?_
      refine J_icmp_ne hX 114 dX5_read_106 (by decide) (fun h106 => ?_) (fun h106 => ?_)
      · skip
        refine J_bipush (v := 48) hX dX5_read_114 (by decide) ?_
        refine J_isub hX dX5_read_116 ?_
        refine J_topi (y := x_num M n p) (by simp [x_num, h106]) ?_
        refine J_puti (ty := .int) hX 20 7 dX5_read_117 jc_20 rfl rfl (by decide) inlX5 wm_12_14 tyX5 tyX5_ok nmX5 rfl (by decide +kernel) rfl rfl ?_
        exact J_vret hX hZ dX5_read_120 ⟨rfl, rfl, rfl⟩
      · skip
        refine J_bipush (v := 65) hX dX5_read_109 (by decide) ?_
        refine J_goto hX 116 dX5_read_111 (by decide) ?_
        refine J_isub hX dX5_read_116 ?_
        refine J_topi (y := x_num M n p) (by simp [x_num, h106]) ?_
        refine J_puti (ty := .int) hX 20 7 dX5_read_117 jc_20 rfl rfl (by decide) inlX5 wm_12_14 tyX5 tyX5_ok nmX5 rfl (by decide +kernel) rfl rfl ?_
        exact J_vret hX hZ dX5_read_120 ⟨rfl, rfl, rfl⟩
  · skip
    refine J_iconst (v := 1) hX dX5_read_35 (by decide) ?_
    refine J_goto hX 51 dX5_read_36 (by decide) ?_
    have hlen : x_len M n p = 1 := by simp [x_len, h32]
    refine J_topi (y := nI (x_len M n p)) (by rw [hlen]; rfl) ?_
    refine J_puti (ty := .int) hX 20 8 dX5_read_51 jc_20 rfl rfl (by decide) inlX5 wm_12_15 tyX5 tyX5_ok nmX5 rfl (by decide +kernel) rfl rfl ?_
    refine J_aload_n hX 2 dX5_read_54 rfl ?_
    refine J_aload_n hX 2 dX5_read_55 rfl ?_
    refine J_geti hX 20 8 dX5_read_56 jc_20 rfl rfl (by decide) inlX5 wm_12_15 ?_
    refine J_topi (y := 1) (by simp [jU]; rw [hlen]; rfl) ?_
    refine J_iconst (v := 3) hX dX5_read_59 (by decide) ?_
    refine J_icmp_ge hX 67 dX5_read_60 (by decide) (fun h60 => absurd h60 (by decide)) (fun h60 => ?_)
    refine J_iconst (v := 0) hX dX5_read_63 (by decide) ?_
    refine J_goto hX 85 dX5_read_64 (by decide) ?_
    refine J_topi (y := x_who M n p) (by simp [x_who, hlen]) ?_
    refine J_puti (ty := .int) hX 20 6 dX5_read_85 jc_20 rfl rfl (by decide) inlX5 wm_12_13 tyX5 tyX5_ok nmX5 rfl (by decide +kernel) rfl rfl ?_
    refine J_aload_n hX 2 dX5_read_88 rfl ?_
    refine J_aload_n hX 3 dX5_read_89 rfl ?_
    refine J_iload_n hX 4 dX5_read_90 rfl ?_
    refine J_aload_n hX 2 dX5_read_91 rfl ?_
    refine J_geti hX 20 8 dX5_read_92 jc_20 rfl rfl (by decide) inlX5 wm_12_15 ?_
    refine J_topi (y := nI 1) (by simp [jU]; rw [hlen]) ?_
    refine J_iadd hX dX5_read_95 ?_
    refine J_iconst (v := 1) hX dX5_read_96 (by decide) ?_
    refine J_isub hX dX5_read_97 ?_
    refine J_topi (y := nI (p + 1 - 1)) (x_ps p 1 (by omega) (by omega)) ?_
    refine J_callV hX 18 [.int (nI (p + 1 - 1))] [.ref (a 20)] dX5_read_98 (c_X1_signAt l D a g (jU (jU (jU M 20 5 (x_k M n p)) 20 8 (nI (x_len M n p))) 20 6 (x_who M n p)) L n (by simpa [jU] using hn) hn60 (p + 1 - 1) (by omega)) lk_X5_68 jc_18 rfl rfl rfl (Nat.le_of_ble_eq_true rfl) (Nat.le_of_ble_eq_true rfl) (Nat.le_of_ble_eq_true rfl) (J_eq (st := [.int (x_sg (jU (jU (jU M 20 5 (x_k M n p)) 20 8 (nI (x_len M n p))) 20 6 (x_who M n p)) n (p + 1 - 1)), .ref (a 20)]) rfl ?_)
    refine J_topi (y := x_sg M n (p + x_len M n p - 1)) (by rw [hlen]; simp [x_sg, jU]) ?_
    refine J_aload_n hX 2 dX5_read_101 rfl ?_
    refine J_geti hX 20 5 dX5_read_102 jc_20 rfl rfl (by decide) inlX5 wm_12_12 ?_
    refine J_topi (y := x_k M n p) (by simp [jU]) ?_
    refine J_iconst (v := 5) hX dX5_read_105 (by decide) ?_
    refine J_icmp_ne hX 114 dX5_read_106 (by decide) (fun h106 => ?_) (fun h106 => ?_)
    · skip
      refine J_bipush (v := 48) hX dX5_read_114 (by decide) ?_
      refine J_isub hX dX5_read_116 ?_
      refine J_topi (y := x_num M n p) (by simp [x_num, h106]) ?_
      refine J_puti (ty := .int) hX 20 7 dX5_read_117 jc_20 rfl rfl (by decide) inlX5 wm_12_14 tyX5 tyX5_ok nmX5 rfl (by decide +kernel) rfl rfl ?_
      exact J_vret hX hZ dX5_read_120 ⟨rfl, rfl, rfl⟩
    · skip
      refine J_bipush (v := 65) hX dX5_read_109 (by decide) ?_
      refine J_goto hX 116 dX5_read_111 (by decide) ?_
      refine J_isub hX dX5_read_116 ?_
      refine J_topi (y := x_num M n p) (by simp [x_num, h106]) ?_
      refine J_puti (ty := .int) hX 20 7 dX5_read_117 jc_20 rfl rfl (by decide) inlX5 wm_12_14 tyX5 tyX5_ok nmX5 rfl (by decide +kernel) rfl rfl ?_
      exact J_vret hX hZ dX5_read_120 ⟨rfl, rfl, rfl⟩
def x_endM (M : jM) (v : Int32) : jM :=
  if M 20 4 = -6 then (if v ≤ x_rate M 21 then jU M 20 3 (M 20 3 + 1) else jU (jU M 20 4 (M 20 3)) 20 3 (jU M 20 4 (M 20 3) 20 3 + 1)) else jU M 20 3 (M 20 3 + 1)
set_option maxHeartbeats 4000000 in
set_option maxRecDepth 10000 in
theorem c_X5_endMonth (l : Launch) (D : va_G) (a : Nat → Nat) (g : Nat → ClassId) (M : jM) (L : jL) (v : Int32)  : jK l D a g yX5_endMonth cX5_endMonth 2 none 3 71 [.ref (a 20), .int v] M L none (x_endM M v) L := by
  refine jMeth (by decide) (Nat.le_of_ble_eq_true rfl) ?_
  intro G hX hZ
  refine J_cg (loc' := [(0, .ref (a 20)), (1, .int v)]) rfl rfl rfl rfl ?_
  refine J_aload_n hX 0 dX5_endMonth_0 rfl ?_
  refine J_geti hX 20 4 dX5_endMonth_1 jc_20 rfl rfl (by decide) inlX5 wm_12_9 ?_
  refine J_bipush (v := (-6)) hX dX5_endMonth_4 (by decide) ?_
  refine J_icmp_ne hX 28 dX5_endMonth_6 (by decide) (fun h6 => ?_) (fun h6 => ?_)
  · skip
    refine J_aload_n hX 0 dX5_endMonth_28 rfl ?_
    refine J_dup hX dX5_endMonth_29 rfl ?_
    refine J_geti hX 20 3 dX5_endMonth_30 jc_20 rfl rfl (by decide) inlX5 wm_12_8 ?_
    refine J_iconst (v := 1) hX dX5_endMonth_33 (by decide) ?_
    refine J_iadd hX dX5_endMonth_34 ?_
    refine J_puti (ty := .int) hX 20 3 dX5_endMonth_35 jc_20 rfl rfl (by decide) inlX5 wm_12_8 tyX5 tyX5_ok nmX5 rfl (by decide +kernel) rfl rfl ?_
    exact J_vret hX hZ dX5_endMonth_38 ⟨rfl, by simp [x_endM, h6], rfl⟩
  · skip
    refine J_aload_n hX 0 dX5_endMonth_9 rfl ?_
    refine J_getr hX 20 0 dX5_endMonth_10 jc_20 rfl rfl (by decide) inlX5 wm_3_18 ?_
    refine J_callV hX 21 [] [] dX5_endMonth_13 (c_X2_rate l D a g M L 21 jRl_21) lk_X5_64 jc_21 rfl rfl rfl (Nat.le_of_ble_eq_true rfl) (Nat.le_of_ble_eq_true rfl) (Nat.le_of_ble_eq_true rfl) (J_eq (st := [.int (x_rate M 21)]) rfl ?_)
    refine J_iload_n hX 1 dX5_endMonth_16 rfl ?_
    refine J_icmp_ge hX 28 dX5_endMonth_17 (by decide) (fun h17 => ?_) (fun h17 => ?_)
    · skip
      refine J_aload_n hX 0 dX5_endMonth_28 rfl ?_
      refine J_dup hX dX5_endMonth_29 rfl ?_
      refine J_geti hX 20 3 dX5_endMonth_30 jc_20 rfl rfl (by decide) inlX5 wm_12_8 ?_
      refine J_iconst (v := 1) hX dX5_endMonth_33 (by decide) ?_
      refine J_iadd hX dX5_endMonth_34 ?_
      refine J_puti (ty := .int) hX 20 3 dX5_endMonth_35 jc_20 rfl rfl (by decide) inlX5 wm_12_8 tyX5 tyX5_ok nmX5 rfl (by decide +kernel) rfl rfl ?_
      exact J_vret hX hZ dX5_endMonth_38 ⟨rfl, by simp [x_endM, h6, h17], rfl⟩
    · skip
      refine J_aload_n hX 0 dX5_endMonth_20 rfl ?_
      refine J_aload_n hX 0 dX5_endMonth_21 rfl ?_
      refine J_geti hX 20 3 dX5_endMonth_22 jc_20 rfl rfl (by decide) inlX5 wm_12_8 ?_
      refine J_puti (ty := .int) hX 20 4 dX5_endMonth_25 jc_20 rfl rfl (by decide) inlX5 wm_12_9 tyX5 tyX5_ok nmX5 rfl (by decide +kernel) rfl rfl ?_
      refine J_aload_n hX 0 dX5_endMonth_28 rfl ?_
      refine J_dup hX dX5_endMonth_29 rfl ?_
      refine J_geti hX 20 3 dX5_endMonth_30 jc_20 rfl rfl (by decide) inlX5 wm_12_8 ?_
      refine J_iconst (v := 1) hX dX5_endMonth_33 (by decide) ?_
      refine J_iadd hX dX5_endMonth_34 ?_
      refine J_puti (ty := .int) hX 20 3 dX5_endMonth_35 jc_20 rfl rfl (by decide) inlX5 wm_12_8 tyX5 tyX5_ok nmX5 rfl (by decide +kernel) rfl rfl ?_
      exact J_vret hX hZ dX5_endMonth_38 ⟨rfl, by simp [x_endM, h6, h17], rfl⟩
