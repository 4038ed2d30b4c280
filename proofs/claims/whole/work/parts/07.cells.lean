theorem jc_0 : jCs[0]? = some (jo 7 [some 1, some 13, some 18, some 20, some 33, some 36, some 40]) := rfl
theorem jc_1 : jCs[1]? = some (jo 2 [some 2, some 3, some 4, some 5, some 6, none, none, none, none]) := rfl
theorem jc_2 : jCs[2]? = some (ji 0 6) := rfl
theorem jc_3 : jCs[3]? = some (ji 0 6) := rfl
theorem jc_4 : jCs[4]? = some (jr 3 [7, 8, 9, 10, 11, 12]) := rfl
theorem jc_5 : jCs[5]? = some (ji 0 8) := rfl
theorem jc_6 : jCs[6]? = some (ji 0 8) := rfl
theorem jc_7 : jCs[7]? = some (ji 0 6) := rfl
theorem jc_8 : jCs[8]? = some (ji 0 6) := rfl
theorem jc_9 : jCs[9]? = some (ji 0 6) := rfl
theorem jc_10 : jCs[10]? = some (ji 0 6) := rfl
theorem jc_11 : jCs[11]? = some (ji 0 6) := rfl
theorem jc_12 : jCs[12]? = some (ji 0 6) := rfl
theorem jc_13 : jCs[13]? = some (jo 4 [some 14, some 15, some 16, some 17, none]) := rfl
theorem jc_14 : jCs[14]? = some (ji 0 8) := rfl
theorem jc_15 : jCs[15]? = some (ji 0 8) := rfl
theorem jc_16 : jCs[16]? = some (ji 0 8) := rfl
theorem jc_17 : jCs[17]? = some (ji 0 8) := rfl
theorem jc_18 : jCs[18]? = some (jo 1 [some 19, none]) := rfl
theorem jc_19 : jCs[19]? = some (ji 0 60) := rfl
theorem jc_20 : jCs[20]? = some (jo 5 [some 21, none, none, none, none, none, none, none, none]) := rfl
theorem jc_21 : jCs[21]? = some (jo 2 [some 22, some 23, some 24, some 25, some 26, none, none, none, none]) := rfl
theorem jc_22 : jCs[22]? = some (ji 0 6) := rfl
theorem jc_23 : jCs[23]? = some (ji 0 6) := rfl
theorem jc_24 : jCs[24]? = some (jr 3 [27, 28, 29, 30, 31, 32]) := rfl
theorem jc_25 : jCs[25]? = some (ji 0 8) := rfl
theorem jc_26 : jCs[26]? = some (ji 0 8) := rfl
theorem jc_27 : jCs[27]? = some (ji 0 6) := rfl
theorem jc_28 : jCs[28]? = some (ji 0 6) := rfl
theorem jc_29 : jCs[29]? = some (ji 0 6) := rfl
theorem jc_30 : jCs[30]? = some (ji 0 6) := rfl
theorem jc_31 : jCs[31]? = some (ji 0 6) := rfl
theorem jc_32 : jCs[32]? = some (ji 0 6) := rfl
theorem jc_33 : jCs[33]? = some (jo 3 [some 34, some 35]) := rfl
theorem jc_34 : jCs[34]? = some (ji 0 6) := rfl
theorem jc_35 : jCs[35]? = some (ji 0 64) := rfl
theorem jc_36 : jCs[36]? = some (jo 6 [some 37]) := rfl
theorem jc_37 : jCs[37]? = some (jr 4 [38, 39]) := rfl
theorem jc_38 : jCs[38]? = some (jj 69) := rfl
theorem jc_39 : jCs[39]? = some (jj 69) := rfl
theorem jc_40 : jCs[40]? = some (jr 5 [41, 59]) := rfl
theorem jc_41 : jCs[41]? = some (jo 0 [some 42, some 54, none]) := rfl
theorem jc_42 : jCs[42]? = some (jo 2 [some 43, some 44, some 45, some 46, some 47, none, none, none, none]) := rfl
theorem jc_43 : jCs[43]? = some (ji 0 6) := rfl
theorem jc_44 : jCs[44]? = some (ji 0 6) := rfl
theorem jc_45 : jCs[45]? = some (jr 3 [48, 49, 50, 51, 52, 53]) := rfl
theorem jc_46 : jCs[46]? = some (ji 0 8) := rfl
theorem jc_47 : jCs[47]? = some (ji 0 8) := rfl
theorem jc_48 : jCs[48]? = some (ji 0 6) := rfl
theorem jc_49 : jCs[49]? = some (ji 0 6) := rfl
theorem jc_50 : jCs[50]? = some (ji 0 6) := rfl
theorem jc_51 : jCs[51]? = some (ji 0 6) := rfl
theorem jc_52 : jCs[52]? = some (ji 0 6) := rfl
theorem jc_53 : jCs[53]? = some (ji 0 6) := rfl
theorem jc_54 : jCs[54]? = some (jo 4 [some 55, some 56, some 57, some 58, none]) := rfl
theorem jc_55 : jCs[55]? = some (ji 0 8) := rfl
theorem jc_56 : jCs[56]? = some (ji 0 8) := rfl
theorem jc_57 : jCs[57]? = some (ji 0 8) := rfl
theorem jc_58 : jCs[58]? = some (ji 0 8) := rfl
theorem jc_59 : jCs[59]? = some (jo 0 [some 60, some 72, none]) := rfl
theorem jc_60 : jCs[60]? = some (jo 2 [some 61, some 62, some 63, some 64, some 65, none, none, none, none]) := rfl
theorem jc_61 : jCs[61]? = some (ji 0 6) := rfl
theorem jc_62 : jCs[62]? = some (ji 0 6) := rfl
theorem jc_63 : jCs[63]? = some (jr 3 [66, 67, 68, 69, 70, 71]) := rfl
theorem jc_64 : jCs[64]? = some (ji 0 8) := rfl
theorem jc_65 : jCs[65]? = some (ji 0 8) := rfl
theorem jc_66 : jCs[66]? = some (ji 0 6) := rfl
theorem jc_67 : jCs[67]? = some (ji 0 6) := rfl
theorem jc_68 : jCs[68]? = some (ji 0 6) := rfl
theorem jc_69 : jCs[69]? = some (ji 0 6) := rfl
theorem jc_70 : jCs[70]? = some (ji 0 6) := rfl
theorem jc_71 : jCs[71]? = some (ji 0 6) := rfl
theorem jc_72 : jCs[72]? = some (jo 4 [some 73, some 74, some 75, some 76, none]) := rfl
theorem jc_73 : jCs[73]? = some (ji 0 8) := rfl
theorem jc_74 : jCs[74]? = some (ji 0 8) := rfl
theorem jc_75 : jCs[75]? = some (ji 0 8) := rfl
theorem jc_76 : jCs[76]? = some (ji 0 8) := rfl
theorem jc_77 : jCs[77]? = some (jo 8 [some 78, some 79, some 80, some 81, some 82, none, none, none, none, some 83, some 84, some 85, none, some 86, none, some 87, some 88, some 89, none, some 90, none, none, none, some 91, some 92, some 93, some 94, some 95, some 96, some 97, some 98, some 99, none, none]) := rfl
theorem jc_78 : jCs[78]? = some (ji 0 6) := rfl
theorem jc_79 : jCs[79]? = some (ji 0 6) := rfl
theorem jc_80 : jCs[80]? = some (ji 0 36) := rfl
theorem jc_81 : jCs[81]? = some (ji 0 8) := rfl
theorem jc_82 : jCs[82]? = some (ji 0 8) := rfl
theorem jc_83 : jCs[83]? = some (ji 0 8) := rfl
theorem jc_84 : jCs[84]? = some (ji 0 8) := rfl
theorem jc_85 : jCs[85]? = some (ji 0 8) := rfl
theorem jc_86 : jCs[86]? = some (ji 0 60) := rfl
theorem jc_87 : jCs[87]? = some (ji 0 60) := rfl
theorem jc_88 : jCs[88]? = some (ji 0 60) := rfl
theorem jc_89 : jCs[89]? = some (ji 0 60) := rfl
theorem jc_90 : jCs[90]? = some (ji 0 60) := rfl
theorem jc_91 : jCs[91]? = some (ji 0 60) := rfl
theorem jc_92 : jCs[92]? = some (ji 0 6) := rfl
theorem jc_93 : jCs[93]? = some (ji 0 64) := rfl
theorem jc_94 : jCs[94]? = some (ji 0 9) := rfl
theorem jc_95 : jCs[95]? = some (jj 70) := rfl
theorem jc_96 : jCs[96]? = some (jj 70) := rfl
theorem jc_97 : jCs[97]? = some (jj 31) := rfl
theorem jc_98 : jCs[98]? = some (ji 0 200) := rfl
theorem jc_99 : jCs[99]? = some (ji 2 2) := rfl
/-- a Realm stands at q -/
def jRl (q : Nat) : Prop := jCs[q]? = some (jo 2 [some (q + 1), some (q + 2), some (q + 3), some (q + 4), some (q + 5), none, none, none, none]) ∧ jCs[q + 1]? = some (ji 0 6) ∧ jCs[q + 2]? = some (ji 0 6) ∧ jCs[q + 3]? = some (jr 3 [q + 6, q + 7, q + 8, q + 9, q + 10, q + 11]) ∧ jCs[q + 4]? = some (ji 0 8) ∧ jCs[q + 5]? = some (ji 0 8) ∧ ∀ i : Nat, i < 6 → jCs[q + 6 + i]? = some (ji 0 6)
theorem jRl.o {q : Nat} (h : jRl q) : jCs[q]? = some (jo 2 [some (q + 1), some (q + 2), some (q + 3), some (q + 4), some (q + 5), none, none, none, none]) := h.1
theorem jRl.c1 {q : Nat} (h : jRl q) : jCs[q + 1]? = some (ji 0 6) := h.2.1
theorem jRl.c2 {q : Nat} (h : jRl q) : jCs[q + 2]? = some (ji 0 6) := h.2.2.1
theorem jRl.c3 {q : Nat} (h : jRl q) : jCs[q + 3]? = some (jr 3 [q + 6, q + 7, q + 8, q + 9, q + 10, q + 11]) := h.2.2.2.1
theorem jRl.c4 {q : Nat} (h : jRl q) : jCs[q + 4]? = some (ji 0 8) := h.2.2.2.2.1
theorem jRl.c5 {q : Nat} (h : jRl q) : jCs[q + 5]? = some (ji 0 8) := h.2.2.2.2.2.1
theorem jRl.row {q i : Nat} (h : jRl q) (hi : i < 6) : jCs[q + 6 + i]? = some (ji 0 6) := h.2.2.2.2.2.2 i hi
theorem jRl.at {q i : Nat} (_ : jRl q) (hi : i < 6) : ([q + 6, q + 7, q + 8, q + 9, q + 10, q + 11] : List Nat)[i]? = some (q + 6 + i) := by
  rcases (show i = 0 ∨ i = 1 ∨ i = 2 ∨ i = 3 ∨ i = 4 ∨ i = 5 by omega) with rfl | rfl | rfl | rfl | rfl | rfl <;> rfl
theorem jRl_1 : jRl 1 := ⟨jc_1, jc_2, jc_3, jc_4, jc_5, jc_6, fun i hi => by
  rcases (show i = 0 ∨ i = 1 ∨ i = 2 ∨ i = 3 ∨ i = 4 ∨ i = 5 by omega) with rfl | rfl | rfl | rfl | rfl | rfl
  · exact jc_7
  · exact jc_8
  · exact jc_9
  · exact jc_10
  · exact jc_11
  · exact jc_12⟩
theorem jRl_21 : jRl 21 := ⟨jc_21, jc_22, jc_23, jc_24, jc_25, jc_26, fun i hi => by
  rcases (show i = 0 ∨ i = 1 ∨ i = 2 ∨ i = 3 ∨ i = 4 ∨ i = 5 by omega) with rfl | rfl | rfl | rfl | rfl | rfl
  · exact jc_27
  · exact jc_28
  · exact jc_29
  · exact jc_30
  · exact jc_31
  · exact jc_32⟩
theorem jRl_42 : jRl 42 := ⟨jc_42, jc_43, jc_44, jc_45, jc_46, jc_47, fun i hi => by
  rcases (show i = 0 ∨ i = 1 ∨ i = 2 ∨ i = 3 ∨ i = 4 ∨ i = 5 by omega) with rfl | rfl | rfl | rfl | rfl | rfl
  · exact jc_48
  · exact jc_49
  · exact jc_50
  · exact jc_51
  · exact jc_52
  · exact jc_53⟩
theorem jRl_60 : jRl 60 := ⟨jc_60, jc_61, jc_62, jc_63, jc_64, jc_65, fun i hi => by
  rcases (show i = 0 ∨ i = 1 ∨ i = 2 ∨ i = 3 ∨ i = 4 ∨ i = 5 by omega) with rfl | rfl | rfl | rfl | rfl | rfl
  · exact jc_66
  · exact jc_67
  · exact jc_68
  · exact jc_69
  · exact jc_70
  · exact jc_71⟩
/-- Sights stand at q -/
def jSg (q : Nat) : Prop := jCs[q]? = some (jo 4 [some (q + 1), some (q + 2), some (q + 3), some (q + 4), none]) ∧ jCs[q + 1]? = some (ji 0 8) ∧ jCs[q + 2]? = some (ji 0 8) ∧ jCs[q + 3]? = some (ji 0 8) ∧ jCs[q + 4]? = some (ji 0 8)
theorem jSg.o {q : Nat} (h : jSg q) : jCs[q]? = some (jo 4 [some (q + 1), some (q + 2), some (q + 3), some (q + 4), none]) := h.1
theorem jSg.c1 {q : Nat} (h : jSg q) : jCs[q + 1]? = some (ji 0 8) := h.2.1
theorem jSg.c2 {q : Nat} (h : jSg q) : jCs[q + 2]? = some (ji 0 8) := h.2.2.1
theorem jSg.c3 {q : Nat} (h : jSg q) : jCs[q + 3]? = some (ji 0 8) := h.2.2.2.1
theorem jSg.c4 {q : Nat} (h : jSg q) : jCs[q + 4]? = some (ji 0 8) := h.2.2.2.2
theorem jSg_13 : jSg 13 := ⟨jc_13, jc_14, jc_15, jc_16, jc_17⟩
theorem jSg_54 : jSg 54 := ⟨jc_54, jc_55, jc_56, jc_57, jc_58⟩
theorem jSg_72 : jSg 72 := ⟨jc_72, jc_73, jc_74, jc_75, jc_76⟩
section JN
variable {l : Launch} {D : va_G} {a : Nat → Nat} {g : Nat → ClassId} {G : jG} {own : String} {cc : ByteArray} {nL fr lo : Nat} {M : jM} {L : jL} {pc : Nat} {loc loc' : List (Nat × Value)} {rest : List Value}
theorem J_cmpN_eq (hX : jX D a g G own cc nL fr lo) {x y : Int32} {off : Int} (tgt i j : Nat) (hd : decode cc pc = .ok (.if_icmp .eq off, 3)) (ht : (pc : Int) + off = (tgt : Int)) (hx : x = nI i) (hy : y = nI j) (bi : i < 2 ^ 31) (bj : j < 2 ^ 31) (kt : i = j → J l D a g G nL M L tgt loc rest) (kf : ¬ i = j → J l D a g G nL M L (pc + 3) loc rest) : J l D a g G nL M L pc loc (.int y :: .int x :: rest) := by
  subst hx; subst hy
  exact J_icmp_eq hX tgt hd ht (fun h => kt ((nI_eq bi bj).mp h)) (fun h => kf (fun q => h ((nI_eq bi bj).mpr q)))
theorem J_cmpN_ne (hX : jX D a g G own cc nL fr lo) {x y : Int32} {off : Int} (tgt i j : Nat) (hd : decode cc pc = .ok (.if_icmp .ne off, 3)) (ht : (pc : Int) + off = (tgt : Int)) (hx : x = nI i) (hy : y = nI j) (bi : i < 2 ^ 31) (bj : j < 2 ^ 31) (kt : ¬ i = j → J l D a g G nL M L tgt loc rest) (kf : i = j → J l D a g G nL M L (pc + 3) loc rest) : J l D a g G nL M L pc loc (.int y :: .int x :: rest) := by
  subst hx; subst hy
  exact J_icmp_ne hX tgt hd ht (fun h => kt (fun q => h ((nI_eq bi bj).mpr q))) (fun h => kf (by first | exact (nI_eq bi bj).mp h | exact (nI_eq bi bj).mp (Classical.not_not.mp h)))
theorem J_cmpN_lt (hX : jX D a g G own cc nL fr lo) {x y : Int32} {off : Int} (tgt i j : Nat) (hd : decode cc pc = .ok (.if_icmp .lt off, 3)) (ht : (pc : Int) + off = (tgt : Int)) (hx : x = nI i) (hy : y = nI j) (bi : i < 2 ^ 31) (bj : j < 2 ^ 31) (kt : i < j → J l D a g G nL M L tgt loc rest) (kf : j ≤ i → J l D a g G nL M L (pc + 3) loc rest) : J l D a g G nL M L pc loc (.int y :: .int x :: rest) := by
  subst hx; subst hy
  exact J_icmp_lt hX tgt hd ht (fun h => kt ((nI_ltI bi bj).mp h)) (fun h => kf (Nat.not_lt.mp (fun q => h ((nI_ltI bi bj).mpr q))))
theorem J_cmpN_ge (hX : jX D a g G own cc nL fr lo) {x y : Int32} {off : Int} (tgt i j : Nat) (hd : decode cc pc = .ok (.if_icmp .ge off, 3)) (ht : (pc : Int) + off = (tgt : Int)) (hx : x = nI i) (hy : y = nI j) (bi : i < 2 ^ 31) (bj : j < 2 ^ 31) (kt : j ≤ i → J l D a g G nL M L tgt loc rest) (kf : i < j → J l D a g G nL M L (pc + 3) loc rest) : J l D a g G nL M L pc loc (.int y :: .int x :: rest) := by
  subst hx; subst hy
  exact J_icmp_ge hX tgt hd ht (fun h => kt ((nI_leI bj bi).mp h)) (fun h => kf (Nat.not_le.mp (fun q => h ((nI_leI bj bi).mpr q))))
theorem J_cmpN_gt (hX : jX D a g G own cc nL fr lo) {x y : Int32} {off : Int} (tgt i j : Nat) (hd : decode cc pc = .ok (.if_icmp .gt off, 3)) (ht : (pc : Int) + off = (tgt : Int)) (hx : x = nI i) (hy : y = nI j) (bi : i < 2 ^ 31) (bj : j < 2 ^ 31) (kt : j < i → J l D a g G nL M L tgt loc rest) (kf : i ≤ j → J l D a g G nL M L (pc + 3) loc rest) : J l D a g G nL M L pc loc (.int y :: .int x :: rest) := by
  subst hx; subst hy
  exact J_icmp_gt hX tgt hd ht (fun h => kt ((nI_ltI bj bi).mp h)) (fun h => kf (Nat.not_lt.mp (fun q => h ((nI_ltI bj bi).mpr q))))
theorem J_cmpN_le (hX : jX D a g G own cc nL fr lo) {x y : Int32} {off : Int} (tgt i j : Nat) (hd : decode cc pc = .ok (.if_icmp .le off, 3)) (ht : (pc : Int) + off = (tgt : Int)) (hx : x = nI i) (hy : y = nI j) (bi : i < 2 ^ 31) (bj : j < 2 ^ 31) (kt : i ≤ j → J l D a g G nL M L tgt loc rest) (kf : j < i → J l D a g G nL M L (pc + 3) loc rest) : J l D a g G nL M L pc loc (.int y :: .int x :: rest) := by
  subst hx; subst hy
  exact J_icmp_le hX tgt hd ht (fun h => kt ((nI_leI bi bj).mp h)) (fun h => kf (Nat.not_le.mp (fun q => h ((nI_leI bi bj).mpr q))))
end JN
theorem lk_L_13 : jLv RL 13 yX7_one cX7_one 5 (some .int) 3 := ⟨wm_5_18, wm_5_19, wm_5_20, wm_1_2, wm_5_21, by decide +kernel, by decide +kernel, by decide +kernel⟩
theorem lk_X7_58 : jLs RX7 58 yX7_isOne cX7_isOne 1 (some .boolean) 1 := ⟨wm_6_0, wm_6_1, wm_1_2, wm_6_2, by decide +kernel, by decide +kernel, by decide +kernel⟩
theorem lk_X7_62 : jLs RX7 62 yX7_within cX7_within 3 (some .boolean) 3 := ⟨wm_6_3, wm_6_4, wm_1_2, wm_6_5, by decide +kernel, by decide +kernel, by decide +kernel⟩
theorem lk_L_17 : jLv RL 17 yX8_one cX8_one 5 (some .int) 3 := ⟨wm_6_6, wm_6_7, wm_6_8, wm_1_5, wm_6_9, by decide +kernel, by decide +kernel, by decide +kernel⟩
theorem lk_X8_84 : jLs RX8 84 yX8_isOne cX8_isOne 1 (some .boolean) 1 := ⟨wm_6_11, wm_6_12, wm_1_5, wm_6_13, by decide +kernel, by decide +kernel, by decide +kernel⟩
theorem lk_X8_80 : jLs RX8 80 yX8_in cX8_in 6 (some .boolean) 3 := ⟨wm_6_15, wm_6_16, wm_1_5, wm_6_17, by decide +kernel, by decide +kernel, by decide +kernel⟩
theorem lk_L_18 : jLv RL 18 yX7_owe cX7_owe 5 (some .int) 3 := ⟨wm_6_18, wm_6_19, wm_6_20, wm_1_2, wm_6_21, by decide +kernel, by decide +kernel, by decide +kernel⟩
theorem lk_L_21 : jLv RL 21 yX8_owe cX8_owe 5 (some .int) 3 := ⟨wm_6_23, wm_7_0, wm_7_1, wm_1_5, wm_7_2, by decide +kernel, by decide +kernel, by decide +kernel⟩
theorem lk_L_22 : jLv RL 22 yX7_lot cX7_lot 5 (some .int) 3 := ⟨wm_7_4, wm_7_5, wm_7_6, wm_1_2, wm_7_7, by decide +kernel, by decide +kernel, by decide +kernel⟩
theorem lk_L_25 : jLv RL 25 yX8_lot cX8_lot 5 (some .int) 3 := ⟨wm_7_10, wm_7_11, wm_7_12, wm_1_5, wm_7_13, by decide +kernel, by decide +kernel, by decide +kernel⟩
theorem lk_L_26 : jLv RL 26 yX7_set cX7_set 4 (some .int) 2 := ⟨wm_7_16, wm_7_17, wm_7_18, wm_1_2, wm_7_19, by decide +kernel, by decide +kernel, by decide +kernel⟩
theorem lk_L_30 : jLv RL 30 yX8_set cX8_set 4 (some .int) 2 := ⟨wm_7_23, wm_8_0, wm_8_1, wm_1_5, wm_8_2, by decide +kernel, by decide +kernel, by decide +kernel⟩
theorem lk_L_31 : jLv RL 31 yX7_say cX7_say 2 (some .int) 1 := ⟨wm_8_6, wm_8_7, wm_8_8, wm_1_2, wm_8_9, by decide +kernel, by decide +kernel, by decide +kernel⟩
theorem lk_X7_94 : jLv RX7 94 yX1_add cX1_add 2 none 1 := ⟨wm_8_11, wm_8_12, wm_8_13, wm_1_22, wm_8_14, by decide +kernel, by decide +kernel, by decide +kernel⟩
theorem lk_L_35 : jLv RL 35 yX8_say cX8_say 2 (some .int) 1 := ⟨wm_8_16, wm_8_17, wm_8_18, wm_1_5, wm_8_19, by decide +kernel, by decide +kernel, by decide +kernel⟩
theorem lk_L_36 : jLv RL 36 yX7_wipe cX7_wipe 2 (some .int) 0 := ⟨wm_8_23, wm_9_0, wm_9_1, wm_1_2, wm_9_2, by decide +kernel, by decide +kernel, by decide +kernel⟩
theorem lk_L_40 : jLv RL 40 yX8_wipe cX8_wipe 2 (some .int) 0 := ⟨wm_9_3, wm_9_4, wm_9_5, wm_1_5, wm_9_6, by decide +kernel, by decide +kernel, by decide +kernel⟩
theorem lk_L_41 : jLv RL 41 yX7_fault cX7_fault 1 (some .int) 0 := ⟨wm_9_7, wm_9_8, wm_9_9, wm_1_2, wm_9_10, by decide +kernel, by decide +kernel, by decide +kernel⟩
theorem lk_X7_98 : jLv RX7 98 yX1_faultPlace cX1_faultPlace 3 (some .int) 0 := ⟨wm_9_11, wm_9_12, wm_9_13, wm_1_22, wm_9_14, by decide +kernel, by decide +kernel, by decide +kernel⟩
theorem lk_X1_19 : jLs RX1 19 yX1_nextBehind cX1_nextBehind 2 (some .int) 2 := ⟨wm_9_15, wm_9_16, wm_1_22, wm_9_17, by decide +kernel, by decide +kernel, by decide +kernel⟩
theorem lk_X1_23 : jLs RX1 23 yX1_nextBehindFirst cX1_nextBehindFirst 1 (some .int) 1 := ⟨wm_9_18, wm_9_19, wm_1_22, wm_9_20, by decide +kernel, by decide +kernel, by decide +kernel⟩
theorem lk_X1_31 : jLs RX1 31 yX1_isLetter cX1_isLetter 1 (some .boolean) 1 := ⟨wm_9_21, wm_9_22, wm_1_22, wm_9_23, by decide +kernel, by decide +kernel, by decide +kernel⟩
theorem lk_X1_35 : jLs RX1 35 yX1_nextBehindDeed cX1_nextBehindDeed 1 (some .int) 1 := ⟨wm_10_0, wm_10_1, wm_1_22, wm_10_2, by decide +kernel, by decide +kernel, by decide +kernel⟩
theorem lk_L_44 : jLv RL 44 yX8_fault cX8_fault 3 (some .int) 0 := ⟨wm_10_3, wm_10_4, wm_10_5, wm_1_5, wm_10_6, by decide +kernel, by decide +kernel, by decide +kernel⟩
theorem lk_X8_148 : jLv RX8 148 yX8_readOn cX8_readOn 3 (some .int) 2 := ⟨wm_10_8, wm_10_9, wm_10_10, wm_1_5, wm_10_11, by decide +kernel, by decide +kernel, by decide +kernel⟩
theorem lk_X8_130 : jLv RX8 130 yX8_begin cX8_begin 2 (some .int) 1 := ⟨wm_10_14, wm_10_15, wm_10_16, wm_1_5, wm_10_17, by decide +kernel, by decide +kernel, by decide +kernel⟩
theorem lk_X8_119 : jLs RX8 119 yX8_isLetter cX8_isLetter 1 (some .boolean) 1 := ⟨wm_10_18, wm_10_19, wm_1_5, wm_10_20, by decide +kernel, by decide +kernel, by decide +kernel⟩
theorem lk_X8_122 : jLv RX8 122 yX8_close cX8_close 3 (some .int) 2 := ⟨wm_10_23, wm_11_0, wm_11_1, wm_1_5, wm_11_2, by decide +kernel, by decide +kernel, by decide +kernel⟩
theorem lk_X8_134 : jLs RX8 134 yX8_deed cX8_deed 1 (some .int) 1 := ⟨wm_11_3, wm_11_4, wm_1_5, wm_11_5, by decide +kernel, by decide +kernel, by decide +kernel⟩
theorem lk_X8_137 : jLv RX8 137 yX8_number cX8_number 4 (some .int) 3 := ⟨wm_11_6, wm_11_7, wm_11_8, wm_1_5, wm_11_9, by decide +kernel, by decide +kernel, by decide +kernel⟩
theorem lk_X8_141 : jLv RX8 141 yX8_forWhom cX8_forWhom 2 (some .int) 1 := ⟨wm_11_12, wm_11_13, wm_11_14, wm_1_5, wm_11_15, by decide +kernel, by decide +kernel, by decide +kernel⟩
theorem lk_L_45 : jLv RL 45 yX7_judge cX7_judge 3 (some .int) 1 := ⟨wm_11_16, wm_11_17, wm_11_18, wm_1_2, wm_11_19, by decide +kernel, by decide +kernel, by decide +kernel⟩
theorem lk_X7_102 : jLv RX7 102 yX7_tryMonths cX7_tryMonths 2 (some .int) 1 := ⟨wm_11_23, wm_12_0, wm_12_1, wm_1_2, wm_12_2, by decide +kernel, by decide +kernel, by decide +kernel⟩
theorem lk_X7_153 : jLv RX7 153 yX5_follow cX5_follow 5 none 3 := ⟨wm_12_3, wm_12_4, wm_12_5, wm_2_2, wm_12_6, by decide +kernel, by decide +kernel, by decide +kernel⟩
theorem lk_X5_18 : jLv RX5 18 yX2_copyFrom cX2_copyFrom 3 none 1 := ⟨wm_12_16, wm_12_17, wm_12_18, wm_1_14, wm_12_19, by decide +kernel, by decide +kernel, by decide +kernel⟩
theorem lk_X5_40 : jLv RX5 40 yX5_read cX5_read 5 none 2 := ⟨wm_13_4, wm_13_5, wm_13_6, wm_2_2, wm_13_7, by decide +kernel, by decide +kernel, by decide +kernel⟩
theorem lk_X5_68 : jLv RX5 68 yX1_signAt cX1_signAt 2 (some .int) 1 := ⟨wm_13_8, wm_13_9, wm_13_10, wm_1_22, wm_13_11, by decide +kernel, by decide +kernel, by decide +kernel⟩
theorem lk_X5_72 : jLs RX5 72 yX5_kindOf cX5_kindOf 2 (some .int) 2 := ⟨wm_13_12, wm_13_13, wm_2_2, wm_13_14, by decide +kernel, by decide +kernel, by decide +kernel⟩
theorem lk_X5_76 : jLs RX5 76 yX5_kindOfDeed cX5_kindOfDeed 1 (some .int) 1 := ⟨wm_13_15, wm_13_16, wm_2_2, wm_13_17, by decide +kernel, by decide +kernel, by decide +kernel⟩
theorem lk_X5_53 : jLv RX5 53 yX2_act cX2_act 4 (some .int) 3 := ⟨wm_13_18, wm_13_19, wm_13_20, wm_1_14, wm_13_21, by decide +kernel, by decide +kernel, by decide +kernel⟩
theorem lk_X2_66 : jLv RX2 66 yX2_printed cX2_printed 2 (some .int) 1 := ⟨wm_13_22, wm_13_23, wm_14_0, wm_1_14, wm_14_1, by decide +kernel, by decide +kernel, by decide +kernel⟩
theorem lk_X2_69 : jLv RX2 69 yX2_paidByState cX2_paidByState 3 (some .int) 2 := ⟨wm_14_3, wm_14_4, wm_14_5, wm_1_14, wm_14_6, by decide +kernel, by decide +kernel, by decide +kernel⟩
theorem lk_X2_72 : jLv RX2 72 yX2_bought cX2_bought 3 (some .int) 2 := ⟨wm_14_7, wm_14_8, wm_14_9, wm_1_14, wm_14_10, by decide +kernel, by decide +kernel, by decide +kernel⟩
theorem lk_X2_75 : jLv RX2 75 yX2_exchanged cX2_exchanged 4 (some .int) 2 := ⟨wm_14_11, wm_14_12, wm_14_13, wm_1_14, wm_14_14, by decide +kernel, by decide +kernel, by decide +kernel⟩
theorem lk_X2_88 : jLv RX2 88 yX2_rate cX2_rate 1 (some .int) 0 := ⟨wm_14_15, wm_14_16, wm_14_17, wm_1_14, wm_14_18, by decide +kernel, by decide +kernel, by decide +kernel⟩
theorem lk_X2_48 : jLv RX2 48 yX2_land cX2_land 3 (some .int) 0 := ⟨wm_14_19, wm_14_20, wm_14_21, wm_1_14, wm_14_22, by decide +kernel, by decide +kernel, by decide +kernel⟩
theorem lk_X2_52 : jLv RX2 52 yX2_notes cX2_notes 3 (some .int) 0 := ⟨wm_14_23, wm_15_0, wm_15_1, wm_1_14, wm_15_2, by decide +kernel, by decide +kernel, by decide +kernel⟩
theorem lk_X2_78 : jLv RX2 78 yX2_settled cX2_settled 4 (some .int) 2 := ⟨wm_15_9, wm_15_10, wm_15_11, wm_1_14, wm_15_12, by decide +kernel, by decide +kernel, by decide +kernel⟩
theorem lk_X2_81 : jLv RX2 81 yX2_forgedFor cX2_forgedFor 3 (some .int) 2 := ⟨wm_15_14, wm_15_15, wm_15_16, wm_1_14, wm_15_17, by decide +kernel, by decide +kernel, by decide +kernel⟩
theorem lk_X2_84 : jLv RX2 84 yX2_monthEnded cX2_monthEnded 1 (some .int) 0 := ⟨wm_15_18, wm_15_19, wm_15_20, wm_1_14, wm_15_21, by decide +kernel, by decide +kernel, by decide +kernel⟩
theorem lk_X5_57 : jLv RX5 57 yX5_endMonth cX5_endMonth 2 none 1 := ⟨wm_15_22, wm_15_23, wm_16_0, wm_2_2, wm_16_1, by decide +kernel, by decide +kernel, by decide +kernel⟩
theorem lk_X5_64 : jLv RX5 64 yX2_rate cX2_rate 1 (some .int) 0 := ⟨wm_16_2, wm_14_16, wm_14_17, wm_1_14, wm_14_18, by decide +kernel, by decide +kernel, by decide +kernel⟩
theorem lk_L_48 : jLv RL 48 yX8_judge cX8_judge 3 (some .int) 1 := ⟨wm_16_3, wm_16_4, wm_16_5, wm_1_5, wm_16_6, by decide +kernel, by decide +kernel, by decide +kernel⟩
theorem lk_X8_223 : jLv RX8 223 yX8_refusal cX8_refusal 1 (some .int) 0 := ⟨wm_16_11, wm_16_12, wm_16_13, wm_1_5, wm_16_14, by decide +kernel, by decide +kernel, by decide +kernel⟩
theorem lk_X8_212 : jLv RX8 212 yX8_keepNow cX8_keepNow 2 none 0 := ⟨wm_16_15, wm_16_16, wm_16_17, wm_1_5, wm_16_18, by decide +kernel, by decide +kernel, by decide +kernel⟩
theorem lk_X8_215 : jLv RX8 215 yX8_fault cX8_fault 3 (some .int) 0 := ⟨wm_16_21, wm_10_4, wm_10_5, wm_1_5, wm_10_6, by decide +kernel, by decide +kernel, by decide +kernel⟩
theorem lk_X8_218 : jLv RX8 218 yX8_goMonths cX8_goMonths 3 none 0 := ⟨wm_16_22, wm_16_23, wm_17_0, wm_1_5, wm_17_1, by decide +kernel, by decide +kernel, by decide +kernel⟩
theorem lk_X8_205 : jLv RX8 205 yX8_whyNot cX8_whyNot 4 (some .int) 3 := ⟨wm_17_2, wm_17_3, wm_17_4, wm_1_5, wm_17_5, by decide +kernel, by decide +kernel, by decide +kernel⟩
theorem lk_X8_174 : jLv RX8 174 yX8_whyNotChange cX8_whyNotChange 3 (some .int) 2 := ⟨wm_17_7, wm_17_8, wm_17_9, wm_1_5, wm_17_10, by decide +kernel, by decide +kernel, by decide +kernel⟩
theorem lk_X8_167 : jLv RX8 167 yX8_worth cX8_worth 2 (some .int) 1 := ⟨wm_17_11, wm_17_12, wm_17_13, wm_1_5, wm_17_14, by decide +kernel, by decide +kernel, by decide +kernel⟩
theorem lk_X8_164 : jLv RX8 164 yX8_rate cX8_rate 1 (some .int) 0 := ⟨wm_17_15, wm_17_16, wm_17_17, wm_1_5, wm_17_18, by decide +kernel, by decide +kernel, by decide +kernel⟩
theorem lk_X8_153 : jLv RX8 153 yX8_land cX8_land 3 (some .int) 0 := ⟨wm_17_19, wm_17_20, wm_17_21, wm_1_5, wm_17_22, by decide +kernel, by decide +kernel, by decide +kernel⟩
theorem lk_X8_157 : jLv RX8 157 yX8_notes cX8_notes 3 (some .int) 0 := ⟨wm_17_23, wm_18_0, wm_18_1, wm_1_5, wm_18_2, by decide +kernel, by decide +kernel, by decide +kernel⟩
theorem lk_X8_160 : jLs RX8 160 yX8_rateOf cX8_rateOf 5 (some .int) 2 := ⟨wm_18_3, wm_18_4, wm_1_5, wm_18_5, by decide +kernel, by decide +kernel, by decide +kernel⟩
theorem lk_X8_177 : jLv RX8 177 yX8_whyNotPay cX8_whyNotPay 4 (some .int) 2 := ⟨wm_18_7, wm_18_8, wm_18_9, wm_1_5, wm_18_10, by decide +kernel, by decide +kernel, by decide +kernel⟩
theorem lk_X8_171 : jLv RX8 171 yX8_payment cX8_payment 4 (some .int) 2 := ⟨wm_18_11, wm_18_12, wm_18_13, wm_1_5, wm_18_14, by decide +kernel, by decide +kernel, by decide +kernel⟩
theorem lk_X8_208 : jLv RX8 208 yX8_happen cX8_happen 4 none 3 := ⟨wm_18_15, wm_18_16, wm_18_17, wm_1_5, wm_18_18, by decide +kernel, by decide +kernel, by decide +kernel⟩
theorem lk_X8_186 : jLv RX8 186 yX8_buy cX8_buy 3 none 2 := ⟨wm_18_19, wm_18_20, wm_18_21, wm_1_5, wm_18_22, by decide +kernel, by decide +kernel, by decide +kernel⟩
theorem lk_X8_190 : jLv RX8 190 yX8_swap cX8_swap 3 none 2 := ⟨wm_18_23, wm_19_0, wm_19_1, wm_1_5, wm_19_2, by decide +kernel, by decide +kernel, by decide +kernel⟩
theorem lk_X8_193 : jLv RX8 193 yX8_pay cX8_pay 4 none 2 := ⟨wm_19_3, wm_19_4, wm_19_5, wm_1_5, wm_19_6, by decide +kernel, by decide +kernel, by decide +kernel⟩
theorem lk_X8_226 : jLv RX8 226 yX8_back cX8_back 3 (some .int) 1 := ⟨wm_19_7, wm_19_8, wm_19_9, wm_1_5, wm_19_10, by decide +kernel, by decide +kernel, by decide +kernel⟩
theorem lk_L_49 : jLv RL 49 yX7_behind cX7_behind 4 (some .int) 2 := ⟨wm_19_11, wm_19_12, wm_19_13, wm_1_2, wm_19_14, by decide +kernel, by decide +kernel, by decide +kernel⟩
theorem lk_X7_118 : jLv RX7 118 yX2_ofOne cX2_ofOne 3 (some .int) 2 := ⟨wm_19_16, wm_19_17, wm_19_18, wm_1_14, wm_19_19, by decide +kernel, by decide +kernel, by decide +kernel⟩
theorem lk_X2_59 : jLv RX2 59 yX2_lotsOf cX2_lotsOf 4 (some .int) 1 := ⟨wm_19_20, wm_19_21, wm_19_22, wm_1_14, wm_19_23, by decide +kernel, by decide +kernel, by decide +kernel⟩
theorem lk_X2_63 : jLv RX2 63 yX2_owesInAll cX2_owesInAll 4 (some .int) 1 := ⟨wm_20_0, wm_20_1, wm_20_2, wm_1_14, wm_20_3, by decide +kernel, by decide +kernel, by decide +kernel⟩
theorem lk_L_52 : jLv RL 52 yX8_behind cX8_behind 4 (some .int) 2 := ⟨wm_20_4, wm_20_5, wm_20_6, wm_1_5, wm_20_7, by decide +kernel, by decide +kernel, by decide +kernel⟩
theorem lk_X8_237 : jLv RX8 237 yX8_ofOne cX8_ofOne 3 (some .int) 2 := ⟨wm_20_9, wm_20_10, wm_20_11, wm_1_5, wm_20_12, by decide +kernel, by decide +kernel, by decide +kernel⟩
theorem lk_X8_229 : jLv RX8 229 yX8_lotsOf cX8_lotsOf 4 (some .int) 1 := ⟨wm_20_13, wm_20_14, wm_20_15, wm_1_5, wm_20_16, by decide +kernel, by decide +kernel, by decide +kernel⟩
theorem lk_X8_232 : jLv RX8 232 yX8_owesInAll cX8_owesInAll 4 (some .int) 1 := ⟨wm_20_17, wm_20_18, wm_20_19, wm_1_5, wm_20_20, by decide +kernel, by decide +kernel, by decide +kernel⟩
theorem lk_L_53 : jLv RL 53 yX7_total cX7_total 3 (some .int) 1 := ⟨wm_20_21, wm_20_22, wm_20_23, wm_1_2, wm_21_0, by decide +kernel, by decide +kernel, by decide +kernel⟩
theorem lk_X7_122 : jLv RX7 122 yX2_notes cX2_notes 3 (some .int) 0 := ⟨wm_21_3, wm_15_0, wm_15_1, wm_1_14, wm_15_2, by decide +kernel, by decide +kernel, by decide +kernel⟩
theorem lk_X7_125 : jLv RX7 125 yX2_land cX2_land 3 (some .int) 0 := ⟨wm_21_4, wm_14_20, wm_14_21, wm_1_14, wm_14_22, by decide +kernel, by decide +kernel, by decide +kernel⟩
theorem lk_X7_128 : jLv RX7 128 yX2_rate cX2_rate 1 (some .int) 0 := ⟨wm_21_5, wm_14_16, wm_14_17, wm_1_14, wm_14_18, by decide +kernel, by decide +kernel, by decide +kernel⟩
theorem lk_L_56 : jLv RL 56 yX8_total cX8_total 3 (some .int) 1 := ⟨wm_21_6, wm_21_7, wm_21_8, wm_1_5, wm_21_9, by decide +kernel, by decide +kernel, by decide +kernel⟩
theorem lk_X8_240 : jLv RX8 240 yX8_ofAll cX8_ofAll 2 (some .int) 1 := ⟨wm_21_10, wm_21_11, wm_21_12, wm_1_5, wm_21_13, by decide +kernel, by decide +kernel, by decide +kernel⟩
theorem lk_L_57 : jLv RL 57 yX7_fell cX7_fell 3 (some .int) 1 := ⟨wm_21_14, wm_21_15, wm_21_16, wm_1_2, wm_21_17, by decide +kernel, by decide +kernel, by decide +kernel⟩
theorem lk_L_60 : jLv RL 60 yX8_fell cX8_fell 4 (some .int) 1 := ⟨wm_21_19, wm_21_20, wm_21_21, wm_1_5, wm_21_22, by decide +kernel, by decide +kernel, by decide +kernel⟩
theorem lk_L_61 : jLv RL 61 yX7_done cX7_done 2 (some .int) 0 := ⟨wm_21_23, wm_22_0, wm_22_1, wm_1_2, wm_22_2, by decide +kernel, by decide +kernel, by decide +kernel⟩
theorem lk_X7_140 : jLv RX7 140 yX2_copyFrom cX2_copyFrom 3 none 1 := ⟨wm_22_3, wm_12_17, wm_12_18, wm_1_14, wm_12_19, by decide +kernel, by decide +kernel, by decide +kernel⟩
theorem lk_L_64 : jLv RL 64 yX8_done cX8_done 2 (some .int) 0 := ⟨wm_22_4, wm_22_5, wm_22_6, wm_1_5, wm_22_7, by decide +kernel, by decide +kernel, by decide +kernel⟩
theorem lk_L_65 : jLv RL 65 yX7_struck cX7_struck 2 (some .int) 1 := ⟨wm_22_8, wm_22_9, wm_22_10, wm_1_2, wm_22_11, by decide +kernel, by decide +kernel, by decide +kernel⟩
theorem lk_X7_144 : jLv RX7 144 yX3_weigh cX3_weigh 4 none 1 := ⟨wm_22_12, wm_22_13, wm_22_14, wm_2_6, wm_22_15, by decide +kernel, by decide +kernel, by decide +kernel⟩
theorem lk_X3_18 : jLv RX3 18 yX2_owesInAll cX2_owesInAll 4 (some .int) 1 := ⟨wm_22_17, wm_20_1, wm_20_2, wm_1_14, wm_20_3, by decide +kernel, by decide +kernel, by decide +kernel⟩
theorem lk_X7_147 : jLv RX7 147 yX3_fewestPayments cX3_fewestPayments 5 (some .int) 0 := ⟨wm_22_18, wm_22_19, wm_22_20, wm_2_6, wm_22_21, by decide +kernel, by decide +kernel, by decide +kernel⟩
theorem lk_X3_34 : jLv RX3 34 yX3_dueTo cX3_dueTo 4 (some .int) 1 := ⟨wm_23_1, wm_23_2, wm_23_3, wm_2_6, wm_23_4, by decide +kernel, by decide +kernel, by decide +kernel⟩
theorem lk_X7_150 : jLv RX7 150 yX3_leastPaid cX3_leastPaid 3 (some .int) 0 := ⟨wm_23_5, wm_23_6, wm_23_7, wm_2_6, wm_23_8, by decide +kernel, by decide +kernel, by decide +kernel⟩
theorem lk_L_68 : jLv RL 68 yX8_struck cX8_struck 5 (some .int) 1 := ⟨wm_23_9, wm_23_10, wm_23_11, wm_1_5, wm_23_12, by decide +kernel, by decide +kernel, by decide +kernel⟩
theorem lk_X8_246 : jLv RX8 246 yX8_mostEven cX8_mostEven 6 (some .int) 1 := ⟨wm_23_13, wm_23_14, wm_23_15, wm_1_5, wm_23_16, by decide +kernel, by decide +kernel, by decide +kernel⟩
theorem lk_X8_243 : jLv RX8 243 yX8_netOf cX8_netOf 4 (some .int) 1 := ⟨wm_23_17, wm_23_18, wm_23_19, wm_1_5, wm_23_20, by decide +kernel, by decide +kernel, by decide +kernel⟩
theorem lk_L_69 : jLv RL 69 yX7_prints cX7_prints 4 (some .int) 1 := ⟨wm_23_21, wm_23_22, wm_23_23, wm_1_2, wm_24_0, by decide +kernel, by decide +kernel, by decide +kernel⟩
theorem lk_L_72 : jLv RL 72 yX8_prints cX8_prints 4 (some .int) 1 := ⟨wm_24_1, wm_24_2, wm_24_3, wm_1_5, wm_24_4, by decide +kernel, by decide +kernel, by decide +kernel⟩
theorem lk_L_73 : jLv RL 73 yX7_buys cX7_buys 8 (some .int) 2 := ⟨wm_24_5, wm_24_6, wm_24_7, wm_1_2, wm_24_8, by decide +kernel, by decide +kernel, by decide +kernel⟩
theorem lk_X7_162 : jLv RX7 162 yX2_lotsOf cX2_lotsOf 4 (some .int) 1 := ⟨wm_24_9, wm_19_21, wm_19_22, wm_1_14, wm_19_23, by decide +kernel, by decide +kernel, by decide +kernel⟩
theorem lk_X7_165 : jLv RX7 165 yX2_priceOf cX2_priceOf 4 (some .int) 1 := ⟨wm_24_10, wm_24_11, wm_24_12, wm_1_14, wm_24_13, by decide +kernel, by decide +kernel, by decide +kernel⟩
theorem lk_L_76 : jLv RL 76 yX8_buys cX8_buys 7 (some .int) 2 := ⟨wm_24_14, wm_24_15, wm_24_16, wm_1_5, wm_24_17, by decide +kernel, by decide +kernel, by decide +kernel⟩
theorem lk_X8_249 : jLv RX8 249 yX8_pricesOf cX8_pricesOf 4 (some .int) 1 := ⟨wm_24_18, wm_24_19, wm_24_20, wm_1_5, wm_24_21, by decide +kernel, by decide +kernel, by decide +kernel⟩
theorem lk_L_77 : jLv RL 77 yX7_runs cX7_runs 8 (some .int) 3 := ⟨wm_24_22, wm_24_23, wm_25_0, wm_1_2, wm_25_1, by decide +kernel, by decide +kernel, by decide +kernel⟩
theorem lk_X7_168 : jLs RX7 168 yX7_rateOf cX7_rateOf 2 (some .int) 2 := ⟨wm_25_2, wm_15_3, wm_1_2, wm_15_4, by decide +kernel, by decide +kernel, by decide +kernel⟩
theorem lk_L_80 : jLv RL 80 yX8_runs cX8_runs 8 (some .int) 3 := ⟨wm_25_3, wm_25_4, wm_25_5, wm_1_5, wm_25_6, by decide +kernel, by decide +kernel, by decide +kernel⟩
theorem lk_L_81 : jLv RL 81 yX7_wages cX7_wages 8 (some .int) 2 := ⟨wm_25_8, wm_25_9, wm_25_10, wm_1_2, wm_25_11, by decide +kernel, by decide +kernel, by decide +kernel⟩
theorem lk_L_84 : jLv RL 84 yX8_wages cX8_wages 7 (some .int) 2 := ⟨wm_25_14, wm_25_15, wm_25_16, wm_1_5, wm_25_17, by decide +kernel, by decide +kernel, by decide +kernel⟩
theorem lk_L_85 : jLv RL 85 yX7_change cX7_change 10 (some .long) 5 := ⟨wm_25_20, wm_25_21, wm_25_22, wm_1_2, wm_25_23, by decide +kernel, by decide +kernel, by decide +kernel⟩
theorem lk_X7_179 : jLv RX7 179 yX6_scaledMean cX6_scaledMean 12 (some .long) 3 := ⟨wm_26_2, wm_26_3, wm_26_4, wm_2_10, wm_26_5, by decide +kernel, by decide +kernel, by decide +kernel⟩
theorem lk_X7_183 : jLs RX7 183 yX7_lowest cX7_lowest 12 (some .long) 3 := ⟨wm_26_11, wm_26_12, wm_1_2, wm_26_13, by decide +kernel, by decide +kernel, by decide +kernel⟩
theorem lk_L_89 : jLv RL 89 yX8_change cX8_change 13 (some .long) 5 := ⟨wm_26_14, wm_26_15, wm_26_16, wm_1_5, wm_26_17, by decide +kernel, by decide +kernel, by decide +kernel⟩
theorem lk_X8_264 : jLs RX8 264 yX8_lowest cX8_lowest 11 (some .long) 3 := ⟨wm_26_21, wm_26_22, wm_1_5, wm_26_23, by decide +kernel, by decide +kernel, by decide +kernel⟩
theorem lk_L_90 : jLv RL 90 yX7_sample cX7_sample 6 (some .long) 5 := ⟨wm_27_0, wm_27_1, wm_27_2, wm_1_2, wm_27_3, by decide +kernel, by decide +kernel, by decide +kernel⟩
theorem lk_X7_187 : jLs RX7 187 yX7_choices cX7_choices 5 (some .long) 2 := ⟨wm_27_4, wm_27_5, wm_1_2, wm_27_6, by decide +kernel, by decide +kernel, by decide +kernel⟩
theorem lk_L_93 : jLv RL 93 yX8_sample cX8_sample 6 (some .long) 5 := ⟨wm_27_7, wm_27_8, wm_27_9, wm_1_5, wm_27_10, by decide +kernel, by decide +kernel, by decide +kernel⟩
theorem lk_X8_270 : jLv RX8 270 yX8_chooseOf cX8_chooseOf 5 (some .long) 2 := ⟨wm_27_12, wm_27_13, wm_27_14, wm_1_5, wm_27_15, by decide +kernel, by decide +kernel, by decide +kernel⟩
theorem lk_L_94 : jLv RL 94 yX7_seen cX7_seen 4 (some .int) 3 := ⟨wm_27_16, wm_27_17, wm_27_18, wm_1_2, wm_27_19, by decide +kernel, by decide +kernel, by decide +kernel⟩
theorem lk_X7_192 : jLv RX7 192 yX4_add cX4_add 4 none 3 := ⟨wm_27_21, wm_27_22, wm_27_23, wm_1_18, wm_28_0, by decide +kernel, by decide +kernel, by decide +kernel⟩
theorem lk_L_97 : jLv RL 97 yX8_seen cX8_seen 4 (some .int) 3 := ⟨wm_28_2, wm_28_3, wm_28_4, wm_1_5, wm_28_5, by decide +kernel, by decide +kernel, by decide +kernel⟩
theorem lk_L_98 : jLv RL 98 yX7_forget cX7_forget 2 (some .int) 0 := ⟨wm_28_8, wm_28_9, wm_28_10, wm_1_2, wm_28_11, by decide +kernel, by decide +kernel, by decide +kernel⟩
theorem lk_L_101 : jLv RL 101 yX8_forget cX8_forget 2 (some .int) 0 := ⟨wm_28_12, wm_28_13, wm_28_14, wm_1_5, wm_28_15, by decide +kernel, by decide +kernel, by decide +kernel⟩
theorem lk_L_102 : jLv RL 102 yX7_clerks cX7_clerks 5 (some .int) 2 := ⟨wm_28_16, wm_28_17, wm_28_18, wm_1_2, wm_28_19, by decide +kernel, by decide +kernel, by decide +kernel⟩
theorem lk_X7_195 : jLv RX7 195 yX4_fit cX4_fit 5 (some .boolean) 2 := ⟨wm_28_20, wm_28_21, wm_28_22, wm_1_18, wm_28_23, by decide +kernel, by decide +kernel, by decide +kernel⟩
theorem lk_X4_34 : jLs RX4 34 yJ6_bitCount_0f7a4 cJ6_bitCount_0f7a4 1 (some .int) 1 := ⟨wm_29_0, wm_29_1, wm_29_2, wm_29_3, by decide +kernel, by decide +kernel, by decide +kernel⟩
theorem lk_L_105 : jLv RL 105 yX8_clerks cX8_clerks 5 (some .int) 2 := ⟨wm_29_7, wm_29_8, wm_29_9, wm_1_5, wm_29_10, by decide +kernel, by decide +kernel, by decide +kernel⟩
theorem lk_X8_282 : jLv RX8 282 yX8_fits cX8_fits 6 (some .boolean) 2 := ⟨wm_29_11, wm_29_12, wm_29_13, wm_1_5, wm_29_14, by decide +kernel, by decide +kernel, by decide +kernel⟩
theorem lk_X8_279 : jLs RX8 279 yX8_bitsOf cX8_bitsOf 3 (some .int) 1 := ⟨wm_29_15, wm_29_16, wm_1_5, wm_29_17, by decide +kernel, by decide +kernel, by decide +kernel⟩
theorem lk_L_106 : jLv RL 106 yX7_count cX7_count 6 (some .int) 2 := ⟨wm_29_18, wm_29_19, wm_29_20, wm_1_2, wm_29_21, by decide +kernel, by decide +kernel, by decide +kernel⟩
theorem lk_X7_199 : jLv RX7 199 yX4_tally cX4_tally 5 (some .int) 1 := ⟨wm_29_22, wm_29_23, wm_30_0, wm_1_18, wm_30_1, by decide +kernel, by decide +kernel, by decide +kernel⟩
theorem lk_X4_40 : jLv RX4 40 yX4_fit cX4_fit 5 (some .boolean) 2 := ⟨wm_30_2, wm_28_21, wm_28_22, wm_1_18, wm_28_23, by decide +kernel, by decide +kernel, by decide +kernel⟩
theorem lk_X7_202 : jLv RX7 202 yX4_mostLeft cX4_mostLeft 3 (some .int) 2 := ⟨wm_30_3, wm_30_4, wm_30_5, wm_1_18, wm_30_6, by decide +kernel, by decide +kernel, by decide +kernel⟩
theorem lk_L_109 : jLv RL 109 yX8_count cX8_count 7 (some .int) 2 := ⟨wm_30_8, wm_30_9, wm_30_10, wm_1_5, wm_30_11, by decide +kernel, by decide +kernel, by decide +kernel⟩
theorem lk_X8_286 : jLv RX8 286 yX8_mostLeft cX8_mostLeft 7 (some .int) 2 := ⟨wm_30_12, wm_30_13, wm_30_14, wm_1_5, wm_30_15, by decide +kernel, by decide +kernel, by decide +kernel⟩
theorem lk_L_110 : jLv RL 110 yX7_year cX7_year 8 (some .int) 3 := ⟨wm_30_16, wm_30_17, wm_30_18, wm_1_2, wm_30_19, by decide +kernel, by decide +kernel, by decide +kernel⟩
theorem lk_X7_206 : jLs RX7 206 yX7_drawnNumber cX7_drawnNumber 2 (some .int) 2 := ⟨wm_30_21, wm_30_22, wm_1_2, wm_30_23, by decide +kernel, by decide +kernel, by decide +kernel⟩
theorem lk_X7_209 : jLv RX7 209 yX2_act cX2_act 4 (some .int) 3 := ⟨wm_31_0, wm_13_19, wm_13_20, wm_1_14, wm_13_21, by decide +kernel, by decide +kernel, by decide +kernel⟩
theorem lk_X7_213 : jLs RX7 213 yJ6_bitCount_0f7a4 cJ6_bitCount_0f7a4 1 (some .int) 1 := ⟨wm_31_1, wm_29_1, wm_29_2, wm_29_3, by decide +kernel, by decide +kernel, by decide +kernel⟩
theorem lk_L_113 : jLv RL 113 yX8_year cX8_year 9 (some .int) 3 := ⟨wm_31_2, wm_31_3, wm_31_4, wm_1_5, wm_31_5, by decide +kernel, by decide +kernel, by decide +kernel⟩
theorem lk_X8_295 : jLs RX8 295 yX8_actBy cX8_actBy 1 (some .int) 1 := ⟨wm_31_9, wm_31_10, wm_1_5, wm_31_11, by decide +kernel, by decide +kernel, by decide +kernel⟩
theorem lk_X8_298 : jLs RX8 298 yX8_muchBy cX8_muchBy 2 (some .int) 2 := ⟨wm_31_12, wm_31_13, wm_1_5, wm_31_14, by decide +kernel, by decide +kernel, by decide +kernel⟩
theorem lk_L_114 : jLv RL 114 yX7_image cX7_image 2 (some .int) 1 := ⟨wm_31_15, wm_31_16, wm_31_17, wm_1_2, wm_31_18, by decide +kernel, by decide +kernel, by decide +kernel⟩
theorem lk_X7_220 : jLv RX7 220 yX4_copyFrom cX4_copyFrom 2 none 1 := ⟨wm_31_22, wm_31_23, wm_32_0, wm_1_18, wm_32_1, by decide +kernel, by decide +kernel, by decide +kernel⟩
theorem lk_L_117 : jLv RL 117 yX8_image cX8_image 2 (some .int) 1 := ⟨wm_32_3, wm_32_4, wm_32_5, wm_1_5, wm_32_6, by decide +kernel, by decide +kernel, by decide +kernel⟩
theorem lk_X8_315 : jLv RX8 315 yX8_passAll cX8_passAll 1 none 0 := ⟨wm_32_9, wm_32_10, wm_32_11, wm_1_5, wm_32_12, by decide +kernel, by decide +kernel, by decide +kernel⟩
theorem lk_X8_308 : jLv RX8 308 yX8_pass cX8_pass 3 (some .int) 1 := ⟨wm_32_13, wm_32_14, wm_32_15, wm_1_5, wm_32_16, by decide +kernel, by decide +kernel, by decide +kernel⟩
theorem lk_X8_311 : jLv RX8 311 yX8_passRow cX8_passRow 4 none 2 := ⟨wm_32_17, wm_32_18, wm_32_19, wm_1_5, wm_32_20, by decide +kernel, by decide +kernel, by decide +kernel⟩
theorem lk_L_118 : jLv RL 118 yX7_restore cX7_restore 2 (some .int) 1 := ⟨wm_32_21, wm_32_22, wm_32_23, wm_1_2, wm_33_0, by decide +kernel, by decide +kernel, by decide +kernel⟩
theorem lk_L_121 : jLv RL 121 yX8_restore cX8_restore 2 (some .int) 1 := ⟨wm_33_1, wm_33_2, wm_33_3, wm_1_5, wm_33_4, by decide +kernel, by decide +kernel, by decide +kernel⟩
theorem lk_L_122 : jLv RL 122 yX7_told cX7_told 3 (some .int) 1 := ⟨wm_33_5, wm_33_6, wm_33_7, wm_1_2, wm_33_8, by decide +kernel, by decide +kernel, by decide +kernel⟩
theorem lk_X7_227 : jLv RX7 227 yX7_toldOfAll cX7_toldOfAll 2 (some .int) 1 := ⟨wm_33_9, wm_33_10, wm_33_11, wm_1_2, wm_33_12, by decide +kernel, by decide +kernel, by decide +kernel⟩
theorem lk_X7_230 : jLv RX7 230 yX7_toldOfOne cX7_toldOfOne 3 (some .int) 2 := ⟨wm_33_13, wm_33_14, wm_33_15, wm_1_2, wm_33_16, by decide +kernel, by decide +kernel, by decide +kernel⟩
theorem lk_X7_233 : jLv RX7 233 yX7_toldOfLot cX7_toldOfLot 3 (some .int) 2 := ⟨wm_33_17, wm_33_18, wm_33_19, wm_1_2, wm_33_20, by decide +kernel, by decide +kernel, by decide +kernel⟩
theorem lk_X7_236 : jLv RX7 236 yX7_toldOfDebt cX7_toldOfDebt 3 (some .int) 2 := ⟨wm_33_21, wm_33_22, wm_33_23, wm_1_2, wm_34_0, by decide +kernel, by decide +kernel, by decide +kernel⟩
theorem lk_L_125 : jLv RL 125 yX8_told cX8_told 3 (some .int) 1 := ⟨wm_34_1, wm_34_2, wm_34_3, wm_1_5, wm_34_4, by decide +kernel, by decide +kernel, by decide +kernel⟩
theorem lk_X8_326 : jLv RX8 326 yX8_toldOfOne cX8_toldOfOne 3 (some .int) 2 := ⟨wm_34_9, wm_34_10, wm_34_11, wm_1_5, wm_34_12, by decide +kernel, by decide +kernel, by decide +kernel⟩
theorem lk_X8_329 : jLv RX8 329 yX8_toldOfAll cX8_toldOfAll 2 (some .int) 1 := ⟨wm_34_13, wm_34_14, wm_34_15, wm_1_5, wm_34_16, by decide +kernel, by decide +kernel, by decide +kernel⟩
theorem lk_X1_27 : jLn yX7_within cX7_within 3 (some .boolean) 3 := ⟨wm_6_4, wm_1_2, wm_6_5, by decide +kernel, by decide +kernel, by decide +kernel⟩
theorem lk_X2_55 : jLn yX7_rateOf cX7_rateOf 2 (some .int) 2 := ⟨wm_15_3, wm_1_2, wm_15_4, by decide +kernel, by decide +kernel, by decide +kernel⟩
