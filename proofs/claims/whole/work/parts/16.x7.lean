def x_chL (n k : Nat) : Nat → Nat
  | 0 => 1
  | i + 1 => x_chL n k i * (n - k + (i + 1)) / (i + 1)
def x_ch (n k : Nat) : Nat := if k ≤ n then x_chL n k k else 0
set_option maxRecDepth 100000 in
theorem x_chL_le : ∀ n, n < 31 → ∀ k, k < 31 → ∀ i, i < 31 → k ≤ n → i ≤ k → x_chL n k i < 2 ^ 40 := by decide +kernel
theorem x_ch_le {n k : Nat} (hn : n ≤ 30) (hk : k ≤ 30) : x_ch n k < 2 ^ 40 := by
  unfold x_ch
  split
  · exact x_chL_le n (by omega) k (by omega) k (by omega) (by assumption) (Nat.le_refl k)
  · omega
theorem lN_0 : (0 : Int64) = lN 0 := rfl
theorem lN_one : (1 : Int64) = lN 1 := rfl
theorem lN_ne0 {n : Nat} (h0 : 0 < n) (h : n < 2 ^ 63) : ¬ lN n = 0 := fun e => by
  have := (pk_lEQ h (by omega)).mp (e.trans lN_0)
  omega
set_option maxHeartbeats 4000000 in
set_option maxRecDepth 10000 in
theorem c_X7_choices (l : Launch) (D : va_G) (a : Nat → Nat) (g : Nat → ClassId) (M : jM) (L : jL) (n k : Nat) (hn : n ≤ 30) (hk : k ≤ 30)  : jK l D a g yX7_choices cX7_choices 5 (some .long) 0 0 [.int (nI n), .int (nI k)] M L (some (.long (lN (x_ch n k)))) M L := by
  refine jMeth (by decide) (Nat.le_of_ble_eq_true rfl) ?_
  intro G hX hZ
  refine J_cg (loc' := [(0, .int (nI n)), (1, .int (nI k))]) rfl rfl rfl rfl ?_
  refine J_iload_n hX 1 dX7_choices_0 rfl ?_
  refine J_if_lt hX 9 dX7_choices_1 (by decide) (fun h1 => absurd h1 (nI_pos (by omega))) (fun h1 => ?_)
  refine J_iload_n hX 1 dX7_choices_4 rfl ?_
  refine J_iload_n hX 0 dX7_choices_5 rfl ?_
  refine J_cmpN_le hX 11 k n dX7_choices_6 (by decide) rfl rfl (by omega) (by omega) (fun h6 => ?_) (fun h6 => ?_)
  · skip
    refine J_lconst (v := 1) hX dX7_choices_11 (by decide) ?_
    refine J_topl (y := lN (x_chL n k 0)) rfl ?_
    refine J_lstore_n (loc' := [(2, .long (lN (x_chL n k 0))), (0, .int (nI n)), (1, .int (nI k))]) hX dX7_choices_12 (by decide) rfl ?_
    refine J_iconst (v := 1) hX dX7_choices_13 (by decide) ?_
    refine J_istore (loc' := [(4, .int 1), (2, .long (lN (x_chL n k 0))), (0, .int (nI n)), (1, .int (nI k))]) hX dX7_choices_14 (by decide) rfl ?_
    have key16 : ∀ (fu16 : Nat) (i : Nat), k - i < fu16 → i ≤ k → J l D a g G 5 M L 16 [(0, .int (nI n)), (1, .int (nI k)), (2, .long (lN (x_chL n k i))), (4, .int (nI (i + 1)))] [] := by
      intro fu16
      induction fu16 with
      | zero => intro i hmu; exact absurd hmu (Nat.not_lt_zero _)
      | succ fu16 ih16 =>
        intro i hmu16 hi
        have bb := x_chL_le n (by omega) k (by omega) i (by omega) (by omega) hi
        refine J_iload hX 3 dX7_choices_16 rfl ?_
        refine J_iload_n hX 1 dX7_choices_18 rfl ?_
        refine J_cmpN_gt hX 42 (i + 1) k dX7_choices_19 (by decide) rfl rfl (by omega) (by omega) (fun h19 => ?_) (fun h19 => ?_)
        · skip
          refine J_lload_n hX 2 dX7_choices_42 rfl ?_
          exact J_lret hX hZ dX7_choices_43 ⟨by rw [x_ch, if_pos (by omega), show i = k by omega], rfl, rfl⟩
        · skip
          refine J_lload_n hX 2 dX7_choices_22 rfl ?_
          refine J_iload_n hX 0 dX7_choices_23 rfl ?_
          refine J_iload_n hX 1 dX7_choices_24 rfl ?_
          refine J_isub hX dX7_choices_25 ?_
          refine J_topi (y := nI (n - k)) (pk_sub (by omega)) ?_
          refine J_iload hX 3 dX7_choices_26 rfl ?_
          refine J_iadd hX dX7_choices_28 ?_
          refine J_topi (y := nI (n - k + (i + 1))) (nI_add _ _) ?_
          refine J_i2l hX dX7_choices_29 ?_
          refine J_topl (y := lN (n - k + (i + 1))) (nI_l (by omega)) ?_
          refine J_lmul hX dX7_choices_30 ?_
          refine J_topl (y := lN (x_chL n k i * (n - k + (i + 1)))) (lN_mul _ _) ?_
          refine J_iload hX 3 dX7_choices_31 rfl ?_
          refine J_i2l hX dX7_choices_33 ?_
          refine J_topl (y := lN (i + 1)) (nI_l (by omega)) ?_
          refine J_ldiv hX dX7_choices_34 (lN_ne0 (by omega) (by omega)) ?_
          refine J_topl (y := lN (x_chL n k (i + 1))) (pk_lDiv (Nat.lt_of_lt_of_le (Nat.mul_lt_mul_of_lt_of_le bb (show n - k + (i + 1) ≤ 64 by omega) (by omega)) (by decide)) (by omega) (by omega)) ?_
          refine J_lstore_n (loc' := [(2, .long (lN (x_chL n k (i + 1)))), (0, .int (nI n)), (1, .int (nI k)), (4, .int (nI (i + 1)))]) hX dX7_choices_35 (by decide) rfl ?_
          refine J_iinc (v := nI (i + 1 + 1)) (loc' := [(4, .int (nI (i + 1 + 1))), (2, .long (lN (x_chL n k (i + 1)))), (0, .int (nI n)), (1, .int (nI k))]) hX 3 dX7_choices_36 rfl (jinc (i + 1)) (by decide) rfl ?_
          refine J_goto hX 16 dX7_choices_39 (by decide) ?_
          refine J_sub (loc' := [(0, .int (nI n)), (1, .int (nI k)), (2, .long (lN (x_chL n k (i + 1)))), (4, .int (nI (i + 1 + 1)))]) [2, 3, 1, 0] rfl ?_
          refine J_seti (y := nI ((i + 1) + 1)) (loc' := [(0, .int (nI n)), (1, .int (nI k)), (2, .long (lN (x_chL n k (i + 1)))), (4, .int (nI ((i + 1) + 1)))]) 3 rfl rfl rfl ?_
          exact ih16  (i + 1) (by omega) (by omega)
    refine J_sub (loc' := [(0, .int (nI n)), (1, .int (nI k)), (2, .long (lN (x_chL n k 0))), (4, .int 1)]) [2, 3, 1, 0] rfl ?_
    refine J_seti (y := nI (0 + 1)) (loc' := [(0, .int (nI n)), (1, .int (nI k)), (2, .long (lN (x_chL n k 0))), (4, .int (nI (0 + 1)))]) 3 rfl rfl rfl ?_
    exact key16 _ 0 (Nat.lt_succ_self _) (by omega)
  · skip
    refine J_lconst (v := 0) hX dX7_choices_9 (by decide) ?_
    exact J_lret hX hZ dX7_choices_10 ⟨by rw [x_ch, if_neg (by omega)]; rfl, rfl, rfl⟩
def x_low (u w : Nat) (p : Int32) : Int64 := if p = 0 then lN (u / Nat.gcd u w) else lN (w / Nat.gcd u w)
/-- two steps of Euclid's halve the second number -/
def x_eu (i a b : Nat) : Prop := (i % 2 = 0 → b * 2 ^ (i / 2) < 2 ^ 62) ∧ (i % 2 = 1 → a * 2 ^ (i / 2) < 2 ^ 62 ∧ b < a)
theorem x_eu_step {i a b : Nat} (hb : 0 < b) (h : x_eu i a b) : x_eu (i + 1) b (a % b) := by
  have hm := Nat.mod_lt a hb
  refine ⟨fun h0 => ?_, fun h1 => ?_⟩
  · obtain ⟨q1, q2⟩ := h.2 (by omega)
    have e : (i + 1) / 2 = i / 2 + 1 := by omega
    rw [e, Nat.pow_succ]
    have h2 : 2 * (a % b) ≤ a := by
      rcases Nat.lt_or_ge a (2 * b) with c | c
      · have e2 : a % b = a - b := by rw [Nat.mod_eq_sub_mod (by omega), Nat.mod_eq_of_lt (by omega)]
        omega
      · omega
    calc a % b * (2 ^ (i / 2) * 2) = 2 * (a % b) * 2 ^ (i / 2) := by rw [Nat.mul_comm 2 (a % b), Nat.mul_assoc, Nat.mul_comm 2]
      _ ≤ a * 2 ^ (i / 2) := Nat.mul_le_mul_right _ h2
      _ < 2 ^ 62 := q1
  · have q := h.1 (by omega)
    rw [show (i + 1) / 2 = i / 2 by omega]
    exact ⟨q, hm⟩
theorem x_eu_end {a b : Nat} (h : x_eu 200 a b) : b = 0 := by
  have q := h.1 (by decide)
  rcases Nat.eq_zero_or_pos b with c | c
  · exact c
  · exfalso
    have : 1 * 2 ^ 100 ≤ b * 2 ^ (200 / 2) := Nat.mul_le_mul_right _ c
    have z : 2 ^ 62 < 1 * 2 ^ 100 := by decide
    omega
theorem x_gcd_step (a b : Nat) : Nat.gcd (a % b) b = Nat.gcd b a := (Nat.gcd_rec b a).symm
set_option maxHeartbeats 4000000 in
set_option maxRecDepth 10000 in
theorem c_X7_lowest (l : Launch) (D : va_G) (a : Nat → Nat) (g : Nat → ClassId) (M : jM) (L : jL) (u w : Nat) (hu : u < 2 ^ 62) (hw : w < 2 ^ 62) (w0 : 0 < w) (p : Int32)  : jK l D a g yX7_lowest cX7_lowest 12 (some .long) 0 0 [.long (lN u), .long (lN w), .int p] M L (some (.long (x_low u w p))) M L := by
  refine jMeth (by decide) (Nat.le_of_ble_eq_true rfl) ?_
  intro G hX hZ
  refine J_cg (loc' := [(0, .long (lN u)), (2, .long (lN w)), (4, .int p)]) rfl rfl rfl rfl ?_
  refine J_lload_n hX 1 dX7_lowest_0 rfl ?_
  refine J_lstore (loc' := [(5, .long (lN w)), (0, .long (lN u)), (2, .long (lN w)), (4, .int p)]) hX dX7_lowest_1 (by decide) rfl ?_
  refine J_lload_n hX 1 dX7_lowest_3 rfl ?_
  refine J_lstore (loc' := [(7, .long (lN u)), (5, .long (lN w)), (0, .long (lN u)), (2, .long (lN w)), (4, .int p)]) hX dX7_lowest_4 (by decide) rfl ?_
  refine J_iconst (v := 0) hX dX7_lowest_6 (by decide) ?_
  refine J_istore (loc' := [(9, .int 0), (7, .long (lN u)), (5, .long (lN w)), (0, .long (lN u)), (2, .long (lN w)), (4, .int p)]) hX dX7_lowest_7 (by decide) rfl ?_
  have key9 : ∀ (fu9 : Nat) (i : Nat) (x : Nat) (y : Nat), 200 - i < fu9 → i ≤ 200 → 0 < x → x < 2 ^ 62 → y < 2 ^ 62 → Nat.gcd y x = Nat.gcd u w → x_eu i x y → J l D a g G 12 M L 9 [(0, .long (lN u)), (2, .long (lN w)), (4, .int p), (5, .long (lN x)), (7, .long (lN y)), (9, .int (nI i))] [] := by
    intro fu9
    induction fu9 with
    | zero => intro i x y hmu; exact absurd hmu (Nat.not_lt_zero _)
    | succ fu9 ih9 =>
      intro i x y hmu9 hi x0 hx hy hg he
      refine J_iload hX 5 dX7_lowest_9 rfl ?_
      refine J_sipush (v := 200) hX dX7_lowest_11 (by decide) ?_
      refine J_cmpN_ge hX 45 i 200 dX7_lowest_14 (by decide) rfl rfl (by omega) (by omega) (fun h14 => ?_) (fun h14 => ?_)
      · skip
        have yz : y = 0 := by first | exact (pk_lEQ (by omega) (by omega)).mp (by first | exact h21 | exact Classical.not_not.mp h21) | exact x_eu_end (show x_eu 200 x y by rw [← show i = 200 by omega]; exact he)
        have gx : Nat.gcd u w = x := by rw [← hg, yz, Nat.gcd_zero_left]
        refine J_lload hX 3 dX7_lowest_45 rfl ?_
        refine J_lconst (v := 0) hX dX7_lowest_47 (by decide) ?_
        refine J_topl (y := lN 0) rfl ?_
        refine J_lcmp hX dX7_lowest_48 ?_
        refine J_ifK_ne hX 54 dX7_lowest_49 (by decide) (fun h49 => ?_) (fun h49 => absurd (by first | exact h49 | exact Classical.not_not.mp h49) (lN_ne0 x0 (by omega)))
        refine J_iload hX 2 dX7_lowest_54 rfl ?_
        refine J_if_ne hX 63 dX7_lowest_56 (by decide) (fun h56 => ?_) (fun h56 => ?_)
        · skip
          refine J_lload_n hX 1 dX7_lowest_63 rfl ?_
          refine J_lload hX 3 dX7_lowest_64 rfl ?_
          refine J_ldiv hX dX7_lowest_66 (lN_ne0 x0 (by omega)) ?_
          exact J_lret hX hZ dX7_lowest_67 ⟨by rw [x_low, gx]; (first | rw [if_pos h56] | rw [if_neg h56]); rw [pk_lDiv (by omega) x0 (by omega)], rfl, rfl⟩
        · skip
          refine J_lload_n hX 0 dX7_lowest_59 rfl ?_
          refine J_goto hX 64 dX7_lowest_60 (by decide) ?_
          refine J_lload hX 3 dX7_lowest_64 rfl ?_
          refine J_ldiv hX dX7_lowest_66 (lN_ne0 x0 (by omega)) ?_
          exact J_lret hX hZ dX7_lowest_67 ⟨by rw [x_low, gx]; (first | rw [if_pos h56] | rw [if_neg h56]); rw [pk_lDiv (by omega) x0 (by omega)], rfl, rfl⟩
      · skip
        refine J_lload hX 4 dX7_lowest_17 rfl ?_
        refine J_lconst (v := 0) hX dX7_lowest_19 (by decide) ?_
        refine J_topl (y := lN 0) rfl ?_
        refine J_lcmp hX dX7_lowest_20 ?_
        refine J_ifK_eq hX 45 dX7_lowest_21 (by decide) (fun h21 => ?_) (fun h21 => ?_)
        · skip
          have yz : y = 0 := by first | exact (pk_lEQ (by omega) (by omega)).mp (by first | exact h21 | exact Classical.not_not.mp h21) | exact x_eu_end (show x_eu 200 x y by rw [← show i = 200 by omega]; exact he)
          have gx : Nat.gcd u w = x := by rw [← hg, yz, Nat.gcd_zero_left]
          refine J_lload hX 3 dX7_lowest_45 rfl ?_
          refine J_lconst (v := 0) hX dX7_lowest_47 (by decide) ?_
          refine J_topl (y := lN 0) rfl ?_
          refine J_lcmp hX dX7_lowest_48 ?_
          refine J_ifK_ne hX 54 dX7_lowest_49 (by decide) (fun h49 => ?_) (fun h49 => absurd (by first | exact h49 | exact Classical.not_not.mp h49) (lN_ne0 x0 (by omega)))
          refine J_iload hX 2 dX7_lowest_54 rfl ?_
          refine J_if_ne hX 63 dX7_lowest_56 (by decide) (fun h56 => ?_) (fun h56 => ?_)
          · skip
            refine J_lload_n hX 1 dX7_lowest_63 rfl ?_
            refine J_lload hX 3 dX7_lowest_64 rfl ?_
            refine J_ldiv hX dX7_lowest_66 (lN_ne0 x0 (by omega)) ?_
            exact J_lret hX hZ dX7_lowest_67 ⟨by rw [x_low, gx]; (first | rw [if_pos h56] | rw [if_neg h56]); rw [pk_lDiv (by omega) x0 (by omega)], rfl, rfl⟩
          · skip
            refine J_lload_n hX 0 dX7_lowest_59 rfl ?_
            refine J_goto hX 64 dX7_lowest_60 (by decide) ?_
            refine J_lload hX 3 dX7_lowest_64 rfl ?_
            refine J_ldiv hX dX7_lowest_66 (lN_ne0 x0 (by omega)) ?_
            exact J_lret hX hZ dX7_lowest_67 ⟨by rw [x_low, gx]; (first | rw [if_pos h56] | rw [if_neg h56]); rw [pk_lDiv (by omega) x0 (by omega)], rfl, rfl⟩
        · skip
          have y0 : 0 < y := Nat.pos_of_ne_zero (fun e => h21 (by rw [e]))
          refine J_lload hX 3 dX7_lowest_24 rfl ?_
          refine J_lload hX 4 dX7_lowest_26 rfl ?_
          refine J_lrem hX dX7_lowest_28 (lN_ne0 y0 (by omega)) ?_
          refine J_topl (y := lN (x % y)) (pk_lRem (by omega) y0 (by omega)) ?_
          refine J_lstore (loc' := [(10, .long (lN (x % y))), (0, .long (lN u)), (2, .long (lN w)), (4, .int p), (5, .long (lN x)), (7, .long (lN y)), (9, .int (nI i))]) hX dX7_lowest_29 (by decide) rfl ?_
          refine J_lload hX 5 dX7_lowest_31 rfl ?_
          refine J_lstore (loc' := [(5, .long (lN y)), (10, .long (lN (x % y))), (0, .long (lN u)), (2, .long (lN w)), (4, .int p), (7, .long (lN y)), (9, .int (nI i))]) hX dX7_lowest_33 (by decide) rfl ?_
          refine J_lload hX 1 dX7_lowest_35 rfl ?_
          refine J_lstore (loc' := [(7, .long (lN (x % y))), (5, .long (lN y)), (10, .long (lN (x % y))), (0, .long (lN u)), (2, .long (lN w)), (4, .int p), (9, .int (nI i))]) hX dX7_lowest_37 (by decide) rfl ?_
          refine J_iinc (v := nI (i + 1)) (loc' := [(9, .int (nI (i + 1))), (7, .long (lN (x % y))), (5, .long (lN y)), (10, .long (lN (x % y))), (0, .long (lN u)), (2, .long (lN w)), (4, .int p)]) hX 6 dX7_lowest_39 rfl (jinc i) (by decide) rfl ?_
          refine J_goto hX 9 dX7_lowest_42 (by decide) ?_
          refine J_sub (loc' := [(0, .long (lN u)), (2, .long (lN w)), (4, .int p), (5, .long (lN y)), (7, .long (lN (x % y))), (9, .int (nI (i + 1)))]) [4, 5, 6, 2, 1, 0] rfl ?_
          exact ih9  (i + 1) y (x % y) (by omega) (by omega) y0 hy (Nat.lt_of_le_of_lt (Nat.mod_le _ _) hx) (by rw [x_gcd_step]; exact hg) (x_eu_step y0 he)
  refine J_sub (loc' := [(0, .long (lN u)), (2, .long (lN w)), (4, .int p), (5, .long (lN w)), (7, .long (lN u)), (9, .int 0)]) [3, 4, 5, 2, 1, 0] rfl ?_
  refine J_seti (y := nI 0) (loc' := [(0, .long (lN u)), (2, .long (lN w)), (4, .int p), (5, .long (lN w)), (7, .long (lN u)), (9, .int (nI 0))]) 5 rfl rfl rfl ?_
  exact key9 _ 0 w u (Nat.lt_succ_self _) (by omega) w0 hw hu rfl ⟨fun _ => by rw [Nat.zero_div, Nat.pow_zero, Nat.mul_one]; exact hu, fun h => by omega⟩
theorem jle {x y : Int32} (h : x.toInt ≤ y.toInt) : x.toNatClampNeg ≤ y.toNatClampNeg := by rw [jtn, jtn]; omega
theorem jge {x y : Int32} (h : (0 : Int32).toInt ≤ x.toInt ∧ x.toInt ≤ y.toInt) : 0 ≤ x.toInt ∧ x.toInt ≤ y.toInt := h
def x_sample (n f k j p : Int32) : Int64 := if (1 ≤ n.toInt ∧ n.toInt ≤ 30) then (if 0 ≤ f.toInt ∧ f.toInt ≤ n.toInt then (if 0 ≤ k.toInt ∧ k.toInt ≤ n.toInt then (if 0 ≤ j.toInt ∧ j.toInt ≤ k.toInt then (if (0 ≤ p.toInt ∧ p.toInt ≤ 1) then x_low (x_ch f.toNatClampNeg j.toNatClampNeg * x_ch (n.toNatClampNeg - f.toNatClampNeg) (k.toNatClampNeg - j.toNatClampNeg)) (x_ch n.toNatClampNeg k.toNatClampNeg) p else -1000000000000000002) else -1000000000000000002) else -1000000000000000002) else -1000000000000000002) else -1000000000000000002
theorem x_ch_pos {n k : Nat} (hn : n ≤ 30) (h : k ≤ n) : 0 < x_ch n k := by
  have key : ∀ n, n < 31 → ∀ k, k < 31 → k ≤ n → 0 < x_ch n k := by decide +kernel
  exact key n (by omega) k (by omega) h
theorem x_chm {x y : Nat} (hx : x < 2 ^ 31) (hy : y < 2 ^ 31) : x * y < 2 ^ 62 := by
  have := Nat.mul_lt_mul_of_lt_of_le hx (Nat.le_of_lt hy) (by omega)
  rw [show (2 : Nat) ^ 62 = 2 ^ 31 * 2 ^ 31 by decide]; exact this
theorem x_ch_lt {n k : Nat} (hn : n ≤ 30) (hk : k ≤ 30) : x_ch n k < 2 ^ 31 := by
  have key : ∀ n, n < 31 → ∀ k, k < 31 → x_ch n k < 2 ^ 31 := by decide +kernel
  exact key n (by omega) k (by omega)
set_option maxHeartbeats 4000000 in
set_option maxRecDepth 10000 in
theorem c_X7_sample (l : Launch) (D : va_G) (a : Nat → Nat) (g : Nat → ClassId) (M : jM) (L : jL) (n f k j p : Int32)  : jK l D a g yX7_sample cX7_sample 6 (some .long) 1 31 [.ref (a 0), .int n, .int f, .int k, .int j, .int p] M L (some (.long (x_sample n f k j p))) M L := by
  refine jMeth (by decide) (Nat.le_of_ble_eq_true rfl) ?_
  intro G hX hZ
  refine J_cg (loc' := [(0, .ref (a 0)), (1, .int n), (2, .int f), (3, .int k), (4, .int j), (5, .int p)]) rfl rfl rfl rfl ?_
  refine J_iload_n hX 1 dX7_sample_0 rfl ?_
  refine J_iconst (v := 1) hX dX7_sample_1 (by decide) ?_
  refine J_bipush (v := 30) hX dX7_sample_2 (by decide) ?_
  refine J_callS hX [.int n, .int 1, .int 30] [] dX7_sample_4 (c_X7_within l D a g M L n 1 30) lk_X7_62 rfl rfl (Nat.le_of_ble_eq_true rfl) (Nat.le_of_ble_eq_true rfl) (Nat.le_of_ble_eq_true rfl) (J_eq (st := [.int (jB (1 ≤ n.toInt ∧ n.toInt ≤ 30))]) rfl ?_)
  refine J_ifB_eq hX 48 dX7_sample_7 (by decide) (fun h7 => ?_) (fun h7 => ?_)
  · skip
    refine J_ldc2 hX dX7_sample_48 wm_26_0 ?_
    exact J_lret hX hZ dX7_sample_51 ⟨by rw [x_sample]; (first | rw [if_pos h7] | rw [if_neg h7] | skip), rfl, rfl⟩
  · skip
    refine J_iload_n hX 2 dX7_sample_10 rfl ?_
    refine J_iconst (v := 0) hX dX7_sample_11 (by decide) ?_
    refine J_iload_n hX 1 dX7_sample_12 rfl ?_
    refine J_callS hX [.int f, .int 0, .int n] [] dX7_sample_13 (c_X7_within l D a g M L f 0 n) lk_X7_62 rfl rfl (Nat.le_of_ble_eq_true rfl) (Nat.le_of_ble_eq_true rfl) (Nat.le_of_ble_eq_true rfl) (J_eq (st := [.int (jB (0 ≤ f.toInt ∧ f.toInt ≤ n.toInt))]) rfl ?_)
    refine J_ifB_eq hX 48 dX7_sample_16 (by decide) (fun h16 => ?_) (fun h16 => ?_)
    · skip
      refine J_ldc2 hX dX7_sample_48 wm_26_0 ?_
      exact J_lret hX hZ dX7_sample_51 ⟨by rw [x_sample]; (first | rw [if_pos h7] | rw [if_neg h7] | skip); (first | rw [if_pos h16] | rw [if_neg h16] | skip), rfl, rfl⟩
    · skip
      refine J_iload_n hX 3 dX7_sample_19 rfl ?_
      refine J_iconst (v := 0) hX dX7_sample_20 (by decide) ?_
      refine J_iload_n hX 1 dX7_sample_21 rfl ?_
      refine J_callS hX [.int k, .int 0, .int n] [] dX7_sample_22 (c_X7_within l D a g M L k 0 n) lk_X7_62 rfl rfl (Nat.le_of_ble_eq_true rfl) (Nat.le_of_ble_eq_true rfl) (Nat.le_of_ble_eq_true rfl) (J_eq (st := [.int (jB (0 ≤ k.toInt ∧ k.toInt ≤ n.toInt))]) rfl ?_)
      refine J_ifB_eq hX 48 dX7_sample_25 (by decide) (fun h25 => ?_) (fun h25 => ?_)
      · skip
        refine J_ldc2 hX dX7_sample_48 wm_26_0 ?_
        exact J_lret hX hZ dX7_sample_51 ⟨by rw [x_sample]; (first | rw [if_pos h7] | rw [if_neg h7] | skip); (first | rw [if_pos h16] | rw [if_neg h16] | skip); (first | rw [if_pos h25] | rw [if_neg h25] | skip), rfl, rfl⟩
      · skip
        refine J_iload hX 4 dX7_sample_28 rfl ?_
        refine J_iconst (v := 0) hX dX7_sample_30 (by decide) ?_
        refine J_iload_n hX 3 dX7_sample_31 rfl ?_
        refine J_callS hX [.int j, .int 0, .int k] [] dX7_sample_32 (c_X7_within l D a g M L j 0 k) lk_X7_62 rfl rfl (Nat.le_of_ble_eq_true rfl) (Nat.le_of_ble_eq_true rfl) (Nat.le_of_ble_eq_true rfl) (J_eq (st := [.int (jB (0 ≤ j.toInt ∧ j.toInt ≤ k.toInt))]) rfl ?_)
        refine J_ifB_eq hX 48 dX7_sample_35 (by decide) (fun h35 => ?_) (fun h35 => ?_)
        · skip
          refine J_ldc2 hX dX7_sample_48 wm_26_0 ?_
          exact J_lret hX hZ dX7_sample_51 ⟨by rw [x_sample]; (first | rw [if_pos h7] | rw [if_neg h7] | skip); (first | rw [if_pos h16] | rw [if_neg h16] | skip); (first | rw [if_pos h25] | rw [if_neg h25] | skip); (first | rw [if_pos h35] | rw [if_neg h35] | skip), rfl, rfl⟩
        · skip
          refine J_iload hX 5 dX7_sample_38 rfl ?_
          refine J_iconst (v := 0) hX dX7_sample_40 (by decide) ?_
          refine J_iconst (v := 1) hX dX7_sample_41 (by decide) ?_
          refine J_callS hX [.int p, .int 0, .int 1] [] dX7_sample_42 (c_X7_within l D a g M L p 0 1) lk_X7_62 rfl rfl (Nat.le_of_ble_eq_true rfl) (Nat.le_of_ble_eq_true rfl) (Nat.le_of_ble_eq_true rfl) (J_eq (st := [.int (jB (0 ≤ p.toInt ∧ p.toInt ≤ 1))]) rfl ?_)
          refine J_ifB_ne hX 52 dX7_sample_45 (by decide) (fun h45 => ?_) (fun h45 => ?_)
          · skip
            have in_ : n = nI n.toNatClampNeg := jix (b := 30) ⟨by omega, h7.2⟩
            have ln := jixl (o := n) (b := 30) ⟨by omega, h7.2⟩
            have if' := jix h16
            have lf := jixl h16
            have ik := jix h25
            have lk := jixl h25
            have ij := jix h35
            have lj := jixl h35
            have e1 := jle h16.2
            have e2 := jle h25.2
            have e3 := jle h35.2
            refine J_seti (y := nI n.toNatClampNeg) (loc' := [(0, .ref (a 0)), (1, .int (nI n.toNatClampNeg)), (2, .int f), (3, .int k), (4, .int j), (5, .int p)]) 1 rfl in_ rfl ?_
            refine J_seti (y := nI f.toNatClampNeg) (loc' := [(0, .ref (a 0)), (1, .int (nI n.toNatClampNeg)), (2, .int (nI f.toNatClampNeg)), (3, .int k), (4, .int j), (5, .int p)]) 2 rfl if' rfl ?_
            refine J_seti (y := nI k.toNatClampNeg) (loc' := [(0, .ref (a 0)), (1, .int (nI n.toNatClampNeg)), (2, .int (nI f.toNatClampNeg)), (3, .int (nI k.toNatClampNeg)), (4, .int j), (5, .int p)]) 3 rfl ik rfl ?_
            refine J_seti (y := nI j.toNatClampNeg) (loc' := [(0, .ref (a 0)), (1, .int (nI n.toNatClampNeg)), (2, .int (nI f.toNatClampNeg)), (3, .int (nI k.toNatClampNeg)), (4, .int (nI j.toNatClampNeg)), (5, .int p)]) 4 rfl ij rfl ?_
            refine J_iload_n hX 2 dX7_sample_52 rfl ?_
            refine J_iload hX 4 dX7_sample_53 rfl ?_
            refine J_callS hX [.int (nI f.toNatClampNeg), .int (nI j.toNatClampNeg)] [] dX7_sample_55 (c_X7_choices l D a g M L f.toNatClampNeg j.toNatClampNeg (by omega) (by omega)) lk_X7_187 rfl rfl (Nat.le_of_ble_eq_true rfl) (Nat.le_of_ble_eq_true rfl) (Nat.le_of_ble_eq_true rfl) (J_eq (st := [.long (lN (x_ch f.toNatClampNeg j.toNatClampNeg))]) rfl ?_)
            refine J_iload_n hX 1 dX7_sample_58 rfl ?_
            refine J_iload_n hX 2 dX7_sample_59 rfl ?_
            refine J_isub hX dX7_sample_60 ?_
            refine J_topi (y := nI (n.toNatClampNeg - f.toNatClampNeg)) (pk_sub e1) ?_
            refine J_iload_n hX 3 dX7_sample_61 rfl ?_
            refine J_iload hX 4 dX7_sample_62 rfl ?_
            refine J_isub hX dX7_sample_64 ?_
            refine J_topi (y := nI (k.toNatClampNeg - j.toNatClampNeg)) (pk_sub e3) ?_
            refine J_callS hX [.int (nI (n.toNatClampNeg - f.toNatClampNeg)), .int (nI (k.toNatClampNeg - j.toNatClampNeg))] [.long (lN (x_ch f.toNatClampNeg j.toNatClampNeg))] dX7_sample_65 (c_X7_choices l D a g M L (n.toNatClampNeg - f.toNatClampNeg) (k.toNatClampNeg - j.toNatClampNeg) (by omega) (by omega)) lk_X7_187 rfl rfl (Nat.le_of_ble_eq_true rfl) (Nat.le_of_ble_eq_true rfl) (Nat.le_of_ble_eq_true rfl) (J_eq (st := [.long (lN (x_ch (n.toNatClampNeg - f.toNatClampNeg) (k.toNatClampNeg - j.toNatClampNeg))), .long (lN (x_ch f.toNatClampNeg j.toNatClampNeg))]) rfl ?_)
            refine J_lmul hX dX7_sample_68 ?_
            refine J_topl (y := lN (x_ch f.toNatClampNeg j.toNatClampNeg * x_ch (n.toNatClampNeg - f.toNatClampNeg) (k.toNatClampNeg - j.toNatClampNeg))) (lN_mul _ _) ?_
            refine J_iload_n hX 1 dX7_sample_69 rfl ?_
            refine J_iload_n hX 3 dX7_sample_70 rfl ?_
            refine J_callS hX [.int (nI n.toNatClampNeg), .int (nI k.toNatClampNeg)] [.long (lN (x_ch f.toNatClampNeg j.toNatClampNeg * x_ch (n.toNatClampNeg - f.toNatClampNeg) (k.toNatClampNeg - j.toNatClampNeg)))] dX7_sample_71 (c_X7_choices l D a g M L n.toNatClampNeg k.toNatClampNeg (by omega) (by omega)) lk_X7_187 rfl rfl (Nat.le_of_ble_eq_true rfl) (Nat.le_of_ble_eq_true rfl) (Nat.le_of_ble_eq_true rfl) (J_eq (st := [.long (lN (x_ch n.toNatClampNeg k.toNatClampNeg)), .long (lN (x_ch f.toNatClampNeg j.toNatClampNeg * x_ch (n.toNatClampNeg - f.toNatClampNeg) (k.toNatClampNeg - j.toNatClampNeg)))]) rfl ?_)
            refine J_iload hX 5 dX7_sample_74 rfl ?_
            refine J_callS hX [.long (lN (x_ch f.toNatClampNeg j.toNatClampNeg * x_ch (n.toNatClampNeg - f.toNatClampNeg) (k.toNatClampNeg - j.toNatClampNeg))), .long (lN (x_ch n.toNatClampNeg k.toNatClampNeg)), .int p] [] dX7_sample_76 (c_X7_lowest l D a g M L (x_ch f.toNatClampNeg j.toNatClampNeg * x_ch (n.toNatClampNeg - f.toNatClampNeg) (k.toNatClampNeg - j.toNatClampNeg)) (x_ch n.toNatClampNeg k.toNatClampNeg) (x_chm (x_ch_lt (by omega) (by omega)) (x_ch_lt (by omega) (by omega))) (Nat.lt_trans (x_ch_lt (by omega) (by omega)) (by decide)) (x_ch_pos (by omega) e2) p) lk_X7_183 rfl rfl (Nat.le_of_ble_eq_true rfl) (Nat.le_of_ble_eq_true rfl) (Nat.le_of_ble_eq_true rfl) (J_eq (st := [.long (x_low (x_ch f.toNatClampNeg j.toNatClampNeg * x_ch (n.toNatClampNeg - f.toNatClampNeg) (k.toNatClampNeg - j.toNatClampNeg)) (x_ch n.toNatClampNeg k.toNatClampNeg) p)]) rfl ?_)
            exact J_lret hX hZ dX7_sample_79 ⟨by rw [x_sample]; (first | rw [if_pos h7] | rw [if_neg h7] | skip); (first | rw [if_pos h16] | rw [if_neg h16] | skip); (first | rw [if_pos h25] | rw [if_neg h25] | skip); (first | rw [if_pos h35] | rw [if_neg h35] | skip); (first | rw [if_pos h45] | rw [if_neg h45] | skip), rfl, rfl⟩
          · skip
            refine J_ldc2 hX dX7_sample_48 wm_26_0 ?_
            exact J_lret hX hZ dX7_sample_51 ⟨by rw [x_sample]; (first | rw [if_pos h7] | rw [if_neg h7] | skip); (first | rw [if_pos h16] | rw [if_neg h16] | skip); (first | rw [if_pos h25] | rw [if_neg h25] | skip); (first | rw [if_pos h35] | rw [if_neg h35] | skip); (first | rw [if_pos h45] | rw [if_neg h45] | skip), rfl, rfl⟩
def x_dn (k d : Nat) : Nat := if k = 2 ∨ k = 3 then d % 8 else if k = 5 then d % 6 else 1 + d % 9
theorem x_dn_lt (k d : Nat) : x_dn k d < 10 := by unfold x_dn; repeat' split
                                                  all_goals omega
set_option maxHeartbeats 4000000 in
set_option maxRecDepth 10000 in
theorem c_X7_drawnNumber (l : Launch) (D : va_G) (a : Nat → Nat) (g : Nat → ClassId) (M : jM) (L : jL) (k d : Nat) (hk : k < 8) (hd : d < 100000)  : jK l D a g yX7_drawnNumber cX7_drawnNumber 2 (some .int) 0 0 [.int (nI k), .int (nI d)] M L (some (.int (nI (x_dn k d)))) M L := by
  refine jMeth (by decide) (Nat.le_of_ble_eq_true rfl) ?_
  intro G hX hZ
  refine J_cg (loc' := [(0, .int (nI k)), (1, .int (nI d))]) rfl rfl rfl rfl ?_
  refine J_iload_n hX 0 dX7_drawnNumber_0 rfl ?_
  refine J_iconst (v := 2) hX dX7_drawnNumber_1 (by decide) ?_
  refine J_cmpN_eq hX 10 k 2 dX7_drawnNumber_2 (by decide) rfl rfl (by omega) (by omega) (fun h2 => ?_) (fun h2 => ?_)
  · skip
    refine J_iload_n hX 1 dX7_drawnNumber_10 rfl ?_
    refine J_bipush (v := 8) hX dX7_drawnNumber_11 (by decide) ?_
    refine J_irem hX dX7_drawnNumber_13 (by decide) ?_
    refine J_topi (y := nI (d % 8)) (pk_rem (d := 8) (by omega) (by omega) (by omega)) ?_
    exact J_ret hX hZ dX7_drawnNumber_14 rfl rfl ⟨by simp [x_dn, h2], rfl, rfl⟩
  · skip
    refine J_iload_n hX 0 dX7_drawnNumber_5 rfl ?_
    refine J_iconst (v := 3) hX dX7_drawnNumber_6 (by decide) ?_
    refine J_cmpN_ne hX 15 k 3 dX7_drawnNumber_7 (by decide) rfl rfl (by omega) (by omega) (fun h7 => ?_) (fun h7 => ?_)
    · skip
      refine J_iload_n hX 0 dX7_drawnNumber_15 rfl ?_
      refine J_iconst (v := 5) hX dX7_drawnNumber_16 (by decide) ?_
      refine J_cmpN_ne hX 27 k 5 dX7_drawnNumber_17 (by decide) rfl rfl (by omega) (by omega) (fun h17 => ?_) (fun h17 => ?_)
      · skip
        refine J_iconst (v := 1) hX dX7_drawnNumber_27 (by decide) ?_
        refine J_iload_n hX 1 dX7_drawnNumber_28 rfl ?_
        refine J_bipush (v := 9) hX dX7_drawnNumber_29 (by decide) ?_
        refine J_irem hX dX7_drawnNumber_31 (by decide) ?_
        refine J_topi (y := nI (d % 9)) (pk_rem (d := 9) (by omega) (by omega) (by omega)) ?_
        refine J_iadd hX dX7_drawnNumber_32 ?_
        refine J_topi (y := nI (1 + d % 9)) (nI_add 1 _) ?_
        exact J_ret hX hZ dX7_drawnNumber_33 rfl rfl ⟨by simp [x_dn, h2, h7, h17], rfl, rfl⟩
      · skip
        refine J_iload_n hX 1 dX7_drawnNumber_20 rfl ?_
        refine J_bipush (v := 6) hX dX7_drawnNumber_21 (by decide) ?_
        refine J_irem hX dX7_drawnNumber_23 (by decide) ?_
        refine J_topi (y := nI (d % 6)) (pk_rem (d := 6) (by omega) (by omega) (by omega)) ?_
        refine J_goto hX 33 dX7_drawnNumber_24 (by decide) ?_
        exact J_ret hX hZ dX7_drawnNumber_33 rfl rfl ⟨by simp [x_dn, h2, h7, h17], rfl, rfl⟩
    · skip
      refine J_iload_n hX 1 dX7_drawnNumber_10 rfl ?_
      refine J_bipush (v := 8) hX dX7_drawnNumber_11 (by decide) ?_
      refine J_irem hX dX7_drawnNumber_13 (by decide) ?_
      refine J_topi (y := nI (d % 8)) (pk_rem (d := 8) (by omega) (by omega) (by omega)) ?_
      exact J_ret hX hZ dX7_drawnNumber_14 rfl rfl ⟨by simp [x_dn, h2, h7], rfl, rfl⟩
def x_yx (s : Nat) : Nat → Nat
  | 0 => s
  | i + 1 => (75 * x_yx s i + 74) % 65537
theorem x_yx_lt {s : Nat} (h : s < 65537) (i : Nat) : x_yx s i < 65537 := by
  cases i with
  | zero => exact h
  | succ i => exact Nat.mod_lt _ (by omega)
def x_yA (M : jM) (x : Nat) : jM := (x_act M 21 (nI (x / 6 % 8)) (x % 6) (nI (x_dn (x / 6 % 8) (x / 48)))).2
def x_yM (M : jM) (s : Nat) : Nat → jM
  | 0 => x_copy M 1 21
  | i + 1 => x_yA (x_yM M s i) (x_yx s (i + 1))
def x_year (M : jM) (s m k : Int32) : Int32 × jM := if (0 ≤ s.toInt ∧ s.toInt ≤ 9999) then (if (1 ≤ m.toInt ∧ m.toInt ≤ 99) then (if (0 ≤ k.toInt ∧ k.toInt ≤ 2) then (let M1 := x_yM M s.toNatClampNeg m.toNatClampNeg
  ((if k = 0 then x_notes M1 21 else if k = 1 then x_rate M1 21 else x_bc (x_lotsOf M1 21 (-1))), M1)) else (-2, M)) else (-2, M)) else (-2, M)
theorem x_lt_dn8 {k d : Nat} (hk : k < 8) (h : nI k = 2 ∨ nI k = 3) : x_lt (nI (x_dn k d)) 8 := by
  have hk2 : k = 2 ∨ k = 3 := by
    rcases h with h | h
    · left; exact (nI_eq (by omega) (by omega)).mp (h.trans (show (2 : Int32) = nI 2 from rfl))
    · right; exact (nI_eq (by omega) (by omega)).mp (h.trans (show (3 : Int32) = nI 3 from rfl))
  exact x_lt_of rfl (by rw [x_dn, if_pos hk2]; omega) (by omega)
theorem x_lt_dn6 {k d : Nat} (hk : k < 8) (h : nI k = 5) : x_lt (nI (x_dn k d)) 6 := by
  have hk2 : k = 5 := (nI_eq (by omega) (by omega)).mp (h.trans (show (5 : Int32) = nI 5 from rfl))
  exact x_lt_of rfl (by rw [x_dn, if_neg (by omega), if_pos hk2]; omega) (by omega)
set_option maxHeartbeats 4000000 in
set_option maxRecDepth 10000 in
theorem c_X7_year (l : Launch) (D : va_G) (a : Nat → Nat) (g : Nat → ClassId) (M : jM) (L : jL) (s m k : Int32)  : jK l D a g yX7_year cX7_year 8 (some .int) 5 117 [.ref (a 0), .int s, .int m, .int k] M L (some (.int ((x_year M s m k).1))) ((x_year M s m k).2) L := by
  refine jMeth (by decide) (Nat.le_of_ble_eq_true rfl) ?_
  intro G hX hZ
  refine J_cg (loc' := [(0, .ref (a 0)), (1, .int s), (2, .int m), (3, .int k)]) rfl rfl rfl rfl ?_
  refine J_iload_n hX 1 dX7_year_0 rfl ?_
  refine J_iconst (v := 0) hX dX7_year_1 (by decide) ?_
  refine J_sipush (v := 9999) hX dX7_year_2 (by decide) ?_
  refine J_callS hX [.int s, .int 0, .int 9999] [] dX7_year_5 (c_X7_within l D a g M L s 0 9999) lk_X7_62 rfl rfl (Nat.le_of_ble_eq_true rfl) (Nat.le_of_ble_eq_true rfl) (Nat.le_of_ble_eq_true rfl) (J_eq (st := [.int (jB (0 ≤ s.toInt ∧ s.toInt ≤ 9999))]) rfl ?_)
  refine J_ifB_eq hX 30 dX7_year_8 (by decide) (fun h8 => ?_) (fun h8 => ?_)
  · skip
    refine J_bipush (v := (-2)) hX dX7_year_30 (by decide) ?_
    exact J_ret hX hZ dX7_year_32 rfl rfl ⟨by rw [x_year]; (first | rw [if_pos h8] | rw [if_neg h8]), by rw [x_year]; (first | rw [if_pos h8] | rw [if_neg h8]), rfl⟩
  · skip
    refine J_iload_n hX 2 dX7_year_11 rfl ?_
    refine J_iconst (v := 1) hX dX7_year_12 (by decide) ?_
    refine J_bipush (v := 99) hX dX7_year_13 (by decide) ?_
    refine J_callS hX [.int m, .int 1, .int 99] [] dX7_year_15 (c_X7_within l D a g M L m 1 99) lk_X7_62 rfl rfl (Nat.le_of_ble_eq_true rfl) (Nat.le_of_ble_eq_true rfl) (Nat.le_of_ble_eq_true rfl) (J_eq (st := [.int (jB (1 ≤ m.toInt ∧ m.toInt ≤ 99))]) rfl ?_)
    refine J_ifB_eq hX 30 dX7_year_18 (by decide) (fun h18 => ?_) (fun h18 => ?_)
    · skip
      refine J_bipush (v := (-2)) hX dX7_year_30 (by decide) ?_
      exact J_ret hX hZ dX7_year_32 rfl rfl ⟨by rw [x_year]; (first | rw [if_pos h8] | rw [if_neg h8]); (first | rw [if_pos h18] | rw [if_neg h18]), by rw [x_year]; (first | rw [if_pos h8] | rw [if_neg h8]); (first | rw [if_pos h18] | rw [if_neg h18]), rfl⟩
    · skip
      refine J_iload_n hX 3 dX7_year_21 rfl ?_
      refine J_iconst (v := 0) hX dX7_year_22 (by decide) ?_
      refine J_iconst (v := 2) hX dX7_year_23 (by decide) ?_
      refine J_callS hX [.int k, .int 0, .int 2] [] dX7_year_24 (c_X7_within l D a g M L k 0 2) lk_X7_62 rfl rfl (Nat.le_of_ble_eq_true rfl) (Nat.le_of_ble_eq_true rfl) (Nat.le_of_ble_eq_true rfl) (J_eq (st := [.int (jB (0 ≤ k.toInt ∧ k.toInt ≤ 2))]) rfl ?_)
      refine J_ifB_ne hX 33 dX7_year_27 (by decide) (fun h27 => ?_) (fun h27 => ?_)
      · skip
        refine J_aload_n hX 0 dX7_year_33 rfl ?_
        refine J_getr hX 0 3 dX7_year_34 jc_0 rfl rfl (by decide) inlX7 wm_2_3 ?_
        refine J_getr hX 20 0 dX7_year_37 jc_20 rfl rfl (by decide) inlX5 wm_19_15 ?_
        refine J_astore (loc' := [(4, .ref (a 21)), (0, .ref (a 0)), (1, .int s), (2, .int m), (3, .int k)]) hX dX7_year_40 (by decide) rfl ?_
        refine J_aload hX 0 dX7_year_42 rfl ?_
        refine J_aload_n hX 1 dX7_year_44 rfl ?_
        refine J_getr hX 0 0 dX7_year_45 jc_0 rfl rfl (by decide) inlX7 wm_1_15 ?_
        refine J_callV hX 21 [.ref (a 1)] [] dX7_year_48 (c_X2_copyFrom l D a g M L 21 jRl_21 1 jRl_1) lk_X7_140 jc_21 rfl rfl rfl (Nat.le_of_ble_eq_true rfl) (Nat.le_of_ble_eq_true rfl) (Nat.le_of_ble_eq_true rfl) (J_eq (st := []) rfl ?_)
        have is := jix h8
        have ls := jixl h8
        have im : m = nI m.toNatClampNeg := jix (b := 99) ⟨by omega, h18.2⟩
        have lm := jixl (o := m) (b := 99) ⟨by omega, h18.2⟩
        refine J_seti (y := nI s.toNatClampNeg) (loc' := [(4, .ref (a 21)), (0, .ref (a 0)), (1, .int (nI s.toNatClampNeg)), (2, .int m), (3, .int k)]) 2 rfl is rfl ?_
        refine J_seti (y := nI m.toNatClampNeg) (loc' := [(4, .ref (a 21)), (0, .ref (a 0)), (1, .int (nI s.toNatClampNeg)), (2, .int (nI m.toNatClampNeg)), (3, .int k)]) 3 rfl im rfl ?_
        refine J_iload_n hX 2 dX7_year_51 rfl ?_
        refine J_istore (loc' := [(5, .int (nI s.toNatClampNeg)), (4, .ref (a 21)), (0, .ref (a 0)), (1, .int (nI s.toNatClampNeg)), (2, .int (nI m.toNatClampNeg)), (3, .int k)]) hX dX7_year_52 (by decide) rfl ?_
        refine J_iconst (v := 0) hX dX7_year_54 (by decide) ?_
        refine J_istore (loc' := [(6, .int 0), (5, .int (nI s.toNatClampNeg)), (4, .ref (a 21)), (0, .ref (a 0)), (1, .int (nI s.toNatClampNeg)), (2, .int (nI m.toNatClampNeg)), (3, .int k)]) hX dX7_year_55 (by decide) rfl ?_
        have key57 : ∀ (fu57 : Nat) (i : Nat), m.toNatClampNeg - i < fu57 → i ≤ m.toNatClampNeg → J l D a g G 8 (x_yM M s.toNatClampNeg i) L 57 [(0, .ref (a 0)), (2, .int (nI m.toNatClampNeg)), (3, .int k), (4, .ref (a 21)), (5, .int (nI (x_yx s.toNatClampNeg i))), (6, .int (nI i))] [] := by
          intro fu57
          induction fu57 with
          | zero => intro i hmu; exact absurd hmu (Nat.not_lt_zero _)
          | succ fu57 ih57 =>
            intro i hmu57 hi
            have bx := x_yx_lt (s := s.toNatClampNeg) (by omega) i
            have by_ := x_yx_lt (s := s.toNatClampNeg) (by omega) (i + 1)
            refine J_iload hX 5 dX7_year_57 rfl ?_
            refine J_iload_n hX 1 dX7_year_59 rfl ?_
            refine J_cmpN_ge hX 115 i m.toNatClampNeg dX7_year_60 (by decide) rfl rfl (by omega) (by omega) (fun h60 => ?_) (fun h60 => ?_)
            · skip
              have ei : i = m.toNatClampNeg := by omega
              refine J_iload_n hX 2 dX7_year_115 rfl ?_
              by_cases s116_0 : k = 0
              · refine J_lookup (off := 28) hX 144 dX7_year_116 rfl (by rw [s116_0]; first | done | rfl) (by decide) ?_
                refine J_aload hX 3 dX7_year_144 rfl ?_
                refine J_callV hX 21 [] [] dX7_year_146 (c_X2_notes l D a g (x_yM M s.toNatClampNeg i) L 21 jRl_21) lk_X7_122 jc_21 rfl rfl rfl (Nat.le_of_ble_eq_true rfl) (Nat.le_of_ble_eq_true rfl) (Nat.le_of_ble_eq_true rfl) (J_eq (st := [.int (x_notes (x_yM M s.toNatClampNeg i) 21)]) rfl ?_)
                exact J_ret hX hZ dX7_year_149 rfl rfl ⟨by rw [x_year, if_pos h8, if_pos h18, if_pos h27]; simp [s116_0]; rw [ei], by rw [x_year, if_pos h8, if_pos h18, if_pos h27]; rw [ei], rfl⟩
              by_cases s116_1 : k = 1
              · refine J_lookup (off := 34) hX 150 dX7_year_116 rfl (by rw [s116_1]; first | done | rfl) (by decide) ?_
                refine J_aload hX 3 dX7_year_150 rfl ?_
                refine J_callV hX 21 [] [] dX7_year_152 (c_X2_rate l D a g (x_yM M s.toNatClampNeg i) L 21 jRl_21) lk_X7_128 jc_21 rfl rfl rfl (Nat.le_of_ble_eq_true rfl) (Nat.le_of_ble_eq_true rfl) (Nat.le_of_ble_eq_true rfl) (J_eq (st := [.int (x_rate (x_yM M s.toNatClampNeg i) 21)]) rfl ?_)
                exact J_ret hX hZ dX7_year_155 rfl rfl ⟨by rw [x_year, if_pos h8, if_pos h18, if_pos h27]; simp [s116_0, s116_1]; rw [ei], by rw [x_year, if_pos h8, if_pos h18, if_pos h27]; rw [ei], rfl⟩
              refine J_lookup (off := 40) hX 156 dX7_year_116 rfl (by show Op.lookupswitch.offset [(0, 28), (1, 34)] 40 _ = _; rw [lv_osw (a := 0) s116_0 rfl, lv_osw (a := 1) s116_1 rfl]; first | done | rfl) (by decide) ?_
              refine J_aload hX 3 dX7_year_156 rfl ?_
              refine J_iconst (v := (-1)) hX dX7_year_158 (by decide) ?_
              refine J_callV hX 21 [.int (-1)] [] dX7_year_159 (c_X2_lotsOf l D a g (x_yM M s.toNatClampNeg i) L 21 jRl_21 (-1)) lk_X7_162 jc_21 rfl rfl rfl (Nat.le_of_ble_eq_true rfl) (Nat.le_of_ble_eq_true rfl) (Nat.le_of_ble_eq_true rfl) (J_eq (st := [.int (x_lotsOf (x_yM M s.toNatClampNeg i) 21 (-1))]) rfl ?_)
              refine J_callS hX [.int (x_lotsOf (x_yM M s.toNatClampNeg i) 21 (-1))] [] dX7_year_162 (c_J6_bitCount_0f7a4 l D a g (x_yM M s.toNatClampNeg i) L (x_lotsOf (x_yM M s.toNatClampNeg i) 21 (-1))) lk_X7_213 rfl rfl (Nat.le_of_ble_eq_true rfl) (Nat.le_of_ble_eq_true rfl) (Nat.le_of_ble_eq_true rfl) (J_eq (st := [.int (x_bc (x_lotsOf (x_yM M s.toNatClampNeg i) 21 (-1)))]) rfl ?_)
              exact J_ret hX hZ dX7_year_165 rfl rfl ⟨by rw [x_year, if_pos h8, if_pos h18, if_pos h27]; simp [s116_0, s116_1]; rw [ei], by rw [x_year, if_pos h8, if_pos h18, if_pos h27]; rw [ei], rfl⟩
            · skip
              refine J_bipush (v := 75) hX dX7_year_63 (by decide) ?_
              refine J_iload hX 4 dX7_year_65 rfl ?_
              refine J_imul hX dX7_year_67 ?_
              refine J_topi (y := nI (75 * x_yx s.toNatClampNeg i)) (pk_mul 75 _) ?_
              refine J_bipush (v := 74) hX dX7_year_68 (by decide) ?_
              refine J_iadd hX dX7_year_70 ?_
              refine J_topi (y := nI (75 * x_yx s.toNatClampNeg i + 74)) (nI_add _ 74) ?_
              refine J_ldc hX dX7_year_71 wm_30_20 ?_
              refine J_irem hX dX7_year_73 (by decide) ?_
              refine J_topi (y := nI (x_yx s.toNatClampNeg (i + 1))) (pk_rem (d := 65537) (by omega) (by omega) (by omega)) ?_
              refine J_istore (loc' := [(5, .int (nI (x_yx s.toNatClampNeg (i + 1)))), (0, .ref (a 0)), (2, .int (nI m.toNatClampNeg)), (3, .int k), (4, .ref (a 21)), (6, .int (nI i))]) hX dX7_year_74 (by decide) rfl ?_
              refine J_iload hX 0 dX7_year_76 rfl ?_
              refine J_bipush (v := 6) hX dX7_year_78 (by decide) ?_
              refine J_idiv hX dX7_year_80 (by decide) ?_
              refine J_topi (y := nI (x_yx s.toNatClampNeg (i + 1) / 6)) (pk_div (d := 6) (by omega) (by omega) (by omega)) ?_
              refine J_bipush (v := 8) hX dX7_year_81 (by decide) ?_
              refine J_irem hX dX7_year_83 (by decide) ?_
              refine J_topi (y := nI (x_yx s.toNatClampNeg (i + 1) / 6 % 8)) (pk_rem (d := 8) (by omega) (by omega) (by omega)) ?_
              refine J_istore (loc' := [(7, .int (nI (x_yx s.toNatClampNeg (i + 1) / 6 % 8))), (5, .int (nI (x_yx s.toNatClampNeg (i + 1)))), (0, .ref (a 0)), (2, .int (nI m.toNatClampNeg)), (3, .int k), (4, .ref (a 21)), (6, .int (nI i))]) hX dX7_year_84 (by decide) rfl ?_
              refine J_aload hX 5 dX7_year_86 rfl ?_
              refine J_iload hX 0 dX7_year_88 rfl ?_
              refine J_iload hX 1 dX7_year_90 rfl ?_
              refine J_bipush (v := 6) hX dX7_year_92 (by decide) ?_
              refine J_irem hX dX7_year_94 (by decide) ?_
              refine J_topi (y := nI (x_yx s.toNatClampNeg (i + 1) % 6)) (pk_rem (d := 6) (by omega) (by omega) (by omega)) ?_
              refine J_iload hX 0 dX7_year_95 rfl ?_
              refine J_iload hX 1 dX7_year_97 rfl ?_
              refine J_bipush (v := 48) hX dX7_year_99 (by decide) ?_
              refine J_idiv hX dX7_year_101 (by decide) ?_
              refine J_topi (y := nI (x_yx s.toNatClampNeg (i + 1) / 48)) (pk_div (d := 48) (by omega) (by omega) (by omega)) ?_
              refine J_callS hX [.int (nI (x_yx s.toNatClampNeg (i + 1) / 6 % 8)), .int (nI (x_yx s.toNatClampNeg (i + 1) / 48))] [.int (nI (x_yx s.toNatClampNeg (i + 1) % 6)), .int (nI (x_yx s.toNatClampNeg (i + 1) / 6 % 8)), .ref (a 21)] dX7_year_102 (c_X7_drawnNumber l D a g (x_yM M s.toNatClampNeg i) L (x_yx s.toNatClampNeg (i + 1) / 6 % 8) (x_yx s.toNatClampNeg (i + 1) / 48) (by omega) (by omega)) lk_X7_206 rfl rfl (Nat.le_of_ble_eq_true rfl) (Nat.le_of_ble_eq_true rfl) (Nat.le_of_ble_eq_true rfl) (J_eq (st := [.int (nI (x_dn (x_yx s.toNatClampNeg (i + 1) / 6 % 8) (x_yx s.toNatClampNeg (i + 1) / 48))), .int (nI (x_yx s.toNatClampNeg (i + 1) % 6)), .int (nI (x_yx s.toNatClampNeg (i + 1) / 6 % 8)), .ref (a 21)]) rfl ?_)
              refine J_callV hX 21 [.int (nI (x_yx s.toNatClampNeg (i + 1) / 6 % 8)), .int (nI (x_yx s.toNatClampNeg (i + 1) % 6)), .int (nI (x_dn (x_yx s.toNatClampNeg (i + 1) / 6 % 8) (x_yx s.toNatClampNeg (i + 1) / 48)))] [] dX7_year_105 (c_X2_act l D a g (x_yM M s.toNatClampNeg i) L 21 jRl_21 (nI (x_yx s.toNatClampNeg (i + 1) / 6 % 8)) (x_yx s.toNatClampNeg (i + 1) % 6) (by omega) (nI (x_dn (x_yx s.toNatClampNeg (i + 1) / 6 % 8) (x_yx s.toNatClampNeg (i + 1) / 48))) (fun h => x_lt_dn8 (by omega) h) (fun h => x_lt_dn6 (by omega) h)) lk_X7_209 jc_21 rfl rfl rfl (Nat.le_of_ble_eq_true rfl) (Nat.le_of_ble_eq_true rfl) (Nat.le_of_ble_eq_true rfl) (J_eq (st := [.int ((x_act (x_yM M s.toNatClampNeg i) 21 (nI (x_yx s.toNatClampNeg (i + 1) / 6 % 8)) (x_yx s.toNatClampNeg (i + 1) % 6) (nI (x_dn (x_yx s.toNatClampNeg (i + 1) / 6 % 8) (x_yx s.toNatClampNeg (i + 1) / 48)))).1)]) rfl ?_)
              refine J_pop hX dX7_year_108 rfl ?_
              refine J_cg (M' := x_yM M s.toNatClampNeg (i + 1)) rfl rfl rfl rfl ?_
              refine J_iinc (v := nI (i + 1)) (loc' := [(6, .int (nI (i + 1))), (7, .int (nI (x_yx s.toNatClampNeg (i + 1) / 6 % 8))), (5, .int (nI (x_yx s.toNatClampNeg (i + 1)))), (0, .ref (a 0)), (2, .int (nI m.toNatClampNeg)), (3, .int k), (4, .ref (a 21))]) hX 6 dX7_year_109 rfl (jinc i) (by decide) rfl ?_
              refine J_goto hX 57 dX7_year_112 (by decide) ?_
              refine J_sub (loc' := [(0, .ref (a 0)), (2, .int (nI m.toNatClampNeg)), (3, .int k), (4, .ref (a 21)), (5, .int (nI (x_yx s.toNatClampNeg (i + 1)))), (6, .int (nI (i + 1)))]) [3, 4, 5, 6, 2, 0] rfl ?_
              exact ih57  (i + 1) (by omega) (by omega)
        refine J_sub (loc' := [(0, .ref (a 0)), (2, .int (nI m.toNatClampNeg)), (3, .int k), (4, .ref (a 21)), (5, .int (nI s.toNatClampNeg)), (6, .int 0)]) [3, 5, 6, 2, 1, 0] rfl ?_
        refine J_seti (y := nI (x_yx s.toNatClampNeg 0)) (loc' := [(0, .ref (a 0)), (2, .int (nI m.toNatClampNeg)), (3, .int k), (4, .ref (a 21)), (5, .int (nI (x_yx s.toNatClampNeg 0))), (6, .int 0)]) 4 rfl rfl rfl ?_
        refine J_seti (y := nI 0) (loc' := [(0, .ref (a 0)), (2, .int (nI m.toNatClampNeg)), (3, .int k), (4, .ref (a 21)), (5, .int (nI (x_yx s.toNatClampNeg 0))), (6, .int (nI 0))]) 5 rfl rfl rfl ?_
        refine J_cg (M' := x_yM M s.toNatClampNeg 0) (L' := L) rfl rfl rfl rfl ?_
        exact key57 _ 0 (Nat.lt_succ_self _) (by omega)
      · skip
        refine J_bipush (v := (-2)) hX dX7_year_30 (by decide) ?_
        exact J_ret hX hZ dX7_year_32 rfl rfl ⟨by rw [x_year]; (first | rw [if_pos h8] | rw [if_neg h8]); (first | rw [if_pos h18] | rw [if_neg h18]); (first | rw [if_pos h27] | rw [if_neg h27]), by rw [x_year]; (first | rw [if_pos h8] | rw [if_neg h8]); (first | rw [if_pos h18] | rw [if_neg h18]); (first | rw [if_pos h27] | rw [if_neg h27]), rfl⟩
