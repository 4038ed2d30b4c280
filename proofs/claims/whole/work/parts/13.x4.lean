theorem x_act_ne {M : jM} {q c w : Nat} {k z : Int32} (hw : w < 6) (hc : c < q ∨ q + 12 ≤ c) : (x_act M q k w z).2 c = M c := by
  unfold x_act x_printed x_paid x_bought x_exch x_sett x_forg x_month
  repeat' split
  all_goals (funext i; simp only [x_boughtM, x_exchM, x_settM, x_forgM]; repeat rw [jU_cell (by omega)])
theorem x_copy_ne {M : jM} {r q c : Nat} (hc : c < q ∨ q + 12 ≤ c) : x_copy M r q c = M c := by
  have h1 : ∀ (A : jM) (n : Nat), n ≤ 6 → x_cpR A r q n c = A c := by
    intro A n
    induction n with
    | zero => intro _; rfl
    | succ n ih => intro h; rw [x_cpR, jCp_ne (by omega), ih (by omega)]
  have h2 : ∀ (A : jM) (n : Nat), x_cpS A r q n c = A c := by
    intro A n
    induction n with
    | zero => rfl
    | succ n ih => rw [x_cpS, jU_ne (by omega), ih]
  rw [x_copy, h2, jCp_ne (by omega), jCp_ne (by omega), h1 _ 6 (Nat.le_refl 6), jCp_ne (by omega), jCp_ne (by omega)]
def x_okT (f : Nat → Int32) (n : Nat) : Prop := (∀ i, i < n → ¬ x_scan f (i + 1) = 6) ∧ x_scan f n = 0
theorem nI_ne_neg {i : Nat} {z : Int32} (hz : z < 0) (h : i < 2 ^ 31) : ¬ nI i = z := fun e => absurd (e ▸ hz) (nI_pos h)
theorem x_fault_ok {f : Nat → Int32} {n : Nat} (hn : n ≤ 60) (h : x_fault f n = -6) : x_okT f n := by
  have key : ∀ k i, i + k = n → x_fp f n k i = -6 → (∀ j, i ≤ j → j < n → ¬ x_scan f (j + 1) = 6) ∧ x_scan f n = 0 := by
    intro k
    induction k with
    | zero =>
      intro i hi h
      rw [x_fp] at h
      have e : i = n := by omega
      subst e
      refine ⟨fun j h1 h2 => by omega, ?_⟩
      by_cases h0 : x_scan f i = 0
      · exact h0
      · rw [if_neg h0] at h
        exact absurd h (nI_ne_neg (by decide) (by omega))
    | succ k ih =>
      intro i hi h
      rw [x_fp] at h
      by_cases h6 : x_scan f (i + 1) = 6
      · rw [if_pos h6] at h
        exact absurd h (nI_ne_neg (by decide) (by omega))
      · rw [if_neg h6] at h
        obtain ⟨a1, a2⟩ := ih (i + 1) (by omega) h
        refine ⟨fun j h1 h2 => ?_, a2⟩
        by_cases e : j = i
        · subst e; exact h6
        · exact a1 j (by omega) h2
  obtain ⟨a1, a2⟩ := key n 0 (by omega) h
  exact ⟨fun i hi => a1 i (Nat.zero_le i) hi, a2⟩
theorem nI_sub_of {s : Int32} {b lo hi : Nat} (h1 : (lo : Int) ≤ s.toInt) (h2 : s.toInt ≤ (hi : Int)) (hb : b ≤ lo) (hh : hi < 2 ^ 30) : ∃ j : Nat, j ≤ hi - b ∧ lo - b ≤ j ∧ s - nI b = nI j := by
  refine ⟨s.toInt.toNat - b, by omega, by omega, ?_⟩
  have e : s = nI s.toInt.toNat := by
    apply Int32.toInt_inj.mp
    rw [nI_toInt (by omega)]
    omega
  have q : nI s.toInt.toNat - nI b = nI (s.toInt.toNat - b) := pk_sub (by omega)
  rw [← e] at q
  exact q
def x_w (M : jM) (n p : Nat) : Nat := (x_who M n p).toNatClampNeg
theorem x_lt_of {z : Int32} {j b : Nat} (h : z = nI j) (hj : j < b) (hb : b < 2 ^ 31) : x_lt z b := by
  subst h
  unfold x_lt
  rw [nI_clamp (by omega)]
  exact ⟨hj, rfl⟩
/-- what an ACT is told at a place where one begins, in a text without a FAULT -/
theorem x_okAct {M : jM} {n p : Nat} (hT : x_okT (M 19) n) (hs : x_scan (M 19) p = 0) (hp : p < n) :
    x_lt (x_who M n p) 6 ∧ (x_k M n p = 2 ∨ x_k M n p = 3 → x_lt (x_num M n p) 8) ∧ (x_k M n p = 5 → x_lt (x_num M n p) 6) ∧ 1 ≤ x_len M n p ∧ p + x_len M n p ≤ n ∧ x_scan (M 19) (p + x_len M n p) = 0 := by
  obtain ⟨t1, t2⟩ := hT
  have e0 : x_sg M n p = M 19 p := if_pos hp
  have z6 : x_lt 0 6 := ⟨by decide, rfl⟩
  have n1 := t1 p hp
  rw [x_scan, hs, x_next, if_pos rfl, x_nFirst] at n1
  have more : ∀ i, i ≤ n → ¬ x_scan (M 19) i = 0 → i < n := by
    intro i hi h
    rcases Nat.lt_or_ge i n with q | q
    · exact q
    · exact absurd (by rw [show i = n by omega]; exact t2) h
  have s1 : x_scan (M 19) (p + 1) = x_nFirst (M 19 p) := by rw [x_scan, hs, x_next, if_pos rfl]
  by_cases c46 : M 19 p = 46
  · have hk : x_k M n p = 7 := by rw [x_k, e0, c46]; rfl
    have hl : x_len M n p = 1 := by rw [x_len, if_pos hk]
    have hw : x_who M n p = 0 := by rw [x_who, hl]; rfl
    rw [hw, hk, hl]
    refine ⟨z6, fun h => ?_, fun h => ?_, by omega, by omega, ?_⟩
    · exact absurd h (by decide)
    · exact absurd h (by decide)
    · rw [s1, c46]; rfl
  by_cases c43 : M 19 p = 43
  · have hk : x_k M n p = 0 := by rw [x_k, e0, c43]; rfl
    have hl : x_len M n p = 2 := by rw [x_len, hk]; rfl
    have hw : x_who M n p = 0 := by rw [x_who, hl]; rfl
    have s1' : x_scan (M 19) (p + 1) = 1 := by rw [s1, c43]; rfl
    have h1 := more (p + 1) (by omega) (by rw [s1']; decide)
    have n2 := t1 (p + 1) h1
    have s2 : x_scan (M 19) (p + 1 + 1) = x_next 1 (M 19 (p + 1)) := by rw [x_scan, s1']
    rw [hw, hk, hl]
    refine ⟨z6, fun h => ?_, fun h => ?_, by omega, by omega, ?_⟩
    · exact absurd h (by decide)
    · exact absurd h (by decide)
    · rw [s2] at n2
      rw [show p + 2 = p + 1 + 1 by omega, s2]
      rw [x_next, if_neg (by decide), if_pos rfl] at n2 ⊢
      split at n2
      · rename_i hd; rw [if_pos hd]
      · exact absurd rfl n2
  by_cases c33 : M 19 p = 33
  · have hk : x_k M n p = 6 := by rw [x_k, e0, c33]; rfl
    have hl : x_len M n p = 3 := by rw [x_len, hk]; rfl
    have s1' : x_scan (M 19) (p + 1) = 2 := by rw [s1, c33]; rfl
    have h1 := more (p + 1) (by omega) (by rw [s1']; decide)
    have n2 := t1 (p + 1) h1
    have s2 : x_scan (M 19) (p + 1 + 1) = x_next 2 (M 19 (p + 1)) := by rw [x_scan, s1']
    have l2 : 65 ≤ (M 19 (p + 1)).toInt ∧ (M 19 (p + 1)).toInt ≤ 70 := by
      rw [s2, x_next, if_neg (by decide), if_neg (by decide), if_pos rfl] at n2
      split at n2
      · assumption
      · exact absurd rfl n2
    have s2' : x_scan (M 19) (p + 1 + 1) = 1 := by rw [s2, x_next, if_neg (by decide), if_neg (by decide), if_pos rfl, if_pos l2]
    have h2 := more (p + 1 + 1) (by omega) (by rw [s2']; decide)
    have n3 := t1 (p + 1 + 1) h2
    have s3 : x_scan (M 19) (p + 1 + 1 + 1) = x_next 1 (M 19 (p + 1 + 1)) := by rw [x_scan, s2']
    obtain ⟨j, j1, -, j2⟩ := nI_sub_of (b := 65) (lo := 65) (hi := 70) l2.1 l2.2 (by omega) (by omega)
    have hw : x_who M n p = nI j := by
      rw [x_who, hl, if_neg (by decide), if_pos hk, show x_sg M n (p + 1) = M 19 (p + 1) from if_pos h1]
      exact j2
    rw [hk, hl]
    refine ⟨x_lt_of hw (by omega) (by omega), fun h => ?_, fun h => ?_, by omega, by omega, ?_⟩
    · exact absurd h (by decide)
    · exact absurd h (by decide)
    · rw [s3] at n3
      rw [show p + 3 = p + 1 + 1 + 1 by omega, s3]
      rw [x_next, if_neg (by decide), if_pos rfl] at n3 ⊢
      split at n3
      · rename_i hd; rw [if_pos hd]
      · exact absurd rfl n3
  rw [if_neg c33, if_neg c43, if_neg c46] at n1
  have l1 : 65 ≤ (M 19 p).toInt ∧ (M 19 p).toInt ≤ 70 := by
    split at n1
    · assumption
    · exact absurd rfl n1
  have s1' : x_scan (M 19) (p + 1) = 3 := by rw [s1, x_nFirst, if_neg c33, if_neg c43, if_neg c46, if_pos l1]
  have h1 := more (p + 1) (by omega) (by rw [s1']; decide)
  have n2 := t1 (p + 1) h1
  have s2 : x_scan (M 19) (p + 1 + 1) = x_nDeed (M 19 (p + 1)) := by rw [x_scan, s1']; rfl
  have e1 : x_sg M n (p + 1) = M 19 (p + 1) := if_pos h1
  have hk : x_k M n p = x_kDeed (M 19 (p + 1)) := by rw [x_k, e0, e1, x_kindOf, if_neg c33, if_neg c43, if_neg c46]
  have k3 : x_kDeed (M 19 (p + 1)) = 1 ∨ x_kDeed (M 19 (p + 1)) = 2 ∨ x_kDeed (M 19 (p + 1)) = 4 ∨ x_kDeed (M 19 (p + 1)) = 5 := by
    unfold x_kDeed
    repeat' split
    all_goals simp
  have hl : x_len M n p = 3 := by
    rw [x_len, hk]
    rcases k3 with h | h | h | h <;> rw [h] <;> rfl
  have k6 : ¬ x_k M n p = 6 := by
    rw [hk]
    rcases k3 with h | h | h | h <;> rw [h] <;> decide
  obtain ⟨j, j1, -, j2⟩ := nI_sub_of (b := 65) (lo := 65) (hi := 70) l1.1 l1.2 (by omega) (by omega)
  have hw : x_who M n p = nI j := by
    rw [x_who, hl, if_neg (by decide), if_neg k6, e0]
    exact j2
  have d0 : ¬ x_nDeed (M 19 (p + 1)) = 0 := by
    unfold x_nDeed
    repeat' split
    all_goals decide
  have h2 := more (p + 1 + 1) (by omega) (by rw [s2]; exact d0)
  have n3 := t1 (p + 1 + 1) h2
  rw [s2] at n2
  have s3 : x_scan (M 19) (p + 1 + 1 + 1) = x_next (x_nDeed (M 19 (p + 1))) (M 19 (p + 1 + 1)) := by rw [x_scan, s2]
  have e2 : x_sg M n (p + 3 - 1) = M 19 (p + 1 + 1) := by rw [x_sg, if_pos (by omega)]; rfl
  rw [s3] at n3
  have hz : x_scan (M 19) (p + 3) = 0 := by
    rw [show p + 3 = p + 1 + 1 + 1 by omega, s3]
    generalize hd : x_nDeed (M 19 (p + 1)) = d at n2 n3 d0 ⊢
    have hdd : d = 1 ∨ d = 4 ∨ d = 5 := by
      rw [← hd] at n2 ⊢
      unfold x_nDeed at n2 ⊢
      repeat' split at n2
      all_goals first | (exact absurd rfl n2) | simp_all
    rcases hdd with rfl | rfl | rfl
    · rw [x_next, if_neg (by decide), if_pos rfl] at n3 ⊢
      split at n3
      · rename_i hq; rw [if_pos hq]
      · exact absurd rfl n3
    · rw [x_next, if_neg (by decide), if_neg (by decide), if_neg (by decide), if_neg (by decide), if_pos rfl] at n3 ⊢
      split at n3
      · rename_i hq; rw [if_pos hq]
      · exact absurd rfl n3
    · rw [x_next, if_neg (by decide), if_neg (by decide), if_neg (by decide), if_neg (by decide), if_neg (by decide)] at n3 ⊢
      split at n3
      · rename_i hq; rw [if_pos hq]
      · exact absurd rfl n3
  refine ⟨x_lt_of hw (by omega) (by omega), fun h => ?_, fun h => ?_, by rw [hl]; omega, by rw [hl]; omega, by rw [hl]; exact hz⟩
  · have c36 : M 19 (p + 1) = 36 := by
      rw [hk, x_kDeed] at h
      by_cases c : M 19 (p + 1) = 36
      · exact c
      · rw [if_neg c] at h
        exfalso
        revert h
        repeat' split
        all_goals decide
    have hd : x_nDeed (M 19 (p + 1)) = 4 := by rw [c36]; rfl
    rw [hd, x_next, if_neg (by decide), if_neg (by decide), if_neg (by decide), if_neg (by decide), if_pos rfl] at n3
    have l3 : 48 ≤ (M 19 (p + 1 + 1)).toInt ∧ (M 19 (p + 1 + 1)).toInt ≤ 55 := by
      split at n3
      · assumption
      · exact absurd rfl n3
    obtain ⟨i, i1, -, i2⟩ := nI_sub_of (b := 48) (lo := 48) (hi := 55) l3.1 l3.2 (by omega) (by omega)
    refine x_lt_of (j := i) ?_ (by omega) (by omega)
    rw [x_num, hl, if_neg (by rcases h with h | h <;> rw [h] <;> decide), e2]
    exact i2
  · have c62 : x_nDeed (M 19 (p + 1)) = 5 := by
      rw [hk, x_kDeed] at h
      by_cases c : M 19 (p + 1) = 62
      · rw [c]; rfl
      · exfalso
        revert h
        repeat' split
        all_goals first | decide | (intro _; contradiction)
    rw [c62, x_next, if_neg (by decide), if_neg (by decide), if_neg (by decide), if_neg (by decide), if_neg (by decide)] at n3
    have l3 : 65 ≤ (M 19 (p + 1 + 1)).toInt ∧ (M 19 (p + 1 + 1)).toInt ≤ 70 := by
      split at n3
      · assumption
      · exact absurd rfl n3
    obtain ⟨i, i1, -, i2⟩ := nI_sub_of (b := 65) (lo := 65) (hi := 70) l3.1 l3.2 (by omega) (by omega)
    refine x_lt_of (j := i) ?_ (by omega) (by omega)
    rw [x_num, hl, if_pos h, e2]
    exact i2
def x_stepA (M : jM) (n p : Nat) : Int32 × jM := x_act (x_read M n p) 21 (x_k M n p) (x_w M n p) (x_num M n p)
def x_end (M : jM) (v k : Int32) : jM := if k = 7 then x_endM M v else M
def x_stepM (M : jM) (n p : Nat) (v : Int32) : jM :=
  let M3 := x_end (jU (x_stepA M n p).2 20 2 (x_stepA M n p).1) v (x_k M n p)
  jU M3 20 1 (M3 20 1 + 1)
/-- the months of the text from place p on -/
def x_fol (n : Nat) (v : Int32) : Nat → Nat → jM → jM
  | 0, _, M => M
  | f + 1, p, M => if p < n then (if (x_stepA M n p).1 = 0 then x_fol n v f (p + x_len M n p) (x_stepM M n p v) else jU (x_stepA M n p).2 20 2 (x_stepA M n p).1) else M
def x_follow (M : jM) (n : Nat) (v : Int32) : jM := x_fol n v 60 0 (jU (jU (jU (jU (x_copy M 1 21) 20 2 0) 20 3 0) 20 4 (-6)) 20 1 0)
theorem x_fol_end {n : Nat} {v : Int32} {f p : Nat} {M : jM} (h : ¬ p < n) : x_fol n v f p M = M := by
  cases f with
  | zero => rfl
  | succ f => rw [x_fol, if_neg h]
theorem x_fol_bad {n : Nat} {v : Int32} {f p : Nat} {M : jM} (h : p < n) (hf : n - p ≤ f) (h0 : ¬ (x_stepA M n p).1 = 0) : x_fol n v f p M = jU (x_stepA M n p).2 20 2 (x_stepA M n p).1 := by
  cases f with
  | zero => omega
  | succ f => rw [x_fol, if_pos h, if_neg h0]
theorem x_fol_go {n : Nat} {v : Int32} {f p : Nat} {M : jM} (h : p < n) (hf : n - p ≤ f) (h0 : (x_stepA M n p).1 = 0) : x_fol n v f p M = x_fol n v (f - 1) (p + x_len M n p) (x_stepM M n p v) := by
  cases f with
  | zero => omega
  | succ f => rw [x_fol, if_pos h, if_pos h0]; rfl
theorem x_endM_ne {M : jM} {v : Int32} {c : Nat} (h : c ≠ 20) : x_endM M v c = M c := by
  unfold x_endM
  repeat' split
  all_goals simp only [jU_ne h]
theorem x_endM_slot {M : jM} {v : Int32} {c i : Nat} (h3 : i ≠ 3) (h4 : i ≠ 4) : x_endM M v c i = M c i := by
  unfold x_endM
  repeat' split
  all_goals simp only [jU_slot h3, jU_slot h4]
theorem x_end_ne {M : jM} {v k : Int32} {c : Nat} (h : c ≠ 20) : x_end M v k c = M c := by
  unfold x_end; split; exact x_endM_ne h; rfl
theorem x_end_slot {M : jM} {v k : Int32} {c i : Nat} (h3 : i ≠ 3) (h4 : i ≠ 4) : x_end M v k c i = M c i := by
  unfold x_end; split; exact x_endM_slot h3 h4; rfl
theorem x_read_ne {M : jM} {n p c : Nat} (h : c ≠ 20) : x_read M n p c = M c := by
  unfold x_read; rw [jU_ne h, jU_ne h, jU_ne h, jU_ne h]
theorem x_read_slot {M : jM} {n p c i : Nat} (h : i < 5) : x_read M n p c i = M c i := by
  unfold x_read; rw [jU_slot (by omega), jU_slot (by omega), jU_slot (by omega), jU_slot (by omega)]
theorem x_stepA_ne {M : jM} {n p c : Nat} (hw : x_w M n p < 6) (h : c < 20 ∨ 33 ≤ c) : (x_stepA M n p).2 c = M c := by
  unfold x_stepA; rw [x_act_ne hw (by omega), x_read_ne (by omega)]
theorem x_stepA_20 {M : jM} {n p : Nat} (hw : x_w M n p < 6) : (x_stepA M n p).2 20 = x_read M n p 20 := by
  unfold x_stepA; rw [x_act_ne hw (by omega)]
theorem x_stepM_ne {M : jM} {n p c : Nat} {v : Int32} (hw : x_w M n p < 6) (h : c < 20 ∨ 33 ≤ c) : x_stepM M n p v c = M c := by
  unfold x_stepM
  show jU _ 20 1 _ c = M c
  rw [jU_ne (by omega), x_end_ne (by omega), jU_ne (by omega), x_stepA_ne hw h]
theorem x_stepM_cnt {M : jM} {n p k : Nat} {v : Int32} (hw : x_w M n p < 6) (h : M 20 1 = nI k) : x_stepM M n p v 20 1 = nI (k + 1) := by
  unfold x_stepM
  show jU _ 20 1 _ 20 1 = _
  rw [jU_same, x_end_slot (by decide) (by decide), jU_slot (by decide), x_stepA_20 hw, x_read_slot (by decide), h, nI_1]
set_option maxHeartbeats 4000000 in
set_option maxRecDepth 10000 in
theorem c_X5_follow (l : Launch) (D : va_G) (a : Nat → Nat) (g : Nat → ClassId) (M : jM) (L : jL) (n : Nat) (hn : M 18 1 = nI n) (hn60 : n ≤ 60) (v : Int32) (hT : x_okT (M 19) n)  : jK l D a g yX5_follow cX5_follow 5 none 5 117 [.ref (a 20), .ref (a 18), .ref (a 1), .int v] M L none (x_follow M n v) L := by
  refine jMeth (by decide) (Nat.le_of_ble_eq_true rfl) ?_
  intro G hX hZ
  refine J_cg (loc' := [(0, .ref (a 20)), (1, .ref (a 18)), (2, .ref (a 1)), (3, .int v)]) rfl rfl rfl rfl ?_
  refine J_aload_n hX 0 dX5_follow_0 rfl ?_
  refine J_getr hX 20 0 dX5_follow_1 jc_20 rfl rfl (by decide) inlX5 wm_3_18 ?_
  refine J_aload_n hX 2 dX5_follow_4 rfl ?_
  refine J_callV hX 21 [.ref (a 1)] [] dX5_follow_5 (c_X2_copyFrom l D a g M L 21 jRl_21 1 jRl_1) lk_X5_18 jc_21 rfl rfl rfl (Nat.le_of_ble_eq_true rfl) (Nat.le_of_ble_eq_true rfl) (Nat.le_of_ble_eq_true rfl) (J_eq (st := []) rfl ?_)
  refine J_aload_n hX 0 dX5_follow_8 rfl ?_
  refine J_iconst (v := 0) hX dX5_follow_9 (by decide) ?_
  refine J_puti (ty := .int) hX 20 2 dX5_follow_10 jc_20 rfl rfl (by decide) inlX5 wm_12_7 tyX5 tyX5_ok nmX5 rfl (by decide +kernel) rfl rfl ?_
  refine J_aload_n hX 0 dX5_follow_13 rfl ?_
  refine J_iconst (v := 0) hX dX5_follow_14 (by decide) ?_
  refine J_puti (ty := .int) hX 20 3 dX5_follow_15 jc_20 rfl rfl (by decide) inlX5 wm_12_8 tyX5 tyX5_ok nmX5 rfl (by decide +kernel) rfl rfl ?_
  refine J_aload_n hX 0 dX5_follow_18 rfl ?_
  refine J_bipush (v := (-6)) hX dX5_follow_19 (by decide) ?_
  refine J_puti (ty := .int) hX 20 4 dX5_follow_21 jc_20 rfl rfl (by decide) inlX5 wm_12_9 tyX5 tyX5_ok nmX5 rfl (by decide +kernel) rfl rfl ?_
  refine J_iconst (v := 0) hX dX5_follow_24 (by decide) ?_
  refine J_istore (loc' := [(4, .int 0), (0, .ref (a 20)), (1, .ref (a 18)), (2, .ref (a 1)), (3, .int v)]) hX dX5_follow_25 (by decide) rfl ?_
  refine J_aload_n hX 1 dX5_follow_27 rfl ?_
  refine J_iconst (v := 0) hX dX5_follow_28 (by decide) ?_
  refine J_puti (ty := .int) hX 20 1 dX5_follow_29 jc_20 rfl rfl (by decide) inlX5 wm_12_10 tyX5 tyX5_ok nmX5 rfl (by decide +kernel) rfl rfl ?_
  have key32 : ∀ (fu32 : Nat) (p : Nat) (k : Nat) (fu : Nat) (M' : jM), n - p < fu32 → p ≤ n → k ≤ p → x_scan (M 19) p = 0 → M' 18 = M 18 → M' 19 = M 19 → M' 20 1 = nI k → n - p ≤ fu → x_follow M n v = x_fol n v fu p M' → J l D a g G 5 M' L 32 [(0, .ref (a 20)), (1, .ref (a 18)), (2, .ref (a 1)), (3, .int v), (4, .int (nI p))] [] := by
    intro fu32
    induction fu32 with
    | zero => intro p k fu M' hmu; exact absurd hmu (Nat.not_lt_zero _)
    | succ fu32 ih32 =>
      intro p k fu M' hmu32 hp hk hs e18 e19 hc hf hF
      refine J_aload_n hX 0 dX5_follow_32 rfl ?_
      refine J_geti hX 20 1 dX5_follow_33 jc_20 rfl rfl (by decide) inlX5 wm_12_10 ?_
      refine J_topi (y := nI k) hc ?_
      refine J_bipush (v := 60) hX dX5_follow_36 (by decide) ?_
      refine J_cmpN_ge hX 124 k 60 dX5_follow_38 (by decide) rfl rfl (by omega) (by omega) (fun h38 => ?_) (fun h38 => ?_)
      · skip
        exact J_vret hX hZ dX5_follow_124 ⟨rfl, by rw [hF, x_fol_end (by omega)], rfl⟩
      · skip
        refine J_iload hX 4 dX5_follow_41 rfl ?_
        refine J_aload_n hX 1 dX5_follow_43 rfl ?_
        refine J_geti hX 18 1 dX5_follow_44 jc_18 rfl rfl (by decide) inlX1 wm_12_11 ?_
        refine J_topi (y := nI n) (by rw [e18]; exact hn) ?_
        refine J_cmpN_ge hX 124 p n dX5_follow_47 (by decide) rfl rfl (by omega) (by omega) (fun h47 => ?_) (fun h47 => ?_)
        · skip
          exact J_vret hX hZ dX5_follow_124 ⟨rfl, by rw [hF, x_fol_end (by omega)], rfl⟩
        · skip
          have ok := x_okAct (M := M') (n := n) (p := p) (by rw [e19]; exact hT) (by rw [e19]; exact hs) h47
          refine J_aload_n hX 0 dX5_follow_50 rfl ?_
          refine J_aload_n hX 1 dX5_follow_51 rfl ?_
          refine J_iload hX 4 dX5_follow_52 rfl ?_
          refine J_callV hX 20 [.ref (a 18), .int (nI p)] [] dX5_follow_54 (c_X5_read l D a g M' L n (by rw [e18]; exact hn) hn60 p (by omega)) lk_X5_40 jc_20 rfl rfl rfl (Nat.le_of_ble_eq_true rfl) (Nat.le_of_ble_eq_true rfl) (Nat.le_of_ble_eq_true rfl) (J_eq (st := []) rfl ?_)
          refine J_aload_n hX 0 dX5_follow_57 rfl ?_
          refine J_aload_n hX 0 dX5_follow_58 rfl ?_
          refine J_getr hX 20 0 dX5_follow_59 jc_20 rfl rfl (by decide) inlX5 wm_3_18 ?_
          refine J_aload_n hX 0 dX5_follow_62 rfl ?_
          refine J_geti hX 20 5 dX5_follow_63 jc_20 rfl rfl (by decide) inlX5 wm_12_12 ?_
          refine J_topi (y := x_k M' n p) (by unfold x_read; rw [jU_slot (by decide), jU_slot (by decide), jU_slot (by decide), jU_same]) ?_
          refine J_aload_n hX 0 dX5_follow_66 rfl ?_
          refine J_geti hX 20 6 dX5_follow_67 jc_20 rfl rfl (by decide) inlX5 wm_12_13 ?_
          refine J_topi (y := nI (x_w M' n p)) (by unfold x_read; rw [jU_slot (by decide), jU_same]; exact ok.1.2) ?_
          refine J_aload_n hX 0 dX5_follow_70 rfl ?_
          refine J_geti hX 20 7 dX5_follow_71 jc_20 rfl rfl (by decide) inlX5 wm_12_14 ?_
          refine J_topi (y := x_num M' n p) jU_same ?_
          refine J_callV hX 21 [.int (x_k M' n p), .int (nI (x_w M' n p)), .int (x_num M' n p)] [.ref (a 20)] dX5_follow_74 (c_X2_act l D a g (x_read M' n p) L 21 jRl_21 (x_k M' n p) (x_w M' n p) ok.1.1 (x_num M' n p) ok.2.1 ok.2.2.1) lk_X5_53 jc_21 rfl rfl rfl (Nat.le_of_ble_eq_true rfl) (Nat.le_of_ble_eq_true rfl) (Nat.le_of_ble_eq_true rfl) (J_eq (st := [.int ((x_act (x_read M' n p) 21 (x_k M' n p) (x_w M' n p) (x_num M' n p)).1), .ref (a 20)]) rfl ?_)
          refine J_topi (y := (x_stepA M' n p).1) rfl ?_
          refine J_cg (M' := (x_stepA M' n p).2) rfl rfl rfl rfl ?_
          refine J_puti (ty := .int) hX 20 2 dX5_follow_77 jc_20 rfl rfl (by decide) inlX5 wm_12_7 tyX5 tyX5_ok nmX5 rfl (by decide +kernel) rfl rfl ?_
          refine J_aload_n hX 0 dX5_follow_80 rfl ?_
          refine J_geti hX 20 2 dX5_follow_81 jc_20 rfl rfl (by decide) inlX5 wm_12_7 ?_
          refine J_topi (y := (x_stepA M' n p).1) jU_same ?_
          refine J_if_eq hX 88 dX5_follow_84 (by decide) (fun h84 => ?_) (fun h84 => ?_)
          · skip
            refine J_aload_n hX 0 dX5_follow_88 rfl ?_
            refine J_geti hX 20 5 dX5_follow_89 jc_20 rfl rfl (by decide) inlX5 wm_12_12 ?_
            refine J_topi (y := x_k M' n p) (by rw [jU_slot (by decide), x_stepA_20 ok.1.1]; unfold x_read; rw [jU_slot (by decide), jU_slot (by decide), jU_slot (by decide), jU_same]) ?_
            refine J_bipush (v := 7) hX dX5_follow_92 (by decide) ?_
            refine J_icmp_ne hX 102 dX5_follow_94 (by decide) (fun h94 => ?_) (fun h94 => ?_)
            · skip
              refine J_cg (M' := x_end (jU (x_stepA M' n p).2 20 2 (x_stepA M' n p).1) v (x_k M' n p)) (by simp [x_end, h94]) rfl rfl rfl ?_
              refine J_iload hX 4 dX5_follow_102 rfl ?_
              refine J_aload_n hX 0 dX5_follow_104 rfl ?_
              refine J_geti hX 20 8 dX5_follow_105 jc_20 rfl rfl (by decide) inlX5 wm_12_15 ?_
              refine J_topi (y := nI (x_len M' n p)) (by rw [x_end_slot (by decide) (by decide), jU_slot (by decide), x_stepA_20 ok.1.1]; unfold x_read; rw [jU_slot (by decide), jU_slot (by decide), jU_same]) ?_
              refine J_iadd hX dX5_follow_108 ?_
              refine J_topi (y := nI (p + x_len M' n p)) (nI_add _ _) ?_
              refine J_istore (loc' := [(4, .int (nI (p + x_len M' n p))), (0, .ref (a 20)), (1, .ref (a 18)), (2, .ref (a 1)), (3, .int v)]) hX dX5_follow_109 (by decide) rfl ?_
              refine J_aload_n hX 1 dX5_follow_111 rfl ?_
              refine J_dup hX dX5_follow_112 rfl ?_
              refine J_geti hX 20 1 dX5_follow_113 jc_20 rfl rfl (by decide) inlX5 wm_12_10 ?_
              refine J_iconst (v := 1) hX dX5_follow_116 (by decide) ?_
              refine J_iadd hX dX5_follow_117 ?_
              refine J_puti (ty := .int) hX 20 1 dX5_follow_118 jc_20 rfl rfl (by decide) inlX5 wm_12_10 tyX5 tyX5_ok nmX5 rfl (by decide +kernel) rfl rfl ?_
              refine J_goto hX 32 dX5_follow_121 (by decide) ?_
              refine J_sub (loc' := [(0, .ref (a 20)), (1, .ref (a 18)), (2, .ref (a 1)), (3, .int v), (4, .int (nI (p + x_len M' n p)))]) [1, 2, 3, 4, 0] rfl ?_
              refine J_cg (M' := (x_stepM M' n p v)) (L' := L) rfl rfl rfl rfl ?_
              exact ih32  (p + x_len M' n p) (k + 1) (fu - 1) (x_stepM M' n p v) (by have := ok.2.2.2.1; have := ok.2.2.2.2.1; omega) ok.2.2.2.2.1 (by have := ok.2.2.2.1; omega) (by rw [← e19]; exact ok.2.2.2.2.2) (by rw [x_stepM_ne ok.1.1 (by omega)]; exact e18) (by rw [x_stepM_ne ok.1.1 (by omega)]; exact e19) (x_stepM_cnt ok.1.1 hc) (by have := ok.2.2.2.1; omega) (hF.trans (x_fol_go h47 hf h84))
            · skip
              refine J_aload_n hX 0 dX5_follow_97 rfl ?_
              refine J_iload_n hX 3 dX5_follow_98 rfl ?_
              refine J_callV hX 20 [.int v] [] dX5_follow_99 (c_X5_endMonth l D a g (jU ((x_stepA M' n p).2) 20 2 ((x_stepA M' n p).1)) L v) lk_X5_57 jc_20 rfl rfl rfl (Nat.le_of_ble_eq_true rfl) (Nat.le_of_ble_eq_true rfl) (Nat.le_of_ble_eq_true rfl) (J_eq (st := []) rfl ?_)
              refine J_cg (M' := x_end (jU (x_stepA M' n p).2 20 2 (x_stepA M' n p).1) v (x_k M' n p)) (by simp [x_end, h94]) rfl rfl rfl ?_
              refine J_iload hX 4 dX5_follow_102 rfl ?_
              refine J_aload_n hX 0 dX5_follow_104 rfl ?_
              refine J_geti hX 20 8 dX5_follow_105 jc_20 rfl rfl (by decide) inlX5 wm_12_15 ?_
              refine J_topi (y := nI (x_len M' n p)) (by rw [x_end_slot (by decide) (by decide), jU_slot (by decide), x_stepA_20 ok.1.1]; unfold x_read; rw [jU_slot (by decide), jU_slot (by decide), jU_same]) ?_
              refine J_iadd hX dX5_follow_108 ?_
              refine J_topi (y := nI (p + x_len M' n p)) (nI_add _ _) ?_
              refine J_istore (loc' := [(4, .int (nI (p + x_len M' n p))), (0, .ref (a 20)), (1, .ref (a 18)), (2, .ref (a 1)), (3, .int v)]) hX dX5_follow_109 (by decide) rfl ?_
              refine J_aload_n hX 1 dX5_follow_111 rfl ?_
              refine J_dup hX dX5_follow_112 rfl ?_
              refine J_geti hX 20 1 dX5_follow_113 jc_20 rfl rfl (by decide) inlX5 wm_12_10 ?_
              refine J_iconst (v := 1) hX dX5_follow_116 (by decide) ?_
              refine J_iadd hX dX5_follow_117 ?_
              refine J_puti (ty := .int) hX 20 1 dX5_follow_118 jc_20 rfl rfl (by decide) inlX5 wm_12_10 tyX5 tyX5_ok nmX5 rfl (by decide +kernel) rfl rfl ?_
              refine J_goto hX 32 dX5_follow_121 (by decide) ?_
              refine J_sub (loc' := [(0, .ref (a 20)), (1, .ref (a 18)), (2, .ref (a 1)), (3, .int v), (4, .int (nI (p + x_len M' n p)))]) [1, 2, 3, 4, 0] rfl ?_
              refine J_cg (M' := (x_stepM M' n p v)) (L' := L) rfl rfl rfl rfl ?_
              exact ih32  (p + x_len M' n p) (k + 1) (fu - 1) (x_stepM M' n p v) (by have := ok.2.2.2.1; have := ok.2.2.2.2.1; omega) ok.2.2.2.2.1 (by have := ok.2.2.2.1; omega) (by rw [← e19]; exact ok.2.2.2.2.2) (by rw [x_stepM_ne ok.1.1 (by omega)]; exact e18) (by rw [x_stepM_ne ok.1.1 (by omega)]; exact e19) (x_stepM_cnt ok.1.1 hc) (by have := ok.2.2.2.1; omega) (hF.trans (x_fol_go h47 hf h84))
          · skip
            exact J_vret hX hZ dX5_follow_87 ⟨rfl, by rw [hF, x_fol_bad h47 hf h84], rfl⟩
  refine J_sub (loc' := [(0, .ref (a 20)), (1, .ref (a 18)), (2, .ref (a 1)), (3, .int v), (4, .int 0)]) [1, 2, 3, 4, 0] rfl ?_
  refine J_seti (y := nI 0) (loc' := [(0, .ref (a 20)), (1, .ref (a 18)), (2, .ref (a 1)), (3, .int v), (4, .int (nI 0))]) 4 rfl rfl rfl ?_
  refine J_cg (M' := (jU (jU (jU (jU (x_copy M 1 21) 20 2 0) 20 3 0) 20 4 (-6)) 20 1 0)) (L' := L) rfl rfl rfl rfl ?_
  exact key32 _ 0 0 60 (jU (jU (jU (jU (x_copy M 1 21) 20 2 0) 20 3 0) 20 4 (-6)) 20 1 0) (Nat.lt_succ_self _) (Nat.zero_le n) (Nat.le_refl 0) rfl (by rw [jU_ne (by decide), jU_ne (by decide), jU_ne (by decide), jU_ne (by decide), x_copy_ne (by decide)]) (by rw [jU_ne (by decide), jU_ne (by decide), jU_ne (by decide), jU_ne (by decide), x_copy_ne (by decide)]) jU_same (by omega) rfl
def x_tryR (M : jM) (n : Nat) (v : Int32) : Int32 := if x_fault (M 19) n = -6 then (if x_follow M n v 20 2 = 0 then 0 else -3) else -5
def x_tryM (M : jM) (n : Nat) (v : Int32) : jM := if x_fault (M 19) n = -6 then x_follow M n v else M
set_option maxHeartbeats 4000000 in
set_option maxRecDepth 10000 in
theorem c_X7_tryMonths (l : Launch) (D : va_G) (a : Nat → Nat) (g : Nat → ClassId) (M : jM) (L : jL) (n : Nat) (hn : M 18 1 = nI n) (hn60 : n ≤ 60) (v : Int32)  : jK l D a g yX7_tryMonths cX7_tryMonths 2 (some .int) 6 141 [.ref (a 0), .int v] M L (some (.int (x_tryR M n v))) (x_tryM M n v) L := by
  refine jMeth (by decide) (Nat.le_of_ble_eq_true rfl) ?_
  intro G hX hZ
  refine J_cg (loc' := [(0, .ref (a 0)), (1, .int v)]) rfl rfl rfl rfl ?_
  refine J_aload_n hX 0 dX7_tryMonths_0 rfl ?_
  refine J_getr hX 0 2 dX7_tryMonths_1 jc_0 rfl rfl (by decide) inlX7 wm_1_23 ?_
  refine J_callV hX 18 [] [] dX7_tryMonths_4 (c_X1_faultPlace l D a g M L n hn hn60) lk_X7_98 jc_18 rfl rfl rfl (Nat.le_of_ble_eq_true rfl) (Nat.le_of_ble_eq_true rfl) (Nat.le_of_ble_eq_true rfl) (J_eq (st := [.int (x_fault (M 19) n)]) rfl ?_)
  refine J_bipush (v := (-6)) hX dX7_tryMonths_7 (by decide) ?_
  refine J_icmp_eq hX 15 dX7_tryMonths_9 (by decide) (fun h9 => ?_) (fun h9 => ?_)
  · skip
    refine J_aload_n hX 0 dX7_tryMonths_15 rfl ?_
    refine J_getr hX 0 3 dX7_tryMonths_16 jc_0 rfl rfl (by decide) inlX7 wm_2_3 ?_
    refine J_aload_n hX 0 dX7_tryMonths_19 rfl ?_
    refine J_getr hX 0 2 dX7_tryMonths_20 jc_0 rfl rfl (by decide) inlX7 wm_1_23 ?_
    refine J_aload_n hX 0 dX7_tryMonths_23 rfl ?_
    refine J_getr hX 0 0 dX7_tryMonths_24 jc_0 rfl rfl (by decide) inlX7 wm_1_15 ?_
    refine J_iload_n hX 1 dX7_tryMonths_27 rfl ?_
    refine J_callV hX 20 [.ref (a 18), .ref (a 1), .int v] [] dX7_tryMonths_28 (c_X5_follow l D a g M L n hn hn60 v (x_fault_ok hn60 h9)) lk_X7_153 jc_20 rfl rfl rfl (Nat.le_of_ble_eq_true rfl) (Nat.le_of_ble_eq_true rfl) (Nat.le_of_ble_eq_true rfl) (J_eq (st := []) rfl ?_)
    refine J_aload_n hX 0 dX7_tryMonths_31 rfl ?_
    refine J_getr hX 0 3 dX7_tryMonths_32 jc_0 rfl rfl (by decide) inlX7 wm_2_3 ?_
    refine J_geti hX 20 2 dX7_tryMonths_35 jc_20 rfl rfl (by decide) inlX5 wm_11_21 ?_
    refine J_if_ne hX 45 dX7_tryMonths_38 (by decide) (fun h38 => ?_) (fun h38 => ?_)
    · skip
      refine J_bipush (v := (-3)) hX dX7_tryMonths_45 (by decide) ?_
      exact J_ret hX hZ dX7_tryMonths_47 rfl rfl ⟨by simp [x_tryR, h9, h38], by simp [x_tryM, h9], rfl⟩
    · skip
      refine J_iconst (v := 0) hX dX7_tryMonths_41 (by decide) ?_
      refine J_goto hX 47 dX7_tryMonths_42 (by decide) ?_
      exact J_ret hX hZ dX7_tryMonths_47 rfl rfl ⟨by simp [x_tryR, h9, h38], by simp [x_tryM, h9], rfl⟩
  · skip
    refine J_bipush (v := (-5)) hX dX7_tryMonths_12 (by decide) ?_
    exact J_ret hX hZ dX7_tryMonths_14 rfl rfl ⟨by simp [x_tryR, h9], by simp [x_tryM, h9], rfl⟩
