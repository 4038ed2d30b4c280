theorem m_close_ne {M : jM} {k c : Nat} {w z : Int32} (h : c ≠ 77 ∧ c ≠ 87 ∧ c ≠ 89) : m_close M k w z c = M c := by
  unfold m_close; rw [jU_ne h.1, jU_ne h.2.2, jU_ne h.2.1]
theorem m_close_slot {M : jM} {k i : Nat} {w z : Int32} (h : i ≠ 18) : m_close M k w z 77 i = M 77 i := by
  unfold m_close; rw [jU_slot h, jU_cell (by decide), jU_cell (by decide)]
theorem m_close_18 {M : jM} {k : Nat} {w z : Int32} : m_close M k w z 77 18 = nI (k + 1) := by
  unfold m_close; rw [jU_same]
/-- what reading a sign leaves: only act, who, much, and how many there are -/
theorem m_readOn_ne {M : jM} {k c : Nat} {d s : Int32} (h : c ≠ 77 ∧ c ≠ 87 ∧ c ≠ 88 ∧ c ≠ 89) : (m_readOn M k d s).2 c = M c := by
  have h3 : c ≠ 77 ∧ c ≠ 87 ∧ c ≠ 89 := ⟨h.1, h.2.1, h.2.2.2⟩
  unfold m_readOn m_begin m_number m_forWhom
  repeat' split
  all_goals simp only [m_close_ne h3, jU_ne h.2.2.1]
theorem m_readOn_slot {M : jM} {k i : Nat} {d s : Int32} (h : i ≠ 18) : (m_readOn M k d s).2 77 i = M 77 i := by
  unfold m_readOn m_begin m_number m_forWhom
  repeat' split
  all_goals first | rfl | (show m_close _ _ _ _ 77 i = _; rw [m_close_slot h]; done) | (show m_close _ _ _ _ 77 i = _; rw [m_close_slot h, jU_cell (by decide)]) | (show jU _ _ _ _ 77 i = _; rw [jU_cell (by decide)])
theorem m_readOn_18 {M : jM} {k : Nat} {d s : Int32} (hk : M 77 18 = nI k) : (m_readOn M k d s).2 77 18 = nI k ∨ (m_readOn M k d s).2 77 18 = nI (k + 1) := by
  unfold m_readOn m_begin m_number m_forWhom
  repeat' split
  all_goals first | (right; simp only [m_close_18]; done) | (left; exact hk) | (left; show jU _ _ _ _ _ _ = _; rw [jU_cell (by decide)]; exact hk)
def m_kOf (M : jM) : Nat := (M 77 18).toNatClampNeg
/-- behind i signs: what must come, and what was read -/
def m_scan (M : jM) : Nat → Int32 × jM
  | 0 => (0, jU M 77 18 0)
  | i + 1 => m_readOn (m_scan M i).2 (m_kOf (m_scan M i).2) (m_scan M i).1 (M 86 i)
theorem m_scan_k (M : jM) : ∀ i, i ≤ 60 → (m_scan M i).2 77 18 = nI (m_kOf (m_scan M i).2) ∧ m_kOf (m_scan M i).2 ≤ i := by
  intro i
  induction i with
  | zero => intro _; exact ⟨by show jU M 77 18 0 77 18 = nI (jU M 77 18 0 77 18).toNatClampNeg; rw [jU_same]; rfl, by show (jU M 77 18 0 77 18).toNatClampNeg ≤ 0; rw [jU_same]; decide⟩
  | succ i ih =>
    intro hi
    obtain ⟨e, l⟩ := ih (by omega)
    have q := m_readOn_18 (d := (m_scan M i).1) (s := M 86 i) e
    have key : ∀ j, j ≤ i + 1 → (m_scan M (i + 1)).2 77 18 = nI j → (m_scan M (i + 1)).2 77 18 = nI (m_kOf (m_scan M (i + 1)).2) ∧ m_kOf (m_scan M (i + 1)).2 ≤ i + 1 := by
      intro j hj ej
      have : m_kOf (m_scan M (i + 1)).2 = j := by unfold m_kOf; rw [ej, nI_clamp (by omega)]
      rw [this]
      exact ⟨ej, hj⟩
    rcases q with q | q
    · exact key _ (by omega) q
    · exact key _ (by omega) q
theorem m_scan_ne {M : jM} {c : Nat} (h : c ≠ 77 ∧ c ≠ 87 ∧ c ≠ 88 ∧ c ≠ 89) (i : Nat) : (m_scan M i).2 c = M c := by
  induction i with
  | zero => show jU M 77 18 0 c = M c; rw [jU_ne h.1]
  | succ i ih => rw [m_scan, m_readOn_ne h, ih]
theorem m_scan_slot {M : jM} {j : Nat} (h : j ≠ 18) (i : Nat) : (m_scan M i).2 77 j = M 77 j := by
  induction i with
  | zero => show jU M 77 18 0 77 j = M 77 j; rw [jU_slot h]
  | succ i ih => rw [m_scan, m_readOn_slot h, ih]
def m_fp (M : jM) (n : Nat) : Nat → Nat → Int32 × jM
  | 0, i => (if (m_scan M i).1 = 0 then -6 else nI n, (m_scan M i).2)
  | r + 1, i => if 0 ≤ (m_scan M (i + 1)).1 then m_fp M n r (i + 1) else (nI i, (m_scan M (i + 1)).2)
def m_fault (M : jM) (n : Nat) : Int32 × jM := m_fp M n n 0
theorem m_fp_go {M : jM} {n i : Nat} (h : i < n) (h0 : 0 ≤ (m_scan M (i + 1)).1) : m_fp M n (n - i) i = m_fp M n (n - (i + 1)) (i + 1) := by
  rw [show n - i = (n - (i + 1)) + 1 by omega, m_fp, if_pos h0]
theorem m_fp_at {M : jM} {n i : Nat} (h : i < n) (h0 : ¬ 0 ≤ (m_scan M (i + 1)).1) : m_fp M n (n - i) i = (nI i, (m_scan M (i + 1)).2) := by
  rw [show n - i = (n - (i + 1)) + 1 by omega, m_fp, if_neg h0]
theorem m_fp_end {M : jM} {n i : Nat} (h : i = n) : m_fp M n (n - i) i = (if (m_scan M n).1 = 0 then -6 else nI n, (m_scan M n).2) := by
  subst h
  rw [Nat.sub_self, m_fp]
set_option maxHeartbeats 4000000 in
set_option maxRecDepth 10000 in
theorem c_X8_fault (l : Launch) (D : va_G) (a : Nat → Nat) (g : Nat → ClassId) (M : jM) (L : jL) (n : Nat) (hn : M 77 14 = nI n) (hn60 : n ≤ 60)  : jK l D a g yX8_fault cX8_fault 3 (some .int) 4 88 [.ref (a 77)] M L (some (.int ((m_fault M n).1))) ((m_fault M n).2) L := by
  refine jMeth (by decide) (Nat.le_of_ble_eq_true rfl) ?_
  intro G hX hZ
  refine J_cg (loc' := [(0, .ref (a 77))]) rfl rfl rfl rfl ?_
  refine J_aload_n hX 0 dX8_fault_0 rfl ?_
  refine J_iconst (v := 0) hX dX8_fault_1 (by decide) ?_
  refine J_puti (ty := .int) hX 77 18 dX8_fault_2 jc_77 rfl rfl (by decide) inlX8 wm_10_7 tyX8 tyX8_ok nmX8 rfl (by decide +kernel) rfl rfl ?_
  refine J_iconst (v := 0) hX dX8_fault_5 (by decide) ?_
  refine J_istore_n (loc' := [(1, .int 0), (0, .ref (a 77))]) hX dX8_fault_6 (by decide) rfl ?_
  refine J_iconst (v := 0) hX dX8_fault_7 (by decide) ?_
  refine J_istore_n (loc' := [(2, .int 0), (1, .int 0), (0, .ref (a 77))]) hX dX8_fault_8 (by decide) rfl ?_
  have key9 : ∀ (fu9 : Nat) (i : Nat), n - i < fu9 → (i ≤ n) → (m_fault M n = m_fp M n (n - i) i) → J l D a g G 3 ((m_scan M i).2) L 9 [(0, .ref (a 77)), (1, .int ((m_scan M i).1)), (2, .int (nI i))] [] := by
    intro fu9
    induction fu9 with
    | zero => intro i hmu; exact absurd hmu (Nat.not_lt_zero _)
    | succ fu9 ih9 =>
      intro i hmu9 hi he
      have sk := m_scan_k M i (by omega)
      refine J_iload_n hX 2 dX8_fault_9 rfl ?_
      refine J_aload_n hX 0 dX8_fault_10 rfl ?_
      refine J_geti hX 77 14 dX8_fault_11 jc_77 rfl rfl (by decide) inlX8 wm_8_22 ?_
      refine J_topi (y := nI n) (by rw [m_scan_slot (by decide)]; exact hn) ?_
      refine J_cmpN_ge hX 41 i n dX8_fault_14 (by decide) rfl rfl (by omega) (by omega) (fun h14 => ?_) (fun h14 => ?_)
      · skip
        refine J_iload_n hX 1 dX8_fault_41 rfl ?_
        refine J_if_ne hX 50 dX8_fault_42 (by decide) (fun h42 => ?_) (fun h42 => ?_)
        · skip
          refine J_aload_n hX 0 dX8_fault_50 rfl ?_
          refine J_geti hX 77 14 dX8_fault_51 jc_77 rfl rfl (by decide) inlX8 wm_8_22 ?_
          exact J_ret hX hZ dX8_fault_54 rfl rfl ⟨by rw [he, m_fp_end (show i = n by omega), ← show i = n by omega]; (first | rw [if_neg h42] | rw [if_pos h42] | rw [if_pos (Classical.not_not.mp h42)]); rw [m_scan_slot (by decide), hn, show i = n by omega], by rw [he, m_fp_end (show i = n by omega), ← show i = n by omega], rfl⟩
        · skip
          refine J_bipush (v := (-6)) hX dX8_fault_45 (by decide) ?_
          refine J_goto hX 54 dX8_fault_47 (by decide) ?_
          exact J_ret hX hZ dX8_fault_54 rfl rfl ⟨by rw [he, m_fp_end (show i = n by omega), ← show i = n by omega]; (first | rw [if_neg h42] | rw [if_pos h42] | rw [if_pos (Classical.not_not.mp h42)]); skip, by rw [he, m_fp_end (show i = n by omega), ← show i = n by omega], rfl⟩
      · skip
        refine J_aload_n hX 0 dX8_fault_17 rfl ?_
        refine J_iload_n hX 1 dX8_fault_18 rfl ?_
        refine J_aload_n hX 0 dX8_fault_19 rfl ?_
        refine J_getr hX 77 13 dX8_fault_20 jc_77 rfl rfl (by decide) inlX8 wm_5_3 ?_
        refine J_iload_n hX 2 dX8_fault_23 rfl ?_
        refine J_iald hX 86 i dX8_fault_24 jc_86 rfl (by omega) (by omega) ?_
        refine J_topi (y := M 86 i) (by rw [m_scan_ne (by decide)]) ?_
        refine J_callV hX 77 [.int ((m_scan M i).1), .int (M 86 i)] [] dX8_fault_25 (c_X8_readOn l D a g ((m_scan M i).2) L (m_kOf (m_scan M i).2) sk.1 (by omega) ((m_scan M i).1) (M 86 i)) lk_X8_148 jc_77 rfl rfl rfl (Nat.le_of_ble_eq_true rfl) (Nat.le_of_ble_eq_true rfl) (Nat.le_of_ble_eq_true rfl) (J_eq (st := [.int ((m_readOn ((m_scan M i).2) (m_kOf (m_scan M i).2) ((m_scan M i).1) (M 86 i)).1)]) rfl ?_)
        refine J_topi (y := (m_scan M (i + 1)).1) rfl ?_
        refine J_cg (M' := (m_scan M (i + 1)).2) rfl rfl rfl rfl ?_
        refine J_istore_n (loc' := [(1, .int ((m_scan M (i + 1)).1)), (0, .ref (a 77)), (2, .int (nI i))]) hX dX8_fault_28 (by decide) rfl ?_
        refine J_iload_n hX 0 dX8_fault_29 rfl ?_
        refine J_if_ge hX 35 dX8_fault_30 (by decide) (fun h30 => ?_) (fun h30 => ?_)
        · skip
          refine J_iinc (v := nI (i + 1)) (loc' := [(2, .int (nI (i + 1))), (1, .int ((m_scan M (i + 1)).1)), (0, .ref (a 77))]) hX 2 dX8_fault_35 rfl (jinc i) (by decide) rfl ?_
          refine J_goto hX 9 dX8_fault_38 (by decide) ?_
          refine J_sub (loc' := [(0, .ref (a 77)), (1, .int ((m_scan M (i + 1)).1)), (2, .int (nI (i + 1)))]) [2, 1, 0] rfl ?_
          exact ih9  (i + 1) (by omega) (by omega) (he.trans (m_fp_go h14 h30))
        · skip
          refine J_iload_n hX 2 dX8_fault_33 rfl ?_
          exact J_ret hX hZ dX8_fault_34 rfl rfl ⟨by rw [he, m_fp_at h14 h30], by rw [he, m_fp_at h14 h30], rfl⟩
  refine J_sub (loc' := [(0, .ref (a 77)), (1, .int 0), (2, .int 0)]) [2, 1, 0] rfl ?_
  refine J_seti (y := (m_scan M 0).1) (loc' := [(0, .ref (a 77)), (1, .int ((m_scan M 0).1)), (2, .int 0)]) 1 rfl rfl rfl ?_
  refine J_seti (y := nI 0) (loc' := [(0, .ref (a 77)), (1, .int ((m_scan M 0).1)), (2, .int (nI 0))]) 2 rfl rfl rfl ?_
  refine J_cg (M' := (m_scan M 0).2) (L' := L) rfl rfl rfl rfl ?_
  exact key9 _ 0 (Nat.lt_succ_self _) (by omega) rfl
def m_wOf (M : jM) (k : Nat) : Nat := (M 88 k).toNatClampNeg
def m_goW (M : jM) (k : Nat) : Int32 := m_whyNot M (M 87 k) (m_wOf M k) (M 89 k)
def m_goB (M : jM) (k : Nat) : jM := jU (jU M 77 20 (if m_goW M k ≤ 0 then -6 else nI k)) 77 21 (if m_goW M k ≤ 0 then -6 else m_goW M k)
def m_goE (M : jM) (k : Nat) : jM := let M1 := jU M 91 (M 77 22).toNatClampNeg (m_rate M); jU M1 77 22 (M1 77 22 + (if M1 87 k = 6 then 1 else 0))
def m_goS (M : jM) (k : Nat) : jM := if m_goW M k = 0 then m_goE (m_happen (m_goB M k) (M 87 k) (m_wOf M k) (M 89 k)) k else m_goB M k
def m_go (K : Nat) : Nat → Nat → jM → jM
  | 0, _, M => M
  | f + 1, k, M => if k < K then (if 0 ≤ M 77 20 then M else m_go K f (k + 1) (m_goS M k)) else M
def m_goMonths (M : jM) (K : Nat) : jM := m_go K 61 0 (jU (jU (jU M 77 20 (-6)) 77 21 (-6)) 77 22 0)
/-- the ACTS that were read name a ONE, a LOT that there is -/
def m_ok (M : jM) (K : Nat) : Prop := ∀ k, k < K → x_lt (M 88 k) 6 ∧ (M 87 k = 2 → x_lt (M 89 k) 8) ∧ (M 87 k = 4 → x_lt (M 89 k) 6)
theorem m_happen_ne {M : jM} {w v : Int32} {k c : Nat} (h : 83 ≤ c) : m_happen M w k v c = M c := by
  unfold m_happen m_buyM m_swap m_payM
  repeat' split
  all_goals (funext i; repeat rw [jU_cell (by omega)])
theorem m_happen_slot {M : jM} {w v : Int32} {k i : Nat} (h : 9 ≤ i) : m_happen M w k v 77 i = M 77 i := by
  unfold m_happen m_buyM m_swap m_payM
  repeat' split
  all_goals ((try simp only); repeat (first | rw [jU_cell (by decide)] | rw [jU_slot (by omega)]))
theorem m_goB_ne {M : jM} {k c : Nat} (h : c ≠ 77) : m_goB M k c = M c := by unfold m_goB; rw [jU_ne h, jU_ne h]
theorem m_goB_slot {M : jM} {k i : Nat} (h : i ≠ 20 ∧ i ≠ 21) : m_goB M k 77 i = M 77 i := by unfold m_goB; rw [jU_slot h.2, jU_slot h.1]
theorem m_goE_ne {M : jM} {k c : Nat} (h : c ≠ 77 ∧ c ≠ 91) : m_goE M k c = M c := by unfold m_goE; show jU _ _ _ _ c = _; rw [jU_ne h.1, jU_ne h.2]
theorem m_goE_slot {M : jM} {k i : Nat} (h : i ≠ 22) : m_goE M k 77 i = M 77 i := by unfold m_goE; show jU _ _ _ _ 77 i = _; rw [jU_slot h, jU_cell (by decide)]
theorem m_goE_22 {M : jM} {k : Nat} : m_goE M k 77 22 = M 77 22 + (if M 87 k = 6 then 1 else 0) := by
  unfold m_goE; show jU _ _ _ _ 77 22 = _; rw [jU_same, jU_cell (by decide), jU_ne (k' := 87) (by decide)]
theorem m_goS_ne {M : jM} {k c : Nat} (h : 83 ≤ c ∧ c ≠ 91) : m_goS M k c = M c := by
  unfold m_goS; split
  · rw [m_goE_ne ⟨by omega, h.2⟩, m_happen_ne h.1, m_goB_ne (by omega)]
  · rw [m_goB_ne (by omega)]
theorem m_goS_slot {M : jM} {k i : Nat} (h : 9 ≤ i ∧ i ≠ 20 ∧ i ≠ 21 ∧ i ≠ 22) : m_goS M k 77 i = M 77 i := by
  unfold m_goS; split
  · rw [m_goE_slot h.2.2.2, m_happen_slot h.1, m_goB_slot ⟨h.2.1, h.2.2.1⟩]
  · rw [m_goB_slot ⟨h.2.1, h.2.2.1⟩]
theorem m_goS_22 {M : jM} {k e : Nat} (h : M 77 22 = nI e) : m_goS M k 77 22 = nI e ∨ m_goS M k 77 22 = nI (e + 1) := by
  unfold m_goS; split
  · rw [m_goE_22, m_happen_slot (by decide), m_goB_slot (by decide), h]
    split
    · right; exact nI_1 e
    · left; exact Int32.add_zero _
  · left; rw [m_goB_slot (by decide), h]
theorem m_go_s {K f k : Nat} {M : jM} (hk : k < K) (hf : K - k ≤ f) (h : ¬ 0 ≤ M 77 20) : m_go K f k M = m_go K (f - 1) (k + 1) (m_goS M k) := by
  cases f with
  | zero => omega
  | succ f => rw [m_go, if_pos hk, if_neg h]; rfl
theorem m_go_bad {K f k : Nat} {M : jM} (hf : K - k ≤ f) (h : 0 ≤ M 77 20) : m_go K f k M = M := by
  cases f with
  | zero => rfl
  | succ f => rw [m_go]; by_cases q : k < K; (rw [if_pos q, if_pos h]); (rw [if_neg q])
theorem m_go_end {K f k : Nat} {M : jM} (h : ¬ k < K) : m_go K f k M = M := by
  cases f with
  | zero => rfl
  | succ f => rw [m_go, if_neg h]
set_option maxHeartbeats 4000000 in
set_option maxRecDepth 10000 in
theorem c_X8_goMonths (l : Launch) (D : va_G) (a : Nat → Nat) (g : Nat → ClassId) (M : jM) (L : jL) (K : Nat) (hK : M 77 18 = nI K) (hK60 : K ≤ 60) (hW : m_ok M K)  : jK l D a g yX8_goMonths cX8_goMonths 3 none 5 110 [.ref (a 77)] M L none (m_goMonths M K) L := by
  refine jMeth (by decide) (Nat.le_of_ble_eq_true rfl) ?_
  intro G hX hZ
  refine J_cg (loc' := [(0, .ref (a 77))]) rfl rfl rfl rfl ?_
  refine J_aload_n hX 0 dX8_goMonths_0 rfl ?_
  refine J_bipush (v := (-6)) hX dX8_goMonths_1 (by decide) ?_
  refine J_puti (ty := .int) hX 77 20 dX8_goMonths_3 jc_77 rfl rfl (by decide) inlX8 wm_16_8 tyX8 tyX8_ok nmX8 rfl (by decide +kernel) rfl rfl ?_
  refine J_aload_n hX 0 dX8_goMonths_6 rfl ?_
  refine J_bipush (v := (-6)) hX dX8_goMonths_7 (by decide) ?_
  refine J_puti (ty := .int) hX 77 21 dX8_goMonths_9 jc_77 rfl rfl (by decide) inlX8 wm_16_9 tyX8 tyX8_ok nmX8 rfl (by decide +kernel) rfl rfl ?_
  refine J_aload_n hX 0 dX8_goMonths_12 rfl ?_
  refine J_iconst (v := 0) hX dX8_goMonths_13 (by decide) ?_
  refine J_puti (ty := .int) hX 77 22 dX8_goMonths_14 jc_77 rfl rfl (by decide) inlX8 wm_16_10 tyX8 tyX8_ok nmX8 rfl (by decide +kernel) rfl rfl ?_
  refine J_iconst (v := 0) hX dX8_goMonths_17 (by decide) ?_
  refine J_istore_n (loc' := [(1, .int 0), (0, .ref (a 77))]) hX dX8_goMonths_18 (by decide) rfl ?_
  have key19 : ∀ (fu19 : Nat) (k : Nat) (e : Nat) (fu : Nat) (M' : jM), K - k < fu19 → (k ≤ K) → (e ≤ k) → (K - k ≤ fu) → (M' 87 = M 87) → (M' 88 = M 88) → (M' 89 = M 89) → (M' 77 18 = nI K) → (M' 77 22 = nI e) → (m_goMonths M K = m_go K fu k M') → J l D a g G 3 M' L 19 [(0, .ref (a 77)), (1, .int (nI k))] [] := by
    intro fu19
    induction fu19 with
    | zero => intro k e fu M' hmu; exact absurd hmu (Nat.not_lt_zero _)
    | succ fu19 ih19 =>
      intro k e fu M' hmu19 hk el hf e87 e88 e89 e18 e22 hF
      refine J_iload_n hX 1 dX8_goMonths_19 rfl ?_
      refine J_aload_n hX 0 dX8_goMonths_20 rfl ?_
      refine J_geti hX 77 18 dX8_goMonths_21 jc_77 rfl rfl (by decide) inlX8 wm_10_7 ?_
      refine J_topi (y := nI K) e18 ?_
      refine J_cmpN_ge hX 155 k K dX8_goMonths_24 (by decide) rfl rfl (by omega) (by omega) (fun h24 => ?_) (fun h24 => ?_)
      · skip
        exact J_vret hX hZ dX8_goMonths_155 ⟨rfl, by rw [hF]; first | rw [m_go_bad hf h31] | rw [m_go_end (by omega)], rfl⟩
      · skip
        refine J_aload_n hX 0 dX8_goMonths_27 rfl ?_
        refine J_geti hX 77 20 dX8_goMonths_28 jc_77 rfl rfl (by decide) inlX8 wm_16_8 ?_
        refine J_if_ge hX 155 dX8_goMonths_31 (by decide) (fun h31 => ?_) (fun h31 => ?_)
        · skip
          exact J_vret hX hZ dX8_goMonths_155 ⟨rfl, by rw [hF]; first | rw [m_go_bad hf h31] | rw [m_go_end (by omega)], rfl⟩
        · skip
          have okk := hW k h24
          have s22 := m_goS_22 (k := k) e22
          have ow : M' 88 k = nI (m_wOf M' k) := by unfold m_wOf; rw [e88]; exact okk.1.2
          have olt : m_wOf M' k < 6 := by unfold m_wOf; rw [e88]; exact okk.1.1
          refine J_aload_n hX 0 dX8_goMonths_34 rfl ?_
          refine J_aload_n hX 0 dX8_goMonths_35 rfl ?_
          refine J_getr hX 77 15 dX8_goMonths_36 jc_77 rfl rfl (by decide) inlX8 wm_5_4 ?_
          refine J_iload_n hX 1 dX8_goMonths_39 rfl ?_
          refine J_iald hX 87 k dX8_goMonths_40 jc_87 rfl (by omega) (by omega) ?_
          refine J_aload_n hX 0 dX8_goMonths_41 rfl ?_
          refine J_getr hX 77 16 dX8_goMonths_42 jc_77 rfl rfl (by decide) inlX8 wm_5_5 ?_
          refine J_iload_n hX 1 dX8_goMonths_45 rfl ?_
          refine J_iald hX 88 k dX8_goMonths_46 jc_88 rfl (by omega) (by omega) ?_
          refine J_topi (y := nI (m_wOf M' k)) ow ?_
          refine J_aload_n hX 0 dX8_goMonths_47 rfl ?_
          refine J_getr hX 77 17 dX8_goMonths_48 jc_77 rfl rfl (by decide) inlX8 wm_5_6 ?_
          refine J_iload_n hX 1 dX8_goMonths_51 rfl ?_
          refine J_iald hX 89 k dX8_goMonths_52 jc_89 rfl (by omega) (by omega) ?_
          refine J_callV hX 77 [.int (M' 87 k), .int (nI (m_wOf M' k)), .int (M' 89 k)] [] dX8_goMonths_53 (c_X8_whyNot l D a g M' L (M' 87 k) (m_wOf M' k) olt (M' 89 k) (by rw [e87, e89]; exact okk.2.1) (by rw [e87, e89]; exact okk.2.2)) lk_X8_205 jc_77 rfl rfl rfl (Nat.le_of_ble_eq_true rfl) (Nat.le_of_ble_eq_true rfl) (Nat.le_of_ble_eq_true rfl) (J_eq (st := [.int (m_whyNot M' (M' 87 k) (m_wOf M' k) (M' 89 k))]) rfl ?_)
          refine J_topi (y := m_goW M' k) rfl ?_
          refine J_istore_n (loc' := [(2, .int (m_goW M' k)), (0, .ref (a 77)), (1, .int (nI k))]) hX dX8_goMonths_56 (by decide) rfl ?_
          refine J_aload_n hX 1 dX8_goMonths_57 rfl ?_
          refine J_iload_n hX 0 dX8_goMonths_58 rfl ?_
          refine J_if_le hX 66 dX8_goMonths_59 (by decide) (fun h59 => ?_) (fun h59 => ?_)
          · skip
            refine J_bipush (v := (-6)) hX dX8_goMonths_66 (by decide) ?_
            refine J_topi (y := if m_goW M' k ≤ 0 then -6 else nI k) (by (first | rw [if_pos h59] | rw [if_neg h59])) ?_
            refine J_puti (ty := .int) hX 77 20 dX8_goMonths_68 jc_77 rfl rfl (by decide) inlX8 wm_16_8 tyX8 tyX8_ok nmX8 rfl (by decide +kernel) rfl rfl ?_
            refine J_aload_n hX 1 dX8_goMonths_71 rfl ?_
            refine J_iload_n hX 0 dX8_goMonths_72 rfl ?_
            refine J_if_le hX 80 dX8_goMonths_73 (by decide) (fun h73 => ?_) (fun h73 => ?_)
            · skip
              refine J_bipush (v := (-6)) hX dX8_goMonths_80 (by decide) ?_
              refine J_topi (y := if m_goW M' k ≤ 0 then -6 else m_goW M' k) (by (first | rw [if_pos h73] | rw [if_neg h73])) ?_
              refine J_puti (ty := .int) hX 77 21 dX8_goMonths_82 jc_77 rfl rfl (by decide) inlX8 wm_16_9 tyX8 tyX8_ok nmX8 rfl (by decide +kernel) rfl rfl ?_
              refine J_cg (M' := m_goB M' k) rfl rfl rfl rfl ?_
              refine J_iload_n hX 0 dX8_goMonths_85 rfl ?_
              refine J_if_ne hX 149 dX8_goMonths_86 (by decide) (fun h86 => ?_) (fun h86 => ?_)
              · skip
                refine J_cg (M' := m_goS M' k) (by unfold m_goS; rw [if_neg h86]) rfl rfl rfl ?_
                refine J_iinc (v := nI (k + 1)) (loc' := [(1, .int (nI (k + 1))), (2, .int (m_goW M' k)), (0, .ref (a 77))]) hX 2 dX8_goMonths_149 rfl (jinc k) (by decide) rfl ?_
                refine J_goto hX 19 dX8_goMonths_152 (by decide) ?_
                refine J_sub (loc' := [(0, .ref (a 77)), (1, .int (nI (k + 1)))]) [2, 0] rfl ?_
                refine J_cg (M' := (m_goS M' k)) (L' := L) rfl rfl rfl rfl ?_
                exact ih19  (k + 1) ((m_goS M' k 77 22).toNatClampNeg) (fu - 1) (m_goS M' k) (by omega) (by omega) (by rcases s22 with q | q <;> rw [q, nI_clamp (by omega)] <;> omega) (by omega) (by rw [m_goS_ne (by decide)]; exact e87) (by rw [m_goS_ne (by decide)]; exact e88) (by rw [m_goS_ne (by decide)]; exact e89) (by rw [m_goS_slot (by decide)]; exact e18) (by rcases s22 with q | q <;> rw [q, nI_clamp (by omega)]) (hF.trans (m_go_s h24 hf h31))
              · skip
                refine J_aload_n hX 1 dX8_goMonths_89 rfl ?_
                refine J_aload_n hX 1 dX8_goMonths_90 rfl ?_
                refine J_getr hX 77 15 dX8_goMonths_91 jc_77 rfl rfl (by decide) inlX8 wm_5_4 ?_
                refine J_iload_n hX 2 dX8_goMonths_94 rfl ?_
                refine J_iald hX 87 k dX8_goMonths_95 jc_87 rfl (by omega) (by omega) ?_
                refine J_topi (y := M' 87 k) (by rw [m_goB_ne (by decide)]) ?_
                refine J_aload_n hX 1 dX8_goMonths_96 rfl ?_
                refine J_getr hX 77 16 dX8_goMonths_97 jc_77 rfl rfl (by decide) inlX8 wm_5_5 ?_
                refine J_iload_n hX 2 dX8_goMonths_100 rfl ?_
                refine J_iald hX 88 k dX8_goMonths_101 jc_88 rfl (by omega) (by omega) ?_
                refine J_topi (y := nI (m_wOf M' k)) (by rw [m_goB_ne (by decide)]; exact ow) ?_
                refine J_aload_n hX 1 dX8_goMonths_102 rfl ?_
                refine J_getr hX 77 17 dX8_goMonths_103 jc_77 rfl rfl (by decide) inlX8 wm_5_6 ?_
                refine J_iload_n hX 2 dX8_goMonths_106 rfl ?_
                refine J_iald hX 89 k dX8_goMonths_107 jc_89 rfl (by omega) (by omega) ?_
                refine J_topi (y := M' 89 k) (by rw [m_goB_ne (by decide)]) ?_
                refine J_callV hX 77 [.int (M' 87 k), .int (nI (m_wOf M' k)), .int (M' 89 k)] [] dX8_goMonths_108 (c_X8_happen l D a g (m_goB M' k) L (M' 87 k) (m_wOf M' k) olt (M' 89 k) (by rw [e87, e89]; exact okk.2.1) (by rw [e87, e89]; exact okk.2.2)) lk_X8_208 jc_77 rfl rfl rfl (Nat.le_of_ble_eq_true rfl) (Nat.le_of_ble_eq_true rfl) (Nat.le_of_ble_eq_true rfl) (J_eq (st := []) rfl ?_)
                refine J_cg (M' := m_happen (m_goB M' k) (M' 87 k) (m_wOf M' k) (M' 89 k)) rfl rfl rfl rfl ?_
                refine J_aload_n hX 1 dX8_goMonths_111 rfl ?_
                refine J_getr hX 77 23 dX8_goMonths_112 jc_77 rfl rfl (by decide) inlX8 wm_5_8 ?_
                refine J_aload_n hX 1 dX8_goMonths_115 rfl ?_
                refine J_geti hX 77 22 dX8_goMonths_116 jc_77 rfl rfl (by decide) inlX8 wm_16_10 ?_
                refine J_aload_n hX 1 dX8_goMonths_119 rfl ?_
                refine J_callV hX 77 [] [.int ((m_happen (m_goB M' k) (M' 87 k) (m_wOf M' k) (M' 89 k)) 77 22), .ref (a 91)] dX8_goMonths_120 (c_X8_rate l D a g (m_happen (m_goB M' k) (M' 87 k) (m_wOf M' k) (M' 89 k)) L ) lk_X8_164 jc_77 rfl rfl rfl (Nat.le_of_ble_eq_true rfl) (Nat.le_of_ble_eq_true rfl) (Nat.le_of_ble_eq_true rfl) (J_eq (st := [.int (m_rate (m_happen (m_goB M' k) (M' 87 k) (m_wOf M' k) (M' 89 k))), .int ((m_happen (m_goB M' k) (M' 87 k) (m_wOf M' k) (M' 89 k)) 77 22), .ref (a 91)]) rfl ?_)
                refine J_iast hX 91 ((m_happen (m_goB M' k) (M' 87 k) (m_wOf M' k) (M' 89 k) 77 22).toNatClampNeg) dX8_goMonths_123 jc_91 (by rw [m_happen_slot (by decide), m_goB_slot (by decide), e22, nI_clamp (by omega)]) (by rw [m_happen_slot (by decide), m_goB_slot (by decide), e22, nI_clamp (by omega)]; omega) (by omega) ?_
                refine J_aload_n hX 1 dX8_goMonths_124 rfl ?_
                refine J_dup hX dX8_goMonths_125 rfl ?_
                refine J_geti hX 77 22 dX8_goMonths_126 jc_77 rfl rfl (by decide) inlX8 wm_16_10 ?_
                refine J_aload_n hX 1 dX8_goMonths_129 rfl ?_
                refine J_getr hX 77 15 dX8_goMonths_130 jc_77 rfl rfl (by decide) inlX8 wm_5_4 ?_
                refine J_iload_n hX 2 dX8_goMonths_133 rfl ?_
                refine J_iald hX 87 k dX8_goMonths_134 jc_87 rfl (by omega) (by omega) ?_
                refine J_bipush (v := 6) hX dX8_goMonths_135 (by decide) ?_
                refine J_icmp_ne hX 144 dX8_goMonths_137 (by decide) (fun h137 => ?_) (fun h137 => ?_)
                · skip
                  refine J_iconst (v := 0) hX dX8_goMonths_144 (by decide) ?_
                  refine J_topi (y := if jU (m_happen (m_goB M' k) (M' 87 k) (m_wOf M' k) (M' 89 k)) 91 (m_happen (m_goB M' k) (M' 87 k) (m_wOf M' k) (M' 89 k) 77 22).toNatClampNeg (m_rate (m_happen (m_goB M' k) (M' 87 k) (m_wOf M' k) (M' 89 k))) 87 k = 6 then 1 else 0) (by (first | rw [if_neg h137] | rw [if_pos h137] | rw [if_pos (Classical.not_not.mp h137)])) ?_
                  refine J_iadd hX dX8_goMonths_145 ?_
                  refine J_puti (ty := .int) hX 77 22 dX8_goMonths_146 jc_77 rfl rfl (by decide) inlX8 wm_16_10 tyX8 tyX8_ok nmX8 rfl (by decide +kernel) rfl rfl ?_
                  refine J_cg (M' := m_goS M' k) (by unfold m_goS; rw [if_pos (show m_goW M' k = 0 by first | exact h86 | exact Classical.not_not.mp h86)]; rfl) rfl rfl rfl ?_
                  refine J_iinc (v := nI (k + 1)) (loc' := [(1, .int (nI (k + 1))), (2, .int (m_goW M' k)), (0, .ref (a 77))]) hX 2 dX8_goMonths_149 rfl (jinc k) (by decide) rfl ?_
                  refine J_goto hX 19 dX8_goMonths_152 (by decide) ?_
                  refine J_sub (loc' := [(0, .ref (a 77)), (1, .int (nI (k + 1)))]) [2, 0] rfl ?_
                  refine J_cg (M' := (m_goS M' k)) (L' := L) rfl rfl rfl rfl ?_
                  exact ih19  (k + 1) ((m_goS M' k 77 22).toNatClampNeg) (fu - 1) (m_goS M' k) (by omega) (by omega) (by rcases s22 with q | q <;> rw [q, nI_clamp (by omega)] <;> omega) (by omega) (by rw [m_goS_ne (by decide)]; exact e87) (by rw [m_goS_ne (by decide)]; exact e88) (by rw [m_goS_ne (by decide)]; exact e89) (by rw [m_goS_slot (by decide)]; exact e18) (by rcases s22 with q | q <;> rw [q, nI_clamp (by omega)]) (hF.trans (m_go_s h24 hf h31))
                · skip
                  refine J_iconst (v := 1) hX dX8_goMonths_140 (by decide) ?_
                  refine J_goto hX 145 dX8_goMonths_141 (by decide) ?_
                  refine J_topi (y := if jU (m_happen (m_goB M' k) (M' 87 k) (m_wOf M' k) (M' 89 k)) 91 (m_happen (m_goB M' k) (M' 87 k) (m_wOf M' k) (M' 89 k) 77 22).toNatClampNeg (m_rate (m_happen (m_goB M' k) (M' 87 k) (m_wOf M' k) (M' 89 k))) 87 k = 6 then 1 else 0) (by (first | rw [if_neg h137] | rw [if_pos h137] | rw [if_pos (Classical.not_not.mp h137)])) ?_
                  refine J_iadd hX dX8_goMonths_145 ?_
                  refine J_puti (ty := .int) hX 77 22 dX8_goMonths_146 jc_77 rfl rfl (by decide) inlX8 wm_16_10 tyX8 tyX8_ok nmX8 rfl (by decide +kernel) rfl rfl ?_
                  refine J_cg (M' := m_goS M' k) (by unfold m_goS; rw [if_pos (show m_goW M' k = 0 by first | exact h86 | exact Classical.not_not.mp h86)]; rfl) rfl rfl rfl ?_
                  refine J_iinc (v := nI (k + 1)) (loc' := [(1, .int (nI (k + 1))), (2, .int (m_goW M' k)), (0, .ref (a 77))]) hX 2 dX8_goMonths_149 rfl (jinc k) (by decide) rfl ?_
                  refine J_goto hX 19 dX8_goMonths_152 (by decide) ?_
                  refine J_sub (loc' := [(0, .ref (a 77)), (1, .int (nI (k + 1)))]) [2, 0] rfl ?_
                  refine J_cg (M' := (m_goS M' k)) (L' := L) rfl rfl rfl rfl ?_
                  exact ih19  (k + 1) ((m_goS M' k 77 22).toNatClampNeg) (fu - 1) (m_goS M' k) (by omega) (by omega) (by rcases s22 with q | q <;> rw [q, nI_clamp (by omega)] <;> omega) (by omega) (by rw [m_goS_ne (by decide)]; exact e87) (by rw [m_goS_ne (by decide)]; exact e88) (by rw [m_goS_ne (by decide)]; exact e89) (by rw [m_goS_slot (by decide)]; exact e18) (by rcases s22 with q | q <;> rw [q, nI_clamp (by omega)]) (hF.trans (m_go_s h24 hf h31))
            · skip
              refine J_iload_n hX 0 dX8_goMonths_76 rfl ?_
              refine J_goto hX 82 dX8_goMonths_77 (by decide) ?_
              refine J_topi (y := if m_goW M' k ≤ 0 then -6 else m_goW M' k) (by (first | rw [if_pos h73] | rw [if_neg h73])) ?_
              refine J_puti (ty := .int) hX 77 21 dX8_goMonths_82 jc_77 rfl rfl (by decide) inlX8 wm_16_9 tyX8 tyX8_ok nmX8 rfl (by decide +kernel) rfl rfl ?_
              refine J_cg (M' := m_goB M' k) rfl rfl rfl rfl ?_
              refine J_iload_n hX 0 dX8_goMonths_85 rfl ?_
              refine J_if_ne hX 149 dX8_goMonths_86 (by decide) (fun h86 => ?_) (fun h86 => ?_)
              · skip
                refine J_cg (M' := m_goS M' k) (by unfold m_goS; rw [if_neg h86]) rfl rfl rfl ?_
                refine J_iinc (v := nI (k + 1)) (loc' := [(1, .int (nI (k + 1))), (2, .int (m_goW M' k)), (0, .ref (a 77))]) hX 2 dX8_goMonths_149 rfl (jinc k) (by decide) rfl ?_
                refine J_goto hX 19 dX8_goMonths_152 (by decide) ?_
                refine J_sub (loc' := [(0, .ref (a 77)), (1, .int (nI (k + 1)))]) [2, 0] rfl ?_
                refine J_cg (M' := (m_goS M' k)) (L' := L) rfl rfl rfl rfl ?_
                exact ih19  (k + 1) ((m_goS M' k 77 22).toNatClampNeg) (fu - 1) (m_goS M' k) (by omega) (by omega) (by rcases s22 with q | q <;> rw [q, nI_clamp (by omega)] <;> omega) (by omega) (by rw [m_goS_ne (by decide)]; exact e87) (by rw [m_goS_ne (by decide)]; exact e88) (by rw [m_goS_ne (by decide)]; exact e89) (by rw [m_goS_slot (by decide)]; exact e18) (by rcases s22 with q | q <;> rw [q, nI_clamp (by omega)]) (hF.trans (m_go_s h24 hf h31))
              · skip
                refine J_aload_n hX 1 dX8_goMonths_89 rfl ?_
                refine J_aload_n hX 1 dX8_goMonths_90 rfl ?_
                refine J_getr hX 77 15 dX8_goMonths_91 jc_77 rfl rfl (by decide) inlX8 wm_5_4 ?_
                refine J_iload_n hX 2 dX8_goMonths_94 rfl ?_
                refine J_iald hX 87 k dX8_goMonths_95 jc_87 rfl (by omega) (by omega) ?_
                refine J_topi (y := M' 87 k) (by rw [m_goB_ne (by decide)]) ?_
                refine J_aload_n hX 1 dX8_goMonths_96 rfl ?_
                refine J_getr hX 77 16 dX8_goMonths_97 jc_77 rfl rfl (by decide) inlX8 wm_5_5 ?_
                refine J_iload_n hX 2 dX8_goMonths_100 rfl ?_
                refine J_iald hX 88 k dX8_goMonths_101 jc_88 rfl (by omega) (by omega) ?_
                refine J_topi (y := nI (m_wOf M' k)) (by rw [m_goB_ne (by decide)]; exact ow) ?_
                refine J_aload_n hX 1 dX8_goMonths_102 rfl ?_
                refine J_getr hX 77 17 dX8_goMonths_103 jc_77 rfl rfl (by decide) inlX8 wm_5_6 ?_
                refine J_iload_n hX 2 dX8_goMonths_106 rfl ?_
                refine J_iald hX 89 k dX8_goMonths_107 jc_89 rfl (by omega) (by omega) ?_
                refine J_topi (y := M' 89 k) (by rw [m_goB_ne (by decide)]) ?_
                refine J_callV hX 77 [.int (M' 87 k), .int (nI (m_wOf M' k)), .int (M' 89 k)] [] dX8_goMonths_108 (c_X8_happen l D a g (m_goB M' k) L (M' 87 k) (m_wOf M' k) olt (M' 89 k) (by rw [e87, e89]; exact okk.2.1) (by rw [e87, e89]; exact okk.2.2)) lk_X8_208 jc_77 rfl rfl rfl (Nat.le_of_ble_eq_true rfl) (Nat.le_of_ble_eq_true rfl) (Nat.le_of_ble_eq_true rfl) (J_eq (st := []) rfl ?_)
                refine J_cg (M' := m_happen (m_goB M' k) (M' 87 k) (m_wOf M' k) (M' 89 k)) rfl rfl rfl rfl ?_
                refine J_aload_n hX 1 dX8_goMonths_111 rfl ?_
                refine J_getr hX 77 23 dX8_goMonths_112 jc_77 rfl rfl (by decide) inlX8 wm_5_8 ?_
                refine J_aload_n hX 1 dX8_goMonths_115 rfl ?_
                refine J_geti hX 77 22 dX8_goMonths_116 jc_77 rfl rfl (by decide) inlX8 wm_16_10 ?_
                refine J_aload_n hX 1 dX8_goMonths_119 rfl ?_
                refine J_callV hX 77 [] [.int ((m_happen (m_goB M' k) (M' 87 k) (m_wOf M' k) (M' 89 k)) 77 22), .ref (a 91)] dX8_goMonths_120 (c_X8_rate l D a g (m_happen (m_goB M' k) (M' 87 k) (m_wOf M' k) (M' 89 k)) L ) lk_X8_164 jc_77 rfl rfl rfl (Nat.le_of_ble_eq_true rfl) (Nat.le_of_ble_eq_true rfl) (Nat.le_of_ble_eq_true rfl) (J_eq (st := [.int (m_rate (m_happen (m_goB M' k) (M' 87 k) (m_wOf M' k) (M' 89 k))), .int ((m_happen (m_goB M' k) (M' 87 k) (m_wOf M' k) (M' 89 k)) 77 22), .ref (a 91)]) rfl ?_)
                refine J_iast hX 91 ((m_happen (m_goB M' k) (M' 87 k) (m_wOf M' k) (M' 89 k) 77 22).toNatClampNeg) dX8_goMonths_123 jc_91 (by rw [m_happen_slot (by decide), m_goB_slot (by decide), e22, nI_clamp (by omega)]) (by rw [m_happen_slot (by decide), m_goB_slot (by decide), e22, nI_clamp (by omega)]; omega) (by omega) ?_
                refine J_aload_n hX 1 dX8_goMonths_124 rfl ?_
                refine J_dup hX dX8_goMonths_125 rfl ?_
                refine J_geti hX 77 22 dX8_goMonths_126 jc_77 rfl rfl (by decide) inlX8 wm_16_10 ?_
                refine J_aload_n hX 1 dX8_goMonths_129 rfl ?_
                refine J_getr hX 77 15 dX8_goMonths_130 jc_77 rfl rfl (by decide) inlX8 wm_5_4 ?_
                refine J_iload_n hX 2 dX8_goMonths_133 rfl ?_
                refine J_iald hX 87 k dX8_goMonths_134 jc_87 rfl (by omega) (by omega) ?_
                refine J_bipush (v := 6) hX dX8_goMonths_135 (by decide) ?_
                refine J_icmp_ne hX 144 dX8_goMonths_137 (by decide) (fun h137 => ?_) (fun h137 => ?_)
                · skip
                  refine J_iconst (v := 0) hX dX8_goMonths_144 (by decide) ?_
                  refine J_topi (y := if jU (m_happen (m_goB M' k) (M' 87 k) (m_wOf M' k) (M' 89 k)) 91 (m_happen (m_goB M' k) (M' 87 k) (m_wOf M' k) (M' 89 k) 77 22).toNatClampNeg (m_rate (m_happen (m_goB M' k) (M' 87 k) (m_wOf M' k) (M' 89 k))) 87 k = 6 then 1 else 0) (by (first | rw [if_neg h137] | rw [if_pos h137] | rw [if_pos (Classical.not_not.mp h137)])) ?_
                  refine J_iadd hX dX8_goMonths_145 ?_
                  refine J_puti (ty := .int) hX 77 22 dX8_goMonths_146 jc_77 rfl rfl (by decide) inlX8 wm_16_10 tyX8 tyX8_ok nmX8 rfl (by decide +kernel) rfl rfl ?_
                  refine J_cg (M' := m_goS M' k) (by unfold m_goS; rw [if_pos (show m_goW M' k = 0 by first | exact h86 | exact Classical.not_not.mp h86)]; rfl) rfl rfl rfl ?_
                  refine J_iinc (v := nI (k + 1)) (loc' := [(1, .int (nI (k + 1))), (2, .int (m_goW M' k)), (0, .ref (a 77))]) hX 2 dX8_goMonths_149 rfl (jinc k) (by decide) rfl ?_
                  refine J_goto hX 19 dX8_goMonths_152 (by decide) ?_
                  refine J_sub (loc' := [(0, .ref (a 77)), (1, .int (nI (k + 1)))]) [2, 0] rfl ?_
                  refine J_cg (M' := (m_goS M' k)) (L' := L) rfl rfl rfl rfl ?_
                  exact ih19  (k + 1) ((m_goS M' k 77 22).toNatClampNeg) (fu - 1) (m_goS M' k) (by omega) (by omega) (by rcases s22 with q | q <;> rw [q, nI_clamp (by omega)] <;> omega) (by omega) (by rw [m_goS_ne (by decide)]; exact e87) (by rw [m_goS_ne (by decide)]; exact e88) (by rw [m_goS_ne (by decide)]; exact e89) (by rw [m_goS_slot (by decide)]; exact e18) (by rcases s22 with q | q <;> rw [q, nI_clamp (by omega)]) (hF.trans (m_go_s h24 hf h31))
                · skip
                  refine J_iconst (v := 1) hX dX8_goMonths_140 (by decide) ?_
                  refine J_goto hX 145 dX8_goMonths_141 (by decide) ?_
                  refine J_topi (y := if jU (m_happen (m_goB M' k) (M' 87 k) (m_wOf M' k) (M' 89 k)) 91 (m_happen (m_goB M' k) (M' 87 k) (m_wOf M' k) (M' 89 k) 77 22).toNatClampNeg (m_rate (m_happen (m_goB M' k) (M' 87 k) (m_wOf M' k) (M' 89 k))) 87 k = 6 then 1 else 0) (by (first | rw [if_neg h137] | rw [if_pos h137] | rw [if_pos (Classical.not_not.mp h137)])) ?_
                  refine J_iadd hX dX8_goMonths_145 ?_
                  refine J_puti (ty := .int) hX 77 22 dX8_goMonths_146 jc_77 rfl rfl (by decide) inlX8 wm_16_10 tyX8 tyX8_ok nmX8 rfl (by decide +kernel) rfl rfl ?_
                  refine J_cg (M' := m_goS M' k) (by unfold m_goS; rw [if_pos (show m_goW M' k = 0 by first | exact h86 | exact Classical.not_not.mp h86)]; rfl) rfl rfl rfl ?_
                  refine J_iinc (v := nI (k + 1)) (loc' := [(1, .int (nI (k + 1))), (2, .int (m_goW M' k)), (0, .ref (a 77))]) hX 2 dX8_goMonths_149 rfl (jinc k) (by decide) rfl ?_
                  refine J_goto hX 19 dX8_goMonths_152 (by decide) ?_
                  refine J_sub (loc' := [(0, .ref (a 77)), (1, .int (nI (k + 1)))]) [2, 0] rfl ?_
                  refine J_cg (M' := (m_goS M' k)) (L' := L) rfl rfl rfl rfl ?_
                  exact ih19  (k + 1) ((m_goS M' k 77 22).toNatClampNeg) (fu - 1) (m_goS M' k) (by omega) (by omega) (by rcases s22 with q | q <;> rw [q, nI_clamp (by omega)] <;> omega) (by omega) (by rw [m_goS_ne (by decide)]; exact e87) (by rw [m_goS_ne (by decide)]; exact e88) (by rw [m_goS_ne (by decide)]; exact e89) (by rw [m_goS_slot (by decide)]; exact e18) (by rcases s22 with q | q <;> rw [q, nI_clamp (by omega)]) (hF.trans (m_go_s h24 hf h31))
          · skip
            refine J_iload_n hX 2 dX8_goMonths_62 rfl ?_
            refine J_goto hX 68 dX8_goMonths_63 (by decide) ?_
            refine J_topi (y := if m_goW M' k ≤ 0 then -6 else nI k) (by (first | rw [if_pos h59] | rw [if_neg h59])) ?_
            refine J_puti (ty := .int) hX 77 20 dX8_goMonths_68 jc_77 rfl rfl (by decide) inlX8 wm_16_8 tyX8 tyX8_ok nmX8 rfl (by decide +kernel) rfl rfl ?_
            refine J_aload_n hX 1 dX8_goMonths_71 rfl ?_
            refine J_iload_n hX 0 dX8_goMonths_72 rfl ?_
            refine J_if_le hX 80 dX8_goMonths_73 (by decide) (fun h73 => ?_) (fun h73 => ?_)
            · skip
              refine J_bipush (v := (-6)) hX dX8_goMonths_80 (by decide) ?_
              refine J_topi (y := if m_goW M' k ≤ 0 then -6 else m_goW M' k) (by (first | rw [if_pos h73] | rw [if_neg h73])) ?_
              refine J_puti (ty := .int) hX 77 21 dX8_goMonths_82 jc_77 rfl rfl (by decide) inlX8 wm_16_9 tyX8 tyX8_ok nmX8 rfl (by decide +kernel) rfl rfl ?_
              refine J_cg (M' := m_goB M' k) rfl rfl rfl rfl ?_
              refine J_iload_n hX 0 dX8_goMonths_85 rfl ?_
              refine J_if_ne hX 149 dX8_goMonths_86 (by decide) (fun h86 => ?_) (fun h86 => ?_)
              · skip
                refine J_cg (M' := m_goS M' k) (by unfold m_goS; rw [if_neg h86]) rfl rfl rfl ?_
                refine J_iinc (v := nI (k + 1)) (loc' := [(1, .int (nI (k + 1))), (2, .int (m_goW M' k)), (0, .ref (a 77))]) hX 2 dX8_goMonths_149 rfl (jinc k) (by decide) rfl ?_
                refine J_goto hX 19 dX8_goMonths_152 (by decide) ?_
                refine J_sub (loc' := [(0, .ref (a 77)), (1, .int (nI (k + 1)))]) [2, 0] rfl ?_
                refine J_cg (M' := (m_goS M' k)) (L' := L) rfl rfl rfl rfl ?_
                exact ih19  (k + 1) ((m_goS M' k 77 22).toNatClampNeg) (fu - 1) (m_goS M' k) (by omega) (by omega) (by rcases s22 with q | q <;> rw [q, nI_clamp (by omega)] <;> omega) (by omega) (by rw [m_goS_ne (by decide)]; exact e87) (by rw [m_goS_ne (by decide)]; exact e88) (by rw [m_goS_ne (by decide)]; exact e89) (by rw [m_goS_slot (by decide)]; exact e18) (by rcases s22 with q | q <;> rw [q, nI_clamp (by omega)]) (hF.trans (m_go_s h24 hf h31))
              · skip
                refine J_aload_n hX 1 dX8_goMonths_89 rfl ?_
                refine J_aload_n hX 1 dX8_goMonths_90 rfl ?_
                refine J_getr hX 77 15 dX8_goMonths_91 jc_77 rfl rfl (by decide) inlX8 wm_5_4 ?_
                refine J_iload_n hX 2 dX8_goMonths_94 rfl ?_
                refine J_iald hX 87 k dX8_goMonths_95 jc_87 rfl (by omega) (by omega) ?_
                refine J_topi (y := M' 87 k) (by rw [m_goB_ne (by decide)]) ?_
                refine J_aload_n hX 1 dX8_goMonths_96 rfl ?_
                refine J_getr hX 77 16 dX8_goMonths_97 jc_77 rfl rfl (by decide) inlX8 wm_5_5 ?_
                refine J_iload_n hX 2 dX8_goMonths_100 rfl ?_
                refine J_iald hX 88 k dX8_goMonths_101 jc_88 rfl (by omega) (by omega) ?_
                refine J_topi (y := nI (m_wOf M' k)) (by rw [m_goB_ne (by decide)]; exact ow) ?_
                refine J_aload_n hX 1 dX8_goMonths_102 rfl ?_
                refine J_getr hX 77 17 dX8_goMonths_103 jc_77 rfl rfl (by decide) inlX8 wm_5_6 ?_
                refine J_iload_n hX 2 dX8_goMonths_106 rfl ?_
                refine J_iald hX 89 k dX8_goMonths_107 jc_89 rfl (by omega) (by omega) ?_
                refine J_topi (y := M' 89 k) (by rw [m_goB_ne (by decide)]) ?_
                refine J_callV hX 77 [.int (M' 87 k), .int (nI (m_wOf M' k)), .int (M' 89 k)] [] dX8_goMonths_108 (c_X8_happen l D a g (m_goB M' k) L (M' 87 k) (m_wOf M' k) olt (M' 89 k) (by rw [e87, e89]; exact okk.2.1) (by rw [e87, e89]; exact okk.2.2)) lk_X8_208 jc_77 rfl rfl rfl (Nat.le_of_ble_eq_true rfl) (Nat.le_of_ble_eq_true rfl) (Nat.le_of_ble_eq_true rfl) (J_eq (st := []) rfl ?_)
                refine J_cg (M' := m_happen (m_goB M' k) (M' 87 k) (m_wOf M' k) (M' 89 k)) rfl rfl rfl rfl ?_
                refine J_aload_n hX 1 dX8_goMonths_111 rfl ?_
                refine J_getr hX 77 23 dX8_goMonths_112 jc_77 rfl rfl (by decide) inlX8 wm_5_8 ?_
                refine J_aload_n hX 1 dX8_goMonths_115 rfl ?_
                refine J_geti hX 77 22 dX8_goMonths_116 jc_77 rfl rfl (by decide) inlX8 wm_16_10 ?_
                refine J_aload_n hX 1 dX8_goMonths_119 rfl ?_
                refine J_callV hX 77 [] [.int ((m_happen (m_goB M' k) (M' 87 k) (m_wOf M' k) (M' 89 k)) 77 22), .ref (a 91)] dX8_goMonths_120 (c_X8_rate l D a g (m_happen (m_goB M' k) (M' 87 k) (m_wOf M' k) (M' 89 k)) L ) lk_X8_164 jc_77 rfl rfl rfl (Nat.le_of_ble_eq_true rfl) (Nat.le_of_ble_eq_true rfl) (Nat.le_of_ble_eq_true rfl) (J_eq (st := [.int (m_rate (m_happen (m_goB M' k) (M' 87 k) (m_wOf M' k) (M' 89 k))), .int ((m_happen (m_goB M' k) (M' 87 k) (m_wOf M' k) (M' 89 k)) 77 22), .ref (a 91)]) rfl ?_)
                refine J_iast hX 91 ((m_happen (m_goB M' k) (M' 87 k) (m_wOf M' k) (M' 89 k) 77 22).toNatClampNeg) dX8_goMonths_123 jc_91 (by rw [m_happen_slot (by decide), m_goB_slot (by decide), e22, nI_clamp (by omega)]) (by rw [m_happen_slot (by decide), m_goB_slot (by decide), e22, nI_clamp (by omega)]; omega) (by omega) ?_
                refine J_aload_n hX 1 dX8_goMonths_124 rfl ?_
                refine J_dup hX dX8_goMonths_125 rfl ?_
                refine J_geti hX 77 22 dX8_goMonths_126 jc_77 rfl rfl (by decide) inlX8 wm_16_10 ?_
                refine J_aload_n hX 1 dX8_goMonths_129 rfl ?_
                refine J_getr hX 77 15 dX8_goMonths_130 jc_77 rfl rfl (by decide) inlX8 wm_5_4 ?_
                refine J_iload_n hX 2 dX8_goMonths_133 rfl ?_
                refine J_iald hX 87 k dX8_goMonths_134 jc_87 rfl (by omega) (by omega) ?_
                refine J_bipush (v := 6) hX dX8_goMonths_135 (by decide) ?_
                refine J_icmp_ne hX 144 dX8_goMonths_137 (by decide) (fun h137 => ?_) (fun h137 => ?_)
                · skip
                  refine J_iconst (v := 0) hX dX8_goMonths_144 (by decide) ?_
                  refine J_topi (y := if jU (m_happen (m_goB M' k) (M' 87 k) (m_wOf M' k) (M' 89 k)) 91 (m_happen (m_goB M' k) (M' 87 k) (m_wOf M' k) (M' 89 k) 77 22).toNatClampNeg (m_rate (m_happen (m_goB M' k) (M' 87 k) (m_wOf M' k) (M' 89 k))) 87 k = 6 then 1 else 0) (by (first | rw [if_neg h137] | rw [if_pos h137] | rw [if_pos (Classical.not_not.mp h137)])) ?_
                  refine J_iadd hX dX8_goMonths_145 ?_
                  refine J_puti (ty := .int) hX 77 22 dX8_goMonths_146 jc_77 rfl rfl (by decide) inlX8 wm_16_10 tyX8 tyX8_ok nmX8 rfl (by decide +kernel) rfl rfl ?_
                  refine J_cg (M' := m_goS M' k) (by unfold m_goS; rw [if_pos (show m_goW M' k = 0 by first | exact h86 | exact Classical.not_not.mp h86)]; rfl) rfl rfl rfl ?_
                  refine J_iinc (v := nI (k + 1)) (loc' := [(1, .int (nI (k + 1))), (2, .int (m_goW M' k)), (0, .ref (a 77))]) hX 2 dX8_goMonths_149 rfl (jinc k) (by decide) rfl ?_
                  refine J_goto hX 19 dX8_goMonths_152 (by decide) ?_
                  refine J_sub (loc' := [(0, .ref (a 77)), (1, .int (nI (k + 1)))]) [2, 0] rfl ?_
                  refine J_cg (M' := (m_goS M' k)) (L' := L) rfl rfl rfl rfl ?_
                  exact ih19  (k + 1) ((m_goS M' k 77 22).toNatClampNeg) (fu - 1) (m_goS M' k) (by omega) (by omega) (by rcases s22 with q | q <;> rw [q, nI_clamp (by omega)] <;> omega) (by omega) (by rw [m_goS_ne (by decide)]; exact e87) (by rw [m_goS_ne (by decide)]; exact e88) (by rw [m_goS_ne (by decide)]; exact e89) (by rw [m_goS_slot (by decide)]; exact e18) (by rcases s22 with q | q <;> rw [q, nI_clamp (by omega)]) (hF.trans (m_go_s h24 hf h31))
                · skip
                  refine J_iconst (v := 1) hX dX8_goMonths_140 (by decide) ?_
                  refine J_goto hX 145 dX8_goMonths_141 (by decide) ?_
                  refine J_topi (y := if jU (m_happen (m_goB M' k) (M' 87 k) (m_wOf M' k) (M' 89 k)) 91 (m_happen (m_goB M' k) (M' 87 k) (m_wOf M' k) (M' 89 k) 77 22).toNatClampNeg (m_rate (m_happen (m_goB M' k) (M' 87 k) (m_wOf M' k) (M' 89 k))) 87 k = 6 then 1 else 0) (by (first | rw [if_neg h137] | rw [if_pos h137] | rw [if_pos (Classical.not_not.mp h137)])) ?_
                  refine J_iadd hX dX8_goMonths_145 ?_
                  refine J_puti (ty := .int) hX 77 22 dX8_goMonths_146 jc_77 rfl rfl (by decide) inlX8 wm_16_10 tyX8 tyX8_ok nmX8 rfl (by decide +kernel) rfl rfl ?_
                  refine J_cg (M' := m_goS M' k) (by unfold m_goS; rw [if_pos (show m_goW M' k = 0 by first | exact h86 | exact Classical.not_not.mp h86)]; rfl) rfl rfl rfl ?_
                  refine J_iinc (v := nI (k + 1)) (loc' := [(1, .int (nI (k + 1))), (2, .int (m_goW M' k)), (0, .ref (a 77))]) hX 2 dX8_goMonths_149 rfl (jinc k) (by decide) rfl ?_
                  refine J_goto hX 19 dX8_goMonths_152 (by decide) ?_
                  refine J_sub (loc' := [(0, .ref (a 77)), (1, .int (nI (k + 1)))]) [2, 0] rfl ?_
                  refine J_cg (M' := (m_goS M' k)) (L' := L) rfl rfl rfl rfl ?_
                  exact ih19  (k + 1) ((m_goS M' k 77 22).toNatClampNeg) (fu - 1) (m_goS M' k) (by omega) (by omega) (by rcases s22 with q | q <;> rw [q, nI_clamp (by omega)] <;> omega) (by omega) (by rw [m_goS_ne (by decide)]; exact e87) (by rw [m_goS_ne (by decide)]; exact e88) (by rw [m_goS_ne (by decide)]; exact e89) (by rw [m_goS_slot (by decide)]; exact e18) (by rcases s22 with q | q <;> rw [q, nI_clamp (by omega)]) (hF.trans (m_go_s h24 hf h31))
            · skip
              refine J_iload_n hX 0 dX8_goMonths_76 rfl ?_
              refine J_goto hX 82 dX8_goMonths_77 (by decide) ?_
              refine J_topi (y := if m_goW M' k ≤ 0 then -6 else m_goW M' k) (by (first | rw [if_pos h73] | rw [if_neg h73])) ?_
              refine J_puti (ty := .int) hX 77 21 dX8_goMonths_82 jc_77 rfl rfl (by decide) inlX8 wm_16_9 tyX8 tyX8_ok nmX8 rfl (by decide +kernel) rfl rfl ?_
              refine J_cg (M' := m_goB M' k) rfl rfl rfl rfl ?_
              refine J_iload_n hX 0 dX8_goMonths_85 rfl ?_
              refine J_if_ne hX 149 dX8_goMonths_86 (by decide) (fun h86 => ?_) (fun h86 => ?_)
              · skip
                refine J_cg (M' := m_goS M' k) (by unfold m_goS; rw [if_neg h86]) rfl rfl rfl ?_
                refine J_iinc (v := nI (k + 1)) (loc' := [(1, .int (nI (k + 1))), (2, .int (m_goW M' k)), (0, .ref (a 77))]) hX 2 dX8_goMonths_149 rfl (jinc k) (by decide) rfl ?_
                refine J_goto hX 19 dX8_goMonths_152 (by decide) ?_
                refine J_sub (loc' := [(0, .ref (a 77)), (1, .int (nI (k + 1)))]) [2, 0] rfl ?_
                refine J_cg (M' := (m_goS M' k)) (L' := L) rfl rfl rfl rfl ?_
                exact ih19  (k + 1) ((m_goS M' k 77 22).toNatClampNeg) (fu - 1) (m_goS M' k) (by omega) (by omega) (by rcases s22 with q | q <;> rw [q, nI_clamp (by omega)] <;> omega) (by omega) (by rw [m_goS_ne (by decide)]; exact e87) (by rw [m_goS_ne (by decide)]; exact e88) (by rw [m_goS_ne (by decide)]; exact e89) (by rw [m_goS_slot (by decide)]; exact e18) (by rcases s22 with q | q <;> rw [q, nI_clamp (by omega)]) (hF.trans (m_go_s h24 hf h31))
              · skip
                refine J_aload_n hX 1 dX8_goMonths_89 rfl ?_
                refine J_aload_n hX 1 dX8_goMonths_90 rfl ?_
                refine J_getr hX 77 15 dX8_goMonths_91 jc_77 rfl rfl (by decide) inlX8 wm_5_4 ?_
                refine J_iload_n hX 2 dX8_goMonths_94 rfl ?_
                refine J_iald hX 87 k dX8_goMonths_95 jc_87 rfl (by omega) (by omega) ?_
                refine J_topi (y := M' 87 k) (by rw [m_goB_ne (by decide)]) ?_
                refine J_aload_n hX 1 dX8_goMonths_96 rfl ?_
                refine J_getr hX 77 16 dX8_goMonths_97 jc_77 rfl rfl (by decide) inlX8 wm_5_5 ?_
                refine J_iload_n hX 2 dX8_goMonths_100 rfl ?_
                refine J_iald hX 88 k dX8_goMonths_101 jc_88 rfl (by omega) (by omega) ?_
                refine J_topi (y := nI (m_wOf M' k)) (by rw [m_goB_ne (by decide)]; exact ow) ?_
                refine J_aload_n hX 1 dX8_goMonths_102 rfl ?_
                refine J_getr hX 77 17 dX8_goMonths_103 jc_77 rfl rfl (by decide) inlX8 wm_5_6 ?_
                refine J_iload_n hX 2 dX8_goMonths_106 rfl ?_
                refine J_iald hX 89 k dX8_goMonths_107 jc_89 rfl (by omega) (by omega) ?_
                refine J_topi (y := M' 89 k) (by rw [m_goB_ne (by decide)]) ?_
                refine J_callV hX 77 [.int (M' 87 k), .int (nI (m_wOf M' k)), .int (M' 89 k)] [] dX8_goMonths_108 (c_X8_happen l D a g (m_goB M' k) L (M' 87 k) (m_wOf M' k) olt (M' 89 k) (by rw [e87, e89]; exact okk.2.1) (by rw [e87, e89]; exact okk.2.2)) lk_X8_208 jc_77 rfl rfl rfl (Nat.le_of_ble_eq_true rfl) (Nat.le_of_ble_eq_true rfl) (Nat.le_of_ble_eq_true rfl) (J_eq (st := []) rfl ?_)
                refine J_cg (M' := m_happen (m_goB M' k) (M' 87 k) (m_wOf M' k) (M' 89 k)) rfl rfl rfl rfl ?_
                refine J_aload_n hX 1 dX8_goMonths_111 rfl ?_
                refine J_getr hX 77 23 dX8_goMonths_112 jc_77 rfl rfl (by decide) inlX8 wm_5_8 ?_
                refine J_aload_n hX 1 dX8_goMonths_115 rfl ?_
                refine J_geti hX 77 22 dX8_goMonths_116 jc_77 rfl rfl (by decide) inlX8 wm_16_10 ?_
                refine J_aload_n hX 1 dX8_goMonths_119 rfl ?_
                refine J_callV hX 77 [] [.int ((m_happen (m_goB M' k) (M' 87 k) (m_wOf M' k) (M' 89 k)) 77 22), .ref (a 91)] dX8_goMonths_120 (c_X8_rate l D a g (m_happen (m_goB M' k) (M' 87 k) (m_wOf M' k) (M' 89 k)) L ) lk_X8_164 jc_77 rfl rfl rfl (Nat.le_of_ble_eq_true rfl) (Nat.le_of_ble_eq_true rfl) (Nat.le_of_ble_eq_true rfl) (J_eq (st := [.int (m_rate (m_happen (m_goB M' k) (M' 87 k) (m_wOf M' k) (M' 89 k))), .int ((m_happen (m_goB M' k) (M' 87 k) (m_wOf M' k) (M' 89 k)) 77 22), .ref (a 91)]) rfl ?_)
                refine J_iast hX 91 ((m_happen (m_goB M' k) (M' 87 k) (m_wOf M' k) (M' 89 k) 77 22).toNatClampNeg) dX8_goMonths_123 jc_91 (by rw [m_happen_slot (by decide), m_goB_slot (by decide), e22, nI_clamp (by omega)]) (by rw [m_happen_slot (by decide), m_goB_slot (by decide), e22, nI_clamp (by omega)]; omega) (by omega) ?_
                refine J_aload_n hX 1 dX8_goMonths_124 rfl ?_
                refine J_dup hX dX8_goMonths_125 rfl ?_
                refine J_geti hX 77 22 dX8_goMonths_126 jc_77 rfl rfl (by decide) inlX8 wm_16_10 ?_
                refine J_aload_n hX 1 dX8_goMonths_129 rfl ?_
                refine J_getr hX 77 15 dX8_goMonths_130 jc_77 rfl rfl (by decide) inlX8 wm_5_4 ?_
                refine J_iload_n hX 2 dX8_goMonths_133 rfl ?_
                refine J_iald hX 87 k dX8_goMonths_134 jc_87 rfl (by omega) (by omega) ?_
                refine J_bipush (v := 6) hX dX8_goMonths_135 (by decide) ?_
                refine J_icmp_ne hX 144 dX8_goMonths_137 (by decide) (fun h137 => ?_) (fun h137 => ?_)
                · skip
                  refine J_iconst (v := 0) hX dX8_goMonths_144 (by decide) ?_
                  refine J_topi (y := if jU (m_happen (m_goB M' k) (M' 87 k) (m_wOf M' k) (M' 89 k)) 91 (m_happen (m_goB M' k) (M' 87 k) (m_wOf M' k) (M' 89 k) 77 22).toNatClampNeg (m_rate (m_happen (m_goB M' k) (M' 87 k) (m_wOf M' k) (M' 89 k))) 87 k = 6 then 1 else 0) (by (first | rw [if_neg h137] | rw [if_pos h137] | rw [if_pos (Classical.not_not.mp h137)])) ?_
                  refine J_iadd hX dX8_goMonths_145 ?_
                  refine J_puti (ty := .int) hX 77 22 dX8_goMonths_146 jc_77 rfl rfl (by decide) inlX8 wm_16_10 tyX8 tyX8_ok nmX8 rfl (by decide +kernel) rfl rfl ?_
                  refine J_cg (M' := m_goS M' k) (by unfold m_goS; rw [if_pos (show m_goW M' k = 0 by first | exact h86 | exact Classical.not_not.mp h86)]; rfl) rfl rfl rfl ?_
                  refine J_iinc (v := nI (k + 1)) (loc' := [(1, .int (nI (k + 1))), (2, .int (m_goW M' k)), (0, .ref (a 77))]) hX 2 dX8_goMonths_149 rfl (jinc k) (by decide) rfl ?_
                  refine J_goto hX 19 dX8_goMonths_152 (by decide) ?_
                  refine J_sub (loc' := [(0, .ref (a 77)), (1, .int (nI (k + 1)))]) [2, 0] rfl ?_
                  refine J_cg (M' := (m_goS M' k)) (L' := L) rfl rfl rfl rfl ?_
                  exact ih19  (k + 1) ((m_goS M' k 77 22).toNatClampNeg) (fu - 1) (m_goS M' k) (by omega) (by omega) (by rcases s22 with q | q <;> rw [q, nI_clamp (by omega)] <;> omega) (by omega) (by rw [m_goS_ne (by decide)]; exact e87) (by rw [m_goS_ne (by decide)]; exact e88) (by rw [m_goS_ne (by decide)]; exact e89) (by rw [m_goS_slot (by decide)]; exact e18) (by rcases s22 with q | q <;> rw [q, nI_clamp (by omega)]) (hF.trans (m_go_s h24 hf h31))
                · skip
                  refine J_iconst (v := 1) hX dX8_goMonths_140 (by decide) ?_
                  refine J_goto hX 145 dX8_goMonths_141 (by decide) ?_
                  refine J_topi (y := if jU (m_happen (m_goB M' k) (M' 87 k) (m_wOf M' k) (M' 89 k)) 91 (m_happen (m_goB M' k) (M' 87 k) (m_wOf M' k) (M' 89 k) 77 22).toNatClampNeg (m_rate (m_happen (m_goB M' k) (M' 87 k) (m_wOf M' k) (M' 89 k))) 87 k = 6 then 1 else 0) (by (first | rw [if_neg h137] | rw [if_pos h137] | rw [if_pos (Classical.not_not.mp h137)])) ?_
                  refine J_iadd hX dX8_goMonths_145 ?_
                  refine J_puti (ty := .int) hX 77 22 dX8_goMonths_146 jc_77 rfl rfl (by decide) inlX8 wm_16_10 tyX8 tyX8_ok nmX8 rfl (by decide +kernel) rfl rfl ?_
                  refine J_cg (M' := m_goS M' k) (by unfold m_goS; rw [if_pos (show m_goW M' k = 0 by first | exact h86 | exact Classical.not_not.mp h86)]; rfl) rfl rfl rfl ?_
                  refine J_iinc (v := nI (k + 1)) (loc' := [(1, .int (nI (k + 1))), (2, .int (m_goW M' k)), (0, .ref (a 77))]) hX 2 dX8_goMonths_149 rfl (jinc k) (by decide) rfl ?_
                  refine J_goto hX 19 dX8_goMonths_152 (by decide) ?_
                  refine J_sub (loc' := [(0, .ref (a 77)), (1, .int (nI (k + 1)))]) [2, 0] rfl ?_
                  refine J_cg (M' := (m_goS M' k)) (L' := L) rfl rfl rfl rfl ?_
                  exact ih19  (k + 1) ((m_goS M' k 77 22).toNatClampNeg) (fu - 1) (m_goS M' k) (by omega) (by omega) (by rcases s22 with q | q <;> rw [q, nI_clamp (by omega)] <;> omega) (by omega) (by rw [m_goS_ne (by decide)]; exact e87) (by rw [m_goS_ne (by decide)]; exact e88) (by rw [m_goS_ne (by decide)]; exact e89) (by rw [m_goS_slot (by decide)]; exact e18) (by rcases s22 with q | q <;> rw [q, nI_clamp (by omega)]) (hF.trans (m_go_s h24 hf h31))
  refine J_sub (loc' := [(0, .ref (a 77)), (1, .int 0)]) [1, 0] rfl ?_
  refine J_seti (y := nI 0) (loc' := [(0, .ref (a 77)), (1, .int (nI 0))]) 1 rfl rfl rfl ?_
  refine J_cg (M' := (jU (jU (jU M 77 20 (-6)) 77 21 (-6)) 77 22 0)) (L' := L) rfl rfl rfl rfl ?_
  exact key19 _ 0 0 61 (jU (jU (jU M 77 20 (-6)) 77 21 (-6)) 77 22 0) (Nat.lt_succ_self _) (by omega) (by omega) (by omega) (by rw [jU_ne (by decide), jU_ne (by decide), jU_ne (by decide)]) (by rw [jU_ne (by decide), jU_ne (by decide), jU_ne (by decide)]) (by rw [jU_ne (by decide), jU_ne (by decide), jU_ne (by decide)]) (by rw [jU_slot (by decide), jU_slot (by decide), jU_slot (by decide)]; exact hK) jU_same rfl
theorem m_scan_cell (M : jM) (i : Nat) (c : Nat) (h : c < 77 ∨ 90 ≤ c ∨ (78 ≤ c ∧ c ≤ 86)) : (m_scan M i).2 c = M c := m_scan_ne (by omega) i
/-- of a text without a FAULT: what was read is in order -/
def m_refR (M : jM) (n : Nat) : Int32 := if 0 ≤ (m_fault (m_keep M) n).1 then -5 else if 0 ≤ m_goMonths (m_fault (m_keep M) n).2 (m_kOf (m_fault (m_keep M) n).2) 77 20 then -3 else -6
def m_refM (M : jM) (n : Nat) : jM := if 0 ≤ (m_fault (m_keep M) n).1 then (m_fault (m_keep M) n).2 else m_goMonths (m_fault (m_keep M) n).2 (m_kOf (m_fault (m_keep M) n).2)
def m_wf (s : Int32 × jM) : Prop := ∀ k, k < m_kOf s.2 → x_lt (s.2 88 k) 6 ∧ (s.2 87 k = 2 → x_lt (s.2 89 k) 8) ∧ (s.2 87 k = 4 → x_lt (s.2 89 k) 6)
/-- the ONE of the ACT that is being read is one, where an ACT has begun -/
def m_wfp (s : Int32 × jM) : Prop := s.1 ≠ 0 → s.1 ≠ 3 → x_lt (s.2 88 (m_kOf s.2)) 6
theorem m_lt_sub {s : Int32} {b lo hi : Nat} (h : (lo : Int) ≤ s.toInt ∧ s.toInt ≤ (hi : Int)) (hb : b ≤ lo) (hh : hi < 2 ^ 30) {m : Nat} (hm : hi - b < m) (hm2 : m < 2 ^ 31) : x_lt (s - nI b) m := by
  obtain ⟨j, j1, -, j2⟩ := nI_sub_of h.1 h.2 hb hh
  exact x_lt_of j2 (by omega) hm2
theorem m_close_ok {M : jM} {k : Nat} {w z : Int32} (hk : k < 60) (ho : ∀ j, j < k → x_lt (M 88 j) 6 ∧ (M 87 j = 2 → x_lt (M 89 j) 8) ∧ (M 87 j = 4 → x_lt (M 89 j) 6)) (hp : x_lt (M 88 k) 6) (h2 : w = 2 → x_lt z 8) (h4 : w = 4 → x_lt z 6) (d : Int32) : m_wf (d, m_close M k w z) := by
  intro j hj
  have ek : m_kOf (m_close M k w z) = k + 1 := by unfold m_kOf; rw [m_close_18, nI_clamp (by omega)]
  simp only [ek] at hj
  have e88 : m_close M k w z 88 j = M 88 j := by rw [m_close_ne (by decide)]
  have e87 : j ≠ k → m_close M k w z 87 j = M 87 j := fun h => by unfold m_close; rw [jU_cell (by decide), jU_cell (by decide), jU_slot h]
  have e89 : j ≠ k → m_close M k w z 89 j = M 89 j := fun h => by unfold m_close; rw [jU_cell (by decide), jU_slot h, jU_cell (by decide)]
  show x_lt (m_close M k w z 88 j) 6 ∧ (m_close M k w z 87 j = 2 → x_lt (m_close M k w z 89 j) 8) ∧ (m_close M k w z 87 j = 4 → x_lt (m_close M k w z 89 j) 6)
  rw [e88]
  by_cases e : j = k
  · subst e
    have q7 : m_close M j w z 87 j = w := by unfold m_close; rw [jU_cell (by decide), jU_cell (by decide), jU_same]
    have q9 : m_close M j w z 89 j = z := by unfold m_close; rw [jU_cell (by decide), jU_same]
    rw [q7, q9]
    exact ⟨hp, h2, h4⟩
  · rw [e87 e, e89 e]
    exact ho j (by omega)
