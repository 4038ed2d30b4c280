theorem m_kOf_u {M : jM} {k : Nat} {v : Int32} : m_kOf (jU M 88 k v) = m_kOf M := by unfold m_kOf; rw [jU_cell (by decide)]
theorem m_wf_u {d d' : Int32} {M : jM} {v : Int32} (h : m_wf (d, M)) : m_wf (d', jU M 88 (m_kOf M) v) := by
  intro j hj
  simp only [m_kOf_u] at hj
  show x_lt (jU M 88 (m_kOf M) v 88 j) 6 ∧ (jU M 88 (m_kOf M) v 87 j = 2 → x_lt (jU M 88 (m_kOf M) v 89 j) 8) ∧ (jU M 88 (m_kOf M) v 87 j = 4 → x_lt (jU M 88 (m_kOf M) v 89 j) 6)
  rw [jU_slot (by omega), jU_cell (by decide), jU_cell (by decide)]
  exact h j hj
theorem m_wf_d {d d' : Int32} {M : jM} (h : m_wf (d, M)) : m_wf (d', M) := h
theorem m_bgW_lt (c : Int32) : x_lt (m_bgW c) 6 := by
  unfold m_bgW
  split
  · rename_i h; exact m_lt_sub (b := 65) (lo := 65) (hi := 70) h (by omega) (by omega) (by omega) (by omega)
  · exact ⟨by decide, rfl⟩
theorem m_wfp_0 {M : jM} : m_wfp (0, M) := fun h => absurd rfl h
theorem m_wfp_u {d : Int32} {M : jM} {v : Int32} (h : x_lt v 6) : m_wfp (d, jU M 88 (m_kOf M) v) := by
  intro _ _
  show x_lt (jU M 88 (m_kOf M) v 88 (m_kOf (jU M 88 (m_kOf M) v))) 6
  rw [m_kOf_u, jU_same]
  exact h
def m_dR (d : Int32) : Prop := d = 0 ∨ d = 1 ∨ d = 2 ∨ d = 3 ∨ d = 4 ∨ d = 5 ∨ d = 6 ∨ d = 7 ∨ d = 8
def m_all (s : Int32 × jM) : Prop := m_wf s ∧ m_wfp s ∧ m_dR s.1
theorem m_num_wf {M : jM} {w c t : Int32} (hk : m_kOf M < 60) (hw : m_wf (0, M)) (hp : x_lt (M 88 (m_kOf M)) 6) (h2 : w ≠ 2) (h4 : w ≠ 4) (h0 : 0 ≤ (m_number M (m_kOf M) w c t).1) : m_all (m_number M (m_kOf M) w c t) := by
  unfold m_number at h0 ⊢
  split
  · exact ⟨m_close_ok hk hw hp (fun e => absurd e h2) (fun e => absurd e h4) 0, m_wfp_0, Or.inl rfl⟩
  · rename_i q
    rw [if_neg q] at h0
    exact absurd (show (0 : Int32) ≤ -6 from h0) (by decide)
theorem m_step_wf {d : Int32} {M : jM} (hk : m_kOf M < 60) (hw : m_wf (d, M)) (hp : m_wfp (d, M)) (hd : m_dR d) (c : Int32) (h0 : 0 ≤ (m_readOn M (m_kOf M) d c).1) : m_all (m_readOn M (m_kOf M) d c) := by
  have hw0 : m_wf (0, M) := hw
  have hpp : d ≠ 0 → d ≠ 3 → x_lt (M 88 (m_kOf M)) 6 := hp
  rcases hd with rfl | rfl | rfl | rfl | rfl | rfl | rfl | rfl | rfl
  · have e : m_readOn M (m_kOf M) 0 c = m_begin M (m_kOf M) c := rfl
    rw [e] at h0 ⊢
    unfold m_begin at h0 ⊢
    simp only at h0 ⊢
    by_cases c33 : c = 33
    · rw [if_pos c33]
      exact ⟨m_wf_u hw, m_wfp_u (m_bgW_lt c), by simp [m_dR]⟩
    rw [if_neg c33] at h0 ⊢
    by_cases c43 : c = 43
    · rw [if_pos c43]
      exact ⟨m_wf_u hw, m_wfp_u (m_bgW_lt c), by simp [m_dR]⟩
    rw [if_neg c43] at h0 ⊢
    by_cases c46 : c = 46
    · rw [if_pos c46]
      have hw2 : m_wf (0, jU M 88 (m_kOf M) (m_bgW c)) := m_wf_u hw
      unfold m_wf at hw2
      simp only [m_kOf_u] at hw2
      exact ⟨m_close_ok hk hw2 (by rw [jU_same]; exact m_bgW_lt c) (fun e => absurd e (by decide)) (fun e => absurd e (by decide)) 0, m_wfp_0, Or.inl rfl⟩
    rw [if_neg c46] at h0 ⊢
    split
    · exact ⟨m_wf_u hw, m_wfp_u (m_bgW_lt c), by simp [m_dR]⟩
    · rename_i q
      rw [if_neg q] at h0
      exact absurd (show (0 : Int32) ≤ -6 from h0) (by decide)
  · have e : m_readOn M (m_kOf M) 1 c = (m_deed c, M) := rfl
    rw [e] at h0 ⊢
    refine ⟨hw, fun _ _ => hpp (by decide) (by decide), ?_⟩
    simp only at h0 ⊢
    unfold m_deed at h0 ⊢
    unfold m_dR
    repeat' split
    all_goals first | (simp; done) | (exfalso; revert h0; repeat' split; all_goals first | decide | contradiction)
  · have e : m_readOn M (m_kOf M) 2 c = m_number M (m_kOf M) 0 c 100 := rfl
    rw [e] at h0 ⊢
    exact m_num_wf hk hw0 (hpp (by decide) (by decide)) (by decide) (by decide) h0
  · have e : m_readOn M (m_kOf M) 3 c = m_forWhom M (m_kOf M) c := rfl
    rw [e] at h0 ⊢
    unfold m_forWhom at h0 ⊢
    simp only at h0
    split at h0
    · rename_i q
      rw [if_pos q]
      exact ⟨m_wf_u hw, m_wfp_u (m_lt_sub (b := 65) (lo := 65) (hi := 70) q (by omega) (by omega) (by omega) (by omega)), by simp [m_dR]⟩
    · exact absurd (show (0 : Int32) ≤ -6 from h0) (by decide)
  · have e : m_readOn M (m_kOf M) 4 c = m_number M (m_kOf M) 1 c 100 := rfl
    rw [e] at h0 ⊢
    exact m_num_wf hk hw0 (hpp (by decide) (by decide)) (by decide) (by decide) h0
  · have e : m_readOn M (m_kOf M) 5 c = (if 48 ≤ c.toInt ∧ c.toInt ≤ 55 then (0, m_close M (m_kOf M) 2 (c - 48)) else (-6, M)) := rfl
    rw [e] at h0 ⊢
    split
    · rename_i q
      exact ⟨m_close_ok hk hw0 (hpp (by decide) (by decide)) (fun _ => m_lt_sub (b := 48) (lo := 48) (hi := 55) q (by omega) (by omega) (by omega) (by omega)) (fun e => absurd e (by decide)) 0, m_wfp_0, Or.inl rfl⟩
    · rename_i q
      rw [if_neg q] at h0
      exact absurd (show (0 : Int32) ≤ -6 from h0) (by decide)
  · have e : m_readOn M (m_kOf M) 6 c = m_number M (m_kOf M) 3 c 10 := rfl
    rw [e] at h0 ⊢
    exact m_num_wf hk hw0 (hpp (by decide) (by decide)) (by decide) (by decide) h0
  · have e : m_readOn M (m_kOf M) 7 c = (if 65 ≤ c.toInt ∧ c.toInt ≤ 70 then (0, m_close M (m_kOf M) 4 (c - 65)) else (-6, M)) := rfl
    rw [e] at h0 ⊢
    split
    · rename_i q
      exact ⟨m_close_ok hk hw0 (hpp (by decide) (by decide)) (fun e => absurd e (by decide)) (fun _ => m_lt_sub (b := 65) (lo := 65) (hi := 70) q (by omega) (by omega) (by omega) (by omega)) 0, m_wfp_0, Or.inl rfl⟩
    · rename_i q
      rw [if_neg q] at h0
      exact absurd (show (0 : Int32) ≤ -6 from h0) (by decide)
  · have e : m_readOn M (m_kOf M) 8 c = m_number M (m_kOf M) 5 c 100 := rfl
    rw [e] at h0 ⊢
    exact m_num_wf hk hw0 (hpp (by decide) (by decide)) (by decide) (by decide) h0
theorem m_scan_all {M : jM} : ∀ i, i ≤ 60 → (∀ j, j < i → 0 ≤ (m_scan M (j + 1)).1) → m_all (m_scan M i) := by
  intro i
  induction i with
  | zero =>
    intro _ _
    refine ⟨fun k hk => ?_, m_wfp_0, Or.inl rfl⟩
    have := (m_scan_k M 0 (by omega)).2
    omega
  | succ i ih =>
    intro hi h
    obtain ⟨h1, h2, h3⟩ := ih (by omega) (fun j hj => h j (by omega))
    have hk := (m_scan_k M i (by omega)).2
    exact m_step_wf (d := (m_scan M i).1) (M := (m_scan M i).2) (by omega) h1 h2 h3 (M 86 i) (h i (by omega))
theorem nI_nn {i : Nat} (h : i < 2 ^ 31) : 0 ≤ nI i := nI_pos' h
/-- a text without a FAULT, as the reference reads it -/
theorem m_fault_ok {M : jM} {n : Nat} (hn : n ≤ 60) (h : ¬ 0 ≤ (m_fault M n).1) : (∀ j, j < n → 0 ≤ (m_scan M (j + 1)).1) ∧ (m_scan M n).1 = 0 ∧ m_fault M n = (-6, (m_scan M n).2) := by
  have key : ∀ r i, i + r = n → m_fault M n = m_fp M n r i → (∀ j, j < i → 0 ≤ (m_scan M (j + 1)).1) → (∀ j, j < n → 0 ≤ (m_scan M (j + 1)).1) ∧ (m_scan M n).1 = 0 ∧ m_fault M n = (-6, (m_scan M n).2) := by
    intro r
    induction r with
    | zero =>
      intro i hi e hj
      have ei : i = n := by omega
      subst ei
      rw [m_fp] at e
      refine ⟨hj, ?_, ?_⟩
      · by_cases q : (m_scan M i).1 = 0
        · exact q
        · rw [e, if_neg q] at h
          exact absurd (nI_nn (by omega)) h
      · by_cases q : (m_scan M i).1 = 0
        · rw [e, if_pos q]
        · rw [e, if_neg q] at h
          exact absurd (nI_nn (by omega)) h
    | succ r ih =>
      intro i hi e hj
      rw [m_fp] at e
      by_cases q : 0 ≤ (m_scan M (i + 1)).1
      · rw [if_pos q] at e
        exact ih (i + 1) (by omega) e (fun j hj2 => by
          by_cases w : j = i
          · subst w; exact q
          · exact hj j (by omega))
      · rw [if_neg q] at e
        rw [e] at h
        exact absurd (nI_nn (by omega)) h
  exact key n 0 (by omega) rfl (fun j hj => absurd hj (Nat.not_lt_zero j))
theorem m_fault_k (M : jM) {n : Nat} (hn : n ≤ 60) : (m_fault M n).2 77 18 = nI (m_kOf (m_fault M n).2) ∧ m_kOf (m_fault M n).2 ≤ 60 := by
  have key : ∀ r i, i + r = n → (m_fp M n r i).2 77 18 = nI (m_kOf (m_fp M n r i).2) ∧ m_kOf (m_fp M n r i).2 ≤ 60 := by
    intro r
    induction r with
    | zero =>
      intro i hi
      rw [m_fp]
      have := m_scan_k M i (by omega)
      exact ⟨this.1, Nat.le_trans this.2 (by omega)⟩
    | succ r ih =>
      intro i hi
      rw [m_fp]
      by_cases q : 0 ≤ (m_scan M (i + 1)).1
      · rw [if_pos q]; exact ih (i + 1) (by omega)
      · rw [if_neg q]
        have := m_scan_k M (i + 1) (by omega)
        exact ⟨this.1, Nat.le_trans this.2 (by omega)⟩
  exact key n 0 (by omega)
theorem m_fault_all {M : jM} {n : Nat} (hn : n ≤ 60) (h : ¬ 0 ≤ (m_fault M n).1) : m_ok (m_fault M n).2 (m_kOf (m_fault M n).2) := by
  obtain ⟨h1, h2, h3⟩ := m_fault_ok hn h
  rw [h3]
  exact (m_scan_all n hn h1).1
theorem m_keep_ne {M : jM} {c : Nat} (h : c ≠ 90) : m_keep M c = M c := by
  funext j; unfold m_keep; rw [if_neg h]
set_option maxHeartbeats 4000000 in
set_option maxRecDepth 10000 in
theorem c_X8_refusal (l : Launch) (D : va_G) (a : Nat → Nat) (g : Nat → ClassId) (M : jM) (L : jL) (n : Nat) (hn : M 77 14 = nI n) (hn60 : n ≤ 60)  : jK l D a g yX8_refusal cX8_refusal 1 (some .int) 6 132 [.ref (a 77)] M L (some (.int (m_refR M n))) (m_refM M n) L := by
  refine jMeth (by decide) (Nat.le_of_ble_eq_true rfl) ?_
  intro G hX hZ
  refine J_cg (loc' := [(0, .ref (a 77))]) rfl rfl rfl rfl ?_
  refine J_aload_n hX 0 dX8_refusal_0 rfl ?_
  refine J_callV hX 77 [] [] dX8_refusal_1 (c_X8_keepNow l D a g M L ) lk_X8_212 jc_77 rfl rfl rfl (Nat.le_of_ble_eq_true rfl) (Nat.le_of_ble_eq_true rfl) (Nat.le_of_ble_eq_true rfl) (J_eq (st := []) rfl ?_)
  refine J_aload_n hX 0 dX8_refusal_4 rfl ?_
  refine J_callV hX 77 [] [] dX8_refusal_5 (c_X8_fault l D a g (m_keep M) L n (by rw [m_keep_ne (by decide)]; exact hn) hn60) lk_X8_215 jc_77 rfl rfl rfl (Nat.le_of_ble_eq_true rfl) (Nat.le_of_ble_eq_true rfl) (Nat.le_of_ble_eq_true rfl) (J_eq (st := [.int ((m_fault (m_keep M) n).1)]) rfl ?_)
  refine J_if_lt hX 14 dX8_refusal_8 (by decide) (fun h8 => ?_) (fun h8 => ?_)
  · skip
    have f0 : ¬ 0 ≤ (m_fault (m_keep M) n).1 := Int32.not_le.mpr h8
    have fk := m_fault_k (m_keep M) hn60
    refine J_aload_n hX 0 dX8_refusal_14 rfl ?_
    refine J_callV hX 77 [] [] dX8_refusal_15 (c_X8_goMonths l D a g ((m_fault (m_keep M) n).2) L (m_kOf (m_fault (m_keep M) n).2) fk.1 fk.2 (m_fault_all hn60 f0)) lk_X8_218 jc_77 rfl rfl rfl (Nat.le_of_ble_eq_true rfl) (Nat.le_of_ble_eq_true rfl) (Nat.le_of_ble_eq_true rfl) (J_eq (st := []) rfl ?_)
    refine J_aload_n hX 0 dX8_refusal_18 rfl ?_
    refine J_geti hX 77 20 dX8_refusal_19 jc_77 rfl rfl (by decide) inlX8 wm_16_8 ?_
    refine J_if_lt hX 30 dX8_refusal_22 (by decide) (fun h22 => ?_) (fun h22 => ?_)
    · skip
      refine J_bipush (v := (-6)) hX dX8_refusal_30 (by decide) ?_
      exact J_ret hX hZ dX8_refusal_32 rfl rfl ⟨by rw [m_refR, if_neg f0]; (first | rw [if_neg (Int32.not_le.mpr h22)] | rw [if_pos (Int32.not_lt.mp h22)]), by rw [m_refM, if_neg f0], rfl⟩
    · skip
      refine J_bipush (v := (-3)) hX dX8_refusal_25 (by decide) ?_
      refine J_goto hX 32 dX8_refusal_27 (by decide) ?_
      exact J_ret hX hZ dX8_refusal_32 rfl rfl ⟨by rw [m_refR, if_neg f0]; (first | rw [if_neg (Int32.not_le.mpr h22)] | rw [if_pos (Int32.not_lt.mp h22)]), by rw [m_refM, if_neg f0], rfl⟩
  · skip
    refine J_bipush (v := (-5)) hX dX8_refusal_11 (by decide) ?_
    exact J_ret hX hZ dX8_refusal_13 rfl rfl ⟨by rw [m_refR, if_pos (Int32.not_lt.mp h8)], by rw [m_refM, if_pos (Int32.not_lt.mp h8)], rfl⟩
def m_judge (M : jM) (n : Nat) (k : Int32) : Int32 × jM := if (0 ≤ k.toInt ∧ k.toInt ≤ 2) then (let r := m_refR M n; let M1 := m_back (m_refM M n)
  ((if r = -5 then r else if k ≤ 1 then (if k = 0 then M1 77 20 else if k = 1 then M1 77 21 else M1 77 22) else if r = -3 then r else if k = 0 then M1 77 20 else if k = 1 then M1 77 21 else M1 77 22), M1)) else (-2, M)
set_option maxHeartbeats 4000000 in
set_option maxRecDepth 10000 in
theorem c_X8_judge (l : Launch) (D : va_G) (a : Nat → Nat) (g : Nat → ClassId) (M : jM) (L : jL) (n : Nat) (hn : M 77 14 = nI n) (hn60 : n ≤ 60) (k : Int32)  : jK l D a g yX8_judge cX8_judge 3 (some .int) 7 152 [.ref (a 77), .int k] M L (some (.int ((m_judge M n k).1))) ((m_judge M n k).2) L := by
  refine jMeth (by decide) (Nat.le_of_ble_eq_true rfl) ?_
  intro G hX hZ
  refine J_cg (loc' := [(0, .ref (a 77)), (1, .int k)]) rfl rfl rfl rfl ?_
  refine J_iload_n hX 1 dX8_judge_0 rfl ?_
  refine J_i2l hX dX8_judge_1 ?_
  refine J_lconst (v := 0) hX dX8_judge_2 (by decide) ?_
  refine J_ldc2 hX dX8_judge_3 wm_16_7 ?_
  refine J_callS hX [.long (Int32.toInt64 k), .long (0 : Int64), .long (2 : Int64)] [] dX8_judge_6 (c_X8_in l D a g M L k (0 : Int64) (2 : Int64)) lk_X8_80 rfl rfl (Nat.le_of_ble_eq_true rfl) (Nat.le_of_ble_eq_true rfl) (Nat.le_of_ble_eq_true rfl) (J_eq (st := [.int (jB (0 ≤ k.toInt ∧ k.toInt ≤ 2))]) rfl ?_)
  refine J_ifB_ne hX 15 dX8_judge_9 (by decide) (fun h9 => ?_) (fun h9 => ?_)
  · skip
    refine J_aload_n hX 0 dX8_judge_15 rfl ?_
    refine J_aload_n hX 0 dX8_judge_16 rfl ?_
    refine J_callV hX 77 [] [.ref (a 77)] dX8_judge_17 (c_X8_refusal l D a g M L n hn hn60) lk_X8_223 jc_77 rfl rfl rfl (Nat.le_of_ble_eq_true rfl) (Nat.le_of_ble_eq_true rfl) (Nat.le_of_ble_eq_true rfl) (J_eq (st := [.int (m_refR M n), .ref (a 77)]) rfl ?_)
    refine J_callV hX 77 [.int (m_refR M n)] [] dX8_judge_20 (c_X8_back l D a g (m_refM M n) L (m_refR M n)) lk_X8_226 jc_77 rfl rfl rfl (Nat.le_of_ble_eq_true rfl) (Nat.le_of_ble_eq_true rfl) (Nat.le_of_ble_eq_true rfl) (J_eq (st := [.int (m_refR M n)]) rfl ?_)
    refine J_istore_n (loc' := [(2, .int (m_refR M n)), (0, .ref (a 77)), (1, .int k)]) hX dX8_judge_23 (by decide) rfl ?_
    refine J_iload_n hX 0 dX8_judge_24 rfl ?_
    refine J_bipush (v := (-5)) hX dX8_judge_25 (by decide) ?_
    refine J_icmp_eq hX 41 dX8_judge_27 (by decide) (fun h27 => ?_) (fun h27 => ?_)
    · skip
      refine J_iload_n hX 0 dX8_judge_41 rfl ?_
      exact J_ret hX hZ dX8_judge_42 rfl rfl ⟨by first | contradiction | simp [m_judge, h9, h27], by simp [m_judge, h9, h27], rfl⟩
    · skip
      refine J_iload_n hX 2 dX8_judge_30 rfl ?_
      refine J_iconst (v := 1) hX dX8_judge_31 (by decide) ?_
      refine J_icmp_le hX 43 dX8_judge_32 (by decide) (fun h32 => ?_) (fun h32 => ?_)
      · skip
        refine J_iload_n hX 2 dX8_judge_43 rfl ?_
        refine J_if_ne hX 54 dX8_judge_44 (by decide) (fun h44 => ?_) (fun h44 => ?_)
        · skip
          refine J_iload_n hX 2 dX8_judge_54 rfl ?_
          refine J_iconst (v := 1) hX dX8_judge_55 (by decide) ?_
          refine J_icmp_ne hX 66 dX8_judge_56 (by decide) (fun h56 => ?_) (fun h56 => ?_)
          · skip
            refine J_aload_n hX 1 dX8_judge_66 rfl ?_
            refine J_geti hX 77 22 dX8_judge_67 jc_77 rfl rfl (by decide) inlX8 wm_16_10 ?_
            exact J_ret hX hZ dX8_judge_70 rfl rfl ⟨by first | contradiction | simp [m_judge, h9, h27, h32, h44, h56], by simp [m_judge, h9, h27, h32, h44, h56], rfl⟩
          · skip
            refine J_aload_n hX 1 dX8_judge_59 rfl ?_
            refine J_geti hX 77 21 dX8_judge_60 jc_77 rfl rfl (by decide) inlX8 wm_16_9 ?_
            refine J_goto hX 70 dX8_judge_63 (by decide) ?_
            exact J_ret hX hZ dX8_judge_70 rfl rfl ⟨by first | contradiction | simp [m_judge, h9, h27, h32, h44, h56], by simp [m_judge, h9, h27, h32, h44, h56], rfl⟩
        · skip
          refine J_aload_n hX 1 dX8_judge_47 rfl ?_
          refine J_geti hX 77 20 dX8_judge_48 jc_77 rfl rfl (by decide) inlX8 wm_16_8 ?_
          refine J_goto hX 70 dX8_judge_51 (by decide) ?_
          exact J_ret hX hZ dX8_judge_70 rfl rfl ⟨by first | contradiction | simp [m_judge, h9, h27, h32, h44], by simp [m_judge, h9, h27, h32, h44], rfl⟩
      · skip
        refine J_iload_n hX 0 dX8_judge_35 rfl ?_
        refine J_bipush (v := (-3)) hX dX8_judge_36 (by decide) ?_
        refine J_icmp_ne hX 43 dX8_judge_38 (by decide) (fun h38 => ?_) (fun h38 => ?_)
        · skip
          refine J_iload_n hX 2 dX8_judge_43 rfl ?_
          refine J_if_ne hX 54 dX8_judge_44 (by decide) (fun h44 => ?_) (fun h44 => ?_)
          · skip
            refine J_iload_n hX 2 dX8_judge_54 rfl ?_
            refine J_iconst (v := 1) hX dX8_judge_55 (by decide) ?_
            refine J_icmp_ne hX 66 dX8_judge_56 (by decide) (fun h56 => ?_) (fun h56 => ?_)
            · skip
              refine J_aload_n hX 1 dX8_judge_66 rfl ?_
              refine J_geti hX 77 22 dX8_judge_67 jc_77 rfl rfl (by decide) inlX8 wm_16_10 ?_
              exact J_ret hX hZ dX8_judge_70 rfl rfl ⟨by first | contradiction | simp [m_judge, h9, h27, h32, h38, h44, h56], by simp [m_judge, h9, h27, h32, h38, h44, h56], rfl⟩
            · skip
              refine J_aload_n hX 1 dX8_judge_59 rfl ?_
              refine J_geti hX 77 21 dX8_judge_60 jc_77 rfl rfl (by decide) inlX8 wm_16_9 ?_
              refine J_goto hX 70 dX8_judge_63 (by decide) ?_
              exact J_ret hX hZ dX8_judge_70 rfl rfl ⟨by first | contradiction | simp [m_judge, h9, h27, h32, h38, h44, h56], by simp [m_judge, h9, h27, h32, h38, h44, h56], rfl⟩
          · skip
            refine J_aload_n hX 1 dX8_judge_47 rfl ?_
            refine J_geti hX 77 20 dX8_judge_48 jc_77 rfl rfl (by decide) inlX8 wm_16_8 ?_
            refine J_goto hX 70 dX8_judge_51 (by decide) ?_
            exact J_ret hX hZ dX8_judge_70 rfl rfl ⟨by first | contradiction | simp [m_judge, h9, h27, h32, h38, h44], by simp [m_judge, h9, h27, h32, h38, h44], rfl⟩
        · skip
          refine J_iload_n hX 0 dX8_judge_41 rfl ?_
          exact J_ret hX hZ dX8_judge_42 rfl rfl ⟨by first | contradiction | simp [m_judge, h9, h27, h32, h38], by simp [m_judge, h9, h27, h32, h38], rfl⟩
  · skip
    refine J_bipush (v := (-2)) hX dX8_judge_12 (by decide) ?_
    exact J_ret hX hZ dX8_judge_14 rfl rfl ⟨by first | contradiction | simp [m_judge, h9], by simp [m_judge, h9], rfl⟩
def m_behind (M : jM) (n : Nat) (o k : Int32) : Int32 × jM := if (0 ≤ o.toInt ∧ o.toInt ≤ 5) then (if (0 ≤ k.toInt ∧ k.toInt ≤ 3) then (let r := m_refR M n; let M1 := m_refM M n
  ((if r = -6 then m_ofOne M1 o.toNatClampNeg k else r), m_back M1)) else (-2, M)) else (-1, M)
set_option maxHeartbeats 4000000 in
set_option maxRecDepth 10000 in
theorem c_X8_behind (l : Launch) (D : va_G) (a : Nat → Nat) (g : Nat → ClassId) (M : jM) (L : jL) (n : Nat) (hn : M 77 14 = nI n) (hn60 : n ≤ 60) (o k : Int32)  : jK l D a g yX8_behind cX8_behind 4 (some .int) 7 152 [.ref (a 77), .int o, .int k] M L (some (.int ((m_behind M n o k).1))) ((m_behind M n o k).2) L := by
  refine jMeth (by decide) (Nat.le_of_ble_eq_true rfl) ?_
  intro G hX hZ
  refine J_cg (loc' := [(0, .ref (a 77)), (1, .int o), (2, .int k)]) rfl rfl rfl rfl ?_
  refine J_iload_n hX 1 dX8_behind_0 rfl ?_
  refine J_callS hX [.int o] [] dX8_behind_1 (c_X8_isOne l D a g M L o) lk_X8_84 rfl rfl (Nat.le_of_ble_eq_true rfl) (Nat.le_of_ble_eq_true rfl) (Nat.le_of_ble_eq_true rfl) (J_eq (st := [.int (jB (0 ≤ o.toInt ∧ o.toInt ≤ 5))]) rfl ?_)
  refine J_ifB_ne hX 9 dX8_behind_4 (by decide) (fun h4 => ?_) (fun h4 => ?_)
  · skip
    have io := jix h4
    have lo := jixl h4
    refine J_iload_n hX 2 dX8_behind_9 rfl ?_
    refine J_i2l hX dX8_behind_10 ?_
    refine J_lconst (v := 0) hX dX8_behind_11 (by decide) ?_
    refine J_ldc2 hX dX8_behind_12 wm_20_8 ?_
    refine J_callS hX [.long (Int32.toInt64 k), .long (0 : Int64), .long (3 : Int64)] [] dX8_behind_15 (c_X8_in l D a g M L k (0 : Int64) (3 : Int64)) lk_X8_80 rfl rfl (Nat.le_of_ble_eq_true rfl) (Nat.le_of_ble_eq_true rfl) (Nat.le_of_ble_eq_true rfl) (J_eq (st := [.int (jB (0 ≤ k.toInt ∧ k.toInt ≤ 3))]) rfl ?_)
    refine J_ifB_ne hX 24 dX8_behind_18 (by decide) (fun h18 => ?_) (fun h18 => ?_)
    · skip
      refine J_aload_n hX 0 dX8_behind_24 rfl ?_
      refine J_callV hX 77 [] [] dX8_behind_25 (c_X8_refusal l D a g M L n hn hn60) lk_X8_223 jc_77 rfl rfl rfl (Nat.le_of_ble_eq_true rfl) (Nat.le_of_ble_eq_true rfl) (Nat.le_of_ble_eq_true rfl) (J_eq (st := [.int (m_refR M n)]) rfl ?_)
      refine J_istore_n (loc' := [(3, .int (m_refR M n)), (0, .ref (a 77)), (1, .int o), (2, .int k)]) hX dX8_behind_28 (by decide) rfl ?_
      refine J_aload_n hX 1 dX8_behind_29 rfl ?_
      refine J_iload_n hX 0 dX8_behind_30 rfl ?_
      refine J_bipush (v := (-6)) hX dX8_behind_31 (by decide) ?_
      refine J_icmp_eq hX 40 dX8_behind_33 (by decide) (fun h33 => ?_) (fun h33 => ?_)
      · skip
        refine J_aload_n hX 1 dX8_behind_40 rfl ?_
        refine J_iload_n hX 2 dX8_behind_41 rfl ?_
        refine J_topi (y := nI o.toNatClampNeg) io ?_
        refine J_iload_n hX 3 dX8_behind_42 rfl ?_
        refine J_callV hX 77 [.int (nI o.toNatClampNeg), .int k] [.ref (a 77)] dX8_behind_43 (c_X8_ofOne l D a g (m_refM M n) L o.toNatClampNeg (by omega) k) lk_X8_237 jc_77 rfl rfl rfl (Nat.le_of_ble_eq_true rfl) (Nat.le_of_ble_eq_true rfl) (Nat.le_of_ble_eq_true rfl) (J_eq (st := [.int (m_ofOne (m_refM M n) o.toNatClampNeg k), .ref (a 77)]) rfl ?_)
        refine J_callV hX 77 [.int (m_ofOne (m_refM M n) o.toNatClampNeg k)] [] dX8_behind_46 (c_X8_back l D a g (m_refM M n) L (m_ofOne (m_refM M n) o.toNatClampNeg k)) lk_X8_226 jc_77 rfl rfl rfl (Nat.le_of_ble_eq_true rfl) (Nat.le_of_ble_eq_true rfl) (Nat.le_of_ble_eq_true rfl) (J_eq (st := [.int (m_ofOne (m_refM M n) o.toNatClampNeg k)]) rfl ?_)
        exact J_ret hX hZ dX8_behind_49 rfl rfl ⟨by first | contradiction | simp [m_behind, h4, h18, h33], by simp [m_behind, h4, h18, h33], rfl⟩
      · skip
        refine J_iload_n hX 0 dX8_behind_36 rfl ?_
        refine J_goto hX 46 dX8_behind_37 (by decide) ?_
        refine J_callV hX 77 [.int (m_refR M n)] [] dX8_behind_46 (c_X8_back l D a g (m_refM M n) L (m_refR M n)) lk_X8_226 jc_77 rfl rfl rfl (Nat.le_of_ble_eq_true rfl) (Nat.le_of_ble_eq_true rfl) (Nat.le_of_ble_eq_true rfl) (J_eq (st := [.int (m_refR M n)]) rfl ?_)
        exact J_ret hX hZ dX8_behind_49 rfl rfl ⟨by first | contradiction | simp [m_behind, h4, h18, h33], by simp [m_behind, h4, h18, h33], rfl⟩
    · skip
      refine J_bipush (v := (-2)) hX dX8_behind_21 (by decide) ?_
      exact J_ret hX hZ dX8_behind_23 rfl rfl ⟨by first | contradiction | simp [m_behind, h4, h18], by simp [m_behind, h4, h18], rfl⟩
  · skip
    refine J_iconst (v := (-1)) hX dX8_behind_7 (by decide) ?_
    exact J_ret hX hZ dX8_behind_8 rfl rfl ⟨by first | contradiction | simp [m_behind, h4], by simp [m_behind, h4], rfl⟩
def m_total (M : jM) (n : Nat) (k : Int32) : Int32 × jM := if (0 ≤ k.toInt ∧ k.toInt ≤ 5) then (let r := m_refR M n; let M1 := m_refM M n
  ((if r = -6 then m_ofAll M1 k else r), m_back M1)) else (-2, M)
set_option maxHeartbeats 4000000 in
set_option maxRecDepth 10000 in
theorem c_X8_total (l : Launch) (D : va_G) (a : Nat → Nat) (g : Nat → ClassId) (M : jM) (L : jL) (n : Nat) (hn : M 77 14 = nI n) (hn60 : n ≤ 60) (k : Int32)  : jK l D a g yX8_total cX8_total 3 (some .int) 7 152 [.ref (a 77), .int k] M L (some (.int ((m_total M n k).1))) ((m_total M n k).2) L := by
  refine jMeth (by decide) (Nat.le_of_ble_eq_true rfl) ?_
  intro G hX hZ
  refine J_cg (loc' := [(0, .ref (a 77)), (1, .int k)]) rfl rfl rfl rfl ?_
  refine J_iload_n hX 1 dX8_total_0 rfl ?_
  refine J_i2l hX dX8_total_1 ?_
  refine J_lconst (v := 0) hX dX8_total_2 (by decide) ?_
  refine J_ldc2 hX dX8_total_3 wm_6_14 ?_
  refine J_callS hX [.long (Int32.toInt64 k), .long (0 : Int64), .long (5 : Int64)] [] dX8_total_6 (c_X8_in l D a g M L k (0 : Int64) (5 : Int64)) lk_X8_80 rfl rfl (Nat.le_of_ble_eq_true rfl) (Nat.le_of_ble_eq_true rfl) (Nat.le_of_ble_eq_true rfl) (J_eq (st := [.int (jB (0 ≤ k.toInt ∧ k.toInt ≤ 5))]) rfl ?_)
  refine J_ifB_ne hX 15 dX8_total_9 (by decide) (fun h9 => ?_) (fun h9 => ?_)
  · skip
    refine J_aload_n hX 0 dX8_total_15 rfl ?_
    refine J_callV hX 77 [] [] dX8_total_16 (c_X8_refusal l D a g M L n hn hn60) lk_X8_223 jc_77 rfl rfl rfl (Nat.le_of_ble_eq_true rfl) (Nat.le_of_ble_eq_true rfl) (Nat.le_of_ble_eq_true rfl) (J_eq (st := [.int (m_refR M n)]) rfl ?_)
    refine J_istore_n (loc' := [(2, .int (m_refR M n)), (0, .ref (a 77)), (1, .int k)]) hX dX8_total_19 (by decide) rfl ?_
    refine J_aload_n hX 1 dX8_total_20 rfl ?_
    refine J_iload_n hX 0 dX8_total_21 rfl ?_
    refine J_bipush (v := (-6)) hX dX8_total_22 (by decide) ?_
    refine J_icmp_eq hX 31 dX8_total_24 (by decide) (fun h24 => ?_) (fun h24 => ?_)
    · skip
      refine J_aload_n hX 1 dX8_total_31 rfl ?_
      refine J_iload_n hX 2 dX8_total_32 rfl ?_
      refine J_callV hX 77 [.int k] [.ref (a 77)] dX8_total_33 (c_X8_ofAll l D a g (m_refM M n) L k) lk_X8_240 jc_77 rfl rfl rfl (Nat.le_of_ble_eq_true rfl) (Nat.le_of_ble_eq_true rfl) (Nat.le_of_ble_eq_true rfl) (J_eq (st := [.int (m_ofAll (m_refM M n) k), .ref (a 77)]) rfl ?_)
      refine J_callV hX 77 [.int (m_ofAll (m_refM M n) k)] [] dX8_total_36 (c_X8_back l D a g (m_refM M n) L (m_ofAll (m_refM M n) k)) lk_X8_226 jc_77 rfl rfl rfl (Nat.le_of_ble_eq_true rfl) (Nat.le_of_ble_eq_true rfl) (Nat.le_of_ble_eq_true rfl) (J_eq (st := [.int (m_ofAll (m_refM M n) k)]) rfl ?_)
      exact J_ret hX hZ dX8_total_39 rfl rfl ⟨by first | contradiction | simp [m_total, h9, h24], by simp [m_total, h9, h24], rfl⟩
    · skip
      refine J_iload_n hX 0 dX8_total_27 rfl ?_
      refine J_goto hX 36 dX8_total_28 (by decide) ?_
      refine J_callV hX 77 [.int (m_refR M n)] [] dX8_total_36 (c_X8_back l D a g (m_refM M n) L (m_refR M n)) lk_X8_226 jc_77 rfl rfl rfl (Nat.le_of_ble_eq_true rfl) (Nat.le_of_ble_eq_true rfl) (Nat.le_of_ble_eq_true rfl) (J_eq (st := [.int (m_refR M n)]) rfl ?_)
      exact J_ret hX hZ dX8_total_39 rfl rfl ⟨by first | contradiction | simp [m_total, h9, h24], by simp [m_total, h9, h24], rfl⟩
  · skip
    refine J_bipush (v := (-2)) hX dX8_total_12 (by decide) ?_
    exact J_ret hX hZ dX8_total_14 rfl rfl ⟨by first | contradiction | simp [m_total, h9], by simp [m_total, h9], rfl⟩
def m_done (M : jM) (n : Nat) : Int32 × jM := if m_refR M n = -6 then (jU (m_refM M n) 77 14 0 77 18, jU (m_refM M n) 77 14 0) else (m_refR M n, m_back (m_refM M n))
set_option maxHeartbeats 4000000 in
set_option maxRecDepth 10000 in
theorem c_X8_done (l : Launch) (D : va_G) (a : Nat → Nat) (g : Nat → ClassId) (M : jM) (L : jL) (n : Nat) (hn : M 77 14 = nI n) (hn60 : n ≤ 60)  : jK l D a g yX8_done cX8_done 2 (some .int) 7 152 [.ref (a 77)] M L (some (.int ((m_done M n).1))) ((m_done M n).2) L := by
  refine jMeth (by decide) (Nat.le_of_ble_eq_true rfl) ?_
  intro G hX hZ
  refine J_cg (loc' := [(0, .ref (a 77))]) rfl rfl rfl rfl ?_
  refine J_aload_n hX 0 dX8_done_0 rfl ?_
  refine J_callV hX 77 [] [] dX8_done_1 (c_X8_refusal l D a g M L n hn hn60) lk_X8_223 jc_77 rfl rfl rfl (Nat.le_of_ble_eq_true rfl) (Nat.le_of_ble_eq_true rfl) (Nat.le_of_ble_eq_true rfl) (J_eq (st := [.int (m_refR M n)]) rfl ?_)
  refine J_istore_n (loc' := [(1, .int (m_refR M n)), (0, .ref (a 77))]) hX dX8_done_4 (by decide) rfl ?_
  refine J_iload_n hX 0 dX8_done_5 rfl ?_
  refine J_bipush (v := (-6)) hX dX8_done_6 (by decide) ?_
  refine J_icmp_eq hX 17 dX8_done_8 (by decide) (fun h8 => ?_) (fun h8 => ?_)
  · skip
    refine J_aload_n hX 1 dX8_done_17 rfl ?_
    refine J_iconst (v := 0) hX dX8_done_18 (by decide) ?_
    refine J_puti (ty := .int) hX 77 14 dX8_done_19 jc_77 rfl rfl (by decide) inlX8 wm_8_22 tyX8 tyX8_ok nmX8 rfl (by decide +kernel) rfl rfl ?_
    refine J_aload_n hX 1 dX8_done_22 rfl ?_
    refine J_geti hX 77 18 dX8_done_23 jc_77 rfl rfl (by decide) inlX8 wm_10_7 ?_
    exact J_ret hX hZ dX8_done_26 rfl rfl ⟨by first | contradiction | simp [m_done, h8], by simp [m_done, h8], rfl⟩
  · skip
    refine J_aload_n hX 1 dX8_done_11 rfl ?_
    refine J_iload_n hX 0 dX8_done_12 rfl ?_
    refine J_callV hX 77 [.int (m_refR M n)] [] dX8_done_13 (c_X8_back l D a g (m_refM M n) L (m_refR M n)) lk_X8_226 jc_77 rfl rfl rfl (Nat.le_of_ble_eq_true rfl) (Nat.le_of_ble_eq_true rfl) (Nat.le_of_ble_eq_true rfl) (J_eq (st := [.int (m_refR M n)]) rfl ?_)
    exact J_ret hX hZ dX8_done_16 rfl rfl ⟨by first | contradiction | simp [m_done, h8], by simp [m_done, h8], rfl⟩
def m_flF (f : Nat → Int32) (e : Nat) (v : Int32) : Nat → Nat → Int32
  | 0, _ => -6
  | r + 1, m => if v ≤ f m then m_flF f e v r (m + 1) else nI m
theorem m_flF_go {f : Nat → Int32} {e m : Nat} {v : Int32} (h : m < e) (h1 : v ≤ f m) : m_flF f e v (e - m) m = m_flF f e v (e - (m + 1)) (m + 1) := by
  rw [show e - m = (e - (m + 1)) + 1 by omega, m_flF, if_pos h1]
theorem m_flF_at {f : Nat → Int32} {e m : Nat} {v : Int32} (h : m < e) (h1 : ¬ v ≤ f m) : m_flF f e v (e - m) m = nI m := by
  rw [show e - m = (e - (m + 1)) + 1 by omega, m_flF, if_neg h1]
def m_eOf (M : jM) : Nat := (M 77 22).toNatClampNeg
def m_fell (M : jM) (n : Nat) (v : Int32) : Int32 × jM := if (0 ≤ v.toInt ∧ v.toInt ≤ 100) then (let r := m_refR M n; let M1 := m_back (m_refM M n)
  ((if r = -6 then m_flF (M1 91) (m_eOf M1) v (m_eOf M1) 0 else r), M1)) else (-2, M)
theorem m_go_22 {K : Nat} (hK : K ≤ 60) : ∀ f k e M, M 77 22 = nI e → e ≤ k → k ≤ K → ∃ e2, m_go K f k M 77 22 = nI e2 ∧ e2 ≤ K := by
  intro f
  induction f with
  | zero => intro k e M h1 h2 h3; exact ⟨e, h1, by omega⟩
  | succ f ih =>
    intro k e M h1 h2 h3
    rw [m_go]
    by_cases q : k < K
    · rw [if_pos q]
      by_cases b : 0 ≤ M 77 20
      · rw [if_pos b]; exact ⟨e, h1, by omega⟩
      · rw [if_neg b]
        rcases m_goS_22 (k := k) h1 with z | z
        · exact ih (k + 1) e _ z (by omega) (by omega)
        · exact ih (k + 1) (e + 1) _ z (by omega) (by omega)
    · rw [if_neg q]; exact ⟨e, h1, by omega⟩
theorem m_back_slot {M : jM} {i : Nat} (h : 9 ≤ i) : m_back M 77 i = M 77 i := by
  unfold m_back m_bk3 m_bk2 m_bk1
  rw [jU_slot (by omega), jU_slot (by omega), jU_slot (by omega), jU_slot (by omega)]
  simp
theorem m_back_ne {M : jM} {c : Nat} (h : c < 77 ∨ c = 81 ∨ 83 ≤ c) : m_back M c = M c := by
  unfold m_back
  rw [jU_ne (by omega), jU_ne (by omega), jU_ne (by omega), jU_ne (by omega)]
  funext i
  unfold m_bk3 m_bk2 m_bk1
  rw [if_neg (by omega), if_neg (by omega), if_neg (by omega), if_neg (by omega)]
theorem m_ref_22 {M : jM} {n : Nat} (hn : n ≤ 60) (h : m_refR M n = -6) : m_back (m_refM M n) 77 22 = nI (m_eOf (m_back (m_refM M n))) ∧ m_eOf (m_back (m_refM M n)) ≤ 60 := by
  have h0 : ¬ 0 ≤ (m_fault (m_keep M) n).1 := fun q => by rw [m_refR, if_pos q] at h; exact absurd h (by decide)
  have hM : m_refM M n = m_goMonths (m_fault (m_keep M) n).2 (m_kOf (m_fault (m_keep M) n).2) := by rw [m_refM, if_neg h0]
  have fk := m_fault_k (m_keep M) hn
  obtain ⟨e2, z1, z2⟩ := m_go_22 fk.2 61 0 0 (jU (jU (jU (m_fault (m_keep M) n).2 77 20 (-6)) 77 21 (-6)) 77 22 0) jU_same (by omega) (by omega)
  have z : m_back (m_refM M n) 77 22 = nI e2 := by rw [m_back_slot (by decide), hM]; exact z1
  have ee : m_eOf (m_back (m_refM M n)) = e2 := by unfold m_eOf; rw [z, nI_clamp (by omega)]
  rw [ee]
  exact ⟨z, by omega⟩
set_option maxHeartbeats 4000000 in
set_option maxRecDepth 10000 in
theorem c_X8_fell (l : Launch) (D : va_G) (a : Nat → Nat) (g : Nat → ClassId) (M : jM) (L : jL) (n : Nat) (hn : M 77 14 = nI n) (hn60 : n ≤ 60) (v : Int32)  : jK l D a g yX8_fell cX8_fell 4 (some .int) 7 152 [.ref (a 77), .int v] M L (some (.int ((m_fell M n v).1))) ((m_fell M n v).2) L := by
  refine jMeth (by decide) (Nat.le_of_ble_eq_true rfl) ?_
  intro G hX hZ
  refine J_cg (loc' := [(0, .ref (a 77)), (1, .int v)]) rfl rfl rfl rfl ?_
  refine J_iload_n hX 1 dX8_fell_0 rfl ?_
  refine J_i2l hX dX8_fell_1 ?_
  refine J_lconst (v := 0) hX dX8_fell_2 (by decide) ?_
  refine J_ldc2 hX dX8_fell_3 wm_18_6 ?_
  refine J_callS hX [.long (Int32.toInt64 v), .long (0 : Int64), .long (100 : Int64)] [] dX8_fell_6 (c_X8_in l D a g M L v (0 : Int64) (100 : Int64)) lk_X8_80 rfl rfl (Nat.le_of_ble_eq_true rfl) (Nat.le_of_ble_eq_true rfl) (Nat.le_of_ble_eq_true rfl) (J_eq (st := [.int (jB (0 ≤ v.toInt ∧ v.toInt ≤ 100))]) rfl ?_)
  refine J_ifB_ne hX 15 dX8_fell_9 (by decide) (fun h9 => ?_) (fun h9 => ?_)
  · skip
    refine J_aload_n hX 0 dX8_fell_15 rfl ?_
    refine J_aload_n hX 0 dX8_fell_16 rfl ?_
    refine J_callV hX 77 [] [.ref (a 77)] dX8_fell_17 (c_X8_refusal l D a g M L n hn hn60) lk_X8_223 jc_77 rfl rfl rfl (Nat.le_of_ble_eq_true rfl) (Nat.le_of_ble_eq_true rfl) (Nat.le_of_ble_eq_true rfl) (J_eq (st := [.int (m_refR M n), .ref (a 77)]) rfl ?_)
    refine J_callV hX 77 [.int (m_refR M n)] [] dX8_fell_20 (c_X8_back l D a g (m_refM M n) L (m_refR M n)) lk_X8_226 jc_77 rfl rfl rfl (Nat.le_of_ble_eq_true rfl) (Nat.le_of_ble_eq_true rfl) (Nat.le_of_ble_eq_true rfl) (J_eq (st := [.int (m_refR M n)]) rfl ?_)
    refine J_istore_n (loc' := [(2, .int (m_refR M n)), (0, .ref (a 77)), (1, .int v)]) hX dX8_fell_23 (by decide) rfl ?_
    refine J_iload_n hX 0 dX8_fell_24 rfl ?_
    refine J_bipush (v := (-6)) hX dX8_fell_25 (by decide) ?_
    refine J_icmp_eq hX 32 dX8_fell_27 (by decide) (fun h27 => ?_) (fun h27 => ?_)
    · skip
      have rz := m_ref_22 hn60 h27
      refine J_iconst (v := 0) hX dX8_fell_32 (by decide) ?_
      refine J_istore_n (loc' := [(3, .int 0), (2, .int (m_refR M n)), (0, .ref (a 77)), (1, .int v)]) hX dX8_fell_33 (by decide) rfl ?_
      have key34 : ∀ (fu34 : Nat) (i : Nat), m_eOf (m_back (m_refM M n)) - i < fu34 → (i ≤ m_eOf (m_back (m_refM M n))) → ((m_fell M n v).1 = m_flF (m_back (m_refM M n) 91) (m_eOf (m_back (m_refM M n))) v (m_eOf (m_back (m_refM M n)) - i) i) → J l D a g G 4 (m_back (m_refM M n)) L 34 [(0, .ref (a 77)), (1, .int v), (3, .int (nI i))] [] := by
        intro fu34
        induction fu34 with
        | zero => intro i hmu; exact absurd hmu (Nat.not_lt_zero _)
        | succ fu34 ih34 =>
          intro i hmu34 hi he
          refine J_iload_n hX 2 dX8_fell_34 rfl ?_
          refine J_aload_n hX 0 dX8_fell_35 rfl ?_
          refine J_geti hX 77 22 dX8_fell_36 jc_77 rfl rfl (by decide) inlX8 wm_16_10 ?_
          refine J_topi (y := nI (m_eOf (m_back (m_refM M n)))) rz.1 ?_
          refine J_cmpN_ge hX 60 i (m_eOf (m_back (m_refM M n))) dX8_fell_39 (by decide) rfl rfl (by omega) (by omega) (fun h39 => ?_) (fun h39 => ?_)
          · skip
            refine J_bipush (v := (-6)) hX dX8_fell_60 (by decide) ?_
            exact J_ret hX hZ dX8_fell_62 rfl rfl ⟨by rw [he, show m_eOf (m_back (m_refM M n)) - i = 0 by omega, m_flF], by rw [m_fell, if_pos h9], rfl⟩
          · skip
            refine J_aload_n hX 0 dX8_fell_42 rfl ?_
            refine J_getr hX 77 23 dX8_fell_43 jc_77 rfl rfl (by decide) inlX8 wm_5_8 ?_
            refine J_iload_n hX 2 dX8_fell_46 rfl ?_
            refine J_iald hX 91 i dX8_fell_47 jc_91 rfl (by omega) (by omega) ?_
            refine J_iload_n hX 1 dX8_fell_48 rfl ?_
            refine J_icmp_ge hX 54 dX8_fell_49 (by decide) (fun h49 => ?_) (fun h49 => ?_)
            · skip
              refine J_iinc (v := nI (i + 1)) (loc' := [(3, .int (nI (i + 1))), (0, .ref (a 77)), (1, .int v)]) hX 2 dX8_fell_54 rfl (jinc i) (by decide) rfl ?_
              refine J_goto hX 34 dX8_fell_57 (by decide) ?_
              refine J_sub (loc' := [(0, .ref (a 77)), (1, .int v), (3, .int (nI (i + 1)))]) [1, 2, 0] rfl ?_
              exact ih34  (i + 1) (by omega) (by omega) (he.trans (m_flF_go h39 h49))
            · skip
              refine J_iload_n hX 2 dX8_fell_52 rfl ?_
              exact J_ret hX hZ dX8_fell_53 rfl rfl ⟨by rw [he, m_flF_at h39 h49], by rw [m_fell, if_pos h9], rfl⟩
      refine J_sub (loc' := [(0, .ref (a 77)), (1, .int v), (3, .int 0)]) [2, 3, 0] rfl ?_
      refine J_seti (y := nI 0) (loc' := [(0, .ref (a 77)), (1, .int v), (3, .int (nI 0))]) 2 rfl rfl rfl ?_
      exact key34 _ 0 (Nat.lt_succ_self _) (Nat.zero_le _) (by rw [m_fell, if_pos h9]; simp [h27])
    · skip
      refine J_iload_n hX 0 dX8_fell_30 rfl ?_
      exact J_ret hX hZ dX8_fell_31 rfl rfl ⟨by first | contradiction | simp [m_fell, h9, h27], by simp [m_fell, h9, h27], rfl⟩
  · skip
    refine J_bipush (v := (-2)) hX dX8_fell_12 (by decide) ?_
    exact J_ret hX hZ dX8_fell_14 rfl rfl ⟨by first | contradiction | simp [m_fell, h9], by simp [m_fell, h9], rfl⟩
