/-! ===== images: reading back ===== -/
theorem rd_pv {M : jM} {k : Nat} {v : Int32} (h : M 77 33 = 0) : m_pv M k v = M 98 k := if_pos h
theorem rd_row {M : jM} {k r : Nat} (h : M 77 33 = 0) (h7 : r ≠ 77) (h8 : r ≠ 98) : ∀ m, (∀ c, c ≠ 77 → c ≠ r → m_row M k r m c = M c) ∧ (∀ j, j ≠ 32 → m_row M k r m 77 j = M 77 j) ∧ (∀ i, i < m → m_row M k r m r i = M 98 (k + i)) := by
  intro m
  induction m with
  | zero => exact ⟨fun _ _ _ => rfl, fun _ _ => rfl, fun i hi => absurd hi (Nat.not_lt_zero i)⟩
  | succ m ih =>
    obtain ⟨a1, a2, a3⟩ := ih
    have w0 : m_row M k r m 77 33 = 0 := by rw [a2 33 (by decide)]; exact h
    have e8 : m_row M k r m 98 = M 98 := a1 98 (by decide) (Ne.symm h8)
    have es : m_row M k r (m + 1) = jU (jU (m_row M k r m) 77 32 (nI (k + m + 1))) r m (M 98 (k + m)) := by
      rw [m_row, m_pM, rd_pv w0, jU_id, e8]
    rw [es]
    refine ⟨fun c h1 h2 => ?_, fun j hj => ?_, fun i hi => ?_⟩
    · rw [jU_ne h2, jU_ne h1, a1 c h1 h2]
    · rw [jU_cell (Ne.symm h7), jU_slot hj]; exact a2 j hj
    · by_cases e : i = m
      · subst e; rw [jU_same]
      · rw [jU_slot e, jU_cell h7]; exact a3 i (by omega)
theorem rd_sc {M : jM} {k f : Nat} (h : M 77 33 = 0) : (∀ c, c ≠ 77 → m_sc M k f c = M c) ∧ (∀ j, j ≠ 32 → j ≠ f → m_sc M k f 77 j = M 77 j) ∧ m_sc M k f 77 f = M 98 k := by
  unfold m_sc m_pM
  rw [rd_pv h, jU_id]
  refine ⟨fun c h1 => ?_, fun j hj hf => ?_, ?_⟩
  · rw [jU_ne h1, jU_ne h1]
  · rw [jU_slot hf, jU_slot hj]
  · rw [jU_same]
def RB (N B : jM) (k : Nat) : Prop := (∀ c, 85 < c → B c = N c) ∧ (∀ j, j ≠ 5 → j ≠ 6 → j ≠ 7 → j ≠ 8 → j ≠ 12 → j ≠ 32 → B 77 j = N 77 j) ∧ B 77 5 = N 98 (k + 0) ∧ B 77 6 = N 98 (k + 1) ∧ B 77 7 = N 98 (k + 2) ∧ B 77 8 = N 98 (k + 3) ∧ B 77 12 = N 98 (k + 4) ∧ (∀ i, i < 6 → B 78 i = N 98 (k + 5 + i)) ∧ (∀ i, i < 6 → B 79 i = N 98 (k + 11 + i)) ∧ (∀ i, i < 36 → B 80 i = N 98 (k + 17 + i)) ∧ (∀ i, i < 8 → B 81 i = N 98 (k + 53 + i)) ∧ (∀ i, i < 8 → B 82 i = N 98 (k + 61 + i)) ∧ (∀ i, i < 8 → B 83 i = N 98 (k + 69 + i)) ∧ (∀ i, i < 8 → B 84 i = N 98 (k + 77 + i)) ∧ (∀ i, i < 8 → B 85 i = N 98 (k + 85 + i))
theorem rd_all {N : jM} {k : Nat} (h : N 77 33 = 0) : RB N (m_pA8 N k) k := by
  have z0 : N 77 33 = 0 := h
  have e0 : N 98 = N 98 := rfl
  obtain ⟨p1, q1, v1⟩ := rd_sc (M := N) (k := k) (f := 5) z0
  have z1 : (m_sc N k 5) 77 33 = 0 := by rw [q1 33 (by decide) (by decide)]; exact z0
  have e1 : (m_sc N k 5) 98 = N 98 := by rw [p1 98 (by decide), e0]
  generalize hB1 : m_sc N k 5 = B1 at *
  obtain ⟨p2, q2, v2⟩ := rd_sc (M := B1) (k := (k + 1)) (f := 6) z1
  have z2 : (m_sc B1 (k + 1) 6) 77 33 = 0 := by rw [q2 33 (by decide) (by decide)]; exact z1
  have e2 : (m_sc B1 (k + 1) 6) 98 = N 98 := by rw [p2 98 (by decide), e1]
  generalize hB2 : m_sc B1 (k + 1) 6 = B2 at *
  obtain ⟨p3, q3, v3⟩ := rd_sc (M := B2) (k := (k + 2)) (f := 7) z2
  have z3 : (m_sc B2 (k + 2) 7) 77 33 = 0 := by rw [q3 33 (by decide) (by decide)]; exact z2
  have e3 : (m_sc B2 (k + 2) 7) 98 = N 98 := by rw [p3 98 (by decide), e2]
  generalize hB3 : m_sc B2 (k + 2) 7 = B3 at *
  obtain ⟨p4, q4, v4⟩ := rd_sc (M := B3) (k := (k + 3)) (f := 8) z3
  have z4 : (m_sc B3 (k + 3) 8) 77 33 = 0 := by rw [q4 33 (by decide) (by decide)]; exact z3
  have e4 : (m_sc B3 (k + 3) 8) 98 = N 98 := by rw [p4 98 (by decide), e3]
  generalize hB4 : m_sc B3 (k + 3) 8 = B4 at *
  obtain ⟨p5, q5, v5⟩ := rd_sc (M := B4) (k := (k + 4)) (f := 12) z4
  have z5 : (m_sc B4 (k + 4) 12) 77 33 = 0 := by rw [q5 33 (by decide) (by decide)]; exact z4
  have e5 : (m_sc B4 (k + 4) 12) 98 = N 98 := by rw [p5 98 (by decide), e4]
  generalize hB5 : m_sc B4 (k + 4) 12 = B5 at *
  obtain ⟨p6, q6, v6⟩ := rd_row (M := B5) (k := (k + 5)) (r := 78) z5 (by decide) (by decide) 6
  have z6 : (m_row B5 (k + 5) 78 6) 77 33 = 0 := by rw [q6 33 (by decide)]; exact z5
  have e6 : (m_row B5 (k + 5) 78 6) 98 = N 98 := by rw [p6 98 (by decide) (by decide), e5]
  generalize hB6 : m_row B5 (k + 5) 78 6 = B6 at *
  obtain ⟨p7, q7, v7⟩ := rd_row (M := B6) (k := (k + 11)) (r := 79) z6 (by decide) (by decide) 6
  have z7 : (m_row B6 (k + 11) 79 6) 77 33 = 0 := by rw [q7 33 (by decide)]; exact z6
  have e7 : (m_row B6 (k + 11) 79 6) 98 = N 98 := by rw [p7 98 (by decide) (by decide), e6]
  generalize hB7 : m_row B6 (k + 11) 79 6 = B7 at *
  obtain ⟨p8, q8, v8⟩ := rd_row (M := B7) (k := (k + 17)) (r := 80) z7 (by decide) (by decide) 36
  have z8 : (m_row B7 (k + 17) 80 36) 77 33 = 0 := by rw [q8 33 (by decide)]; exact z7
  have e8 : (m_row B7 (k + 17) 80 36) 98 = N 98 := by rw [p8 98 (by decide) (by decide), e7]
  generalize hB8 : m_row B7 (k + 17) 80 36 = B8 at *
  obtain ⟨p9, q9, v9⟩ := rd_row (M := B8) (k := (k + 53)) (r := 81) z8 (by decide) (by decide) 8
  have z9 : (m_row B8 (k + 53) 81 8) 77 33 = 0 := by rw [q9 33 (by decide)]; exact z8
  have e9 : (m_row B8 (k + 53) 81 8) 98 = N 98 := by rw [p9 98 (by decide) (by decide), e8]
  generalize hB9 : m_row B8 (k + 53) 81 8 = B9 at *
  obtain ⟨p10, q10, v10⟩ := rd_row (M := B9) (k := (k + 61)) (r := 82) z9 (by decide) (by decide) 8
  have z10 : (m_row B9 (k + 61) 82 8) 77 33 = 0 := by rw [q10 33 (by decide)]; exact z9
  have e10 : (m_row B9 (k + 61) 82 8) 98 = N 98 := by rw [p10 98 (by decide) (by decide), e9]
  generalize hB10 : m_row B9 (k + 61) 82 8 = B10 at *
  obtain ⟨p11, q11, v11⟩ := rd_row (M := B10) (k := (k + 69)) (r := 83) z10 (by decide) (by decide) 8
  have z11 : (m_row B10 (k + 69) 83 8) 77 33 = 0 := by rw [q11 33 (by decide)]; exact z10
  have e11 : (m_row B10 (k + 69) 83 8) 98 = N 98 := by rw [p11 98 (by decide) (by decide), e10]
  generalize hB11 : m_row B10 (k + 69) 83 8 = B11 at *
  obtain ⟨p12, q12, v12⟩ := rd_row (M := B11) (k := (k + 77)) (r := 84) z11 (by decide) (by decide) 8
  have z12 : (m_row B11 (k + 77) 84 8) 77 33 = 0 := by rw [q12 33 (by decide)]; exact z11
  have e12 : (m_row B11 (k + 77) 84 8) 98 = N 98 := by rw [p12 98 (by decide) (by decide), e11]
  generalize hB12 : m_row B11 (k + 77) 84 8 = B12 at *
  obtain ⟨p13, q13, v13⟩ := rd_row (M := B12) (k := (k + 85)) (r := 85) z12 (by decide) (by decide) 8
  have z13 : (m_row B12 (k + 85) 85 8) 77 33 = 0 := by rw [q13 33 (by decide)]; exact z12
  have e13 : (m_row B12 (k + 85) 85 8) 98 = N 98 := by rw [p13 98 (by decide) (by decide), e12]
  generalize hB13 : m_row B12 (k + 85) 85 8 = B13 at *
  have eB : m_pA8 N k = B13 := by unfold m_pA8 m_pA7 m_pA6 m_pA5 m_pA4 m_pA3 m_pA2 m_pA1 m_pA0; rw [hB1, hB2, hB3, hB4, hB5, hB6, hB7, hB8, hB9, hB10, hB11, hB12, hB13]
  rw [eB]
  refine ⟨fun c hc => ?_, fun j h5 h6 h7 h8 h12 h32 => ?_, ?_, ?_, ?_, ?_, ?_, fun i hi => ?_, fun i hi => ?_, fun i hi => ?_, fun i hi => ?_, fun i hi => ?_, fun i hi => ?_, fun i hi => ?_, fun i hi => ?_⟩
  · rw [p13 c (by omega) (by omega), p12 c (by omega) (by omega), p11 c (by omega) (by omega), p10 c (by omega) (by omega), p9 c (by omega) (by omega), p8 c (by omega) (by omega), p7 c (by omega) (by omega), p6 c (by omega) (by omega), p5 c (by omega), p4 c (by omega), p3 c (by omega), p2 c (by omega), p1 c (by omega)]
  · rw [q13 j h32, q12 j h32, q11 j h32, q10 j h32, q9 j h32, q8 j h32, q7 j h32, q6 j h32, q5 j h32 h12, q4 j h32 h8, q3 j h32 h7, q2 j h32 h6, q1 j h32 h5]
  · rw [q13 5 (by decide), q12 5 (by decide), q11 5 (by decide), q10 5 (by decide), q9 5 (by decide), q8 5 (by decide), q7 5 (by decide), q6 5 (by decide), q5 5 (by decide) (by decide), q4 5 (by decide) (by decide), q3 5 (by decide) (by decide), q2 5 (by decide) (by decide), v1]; rfl
  · rw [q13 6 (by decide), q12 6 (by decide), q11 6 (by decide), q10 6 (by decide), q9 6 (by decide), q8 6 (by decide), q7 6 (by decide), q6 6 (by decide), q5 6 (by decide) (by decide), q4 6 (by decide) (by decide), q3 6 (by decide) (by decide), v2, e1]
  · rw [q13 7 (by decide), q12 7 (by decide), q11 7 (by decide), q10 7 (by decide), q9 7 (by decide), q8 7 (by decide), q7 7 (by decide), q6 7 (by decide), q5 7 (by decide) (by decide), q4 7 (by decide) (by decide), v3, e2]
  · rw [q13 8 (by decide), q12 8 (by decide), q11 8 (by decide), q10 8 (by decide), q9 8 (by decide), q8 8 (by decide), q7 8 (by decide), q6 8 (by decide), q5 8 (by decide) (by decide), v4, e3]
  · rw [q13 12 (by decide), q12 12 (by decide), q11 12 (by decide), q10 12 (by decide), q9 12 (by decide), q8 12 (by decide), q7 12 (by decide), q6 12 (by decide), v5, e4]
  · rw [p13 78 (by decide) (by decide), p12 78 (by decide) (by decide), p11 78 (by decide) (by decide), p10 78 (by decide) (by decide), p9 78 (by decide) (by decide), p8 78 (by decide) (by decide), p7 78 (by decide) (by decide), v6 i hi, e5]
  · rw [p13 79 (by decide) (by decide), p12 79 (by decide) (by decide), p11 79 (by decide) (by decide), p10 79 (by decide) (by decide), p9 79 (by decide) (by decide), p8 79 (by decide) (by decide), v7 i hi, e6]
  · rw [p13 80 (by decide) (by decide), p12 80 (by decide) (by decide), p11 80 (by decide) (by decide), p10 80 (by decide) (by decide), p9 80 (by decide) (by decide), v8 i hi, e7]
  · rw [p13 81 (by decide) (by decide), p12 81 (by decide) (by decide), p11 81 (by decide) (by decide), p10 81 (by decide) (by decide), v9 i hi, e8]
  · rw [p13 82 (by decide) (by decide), p12 82 (by decide) (by decide), p11 82 (by decide) (by decide), v10 i hi, e9]
  · rw [p13 83 (by decide) (by decide), p12 83 (by decide) (by decide), v11 i hi, e10]
  · rw [p13 84 (by decide) (by decide), v12 i hi, e11]
  · rw [v13 i hi, e12]
theorem rest_step {X N : jM} (I : Inv2 X N) {o fl q sq k : Nat} (hc : (o = 41 ∧ fl = 0 ∧ q = 42 ∧ sq = 54 ∧ k = 0) ∨ (o = 59 ∧ fl = 1 ∧ q = 60 ∧ sq = 72 ∧ k = 100)) (hI : IM X N o fl q sq k) (h0 : ¬ X o 2 = 0) :
    Inv2 (x_cpSg (x_copy X q 1) sq 13) (m_pA8 (m_st N k 0) k) := by
  obtain ⟨w1, w2, s5, s6, s7, s8, s12, r78, r79, r80, r81, r82, r83, r84, r85⟩ := rd_all (N := m_st N k 0) (k := k) m_st_33
  generalize m_pA8 (m_st N k 0) k = B at *
  have e98 : m_st N k 0 98 = N 98 := m_st_ne (by decide)
  rw [e98] at s5 s6 s7 s8 s12 r78 r79 r80 r81 r82 r83 r84 r85
  obtain ⟨i1, i2⟩ := hI
  rcases i2 with i2 | ⟨i2, i3⟩
  · exact absurd i2 h0
  have rX := x_copy_rr (q := 1) (by omega) i2
  have sX := x_cpSg_ss (X := x_copy X q 1) (q := 13) (by omega) (SS_cg (X' := x_copy X q 1) (fun c h1 h2 => by rw [x_copy_ne (by omega)]) i3)
  have xs : ∀ c, 17 ≤ c → x_cpSg (x_copy X q 1) sq 13 c = X c := fun c hcc => by rw [x_cpSg_ne (by omega), x_copy_ne (by omega)]
  obtain ⟨n', p1, p2, p3, p4⟩ := I.2.2.1
  have im : ∀ {o2 fl2 q2 sq2 k2 : Nat}, 17 ≤ o2 → 17 ≤ q2 → 17 ≤ sq2 → IM X N o2 fl2 q2 sq2 k2 → IM (x_cpSg (x_copy X q 1) sq 13) B o2 fl2 q2 sq2 k2 := by
    intro o2 fl2 q2 sq2 k2 l1 l2 l3 hJ
    obtain ⟨j1, j2⟩ := hJ
    unfold IM
    rw [xs o2 l1, w1 99 (by decide), w1 98 (by decide), m_st_ne (by decide), m_st_ne (by decide)]
    refine ⟨j1, ?_⟩
    rcases j2 with j2 | ⟨j2, j3⟩
    · exact Or.inl j2
    · exact Or.inr ⟨RR_cg (fun c h1 h2 => (xs c (by omega)).symm) j2, SS_cg (fun c h1 h2 => (xs c (by omega)).symm) j3⟩
  refine ⟨?_, ?_, ⟨n', p1, ?_, ?_, fun i hi => ?_⟩, im (by decide) (by decide) (by decide) I.2.2.2.1, im (by decide) (by decide) (by decide) I.2.2.2.2⟩
  · have z := RR_cg (X' := x_cpSg (x_copy X q 1) sq 13) (fun c h1 h2 => by rw [x_cpSg_ne (by omega)]) rX
    obtain ⟨h1, h2, h3, h4, h5, h6, h7, h8, h9⟩ := z
    refine ⟨fun i hi => ?_, fun i hi => ?_, fun i j hi hj => ?_, fun i hi => ?_, fun i hi => ?_, ?_, ?_, ?_, ?_⟩
    · rw [r78 i hi]; exact h1 i hi
    · rw [r79 i hi]; exact h2 i hi
    · rw [r80 _ (by omega)]; exact h3 i j hi hj
    · rw [r81 i hi]; exact h4 i hi
    · rw [r82 i hi]; exact h5 i hi
    · rw [s5]; exact h6
    · rw [s6]; exact h7
    · rw [s7]; exact h8
    · rw [s8]; exact h9
  · obtain ⟨h1, h2, h3⟩ := sX
    refine ⟨?_, ?_, fun i hi => ?_⟩
    · rw [s12]; exact h1
    · rw [s12]; exact h2
    · rw [r83 i hi, r84 i hi, r85 i hi]; exact h3 i hi
  · rw [xs 18 (by omega)]; exact p2
  · rw [w2 14 (by decide) (by decide) (by decide) (by decide) (by decide) (by decide), m_st_slot (by decide) (by decide)]; exact p3
  · rw [xs 19 (by omega), w1 86 (by decide), m_st_ne (by decide)]; exact p4 i hi
theorem e_restore {X N : jM} (I : Inv2 X N) (k : Int32) : (x_restore X k).1 = (m_restore N k).1 ∧ Inv2 (x_restore X k).2 (m_restore N k).2 := by
  unfold x_restore m_restore
  by_cases h1 : 0 ≤ k.toInt ∧ k.toInt ≤ 1
  · rw [if_pos h1, if_pos h1]
    by_cases h2 : k = 0
    · rw [if_pos h2, if_pos h2, ← I.2.2.2.1.1]
      by_cases h3 : X 41 2 = 0
      · rw [if_pos h3, if_pos h3]; exact ⟨rfl, I⟩
      · rw [if_neg h3, if_neg h3]
        exact ⟨rfl, rest_step I (Or.inl ⟨rfl, rfl, rfl, rfl, rfl⟩) I.2.2.2.1 h3⟩
    · rw [if_neg h2, if_neg h2, ← I.2.2.2.2.1]
      by_cases h3 : X 59 2 = 0
      · rw [if_pos h3, if_pos h3]; exact ⟨rfl, I⟩
      · rw [if_neg h3, if_neg h3]
        exact ⟨rfl, rest_step I (Or.inr ⟨rfl, rfl, rfl, rfl, rfl⟩) I.2.2.2.2 h3⟩
  · rw [if_neg h1, if_neg h1]; exact ⟨rfl, I⟩
