/-! ===== told ===== -/
theorem jOwn_told {x y : Int32} (h : jOwn x y) : (if x = -1 then -6 else x) = y := by
  rcases h with ⟨rfl, rfl⟩ | ⟨rfl, h1, h2⟩
  · rfl
  · rw [if_neg (fun e => by rw [e] at h1; exact absurd h1 (by decide))]
theorem r_lots {X N : jM} {q : Nat} (r : RN X N q) (w w' : Int32) (hw : ∀ i, i < 8 → (X (q + 5) i = w ↔ N 82 i = w')) : x_lotsOf X q w = m_lotsOf N w' := by
  unfold x_lotsOf m_lotsOf
  have key : ∀ n, n ≤ 8 → x_lotsN (X (q + 5)) w n = m_lotsN N w' n := by
    intro n
    induction n with
    | zero => intro _; rfl
    | succ n ih =>
      intro hn
      rw [x_lotsN, m_lotsN, ih (by omega), m_lotsF]
      by_cases h : X (q + 5) n = w
      · rw [if_pos h, if_pos ((hw n (by omega)).mp h)]
      · rw [if_neg h, if_neg (fun c => h ((hw n (by omega)).mpr c)), Int32.or_zero]
  exact key 8 (Nat.le_refl 8)
theorem jOwn_one {x y : Int32} (h : jOwn x y) {w : Nat} (hw : w < 6) : (x = nI w ↔ y = nI w) := by
  rcases h with ⟨rfl, rfl⟩ | ⟨rfl, h1, h2⟩
  · constructor
    · intro e; exact absurd e.symm (nI_ne_neg (by decide) (by omega))
    · intro e; exact absurd e.symm (nI_ne_neg (by decide) (by omega))
  · exact Iff.rfl
theorem r_lots1 {X N : jM} {q : Nat} (r : RN X N q) {w : Nat} (hw : w < 6) : x_lotsOf X q (nI w) = m_lotsOf N (nI w) := r_lots r _ _ (fun i hi => jOwn_one (r.2.2.2.2.1 i hi) hw)
theorem r_lotsS {X N : jM} {q : Nat} (r : RN X N q) : x_lotsOf X q (-1) = m_lotsOf N (-6) := r_lots r _ _ (fun i hi => (jOwn_st (r.2.2.2.2.1 i hi)).2.2)
theorem r_owes {X N : jM} {q : Nat} (r : RN X N q) {w : Nat} (hw : w < 6) : x_owes X q w = m_owes N w := by
  unfold x_owes m_owes
  exact jSum_cg 6 (fun i hi => (r.2.2.1 w i hw hi).1)
theorem r_ofOne {X N : jM} {q : Nat} (r : RN X N q) {w : Nat} (hw : w < 6) (k : Int32) : x_ofOne X q w k = m_ofOne N w k := by
  unfold x_ofOne m_ofOne
  rw [(r.1 w hw).1, (r.2.1 w hw).1, r_lots1 r hw, r_owes r hw]
theorem r_ofAll {X N : jM} {q : Nat} (r : RN X N q) (k : Int32) : x_ofAll X q k = m_ofAll N k := by
  unfold x_ofAll m_ofAll
  rw [r_notes r, r_land r, (r_rate r).1, r.2.2.2.2.2.2.2.1, r.2.2.2.2.2.2.1.1, r.2.2.2.2.2.2.2.2]
theorem e_tAll {X N : jM} (I : Inv2 X N) (k : Int32) : x_tAll X k = m_tAll N k := by
  obtain ⟨n', p1, p2, p3, p4⟩ := I.2.2.1
  have r := I.1
  unfold x_tAll m_tAll
  rw [p2, p3, r.2.2.2.2.2.1.1, r.2.2.2.2.2.2.1.1, r.2.2.2.2.2.2.2.1, r.2.2.2.2.2.2.2.2, I.2.1.1, r_notes r, r_land r, (r_rate r).1]
theorem m_tAll_out {N : jM} {k : Int32} (h : k.toInt < 0 ∨ 8 < k.toInt) : m_tAll N k = -2 := by
  have ne : ∀ c : Int32, 0 ≤ c.toInt ∧ c.toInt ≤ 8 → ¬ k = c := fun c hc e => by rw [e] at h; omega
  unfold m_tAll
  rw [if_neg (ne 0 (by decide)), if_neg (ne 1 (by decide)), if_neg (ne 2 (by decide)), if_neg (ne 3 (by decide)), if_neg (ne 4 (by decide)), if_neg (ne 5 (by decide)), if_neg (ne 6 (by decide)), if_neg (ne 7 (by decide)), if_neg (ne 8 (by decide))]
theorem j10 {w : Nat} (h : w < 2 ^ 31) : nI w / 10 = nI (w / 10) ∧ nI w - nI w / 10 * 10 = nI (w % 10) := ⟨jdiv10 h, jrem10 h⟩
theorem e_told {X N : jM} (I : Inv2 X N) (k : Int32) : x_told X k = m_told N k := by
  have r := I.1
  by_cases h0 : 0 ≤ k
  · have h0' : 0 ≤ k.toInt := by have := Int32.le_iff_toInt_le.mp h0; exact this
    have hb := k.toInt_lt
    obtain ⟨w, hw, rfl⟩ : ∃ w, w < 2 ^ 31 ∧ k = nI w := ⟨k.toInt.toNat, by omega, by apply Int32.toInt_inj.mp; rw [nI_toInt (by omega)]; omega⟩
    have tw : (nI w).toInt = (w : Int) := nI_toInt hw
    have cw : (nI w).toNatClampNeg = w := nI_clamp hw
    have g10 : (10 : Int32) ≤ nI w ↔ 10 ≤ w := nI_leI (a := 10) (by omega) hw
    have g100 : (100 : Int32) ≤ nI w ↔ 100 ≤ w := nI_leI (a := 100) (by omega) hw
    have g200 : (200 : Int32) ≤ nI w ↔ 200 ≤ w := nI_leI (a := 200) (by omega) hw
    unfold x_told m_told
    rw [if_pos h0, cw, tw]
    by_cases c10 : w < 10
    · rw [if_neg (by rw [g10]; omega), if_neg (by omega), if_neg (by omega), if_neg (by omega)]
      exact e_tAll I _
    rw [if_pos (g10.mpr (by omega))]
    simp only [(j10 hw).2]
    simp only [(j10 hw).1]
    by_cases c100 : w < 100
    · rw [if_neg (by rw [g100]; omega), if_neg (by omega), if_neg (by omega)]
      have e1 : nI (w / 10) - 1 = nI (w / 10 - 1) := by rw [show (1 : Int32) = nI 1 from rfl, pk_sub (by omega)]
      rw [e1]
      unfold x_tOne
      rw [nI_toInt (by omega), nI_clamp (by omega)]
      by_cases c70 : w < 70
      · rw [if_pos (by omega)]
        by_cases c3 : w % 10 < 3
        · rw [if_neg (by rw [show (2 : Int32) = nI 2 from rfl, nI_ltI (by omega) (by omega)]; omega), if_pos (by omega), if_pos c3]
          exact r_ofOne r (by omega) _
        · rw [if_pos (by rw [show (2 : Int32) = nI 2 from rfl, nI_ltI (by omega) (by omega)]; omega), if_pos (by omega), if_neg c3]
      · rw [if_neg (by omega), if_neg (by omega)]
        exact (m_tAll_out (by rw [tw]; omega)).symm
    rw [if_pos (g100.mpr (by omega))]
    by_cases c200 : w < 200
    · rw [if_neg (by rw [g200]; omega), if_neg (by omega)]
      have e1 : nI (w / 10) - 10 = nI (w / 10 - 10) := by rw [show (10 : Int32) = nI 10 from rfl, pk_sub (by omega)]
      rw [e1]
      unfold x_tLot
      rw [nI_toInt (by omega), nI_clamp (by omega)]
      by_cases c180 : w < 180
      · have l : (w - 100) / 10 = w / 10 - 10 := by omega
        rw [if_pos (by omega), l]
        by_cases d0 : w % 10 = 0
        · rw [if_pos (by rw [d0]; decide), if_pos (by rw [d0]; rfl), if_pos (by omega), if_pos d0]
          exact (r.2.2.2.1 _ (by omega)).1
        by_cases d1 : w % 10 = 1
        · rw [if_pos (by rw [d1]; decide), if_neg (by rw [d1]; decide), if_pos (show (100 : Int) ≤ (w : Int) ∧ (w : Int) ≤ 179 by omega), if_neg d0, if_pos d1]
          exact jOwn_told (r.2.2.2.2.1 _ (by omega))
        · rw [if_neg (by rw [show (1 : Int32) = nI 1 from rfl, nI_leI (by omega) (by omega)]; omega), if_pos (by omega), if_neg d0, if_neg d1]
      · rw [if_neg (by omega), if_neg (by omega), if_neg (by omega)]
        exact (m_tAll_out (by rw [tw]; omega)).symm
    rw [if_pos (g200.mpr (by omega))]
    have e1 : nI (w / 10) - 20 = nI (w / 10 - 20) := by rw [show (20 : Int32) = nI 20 from rfl, pk_sub (by omega)]
    rw [e1]
    unfold x_tDebt
    rw [nI_toInt (by omega), nI_clamp (by omega), nI_toInt (by omega), nI_clamp (by omega)]
    by_cases c260 : w < 260
    · have l : (w - 200) / 10 = w / 10 - 20 := by omega
      rw [if_pos (by omega), l]
      by_cases d6 : w % 10 < 6
      · rw [if_pos (by omega), if_pos (by omega), if_pos d6]
        exact (r.2.2.1 _ _ (by omega) d6).1
      · rw [if_neg (by omega), if_pos (by omega), if_neg d6]
    · rw [if_neg (by omega), if_neg (by omega), if_neg (by omega), if_neg (by omega)]
      exact (m_tAll_out (by rw [tw]; omega)).symm
  · have h0' : k.toInt < 0 := by
      have := fun q => h0 (Int32.le_iff_toInt_le.mpr q)
      rcases Int.lt_or_le k.toInt 0 with z | z
      · exact z
      · exact absurd z this
    unfold x_told m_told
    rw [if_neg h0, if_neg (by omega), if_neg (by omega), if_neg (by omega)]
    exact (m_tAll_out (Or.inl h0')).symm
/-! ===== images: writing ===== -/
theorem w_pv {M : jM} {k : Nat} {v : Int32} (h : ¬ M 77 33 = 0) : m_pv M k v = v := if_neg h
theorem w_row {M : jM} {k r : Nat} (h : ¬ M 77 33 = 0) (h7 : r ≠ 77) (h8 : r ≠ 98) : ∀ m, (∀ c, c ≠ 77 → c ≠ 98 → m_row M k r m c = M c) ∧ (∀ j, j ≠ 32 → m_row M k r m 77 j = M 77 j) ∧ (∀ j, j < k ∨ k + m ≤ j → m_row M k r m 98 j = M 98 j) ∧ (∀ i, i < m → m_row M k r m 98 (k + i) = M r i) := by
  intro m
  induction m with
  | zero => exact ⟨fun _ _ _ => rfl, fun _ _ => rfl, fun _ _ => rfl, fun i hi => absurd hi (Nat.not_lt_zero i)⟩
  | succ m ih =>
    obtain ⟨a1, a2, a3, a4⟩ := ih
    have e0 : m_row M k r m r m = M r m := by rw [a1 r h7 h8]
    have w0 : ¬ m_row M k r m 77 33 = 0 := by rw [a2 33 (by decide)]; exact h
    have es : m_row M k r (m + 1) = jU (jU (jU (m_row M k r m) 98 (k + m) (M r m)) 77 32 (nI (k + m + 1))) r m (M r m) := by
      rw [m_row, m_pM, w_pv w0, e0]
    rw [es]
    refine ⟨fun c h1 h2 => ?_, fun j hj => ?_, fun j hj => ?_, fun i hi => ?_⟩
    · by_cases e : c = r
      · subst e
        funext j
        by_cases ej : j = m
        · subst ej; rw [jU_same]
        · rw [jU_slot ej, jU_cell h1, jU_cell h2, a1 c h1 h2]
      · rw [jU_ne e, jU_ne h1, jU_ne h2, a1 c h1 h2]
    · rw [jU_cell (by omega), jU_slot hj, jU_cell (by decide)]; exact a2 j hj
    · rw [jU_cell (by omega), jU_cell (by decide), jU_slot (by omega)]; exact a3 j (by omega)
    · rw [jU_cell (by omega), jU_cell (by decide)]
      by_cases e : i = m
      · subst e; rw [jU_same]
      · rw [jU_slot (by omega)]; exact a4 i (by omega)
theorem w_sc {M : jM} {k f : Nat} (h : ¬ M 77 33 = 0) : (∀ c, c ≠ 77 → c ≠ 98 → m_sc M k f c = M c) ∧ (∀ j, j ≠ 32 → m_sc M k f 77 j = M 77 j) ∧ (∀ j, j ≠ k → m_sc M k f 98 j = M 98 j) ∧ m_sc M k f 98 k = M 77 f := by
  unfold m_sc m_pM
  rw [w_pv h]
  refine ⟨fun c h1 h2 => ?_, fun j hj => ?_, fun j hj => ?_, ?_⟩
  · rw [jU_ne h1, jU_ne h1, jU_ne h2]
  · by_cases e : j = f
    · subst e; rw [jU_same]
    · rw [jU_slot e, jU_slot hj, jU_cell (by decide)]
  · rw [jU_cell (by decide), jU_cell (by decide), jU_slot hj]
  · rw [jU_cell (by decide), jU_cell (by decide), jU_same]
