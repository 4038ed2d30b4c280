/-! ===== the text, read side by side ===== -/
def sm (d : Int32) : Int32 := if d = 0 then 0 else if d = 1 then 3 else if d = 2 then 1 else if d = 3 then 2 else if d = 4 then 1 else if d = 5 then 4 else if d = 6 then 1 else if d = 7 then 5 else if d = 8 then 1 else 6
theorem nx_0 {c : Int32} : x_next 0 c = x_nFirst c := if_pos rfl
theorem nx_1 {c : Int32} : x_next 1 c = (if 49 ≤ c.toInt ∧ c.toInt ≤ 57 then 0 else 6) := by unfold x_next; rw [if_neg (by decide), if_pos rfl]
theorem nx_2 {c : Int32} : x_next 2 c = (if 65 ≤ c.toInt ∧ c.toInt ≤ 70 then 1 else 6) := by unfold x_next; rw [if_neg (by decide), if_neg (by decide), if_pos rfl]
theorem nx_3 {c : Int32} : x_next 3 c = x_nDeed c := by unfold x_next; rw [if_neg (by decide), if_neg (by decide), if_neg (by decide), if_pos rfl]
theorem nx_4 {c : Int32} : x_next 4 c = (if 48 ≤ c.toInt ∧ c.toInt ≤ 55 then 0 else 6) := by unfold x_next; rw [if_neg (by decide), if_neg (by decide), if_neg (by decide), if_neg (by decide), if_pos rfl]
theorem nx_5 {c : Int32} : x_next 5 c = (if 65 ≤ c.toInt ∧ c.toInt ≤ 70 then 0 else 6) := by unfold x_next; rw [if_neg (by decide), if_neg (by decide), if_neg (by decide), if_neg (by decide), if_neg (by decide)]
theorem ro_0 {M : jM} {k : Nat} {c : Int32} : m_readOn M k 0 c = m_begin M k c := if_pos rfl
theorem ro_1 {M : jM} {k : Nat} {c : Int32} : m_readOn M k 1 c = (m_deed c, M) := by unfold m_readOn; rw [if_neg (by decide), if_pos rfl]
theorem ro_2 {M : jM} {k : Nat} {c : Int32} : m_readOn M k 2 c = m_number M k 0 c 100 := by unfold m_readOn; rw [if_neg (by decide), if_neg (by decide), if_pos rfl]
theorem ro_3 {M : jM} {k : Nat} {c : Int32} : m_readOn M k 3 c = m_forWhom M k c := by unfold m_readOn; rw [if_neg (by decide), if_neg (by decide), if_neg (by decide), if_pos rfl]
theorem ro_4 {M : jM} {k : Nat} {c : Int32} : m_readOn M k 4 c = m_number M k 1 c 100 := by unfold m_readOn; rw [if_neg (by decide), if_neg (by decide), if_neg (by decide), if_neg (by decide), if_pos rfl]
theorem ro_5 {M : jM} {k : Nat} {c : Int32} : m_readOn M k 5 c = (if 48 ≤ c.toInt ∧ c.toInt ≤ 55 then (0, m_close M k 2 (c - 48)) else (-6, M)) := by unfold m_readOn; rw [if_neg (by decide), if_neg (by decide), if_neg (by decide), if_neg (by decide), if_neg (by decide), if_pos rfl]
theorem ro_6 {M : jM} {k : Nat} {c : Int32} : m_readOn M k 6 c = m_number M k 3 c 10 := by unfold m_readOn; rw [if_neg (by decide), if_neg (by decide), if_neg (by decide), if_neg (by decide), if_neg (by decide), if_neg (by decide), if_pos rfl]
theorem ro_7 {M : jM} {k : Nat} {c : Int32} : m_readOn M k 7 c = (if 65 ≤ c.toInt ∧ c.toInt ≤ 70 then (0, m_close M k 4 (c - 65)) else (-6, M)) := by unfold m_readOn; rw [if_neg (by decide), if_neg (by decide), if_neg (by decide), if_neg (by decide), if_neg (by decide), if_neg (by decide), if_neg (by decide), if_pos rfl]
theorem ro_8 {M : jM} {k : Nat} {c : Int32} : m_readOn M k 8 c = m_number M k 5 c 100 := by unfold m_readOn; rw [if_neg (by decide), if_neg (by decide), if_neg (by decide), if_neg (by decide), if_neg (by decide), if_neg (by decide), if_neg (by decide), if_neg (by decide)]
theorem num_1 {M : jM} {k : Nat} {w c t : Int32} : (m_number M k w c t).1 = (if 49 ≤ c.toInt ∧ c.toInt ≤ 57 then 0 else -6) := by unfold m_number; split <;> rfl
/-- what the reference goes on to is -6 or one of nine, and the class goes on to the like -/
theorem step_e {M : jM} {k : Nat} {d c : Int32} (h : m_dR d) : x_next (sm d) c = sm (m_readOn M k d c).1 ∧ ((m_readOn M k d c).1 = -6 ∨ m_dR (m_readOn M k d c).1) := by
  have i0 : m_dR 0 := Or.inl rfl
  have nn : ∀ (w t : Int32), (if 49 ≤ c.toInt ∧ c.toInt ≤ 57 then (0 : Int32) else 6) = sm (m_number M k w c t).1 ∧ ((m_number M k w c t).1 = -6 ∨ m_dR (m_number M k w c t).1) := by
    intro w t
    rw [num_1]
    by_cases q : 49 ≤ c.toInt ∧ c.toInt ≤ 57
    · rw [if_pos q, if_pos q]; exact ⟨rfl, Or.inr i0⟩
    · rw [if_neg q, if_neg q]; exact ⟨rfl, Or.inl rfl⟩
  rcases h with h | h | h | h | h | h | h | h | h <;> subst h
  · rw [show sm 0 = 0 from rfl, nx_0, ro_0]
    unfold x_nFirst m_begin
    dsimp only
    by_cases a : c = 33
    · rw [if_pos a, if_pos a]; exact ⟨rfl, Or.inr (by unfold m_dR; (try dsimp only); decide)⟩
    · rw [if_neg a, if_neg a]
      by_cases a : c = 43
      · rw [if_pos a, if_pos a]; exact ⟨rfl, Or.inr (by unfold m_dR; (try dsimp only); decide)⟩
      · rw [if_neg a, if_neg a]
        by_cases a : c = 46
        · rw [if_pos a, if_pos a]; exact ⟨rfl, Or.inr i0⟩
        · rw [if_neg a, if_neg a]
          by_cases a : 65 ≤ c.toInt ∧ c.toInt ≤ 70
          · rw [if_pos a, if_pos a]; exact ⟨rfl, Or.inr (by unfold m_dR; (try dsimp only); decide)⟩
          · rw [if_neg a, if_neg a]; exact ⟨rfl, Or.inl rfl⟩
  · rw [show sm 1 = 3 from rfl, nx_3, ro_1]
    unfold x_nDeed m_deed
    dsimp only
    by_cases a : c = 36
    · rw [if_pos a, if_pos a]; exact ⟨rfl, Or.inr (by unfold m_dR; (try dsimp only); decide)⟩
    · rw [if_neg a, if_neg a]
      by_cases a : c = 47
      · rw [if_pos a, if_pos a]; exact ⟨rfl, Or.inr (by unfold m_dR; (try dsimp only); decide)⟩
      · rw [if_neg a, if_neg a]
        by_cases a : c = 62
        · rw [if_pos a, if_pos a]; exact ⟨rfl, Or.inr (by unfold m_dR; (try dsimp only); decide)⟩
        · rw [if_neg a, if_neg a]
          by_cases a : c = 64
          · rw [if_pos a, if_pos a]; exact ⟨rfl, Or.inr (by unfold m_dR; (try dsimp only); decide)⟩
          · rw [if_neg a, if_neg a]; exact ⟨rfl, Or.inl rfl⟩
  · rw [show sm 2 = 1 from rfl, nx_1, ro_2]; exact nn 0 100
  · rw [show sm 3 = 2 from rfl, nx_2, ro_3]
    unfold m_forWhom
    dsimp only
    by_cases a : 65 ≤ c.toInt ∧ c.toInt ≤ 70
    · rw [if_pos a, if_pos a]; exact ⟨rfl, Or.inr (by unfold m_dR; (try dsimp only); decide)⟩
    · rw [if_neg a, if_neg a]; exact ⟨rfl, Or.inl rfl⟩
  · rw [show sm 4 = 1 from rfl, nx_1, ro_4]; exact nn 1 100
  · rw [show sm 5 = 4 from rfl, nx_4, ro_5]
    by_cases a : 48 ≤ c.toInt ∧ c.toInt ≤ 55
    · rw [if_pos a, if_pos a]; exact ⟨rfl, Or.inr i0⟩
    · rw [if_neg a, if_neg a]; exact ⟨rfl, Or.inl rfl⟩
  · rw [show sm 6 = 1 from rfl, nx_1, ro_6]; exact nn 3 10
  · rw [show sm 7 = 5 from rfl, nx_5, ro_7]
    by_cases a : 65 ≤ c.toInt ∧ c.toInt ≤ 70
    · rw [if_pos a, if_pos a]; exact ⟨rfl, Or.inr i0⟩
    · rw [if_neg a, if_neg a]; exact ⟨rfl, Or.inl rfl⟩
  · rw [show sm 8 = 1 from rfl, nx_1, ro_8]; exact nn 5 100
theorem dR_f {d : Int32} (h : m_dR d) : 0 ≤ d ∧ sm d ≠ 6 ∧ (sm d = 0 ↔ d = 0) := by
  rcases h with h | h | h | h | h | h | h | h | h <;> subst h <;> decide
theorem scan_e {f : Nat → Int32} {N : jM} {n : Nat} (hf : ∀ i, i < n → f i = N 86 i) : ∀ i, i ≤ n → (∀ j, j < i → 0 ≤ (m_scan N (j + 1)).1) → m_dR (m_scan N i).1 ∧ x_scan f i = sm (m_scan N i).1 := by
  intro i
  induction i with
  | zero => intro _ _; exact ⟨Or.inl rfl, rfl⟩
  | succ i ih =>
    intro hi h
    obtain ⟨a1, a2⟩ := ih (by omega) (fun j hj => h j (by omega))
    have s := step_e (M := (m_scan N i).2) (k := m_kOf (m_scan N i).2) (c := N 86 i) a1
    have l := h i (by omega)
    rw [x_scan, a2, hf i (by omega)]
    rw [m_scan] at l ⊢
    refine ⟨?_, s.1⟩
    rcases s.2 with s | s
    · rw [s] at l; exact absurd l (by decide)
    · exact s
theorem scan_n {f : Nat → Int32} {N : jM} {n i : Nat} (hf : ∀ i, i < n → f i = N 86 i) (hi : i < n) (h : ∀ j, j < i → 0 ≤ (m_scan N (j + 1)).1) : (x_scan f (i + 1) = 6 ↔ ¬ 0 ≤ (m_scan N (i + 1)).1) := by
  obtain ⟨a1, a2⟩ := scan_e hf i (by omega) h
  have s := step_e (M := (m_scan N i).2) (k := m_kOf (m_scan N i).2) (c := N 86 i) a1
  rw [x_scan, a2, hf i hi, s.1, m_scan]
  rcases s.2 with s | s
  · rw [s]; exact ⟨fun _ => by decide, fun _ => rfl⟩
  · exact ⟨fun q => absurd q (dR_f s).2.1, fun q => absurd (dR_f s).1 q⟩
theorem fault_e {f : Nat → Int32} {N : jM} {n : Nat} (hf : ∀ i, i < n → f i = N 86 i) : x_fault f n = (m_fault N n).1 := by
  have key : ∀ k i, i + k = n → (∀ j, j < i → 0 ≤ (m_scan N (j + 1)).1) → x_fp f n k i = (m_fp N n k i).1 := by
    intro k
    induction k with
    | zero =>
      intro i hi h
      obtain ⟨a1, a2⟩ := scan_e hf i (by omega) h
      rw [x_fp, m_fp, a2]
      by_cases q : (m_scan N i).1 = 0
      · rw [if_pos ((dR_f a1).2.2.mpr q), if_pos q]
      · rw [if_neg (fun z => q ((dR_f a1).2.2.mp z)), if_neg q]
    | succ k ih =>
      intro i hi h
      have s := scan_n hf (by omega) h
      rw [x_fp, m_fp]
      by_cases q : 0 ≤ (m_scan N (i + 1)).1
      · rw [if_neg (fun z => s.mp z q), if_pos q]
        exact ih (i + 1) (by omega) (fun j hj => by
          by_cases e : j = i
          · subst e; exact q
          · exact h j (by omega))
      · rw [if_pos (s.mpr q), if_neg q]
  exact key n 0 (by omega) (fun j hj => absurd hj (Nat.not_lt_zero j))
