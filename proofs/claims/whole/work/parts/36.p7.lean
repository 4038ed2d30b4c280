/-! ===== CLERKS and COUNT ===== -/
theorem bc_e : ∀ t, t < 256 → x_bc (nI t) = m_bc (nI t) := by decide +kernel
theorem bc_e' {x : Int32} (h : jrg x 0 255) : x_bc x = m_bc x := by
  obtain ⟨y, h1, rfl⟩ := jrg_ex (b := 255) h
  exact bc_e y (by omega)
theorem tr_e {X N : jM} (I : Inv2 X N) {t i : Nat} (hi : i < 8) : x_tr X t i = m_tr N t i := by
  have z := I.2.1.2.2 i hi
  unfold x_tr m_tr
  rw [z.1]
  exact bc_e' (m_and_le z.2.1)
theorem fit1_e {X N : jM} (I : Inv2 X N) {t i : Nat} (hi : i < 8) : x_fit1 X t i = m_fit1 N t i := by
  have z := I.2.1.2.2 i hi
  unfold x_fit1 m_fit1
  rw [tr_e I hi, z.2.2.1, z.2.2.2]
  generalize m_tr N t i = u
  generalize N 84 i = w
  apply decide_eq_decide.mpr
  by_cases h : N 85 i = 0
  · rw [if_pos h]
    constructor
    · intro ⟨h1, h2⟩; exact Int32.le_antisymm (h2 h) (Int32.not_lt.mp h1)
    · intro e; subst e; exact ⟨fun q => Int32.lt_irrefl q, fun _ => Int32.le_refl _⟩
  · rw [if_neg h]
    constructor
    · intro ⟨h1, _⟩; exact Int32.not_lt.mp h1
    · intro e; exact ⟨Int32.not_lt.mpr e, fun q => absurd q h⟩
theorem fitN_e {X N : jM} (I : Inv2 X N) {t : Nat} {d : Int32} : ∀ s, s ≤ 8 → m_fitN N t d s = (decide (m_bc (nI t) ≤ d) && x_fitN X t s) := by
  intro s
  induction s with
  | zero => intro _; rw [m_fitN, x_fitN, Bool.and_true]
  | succ s ih => intro hs; rw [m_fitN, x_fitN, ih (by omega), fit1_e I (by omega), Bool.and_assoc]
theorem fit_e {X N : jM} (I : Inv2 X N) {s t : Nat} {d : Int32} (hs : s ≤ 8) (ht : t < 256) : x_fit X s t d = m_fit N s t d := by
  unfold x_fit m_fit
  rw [fitN_e I s hs, bc_e t ht]
theorem cnt_e {X N : jM} (I : Inv2 X N) {s : Nat} {d : Int32} (hs : s ≤ 8) : ∀ k, k ≤ 256 → x_cnt X s d k = m_cnt N s d k := by
  intro k
  induction k with
  | zero => intro _; rfl
  | succ k ih => intro hk; rw [x_cnt, m_cnt, ih (by omega), fit_e I hs (by omega)]
theorem clF_e {X N : jM} (I : Inv2 X N) {s : Nat} {d i : Int32} (hs : s ≤ 8) : ∀ r k, r + k ≤ 256 → x_clF X s d i r k = m_clF N s d i r k := by
  intro r
  induction r with
  | zero => intro k hk; rw [x_clF, m_clF, cnt_e I hs k (by omega)]
  | succ r ih => intro k hk; rw [x_clF, m_clF, fit_e I hs (by omega), cnt_e I hs k (by omega), ih (k + 1) (by omega)]
theorem e_clerks {X N : jM} (I : Inv2 X N) {s : Nat} (hs : s ≤ 8) (d i : Int32) : x_clerks X s d i = m_clerks N s d i := by
  unfold x_clerks m_clerks
  rw [clF_e I hs 256 0 (by omega)]
theorem bit_01 : ∀ k, k < 256 → ∀ c, c < 8 → (nI k >>> (nI c &&& 31) &&& 1) = (if (nI k >>> (nI c &&& 31)) &&& 1 = 1 then 1 else 0) := by decide +kernel
theorem m_cntle {N : jM} {s : Nat} {d : Int32} : ∀ k, m_cnt N s d k ≤ k := by
  intro k
  induction k with
  | zero => exact Nat.le_refl 0
  | succ k ih => rw [m_cnt]; split <;> omega
theorem m_notle {N : jM} {s c : Nat} {d : Int32} : ∀ k, m_not N s d c k ≤ m_cnt N s d k := by
  intro k
  induction k with
  | zero => exact Nat.le_refl 0
  | succ k ih => rw [m_cnt, m_not]; split <;> (try split) <;> omega
theorem un_e {X N : jM} (I : Inv2 X N) {s c : Nat} {d : Int32} (hs : s ≤ 8) (hc : c < 8) : ∀ k, k ≤ 256 → x_un X s d c k = nI (m_not N s d c k) := by
  intro k
  induction k with
  | zero => intro _; rfl
  | succ k ih =>
    intro hk
    rw [x_un, m_not, ih (by omega), fit_e I hs (by omega)]
    have bb := bit_01 k (by omega) c hc
    by_cases h : m_fit N s k d = true
    · rw [if_pos h, if_pos h]
      by_cases b : (nI k >>> (nI c &&& 31)) &&& 1 = 1
      · rw [if_pos b, b, nI_1]
      · rw [if_neg b] at bb; rw [if_neg b, bb, Int32.add_zero]
    · rw [if_neg h, if_neg h]
theorem ml_e {X N : jM} (I : Inv2 X N) {s c : Nat} {d : Int32} (hs : s ≤ 8) (hc : c < 8) : x_ml (x_unF X s d c) (nI (x_cnt X s d 256)) = nI (m_ml N s d c) ∧ m_ml N s d c ≤ 256 := by
  unfold x_unF x_ml m_ml
  have l1 := m_notle (N := N) (s := s) (c := c) (d := d) 256
  have l2 := m_cntle (N := N) (s := s) (d := d) 256
  rw [un_e I hs hc 256 (Nat.le_refl _), cnt_e I hs 256 (Nat.le_refl _)]
  generalize m_not N s d c 256 = u at *
  generalize m_cnt N s d 256 = f at *
  rw [pk_sub l1]
  by_cases h : u < f - u
  · rw [if_pos (nI_lt h (by omega)), if_pos (by omega)]; exact ⟨rfl, by omega⟩
  · rw [if_neg (nI_nlt (by omega) (by omega))]
    by_cases e : u ≤ f - u
    · rw [if_pos e, show f - u = u by omega]; exact ⟨rfl, by omega⟩
    · rw [if_neg e]; exact ⟨rfl, by omega⟩
theorem best_e {X N : jM} (I : Inv2 X N) {s : Nat} {d : Int32} (hs : s ≤ 8) : ∀ k, k ≤ 7 → x_best (x_unF X s d) (nI (x_cnt X s d 256)) k = m_best N s d k ∧ m_best N s d k ≤ k := by
  intro k
  induction k with
  | zero => intro _; exact ⟨rfl, Nat.le_refl 0⟩
  | succ k ih =>
    intro hk
    obtain ⟨h1, h2⟩ := ih (by omega)
    have m1 := ml_e I (d := d) hs (c := m_best N s d k) (by omega)
    have m2 := ml_e I (d := d) hs (c := k + 1) (by omega)
    rw [x_best, m_best, h1, m1.1, m2.1]
    by_cases c : m_ml N s d (m_best N s d k) ≤ m_ml N s d (k + 1)
    · rw [if_pos (nI_le c (by have := m2.2; omega)), if_pos c]; exact ⟨rfl, by omega⟩
    · rw [if_neg (nI_ge (by omega) (by have := m1.2; omega)), if_neg c]; exact ⟨rfl, Nat.le_refl _⟩
theorem m_ml_0 {N : jM} {s c : Nat} {d : Int32} : m_ml N s d c = 0 ↔ m_cnt N s d 256 = 0 := by
  unfold m_ml
  have l1 := m_notle (N := N) (s := s) (c := c) (d := d) 256
  split <;> omega
theorem e_count {X N : jM} (I : Inv2 X N) {s : Nat} (hs : s ≤ 8) (d k : Int32) : x_count X s d k = m_count N s d k := by
  unfold x_count m_count
  obtain ⟨b1, b2⟩ := best_e I (d := d) hs 7 (Nat.le_refl 7)
  have m1 := ml_e I (d := d) hs (c := m_best N s d 7) (by omega)
  have c0 : (x_cnt X s d 256 = 0) = (m_ml N s d (m_best N s d 7) = 0) := by rw [cnt_e I hs 256 (Nat.le_refl _)]; exact propext m_ml_0.symm
  simp only [b1, m1.1, c0]
