/-! ===== class and reference side by side ===== -/
def jrg (x : Int32) (lo hi : Int) : Prop := lo ≤ x.toInt ∧ x.toInt ≤ hi
def jOwn (x y : Int32) : Prop := (x = -1 ∧ y = -6) ∨ (x = y ∧ 0 ≤ x.toInt ∧ x.toInt ≤ 5)
/-- a Realm of the class at q, and the reference's rows and numbers -/
def RR (X : jM) (q : Nat) (pa co ow pr on sc : Nat → Int32) : Prop :=
  (∀ i, i < 6 → X (q + 1) i = pa i ∧ jrg (pa i) 0 9999) ∧ (∀ i, i < 6 → X (q + 2) i = co i ∧ jrg (co i) 0 9999) ∧ (∀ i j, i < 6 → j < 6 → X (q + 6 + i) j = ow (6 * i + j) ∧ jrg (ow (6 * i + j)) 0 999) ∧
  (∀ i, i < 8 → X (q + 4) i = pr i ∧ jrg (pr i) 1 999) ∧ (∀ i, i < 8 → jOwn (X (q + 5) i) (on i)) ∧ (X q 5 = sc 5 ∧ jrg (sc 5) 0 99999) ∧ (X q 6 = sc 6 ∧ jrg (sc 6) 0 99999) ∧ X q 7 = sc 7 ∧ X q 8 = sc 8
def RN (X N : jM) (q : Nat) : Prop := RR X q (N 78) (N 79) (N 80) (N 81) (N 82) (N 77)
def SS (X : jM) (q : Nat) (st mn hw : Nat → Int32) (sz : Int32) : Prop :=
  X q 4 = sz ∧ (∃ s, s ≤ 8 ∧ sz = nI s) ∧ ∀ i, i < 8 → X (q + 1) i = st i ∧ jrg (st i) 0 255 ∧ X (q + 2) i = mn i ∧ X (q + 3) i = hw i
def PP (X N : jM) : Prop := ∃ n, n ≤ 60 ∧ X 18 1 = nI n ∧ N 77 14 = nI n ∧ ∀ i, i < 60 → X 19 i = N 86 i
def IM (X N : jM) (o fl q sq k : Nat) : Prop := X o 2 = N 99 fl ∧ (X o 2 = 0 ∨ (RR X q (fun i => N 98 (k + 5 + i)) (fun i => N 98 (k + 11 + i)) (fun i => N 98 (k + 17 + i)) (fun i => N 98 (k + 53 + i)) (fun i => N 98 (k + 61 + i)) (fun i => N 98 (k + (i - 5))) ∧ SS X sq (fun i => N 98 (k + 69 + i)) (fun i => N 98 (k + 77 + i)) (fun i => N 98 (k + 85 + i)) (N 98 (k + 4))))
def Inv2 (X N : jM) : Prop := RN X N 1 ∧ SS X 13 (N 83) (N 84) (N 85) (N 77 12) ∧ PP X N ∧ IM X N 41 0 42 54 0 ∧ IM X N 59 1 60 72 100
theorem RR_cg {X X' : jM} {q : Nat} {pa co ow pr on sc : Nat → Int32} (h : ∀ c, q ≤ c → c < q + 12 → X c = X' c) (r : RR X q pa co ow pr on sc) : RR X' q pa co ow pr on sc := by
  obtain ⟨h1, h2, h3, h4, h5, h6, h7, h8, h9⟩ := r
  refine ⟨fun i hi => ?_, fun i hi => ?_, fun i j hi hj => ?_, fun i hi => ?_, fun i hi => ?_, ?_, ?_, ?_, ?_⟩
  · rw [← h _ (by omega) (by omega)]; exact h1 i hi
  · rw [← h _ (by omega) (by omega)]; exact h2 i hi
  · rw [← h _ (by omega) (by omega)]; exact h3 i j hi hj
  · rw [← h _ (by omega) (by omega)]; exact h4 i hi
  · rw [← h _ (by omega) (by omega)]; exact h5 i hi
  · rw [← h _ (by omega) (by omega)]; exact h6
  · rw [← h _ (by omega) (by omega)]; exact h7
  · rw [← h _ (by omega) (by omega)]; exact h8
  · rw [← h _ (by omega) (by omega)]; exact h9
theorem SS_cg {X X' : jM} {q : Nat} {st mn hw : Nat → Int32} {sz : Int32} (h : ∀ c, q ≤ c → c < q + 4 → X c = X' c) (r : SS X q st mn hw sz) : SS X' q st mn hw sz := by
  obtain ⟨h1, h2, h3⟩ := r
  refine ⟨?_, h2, fun i hi => ?_⟩
  · rw [← h _ (by omega) (by omega)]; exact h1
  · rw [← h (q + 1) (by omega) (by omega), ← h (q + 2) (by omega) (by omega), ← h (q + 3) (by omega) (by omega)]; exact h3 i hi
theorem IM_cg {X X' N N' : jM} {o fl q sq k : Nat} (h : ∀ c, c < 77 → X c = X' c) (g : ∀ c, 77 ≤ c → N c = N' c) (ho : o < 77) (hq : q + 12 ≤ 77) (hs : sq + 4 ≤ 77) (r : IM X N o fl q sq k) : IM X' N' o fl q sq k := by
  obtain ⟨h1, h2⟩ := r
  unfold IM
  rw [← h o ho, ← g 99 (by omega), ← g 98 (by omega)]
  refine ⟨h1, ?_⟩
  rcases h2 with h2 | ⟨h2, h3⟩
  · exact Or.inl h2
  · exact Or.inr ⟨RR_cg (fun c _ _ => h c (by omega)) h2, SS_cg (fun c _ _ => h c (by omega)) h3⟩
theorem Inv2_cg {X X' N N' : jM} (h : ∀ c, c < 77 → X c = X' c) (g : ∀ c, 77 ≤ c → N c = N' c) (r : Inv2 X N) : Inv2 X' N' := by
  obtain ⟨h1, h2, ⟨n, h3, h4, h5, h6⟩, h7, h8⟩ := r
  refine ⟨?_, ?_, ⟨n, h3, ?_, ?_, fun i hi => ?_⟩, IM_cg h g (by omega) (by omega) (by omega) h7, IM_cg h g (by omega) (by omega) (by omega) h8⟩
  · unfold RN at h1 ⊢
    rw [← g 78 (by omega), ← g 79 (by omega), ← g 80 (by omega), ← g 81 (by omega), ← g 82 (by omega), ← g 77 (by omega)]
    exact RR_cg (fun c _ _ => h c (by omega)) h1
  · rw [← g 83 (by omega), ← g 84 (by omega), ← g 85 (by omega), ← g 77 (by omega)]
    exact SS_cg (fun c _ _ => h c (by omega)) h2
  · rw [← h 18 (by omega)]; exact h4
  · rw [← g 77 (by omega)]; exact h5
  · rw [← h 19 (by omega), ← g 86 (by omega)]; exact h6 i hi
/-! sums -/
theorem jSum_cg {f h : Nat → Int32} {z : Int32} : ∀ n, (∀ i, i < n → f i = h i) → jSum f z n = jSum h z n := by
  intro n
  induction n with
  | zero => intro _; rfl
  | succ n ih => intro e; rw [jSum, jSum, ih (fun i hi => e i (by omega)), e n (by omega)]
theorem jrg_ix {x : Int32} {b : Int} (h : jrg x 0 b) : x = nI x.toNatClampNeg ∧ (x.toNatClampNeg : Int) ≤ b := ⟨jix h, jixl h⟩
theorem jSum_b {f : Nat → Int32} {z : Int32} {a b : Nat} (hz : ∃ y, y ≤ a ∧ z = nI y) : ∀ n, (∀ i, i < n → ∃ y, y ≤ b ∧ f i = nI y) → ∃ y, y ≤ a + n * b ∧ jSum f z n = nI y := by
  intro n
  induction n with
  | zero => intro _; obtain ⟨y, h1, h2⟩ := hz; exact ⟨y, by omega, h2⟩
  | succ n ih =>
    intro h
    obtain ⟨y, h1, h2⟩ := ih (fun i hi => h i (by omega))
    obtain ⟨w, h3, h4⟩ := h n (by omega)
    refine ⟨y + w, ?_, ?_⟩
    · rw [Nat.succ_mul]; omega
    · rw [jSum, h2, h4, nI_add]
theorem jrg_ex {x : Int32} {b : Nat} (h : jrg x 0 b) : ∃ y, y ≤ b ∧ x = nI y := ⟨x.toNatClampNeg, by have := jixl h; omega, jix h⟩
theorem jOwn_st {x y : Int32} (h : jOwn x y) : (x = -1 ↔ ¬ 0 ≤ y) ∧ (x = -1 ↔ y < 0) ∧ (x = -1 ↔ y = -6) := by
  rcases h with ⟨rfl, rfl⟩ | ⟨rfl, h1, h2⟩
  · decide
  · have a1 : ¬ x = -1 := fun e => by rw [e] at h1; exact absurd h1 (by decide)
    have a2 : ¬ x = -6 := fun e => by rw [e] at h1; exact absurd h1 (by decide)
    have a3 : 0 ≤ x := by rw [Int32.le_iff_toInt_le]; exact h1
    exact ⟨⟨fun e => absurd e a1, fun e => absurd a3 e⟩, ⟨fun e => absurd e a1, fun e => absurd e (Int32.not_lt.mpr a3)⟩, ⟨fun e => absurd e a1, fun e => absurd e a2⟩⟩
/-! ===== NOTES, LAND, RATE ===== -/
theorem r_notes {X N : jM} {q : Nat} (r : RN X N q) : x_notes X q = m_notes N := by
  unfold x_notes m_notes
  rw [r.2.2.2.2.2.1.1]
  exact jSum_cg 6 (fun i hi => (r.1 i hi).1)
theorem r_land {X N : jM} {q : Nat} (r : RN X N q) : x_land X q = m_land N := by
  unfold x_land m_land
  apply jSum_cg 8
  intro i hi
  have o := jOwn_st (r.2.2.2.2.1 i hi)
  unfold x_landF m_landF
  by_cases h : X (q + 5) i = -1
  · rw [if_pos h, if_neg (o.1.mp h), (r.2.2.2.1 i hi).1]
  · rw [if_neg h, if_pos (Classical.not_not.mp (fun c => h (o.1.mpr c)))]
theorem r_notes_b {X N : jM} {q : Nat} (r : RN X N q) : ∃ y, y ≤ 159993 ∧ m_notes N = nI y := by
  obtain ⟨y, h1, h2⟩ := jSum_b (a := 99999) (b := 9999) (jrg_ex (b := 99999) r.2.2.2.2.2.1.2) 6 (fun i hi => jrg_ex (b := 9999) (r.1 i hi).2)
  exact ⟨y, by omega, h2⟩
theorem r_land_b {X N : jM} {q : Nat} (r : RN X N q) : ∃ y, y ≤ 7992 ∧ m_land N = nI y := by
  obtain ⟨y, h1, h2⟩ := jSum_b (f := m_landF N) (z := 0) (a := 0) (b := 999) ⟨0, Nat.le_refl 0, rfl⟩ 8 (fun i hi => by
    unfold m_landF
    split
    · exact ⟨0, by omega, rfl⟩
    · have p := (r.2.2.2.1 i hi).2
      exact jrg_ex (b := 999) ⟨by have := p.1; omega, p.2⟩)
  exact ⟨y, by omega, h2⟩
/-- 100 times LAND by NOTES, cut, 100 at the most -/
def rRate (a b : Nat) : Nat := if b = 0 then 100 else min 100 (100 * a / b)
theorem rRate_le (a b : Nat) : rRate a b ≤ 100 := by unfold rRate; split <;> omega
theorem x_rateOf_e {a b : Nat} (ha : a ≤ 10000) (hb : b < 2 ^ 30) : x_rateOf (nI a) (nI b) = nI (rRate a b) := by
  unfold x_rateOf rRate
  by_cases h : b = 0
  · subst h; rw [if_pos (by decide), if_pos rfl]; rfl
  · rw [if_neg (nI_nle (by omega) (by omega)), if_neg h, show (100 : Int32) = nI 100 from rfl, pk_mul, pk_div (by omega) (by omega) (by omega)]
    have l : 100 * a / b ≤ 100 * a := Nat.div_le_self _ _
    by_cases c : 100 * a / b < 100
    · rw [if_pos (nI_lt c (by omega)), Nat.min_eq_right (by omega)]
    · rw [if_neg (nI_nlt (by omega) (by omega)), Nat.min_eq_left (by omega)]
theorem m_rateOf_e {a b : Nat} (ha : a ≤ 10000) (hb : b < 2 ^ 60) : m_rateOf (nI a) (lN b) = nI (rRate a b) := by
  unfold m_rateOf m_rateL rRate
  by_cases h : b = 0
  · subst h; rw [if_pos (show lN 0 = 0 from rfl), if_pos rfl]; decide
  · have hne : ¬ lN b = 0 := lN_ne0 (by omega) (by omega)
    rw [if_neg hne, if_neg h, nI_l (by omega), show (100 : Int64) = lN 100 from rfl, lN_mul, pk_lDiv (by omega) (by omega) (by omega)]
    have l : 100 * a / b ≤ 100 * a := Nat.div_le_self _ _
    by_cases c : 100 * a / b ≤ 100
    · rw [if_pos ((pk_lLE (by omega) (by omega)).mpr c), lN_i, Nat.min_eq_right c]
    · rw [if_neg (fun q => c ((pk_lLE (by omega) (by omega)).mp q)), Nat.min_eq_left (by omega)]
      rfl
theorem r_rate {X N : jM} {q : Nat} (r : RN X N q) : x_rate X q = m_rate N ∧ ∃ y, y ≤ 100 ∧ m_rate N = nI y := by
  obtain ⟨a, ha, ea⟩ := r_land_b r
  obtain ⟨b, hb, eb⟩ := r_notes_b r
  unfold x_rate m_rate
  rw [r_land r, r_notes r, ea, eb, x_rateOf_e (by omega) (by omega), nI_l (by omega), m_rateOf_e (by omega) (by omega)]
  exact ⟨rfl, _, rRate_le a b, rfl⟩
