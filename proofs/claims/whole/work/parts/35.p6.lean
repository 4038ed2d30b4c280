/-! ===== PRINTS ===== -/
theorem rRate_ge {a b w : Nat} (h1 : 1 ≤ w) (h2 : w ≤ 100) : w ≤ rRate a b ↔ b ≤ 100 * a / w := by
  unfold rRate
  by_cases h : b = 0
  · rw [if_pos h, h]; exact ⟨fun _ => Nat.zero_le _, fun _ => h2⟩
  · rw [if_neg h, Nat.le_div_iff_mul_le h1]
    have q : w ≤ 100 * a / b ↔ b * w ≤ 100 * a := by rw [Nat.le_div_iff_mul_le (Nat.pos_of_ne_zero h), Nat.mul_comm]
    constructor
    · intro z; exact q.mp (by omega)
    · intro z; have := q.mpr z; omega
theorem pr_lem {N : jM} {a b w : Nat} (ha : a ≤ 10000) (hb : b ≤ 200000) (h1 : 1 ≤ w) (h2 : w ≤ 100) (ea : m_land N = nI a) (eb : m_notes N = nI b) :
    ∀ h, h ≤ 1000 → m_prF N (nI w) h = if h = 0 ∨ 100 * a / w < b then -6 else nI (min (h - 1) ((100 * a / w - b) / 100)) := by
  intro h
  induction h with
  | zero => intro _; rw [if_pos (Or.inl rfl)]; rfl
  | succ h ih =>
    intro hl
    have e : m_rateOf (m_land N) (m_prA N h) = nI (rRate a (b + 100 * h)) := by
      unfold m_prA
      rw [ea, eb, nI_l (by omega), nI_l (by omega), show (100 : Int64) = lN 100 from rfl, lN_mul, lN_add, m_rateOf_e ha (by omega)]
    rw [m_prF, e]
    have rl := rRate_le a (b + 100 * h)
    have rg := rRate_ge (a := a) (b := b + 100 * h) h1 h2
    generalize 100 * a / w = mn at *
    by_cases c : rRate a (b + 100 * h) < w
    · rw [if_pos (nI_lt c (by omega)), ih (by omega)]
      have nc : ¬ b + 100 * h ≤ mn := fun q => by have := rg.mpr q; omega
      by_cases d : mn < b
      · rw [if_pos (Or.inr d), if_pos (Or.inr d)]
      · rw [if_neg (by omega), if_neg (by omega)]
        have : h ≠ 0 := by omega
        congr 1; omega
    · rw [if_neg (nI_nlt (by omega) (by omega))]
      have := rg.mp (by omega)
      rw [if_neg (by omega)]
      congr 1; omega
theorem jv_of {v : Int32} {lo hi : Nat} (h : (lo : Int) ≤ v.toInt ∧ v.toInt ≤ (hi : Int)) (hh : hi < 2 ^ 31) : ∃ w, lo ≤ w ∧ w ≤ hi ∧ v = nI w := by
  refine ⟨v.toInt.toNat, by omega, by omega, ?_⟩
  apply Int32.toInt_inj.mp
  rw [nI_toInt (by omega)]; omega
theorem e_prints {X N : jM} (I : Inv2 X N) (v : Int32) : x_prints X v = m_prints N v := by
  unfold x_prints m_prints
  by_cases hv : 1 ≤ v.toInt ∧ v.toInt ≤ 100
  · rw [if_pos hv, if_pos hv]
    obtain ⟨w, h1, h2, rfl⟩ := jv_of (lo := 1) (hi := 100) hv (by decide)
    have r := I.1
    obtain ⟨a, ha, ea⟩ := r_land_b r
    obtain ⟨b, hb, eb⟩ := r_notes_b r
    rw [r_land r, r_notes r, pr_lem (by omega) (by omega) h1 h2 ea eb 1000 (Nat.le_refl _), ea, eb]
    dsimp only
    have l : 100 * a / w ≤ 100 * a := Nat.div_le_self _ _
    rw [show (100 : Int32) = nI 100 from rfl, show (999 : Int32) = nI 999 from rfl, pk_mul, pk_div (by omega) (by omega) (by omega)]
    generalize 100 * a / w = mn at *
    by_cases d : mn < b
    · rw [if_neg (nI_ge d (by omega)), if_pos (Or.inr d)]
    · rw [if_pos (nI_le (by omega) (by omega)), pk_sub (by omega), pk_div (by omega) (by omega) (by omega), if_neg (c := 1000 = 0 ∨ mn < b) (by omega)]
      by_cases c : (mn - b) / 100 < 999
      · rw [if_pos (nI_lt c (by omega))]; congr 1; omega
      · rw [if_neg (nI_nlt (by omega) (by omega))]; congr 1; omega
  · rw [if_neg hv, if_neg hv]
/-! ===== BUYS ===== -/
theorem r_prices {X N : jM} (r : RN X N 1) (s : Int32) : x_priceOf X 1 s = m_prices N s := by
  unfold x_priceOf m_prices
  apply jSum_cg 8
  intro i hi
  unfold x_priceF m_pricesF
  rw [(r.2.2.2.1 i hi).1]
theorem m_prices_0 {N : jM} : m_prices N (nI 0) = 0 := by
  unfold m_prices
  rw [jSum_cg (h := fun _ => 0) 8 (fun i hi => by
    unfold m_pricesF
    have : ∀ i, i < 8 → ¬ ((nI 0 >>> (nI i &&& 31)) &&& 1 = 1) := by decide +kernel
    exact if_neg (this i hi))]
  decide
theorem e_buyS {X N : jM} (r : RN X N 1) (v f : Int32) : ∀ k, x_buyS X v f k = (m_prices N (nI (m_buyS N v f k)), m_buyS N v f k) := by
  intro k
  induction k with
  | zero => rw [x_buyS, m_buyS, m_prices_0]
  | succ k ih =>
    rw [x_buyS, m_buyS, ih, r_prices r]
    by_cases h1 : nI (k + 1) &&& (f ^^^ (-1)) = 0
    · rw [if_pos h1, if_pos h1]
      by_cases h2 : v < m_prices N (nI (k + 1))
      · rw [if_pos h2, if_pos h2]
      · rw [if_neg h2, if_neg h2]
        dsimp only
        by_cases h3 : m_prices N (nI (k + 1)) ≤ m_prices N (nI (m_buyS N v f k))
        · rw [if_pos h3, if_pos h3]
        · rw [if_neg h3, if_neg h3]
    · rw [if_neg h1, if_neg h1]
theorem e_buys {X N : jM} (I : Inv2 X N) (v k : Int32) : x_buys X v k = m_buys N v k := by
  unfold x_buys m_buys
  rw [r_lotsS I.1, e_buyS I.1]
/-! ===== RUNS ===== -/
theorem run_lem {a g w : Nat} (ha : a ≤ 7992) (hg : g ≤ 99) (h1 : 1 ≤ w) (h2 : w ≤ 100) (x : Int32) : ∀ r i n, n < 2 ^ 22 → x_rn (nI a) (nI g) x i = nI n → m_rn (nI a) (nI g) x i = lN n →
    x_runF (nI a) (nI g) x (nI w) r i = m_runF (nI a) (nI g) x (nI w) r i := by
  intro r
  induction r with
  | zero => intro i n _ _ _; rfl
  | succ r ih =>
    intro i n hn e1 e2
    rw [x_runF, m_runF, e1, e2, x_rateOf_e (by omega) (by omega), m_rateOf_e (by omega) (by omega)]
    have rl := rRate_le a n
    have rg := rRate_ge (a := a) (b := n) h1 h2
    by_cases c : w ≤ rRate a n
    · rw [if_pos (nI_le c (by omega)), if_pos (nI_le c (by omega))]
      have l := rg.mp c
      have l2 : 100 * a / w ≤ 100 * a := Nat.div_le_self _ _
      have l3 : n * g ≤ n * 99 := Nat.mul_le_mul_left n hg
      have l4 : n * g / 100 ≤ n * g := Nat.div_le_self _ _
      have l5 : n * g / 100 ≤ n := by
        apply Nat.div_le_of_le_mul
        omega
      refine ih (i + 1) (n + (n * g / 100 + 100 * (100 - rRate a n))) (by omega) ?_ ?_
      · rw [x_rn, e1, x_rateOf_e (by omega) (by omega), show (100 : Int32) = nI 100 from rfl, pk_mul, pk_div (by omega) (by omega) (by omega), pk_sub rl, pk_mul, nI_add, nI_add]
      · rw [m_rn, e2, m_rateOf_e (by omega) (by omega), show (100 : Int32) = nI 100 from rfl, pk_sub rl, nI_l (by omega), nI_l (by omega), show (100 : Int64) = lN 100 from rfl, lN_mul, lN_mul, pk_lDiv (by omega) (by omega) (by omega), lN_add, lN_add]
    · rw [if_neg (nI_ge (by omega) (by omega)), if_neg (nI_ge (by omega) (by omega))]
theorem e_runs {X N : jM} (I : Inv2 X N) (x g v : Int32) : x_runs X x g v = m_runs N x g v := by
  unfold x_runs m_runs
  by_cases hx : 1 ≤ x.toInt ∧ x.toInt ≤ 99999
  · rw [if_pos hx, if_pos hx]
    by_cases hg : 0 ≤ g.toInt ∧ g.toInt ≤ 99
    · rw [if_pos hg, if_pos hg]
      by_cases hv : 1 ≤ v.toInt ∧ v.toInt ≤ 100
      · rw [if_pos hv, if_pos hv]
        obtain ⟨y, _, y2, rfl⟩ := jv_of (lo := 1) (hi := 99999) hx (by decide)
        obtain ⟨g, _, g2, rfl⟩ := jv_of (lo := 0) (hi := 99) hg (by decide)
        obtain ⟨w, h1, h2, rfl⟩ := jv_of (lo := 1) (hi := 100) hv (by decide)
        obtain ⟨a, ha, ea⟩ := r_land_b I.1
        rw [r_land I.1, ea]
        exact run_lem ha g2 h1 h2 (nI y) 101 0 y (by omega) rfl (nI_l (by omega))
      · rw [if_neg hv, if_neg hv]
    · rw [if_neg hg, if_neg hg]
  · rw [if_neg hx, if_neg hx]
/-! ===== WAGES ===== -/
theorem wl_t {p n i : Nat} (hp : p ≤ 999999999) (hi : i ≤ 8) : (m_dg p (8 - i) - (if 8 - i < n then 0 else m_dg p (8 - i - n))) = (p / 10 ^ i % 10 - p / 10 ^ n / 10 ^ i % 10) := by
  have e0 : m_dg p (8 - i) = p / 10 ^ i % 10 := by unfold m_dg; rw [show 8 - (8 - i) = i by omega]
  have e1 : p / 10 ^ n / 10 ^ i = p / 10 ^ (n + i) := by rw [Nat.div_div_eq_div_mul, Nat.pow_add]
  rw [e0, e1]
  by_cases c : 8 - i < n
  · rw [if_pos c]
    have : p / 10 ^ (n + i) = 0 := by
      apply Nat.div_eq_of_lt
      have : 10 ^ 9 ≤ 10 ^ (n + i) := Nat.pow_le_pow_right (by decide) (by omega)
      omega
    rw [this]
  · rw [if_neg c]
    unfold m_dg
    rw [show 8 - (8 - i - n) = n + i by omega]
theorem wl_e {p n : Nat} (hp : p ≤ 999999999) : x_wl p n 9 = m_wl p n 9 := by
  have t := fun i (hi : i ≤ 8) => wl_t (n := n) hp hi
  simp only [x_wl, m_wl]
  have t0 := t 0 (by omega); have t1 := t 1 (by omega); have t2 := t 2 (by omega); have t3 := t 3 (by omega); have t4 := t 4 (by omega)
  have t5 := t 5 (by omega); have t6 := t 6 (by omega); have t7 := t 7 (by omega); have t8 := t 8 (by omega)
  simp only [Nat.sub_zero, show 8 - 1 = 7 from rfl, show 8 - 2 = 6 from rfl, show 8 - 3 = 5 from rfl, show 8 - 4 = 4 from rfl, show 8 - 5 = 3 from rfl, show 8 - 6 = 2 from rfl, show 8 - 7 = 1 from rfl, show 8 - 8 = 0 from rfl] at t0 t1 t2 t3 t4 t5 t6 t7 t8
  rw [← t0, ← t1, ← t2, ← t3, ← t4, ← t5, ← t6, ← t7, ← t8]
  ac_rfl
theorem e_wages (v k : Int32) : x_wages v k = m_wages v k := by
  unfold x_wages m_wages
  by_cases hv : 0 ≤ v.toInt ∧ v.toInt ≤ 999999999
  · rw [if_pos hv, if_pos hv]
    obtain ⟨w, h1, h2, rfl⟩ := jv_of (lo := 0) (hi := 999999999) hv (by decide)
    rw [nI_clamp (by omega), wl_e h2]
  · rw [if_neg hv, if_neg hv]
