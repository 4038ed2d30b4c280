/-! ===== STRUCK ===== -/
theorem sf_tb : ∀ t, t < 64 → ∀ i, i < 6 → ((nI t >>> (nI i &&& 31)) &&& 1 = 1 ↔ t.testBit i = true) := by decide +kernel
theorem sf_sb : ∀ o, o < 64 → ∀ t, t < 64 → (nI o &&& (nI t ^^^ (-1)) = 0 ↔ o &&& t = o) := by decide +kernel
/-- what is in a set is in the one part or in the other -/
theorem sf_or : ∀ o, o < 64 → ∀ t, t < 64 → o &&& t = o → (t - o) &&& t = t - o ∧ o ≤ t ∧ ∀ i, i < 6 → (t.testBit i = (o.testBit i || (t - o).testBit i) ∧ (o.testBit i && (t - o).testBit i) = false) := by decide +kernel
theorem sf_out' : ∀ o, o < 64 → ∀ t, t < 64 → ∀ i, i < 6 → (!(o &&& t == o) || !((t - o).testBit i) || (t.testBit i && (o &&& (t - 2 ^ i) == o) && Nat.ble (2 ^ i) (t - o))) = true := by decide +kernel
theorem sf_out (o : Nat) (ho : o < 64) (t : Nat) (ht : t < 64) (h : o &&& t = o) (i : Nat) (hi : i < 6) (hb : (t - o).testBit i = true) : t.testBit i = true ∧ o &&& (t - 2 ^ i) = o ∧ 2 ^ i ≤ t - o := by
  have q := sf_out' o ho t ht i hi
  have e : (o &&& t == o) = true := beq_iff_eq.mpr h
  rw [e, hb] at q
  simp only [Bool.not_true, Bool.false_or, Bool.and_eq_true, beq_iff_eq] at q
  exact ⟨q.1.1, q.1.2, Nat.le_of_ble_eq_true q.2⟩
theorem sf_one : ∀ t, t < 64 → ∀ i, i < 6 → t.testBit i = true → 2 ^ i ≤ t ∧ (t - 2 ^ i) &&& t = t - 2 ^ i := by decide +kernel
theorem sf_some : ∀ t, t < 64 → 0 < t → ∃ i, i < 6 ∧ t.testBit i = true := by decide +kernel
theorem sf_sub' : ∀ t, t < 64 → ∀ i, i < 6 → ∀ u, u < 64 → (!(t.testBit i) || !(u &&& (t - 2 ^ i) == u) || ((u &&& t == u) && Nat.blt u t)) = true := by decide +kernel
theorem sf_sub1 (t : Nat) (ht : t < 64) (i : Nat) (hi : i < 6) (hb : t.testBit i = true) (u : Nat) (hu : u < 64) (h : u &&& (t - 2 ^ i) = u) : u &&& t = u ∧ u < t := by
  have q := sf_sub' t ht i hi u hu
  have e : (u &&& (t - 2 ^ i) == u) = true := beq_iff_eq.mpr h
  rw [e, hb] at q
  simp only [Bool.not_true, Bool.false_or, Bool.and_eq_true, beq_iff_eq] at q
  exact ⟨q.1, Nat.le_of_ble_eq_true q.2⟩
/-! sums -/
theorem jS_z {f : Nat → Int32} {z : Int32} : ∀ n, jSum f z n = z + jSum f 0 n := by
  intro n
  induction n with
  | zero => rw [jSum, jSum, Int32.add_zero]
  | succ n ih => rw [jSum, jSum, ih, Int32.add_assoc]
theorem jS_add {f h : Nat → Int32} : ∀ n, jSum (fun i => f i + h i) 0 n = jSum f 0 n + jSum h 0 n := by
  intro n
  induction n with
  | zero => rfl
  | succ n ih =>
    rw [jSum, jSum, jSum, ih]
    rw [Int32.add_assoc, ← Int32.add_assoc (jSum h 0 n), Int32.add_comm (jSum h 0 n) (f n), Int32.add_assoc (f n), ← Int32.add_assoc]
theorem jS_neg {f : Nat → Int32} : ∀ n, jSum (fun i => -(f i)) 0 n = -(jSum f 0 n) := by
  intro n
  induction n with
  | zero => rw [jSum, jSum]; decide
  | succ n ih => rw [jSum, jSum, ih, Int32.neg_add, Int32.sub_eq_add_neg]
theorem jS_0 : ∀ n, jSum (fun _ => (0 : Int32)) 0 n = 0 := by
  intro n
  induction n with
  | zero => rfl
  | succ n ih => rw [jSum, ih]; rfl
theorem jS_swap {f : Nat → Nat → Int32} : ∀ n m, jSum (fun i => jSum (fun e => f e i) 0 m) 0 n = jSum (fun e => jSum (fun i => f e i) 0 n) 0 m := by
  intro n m
  induction n with
  | zero => exact (jS_0 m).symm
  | succ n ih =>
    rw [jSum, ih, ← jS_add]
    exact jSum_cg m (fun e _ => rfl)
theorem net_0 {N : jM} : jSum (m_net N) 0 6 = 0 := by
  have e : jSum (m_net N) 0 6 = jSum (fun i => -(m_owes N i) + jSum (fun e => N 80 (6 * e + i)) 0 6) 0 6 := jSum_cg 6 (fun i _ => by unfold m_net; rw [jS_z])
  rw [e, jS_add, jS_neg, jS_swap (f := fun e i => N 80 (6 * e + i))]
  have e2 : jSum (m_owes N) 0 6 = jSum (fun e => jSum (fun i => N 80 (6 * e + i)) 0 6) 0 6 := jSum_cg 6 (fun i _ => rfl)
  rw [← e2, Int32.add_left_neg]
theorem dT_f {d : Nat → Int32} {t : Nat} (ht : t < 64) : x_dT d t = jSum (fun i => if t.testBit i = true then d i else 0) 0 6 := by
  unfold x_dT
  apply jSum_cg 6
  intro i hi
  have := sf_tb t ht i hi
  by_cases h : t.testBit i = true
  · rw [if_pos h, if_pos (this.mpr h)]
  · rw [if_neg h, if_neg (fun q => h (this.mp q))]
theorem dT_63 {d : Nat → Int32} : x_dT d 63 = jSum d 0 6 := by
  rw [dT_f (by decide)]
  apply jSum_cg 6
  intro i hi
  have : ∀ i, i < 6 → Nat.testBit 63 i = true := by decide
  rw [if_pos (this i hi)]
theorem dT_add {d : Nat → Int32} {o t : Nat} (ho : o < 64) (ht : t < 64) (h : o &&& t = o) : x_dT d t = x_dT d o + x_dT d (t - o) := by
  obtain ⟨h1, h2, h3⟩ := sf_or o ho t ht h
  rw [dT_f ht, dT_f ho, dT_f (by omega), ← jS_add]
  apply jSum_cg 6
  intro i hi
  obtain ⟨q1, q2⟩ := h3 i hi
  rw [q1]
  cases b1 : o.testBit i <;> cases b2 : (t - o).testBit i
  · simp
  · simp
  · simp
  · rw [b1, b2] at q2; exact absurd q2 (by decide)
/-! the class's table -/
theorem xtb_le {d : Nat → Int32} : ∀ n j, j < n → x_tb d n j = x_tb d (j + 1) j := by
  intro n
  induction n with
  | zero => intro j h; exact absurd h (Nat.not_lt_zero j)
  | succ n ih =>
    intro j h
    by_cases e : j = n
    · subst e; rfl
    · rw [← ih j (by omega)]
      show (if j = n then _ else x_tb d n j) = _
      rw [if_neg e]
theorem xtb_at {d : Nat → Int32} {n j : Nat} (h : j < n) (hn : n ≤ 64) : x_tb d n j = x_tb d 64 j := by rw [xtb_le n j h, xtb_le 64 j (by omega)]
def gE (d : Nat → Int32) (t : Nat) : Nat := if x_dT d t = 0 then 1 else 0
theorem gm_e {d : Nat → Int32} {t : Nat} (ht : t < 64) (h0 : 0 < t) (G : Nat → Nat) (hG : ∀ j, j < t → x_tb d 64 j = nI (G j) ∧ G j ≤ j) :
    ∀ i, i ≤ 6 → ∃ y, x_gm (x_tb d t) t i = nI y ∧ y ≤ t - 1 ∧ (∀ j, j < i → t.testBit j = true → G (t - 2 ^ j) ≤ y) ∧ (y = 0 ∨ ∃ j, j < i ∧ t.testBit j = true ∧ y = G (t - 2 ^ j)) := by
  intro i
  induction i with
  | zero => intro _; exact ⟨0, rfl, by omega, fun j h => absurd h (Nat.not_lt_zero j), Or.inl rfl⟩
  | succ i ih =>
    intro hi
    obtain ⟨y, y1, y2, y3, y4⟩ := ih (by omega)
    rw [x_gm, y1]
    have tb := sf_tb t ht i (by omega)
    by_cases b : t.testBit i = true
    · rw [if_pos (tb.mpr b)]
      have p := Nat.two_pow_pos i
      have l := (sf_one t ht i (by omega) b).1
      have g := hG (t - 2 ^ i) (by omega)
      rw [xtb_at (by omega) (by omega), g.1]
      by_cases c : y < G (t - 2 ^ i)
      · rw [if_pos (nI_lt c (by omega))]
        refine ⟨_, rfl, by omega, fun j hj hb => ?_, Or.inr ⟨i, by omega, b, rfl⟩⟩
        by_cases e : j = i
        · subst e; exact Nat.le_refl _
        · have := y3 j (by omega) hb; omega
      · rw [if_neg (nI_nlt (by omega) (by omega))]
        refine ⟨y, rfl, y2, fun j hj hb => ?_, ?_⟩
        · by_cases e : j = i
          · subst e; omega
          · exact y3 j (by omega) hb
        · rcases y4 with y4 | ⟨j, j1, j2, j3⟩
          · exact Or.inl y4
          · exact Or.inr ⟨j, by omega, j2, j3⟩
    · rw [if_neg (fun q => b (tb.mp q))]
      refine ⟨y, rfl, y2, fun j hj hb => ?_, ?_⟩
      · by_cases e : j = i
        · subst e; exact absurd hb b
        · exact y3 j (by omega) hb
      · rcases y4 with y4 | ⟨j, j1, j2, j3⟩
        · exact Or.inl y4
        · exact Or.inr ⟨j, by omega, j2, j3⟩
def gG (d : Nat → Int32) (t : Nat) : Nat := (x_tb d 64 t).toNatClampNeg
theorem gG_all {d : Nat → Int32} : ∀ t, t < 64 → (x_tb d 64 t = nI (gG d t) ∧ gG d t ≤ t) ∧ (0 < t → (∀ i, i < 6 → t.testBit i = true → gG d (t - 2 ^ i) + gE d t ≤ gG d t) ∧ ∃ i, i < 6 ∧ t.testBit i = true ∧ gG d t = gG d (t - 2 ^ i) + gE d t) := by
  intro t
  induction t using Nat.strongRecOn with
  | _ t ih =>
    intro ht
    have e : x_tb d 64 t = (if t = 0 then 0 else if x_dT d t = 0 then x_gm (x_tb d t) t 6 + 1 else x_gm (x_tb d t) t 6) := by
      rw [xtb_le 64 t ht]
      show (if t = t then _ else _) = _
      rw [if_pos rfl]
    by_cases h0 : t = 0
    · subst h0
      have e0 : x_tb d 64 0 = 0 := by rw [e, if_pos rfl]
      have g0 : gG d 0 = 0 := by unfold gG; rw [e0]; rfl
      exact ⟨⟨by rw [e0, g0]; rfl, by omega⟩, fun h => absurd h (by omega)⟩
    · rw [if_neg h0] at e
      obtain ⟨y, y1, y2, y3, y4⟩ := gm_e ht (by omega) (gG d) (fun j hj => (ih j hj (by omega)).1) 6 (Nat.le_refl 6)
      have e' : x_tb d 64 t = nI (y + gE d t) := by
        rw [e, y1]; unfold gE
        by_cases c : x_dT d t = 0
        · rw [if_pos c, if_pos c, nI_1]
        · rw [if_neg c, if_neg c]; rfl
      have gl : gE d t ≤ 1 := by unfold gE; split <;> omega
      have g : gG d t = y + gE d t := by unfold gG; rw [e', nI_clamp (by omega)]
      refine ⟨⟨by rw [e', g], by omega⟩, fun _ => ⟨fun i hi hb => by have := y3 i hi hb; omega, ?_⟩⟩
      rcases y4 with y4 | ⟨j, j1, j2, j3⟩
      · obtain ⟨i, i1, i2⟩ := sf_some t ht (by omega)
        have := y3 i i1 i2
        exact ⟨i, i1, i2, by omega⟩
      · exact ⟨j, j1, j2, by omega⟩
/-- a part that adds up to nothing, and the rest -/
theorem gG_sup {d : Nat → Int32} {o : Nat} (ho : o < 64) (h0 : x_dT d o = 0) : ∀ t, t < 64 → o &&& t = o → gG d o + gG d (t - o) ≤ gG d t := by
  intro t
  induction t using Nat.strongRecOn with
  | _ t ih =>
    intro ht hs
    have ol := (sf_or o ho t ht hs).2.1
    by_cases e : t - o = 0
    · have g0 : gG d 0 = 0 := by have := (gG_all (d := d) 0 (by decide)).1.2; omega
      rw [e, g0, show t = o by omega]; exact Nat.le_refl _
    · obtain ⟨_, _, i, i1, i2, i3⟩ := (⟨trivial, trivial, ((gG_all (d := d) (t - o) (by omega)).2 (by omega)).2⟩ : True ∧ True ∧ _)
      obtain ⟨q1, q2, q3⟩ := sf_out o ho t ht hs i i1 i2
      have p := Nat.two_pow_pos i
      have z := ih (t - 2 ^ i) (by omega) (by omega) q2
      have w := ((gG_all (d := d) t ht).2 (by omega)).1 i i1 q1
      have ee : gE d (t - o) = gE d t := by unfold gE; rw [dT_add ho ht hs, h0, Int32.zero_add]
      rw [show t - 2 ^ i - o = t - o - 2 ^ i by omega] at z
      omega
