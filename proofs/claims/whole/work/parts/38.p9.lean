/-! the reference's table -/
theorem mtb_le {d : Nat → Int32} : ∀ n j, j < n → m_tb d n j = m_tb d (j + 1) j := by
  intro n
  induction n with
  | zero => intro j h; exact absurd h (Nat.not_lt_zero j)
  | succ n ih =>
    intro j h
    by_cases e : j = n
    · subst e; rfl
    · rw [← ih j (by omega), m_tb_old e]
theorem mtb_at {d : Nat → Int32} {n j : Nat} (h : j < n) (hn : n ≤ 64) : m_tb d n j = m_tb d 64 j := by rw [mtb_le n j h, mtb_le 64 j (by omega)]
theorem i0_le {x : Int32} : x ≤ 0 ↔ x.toInt ≤ 0 := Int32.le_iff_toInt_le
theorem is_e {T : Nat → Int32} {t o : Nat} (ht : t < 64) (ho : o < t) (h0 : 0 < o) (hb : ∀ j, 0 < j → j < t → -6 ≤ (T j).toInt ∧ (T j).toInt ≤ (j : Int)) :
    ((m_is T t o).toInt = -6 ∧ ¬ (o &&& t = o ∧ 0 < (T o).toInt ∧ 0 < (T (t - o)).toInt)) ∨ (o &&& t = o ∧ 0 < (T o).toInt ∧ 0 < (T (t - o)).toInt ∧ (m_is T t o).toInt = (T o).toInt + (T (t - o)).toInt) := by
  have sb := sf_sb o (by omega) t ht
  have b1 := hb o h0 ho
  have b2 := hb (t - o) (by omega) (by omega)
  unfold m_is
  by_cases c : o &&& t = o
  · rw [if_pos (sb.mpr c)]
    by_cases c1 : (T o).toInt ≤ 0
    · rw [if_pos (i0_le.mpr c1)]; exact Or.inl ⟨by decide, fun q => by omega⟩
    · rw [if_neg (fun q => c1 (i0_le.mp q))]
      by_cases c2 : (T (t - o)).toInt ≤ 0
      · rw [if_pos (i0_le.mpr c2)]; exact Or.inl ⟨by decide, fun q => by omega⟩
      · rw [if_neg (fun q => c2 (i0_le.mp q))]
        refine Or.inr ⟨c, by omega, by omega, ?_⟩
        obtain ⟨x, _, x2, ex⟩ := jv_of (v := T o) (lo := 0) (hi := 64) ⟨by omega, by omega⟩ (by decide)
        obtain ⟨y, _, y2, ey⟩ := jv_of (v := T (t - o)) (lo := 0) (hi := 64) ⟨by omega, by omega⟩ (by decide)
        rw [ex, ey, nI_add, nI_toInt (by omega), nI_toInt (by omega), nI_toInt (by omega)]; omega
  · rw [if_neg (fun q => c (sb.mp q))]; exact Or.inl ⟨by decide, fun q => c q.1⟩
theorem me_e {T : Nat → Int32} {t : Nat} {b : Int32} (ht : t < 64) (h0 : 0 < t) (hb : ∀ j, 0 < j → j < t → -6 ≤ (T j).toInt ∧ (T j).toInt ≤ (j : Int)) (hbb : b.toInt = 1 ∨ b.toInt = -6) :
    ∀ i, i < t → (-6 ≤ (m_me T b t i).toInt ∧ (m_me T b t i).toInt ≤ (t : Int)) ∧ b.toInt ≤ (m_me T b t i).toInt ∧ (∀ o, 0 < o → o ≤ i → o &&& t = o → 0 < (T o).toInt → 0 < (T (t - o)).toInt → (T o).toInt + (T (t - o)).toInt ≤ (m_me T b t i).toInt) ∧
      ((m_me T b t i).toInt = b.toInt ∨ (m_me T b t i).toInt = -6 ∨ ∃ o, 0 < o ∧ o ≤ i ∧ o &&& t = o ∧ 0 < (T o).toInt ∧ 0 < (T (t - o)).toInt ∧ (m_me T b t i).toInt = (T o).toInt + (T (t - o)).toInt) := by
  intro i
  induction i with
  | zero => intro _; rw [m_me]; exact ⟨⟨by omega, by omega⟩, Int.le_refl _, fun o h1 h2 => absurd h1 (by omega), Or.inl rfl⟩
  | succ i ih =>
    intro hi
    obtain ⟨a1, a2, a3, a4⟩ := ih (by omega)
    have e := is_e (o := i + 1) ht hi (by omega) hb
    have b1 := hb (i + 1) (by omega) hi
    have b2 := hb (t - (i + 1)) (by omega) (by omega)
    rw [m_me]
    by_cases c : m_is T t (i + 1) ≤ m_me T b t i
    · rw [if_pos c]
      have c' := Int32.le_iff_toInt_le.mp c
      refine ⟨a1, a2, fun o o1 o2 o3 o4 o5 => ?_, ?_⟩
      · by_cases q : o = i + 1
        · subst q
          rcases e with ⟨_, e⟩ | ⟨_, _, _, e⟩
          · exact absurd ⟨o3, o4, o5⟩ e
          · omega
        · exact a3 o o1 (by omega) o3 o4 o5
      · rcases a4 with a4 | a4 | ⟨o, o1, o2, o3⟩
        · exact Or.inl a4
        · exact Or.inr (Or.inl a4)
        · exact Or.inr (Or.inr ⟨o, o1, by omega, o3⟩)
    · rw [if_neg c]
      have c' : ¬ (m_is T t (i + 1)).toInt ≤ (m_me T b t i).toInt := fun q => c (Int32.le_iff_toInt_le.mpr q)
      rcases e with ⟨e1, e⟩ | ⟨e1, e2, e3, e4⟩
      · omega
      · refine ⟨⟨by omega, by omega⟩, by omega, fun o o1 o2 o3 o4 o5 => ?_, Or.inr (Or.inr ⟨i + 1, by omega, Nat.le_refl _, e1, e2, e3, e4⟩)⟩
        by_cases q : o = i + 1
        · subst q; omega
        · have := a3 o o1 (by omega) o3 o4 o5; omega
def mH (d : Nat → Int32) (t : Nat) : Int := (m_tb d 64 t).toInt
theorem mH_all {d : Nat → Int32} : ∀ t, t < 64 → 0 < t → (-6 ≤ mH d t ∧ mH d t ≤ (t : Int)) ∧ (x_dT d t = 0 → 1 ≤ mH d t) ∧ (∀ o, 0 < o → o < t → o &&& t = o → 0 < mH d o → 0 < mH d (t - o) → mH d o + mH d (t - o) ≤ mH d t) ∧
    (0 < mH d t → x_dT d t = 0 ∧ (mH d t = 1 ∨ ∃ o, 0 < o ∧ o < t ∧ o &&& t = o ∧ 0 < mH d o ∧ 0 < mH d (t - o) ∧ mH d t = mH d o + mH d (t - o))) := by
  intro t
  induction t using Nat.strongRecOn with
  | _ t ih =>
    intro ht h0
    have e : m_tb d 64 t = m_me (m_tb d 64) (if x_dT d t = 0 then 1 else -6) t (t - 1) := by
      rw [mtb_le 64 t ht, m_tb_new]
      exact m_me_cg ht (fun j _ hj => mtb_at hj (by omega)) (t - 1) (by omega)
    have hb : (if x_dT d t = 0 then (1 : Int32) else -6).toInt = 1 ∨ (if x_dT d t = 0 then (1 : Int32) else -6).toInt = -6 := by
      by_cases c : x_dT d t = 0
      · rw [if_pos c]; exact Or.inl (by decide)
      · rw [if_neg c]; exact Or.inr (by decide)
    obtain ⟨a1, a2, a3, a4⟩ := me_e (T := m_tb d 64) ht h0 (fun j h1 h2 => (ih j h2 (by omega) h1).1) hb (t - 1) (by omega)
    rw [← e] at a1 a2 a3 a4
    refine ⟨a1, fun z => ?_, fun o o1 o2 o3 o4 o5 => a3 o o1 (by omega) o3 o4 o5, fun hp => ?_⟩
    · rw [if_pos z] at a2
      have : (1 : Int32).toInt = 1 := by decide
      unfold mH; omega
    · unfold mH at hp
      rcases a4 with a4 | a4 | ⟨o, o1, o2, o3, o4, o5, o6⟩
      · by_cases c : x_dT d t = 0
        · rw [if_pos c] at a4; exact ⟨c, Or.inl (by unfold mH; rw [a4]; decide)⟩
        · rw [if_neg c] at a4
          have : (-6 : Int32).toInt = -6 := by decide
          omega
      · omega
      · refine ⟨?_, Or.inr ⟨o, o1, by omega, o3, o4, o5, o6⟩⟩
        have z1 := ((ih o (by omega) (by omega) o1).2.2.2 o4).1
        have z2 := ((ih (t - o) (by omega) (by omega) (by omega)).2.2.2 o5).1
        rw [dT_add (by omega) ht o3, z1, z2]; rfl
/-- the reference's number is not above the class's -/
theorem mH_le {d : Nat → Int32} : ∀ t, t < 64 → 0 < t → 0 < mH d t → mH d t ≤ (gG d t : Int) := by
  intro t
  induction t using Nat.strongRecOn with
  | _ t ih =>
    intro ht h0 hp
    obtain ⟨z, w⟩ := (mH_all (d := d) t ht h0).2.2.2 hp
    rcases w with w | ⟨o, o1, o2, o3, o4, o5, o6⟩
    · obtain ⟨i, i1, i2, i3⟩ := ((gG_all (d := d) t ht).2 h0).2
      have : gE d t = 1 := by unfold gE; rw [if_pos z]
      omega
    · have q1 := ih o o2 (by omega) o1 o4
      have q2 := ih (t - o) (by omega) (by omega) (by omega) o5
      have zo := ((mH_all (d := d) o (by omega) o1).2.2.2 o4).1
      have s := gG_sup (d := d) (o := o) (by omega) zo t ht o3
      omega
theorem gG_le {d : Nat → Int32} : ∀ t, t < 64 → (∃ u, u < 64 ∧ u &&& t = u ∧ x_dT d u = 0 ∧ ((u = 0 ∧ gG d t = 0) ∨ (0 < u ∧ (gG d t : Int) ≤ mH d u))) ∧ (0 < t → x_dT d t = 0 → (gG d t : Int) ≤ mH d t) := by
  intro t
  induction t using Nat.strongRecOn with
  | _ t ih =>
    intro ht
    have z0 : x_dT d 0 = 0 := by
      rw [dT_f (by decide), jSum_cg (h := fun _ => 0) 6 (fun i _ => by rw [Nat.zero_testBit]; rfl), jS_0]
    by_cases h0 : t = 0
    · subst h0
      have := (gG_all (d := d) 0 ht).1.2
      exact ⟨⟨0, by omega, rfl, z0, Or.inl ⟨rfl, by omega⟩⟩, fun h => absurd h (by omega)⟩
    · obtain ⟨i, i1, i2, i3⟩ := ((gG_all (d := d) t ht).2 (by omega)).2
      have l := sf_one t ht i i1 i2
      have p := Nat.two_pow_pos i
      obtain ⟨⟨u, u1, u2, u3, u4⟩, _⟩ := ih (t - 2 ^ i) (by omega) (by omega)
      obtain ⟨v1, v2⟩ := sf_sub1 t ht i i1 i2 u u1 u2
      have a := mH_all (d := d) t ht (by omega)
      have key : x_dT d t = 0 → (gG d t : Int) ≤ mH d t := by
        intro z
        have e1 : gE d t = 1 := by unfold gE; rw [if_pos z]
        have m1 := a.2.1 z
        rcases u4 with ⟨u4, u5⟩ | ⟨u4, u5⟩
        · omega
        · by_cases c : gG d (t - 2 ^ i) = 0
          · omega
          · have zv : x_dT d (t - u) = 0 := by
              have q := dT_add (d := d) u1 ht v1
              rw [z, u3, Int32.zero_add] at q
              exact q.symm
            have m2 := (mH_all (d := d) (t - u) (by omega) (by omega)).2.1 zv
            have m3 := a.2.2.1 u u4 v2 v1 (by omega) (by omega)
            omega
      refine ⟨?_, fun _ => key⟩
      by_cases z : x_dT d t = 0
      · exact ⟨t, ht, Nat.and_self t, z, Or.inr ⟨by omega, key z⟩⟩
      · have e0 : gE d t = 0 := by unfold gE; rw [if_neg z]
        refine ⟨u, u1, v1, u3, ?_⟩
        rcases u4 with ⟨u4, u5⟩ | ⟨u4, u5⟩
        · exact Or.inl ⟨u4, by omega⟩
        · exact Or.inr ⟨u4, by omega⟩
theorem tb_63 {d : Nat → Int32} (h : x_dT d 63 = 0) : x_tb d 64 63 = m_tb d 64 63 := by
  have a := (gG_all (d := d) 63 (by decide)).1
  have b := (gG_le (d := d) 63 (by decide)).2 (by decide) h
  have c := (mH_all (d := d) 63 (by decide) (by decide)).2.1 h
  have e := mH_le (d := d) 63 (by decide) (by decide) (by omega)
  apply Int32.toInt_inj.mp
  rw [a.1, nI_toInt (by omega)]
  unfold mH at b e; omega
theorem due_e {X N : jM} (r : RN X N 1) : ∀ i, i < 6 → x_due X i = m_net N i := by
  intro i hi
  unfold x_due m_net
  rw [r_owes r hi]
  exact jSum_cg 6 (fun e he => (r.2.2.1 e i he hi).1)
theorem e_struck {X N : jM} (I : Inv2 X N) (k : Int32) : x_struck X k = m_struck N k := by
  unfold x_struck m_struck
  by_cases h : 0 ≤ k.toInt ∧ k.toInt ≤ 1
  · rw [if_pos h, if_pos h]
    by_cases h0 : k = 0
    · rw [if_pos h0, if_neg (by rw [h0]; decide), x_tb_cg (due_e I.1), tb_63 (by rw [dT_63, net_0])]
    · rw [if_neg h0, if_pos (jk01 h h0)]
      exact jSum_cg 6 (fun i hi => by unfold x_posF; rw [due_e I.1 i hi])
  · rw [if_neg h, if_neg h]
