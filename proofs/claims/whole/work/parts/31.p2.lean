theorem RN_u1 {X N : jM} {q : Nat} (r : RN X N q) {i : Nat} {v : Int32} (hv : jrg v 0 9999) : RN (jU X (q + 1) i v) (jU N 78 i v) q := by
  obtain ⟨h1, h2, h3, h4, h5, h6, h7, h8, h9⟩ := r
  unfold RN RR
  refine ⟨fun j hj => ?_, fun j hj => ?_, fun j k hj hk => ?_, fun j hj => ?_, fun j hj => ?_, ?_, ?_, ?_, ?_⟩
  · by_cases e : j = i
    · subst e; rw [jU_same, jU_same]; exact ⟨rfl, hv⟩
    · rw [jU_slot e, jU_slot e]; exact h1 j hj
  · (first | rw [jU_cell (by omega)] | rw [jU_slot (by decide)]); (first | rw [jU_cell (by decide)] | rw [jU_slot (by decide)]); exact h2 j hj
  · (first | rw [jU_cell (by omega)] | rw [jU_slot (by decide)]); (first | rw [jU_cell (by decide)] | rw [jU_slot (by decide)]); exact h3 j k hj hk
  · (first | rw [jU_cell (by omega)] | rw [jU_slot (by decide)]); (first | rw [jU_cell (by decide)] | rw [jU_slot (by decide)]); exact h4 j hj
  · (first | rw [jU_cell (by omega)] | rw [jU_slot (by decide)]); (first | rw [jU_cell (by decide)] | rw [jU_slot (by decide)]); exact h5 j hj
  · (first | rw [jU_cell (by omega)] | rw [jU_slot (by decide)]); (first | rw [jU_cell (by decide)] | rw [jU_slot (by decide)]); exact h6
  · (first | rw [jU_cell (by omega)] | rw [jU_slot (by decide)]); (first | rw [jU_cell (by decide)] | rw [jU_slot (by decide)]); exact h7
  · (first | rw [jU_cell (by omega)] | rw [jU_slot (by decide)]); (first | rw [jU_cell (by decide)] | rw [jU_slot (by decide)]); exact h8
  · (first | rw [jU_cell (by omega)] | rw [jU_slot (by decide)]); (first | rw [jU_cell (by decide)] | rw [jU_slot (by decide)]); exact h9
theorem RN_u2 {X N : jM} {q : Nat} (r : RN X N q) {i : Nat} {v : Int32} (hv : jrg v 0 9999) : RN (jU X (q + 2) i v) (jU N 79 i v) q := by
  obtain ⟨h1, h2, h3, h4, h5, h6, h7, h8, h9⟩ := r
  unfold RN RR
  refine ⟨fun j hj => ?_, fun j hj => ?_, fun j k hj hk => ?_, fun j hj => ?_, fun j hj => ?_, ?_, ?_, ?_, ?_⟩
  · (first | rw [jU_cell (by omega)] | rw [jU_slot (by decide)]); (first | rw [jU_cell (by decide)] | rw [jU_slot (by decide)]); exact h1 j hj
  · by_cases e : j = i
    · subst e; rw [jU_same, jU_same]; exact ⟨rfl, hv⟩
    · rw [jU_slot e, jU_slot e]; exact h2 j hj
  · (first | rw [jU_cell (by omega)] | rw [jU_slot (by decide)]); (first | rw [jU_cell (by decide)] | rw [jU_slot (by decide)]); exact h3 j k hj hk
  · (first | rw [jU_cell (by omega)] | rw [jU_slot (by decide)]); (first | rw [jU_cell (by decide)] | rw [jU_slot (by decide)]); exact h4 j hj
  · (first | rw [jU_cell (by omega)] | rw [jU_slot (by decide)]); (first | rw [jU_cell (by decide)] | rw [jU_slot (by decide)]); exact h5 j hj
  · (first | rw [jU_cell (by omega)] | rw [jU_slot (by decide)]); (first | rw [jU_cell (by decide)] | rw [jU_slot (by decide)]); exact h6
  · (first | rw [jU_cell (by omega)] | rw [jU_slot (by decide)]); (first | rw [jU_cell (by decide)] | rw [jU_slot (by decide)]); exact h7
  · (first | rw [jU_cell (by omega)] | rw [jU_slot (by decide)]); (first | rw [jU_cell (by decide)] | rw [jU_slot (by decide)]); exact h8
  · (first | rw [jU_cell (by omega)] | rw [jU_slot (by decide)]); (first | rw [jU_cell (by decide)] | rw [jU_slot (by decide)]); exact h9
theorem RN_u3 {X N : jM} {q : Nat} (r : RN X N q) {i l : Nat} {v : Int32} (hi : i < 6) (hl : l < 6) (hv : jrg v 0 999) : RN (jU X (q + 6 + i) l v) (jU N 80 (6 * i + l) v) q := by
  obtain ⟨h1, h2, h3, h4, h5, h6, h7, h8, h9⟩ := r
  unfold RN RR
  refine ⟨fun j hj => ?_, fun j hj => ?_, fun j k hj hk => ?_, fun j hj => ?_, fun j hj => ?_, ?_, ?_, ?_, ?_⟩
  · (first | rw [jU_cell (by omega)] | rw [jU_slot (by decide)]); (first | rw [jU_cell (by decide)] | rw [jU_slot (by decide)]); exact h1 j hj
  · (first | rw [jU_cell (by omega)] | rw [jU_slot (by decide)]); (first | rw [jU_cell (by decide)] | rw [jU_slot (by decide)]); exact h2 j hj
  · by_cases e : j = i ∧ k = l
    · obtain ⟨e1, e2⟩ := e; subst e1; subst e2; rw [jU_same, jU_same]; exact ⟨rfl, hv⟩
    · have a1 : jU X (q + 6 + i) l v (q + 6 + j) k = X (q + 6 + j) k := if_neg (fun z => e ⟨by omega, z.2⟩)
      have a2 : jU N 80 (6 * i + l) v 80 (6 * j + k) = N 80 (6 * j + k) := if_neg (fun z => e (by have := z.2; omega))
      rw [a1, a2]; exact h3 j k hj hk
  · (first | rw [jU_cell (by omega)] | rw [jU_slot (by decide)]); (first | rw [jU_cell (by decide)] | rw [jU_slot (by decide)]); exact h4 j hj
  · (first | rw [jU_cell (by omega)] | rw [jU_slot (by decide)]); (first | rw [jU_cell (by decide)] | rw [jU_slot (by decide)]); exact h5 j hj
  · (first | rw [jU_cell (by omega)] | rw [jU_slot (by decide)]); (first | rw [jU_cell (by decide)] | rw [jU_slot (by decide)]); exact h6
  · (first | rw [jU_cell (by omega)] | rw [jU_slot (by decide)]); (first | rw [jU_cell (by decide)] | rw [jU_slot (by decide)]); exact h7
  · (first | rw [jU_cell (by omega)] | rw [jU_slot (by decide)]); (first | rw [jU_cell (by decide)] | rw [jU_slot (by decide)]); exact h8
  · (first | rw [jU_cell (by omega)] | rw [jU_slot (by decide)]); (first | rw [jU_cell (by decide)] | rw [jU_slot (by decide)]); exact h9
theorem RN_u4 {X N : jM} {q : Nat} (r : RN X N q) {i : Nat} {v : Int32} (hv : jrg v 1 999) : RN (jU X (q + 4) i v) (jU N 81 i v) q := by
  obtain ⟨h1, h2, h3, h4, h5, h6, h7, h8, h9⟩ := r
  unfold RN RR
  refine ⟨fun j hj => ?_, fun j hj => ?_, fun j k hj hk => ?_, fun j hj => ?_, fun j hj => ?_, ?_, ?_, ?_, ?_⟩
  · (first | rw [jU_cell (by omega)] | rw [jU_slot (by decide)]); (first | rw [jU_cell (by decide)] | rw [jU_slot (by decide)]); exact h1 j hj
  · (first | rw [jU_cell (by omega)] | rw [jU_slot (by decide)]); (first | rw [jU_cell (by decide)] | rw [jU_slot (by decide)]); exact h2 j hj
  · (first | rw [jU_cell (by omega)] | rw [jU_slot (by decide)]); (first | rw [jU_cell (by decide)] | rw [jU_slot (by decide)]); exact h3 j k hj hk
  · by_cases e : j = i
    · subst e; rw [jU_same, jU_same]; exact ⟨rfl, hv⟩
    · rw [jU_slot e, jU_slot e]; exact h4 j hj
  · (first | rw [jU_cell (by omega)] | rw [jU_slot (by decide)]); (first | rw [jU_cell (by decide)] | rw [jU_slot (by decide)]); exact h5 j hj
  · (first | rw [jU_cell (by omega)] | rw [jU_slot (by decide)]); (first | rw [jU_cell (by decide)] | rw [jU_slot (by decide)]); exact h6
  · (first | rw [jU_cell (by omega)] | rw [jU_slot (by decide)]); (first | rw [jU_cell (by decide)] | rw [jU_slot (by decide)]); exact h7
  · (first | rw [jU_cell (by omega)] | rw [jU_slot (by decide)]); (first | rw [jU_cell (by decide)] | rw [jU_slot (by decide)]); exact h8
  · (first | rw [jU_cell (by omega)] | rw [jU_slot (by decide)]); (first | rw [jU_cell (by decide)] | rw [jU_slot (by decide)]); exact h9
theorem RN_u5 {X N : jM} {q : Nat} (r : RN X N q) {i : Nat} {v w : Int32} (hv : jOwn v w) : RN (jU X (q + 5) i v) (jU N 82 i w) q := by
  obtain ⟨h1, h2, h3, h4, h5, h6, h7, h8, h9⟩ := r
  unfold RN RR
  refine ⟨fun j hj => ?_, fun j hj => ?_, fun j k hj hk => ?_, fun j hj => ?_, fun j hj => ?_, ?_, ?_, ?_, ?_⟩
  · (first | rw [jU_cell (by omega)] | rw [jU_slot (by decide)]); (first | rw [jU_cell (by decide)] | rw [jU_slot (by decide)]); exact h1 j hj
  · (first | rw [jU_cell (by omega)] | rw [jU_slot (by decide)]); (first | rw [jU_cell (by decide)] | rw [jU_slot (by decide)]); exact h2 j hj
  · (first | rw [jU_cell (by omega)] | rw [jU_slot (by decide)]); (first | rw [jU_cell (by decide)] | rw [jU_slot (by decide)]); exact h3 j k hj hk
  · (first | rw [jU_cell (by omega)] | rw [jU_slot (by decide)]); (first | rw [jU_cell (by decide)] | rw [jU_slot (by decide)]); exact h4 j hj
  · by_cases e : j = i
    · subst e; rw [jU_same, jU_same]; exact hv
    · rw [jU_slot e, jU_slot e]; exact h5 j hj
  · (first | rw [jU_cell (by omega)] | rw [jU_slot (by decide)]); (first | rw [jU_cell (by decide)] | rw [jU_slot (by decide)]); exact h6
  · (first | rw [jU_cell (by omega)] | rw [jU_slot (by decide)]); (first | rw [jU_cell (by decide)] | rw [jU_slot (by decide)]); exact h7
  · (first | rw [jU_cell (by omega)] | rw [jU_slot (by decide)]); (first | rw [jU_cell (by decide)] | rw [jU_slot (by decide)]); exact h8
  · (first | rw [jU_cell (by omega)] | rw [jU_slot (by decide)]); (first | rw [jU_cell (by decide)] | rw [jU_slot (by decide)]); exact h9
theorem RN_s5 {X N : jM} {q : Nat} (r : RN X N q) {v : Int32} (hv : jrg v 0 99999) : RN (jU X q 5 v) (jU N 77 5 v) q := by
  obtain ⟨h1, h2, h3, h4, h5, h6, h7, h8, h9⟩ := r
  unfold RN RR
  refine ⟨fun j hj => ?_, fun j hj => ?_, fun j k hj hk => ?_, fun j hj => ?_, fun j hj => ?_, ?_, ?_, ?_, ?_⟩
  · (first | rw [jU_cell (by omega)] | rw [jU_slot (by decide)]); (first | rw [jU_cell (by decide)] | rw [jU_slot (by decide)]); exact h1 j hj
  · (first | rw [jU_cell (by omega)] | rw [jU_slot (by decide)]); (first | rw [jU_cell (by decide)] | rw [jU_slot (by decide)]); exact h2 j hj
  · (first | rw [jU_cell (by omega)] | rw [jU_slot (by decide)]); (first | rw [jU_cell (by decide)] | rw [jU_slot (by decide)]); exact h3 j k hj hk
  · (first | rw [jU_cell (by omega)] | rw [jU_slot (by decide)]); (first | rw [jU_cell (by decide)] | rw [jU_slot (by decide)]); exact h4 j hj
  · (first | rw [jU_cell (by omega)] | rw [jU_slot (by decide)]); (first | rw [jU_cell (by decide)] | rw [jU_slot (by decide)]); exact h5 j hj
  · rw [jU_same, jU_same]; exact ⟨rfl, hv⟩
  · (first | rw [jU_cell (by omega)] | rw [jU_slot (by decide)]); (first | rw [jU_cell (by decide)] | rw [jU_slot (by decide)]); exact h7
  · (first | rw [jU_cell (by omega)] | rw [jU_slot (by decide)]); (first | rw [jU_cell (by decide)] | rw [jU_slot (by decide)]); exact h8
  · (first | rw [jU_cell (by omega)] | rw [jU_slot (by decide)]); (first | rw [jU_cell (by decide)] | rw [jU_slot (by decide)]); exact h9
theorem RN_s6 {X N : jM} {q : Nat} (r : RN X N q) {v : Int32} (hv : jrg v 0 99999) : RN (jU X q 6 v) (jU N 77 6 v) q := by
  obtain ⟨h1, h2, h3, h4, h5, h6, h7, h8, h9⟩ := r
  unfold RN RR
  refine ⟨fun j hj => ?_, fun j hj => ?_, fun j k hj hk => ?_, fun j hj => ?_, fun j hj => ?_, ?_, ?_, ?_, ?_⟩
  · (first | rw [jU_cell (by omega)] | rw [jU_slot (by decide)]); (first | rw [jU_cell (by decide)] | rw [jU_slot (by decide)]); exact h1 j hj
  · (first | rw [jU_cell (by omega)] | rw [jU_slot (by decide)]); (first | rw [jU_cell (by decide)] | rw [jU_slot (by decide)]); exact h2 j hj
  · (first | rw [jU_cell (by omega)] | rw [jU_slot (by decide)]); (first | rw [jU_cell (by decide)] | rw [jU_slot (by decide)]); exact h3 j k hj hk
  · (first | rw [jU_cell (by omega)] | rw [jU_slot (by decide)]); (first | rw [jU_cell (by decide)] | rw [jU_slot (by decide)]); exact h4 j hj
  · (first | rw [jU_cell (by omega)] | rw [jU_slot (by decide)]); (first | rw [jU_cell (by decide)] | rw [jU_slot (by decide)]); exact h5 j hj
  · (first | rw [jU_cell (by omega)] | rw [jU_slot (by decide)]); (first | rw [jU_cell (by decide)] | rw [jU_slot (by decide)]); exact h6
  · rw [jU_same, jU_same]; exact ⟨rfl, hv⟩
  · (first | rw [jU_cell (by omega)] | rw [jU_slot (by decide)]); (first | rw [jU_cell (by decide)] | rw [jU_slot (by decide)]); exact h8
  · (first | rw [jU_cell (by omega)] | rw [jU_slot (by decide)]); (first | rw [jU_cell (by decide)] | rw [jU_slot (by decide)]); exact h9
theorem RN_s7 {X N : jM} {q : Nat} (r : RN X N q) {v : Int32} : RN (jU X q 7 v) (jU N 77 7 v) q := by
  obtain ⟨h1, h2, h3, h4, h5, h6, h7, h8, h9⟩ := r
  unfold RN RR
  refine ⟨fun j hj => ?_, fun j hj => ?_, fun j k hj hk => ?_, fun j hj => ?_, fun j hj => ?_, ?_, ?_, ?_, ?_⟩
  · (first | rw [jU_cell (by omega)] | rw [jU_slot (by decide)]); (first | rw [jU_cell (by decide)] | rw [jU_slot (by decide)]); exact h1 j hj
  · (first | rw [jU_cell (by omega)] | rw [jU_slot (by decide)]); (first | rw [jU_cell (by decide)] | rw [jU_slot (by decide)]); exact h2 j hj
  · (first | rw [jU_cell (by omega)] | rw [jU_slot (by decide)]); (first | rw [jU_cell (by decide)] | rw [jU_slot (by decide)]); exact h3 j k hj hk
  · (first | rw [jU_cell (by omega)] | rw [jU_slot (by decide)]); (first | rw [jU_cell (by decide)] | rw [jU_slot (by decide)]); exact h4 j hj
  · (first | rw [jU_cell (by omega)] | rw [jU_slot (by decide)]); (first | rw [jU_cell (by decide)] | rw [jU_slot (by decide)]); exact h5 j hj
  · (first | rw [jU_cell (by omega)] | rw [jU_slot (by decide)]); (first | rw [jU_cell (by decide)] | rw [jU_slot (by decide)]); exact h6
  · (first | rw [jU_cell (by omega)] | rw [jU_slot (by decide)]); (first | rw [jU_cell (by decide)] | rw [jU_slot (by decide)]); exact h7
  · rw [jU_same, jU_same]
  · (first | rw [jU_cell (by omega)] | rw [jU_slot (by decide)]); (first | rw [jU_cell (by decide)] | rw [jU_slot (by decide)]); exact h9
theorem RN_s8 {X N : jM} {q : Nat} (r : RN X N q) {v : Int32} : RN (jU X q 8 v) (jU N 77 8 v) q := by
  obtain ⟨h1, h2, h3, h4, h5, h6, h7, h8, h9⟩ := r
  unfold RN RR
  refine ⟨fun j hj => ?_, fun j hj => ?_, fun j k hj hk => ?_, fun j hj => ?_, fun j hj => ?_, ?_, ?_, ?_, ?_⟩
  · (first | rw [jU_cell (by omega)] | rw [jU_slot (by decide)]); (first | rw [jU_cell (by decide)] | rw [jU_slot (by decide)]); exact h1 j hj
  · (first | rw [jU_cell (by omega)] | rw [jU_slot (by decide)]); (first | rw [jU_cell (by decide)] | rw [jU_slot (by decide)]); exact h2 j hj
  · (first | rw [jU_cell (by omega)] | rw [jU_slot (by decide)]); (first | rw [jU_cell (by decide)] | rw [jU_slot (by decide)]); exact h3 j k hj hk
  · (first | rw [jU_cell (by omega)] | rw [jU_slot (by decide)]); (first | rw [jU_cell (by decide)] | rw [jU_slot (by decide)]); exact h4 j hj
  · (first | rw [jU_cell (by omega)] | rw [jU_slot (by decide)]); (first | rw [jU_cell (by decide)] | rw [jU_slot (by decide)]); exact h5 j hj
  · (first | rw [jU_cell (by omega)] | rw [jU_slot (by decide)]); (first | rw [jU_cell (by decide)] | rw [jU_slot (by decide)]); exact h6
  · (first | rw [jU_cell (by omega)] | rw [jU_slot (by decide)]); (first | rw [jU_cell (by decide)] | rw [jU_slot (by decide)]); exact h7
  · (first | rw [jU_cell (by omega)] | rw [jU_slot (by decide)]); (first | rw [jU_cell (by decide)] | rw [jU_slot (by decide)]); exact h8
  · rw [jU_same, jU_same]
theorem Inv2_rn {X X' N N' : jM} (I : Inv2 X N) (h : ∀ c, 13 ≤ c → c < 77 → X c = X' c) (g : ∀ c, 83 ≤ c → N c = N' c) (g1 : N 77 12 = N' 77 12) (g2 : N 77 14 = N' 77 14) (r : RN X' N' 1) : Inv2 X' N' := by
  obtain ⟨-, h2, ⟨n, h3, h4, h5, h6⟩, h7, h8⟩ := I
  refine ⟨r, ?_, ⟨n, h3, ?_, ?_, fun i hi => ?_⟩, ?_, ?_⟩
  · rw [← g 83 (by omega), ← g 84 (by omega), ← g 85 (by omega), ← g1]
    exact SS_cg (fun c _ _ => h c (by omega) (by omega)) h2
  · rw [← h 18 (by omega) (by omega)]; exact h4
  · rw [← g2]; exact h5
  · rw [← h 19 (by omega) (by omega), ← g 86 (by omega)]; exact h6 i hi
  · unfold IM at h7 ⊢
    rw [← h 41 (by omega) (by omega), ← g 99 (by omega), ← g 98 (by omega)]
    refine ⟨h7.1, ?_⟩
    rcases h7.2 with z | ⟨z, w⟩
    · exact Or.inl z
    · exact Or.inr ⟨RR_cg (fun c _ _ => h c (by omega) (by omega)) z, SS_cg (fun c _ _ => h c (by omega) (by omega)) w⟩
  · unfold IM at h8 ⊢
    rw [← h 59 (by omega) (by omega), ← g 99 (by omega), ← g 98 (by omega)]
    refine ⟨h8.1, ?_⟩
    rcases h8.2 with z | ⟨z, w⟩
    · exact Or.inl z
    · exact Or.inr ⟨RR_cg (fun c _ _ => h c (by omega) (by omega)) z, SS_cg (fun c _ _ => h c (by omega) (by omega)) w⟩
theorem jtn_lt {o : Int32} {b : Nat} (h : 0 ≤ o.toInt ∧ o.toInt ≤ (b : Int)) : o.toNatClampNeg < b + 1 := by have := jixl h; omega
/-! ===== people, land, the state ===== -/
theorem e_one {X N : jM} (I : Inv2 X N) (o p c : Int32) : (x_one X o p c).1 = (m_one N o p c).1 ∧ Inv2 (x_one X o p c).2 (m_one N o p c).2 := by
  unfold x_one m_one
  by_cases h1 : 0 ≤ o.toInt ∧ o.toInt ≤ 5
  · rw [if_pos h1, if_pos h1]
    by_cases h2 : 0 ≤ p.toInt ∧ p.toInt ≤ 9999
    · rw [if_pos h2, if_pos h2]
      by_cases h3 : 0 ≤ c.toInt ∧ c.toInt ≤ 9999
      · rw [if_pos h3, if_pos h3]
        have l := jtn_lt (b := 5) h1
        refine ⟨?_, ?_⟩
        · show 10000 * X (1 + 1) _ + X (1 + 2) _ = _
          rw [(I.1.1 _ l).1, (I.1.2.1 _ l).1]
        · dsimp only
          refine Inv2_rn I (fun c hc _ => ?_) (fun c hc => ?_) ?_ ?_ (RN_u2 (RN_u1 I.1 h2) h3)
          · rw [jU_ne (by omega), jU_ne (by omega)]
          · rw [jU_ne (by omega), jU_ne (by omega)]
          · rw [jU_cell (by decide), jU_cell (by decide)]
          · rw [jU_cell (by decide), jU_cell (by decide)]
      · rw [if_neg h3, if_neg h3]; exact ⟨rfl, I⟩
    · rw [if_neg h2, if_neg h2]; exact ⟨rfl, I⟩
  · rw [if_neg h1, if_neg h1]; exact ⟨rfl, I⟩
theorem e_owe {X N : jM} (I : Inv2 X N) (o r v : Int32) : (x_owe X o r v).1 = (m_owe N o r v).1 ∧ Inv2 (x_owe X o r v).2 (m_owe N o r v).2 := by
  unfold x_owe m_owe
  by_cases h1 : 0 ≤ o.toInt ∧ o.toInt ≤ 5
  · rw [if_pos h1, if_pos h1]
    by_cases h2 : 0 ≤ r.toInt ∧ r.toInt ≤ 5
    · rw [if_pos h2, if_pos h2]
      by_cases h3 : o = r
      · rw [if_pos h3, if_pos h3]; exact ⟨rfl, I⟩
      rw [if_neg h3, if_neg h3]
      by_cases h4 : 0 ≤ v.toInt ∧ v.toInt ≤ 999
      · rw [if_pos h4, if_pos h4]
        have l := jtn_lt (b := 5) h1
        have l2 := jtn_lt (b := 5) h2
        refine ⟨(I.1.2.2.1 _ _ l l2).1, ?_⟩
        dsimp only
        refine Inv2_rn I (fun c hc _ => ?_) (fun c hc => ?_) ?_ ?_ (RN_u3 I.1 l l2 h4)
        · rw [jU_ne (by omega)]
        · unfold m_ow; rw [jU_ne (by omega)]
        · unfold m_ow; rw [jU_cell (by decide)]
        · unfold m_ow; rw [jU_cell (by decide)]
      · rw [if_neg h4, if_neg h4]; exact ⟨rfl, I⟩
    · rw [if_neg h2, if_neg h2]; exact ⟨rfl, I⟩
  · rw [if_neg h1, if_neg h1]; exact ⟨rfl, I⟩
theorem jm1 {c : Int32} : (c = -1 ∨ (0 ≤ c.toInt ∧ c.toInt ≤ 5)) ↔ (-1 ≤ c.toInt ∧ c.toInt ≤ 5) := by
  constructor
  · rintro (h | h)
    · rw [h]; decide
    · omega
  · intro h
    by_cases e : 0 ≤ c.toInt
    · exact Or.inr ⟨e, h.2⟩
    · left; apply Int32.toInt_inj.mp; show c.toInt = -1; omega
theorem e_lot {X N : jM} (I : Inv2 X N) (o p c : Int32) : (x_lot X o p c).1 = (m_lot N o p c).1 ∧ Inv2 (x_lot X o p c).2 (m_lot N o p c).2 := by
  unfold x_lot m_lot
  by_cases h1 : 0 ≤ o.toInt ∧ o.toInt ≤ 7
  · rw [if_pos h1]
    by_cases h2 : c = -1 ∨ (0 ≤ c.toInt ∧ c.toInt ≤ 5)
    · rw [if_pos ⟨h1, h2⟩, if_pos (jm1.mp h2)]
      by_cases h3 : 1 ≤ p.toInt ∧ p.toInt ≤ 999
      · rw [if_pos h3, if_pos h3]
        have l := jtn_lt (b := 7) h1
        refine ⟨(I.1.2.2.2.1 _ l).1, ?_⟩
        have ho : jOwn c (if 0 ≤ c then c else -6) := by
          rcases h2 with h2 | h2
          · left; subst h2; decide
          · right; rw [if_pos (by rw [Int32.le_iff_toInt_le]; exact h2.1)]; exact ⟨rfl, h2⟩
        dsimp only
        refine Inv2_rn I (fun c hc _ => ?_) (fun c hc => ?_) ?_ ?_ (RN_u5 (RN_u4 I.1 h3) ho)
        · rw [jU_ne (by omega), jU_ne (by omega)]
        · rw [jU_ne (by omega), jU_ne (by omega)]
        · rw [jU_cell (by decide), jU_cell (by decide)]
        · rw [jU_cell (by decide), jU_cell (by decide)]
      · rw [if_neg h3, if_neg h3]; exact ⟨rfl, I⟩
    · rw [if_neg (fun z => h2 z.2), if_neg (fun z => h2 (jm1.mpr z))]; exact ⟨rfl, I⟩
  · rw [if_neg h1, if_neg (fun z => h1 z.1)]; exact ⟨rfl, I⟩
theorem jU_id {M : jM} {k i : Nat} : jU M k i (M k i) = M := by
  funext c j
  unfold jU
  split
  · rename_i h; rw [h.1, h.2]
  · rfl
theorem e_set {X N : jM} (I : Inv2 X N) (o v : Int32) : (x_set X o v).1 = (m_set N o v).1 ∧ Inv2 (x_set X o v).2 (m_set N o v).2 := by
  unfold x_set m_set
  by_cases h1 : 0 ≤ o.toInt ∧ o.toInt ≤ 1
  · rw [if_pos h1, if_pos h1]
    by_cases h2 : 0 ≤ v.toInt ∧ v.toInt ≤ 99999
    · rw [if_pos h2, if_pos h2]
      by_cases h3 : o = 0
      · rw [if_pos h3, if_pos h3]
        refine ⟨I.1.2.2.2.2.2.1.1, ?_⟩
        simp only [jU_id]
        refine Inv2_rn I (fun c hc _ => ?_) (fun c hc => ?_) ?_ ?_ (RN_s5 I.1 h2)
        · rw [jU_ne (by omega)]
        · rw [jU_ne (by omega)]
        · rw [jU_slot (by decide)]
        · rw [jU_slot (by decide)]
      · rw [if_neg h3, if_neg h3]
        refine ⟨I.1.2.2.2.2.2.2.1.1, ?_⟩
        simp only [jU_id]
        refine Inv2_rn I (fun c hc _ => ?_) (fun c hc => ?_) ?_ ?_ (RN_s6 I.1 h2)
        · rw [jU_ne (by omega)]
        · rw [jU_ne (by omega)]
        · rw [jU_slot (by decide)]
        · rw [jU_slot (by decide)]
    · rw [if_neg h2, if_neg h2]; exact ⟨rfl, I⟩
  · rw [if_neg h1, if_neg h1]; exact ⟨rfl, I⟩
/-- a change of PAD and SIGHTS alone -/
theorem Inv2_ps {X X' N N' : jM} (I : Inv2 X N) (h : ∀ c, c < 77 → c ≠ 13 → c ≠ 14 → c ≠ 15 → c ≠ 16 → c ≠ 18 → c ≠ 19 → X c = X' c) (g : ∀ c, 78 ≤ c → c ≠ 83 → c ≠ 84 → c ≠ 85 → c ≠ 86 → N c = N' c) (g1 : ∀ i, i < 9 → N 77 i = N' 77 i)
    (s : SS X' 13 (N' 83) (N' 84) (N' 85) (N' 77 12)) (p : PP X' N') : Inv2 X' N' := by
  obtain ⟨r, -, -, h7, h8⟩ := I
  refine ⟨?_, s, p, ?_, ?_⟩
  · have r2 := RR_cg (X' := X') (fun c _ _ => h c (by omega) (by omega) (by omega) (by omega) (by omega) (by omega) (by omega)) r
    obtain ⟨a1, a2, a3, a4, a5, a6, a7, a8, a9⟩ := r2
    unfold RN RR
    rw [← g 78 (by omega) (by omega) (by omega) (by omega) (by omega), ← g 79 (by omega) (by omega) (by omega) (by omega) (by omega), ← g 80 (by omega) (by omega) (by omega) (by omega) (by omega), ← g 81 (by omega) (by omega) (by omega) (by omega) (by omega), ← g 82 (by omega) (by omega) (by omega) (by omega) (by omega), ← g1 5 (by omega), ← g1 6 (by omega), ← g1 7 (by omega), ← g1 8 (by omega)]
    exact ⟨a1, a2, a3, a4, a5, a6, a7, a8, a9⟩
  · unfold IM at h7 ⊢
    rw [← h 41 (by omega) (by omega) (by omega) (by omega) (by omega) (by omega) (by omega), ← g 99 (by omega) (by omega) (by omega) (by omega) (by omega), ← g 98 (by omega) (by omega) (by omega) (by omega) (by omega)]
    refine ⟨h7.1, ?_⟩
    rcases h7.2 with z | ⟨z, w⟩
    · exact Or.inl z
    · exact Or.inr ⟨RR_cg (fun c _ _ => h c (by omega) (by omega) (by omega) (by omega) (by omega) (by omega) (by omega)) z, SS_cg (fun c _ _ => h c (by omega) (by omega) (by omega) (by omega) (by omega) (by omega) (by omega)) w⟩
  · unfold IM at h8 ⊢
    rw [← h 59 (by omega) (by omega) (by omega) (by omega) (by omega) (by omega) (by omega), ← g 99 (by omega) (by omega) (by omega) (by omega) (by omega), ← g 98 (by omega) (by omega) (by omega) (by omega) (by omega)]
    refine ⟨h8.1, ?_⟩
    rcases h8.2 with z | ⟨z, w⟩
    · exact Or.inl z
    · exact Or.inr ⟨RR_cg (fun c _ _ => h c (by omega) (by omega) (by omega) (by omega) (by omega) (by omega) (by omega)) z, SS_cg (fun c _ _ => h c (by omega) (by omega) (by omega) (by omega) (by omega) (by omega) (by omega)) w⟩
theorem e_say {X N : jM} (I : Inv2 X N) {n : Nat} (h60 : n ≤ 60) (hn : X 18 1 = nI n) (hm : N 77 14 = nI n) (s : Int32) : (x_say X n s).1 = (m_say N n s).1 ∧ Inv2 (x_say X n s).2 (m_say N n s).2 := by
  unfold x_say m_say
  by_cases h1 : 33 ≤ s.toInt ∧ s.toInt ≤ 126
  · rw [if_pos h1, if_pos h1]
    by_cases h2 : n = 60
    · rw [if_pos h2, if_pos h2]; exact ⟨rfl, I⟩
    · rw [if_neg h2, if_neg h2]
      refine ⟨rfl, ?_⟩
      obtain ⟨n', p1, p2, p3, p4⟩ := I.2.2.1
      have s3 := I.2.1
      show Inv2 (x_add X n s) (jU (jU N 86 n s) 77 14 (nI (n + 1)))
      unfold x_add
      rw [if_pos (by omega)]
      refine Inv2_ps I (fun c h _ _ _ _ h5 h6 => ?_) (fun c h _ _ _ h4 => ?_) (fun i hi => ?_) ?_ ⟨n + 1, by omega, jU_same, jU_same, fun i hi => ?_⟩
      · rw [jU_ne (by omega), jU_ne (by omega)]
      · rw [jU_ne (by omega), jU_ne (by omega)]
      · rw [jU_slot (by omega), jU_cell (by decide)]
      · rw [jU_ne (k' := 83) (by decide), jU_ne (k' := 83) (by decide), jU_ne (k' := 84) (by decide), jU_ne (k' := 84) (by decide), jU_ne (k' := 85) (by decide), jU_ne (k' := 85) (by decide), jU_slot (by decide), jU_cell (by decide)]
        exact SS_cg (fun c _ _ => by rw [jU_ne (by omega), jU_ne (by omega)]) s3
      · rw [jU_cell (k := 18) (k' := 19) (by decide), jU_cell (k := 77) (k' := 86) (by decide)]
        by_cases e : i = n
        · subst e; rw [jU_same, jU_same]
        · rw [jU_slot e, jU_slot e]; exact p4 i hi
  · rw [if_neg h1, if_neg h1]; exact ⟨rfl, I⟩
theorem Inv2_wipe {X N : jM} (I : Inv2 X N) : Inv2 (jU X 18 1 0) (jU N 77 14 0) := by
  obtain ⟨n', p1, p2, p3, p4⟩ := I.2.2.1
  have s3 := I.2.1
  refine Inv2_ps I (fun c h _ _ _ _ h5 h6 => ?_) (fun c h _ _ _ h4 => ?_) (fun i hi => ?_) ?_ ⟨0, by omega, jU_same, jU_same, fun i hi => ?_⟩
  · rw [jU_ne (by omega)]
  · rw [jU_ne (by omega)]
  · rw [jU_slot (by omega)]
  · rw [jU_ne (k' := 83) (by decide), jU_ne (k' := 84) (by decide), jU_ne (k' := 85) (by decide), jU_slot (by decide)]
    exact SS_cg (fun c _ _ => by rw [jU_ne (by omega)]) s3
  · rw [jU_cell (by decide), jU_cell (by decide)]; exact p4 i hi
theorem e_wipe {X N : jM} (I : Inv2 X N) : (x_wipe X).1 = (m_wipe N).1 ∧ Inv2 (x_wipe X).2 (m_wipe N).2 := by
  obtain ⟨n', p1, p2, p3, p4⟩ := I.2.2.1
  exact ⟨p2.trans p3.symm, Inv2_wipe I⟩
theorem e_seen {X N : jM} (I : Inv2 X N) {s : Nat} (hs8 : s ≤ 8) (hs : X 13 4 = nI s) (hm : N 77 12 = nI s) (c m h : Int32) : (x_seen X s c m h).1 = (m_seen N s c m h).1 ∧ Inv2 (x_seen X s c m h).2 (m_seen N s c m h).2 := by
  unfold x_seen m_seen
  by_cases h1 : 0 ≤ c.toInt ∧ c.toInt ≤ 255
  · rw [if_pos h1, if_pos h1]
    by_cases h2 : 0 ≤ m.toInt ∧ m.toInt ≤ 8
    · rw [if_pos h2, if_pos h2]
      by_cases h3 : 0 ≤ h.toInt ∧ h.toInt ≤ 1
      · rw [if_pos h3, if_pos h3]
        by_cases h4 : s = 8
        · rw [if_pos h4, if_pos h4]; exact ⟨rfl, I⟩
        · rw [if_neg h4, if_neg h4]
          refine ⟨rfl, ?_⟩
          obtain ⟨n', p1, p2, p3, p4⟩ := I.2.2.1
          obtain ⟨s1, s2, s3⟩ := I.2.1
          show Inv2 (x_addS X s c m h) (m_addS N s c m h)
          unfold x_addS m_addS
          refine Inv2_ps I (fun k h _ _ _ _ _ _ => ?_) (fun k h _ _ _ _ => ?_) (fun i hi => ?_) ⟨?_, ⟨s + 1, by omega, jU_same⟩, fun i hi => ?_⟩ ⟨n', p1, ?_, ?_, fun i hi => ?_⟩
          · rw [jU_ne (by omega), jU_ne (by omega), jU_ne (by omega), jU_ne (by omega)]
          · rw [jU_ne (by omega), jU_ne (by omega), jU_ne (by omega), jU_ne (by omega)]
          · rw [jU_slot (by omega), jU_cell (by decide), jU_cell (by decide), jU_cell (by decide)]
          · rw [jU_same, jU_same]
          · have q := s3 i hi
            by_cases e : i = s
            · subst e
              rw [jU_cell (k' := 13 + 1) (by decide), jU_cell (k' := 13 + 1) (by decide), jU_cell (k' := 13 + 1) (by decide), jU_same, jU_cell (k' := 83) (by decide), jU_cell (k' := 83) (by decide), jU_cell (k' := 83) (by decide), jU_same,
                jU_cell (k' := 13 + 2) (by decide), jU_cell (k' := 13 + 2) (by decide), jU_same, jU_cell (k' := 84) (by decide), jU_cell (k' := 84) (by decide), jU_same, jU_cell (k' := 13 + 3) (by decide), jU_same, jU_cell (k' := 85) (by decide), jU_same]
              exact ⟨rfl, h1, rfl, rfl⟩
            · rw [jU_cell (k' := 13 + 1) (by decide), jU_slot e, jU_slot e, jU_slot e, jU_cell (k' := 83) (by decide), jU_slot e, jU_slot e, jU_slot e,
                jU_cell (k' := 13 + 2) (by decide), jU_slot e, jU_slot e, jU_slot e, jU_cell (k' := 84) (by decide), jU_slot e, jU_slot e, jU_slot e, jU_cell (k' := 13 + 3) (by decide), jU_slot e, jU_slot e, jU_slot e, jU_cell (k' := 85) (by decide), jU_slot e, jU_slot e, jU_slot e]
              exact q
          · rw [jU_cell (by decide), jU_cell (by decide), jU_cell (by decide), jU_cell (by decide)]; exact p2
          · rw [jU_slot (by decide), jU_cell (by decide), jU_cell (by decide), jU_cell (by decide)]; exact p3
          · rw [jU_cell (by decide), jU_cell (by decide), jU_cell (by decide), jU_cell (by decide), jU_cell (by decide), jU_cell (by decide), jU_cell (by decide), jU_cell (by decide)]; exact p4 i hi
      · rw [if_neg h3, if_neg h3]; exact ⟨rfl, I⟩
    · rw [if_neg h2, if_neg h2]; exact ⟨rfl, I⟩
  · rw [if_neg h1, if_neg h1]; exact ⟨rfl, I⟩
theorem e_forget {X N : jM} (I : Inv2 X N) : (x_forget X).1 = (m_forget N).1 ∧ Inv2 (x_forget X).2 (m_forget N).2 := by
  obtain ⟨n', p1, p2, p3, p4⟩ := I.2.2.1
  obtain ⟨s1, s2, s3⟩ := I.2.1
  refine ⟨s1, ?_⟩
  show Inv2 (jU X 13 4 0) (jU N 77 12 0)
  refine Inv2_ps I (fun c h _ _ _ _ h5 h6 => ?_) (fun c h _ _ _ h4 => ?_) (fun i hi => ?_) ⟨?_, ⟨0, by omega, jU_same⟩, fun i hi => ?_⟩ ⟨n', p1, ?_, ?_, fun i hi => ?_⟩
  · rw [jU_ne (by omega)]
  · rw [jU_ne (by omega)]
  · rw [jU_slot (by omega)]
  · rw [jU_same, jU_same]
  · rw [jU_cell (k' := 13 + 1) (by decide), jU_cell (k' := 13 + 2) (by decide), jU_cell (k' := 13 + 3) (by decide), jU_cell (k' := 83) (by decide), jU_cell (k' := 84) (by decide), jU_cell (k' := 85) (by decide)]; exact s3 i hi
  · rw [jU_cell (by decide)]; exact p2
  · rw [jU_slot (by decide)]; exact p3
  · rw [jU_cell (by decide), jU_cell (by decide)]; exact p4 i hi
