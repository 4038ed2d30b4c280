/-! ===== one act, side by side ===== -/
theorem jU_comm {M : jM} {k i k' i' : Nat} {v v' : Int32} (h : k ≠ k') : jU (jU M k i v) k' i' v' = jU (jU M k' i' v') k i v := by
  funext c j
  unfold jU
  by_cases h1 : c = k ∧ j = i
  · rw [if_pos h1, if_neg (fun q => h (h1.1.symm.trans q.1)), if_pos h1]
  · rw [if_neg h1, if_neg h1]
theorem wn_0 {N : jM} {k : Nat} {v : Int32} : m_whyNot N 0 k v = (if N 77 5 + v ≤ 99999 then 0 else 5) := if_pos rfl
theorem wn_1 {N : jM} {k : Nat} {v : Int32} : m_whyNot N 1 k v = (if 9999 < N 78 k + v then 5 else if N 77 6 + v ≤ 99999 then 0 else 5) := by
  unfold m_whyNot; rw [if_neg (by decide), if_pos rfl]
theorem wn_2 {N : jM} {k : Nat} {v : Int32} : m_whyNot N 2 k v = (if N 82 v.toNatClampNeg < 0 then (if N 81 v.toNatClampNeg ≤ N 78 k then 0 else 3) else 2) := by
  unfold m_whyNot; rw [if_neg (by decide), if_neg (by decide), if_pos rfl]
theorem wn_3 {N : jM} {k : Nat} {v : Int32} : m_whyNot N 3 k v = m_wnC N k v := by
  unfold m_whyNot; rw [if_neg (by decide), if_neg (by decide), if_neg (by decide), if_pos rfl]
theorem wn_4 {N : jM} {k : Nat} {v : Int32} : m_whyNot N 4 k v = m_wnP N k v.toNatClampNeg := by
  unfold m_whyNot; rw [if_neg (by decide), if_neg (by decide), if_neg (by decide), if_neg (by decide), if_pos rfl]
theorem wn_5 {N : jM} {k : Nat} {v : Int32} : m_whyNot N 5 k v = (if v ≤ N 77 5 then (if N 78 k + v ≤ 9999 then 0 else 5) else 3) := by
  unfold m_whyNot; rw [if_neg (by decide), if_neg (by decide), if_neg (by decide), if_neg (by decide), if_neg (by decide), if_pos rfl]
theorem wn_6 {N : jM} {k : Nat} {v : Int32} : m_whyNot N 6 k v = (if N 77 8 = 99 then 6 else 0) := by
  unfold m_whyNot; rw [if_neg (by decide), if_neg (by decide), if_neg (by decide), if_neg (by decide), if_neg (by decide), if_neg (by decide)]
theorem hp_0 {N : jM} {k : Nat} {v : Int32} : m_happen N 0 k v = jU N 77 5 (N 77 5 + v) := if_pos rfl
theorem hp_1 {N : jM} {k : Nat} {v : Int32} : m_happen N 1 k v = jU (jU N 78 k (N 78 k + v)) 77 6 (N 77 6 + v) := by
  unfold m_happen; rw [if_neg (by decide), if_pos rfl]; dsimp only; rw [jU_cell (by decide)]
theorem hp_2 {N : jM} {k : Nat} {v : Int32} : m_happen N 2 k v = jU (jU (jU N 82 v.toNatClampNeg (nI k)) 78 k (N 78 k - N 81 v.toNatClampNeg)) 77 7 (N 77 7 + N 81 v.toNatClampNeg) := by
  unfold m_happen m_buyM; rw [if_neg (by decide), if_neg (by decide), if_pos rfl]; dsimp only
  simp only [jU_cell (show (78 : Nat) ≠ 82 by decide), jU_cell (show (81 : Nat) ≠ 82 by decide), jU_cell (show (77 : Nat) ≠ 82 by decide), jU_cell (show (77 : Nat) ≠ 78 by decide), jU_cell (show (81 : Nat) ≠ 78 by decide)]
theorem hp_3 {N : jM} {k : Nat} {v : Int32} : m_happen N 3 k v = jU (jU (jU N 79 k (N 79 k + m_worth N v)) 78 k (N 78 k - v)) 77 5 (N 77 5 + v) := by
  unfold m_happen m_swap; rw [if_neg (by decide), if_neg (by decide), if_neg (by decide), if_pos rfl]; dsimp only
  simp only [jU_cell (show (78 : Nat) ≠ 79 by decide), jU_cell (show (77 : Nat) ≠ 79 by decide), jU_cell (show (77 : Nat) ≠ 78 by decide)]
theorem hp_4 {N : jM} {k : Nat} {v : Int32} : m_happen N 4 k v = m_payM N k v.toNatClampNeg := by
  unfold m_happen; rw [if_neg (by decide), if_neg (by decide), if_neg (by decide), if_neg (by decide), if_pos rfl]
theorem hp_5 {N : jM} {k : Nat} {v : Int32} : m_happen N 5 k v = jU (jU N 77 5 (N 77 5 - v)) 78 k (N 78 k + v) := by
  unfold m_happen; rw [if_neg (by decide), if_neg (by decide), if_neg (by decide), if_neg (by decide), if_neg (by decide), if_pos rfl]; dsimp only
  rw [jU_cell (by decide)]
theorem hp_6 {N : jM} {k : Nat} {v : Int32} : m_happen N 6 k v = jU N 77 8 (N 77 8 + 1) := by
  unfold m_happen; rw [if_neg (by decide), if_neg (by decide), if_neg (by decide), if_neg (by decide), if_neg (by decide), if_neg (by decide)]
/-- an act's answer and what it leaves -/
def SA (p : Int32 × jM) (X : jM) (q : Nat) (y : Int32) (N' : jM) : Prop := p.1 = y ∧ (y = 0 → RN p.2 N' q) ∧ (y ≠ 0 → p.2 = X)
theorem SA_ok {p : Int32 × jM} {X N' : jM} {q : Nat} {y : Int32} (h : p.1 = 0) (hy : y = 0) (r : RN p.2 N' q) : SA p X q y N' := ⟨h.trans hy.symm, fun _ => r, fun q => absurd hy q⟩
theorem SA_no {X N' : jM} {q : Nat} {y : Int32} (h : y ≠ 0) : SA (y, X) X q y N' := ⟨rfl, fun q => absurd q h, fun _ => rfl⟩
theorem jrg_n {n b : Nat} (h : n ≤ b) (hb : b < 2 ^ 31) : jrg (nI n) 0 b := by unfold jrg; rw [nI_toInt (by omega)]; omega
theorem jrg9 {n : Nat} (h : n ≤ 9999) : jrg (nI n) 0 9999 := jrg_n h (by decide)
theorem jrg5 {n : Nat} (h : n ≤ 99999) : jrg (nI n) 0 99999 := jrg_n h (by decide)
theorem jrg3 {n : Nat} (h : n ≤ 999) : jrg (nI n) 0 999 := jrg_n h (by decide)
theorem sa_printed {X N : jM} {q w s : Nat} (r : RN X N q) (hs : s ≤ 900) : SA (x_printed X q (nI s)) X q (m_whyNot N 0 w (nI s)) (m_happen N 0 w (nI s)) := by
  obtain ⟨c, hc, ec⟩ := jrg_ex (b := 99999) r.2.2.2.2.2.1.2
  rw [wn_0, hp_0]
  unfold x_printed
  rw [r.2.2.2.2.2.1.1, ec, nI_add, show (99999 : Int32) = nI 99999 from rfl]
  by_cases h : c + s ≤ 99999
  · rw [if_pos (nI_le h (by omega)), if_pos (nI_le h (by omega))]
    exact SA_ok rfl rfl (RN_s5 r (jrg5 h))
  · rw [if_neg (nI_ge (by omega) (by omega)), if_neg (nI_ge (by omega) (by omega))]
    exact SA_no (by decide)
theorem sa_forg {X N : jM} {q w s : Nat} (r : RN X N q) (hw : w < 6) (hs : s ≤ 900) : SA (x_forg X q w (nI s)) X q (m_whyNot N 1 w (nI s)) (m_happen N 1 w (nI s)) := by
  obtain ⟨c, hc, ec⟩ := jrg_ex (b := 99999) r.2.2.2.2.2.2.1.2
  obtain ⟨p, hp, ep⟩ := jrg_ex (b := 9999) (r.1 w hw).2
  rw [wn_1, hp_1]
  unfold x_forg x_forgM
  dsimp only
  rw [jU_cell (by omega), r.2.2.2.2.2.2.1.1, (r.1 w hw).1, ec, ep, nI_add, nI_add, show (99999 : Int32) = nI 99999 from rfl, show (9999 : Int32) = nI 9999 from rfl]
  by_cases h1 : 9999 < p + s
  · rw [if_pos (nI_lt h1 (by omega)), if_pos (nI_lt h1 (by omega))]
    exact SA_no (by decide)
  · rw [if_neg (nI_nlt (by omega) (by omega)), if_neg (nI_nlt (by omega) (by omega))]
    by_cases h : c + s ≤ 99999
    · rw [if_pos (nI_le h (by omega)), if_pos (nI_le h (by omega))]
      exact SA_ok rfl rfl (RN_s6 (RN_u1 r (jrg9 (by omega))) (jrg5 h))
    · rw [if_neg (nI_ge (by omega) (by omega)), if_neg (nI_ge (by omega) (by omega))]
      exact SA_no (by decide)
theorem sa_paid {X N : jM} {q w s : Nat} (r : RN X N q) (hw : w < 6) (hs : s ≤ 900) : SA (x_paid X q w (nI s)) X q (m_whyNot N 5 w (nI s)) (m_happen N 5 w (nI s)) := by
  obtain ⟨c, hc, ec⟩ := jrg_ex (b := 99999) r.2.2.2.2.2.1.2
  obtain ⟨p, hp, ep⟩ := jrg_ex (b := 9999) (r.1 w hw).2
  rw [wn_5, hp_5]
  unfold x_paid
  rw [jU_cell (by omega), r.2.2.2.2.2.1.1, (r.1 w hw).1, ec, ep, nI_add, show (9999 : Int32) = nI 9999 from rfl]
  by_cases h1 : s ≤ c
  · rw [if_pos (nI_le h1 (by omega)), if_pos (nI_le h1 (by omega)), pk_sub h1]
    by_cases h : p + s ≤ 9999
    · rw [if_pos (nI_le h (by omega)), if_pos (nI_le h (by omega))]
      exact SA_ok rfl rfl (RN_u1 (RN_s5 r (jrg5 (by omega))) (jrg9 h))
    · rw [if_neg (nI_ge (by omega) (by omega)), if_neg (nI_ge (by omega) (by omega))]
      exact SA_no (by decide)
  · rw [if_neg (nI_ge (by omega) (by omega)), if_neg (nI_ge (by omega) (by omega))]
    exact SA_no (by decide)
theorem sa_bought {X N : jM} {q w v : Nat} (r : RN X N q) (hw : w < 6) (hv : v < 8) : SA (x_bought X q w v) X q (m_whyNot N 2 w (nI v)) (m_happen N 2 w (nI v)) := by
  obtain ⟨p, hp, ep⟩ := jrg_ex (b := 9999) (r.1 w hw).2
  have pr := r.2.2.2.1 v hv
  obtain ⟨c, c1, c2, ec⟩ := jv_of (lo := 1) (hi := 999) pr.2 (by decide)
  have ow := (jOwn_st (r.2.2.2.2.1 v hv)).2.1
  rw [wn_2, hp_2, nI_clamp (by omega)]
  unfold x_bought x_boughtM
  dsimp only
  simp only [jU_cell (show q ≠ q + 1 by omega), jU_cell (show q + 4 ≠ q + 1 by omega)]
  rw [(r.1 w hw).1, pr.1, ep, ec, r.2.2.2.2.2.2.2.1]
  by_cases h1 : X (q + 5) v = -1
  · rw [if_pos h1, if_pos (ow.mp h1)]
    by_cases h : c ≤ p
    · rw [if_pos (nI_le h (by omega)), if_pos (nI_le h (by omega)), pk_sub h]
      refine SA_ok rfl rfl ?_
      rw [jU_comm (show (82 : Nat) ≠ 78 by decide), jU_comm (show (82 : Nat) ≠ 77 by decide)]
      refine RN_u5 (RN_s7 (RN_u1 r (jrg9 (by omega)))) (Or.inr ⟨rfl, ?_, ?_⟩)
      · rw [nI_toInt (by omega)]; omega
      · rw [nI_toInt (by omega)]; omega
    · rw [if_neg (nI_ge (by omega) (by omega)), if_neg (nI_ge (by omega) (by omega))]
      exact SA_no (by decide)
  · rw [if_neg h1, if_neg (fun q => h1 (ow.mpr q))]
    exact SA_no (by decide)
theorem r_worth {X N : jM} {q s : Nat} (r : RN X N q) (hs : s ≤ 90) : x_worth X q (nI s) = m_worth N (nI s) ∧ ∃ y, y ≤ 90 ∧ m_worth N (nI s) = nI y := by
  obtain ⟨e, y, hy, ey⟩ := r_rate r
  unfold x_worth m_worth
  rw [e, ey]
  refine ⟨rfl, s * y / 100, ?_, ?_⟩
  · have : s * y ≤ 90 * 100 := Nat.mul_le_mul hs hy
    omega
  · have : s * y ≤ 90 * 100 := Nat.mul_le_mul hs hy
    rw [pk_mul, show (100 : Int32) = nI 100 from rfl, pk_div (by omega) (by decide) (by decide)]
theorem sa_exch {X N : jM} {q w s : Nat} (r : RN X N q) (hw : w < 6) (hs : s ≤ 90) : SA (x_exch X q w (nI s)) X q (m_whyNot N 3 w (nI s)) (m_happen N 3 w (nI s)) := by
  obtain ⟨c, hc, ec⟩ := jrg_ex (b := 99999) r.2.2.2.2.2.1.2
  obtain ⟨p, hp, ep⟩ := jrg_ex (b := 9999) (r.1 w hw).2
  obtain ⟨o, ho, eo⟩ := jrg_ex (b := 9999) (r.2.1 w hw).2
  obtain ⟨w1, y, hy, ey⟩ := r_worth r hs
  rw [wn_3, hp_3]
  unfold x_exch x_exchM m_wnC
  dsimp only
  simp only [jU_cell (show q ≠ q + 1 by omega), jU_cell (show q + 2 ≠ q + 1 by omega), jU_cell (show q + 2 ≠ q by omega)]
  rw [w1, ey, r.2.2.2.2.2.1.1, (r.1 w hw).1, (r.2.1 w hw).1, ec, ep, eo, nI_add, nI_add, show (99999 : Int32) = nI 99999 from rfl, show (9999 : Int32) = nI 9999 from rfl]
  by_cases h1 : s ≤ p
  · rw [if_pos (nI_le h1 (by omega)), if_pos (nI_le h1 (by omega)), pk_sub h1]
    by_cases h2 : 99999 < c + s
    · rw [if_pos (nI_lt h2 (by omega)), if_neg (c := nI (c + s) ≤ nI 99999) (nI_ge h2 (by omega))]
      have : (if nI 9999 < nI (o + y) then (5 : Int32) else 5) = 5 := by split <;> rfl
      rw [this]
      exact SA_no (by decide)
    · rw [if_neg (nI_nlt (by omega) (by omega)), if_pos (c := nI (c + s) ≤ nI 99999) (nI_le (by omega) (by omega))]
      by_cases h3 : o + y ≤ 9999
      · rw [if_pos (nI_le h3 (by omega)), if_neg (nI_nlt (by omega) (by omega))]
        refine SA_ok rfl rfl ?_
        rw [jU_comm (show (79 : Nat) ≠ 78 by decide), jU_comm (show (79 : Nat) ≠ 77 by decide)]
        exact RN_u2 (RN_s5 (RN_u1 r (jrg9 (by omega))) (jrg5 (by omega))) (jrg9 h3)
      · rw [if_neg (nI_ge (by omega) (by omega)), if_pos (nI_lt (by omega) (by omega))]
        exact SA_no (by decide)
  · rw [if_neg (nI_ge (by omega) (by omega)), if_neg (nI_ge (by omega) (by omega))]
    exact SA_no (by decide)
theorem sa_sett {X N : jM} {q w v : Nat} (r : RN X N q) (hw : w < 6) (hv : v < 6) : SA (x_sett X q w v) X q (m_whyNot N 4 w (nI v)) (m_happen N 4 w (nI v)) := by
  obtain ⟨p, hp, ep⟩ := jrg_ex (b := 9999) (r.1 w hw).2
  obtain ⟨t, ht, et⟩ := jrg_ex (b := 9999) (r.1 v hv).2
  have ow := r.2.2.1 w v hw hv
  obtain ⟨o, ho, eo⟩ := jrg_ex (b := 999) ow.2
  have s1 : x_sum X q w v = nI (min p o) := by
    unfold x_sum; rw [(r.1 w hw).1, ow.1, ep, eo]
    by_cases h : p < o
    · rw [if_pos (nI_lt h (by omega))]; congr 1; omega
    · rw [if_neg (nI_nlt (by omega) (by omega))]; congr 1; omega
  have s2 : m_paym N w v = nI (min p o) := by
    unfold m_paym; rw [ep, eo]
    by_cases h : p ≤ o
    · rw [if_pos (nI_le h (by omega))]; congr 1; omega
    · rw [if_neg (nI_ge (by omega) (by omega))]; congr 1; omega
  rw [wn_4, hp_4, nI_clamp (by omega)]
  unfold x_sett x_settM m_wnP m_payM
  dsimp only
  by_cases h1 : w = v
  · rw [if_pos h1, if_pos h1]; exact SA_no (by decide)
  · rw [if_neg h1, if_neg h1, s1, s2]
    simp only [jU_cell (show q + 1 ≠ q + 6 + w by omega), jU_slot (show v ≠ w by omega), jU_cell (show (78 : Nat) ≠ 80 by decide)]
    rw [(r.1 w hw).1, (r.1 v hv).1, ow.1, ep, et, eo]
    by_cases h2 : min p o = 0
    · rw [h2, if_pos (show nI 0 = 0 from rfl), if_pos (show nI 0 = 0 from rfl)]; exact SA_no (by decide)
    · rw [if_neg (nI_ne0 (by omega) (by omega)), if_neg (nI_ne0 (by omega) (by omega)), nI_add, show (9999 : Int32) = nI 9999 from rfl]
      by_cases h3 : t + min p o ≤ 9999
      · rw [if_pos (nI_le h3 (by omega)), if_pos (nI_le h3 (by omega)), pk_sub (by omega), pk_sub (by omega)]
        exact SA_ok rfl rfl (RN_u1 (RN_u1 (RN_u3 r hw hv (jrg3 (by omega))) (jrg9 (by omega))) (jrg9 h3))
      · rw [if_neg (nI_ge (by omega) (by omega)), if_neg (nI_ge (by omega) (by omega))]
        exact SA_no (by decide)
theorem sa_month {X N : jM} {q w : Nat} {v : Int32} (r : RN X N q) : SA (x_month X q) X q (m_whyNot N 6 w v) (m_happen N 6 w v) := by
  rw [wn_6, hp_6]
  unfold x_month
  rw [r.2.2.2.2.2.2.2.2]
  by_cases h : N 77 8 = 99
  · rw [if_pos h, if_pos h]; exact SA_no (by decide)
  · rw [if_neg h, if_neg h]; exact SA_ok rfl rfl (RN_s8 r)
