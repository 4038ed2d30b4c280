/-! ===== every act; what is kept and taken back; YEAR ===== -/
def mV (k z : Nat) : Int32 := if k = 2 ∨ k = 3 ∨ k = 5 then nI z else if k = 4 then nI (10 * z) else nI (100 * z)
theorem sa_act {X N : jM} {q k w z : Nat} {v : Int32} (r : RN X N q) (hk : k < 8) (hw : w < 6) (h8 : k = 2 ∨ k = 3 → z < 8) (h6 : k = 5 → z < 6) (h9 : k = 0 ∨ k = 1 ∨ k = 4 ∨ k = 6 → z ≤ 9) (hv : k ≠ 7 → v = mV k z) :
    SA (x_act X q (nI k) w (nI z)) X q (m_whyNot N (m_actBy (nI k)) w v) (m_happen N (m_actBy (nI k)) w v) := by
  have h100 : (100 : Int32) * nI z = nI (100 * z) := by rw [show (100 : Int32) = nI 100 from rfl, pk_mul]
  have h10 : (10 : Int32) * nI z = nI (10 * z) := by rw [show (10 : Int32) = nI 10 from rfl, pk_mul]
  have c : k = 0 ∨ k = 1 ∨ k = 2 ∨ k = 3 ∨ k = 4 ∨ k = 5 ∨ k = 6 ∨ k = 7 := by omega
  unfold x_act
  rcases c with c | c | c | c | c | c | c | c <;> subst c
  · rw [hv (by decide), show m_actBy (nI 0) = 0 by decide, if_pos (by decide), h100]
    exact sa_printed r (by have := h9 (by decide); omega)
  · rw [hv (by decide), show m_actBy (nI 1) = 5 by decide, if_neg (by decide), if_pos (by decide), h100]
    exact sa_paid r hw (by have := h9 (by decide); omega)
  · have := h8 (by decide)
    rw [hv (by decide), show m_actBy (nI 2) = 2 by decide, if_neg (by decide), if_neg (by decide), if_pos (by decide), nI_clamp (by omega)]
    exact sa_bought r hw this
  · have := h8 (by decide)
    rw [hv (by decide), show m_actBy (nI 3) = 2 by decide, if_neg (by decide), if_neg (by decide), if_neg (by decide), if_pos (by decide), nI_clamp (by omega)]
    exact sa_bought r hw this
  · rw [hv (by decide), show m_actBy (nI 4) = 3 by decide, if_neg (by decide), if_neg (by decide), if_neg (by decide), if_neg (by decide), if_pos (by decide), h10]
    exact sa_exch r hw (by have := h9 (by decide); omega)
  · have := h6 (by decide)
    rw [hv (by decide), show m_actBy (nI 5) = 4 by decide, if_neg (by decide), if_neg (by decide), if_neg (by decide), if_neg (by decide), if_neg (by decide), if_pos (by decide), nI_clamp (by omega)]
    exact sa_sett r hw this
  · rw [hv (by decide), show m_actBy (nI 6) = 1 by decide, if_neg (by decide), if_neg (by decide), if_neg (by decide), if_neg (by decide), if_neg (by decide), if_neg (by decide), if_pos (by decide), h100]
    exact sa_forg r hw (by have := h9 (by decide); omega)
  · rw [show m_actBy (nI 7) = 6 by decide, if_neg (by decide), if_neg (by decide), if_neg (by decide), if_neg (by decide), if_neg (by decide), if_neg (by decide), if_neg (by decide)]
    exact sa_month r
/-- N came from N0 after its kept rows were laid by -/
def KP (N0 N : jM) : Prop := (∀ c, 83 ≤ c → c ≠ 87 → c ≠ 88 → c ≠ 89 → c ≠ 90 → c ≠ 91 → N c = N0 c) ∧ N 81 = N0 81 ∧ N 77 12 = N0 77 12 ∧ N 77 14 = N0 77 14 ∧ N 90 = m_keep N0 90
theorem KP_keep {N : jM} : KP N (m_keep N) := ⟨fun c _ _ _ _ h _ => m_keep_ne h, m_keep_ne (by decide), by rw [m_keep_ne (by decide)], by rw [m_keep_ne (by decide)], rfl⟩
theorem m_happen_81 {M : jM} {w v : Int32} {k : Nat} : m_happen M w k v 81 = M 81 := by
  unfold m_happen
  repeat' split
  all_goals (try unfold m_buyM); (try unfold m_swap); (try unfold m_payM)
  all_goals (funext i; (try dsimp only); repeat rw [jU_cell (by decide)])
theorem KP_happen {N0 N : jM} (h : KP N0 N) {w v : Int32} {k : Nat} : KP N0 (m_happen N w k v) := by
  obtain ⟨h1, h2, h3, h4, h5⟩ := h
  refine ⟨fun c a1 a2 a3 a4 a5 a6 => (m_happen_ne a1).trans (h1 c a1 a2 a3 a4 a5 a6), m_happen_81.trans h2, ?_, ?_, (m_happen_ne (by decide)).trans h5⟩
  · rw [m_happen_slot (by decide), h3]
  · rw [m_happen_slot (by decide), h4]
theorem bk_rows {N0 N : jM} (h : N 90 = m_keep N0 90) : (∀ i, i < 6 → m_back N 78 i = N0 78 i) ∧ (∀ i, i < 6 → m_back N 79 i = N0 79 i) ∧ (∀ i, i < 36 → m_back N 80 i = N0 80 i) ∧ (∀ i, i < 8 → m_back N 82 i = N0 82 i) ∧ m_back N 77 5 = N0 77 5 ∧ m_back N 77 6 = N0 77 6 ∧ m_back N 77 7 = N0 77 7 ∧ m_back N 77 8 = N0 77 8 := by
  have e : ∀ j, N 90 j = m_keep N0 90 j := fun j => by rw [h]
  have k0 : ∀ i, i < 6 → m_keep N0 90 i = N0 78 i := fun i hi => by unfold m_keep; rw [if_pos rfl, if_pos hi]
  have k1 : ∀ i, i < 6 → m_keep N0 90 (6 + i) = N0 79 i := fun i hi => by unfold m_keep; rw [if_pos rfl, if_neg (by omega), if_pos (by omega)]; congr 1; omega
  have k2 : ∀ i, i < 36 → m_keep N0 90 (12 + i) = N0 80 i := fun i hi => by unfold m_keep; rw [if_pos rfl, if_neg (by omega), if_neg (by omega), if_pos (by omega)]; congr 1; omega
  have k3 : ∀ i, i < 8 → m_keep N0 90 (48 + i) = N0 82 i := fun i hi => by unfold m_keep; rw [if_pos rfl, if_neg (by omega), if_neg (by omega), if_neg (by omega), if_pos (by omega)]; congr 1; omega
  unfold m_back
  refine ⟨fun i hi => ?_, fun i hi => ?_, fun i hi => ?_, fun i hi => ?_, ?_, ?_, ?_, ?_⟩
  · rw [jU_cell (by decide), jU_cell (by decide), jU_cell (by decide), jU_cell (by decide), ← k0 i hi, ← e]
    unfold m_bk3 m_bk2 m_bk1
    rw [if_neg (by omega), if_neg (by omega), if_pos ⟨rfl, hi⟩]
  · rw [jU_cell (by decide), jU_cell (by decide), jU_cell (by decide), jU_cell (by decide), ← k1 i hi, ← e]
    unfold m_bk3 m_bk2 m_bk1
    rw [if_neg (by omega), if_neg (by omega), if_neg (by omega), if_pos ⟨rfl, hi⟩]
  · rw [jU_cell (by decide), jU_cell (by decide), jU_cell (by decide), jU_cell (by decide), ← k2 i hi, ← e]
    unfold m_bk3 m_bk2
    rw [if_neg (by omega), if_pos ⟨rfl, hi⟩]
    rfl
  · rw [jU_cell (by decide), jU_cell (by decide), jU_cell (by decide), jU_cell (by decide), ← k3 i hi, ← e]
    unfold m_bk3
    rw [if_pos ⟨rfl, hi⟩]
    rfl
  · rw [jU_slot (by decide), jU_slot (by decide), jU_slot (by decide), jU_same, e]; rfl
  · rw [jU_slot (by decide), jU_slot (by decide), jU_same, e]; rfl
  · rw [jU_slot (by decide), jU_same, e]; rfl
  · rw [jU_same, e]; rfl
/-- all is as before -/
theorem Inv2_back {X0 X N0 N : jM} (I : Inv2 X0 N0) (hX : ∀ c, c < 20 ∨ 33 ≤ c → X c = X0 c) (hN : KP N0 N) : Inv2 X (m_back N) := by
  obtain ⟨h1, h2, h3, h4, h5⟩ := hN
  obtain ⟨b78, b79, b80, b82, s5, s6, s7, s8⟩ := bk_rows h5
  have nb : ∀ c, 83 ≤ c → c ≠ 87 → c ≠ 88 → c ≠ 89 → c ≠ 90 → c ≠ 91 → m_back N c = N0 c := fun c a1 a2 a3 a4 a5 a6 => (m_back_ne (by omega)).trans (h1 c a1 a2 a3 a4 a5 a6)
  have b81 : m_back N 81 = N0 81 := (m_back_ne (by decide)).trans h2
  obtain ⟨i1, i2, ⟨n, p1, p2, p3, p4⟩, i4, i5⟩ := I
  have im : ∀ {o fl q sq k : Nat}, 33 ≤ o → 33 ≤ q → 33 ≤ sq → IM X0 N0 o fl q sq k → IM X (m_back N) o fl q sq k := by
    intro o fl q sq k l1 l2 l3 hJ
    obtain ⟨j1, j2⟩ := hJ
    unfold IM
    rw [hX o (by omega), nb 99 (by decide) (by decide) (by decide) (by decide) (by decide) (by decide), nb 98 (by decide) (by decide) (by decide) (by decide) (by decide) (by decide)]
    refine ⟨j1, ?_⟩
    rcases j2 with j2 | ⟨j2, j3⟩
    · exact Or.inl j2
    · exact Or.inr ⟨RR_cg (fun c _ _ => (hX c (by omega)).symm) j2, SS_cg (fun c _ _ => (hX c (by omega)).symm) j3⟩
  refine ⟨?_, ?_, ⟨n, p1, ?_, ?_, fun i hi => ?_⟩, im (by decide) (by decide) (by decide) i4, im (by decide) (by decide) (by decide) i5⟩
  · obtain ⟨q1, q2, q3, q4, q5, q6, q7, q8, q9⟩ := RR_cg (X' := X) (fun c _ _ => (hX c (by omega)).symm) i1
    refine ⟨fun i hi => ?_, fun i hi => ?_, fun i j hi hj => ?_, fun i hi => ?_, fun i hi => ?_, ?_, ?_, ?_, ?_⟩
    · rw [b78 i hi]; exact q1 i hi
    · rw [b79 i hi]; exact q2 i hi
    · rw [b80 _ (by omega)]; exact q3 i j hi hj
    · rw [b81]; exact q4 i hi
    · rw [b82 i hi]; exact q5 i hi
    · rw [s5]; exact q6
    · rw [s6]; exact q7
    · rw [s7]; exact q8
    · rw [s8]; exact q9
  · rw [nb 83 (by decide) (by decide) (by decide) (by decide) (by decide) (by decide), nb 84 (by decide) (by decide) (by decide) (by decide) (by decide) (by decide), nb 85 (by decide) (by decide) (by decide) (by decide) (by decide) (by decide), m_back_slot (by decide), h3]
    exact SS_cg (fun c _ _ => (hX c (by omega)).symm) i2
  · rw [hX 18 (by omega)]; exact p2
  · rw [m_back_slot (by decide), h4]; exact p3
  · rw [hX 19 (by omega), nb 86 (by decide) (by decide) (by decide) (by decide) (by decide) (by decide)]; exact p4 i hi
theorem copy_keep {X N : jM} (I : Inv2 X N) : RN (x_copy X 1 21) (m_keep N) 21 := by
  unfold RN
  rw [m_keep_ne (by decide), m_keep_ne (by decide), m_keep_ne (by decide), m_keep_ne (by decide), m_keep_ne (by decide), m_keep_ne (by decide)]
  exact x_copy_rr (by omega) I.1
theorem year_lem {X N : jM} (I : Inv2 X N) (s : Nat) : ∀ m, RN (x_yM X s m) (m_yM N s m) 21 ∧ KP N (m_yM N s m) ∧ ∀ c, c < 20 ∨ 33 ≤ c → x_yM X s m c = X c := by
  intro m
  induction m with
  | zero => exact ⟨copy_keep I, KP_keep, fun c hc => x_copy_ne (by omega)⟩
  | succ m ih =>
    obtain ⟨r, h, f⟩ := ih
    rw [x_yM, m_yM]
    generalize x_yx s (m + 1) = x
    have a := sa_act (v := m_yv x) (k := x / 6 % 8) (w := x % 6) (z := x_dn (x / 6 % 8) (x / 48)) r (by omega) (by omega) (fun q => by unfold x_dn; rw [if_pos q]; omega)
      (fun q => by unfold x_dn; rw [if_neg (by omega), if_pos q]; omega) (fun q => by unfold x_dn; rw [if_neg (by omega), if_neg (by omega)]; omega)
      (fun q => by
        unfold m_yv m_yh
        have c : x / 6 % 8 = 0 ∨ x / 6 % 8 = 1 ∨ x / 6 % 8 = 2 ∨ x / 6 % 8 = 3 ∨ x / 6 % 8 = 4 ∨ x / 6 % 8 = 5 ∨ x / 6 % 8 = 6 := by omega
        rcases c with c | c | c | c | c | c | c <;> rw [c] <;> rfl)
    obtain ⟨a1, a2, a3⟩ := a
    have fr : ∀ c, c < 20 ∨ 33 ≤ c → x_yA (x_yM X s m) x c = X c := fun c hc => by unfold x_yA; rw [x_act_ne (by omega) (by omega)]; exact f c hc
    unfold m_yA
    by_cases w : m_whyNot (m_yM N s m) (m_yh x) (x % 6) (m_yv x) = 0
    · rw [if_pos w]; exact ⟨a2 w, KP_happen h, fr⟩
    · rw [if_neg w]
      refine ⟨?_, h, fr⟩
      unfold x_yA
      rw [a3 w]; exact r
theorem e_year {X N : jM} (I : Inv2 X N) (s m k : Int32) : (x_year X s m k).1 = (m_year N s m k).1 ∧ Inv2 (x_year X s m k).2 (m_year N s m k).2 := by
  unfold x_year m_year
  by_cases h1 : 0 ≤ s.toInt ∧ s.toInt ≤ 9999
  · rw [if_pos h1, if_pos h1]
    by_cases h2 : 1 ≤ m.toInt ∧ m.toInt ≤ 99
    · rw [if_pos h2, if_pos h2]
      by_cases h3 : 0 ≤ k.toInt ∧ k.toInt ≤ 2
      · rw [if_pos h3, if_pos h3]
        dsimp only
        obtain ⟨r, h, f⟩ := year_lem I s.toNatClampNeg m.toNatClampNeg
        refine ⟨?_, Inv2_back I f h⟩
        rw [r_notes r, (r_rate r).1, r_lotsS r, bc_e' (m_lots_le _ _)]
      · rw [if_neg h3, if_neg h3]; exact ⟨rfl, I⟩
    · rw [if_neg h2, if_neg h2]; exact ⟨rfl, I⟩
  · rw [if_neg h1, if_neg h1]; exact ⟨rfl, I⟩
