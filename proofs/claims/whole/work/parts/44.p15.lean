/-! ===== all the months; the calls that read the text ===== -/
theorem go_all {X0 N0 N1 : jM} {v : Int32} {n : Nat} (hn : n ≤ 60) (hf : ∀ i, i < n → X0 19 i = N1 86 i) (hT : x_okT (X0 19) n) (hN : ∀ j, j < n → 0 ≤ (m_scan N1 (j + 1)).1) :
    ∀ fu p k e f g X N, n - p < fu → p ≤ n → (m_scan N1 p).1 = 0 → m_kOf (m_scan N1 p).2 = k → n - p ≤ f → m_kOf (m_scan N1 n).2 - k ≤ g → GS X0 N0 (m_scan N1 n).2 X N v k e →
    (∃ e', GS X0 N0 (m_scan N1 n).2 (x_fol n v f p X) (m_go (m_kOf (m_scan N1 n).2) g k N) v (m_kOf (m_scan N1 n).2) e') ∨ GB X0 N0 (m_scan N1 n).2 (x_fol n v f p X) (m_go (m_kOf (m_scan N1 n).2) g k N) := by
  intro fu
  induction fu with
  | zero => intro p k e f g X N h; exact absurd h (Nat.not_lt_zero _)
  | succ fu ih =>
    intro p k e f g X N h1 h2 h3 h4 h5 h6 S
    by_cases hp : p < n
    · have kl := (m_scan_k N1 p (by omega)).2
      obtain ⟨⟨l1, l2, l3, l4, l5⟩, st⟩ := go_step hn hf hT hN hp h3 h4 (by omega) S
      have mono := (ar_keep (N := N1) (p := p + x_len X0 n p) (n - (p + x_len X0 n p)) (by omega)).1
      rw [show p + x_len X0 n p + (n - (p + x_len X0 n p)) = n by omega, l3] at mono
      have n20 : ¬ 0 ≤ N 77 20 := by rw [S.2.2.2.1.2.2.1]; decide
      rw [m_go_s (by omega) h6 n20]
      rcases st with ⟨q, e', S'⟩ | ⟨q, q2, B⟩
      · rw [x_fol_go hp h5 q, l1]
        exact ih (p + x_len X0 n p) (k + 1) e' (f - 1) (g - 1) _ _ (by omega) l5 l2 l3 (by omega) (by omega) S'
      · rw [x_fol_bad hp h5 q, m_go_bad (by omega) q2]
        exact Or.inr B
    · have e0 : p = n := by omega
      subst e0
      rw [x_fol_end hp, h4, m_go_end (by omega)]
      exact Or.inl ⟨e, S⟩
/-- the outcome of a text: a FAULT, all of it followed, or an act that may not be -/
def OC (X N X1 N1 : jM) (n : Nat) (v : Int32) (rx rm : Int32) : Prop :=
  (∀ c, c < 20 ∨ 33 ≤ c → X1 c = X c) ∧ KP N N1 ∧
  ((rx = -5 ∧ rm = -5) ∨ (rx = 0 ∧ rm = -6 ∧ RN X1 N1 21 ∧ X1 20 2 = 0 ∧ N1 77 20 = -6 ∧ N1 77 21 = -6 ∧ X1 20 1 = N1 77 18 ∧ ∃ e, e ≤ 60 ∧ X1 20 3 = nI e ∧ N1 77 22 = nI e ∧ X1 20 4 = m_flF (N1 91) 0 v e 0) ∨
   (rx = -3 ∧ rm = -3 ∧ X1 20 1 = N1 77 20 ∧ X1 20 2 = N1 77 21 ∧ X1 20 2 ≠ 0))
theorem oc {X N : jM} (I : Inv2 X N) {n : Nat} (hn : n ≤ 60) (hX : X 18 1 = nI n) (v : Int32) : OC X N (x_tryM X n v) (m_refM N n) n v (x_tryR X n v) (m_refR N n) := by
  obtain ⟨n', p1, p2, p3, p4⟩ := I.2.2.1
  have k86 : m_keep N 86 = N 86 := m_keep_ne (by decide)
  have hf : ∀ i, i < n → X 19 i = m_keep N 86 i := fun i hi => by rw [k86]; exact p4 i (by omega)
  have fe := fault_e (n := n) hf
  unfold x_tryM m_refM x_tryR m_refR
  by_cases h : 0 ≤ (m_fault (m_keep N) n).1
  · have h' : ¬ x_fault (X 19) n = -6 := by rw [fe]; intro q; rw [q] at h; exact absurd h (by decide)
    rw [if_neg h', if_neg h', if_pos h, if_pos h]
    refine ⟨fun _ _ => rfl, ?_, Or.inl ⟨rfl, rfl⟩⟩
    have key : ∀ r i, ∃ j, (m_fp (m_keep N) n r i).2 = (m_scan (m_keep N) j).2 := by
      intro r
      induction r with
      | zero => intro i; exact ⟨i, rfl⟩
      | succ r ih =>
        intro i
        rw [m_fp]
        split
        · exact ih (i + 1)
        · exact ⟨i + 1, rfl⟩
    obtain ⟨j, ej⟩ := key n 0
    have ej' : (m_fault (m_keep N) n).2 = (m_scan (m_keep N) j).2 := ej
    rw [ej']
    obtain ⟨a1, a2, a3, a4, a5⟩ := KP_keep (N := N)
    refine ⟨fun c b1 b2 b3 b4 b5 b6 => (m_scan_ne (by omega) j).trans (a1 c b1 b2 b3 b4 b5 b6), (m_scan_ne (by decide) j).trans a2, ?_, ?_, (m_scan_ne (by decide) j).trans a5⟩
    · rw [m_scan_slot (by decide), a3]
    · rw [m_scan_slot (by decide), a4]
  · obtain ⟨f1, f2, f3⟩ := m_fault_ok hn h
    have h' : x_fault (X 19) n = -6 := by rw [fe, f3]
    rw [if_pos h', if_pos h', if_neg h, if_neg h, f3]
    dsimp only
    have hT := x_fault_ok hn h'
    have sk := m_scan_k (m_keep N) n hn
    unfold x_follow m_goMonths
    have G0 : GS X N (m_scan (m_keep N) n).2 (jU (jU (jU (jU (x_copy X 1 21) 20 2 0) 20 3 0) 20 4 (-6)) 20 1 0) (jU (jU (jU (m_scan (m_keep N) n).2 77 20 (-6)) 77 21 (-6)) 77 22 0) v 0 0 := by
      have nn : ∀ c, c ≠ 77 → jU (jU (jU (m_scan (m_keep N) n).2 77 20 (-6)) 77 21 (-6)) 77 22 0 c = (m_scan (m_keep N) n).2 c := fun c hc => by rw [jU_ne hc, jU_ne hc, jU_ne hc]
      have n7 : ∀ j, j ≠ 20 → j ≠ 21 → j ≠ 22 → jU (jU (jU (m_scan (m_keep N) n).2 77 20 (-6)) 77 21 (-6)) 77 22 0 77 j = (m_scan (m_keep N) n).2 77 j := fun j h1 h2 h3 => by rw [jU_slot h3, jU_slot h2, jU_slot h1]
      obtain ⟨a1, a2, a3, a4, a5⟩ := KP_keep (N := N)
      refine ⟨⟨fun c hc => ?_, ⟨fun c b1 b2 b3 b4 b5 b6 => ?_, ?_, ?_, ?_, ?_⟩, ?_⟩, ?_, ⟨nn 87 (by decide), nn 88 (by decide), nn 89 (by decide)⟩, ⟨?_, ?_, ?_, ?_⟩, ?_, ?_, Nat.le_refl 0, ?_⟩
      · rw [jU_ne (by omega), jU_ne (by omega), jU_ne (by omega), jU_ne (by omega), x_copy_ne (by omega)]
      · rw [nn c (by omega), m_scan_ne (by omega) n, a1 c b1 b2 b3 b4 b5 b6]
      · rw [nn 81 (by decide), m_scan_ne (by decide) n, a2]
      · rw [n7 12 (by decide) (by decide) (by decide), m_scan_slot (by decide), a3]
      · rw [n7 14 (by decide) (by decide) (by decide), m_scan_slot (by decide), a4]
      · rw [nn 90 (by decide), m_scan_ne (by decide) n, a5]
      · rw [n7 18 (by decide) (by decide) (by decide)]
      · refine RN_X (X := x_copy X 1 21) ?_ (fun c h1 _ => by rw [jU_ne (by omega), jU_ne (by omega), jU_ne (by omega), jU_ne (by omega)])
        exact RN_N (copy_keep I) (fun c h1 h2 => by rw [nn c (by omega), m_scan_ne (by omega) n]) (fun j hj => by rw [n7 j (by omega) (by omega) (by omega), m_scan_slot (by omega)])
      · rw [jU_same]; rfl
      · rw [jU_slot (by decide), jU_slot (by decide), jU_slot (by decide), jU_same]
      · rw [jU_slot (by decide), jU_slot (by decide), jU_same]
      · rw [jU_slot (by decide), jU_same]
      · rw [jU_slot (by decide), jU_slot (by decide), jU_same]; rfl
      · rw [jU_same]; rfl
      · rw [jU_slot (by decide), jU_same]; rfl
    have k0 : m_kOf (m_scan (m_keep N) 0).2 = 0 := by
      show (jU (m_keep N) 77 18 0 77 18).toNatClampNeg = 0
      rw [jU_same]; rfl
    have z := go_all hn hf hT f1 (n + 1) 0 0 0 60 61 _ _ (by omega) (by omega) rfl k0 (by omega) (by have := sk.2; omega) G0
    rcases z with ⟨e, ⟨g1, g2, g3⟩, g4, _, ⟨g5, g6, g7, g8⟩, g9, g10, g11, g12⟩ | ⟨⟨g1, g2, g3⟩, k, g4, g5, g6, g7, g8⟩
    · rw [if_pos g6, if_neg (by rw [g7]; decide)]
      exact ⟨g1, g2, Or.inr (Or.inl ⟨rfl, rfl, g4, g6, g7, g8, by rw [g5, g3, sk.1], e, by have := sk.2; omega, g9, g10, g12⟩)⟩
    · rw [if_neg g8, if_pos (by rw [g6]; exact nI_nn (by omega))]
      exact ⟨g1, g2, Or.inr (Or.inr ⟨rfl, rfl, g5.trans g6.symm, g7, g8⟩)⟩
theorem k012 {k : Int32} (h : 0 ≤ k.toInt ∧ k.toInt ≤ 2) : k = 0 ∨ k = 1 ∨ k = 2 := by
  have : k.toInt = 0 ∨ k.toInt = 1 ∨ k.toInt = 2 := by omega
  rcases this with q | q | q
  · exact Or.inl (Int32.toInt_inj.mp q)
  · exact Or.inr (Or.inl (Int32.toInt_inj.mp q))
  · exact Or.inr (Or.inr (Int32.toInt_inj.mp q))
theorem e_judge {X N : jM} (I : Inv2 X N) {n : Nat} (hn : n ≤ 60) (hX : X 18 1 = nI n) (k : Int32) : (x_judge X n k).1 = (m_judge N n k).1 ∧ Inv2 (x_judge X n k).2 (m_judge N n k).2 := by
  unfold x_judge m_judge
  by_cases h : 0 ≤ k.toInt ∧ k.toInt ≤ 2
  · rw [if_pos h, if_pos h]
    dsimp only
    obtain ⟨o1, o2, o3⟩ := oc I hn hX 0
    refine ⟨?_, Inv2_back I o1 o2⟩
    rw [m_back_slot (by decide), m_back_slot (by decide), m_back_slot (by decide)]
    rcases o3 with ⟨r1, r2⟩ | ⟨r1, r2, q1, q2, q3, q4, q5, e, q6, q7, q8, q9⟩ | ⟨r1, r2, q1, q2, q3⟩
    · rw [r1, r2, if_pos rfl, if_pos rfl]
    · rw [r1, r2, q2, q3, q4, q7, q8]
      rcases k012 h with c | c | c <;> subst c <;> rfl
    · rw [r1, r2, q1, q2]
      rw [q2] at q3
      rcases k012 h with c | c | c <;> subst c
      · rw [if_neg (c := m_refM N n 77 21 = 0) q3]; rfl
      · rw [if_neg (c := m_refM N n 77 21 = 0) q3]; rfl
      · rfl
  · rw [if_neg h, if_neg h]; exact ⟨rfl, I⟩
theorem e_behind {X N : jM} (I : Inv2 X N) {n : Nat} (hn : n ≤ 60) (hX : X 18 1 = nI n) (o k : Int32) : (x_behind X n o k).1 = (m_behind N n o k).1 ∧ Inv2 (x_behind X n o k).2 (m_behind N n o k).2 := by
  unfold x_behind m_behind
  by_cases h : 0 ≤ o.toInt ∧ o.toInt ≤ 5
  · rw [if_pos h, if_pos h]
    by_cases h2 : 0 ≤ k.toInt ∧ k.toInt ≤ 3
    · rw [if_pos h2, if_pos h2]
      dsimp only
      obtain ⟨o1, o2, o3⟩ := oc I hn hX 0
      refine ⟨?_, Inv2_back I o1 o2⟩
      obtain ⟨w, _, w2, rfl⟩ := jv_of (lo := 0) (hi := 5) h (by decide)
      rw [nI_clamp (by omega)]
      rcases o3 with ⟨r1, r2⟩ | ⟨r1, r2, q1, _⟩ | ⟨r1, r2, _⟩
      · rw [r1, r2, if_neg (by decide), if_neg (by decide)]
      · rw [r1, r2, if_pos rfl, if_pos rfl]; exact r_ofOne q1 (by omega) k
      · rw [r1, r2, if_neg (by decide), if_neg (by decide)]
    · rw [if_neg h2, if_neg h2]; exact ⟨rfl, I⟩
  · rw [if_neg h, if_neg h]; exact ⟨rfl, I⟩
theorem e_total {X N : jM} (I : Inv2 X N) {n : Nat} (hn : n ≤ 60) (hX : X 18 1 = nI n) (k : Int32) : (x_total X n k).1 = (m_total N n k).1 ∧ Inv2 (x_total X n k).2 (m_total N n k).2 := by
  unfold x_total m_total
  by_cases h2 : 0 ≤ k.toInt ∧ k.toInt ≤ 5
  · rw [if_pos h2, if_pos h2]
    dsimp only
    obtain ⟨o1, o2, o3⟩ := oc I hn hX 0
    refine ⟨?_, Inv2_back I o1 o2⟩
    rcases o3 with ⟨r1, r2⟩ | ⟨r1, r2, q1, _⟩ | ⟨r1, r2, _⟩
    · rw [r1, r2, if_neg (by decide), if_neg (by decide)]
    · rw [r1, r2, if_pos rfl, if_pos rfl]; exact r_ofAll q1 k
    · rw [r1, r2, if_neg (by decide), if_neg (by decide)]
  · rw [if_neg h2, if_neg h2]; exact ⟨rfl, I⟩
theorem e_fell {X N : jM} (I : Inv2 X N) {n : Nat} (hn : n ≤ 60) (hX : X 18 1 = nI n) (v : Int32) : (x_fell X n v).1 = (m_fell N n v).1 ∧ Inv2 (x_fell X n v).2 (m_fell N n v).2 := by
  unfold x_fell m_fell
  by_cases h2 : 0 ≤ v.toInt ∧ v.toInt ≤ 100
  · rw [if_pos h2, if_pos h2]
    dsimp only
    obtain ⟨o1, o2, o3⟩ := oc I hn hX v
    refine ⟨?_, Inv2_back I o1 o2⟩
    rcases o3 with ⟨r1, r2⟩ | ⟨r1, r2, q1, q2, q3, q4, q5, e, q6, q7, q8, q9⟩ | ⟨r1, r2, _⟩
    · rw [r1, r2, if_neg (by decide), if_neg (by decide)]
    · rw [r1, r2, if_pos rfl, if_pos rfl, q9]
      unfold m_eOf
      rw [m_back_slot (by decide), m_back_ne (by decide), q8, nI_clamp (by omega)]
      exact fl_a e 0
    · rw [r1, r2, if_neg (by decide), if_neg (by decide)]
  · rw [if_neg h2, if_neg h2]; exact ⟨rfl, I⟩
/-- a working Realm becomes the Realm -/
theorem Inv2_put {X0 X N0 N : jM} (I : Inv2 X0 N0) (hX : ∀ c, c < 20 ∨ 33 ≤ c → X c = X0 c) (hN : KP N0 N) (r : RN X N 21) : Inv2 (jU (x_copy X 21 1) 18 1 0) (jU N 77 14 0) := by
  obtain ⟨h1, h2, h3, h4, h5⟩ := hN
  obtain ⟨i1, i2, ⟨n, p1, p2, p3, p4⟩, i4, i5⟩ := I
  have xc : ∀ c, 13 ≤ c → c < 20 ∨ 33 ≤ c → c ≠ 18 → jU (x_copy X 21 1) 18 1 0 c = X0 c := fun c b1 b2 b3 => by rw [jU_ne b3, x_copy_ne (by omega), hX c b2]
  have nb : ∀ c, 83 ≤ c → c ≠ 87 → c ≠ 88 → c ≠ 89 → c ≠ 90 → c ≠ 91 → jU N 77 14 0 c = N0 c := fun c a1 a2 a3 a4 a5 a6 => by rw [jU_ne (by omega), h1 c a1 a2 a3 a4 a5 a6]
  have im : ∀ {o fl q sq k : Nat}, 33 ≤ o → 33 ≤ q → 33 ≤ sq → IM X0 N0 o fl q sq k → IM (jU (x_copy X 21 1) 18 1 0) (jU N 77 14 0) o fl q sq k := by
    intro o fl q sq k l1 l2 l3 hJ
    obtain ⟨j1, j2⟩ := hJ
    unfold IM
    rw [xc o (by omega) (by omega) (by omega), nb 99 (by decide) (by decide) (by decide) (by decide) (by decide) (by decide), nb 98 (by decide) (by decide) (by decide) (by decide) (by decide) (by decide)]
    refine ⟨j1, ?_⟩
    rcases j2 with j2 | ⟨j2, j3⟩
    · exact Or.inl j2
    · exact Or.inr ⟨RR_cg (fun c _ _ => (xc c (by omega) (by omega) (by omega)).symm) j2, SS_cg (fun c _ _ => (xc c (by omega) (by omega) (by omega)).symm) j3⟩
  refine ⟨?_, ?_, ⟨0, by omega, ?_, ?_, fun i hi => ?_⟩, im (by decide) (by decide) (by decide) i4, im (by decide) (by decide) (by decide) i5⟩
  · refine RN_N (N := N) (RN_X (X := x_copy X 21 1) (x_copy_rr (by omega) r) (fun c h1 h2 => jU_ne (by omega))) (fun c h1 h2 => jU_ne (by omega)) (fun j hj => jU_slot (by omega))
  · rw [nb 83 (by decide) (by decide) (by decide) (by decide) (by decide) (by decide), nb 84 (by decide) (by decide) (by decide) (by decide) (by decide) (by decide), nb 85 (by decide) (by decide) (by decide) (by decide) (by decide) (by decide), jU_slot (by decide), h3]
    exact SS_cg (fun c _ _ => (xc c (by omega) (by omega) (by omega)).symm) i2
  · rw [jU_same]; rfl
  · rw [jU_same]; rfl
  · rw [xc 19 (by omega) (by omega) (by omega), nb 86 (by decide) (by decide) (by decide) (by decide) (by decide) (by decide)]; exact p4 i hi
theorem e_done {X N : jM} (I : Inv2 X N) {n : Nat} (hn : n ≤ 60) (hX : X 18 1 = nI n) : (x_done X n).1 = (m_done N n).1 ∧ Inv2 (x_done X n).2 (m_done N n).2 := by
  unfold x_done m_done
  dsimp only
  obtain ⟨o1, o2, o3⟩ := oc I hn hX 0
  rcases o3 with ⟨r1, r2⟩ | ⟨r1, r2, q1, q2, q3, q4, q5, e, q6, q7, q8, q9⟩ | ⟨r1, r2, _⟩
  · rw [r1, r2, if_neg (by decide), if_neg (by decide)]; exact ⟨rfl, Inv2_back I o1 o2⟩
  · rw [r1, r2, if_pos rfl, if_pos rfl]
    refine ⟨?_, Inv2_put I o1 o2 q1⟩
    dsimp only
    rw [jU_cell (by decide), x_copy_ne (by omega), q5, jU_slot (by decide)]
  · rw [r1, r2, if_neg (by decide), if_neg (by decide)]; exact ⟨rfl, Inv2_back I o1 o2⟩
