/-! ===== copies ===== -/
theorem jCp_in {M : jM} {s t n i : Nat} (h : i < n) : jCp M s t n t i = M s i := if_pos ⟨rfl, h⟩
theorem x_cpR_at {A : jM} {r q : Nat} (hd : r + 12 ≤ q ∨ q + 12 ≤ r) : ∀ n, n ≤ 6 → (∀ i j, i < n → j < 6 → x_cpR A r q n (q + 6 + i) j = A (r + 6 + i) j) ∧ (∀ c, c < q + 6 ∨ q + 12 ≤ c → x_cpR A r q n c = A c) := by
  intro n
  induction n with
  | zero => intro _; exact ⟨fun i j h => absurd h (Nat.not_lt_zero i), fun _ _ => rfl⟩
  | succ n ih =>
    intro hn
    obtain ⟨a1, a2⟩ := ih (by omega)
    refine ⟨fun i j hi hj => ?_, fun c hc => ?_⟩
    · rw [x_cpR]
      by_cases e : i = n
      · subst e; rw [jCp_in hj, a2 _ (by omega)]
      · rw [jCp_ne (by omega)]; exact a1 i j (by omega) hj
    · rw [x_cpR, jCp_ne (by omega)]; exact a2 c hc
theorem x_cpS_at {A : jM} {r q : Nat} (hd : r ≠ q) : ∀ n, (∀ f, f < n → x_cpS A r q n q (5 + f) = A r (5 + f)) ∧ (∀ c, c ≠ q → x_cpS A r q n c = A c) := by
  intro n
  induction n with
  | zero => exact ⟨fun f h => absurd h (Nat.not_lt_zero f), fun _ _ => rfl⟩
  | succ n ih =>
    obtain ⟨a1, a2⟩ := ih
    refine ⟨fun f hf => ?_, fun c hc => ?_⟩
    · rw [x_cpS]
      by_cases e : f = n
      · subst e; rw [jU_same, a2 r hd]
      · rw [jU_slot (by omega)]; exact a1 f (by omega)
    · rw [x_cpS, jU_ne hc]; exact a2 c hc
theorem x_copy_rr {X : jM} {r q : Nat} {pa co ow pr on sc : Nat → Int32} (hd : r + 12 ≤ q ∨ q + 12 ≤ r) (h : RR X r pa co ow pr on sc) : RR (x_copy X r q) q pa co ow pr on sc := by
  obtain ⟨h1, h2, h3, h4, h5, h6, h7, h8, h9⟩ := h
  have s1 := fun (A : jM) => x_cpS_at (A := A) (r := r) (q := q) (by omega) 4
  have r1 := fun (A : jM) => x_cpR_at (A := A) hd 6 (Nat.le_refl 6)
  unfold x_copy
  refine ⟨fun i hi => ?_, fun i hi => ?_, fun i j hi hj => ?_, fun i hi => ?_, fun i hi => ?_, ?_, ?_, ?_, ?_⟩
  · rw [(s1 _).2 _ (by omega), jCp_ne (by omega), jCp_ne (by omega), (r1 _).2 _ (by omega), jCp_ne (by omega), jCp_in hi]; exact h1 i hi
  · rw [(s1 _).2 _ (by omega), jCp_ne (by omega), jCp_ne (by omega), (r1 _).2 _ (by omega), jCp_in hi, jCp_ne (by omega)]; exact h2 i hi
  · rw [(s1 _).2 _ (by omega), jCp_ne (by omega), jCp_ne (by omega), (r1 _).1 i j hi hj, jCp_ne (by omega), jCp_ne (by omega)]; exact h3 i j hi hj
  · rw [(s1 _).2 _ (by omega), jCp_ne (by omega), jCp_in hi, (r1 _).2 _ (by omega), jCp_ne (by omega), jCp_ne (by omega)]; exact h4 i hi
  · rw [(s1 _).2 _ (by omega), jCp_in hi, jCp_ne (by omega), (r1 _).2 _ (by omega), jCp_ne (by omega), jCp_ne (by omega)]; exact h5 i hi
  · rw [show (5 : Nat) = 5 + 0 from rfl, (s1 _).1 0 (by omega), jCp_ne (by omega), jCp_ne (by omega), (r1 _).2 _ (by omega), jCp_ne (by omega), jCp_ne (by omega)]; exact h6
  · rw [show (6 : Nat) = 5 + 1 from rfl, (s1 _).1 1 (by omega), jCp_ne (by omega), jCp_ne (by omega), (r1 _).2 _ (by omega), jCp_ne (by omega), jCp_ne (by omega)]; exact h7
  · rw [show (7 : Nat) = 5 + 2 from rfl, (s1 _).1 2 (by omega), jCp_ne (by omega), jCp_ne (by omega), (r1 _).2 _ (by omega), jCp_ne (by omega), jCp_ne (by omega)]; exact h8
  · rw [show (8 : Nat) = 5 + 3 from rfl, (s1 _).1 3 (by omega), jCp_ne (by omega), jCp_ne (by omega), (r1 _).2 _ (by omega), jCp_ne (by omega), jCp_ne (by omega)]; exact h9
theorem x_cpSg_ne {X : jM} {r q c : Nat} (hc : c < q ∨ q + 4 ≤ c) : x_cpSg X r q c = X c := by
  unfold x_cpSg
  show jU _ q 4 _ c = _
  rw [jU_ne (by omega), jCp_ne (by omega), jCp_ne (by omega), jCp_ne (by omega)]
theorem x_cpSg_ss {X : jM} {r q : Nat} {st mn hw : Nat → Int32} {sz : Int32} (hd : r + 4 ≤ q ∨ q + 4 ≤ r) (h : SS X r st mn hw sz) : SS (x_cpSg X r q) q st mn hw sz := by
  obtain ⟨h1, h2, h3⟩ := h
  unfold x_cpSg
  refine ⟨?_, h2, fun i hi => ?_⟩
  · show jU _ q 4 _ q 4 = _
    rw [jU_same, jCp_ne (by omega), jCp_ne (by omega), jCp_ne (by omega)]; exact h1
  · show jU _ q 4 _ (q + 1) i = _ ∧ _ ∧ jU _ q 4 _ (q + 2) i = _ ∧ jU _ q 4 _ (q + 3) i = _
    rw [jU_cell (k' := q + 1) (by omega), jU_cell (k' := q + 2) (by omega), jU_cell (k' := q + 3) (by omega)]
    have e1 : jCp (jCp (jCp X (r + 1) (q + 1) 8) (r + 2) (q + 2) 8) (r + 3) (q + 3) 8 (q + 1) i = X (r + 1) i := by rw [jCp_ne (by omega), jCp_ne (by omega), jCp_in hi]
    have e2 : jCp (jCp (jCp X (r + 1) (q + 1) 8) (r + 2) (q + 2) 8) (r + 3) (q + 3) 8 (q + 2) i = X (r + 2) i := by rw [jCp_ne (by omega), jCp_in hi, jCp_ne (by omega)]
    have e3 : jCp (jCp (jCp X (r + 1) (q + 1) 8) (r + 2) (q + 2) 8) (r + 3) (q + 3) 8 (q + 3) i = X (r + 3) i := by rw [jCp_in hi, jCp_ne (by omega), jCp_ne (by omega)]
    rw [e1, e2, e3]
    exact h3 i hi
/-! what an image keeps, by places -/
def wV (N : jM) (j : Nat) : Int32 := if j < 4 then N 77 (5 + j) else if j < 5 then N 77 12 else if j < 11 then N 78 (j - 5) else if j < 17 then N 79 (j - 11) else if j < 53 then N 80 (j - 17) else if j < 61 then N 81 (j - 53) else if j < 69 then N 82 (j - 61) else if j < 77 then N 83 (j - 69) else if j < 85 then N 84 (j - 77) else N 85 (j - 85)
def WR (N A : jM) (k t : Nat) : Prop := (∀ c, c ≠ 77 → c ≠ 98 → A c = N c) ∧ (∀ j, j ≠ 32 → A 77 j = N 77 j) ∧ (∀ j, j < k ∨ k + t ≤ j → A 98 j = N 98 j) ∧ (∀ j, j < t → A 98 (k + j) = wV N j)
theorem WR_sc {N A : jM} {k t f : Nat} (hw : ¬ N 77 33 = 0) (h : WR N A k t) (hf : f ≠ 32) (hv : wV N t = N 77 f) : WR N (m_sc A (k + t) f) k (t + 1) := by
  obtain ⟨a1, a2, a3, a4⟩ := h
  obtain ⟨b1, b2, b3, b4⟩ := w_sc (M := A) (k := k + t) (f := f) (by rw [a2 33 (by decide)]; exact hw)
  refine ⟨fun c h1 h2 => (b1 c h1 h2).trans (a1 c h1 h2), fun j hj => (b2 j hj).trans (a2 j hj), fun j hj => (b3 j (by omega)).trans (a3 j (by omega)), fun j hj => ?_⟩
  by_cases e : j = t
  · subst e; rw [b4, a2 f hf, hv]
  · rw [b3 _ (by omega)]; exact a4 j (by omega)
theorem WR_row {N A : jM} {k t r m : Nat} (hw : ¬ N 77 33 = 0) (h : WR N A k t) (h7 : r ≠ 77) (h8 : r ≠ 98) (hv : ∀ i, i < m → wV N (t + i) = N r i) : WR N (m_row A (k + t) r m) k (t + m) := by
  obtain ⟨a1, a2, a3, a4⟩ := h
  obtain ⟨b1, b2, b3, b4⟩ := w_row (M := A) (k := k + t) (r := r) (by rw [a2 33 (by decide)]; exact hw) h7 h8 m
  refine ⟨fun c h1 h2 => (b1 c h1 h2).trans (a1 c h1 h2), fun j hj => (b2 j hj).trans (a2 j hj), fun j hj => (b3 j (by omega)).trans (a3 j (by omega)), fun j hj => ?_⟩
  by_cases e : j < t
  · rw [b3 _ (by omega)]; exact a4 j e
  · have q := b4 (j - t) (by omega)
    rw [show k + t + (j - t) = k + j by omega, a1 r h7 h8] at q
    rw [q, ← hv (j - t) (by omega), show t + (j - t) = j by omega]
theorem WR_all {N : jM} {k : Nat} (hw : ¬ N 77 33 = 0) : WR N (m_pA8 N k) k 93 := by
  have w0 : WR N N k 0 := ⟨fun _ _ _ => rfl, fun _ _ => rfl, fun _ _ => rfl, fun j h => absurd h (Nat.not_lt_zero j)⟩
  have w1 := WR_sc (f := 5) hw w0 (by decide) rfl
  have w2 := WR_sc (f := 6) hw w1 (by decide) rfl
  have w3 := WR_sc (f := 7) hw w2 (by decide) rfl
  have w4 := WR_sc (f := 8) hw w3 (by decide) rfl
  have w5 := WR_sc (f := 12) hw w4 (by decide) rfl
  have w6 := WR_row (r := 78) (m := 6) hw w5 (by decide) (by decide) (fun i hi => by unfold wV; rw [if_neg (by omega), if_neg (by omega), if_pos (by omega)]; congr 1; omega)
  have w7 := WR_row (r := 79) (m := 6) hw w6 (by decide) (by decide) (fun i hi => by unfold wV; rw [if_neg (by omega), if_neg (by omega), if_neg (by omega), if_pos (by omega)]; congr 1; omega)
  have w8 := WR_row (r := 80) (m := 36) hw w7 (by decide) (by decide) (fun i hi => by unfold wV; rw [if_neg (by omega), if_neg (by omega), if_neg (by omega), if_neg (by omega), if_pos (by omega)]; congr 1; omega)
  have w9 := WR_row (r := 81) (m := 8) hw w8 (by decide) (by decide) (fun i hi => by unfold wV; rw [if_neg (by omega), if_neg (by omega), if_neg (by omega), if_neg (by omega), if_neg (by omega), if_pos (by omega)]; congr 1; omega)
  have w10 := WR_row (r := 82) (m := 8) hw w9 (by decide) (by decide) (fun i hi => by unfold wV; rw [if_neg (by omega), if_neg (by omega), if_neg (by omega), if_neg (by omega), if_neg (by omega), if_neg (by omega), if_pos (by omega)]; congr 1; omega)
  have w11 := WR_row (r := 83) (m := 8) hw w10 (by decide) (by decide) (fun i hi => by unfold wV; rw [if_neg (by omega), if_neg (by omega), if_neg (by omega), if_neg (by omega), if_neg (by omega), if_neg (by omega), if_neg (by omega), if_pos (by omega)]; congr 1; omega)
  have w12 := WR_row (r := 84) (m := 8) hw w11 (by decide) (by decide) (fun i hi => by unfold wV; rw [if_neg (by omega), if_neg (by omega), if_neg (by omega), if_neg (by omega), if_neg (by omega), if_neg (by omega), if_neg (by omega), if_neg (by omega), if_pos (by omega)]; congr 1; omega)
  have w13 := WR_row (r := 85) (m := 8) hw w12 (by decide) (by decide) (fun i hi => by unfold wV; rw [if_neg (by omega), if_neg (by omega), if_neg (by omega), if_neg (by omega), if_neg (by omega), if_neg (by omega), if_neg (by omega), if_neg (by omega), if_neg (by omega)]; congr 1; omega)
  exact w13
/-- what was written is an image of what is -/
theorem WR_img {X N A : jM} {k q sq : Nat} (h : WR N A k 93) (r : RR X q (N 78) (N 79) (N 80) (N 81) (N 82) (N 77)) (s : SS X sq (N 83) (N 84) (N 85) (N 77 12)) :
    RR X q (fun i => A 98 (k + 5 + i)) (fun i => A 98 (k + 11 + i)) (fun i => A 98 (k + 17 + i)) (fun i => A 98 (k + 53 + i)) (fun i => A 98 (k + 61 + i)) (fun i => A 98 (k + (i - 5))) ∧ SS X sq (fun i => A 98 (k + 69 + i)) (fun i => A 98 (k + 77 + i)) (fun i => A 98 (k + 85 + i)) (A 98 (k + 4)) := by
  have v : ∀ t i, t + i < 93 → A 98 (k + t + i) = wV N (t + i) := fun t i hi => by rw [Nat.add_assoc]; exact h.2.2.2 _ hi
  have c5 : ∀ i, i < 6 → A 98 (k + 5 + i) = N 78 i := fun i hi => by rw [v 5 i (by omega)]; unfold wV; rw [if_neg (by omega), if_neg (by omega), if_pos (by omega)]; congr 1; omega
  have c11 : ∀ i, i < 6 → A 98 (k + 11 + i) = N 79 i := fun i hi => by rw [v 11 i (by omega)]; unfold wV; rw [if_neg (by omega), if_neg (by omega), if_neg (by omega), if_pos (by omega)]; congr 1; omega
  have c17 : ∀ i, i < 36 → A 98 (k + 17 + i) = N 80 i := fun i hi => by rw [v 17 i (by omega)]; unfold wV; rw [if_neg (by omega), if_neg (by omega), if_neg (by omega), if_neg (by omega), if_pos (by omega)]; congr 1; omega
  have c53 : ∀ i, i < 8 → A 98 (k + 53 + i) = N 81 i := fun i hi => by rw [v 53 i (by omega)]; unfold wV; rw [if_neg (by omega), if_neg (by omega), if_neg (by omega), if_neg (by omega), if_neg (by omega), if_pos (by omega)]; congr 1; omega
  have c61 : ∀ i, i < 8 → A 98 (k + 61 + i) = N 82 i := fun i hi => by rw [v 61 i (by omega)]; unfold wV; rw [if_neg (by omega), if_neg (by omega), if_neg (by omega), if_neg (by omega), if_neg (by omega), if_neg (by omega), if_pos (by omega)]; congr 1; omega
  have c69 : ∀ i, i < 8 → A 98 (k + 69 + i) = N 83 i := fun i hi => by rw [v 69 i (by omega)]; unfold wV; rw [if_neg (by omega), if_neg (by omega), if_neg (by omega), if_neg (by omega), if_neg (by omega), if_neg (by omega), if_neg (by omega), if_pos (by omega)]; congr 1; omega
  have c77 : ∀ i, i < 8 → A 98 (k + 77 + i) = N 84 i := fun i hi => by rw [v 77 i (by omega)]; unfold wV; rw [if_neg (by omega), if_neg (by omega), if_neg (by omega), if_neg (by omega), if_neg (by omega), if_neg (by omega), if_neg (by omega), if_neg (by omega), if_pos (by omega)]; congr 1; omega
  have c85 : ∀ i, i < 8 → A 98 (k + 85 + i) = N 85 i := fun i hi => by rw [v 85 i (by omega)]; unfold wV; rw [if_neg (by omega), if_neg (by omega), if_neg (by omega), if_neg (by omega), if_neg (by omega), if_neg (by omega), if_neg (by omega), if_neg (by omega), if_neg (by omega)]; congr 1; omega
  have s0 : ∀ f, f < 4 → A 98 (k + (5 + f - 5)) = N 77 (5 + f) := fun f hf => by rw [show 5 + f - 5 = f by omega, h.2.2.2 f (by omega)]; unfold wV; rw [if_pos hf]
  have s4 : A 98 (k + 4) = N 77 12 := by rw [h.2.2.2 4 (by omega)]; rfl
  obtain ⟨h1, h2, h3, h4, h5, h6, h7, h8, h9⟩ := r
  obtain ⟨z1, z2, z3⟩ := s
  refine ⟨⟨fun i hi => ?_, fun i hi => ?_, fun i j hi hj => ?_, fun i hi => ?_, fun i hi => ?_, ?_, ?_, ?_, ?_⟩, ?_, ?_, fun i hi => ?_⟩
  · show X (q + 1) i = A 98 (k + 5 + i) ∧ jrg (A 98 (k + 5 + i)) 0 9999; rw [c5 i hi]; exact h1 i hi
  · show X (q + 2) i = A 98 (k + 11 + i) ∧ jrg (A 98 (k + 11 + i)) 0 9999; rw [c11 i hi]; exact h2 i hi
  · show X (q + 6 + i) j = A 98 (k + 17 + (6 * i + j)) ∧ jrg (A 98 (k + 17 + (6 * i + j))) 0 999; rw [c17 _ (by omega)]; exact h3 i j hi hj
  · show X (q + 4) i = A 98 (k + 53 + i) ∧ jrg (A 98 (k + 53 + i)) 1 999; rw [c53 i hi]; exact h4 i hi
  · show jOwn (X (q + 5) i) (A 98 (k + 61 + i)); rw [c61 i hi]; exact h5 i hi
  · show X q 5 = A 98 (k + (5 + 0 - 5)) ∧ jrg (A 98 (k + (5 + 0 - 5))) 0 99999; rw [s0 0 (by omega)]; exact h6
  · show X q 6 = A 98 (k + (5 + 1 - 5)) ∧ jrg (A 98 (k + (5 + 1 - 5))) 0 99999; rw [s0 1 (by omega)]; exact h7
  · show X q 7 = A 98 (k + (5 + 2 - 5)); rw [s0 2 (by omega)]; exact h8
  · show X q 8 = A 98 (k + (5 + 3 - 5)); rw [s0 3 (by omega)]; exact h9
  · rw [s4]; exact z1
  · rw [s4]; exact z2
  · show X (sq + 1) i = A 98 (k + 69 + i) ∧ jrg (A 98 (k + 69 + i)) 0 255 ∧ X (sq + 2) i = A 98 (k + 77 + i) ∧ X (sq + 3) i = A 98 (k + 85 + i)
    rw [c69 i hi, c77 i hi, c85 i hi]; exact z3 i hi
theorem m_st_ne {M : jM} {k : Nat} {b : Int32} {c : Nat} (h : c ≠ 77) : m_st M k b c = M c := by unfold m_st; rw [jU_ne h, jU_ne h]
theorem m_st_slot {M : jM} {k : Nat} {b : Int32} {i : Nat} (h : i ≠ 32) (h2 : i ≠ 33) : m_st M k b 77 i = M 77 i := by unfold m_st; rw [jU_slot h2, jU_slot h]
theorem m_st_33 {M : jM} {k : Nat} {b : Int32} : m_st M k b 77 33 = b := by unfold m_st; rw [jU_same]
/-- one image is kept: the general step -/
theorem img_step {X N : jM} (I : Inv2 X N) {o fl q sq k : Nat} (hc : (o = 41 ∧ fl = 0 ∧ q = 42 ∧ sq = 54 ∧ k = 0) ∨ (o = 59 ∧ fl = 1 ∧ q = 60 ∧ sq = 72 ∧ k = 100)) :
    Inv2 (jU (x_cpSg (x_copy X 1 q) 13 sq) o 2 1) (jU (m_pA8 (m_st N k 1) k) 99 fl 1) := by
  have hW : WR (m_st N k 1) (m_pA8 (m_st N k 1) k) k 93 := WR_all (by rw [m_st_33]; decide)
  have r0 := I.1
  have s0 := I.2.1
  obtain ⟨n', p1, p2, p3, p4⟩ := I.2.2.1
  have xs : ∀ c, c < 41 → jU (x_cpSg (x_copy X 1 q) 13 sq) o 2 1 c = X c := fun c hcc => by rw [jU_ne (by omega), x_cpSg_ne (by omega), x_copy_ne (by omega)]
  have ns : ∀ c, c ≠ 77 → c ≠ 98 → c ≠ 99 → jU (m_pA8 (m_st N k 1) k) 99 fl 1 c = N c := fun c h1 h2 h3 => by rw [jU_ne h3, hW.1 c h1 h2, m_st_ne h1]
  have n7 : ∀ j, j ≠ 32 → j ≠ 33 → jU (m_pA8 (m_st N k 1) k) 99 fl 1 77 j = N 77 j := fun j h1 h2 => by rw [jU_cell (by decide), hW.2.1 j h1, m_st_slot h1 h2]
  have n8 : jU (m_pA8 (m_st N k 1) k) 99 fl 1 98 = m_pA8 (m_st N k 1) k 98 := jU_ne (by decide)
  have rX : RR (jU (x_cpSg (x_copy X 1 q) 13 sq) o 2 1) q (N 78) (N 79) (N 80) (N 81) (N 82) (N 77) := RR_cg (fun c h1 h2 => by rw [jU_ne (by omega), x_cpSg_ne (by omega)]) (x_copy_rr (q := q) (by omega) r0)
  have sX : SS (jU (x_cpSg (x_copy X 1 q) 13 sq) o 2 1) sq (N 83) (N 84) (N 85) (N 77 12) := SS_cg (fun c h1 h2 => by rw [jU_ne (by omega)]) (x_cpSg_ss (q := sq) (by omega) (SS_cg (fun c h1 h2 => by rw [x_copy_ne (by omega)]) s0))
  have st8 : ∀ c, c ≠ 77 → m_st N k 1 c = N c := fun c h => m_st_ne h
  have im : IM (jU (x_cpSg (x_copy X 1 q) 13 sq) o 2 1) (jU (m_pA8 (m_st N k 1) k) 99 fl 1) o fl q sq k := by
    refine ⟨by rw [jU_same, jU_same], Or.inr ?_⟩
    rw [n8]
    have e7 : ∀ j, j ≠ 32 → j ≠ 33 → m_st N k 1 77 j = N 77 j := fun j h1 h2 => m_st_slot h1 h2
    refine WR_img hW ?_ ?_
    · rw [st8 78 (by decide), st8 79 (by decide), st8 80 (by decide), st8 81 (by decide), st8 82 (by decide)]
      obtain ⟨h1, h2, h3, h4, h5, h6, h7, h8, h9⟩ := rX
      exact ⟨h1, h2, h3, h4, h5, by rw [e7 5 (by decide) (by decide)]; exact h6, by rw [e7 6 (by decide) (by decide)]; exact h7, by rw [e7 7 (by decide) (by decide)]; exact h8, by rw [e7 8 (by decide) (by decide)]; exact h9⟩
    · rw [st8 83 (by decide), st8 84 (by decide), st8 85 (by decide), e7 12 (by decide) (by decide)]
      exact sX
  have other : ∀ {o2 fl2 q2 sq2 k2 : Nat}, ((o2 = 41 ∧ fl2 = 0 ∧ q2 = 42 ∧ sq2 = 54 ∧ k2 = 0 ∧ o = 59) ∨ (o2 = 59 ∧ fl2 = 1 ∧ q2 = 60 ∧ sq2 = 72 ∧ k2 = 100 ∧ o = 41)) → IM X N o2 fl2 q2 sq2 k2 → IM (jU (x_cpSg (x_copy X 1 q) 13 sq) o 2 1) (jU (m_pA8 (m_st N k 1) k) 99 fl 1) o2 fl2 q2 sq2 k2 := by
    intro o2 fl2 q2 sq2 k2 h2 hI
    have x2 : ∀ c, (c = o2 ∨ (q2 ≤ c ∧ c < q2 + 12) ∨ (sq2 ≤ c ∧ c < sq2 + 4)) → jU (x_cpSg (x_copy X 1 q) 13 sq) o 2 1 c = X c := fun c hcc => by rw [jU_ne (by omega), x_cpSg_ne (by omega), x_copy_ne (by omega)]
    have k2e : ∀ j, k2 ≤ j → j < k2 + 93 → m_pA8 (m_st N k 1) k 98 j = N 98 j := fun j h1 h3 => by rw [hW.2.2.1 j (by omega), m_st_ne (by decide)]
    have f2 : jU (m_pA8 (m_st N k 1) k) 99 fl 1 99 fl2 = N 99 fl2 := by rw [jU_slot (by omega), hW.1 99 (by decide) (by decide), m_st_ne (by decide)]
    obtain ⟨i1, i2⟩ := hI
    unfold IM
    rw [n8, f2, x2 o2 (Or.inl rfl)]
    refine ⟨i1, ?_⟩
    rcases i2 with i2 | ⟨i2, i3⟩
    · exact Or.inl i2
    · refine Or.inr ⟨?_, ?_⟩
      · have z := RR_cg (X' := jU (x_cpSg (x_copy X 1 q) 13 sq) o 2 1) (fun c h1 h3 => (x2 c (by omega)).symm) i2
        obtain ⟨h1, h2', h3, h4, h5, h6, h7, h8, h9⟩ := z
        refine ⟨fun i hi => ?_, fun i hi => ?_, fun i j hi hj => ?_, fun i hi => ?_, fun i hi => ?_, ?_, ?_, ?_, ?_⟩
        · dsimp only; rw [k2e _ (by omega) (by omega)]; exact h1 i hi
        · dsimp only; rw [k2e _ (by omega) (by omega)]; exact h2' i hi
        · dsimp only; rw [k2e _ (by omega) (by omega)]; exact h3 i j hi hj
        · dsimp only; rw [k2e _ (by omega) (by omega)]; exact h4 i hi
        · dsimp only; rw [k2e _ (by omega) (by omega)]; exact h5 i hi
        · dsimp only; rw [k2e _ (by omega) (by omega)]; exact h6
        · dsimp only; rw [k2e _ (by omega) (by omega)]; exact h7
        · dsimp only; rw [k2e _ (by omega) (by omega)]; exact h8
        · dsimp only; rw [k2e _ (by omega) (by omega)]; exact h9
      · have z := SS_cg (X' := jU (x_cpSg (x_copy X 1 q) 13 sq) o 2 1) (fun c h1 h3 => (x2 c (by omega)).symm) i3
        obtain ⟨h1, h2', h3⟩ := z
        refine ⟨?_, ?_, fun i hi => ?_⟩
        · rw [k2e _ (by omega) (by omega)]; exact h1
        · rw [k2e _ (by omega) (by omega)]; exact h2'
        · show _ = m_pA8 (m_st N k 1) k 98 (k2 + 69 + i) ∧ jrg (m_pA8 (m_st N k 1) k 98 (k2 + 69 + i)) 0 255 ∧ _ = m_pA8 (m_st N k 1) k 98 (k2 + 77 + i) ∧ _ = m_pA8 (m_st N k 1) k 98 (k2 + 85 + i)
          rw [k2e (k2 + 69 + i) (by omega) (by omega), k2e (k2 + 77 + i) (by omega) (by omega), k2e (k2 + 85 + i) (by omega) (by omega)]; exact h3 i hi
  refine ⟨?_, ?_, ⟨n', p1, ?_, ?_, fun i hi => ?_⟩, ?_, ?_⟩
  · unfold RN
    rw [ns 78 (by decide) (by decide) (by decide), ns 79 (by decide) (by decide) (by decide), ns 80 (by decide) (by decide) (by decide), ns 81 (by decide) (by decide) (by decide), ns 82 (by decide) (by decide) (by decide)]
    have z := RR_cg (X' := jU (x_cpSg (x_copy X 1 q) 13 sq) o 2 1) (fun c h1 h3 => (xs c (by omega)).symm) r0
    obtain ⟨h1, h2, h3, h4, h5, h6, h7, h8, h9⟩ := z
    exact ⟨h1, h2, h3, h4, h5, by rw [n7 5 (by decide) (by decide)]; exact h6, by rw [n7 6 (by decide) (by decide)]; exact h7, by rw [n7 7 (by decide) (by decide)]; exact h8, by rw [n7 8 (by decide) (by decide)]; exact h9⟩
  · rw [ns 83 (by decide) (by decide) (by decide), ns 84 (by decide) (by decide) (by decide), ns 85 (by decide) (by decide) (by decide), n7 12 (by decide) (by decide)]
    exact SS_cg (fun c h1 h3 => (xs c (by omega)).symm) s0
  · rw [xs 18 (by omega)]; exact p2
  · rw [n7 14 (by decide) (by decide)]; exact p3
  · rw [xs 19 (by omega), ns 86 (by decide) (by decide) (by decide)]; exact p4 i hi
  · rcases hc with ⟨rfl, rfl, rfl, rfl, rfl⟩ | ⟨rfl, rfl, rfl, rfl, rfl⟩
    · exact im
    · exact other (Or.inl ⟨rfl, rfl, rfl, rfl, rfl, rfl⟩) I.2.2.2.1
  · rcases hc with ⟨rfl, rfl, rfl, rfl, rfl⟩ | ⟨rfl, rfl, rfl, rfl, rfl⟩
    · exact other (Or.inr ⟨rfl, rfl, rfl, rfl, rfl, rfl⟩) I.2.2.2.2
    · exact im
theorem e_image {X N : jM} (I : Inv2 X N) (k : Int32) : (x_image X k).1 = (m_image N k).1 ∧ Inv2 (x_image X k).2 (m_image N k).2 := by
  unfold x_image m_image
  by_cases h1 : 0 ≤ k.toInt ∧ k.toInt ≤ 1
  · rw [if_pos h1, if_pos h1]
    by_cases h2 : k = 0
    · rw [if_pos h2, if_pos h2]
      exact ⟨rfl, img_step I (Or.inl ⟨rfl, rfl, rfl, rfl, rfl⟩)⟩
    · rw [if_neg h2, if_neg h2]
      exact ⟨rfl, img_step I (Or.inr ⟨rfl, rfl, rfl, rfl, rfl⟩)⟩
  · rw [if_neg h1, if_neg h1]; exact ⟨rfl, I⟩
