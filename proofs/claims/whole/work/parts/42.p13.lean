/-! ===== an act, as the class reads it and as the reference wrote it down ===== -/
theorem cl_k {M : jM} {k : Nat} {w z : Int32} (h : k < 60) : m_kOf (m_close M k w z) = k + 1 := by
  unfold m_kOf m_close; rw [jU_same, nI_clamp (by omega)]
theorem cl_87 {M : jM} {k : Nat} {w z : Int32} : m_close M k w z 87 k = w := by
  unfold m_close; rw [jU_cell (by decide), jU_cell (by decide), jU_same]
theorem cl_89 {M : jM} {k : Nat} {w z : Int32} : m_close M k w z 89 k = z := by
  unfold m_close; rw [jU_cell (by decide), jU_same]
theorem cl_88 {M : jM} {k : Nat} {w z : Int32} : m_close M k w z 88 k = M 88 k := by
  unfold m_close; rw [jU_cell (by decide), jU_cell (by decide), jU_cell (by decide)]
def RC (X N : jM) (n p k : Nat) : Prop := (m_scan N (p + x_len X n p)).1 = 0 ∧ m_kOf (m_scan N (p + x_len X n p)).2 = k + 1 ∧ (m_scan N (p + x_len X n p)).2 88 k = x_who X n p ∧ ((m_scan N (p + x_len X n p)).2 87 k = 6 ↔ x_k X n p = 7) ∧
  ∀ Y N', RN Y N' 21 → SA (x_act Y 21 (x_k X n p) (x_w X n p) (x_num X n p)) Y 21 (m_whyNot N' ((m_scan N (p + x_len X n p)).2 87 k) (x_w X n p) ((m_scan N (p + x_len X n p)).2 89 k)) (m_happen N' ((m_scan N (p + x_len X n p)).2 87 k) (x_w X n p) ((m_scan N (p + x_len X n p)).2 89 k))
theorem RC_fin {X N M1 : jM} {n p k l : Nat} {w z : Int32} (hl : x_len X n p = l) (hs : m_scan N (p + l) = (0, m_close M1 k w z)) (hk : k < 60) (h88 : M1 88 k = x_who X n p) (h6 : w = 6 ↔ x_k X n p = 7)
    (hSA : ∀ Y N', RN Y N' 21 → SA (x_act Y 21 (x_k X n p) (x_w X n p) (x_num X n p)) Y 21 (m_whyNot N' w (x_w X n p) z) (m_happen N' w (x_w X n p) z)) : RC X N n p k := by
  unfold RC
  rw [hl, hs]
  dsimp only
  rw [cl_87, cl_88, cl_89, cl_k hk]
  exact ⟨rfl, rfl, h88, h6, hSA⟩
theorem num_ok {M : jM} {k : Nat} {w c t : Int32} (h : 0 ≤ (m_number M k w c t).1) : (49 ≤ c.toInt ∧ c.toInt ≤ 57) ∧ m_number M k w c t = (0, m_close M k w (t * (c - 48))) := by
  unfold m_number at h ⊢
  by_cases q : 49 ≤ c.toInt ∧ c.toInt ≤ 57
  · rw [if_pos q]; exact ⟨q, rfl⟩
  · rw [if_neg q] at h; exact absurd (show (0 : Int32) ≤ -6 from h) (by decide)
theorem kOf_88 {M : jM} {k : Nat} {w : Int32} : m_kOf (jU M 88 k w) = m_kOf M := by unfold m_kOf; rw [jU_cell (by decide)]
/-- nine the most, one digit -/
theorem SA_num {X : jM} {n p kk : Nat} {c t w : Int32} (hw : x_w X n p < 6) (hk : x_k X n p = nI kk) (hkk : kk = 0 ∨ kk = 1 ∨ kk = 4 ∨ kk = 6) (hc : 49 ≤ c.toInt ∧ c.toInt ≤ 57) (hn : x_num X n p = c - 48) (ht : t = if kk = 4 then 10 else 100) (hm : w = m_actBy (nI kk)) :
    ∀ Y N', RN Y N' 21 → SA (x_act Y 21 (x_k X n p) (x_w X n p) (x_num X n p)) Y 21 (m_whyNot N' w (x_w X n p) (t * (c - 48))) (m_happen N' w (x_w X n p) (t * (c - 48))) := by
  intro Y N' r
  obtain ⟨j, j1, _, j2⟩ := nI_sub_of (b := 48) (lo := 49) (hi := 57) hc.1 hc.2 (by omega) (by omega)
  rw [hk, hn, hm, show (48 : Int32) = nI 48 from rfl, j2]
  refine sa_act r (by omega) hw (fun q => by omega) (fun q => by omega) (fun _ => by omega) (fun _ => ?_)
  unfold mV
  rw [if_neg (by omega), ht]
  by_cases q : kk = 4
  · rw [if_pos q, if_pos q, show (10 : Int32) = nI 10 from rfl, pk_mul]
  · rw [if_neg q, if_neg q, show (100 : Int32) = nI 100 from rfl, pk_mul]
theorem rec_e {X N : jM} {n p k : Nat} (hn : n ≤ 60) (hf : ∀ i, i < n → X 19 i = N 86 i) (hT : x_okT (X 19) n) (hN : ∀ j, j < n → 0 ≤ (m_scan N (j + 1)).1) (hp : p < n) (h0 : (m_scan N p).1 = 0) (hk : m_kOf (m_scan N p).2 = k) (hk6 : k < 60) : RC X N n p k := by
  have hx0 : x_scan (X 19) p = 0 := by rw [(scan_e hf p (by omega) (fun j hj => hN j (by omega))).2, h0]; rfl
  obtain ⟨o1, o2, o3, o4, o5, o6⟩ := x_okAct hT hx0 hp
  have hw : x_w X n p < 6 := o1.1
  have sg : ∀ i, i < n → x_sg X n i = N 86 i := fun i hi => (if_pos hi).trans (hf i hi)
  have ek : x_k X n p = x_kindOf (N 86 p) (x_sg X n (p + 1)) := by unfold x_k; rw [sg p hp]
  have st : m_scan N (p + 1) = m_begin (m_scan N p).2 k (N 86 p) := by rw [m_scan, h0, hk, ro_0]
  have g1 := hN p hp
  generalize hM0 : (m_scan N p).2 = M0 at *
  by_cases c46 : N 86 p = 46
  · have hkk : x_k X n p = 7 := by rw [ek, c46]; rfl
    have hl : x_len X n p = 1 := by rw [x_len, if_pos hkk]
    refine RC_fin (M1 := jU M0 88 k (m_bgW 46)) (w := 6) (z := 0) hl ?_ hk6 ?_ ⟨fun _ => hkk, fun _ => rfl⟩ ?_
    · rw [st, c46]; rfl
    · rw [jU_same, x_who, hl]; rfl
    · intro Y N' r
      rw [hkk]
      exact sa_month r
  by_cases c43 : N 86 p = 43
  · have hkk : x_k X n p = 0 := by rw [ek, c43]; rfl
    have hl : x_len X n p = 2 := by rw [x_len, hkk]; rfl
    have st1 : m_scan N (p + 1) = (2, jU M0 88 k (m_bgW 43)) := by rw [st, c43]; rfl
    have l1 : p + 1 < n := by omega
    have g2 := hN (p + 1) l1
    have st2 : m_scan N (p + 1 + 1) = m_number (jU M0 88 k (m_bgW 43)) k 0 (N 86 (p + 1)) 100 := by rw [m_scan, st1]; dsimp only; rw [kOf_88, hk, ro_2]
    rw [st2] at g2
    obtain ⟨q1, q2⟩ := num_ok g2
    refine RC_fin hl (st2.trans q2) hk6 ?_ ⟨fun q => absurd q (by decide), fun q => by rw [hkk] at q; exact absurd q (by decide)⟩ ?_
    · rw [jU_same, x_who, hl]; rfl
    · refine SA_num (kk := 0) hw hkk (Or.inl rfl) q1 ?_ rfl rfl
      rw [x_num, hkk, hl, if_neg (by decide), show p + 2 - 1 = p + 1 by omega, sg _ l1]
  by_cases c33 : N 86 p = 33
  · have hkk : x_k X n p = 6 := by rw [ek, c33]; rfl
    have hl : x_len X n p = 3 := by rw [x_len, hkk]; rfl
    have st1 : m_scan N (p + 1) = (3, jU M0 88 k (m_bgW 33)) := by rw [st, c33]; rfl
    have l1 : p + 1 < n := by omega
    have l2 : p + 1 + 1 < n := by omega
    have g2 := hN (p + 1) l1
    have st2 : m_scan N (p + 1 + 1) = m_forWhom (jU M0 88 k (m_bgW 33)) k (N 86 (p + 1)) := by rw [m_scan, st1]; dsimp only; rw [kOf_88, hk, ro_3]
    rw [st2] at g2
    have q0 : 65 ≤ (N 86 (p + 1)).toInt ∧ (N 86 (p + 1)).toInt ≤ 70 := by
      by_cases q : 65 ≤ (N 86 (p + 1)).toInt ∧ (N 86 (p + 1)).toInt ≤ 70
      · exact q
      · unfold m_forWhom at g2; rw [if_neg q] at g2; exact absurd (show (0 : Int32) ≤ -6 from g2) (by decide)
    have st2' : m_scan N (p + 1 + 1) = (4, jU (jU M0 88 k (m_bgW 33)) 88 k (N 86 (p + 1) - 65)) := by rw [st2]; unfold m_forWhom; rw [if_pos q0]
    have g3 := hN (p + 1 + 1) l2
    have st3 : m_scan N (p + 1 + 1 + 1) = m_number (jU (jU M0 88 k (m_bgW 33)) 88 k (N 86 (p + 1) - 65)) k 1 (N 86 (p + 1 + 1)) 100 := by rw [m_scan, st2']; dsimp only; rw [kOf_88, kOf_88, hk, ro_4]
    rw [st3] at g3
    obtain ⟨q1, q2⟩ := num_ok g3
    refine RC_fin hl (st3.trans q2) hk6 ?_ ⟨fun q => absurd q (by decide), fun q => by rw [hkk] at q; exact absurd q (by decide)⟩ ?_
    · rw [jU_same, x_who, hl, if_neg (by decide), if_pos hkk, sg _ l1]
    · refine SA_num (kk := 6) hw hkk (by decide) q1 ?_ rfl rfl
      rw [x_num, hkk, hl, if_neg (by decide), show p + 3 - 1 = p + 1 + 1 by omega, sg _ l2]
  have cA : 65 ≤ (N 86 p).toInt ∧ (N 86 p).toInt ≤ 70 := by
    by_cases q : 65 ≤ (N 86 p).toInt ∧ (N 86 p).toInt ≤ 70
    · exact q
    · rw [st] at g1; unfold m_begin at g1; dsimp only at g1
      rw [if_neg c33, if_neg c43, if_neg c46, if_neg q] at g1; exact absurd (show (0 : Int32) ≤ -6 from g1) (by decide)
  have st1 : m_scan N (p + 1) = (1, jU M0 88 k (N 86 p - 65)) := by
    rw [st]; unfold m_begin; dsimp only
    rw [if_neg c33, if_neg c43, if_neg c46, if_pos cA, m_bgW, if_pos cA]
  have ek2 : x_k X n p = x_kDeed (x_sg X n (p + 1)) := by rw [ek]; unfold x_kindOf; rw [if_neg c33, if_neg c43, if_neg c46]
  have kd : ∀ c : Int32, x_kDeed c ≠ 7 ∧ x_kDeed c ≠ 0 ∧ x_kDeed c ≠ 6 := by
    intro c
    unfold x_kDeed
    repeat' split
    all_goals decide
  have hl : x_len X n p = 3 := by rw [x_len, ek2, if_neg (kd _).1, if_neg (kd _).2.1]
  have l1 : p + 1 < n := by omega
  have l2 : p + 1 + 1 < n := by omega
  rw [sg _ l1] at ek2
  have hwho : x_who X n p = N 86 p - 65 := by rw [x_who, hl, if_neg (by decide), if_neg (by rw [ek2]; exact (kd _).2.2), sg p hp]
  have n7 : ∀ {w : Int32}, w ≠ 6 → (w = 6 ↔ x_k X n p = 7) := fun h => ⟨fun q => absurd q h, fun q => by rw [ek2] at q; exact absurd q (kd _).1⟩
  have g2 := hN (p + 1) l1
  have g3 := hN (p + 1 + 1) l2
  have st2 : m_scan N (p + 1 + 1) = (m_deed (N 86 (p + 1)), jU M0 88 k (N 86 p - 65)) := by rw [m_scan, st1]; dsimp only; rw [ro_1]
  have st3 : m_scan N (p + 1 + 1 + 1) = m_readOn (jU M0 88 k (N 86 p - 65)) k (m_deed (N 86 (p + 1))) (N 86 (p + 1 + 1)) := by rw [m_scan, st2]; dsimp only; rw [kOf_88, hk]
  have e88 : jU M0 88 k (N 86 p - 65) 88 k = x_who X n p := by rw [jU_same, hwho]
  have esg : x_sg X n (p + 3 - 1) = N 86 (p + 1 + 1) := by rw [show p + 3 - 1 = p + 1 + 1 by omega, sg _ l2]
  rw [st2] at g2
  dsimp only at g2
  rw [st3] at g3
  by_cases d36 : N 86 (p + 1) = 36
  · have hkk : x_k X n p = 2 := by rw [ek2, d36]; rfl
    rw [show m_deed (N 86 (p + 1)) = 5 by rw [d36]; rfl, ro_5] at g3 st3
    by_cases q : 48 ≤ (N 86 (p + 1 + 1)).toInt ∧ (N 86 (p + 1 + 1)).toInt ≤ 55
    · rw [if_pos q] at st3
      refine RC_fin hl st3 hk6 e88 (n7 (by decide)) ?_
      intro Y N' r
      have en : x_num X n p = N 86 (p + 1 + 1) - 48 := by rw [x_num, hkk, hl, if_neg (by decide), esg]
      obtain ⟨j, j1, _, j2⟩ := nI_sub_of (b := 48) (lo := 48) (hi := 55) q.1 q.2 (by omega) (by omega)
      rw [hkk, en, show (48 : Int32) = nI 48 from rfl, j2]
      exact sa_act (k := 2) r (by omega) hw (fun _ => by omega) (fun q => by omega) (fun q => by omega) (fun _ => rfl)
    · rw [if_neg q] at g3; exact absurd (show (0 : Int32) ≤ -6 from g3) (by decide)
  by_cases d47 : N 86 (p + 1) = 47
  · have hkk : x_k X n p = 4 := by rw [ek2, d47]; rfl
    rw [show m_deed (N 86 (p + 1)) = 6 by rw [d47]; rfl, ro_6] at g3 st3
    obtain ⟨q1, q2⟩ := num_ok g3
    refine RC_fin hl (st3.trans q2) hk6 e88 (n7 (by decide)) ?_
    refine SA_num (kk := 4) hw hkk (by decide) q1 ?_ rfl rfl
    rw [x_num, hkk, hl, if_neg (by decide), esg]
  by_cases d62 : N 86 (p + 1) = 62
  · have hkk : x_k X n p = 5 := by rw [ek2, d62]; rfl
    rw [show m_deed (N 86 (p + 1)) = 7 by rw [d62]; rfl, ro_7] at g3 st3
    by_cases q : 65 ≤ (N 86 (p + 1 + 1)).toInt ∧ (N 86 (p + 1 + 1)).toInt ≤ 70
    · rw [if_pos q] at st3
      refine RC_fin hl st3 hk6 e88 (n7 (by decide)) ?_
      intro Y N' r
      have en : x_num X n p = N 86 (p + 1 + 1) - 65 := by rw [x_num, hkk, hl, if_pos rfl, esg]
      obtain ⟨j, j1, _, j2⟩ := nI_sub_of (b := 65) (lo := 65) (hi := 70) q.1 q.2 (by omega) (by omega)
      rw [hkk, en, show (65 : Int32) = nI 65 from rfl, j2]
      exact sa_act (k := 5) r (by omega) hw (fun q => by omega) (fun _ => by omega) (fun q => by omega) (fun _ => rfl)
    · rw [if_neg q] at g3; exact absurd (show (0 : Int32) ≤ -6 from g3) (by decide)
  by_cases d64 : N 86 (p + 1) = 64
  · have hkk : x_k X n p = 1 := by rw [ek2, d64]; rfl
    rw [show m_deed (N 86 (p + 1)) = 8 by rw [d64]; rfl, ro_8] at g3 st3
    obtain ⟨q1, q2⟩ := num_ok g3
    refine RC_fin hl (st3.trans q2) hk6 e88 (n7 (by decide)) ?_
    refine SA_num (kk := 1) hw hkk (by decide) q1 ?_ rfl rfl
    rw [x_num, hkk, hl, if_neg (by decide), esg]
  · unfold m_deed at g2
    rw [if_neg d36, if_neg d47, if_neg d62, if_neg d64] at g2
    exact absurd g2 (by decide)
