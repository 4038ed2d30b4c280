/-! ===== the months, side by side ===== -/
theorem ro_keep {M : jM} {k i a : Nat} {d c : Int32} (h : i < k) (ha : a ≠ 77) : (m_readOn M k d c).2 a i = M a i := by
  unfold m_readOn m_begin m_number m_forWhom m_close
  repeat' split
  all_goals (dsimp only; repeat (first | rw [jU_slot (by omega)] | rw [jU_cell (by omega)]))
theorem ro_18 {M : jM} {k : Nat} {d c : Int32} : (m_readOn M k d c).2 77 18 = M 77 18 ∨ (m_readOn M k d c).2 77 18 = nI (k + 1) := by
  unfold m_readOn m_begin m_number m_forWhom m_close
  repeat' split
  all_goals (first | (right; (try dsimp only); rw [jU_same]; done) | (left; rfl) | (left; (try dsimp only); rw [jU_cell (by decide)]; done) | (left; (try dsimp only); rw [jU_cell (by decide), jU_cell (by decide)]; done))
theorem ar_keep {N : jM} {p : Nat} : ∀ t, p + t ≤ 60 → m_kOf (m_scan N p).2 ≤ m_kOf (m_scan N (p + t)).2 ∧ ∀ a i, a ≠ 77 → i < m_kOf (m_scan N p).2 → (m_scan N (p + t)).2 a i = (m_scan N p).2 a i := by
  intro t
  induction t with
  | zero => intro _; exact ⟨Nat.le_refl _, fun _ _ _ _ => rfl⟩
  | succ t ih =>
    intro h
    obtain ⟨a1, a2⟩ := ih (by omega)
    have sk := m_scan_k N (p + t) (by omega)
    have e : m_scan N (p + (t + 1)) = m_readOn (m_scan N (p + t)).2 (m_kOf (m_scan N (p + t)).2) (m_scan N (p + t)).1 (N 86 (p + t)) := rfl
    rw [e]
    refine ⟨?_, fun a i ha hi => ?_⟩
    · rcases ro_18 (M := (m_scan N (p + t)).2) (k := m_kOf (m_scan N (p + t)).2) (d := (m_scan N (p + t)).1) (c := N 86 (p + t)) with q | q
      · have : m_kOf (m_readOn (m_scan N (p + t)).2 (m_kOf (m_scan N (p + t)).2) (m_scan N (p + t)).1 (N 86 (p + t))).2 = m_kOf (m_scan N (p + t)).2 := by
          show (_ : Int32).toNatClampNeg = _
          rw [q]; rfl
        omega
      · have : m_kOf (m_readOn (m_scan N (p + t)).2 (m_kOf (m_scan N (p + t)).2) (m_scan N (p + t)).1 (N 86 (p + t))).2 = m_kOf (m_scan N (p + t)).2 + 1 := by
          show (_ : Int32).toNatClampNeg = _
          rw [q, nI_clamp (by omega)]
        omega
    · rw [ro_keep (by omega) ha, a2 a i ha hi]
theorem fl_a {f : Nat → Int32} {v : Int32} {a b : Nat} : ∀ r m, m_flF f a v r m = m_flF f b v r m := by
  intro r
  induction r with
  | zero => intro m; rfl
  | succ r ih => intro m; rw [m_flF, m_flF, ih]
theorem fl_cg {f h : Nat → Int32} {v : Int32} {a b e : Nat} (hf : ∀ j, j < e → f j = h j) : ∀ r m, r + m ≤ e → m_flF f a v r m = m_flF h b v r m := by
  intro r
  induction r with
  | zero => intro m _; rfl
  | succ r ih => intro m hm; rw [m_flF, m_flF, hf m (by omega), ih (m + 1) (by omega)]
theorem fl_s {f h : Nat → Int32} {v : Int32} {a b e : Nat} (he : e < 2 ^ 31) (hf : ∀ j, j < e → h j = f j) : ∀ r m, r + m = e → m_flF h a v (r + 1) m = if m_flF f b v r m = -6 then (if v ≤ h e then -6 else nI e) else m_flF f b v r m := by
  intro r
  induction r with
  | zero => intro m hm; rw [show m = e by omega, m_flF, m_flF, m_flF, if_pos rfl]
  | succ r ih =>
    intro m hm
    rw [m_flF, ih (m + 1) (by omega), show m_flF f b v (r + 1) m = if v ≤ f m then m_flF f b v r (m + 1) else nI m from rfl, hf m (by omega)]
    by_cases q : v ≤ f m
    · rw [if_pos q, if_pos q]
    · rw [if_neg q, if_neg q, if_neg (nI_ne_neg (by decide) (by omega))]
theorem RN_N {X N N' : jM} {q : Nat} (r : RN X N q) (h : ∀ c, 78 ≤ c → c ≤ 82 → N' c = N c) (h7 : ∀ j, j < 9 → N' 77 j = N 77 j) : RN X N' q := by
  unfold RN
  rw [h 78 (by decide) (by decide), h 79 (by decide) (by decide), h 80 (by decide) (by decide), h 81 (by decide) (by decide), h 82 (by decide) (by decide)]
  obtain ⟨h1, h2, h3, h4, h5, q6, q7, q8, q9⟩ := r
  exact ⟨h1, h2, h3, h4, h5, by rw [h7 5 (by decide)]; exact q6, by rw [h7 6 (by decide)]; exact q7, by rw [h7 7 (by decide)]; exact q8, by rw [h7 8 (by decide)]; exact q9⟩
theorem RN_X {X X' N : jM} {q : Nat} (r : RN X N q) (h : ∀ c, q ≤ c → c < q + 12 → X' c = X c) : RN X' N q := RR_cg (fun c h1 h2 => (h c h1 h2).symm) r
theorem sg_cg {X Y : jM} (h : X 19 = Y 19) (n p : Nat) : x_sg X n p = x_sg Y n p := by unfold x_sg; rw [h]
theorem rd_cg {X Y : jM} (h : X 19 = Y 19) (n p : Nat) : x_k X n p = x_k Y n p ∧ x_len X n p = x_len Y n p ∧ x_who X n p = x_who Y n p ∧ x_w X n p = x_w Y n p ∧ x_num X n p = x_num Y n p := by
  have k : x_k X n p = x_k Y n p := by unfold x_k; rw [sg_cg h, sg_cg h]
  have l : x_len X n p = x_len Y n p := by unfold x_len; rw [k]
  have w : x_who X n p = x_who Y n p := by unfold x_who; rw [l, k, sg_cg h, sg_cg h]
  exact ⟨k, l, w, by unfold x_w; rw [w], by unfold x_num; rw [k, l, sg_cg h]⟩
theorem wn_nn {N : jM} {w v : Int32} {k : Nat} : 0 ≤ m_whyNot N w k v := by
  unfold m_whyNot m_wnC m_wnP
  repeat' split
  all_goals decide
def GF (X0 N0 A X N : jM) : Prop := (∀ c, c < 20 ∨ 33 ≤ c → X c = X0 c) ∧ KP N0 N ∧ N 77 18 = A 77 18
def GS (X0 N0 A X N : jM) (v : Int32) (k e : Nat) : Prop := GF X0 N0 A X N ∧ RN X N 21 ∧ (N 87 = A 87 ∧ N 88 = A 88 ∧ N 89 = A 89) ∧ (X 20 1 = nI k ∧ X 20 2 = 0 ∧ N 77 20 = -6 ∧ N 77 21 = -6) ∧ X 20 3 = nI e ∧ N 77 22 = nI e ∧ e ≤ k ∧ X 20 4 = m_flF (N 91) 0 v e 0
def GB (X0 N0 A X N : jM) : Prop := GF X0 N0 A X N ∧ ∃ k, k < 60 ∧ X 20 1 = nI k ∧ N 77 20 = nI k ∧ X 20 2 = N 77 21 ∧ X 20 2 ≠ 0
theorem KP_cg {N0 N N' : jM} (h : KP N0 N) (h1 : ∀ c, 81 ≤ c → c ≠ 82 → c ≠ 91 → N' c = N c) (h2 : ∀ j, j ≠ 20 → j ≠ 21 → j ≠ 22 → N' 77 j = N 77 j) : KP N0 N' := by
  obtain ⟨a1, a2, a3, a4, a5⟩ := h
  refine ⟨fun c b1 b2 b3 b4 b5 b6 => (h1 c (by omega) (by omega) b6).trans (a1 c b1 b2 b3 b4 b5 b6), (h1 81 (by decide) (by decide) (by decide)).trans a2, ?_, ?_, (h1 90 (by decide) (by decide) (by decide)).trans a5⟩
  · rw [h2 12 (by decide) (by decide) (by decide), a3]
  · rw [h2 14 (by decide) (by decide) (by decide), a4]
theorem go_step {X0 N0 N1 X N : jM} {v : Int32} {n p k e : Nat} (hn : n ≤ 60) (hf : ∀ i, i < n → X0 19 i = N1 86 i) (hT : x_okT (X0 19) n) (hN : ∀ j, j < n → 0 ≤ (m_scan N1 (j + 1)).1) (hp : p < n) (h0 : (m_scan N1 p).1 = 0) (hk : m_kOf (m_scan N1 p).2 = k) (hk6 : k < 60)
    (S : GS X0 N0 (m_scan N1 n).2 X N v k e) :
    (x_len X n p = x_len X0 n p ∧ (m_scan N1 (p + x_len X0 n p)).1 = 0 ∧ m_kOf (m_scan N1 (p + x_len X0 n p)).2 = k + 1 ∧ 1 ≤ x_len X0 n p ∧ p + x_len X0 n p ≤ n) ∧
    (((x_stepA X n p).1 = 0 ∧ ∃ e', GS X0 N0 (m_scan N1 n).2 (x_stepM X n p v) (m_goS N k) v (k + 1) e') ∨ (¬ (x_stepA X n p).1 = 0 ∧ 0 ≤ m_goS N k 77 20 ∧ GB X0 N0 (m_scan N1 n).2 (jU (x_stepA X n p).2 20 2 (x_stepA X n p).1) (m_goS N k))) := by
  obtain ⟨⟨s1, s2, s3⟩, s4, ⟨s5, s6, s7⟩, ⟨s8, s9, s10, s11⟩, s12, s13, s14, s15⟩ := S
  have rc := rec_e hn hf hT hN hp h0 hk hk6
  have hx0 : x_scan (X0 19) p = 0 := by rw [(scan_e hf p (by omega) (fun j hj => hN j (by omega))).2, h0]; rfl
  obtain ⟨o1, o2, o3, o4, o5, o6⟩ := x_okAct hT hx0 hp
  obtain ⟨c1, c2, c3, c4, c5⟩ := rd_cg (s1 19 (by omega)) n p
  obtain ⟨r1, r2, r3, r4, r5⟩ := rc
  have ak := ar_keep (N := N1) (p := p + x_len X0 n p) (n - (p + x_len X0 n p)) (by omega)
  rw [show p + x_len X0 n p + (n - (p + x_len X0 n p)) = n by omega, r2] at ak
  have k87 : N 87 k = (m_scan N1 (p + x_len X0 n p)).2 87 k := by rw [s5]; exact ak.2 87 k (by decide) (by omega)
  have k88 : N 88 k = x_who X0 n p := by rw [s6, ak.2 88 k (by decide) (by omega)]; exact r3
  have k89 : N 89 k = (m_scan N1 (p + x_len X0 n p)).2 89 k := by rw [s7]; exact ak.2 89 k (by decide) (by omega)
  have hw : x_w X n p < 6 := by rw [c4]; exact o1.1
  have kw : m_wOf N k = x_w X0 n p := by unfold m_wOf x_w; rw [k88]
  refine ⟨⟨c2, r1, r2, o4, o5⟩, ?_⟩
  have rY : RN (x_read X n p) N 21 := RN_X s4 (fun c h1 _ => x_read_ne (by omega))
  have sa := r5 _ _ rY
  rw [← k87, ← k89, ← kw] at sa
  have eA : x_act (x_read X n p) 21 (x_k X0 n p) (m_wOf N k) (x_num X0 n p) = x_stepA X n p := by unfold x_stepA; rw [c1, c4, c5, kw]
  rw [eA] at sa
  obtain ⟨a1, a2, a3⟩ := sa
  have eW : m_whyNot N (N 87 k) (m_wOf N k) (N 89 k) = m_goW N k := rfl
  rw [eW] at a1 a2 a3
  have x20 := x_stepA_20 (M := X) (n := n) (p := p) hw
  by_cases y : m_goW N k = 0
  · left
    refine ⟨a1.trans y, ?_⟩
    have rH := a2 y
    have eB : m_goB N k = N := by
      unfold m_goB
      have q : m_goW N k ≤ 0 := by rw [y]; decide
      rw [if_pos q, if_pos q]
      have e1 : jU N 77 20 (-6) = N := by rw [← s10]; exact jU_id
      rw [e1, ← s11]; exact jU_id
    have eS : m_goS N k = m_goE (m_happen N (N 87 k) (m_wOf N k) (N 89 k)) k := by unfold m_goS; rw [if_pos y, eB]
    rw [eS]
    generalize hH : m_happen N (N 87 k) (m_wOf N k) (N 89 k) = H at *
    have H83 : ∀ c, 83 ≤ c → H c = N c := fun c hc => by rw [← hH]; exact m_happen_ne hc
    have H9 : ∀ i, 9 ≤ i → H 77 i = N 77 i := fun i hi => by rw [← hH]; exact m_happen_slot hi
    have KH : KP N0 H := by rw [← hH]; exact KP_happen s2
    have e22 : (H 77 22).toNatClampNeg = e := by rw [H9 22 (by decide), s13, nI_clamp (by omega)]
    have eE : m_goE H k = jU (jU H 91 e (m_rate H)) 77 22 (nI e + (if N 87 k = 6 then 1 else 0)) := by
      unfold m_goE
      dsimp only
      rw [e22, jU_cell (k' := 77) (by decide), jU_cell (k' := 87) (by decide), H83 87 (by decide), H9 22 (by decide), s13]
    rw [eE]
    have rX2 : RN (jU (x_stepA X n p).2 20 2 0) H 21 := RN_X rH (fun c h1 _ => jU_ne (by omega))
    have KG : KP N0 (jU (jU H 91 e (m_rate H)) 77 22 (nI e + (if N 87 k = 6 then 1 else 0))) := KP_cg KH (fun c b1 b2 b3 => by rw [jU_ne (by omega), jU_ne b3]) (fun j b1 b2 b3 => by rw [jU_slot b3, jU_cell (by decide)])
    have RG : ∀ {Y : jM}, RN Y H 21 → RN Y (jU (jU H 91 e (m_rate H)) 77 22 (nI e + (if N 87 k = 6 then 1 else 0))) 21 := fun r => RN_N r (fun c b1 b2 => by rw [jU_ne (by omega), jU_ne (by omega)]) (fun j hj => by rw [jU_slot (by omega), jU_cell (by decide)])
    have GFx : GF X0 N0 (m_scan N1 n).2 (x_stepM X n p v) (jU (jU H 91 e (m_rate H)) 77 22 (nI e + (if N 87 k = 6 then 1 else 0))) := by
      refine ⟨fun c hc => (x_stepM_ne hw hc).trans (s1 c hc), KG, ?_⟩
      rw [jU_slot (by decide), jU_cell (by decide), H9 18 (by decide), s3]
    have arr : ∀ c, c = 87 ∨ c = 88 ∨ c = 89 → jU (jU H 91 e (m_rate H)) 77 22 (nI e + (if N 87 k = 6 then 1 else 0)) c = N c := fun c hc => by rw [jU_ne (by omega), jU_ne (by omega), H83 c (by omega)]
    have c1' := x_stepM_cnt (v := v) hw s8
    have s77 : ∀ j, 9 ≤ j → j ≠ 22 → jU (jU H 91 e (m_rate H)) 77 22 (nI e + (if N 87 k = 6 then 1 else 0)) 77 j = N 77 j := fun j h1 h2 => by rw [jU_slot h2, jU_cell (by decide), H9 j h1]
    have x0 : ∀ j, j < 5 → j ≠ 2 → jU (x_stepA X n p).2 20 2 0 20 j = X 20 j := fun j h1 h2 => by rw [jU_slot h2, x20, x_read_slot h1]
    have a1' : (x_stepA X n p).1 = 0 := a1.trans y
    have f91 : ∀ j, j < e → jU (jU H 91 e (m_rate H)) 77 22 (nI e + (if N 87 k = 6 then 1 else 0)) 91 j = N 91 j := fun j hj => by rw [jU_cell (by decide), jU_slot (by omega), H83 91 (by decide)]
    have g91 : jU (jU H 91 e (m_rate H)) 77 22 (nI e + (if N 87 k = 6 then 1 else 0)) 91 e = m_rate H := by rw [jU_cell (by decide), jU_same]
    have xm2 : x_stepM X n p v 20 2 = 0 := by
      unfold x_stepM; (try dsimp only); rw [jU_slot (by decide), x_end_slot (by decide) (by decide), jU_same, a1']
    have xm34 : ∀ j, j = 3 ∨ j = 4 → x_stepM X n p v 20 j = x_end (jU (x_stepA X n p).2 20 2 0) v (x_k X n p) 20 j := fun j hj => by
      unfold x_stepM; (try dsimp only); rw [a1', jU_slot (by omega)]
    have rM : RN (x_stepM X n p v) H 21 := RN_X rX2 (fun c h1 _ => by unfold x_stepM; (try dsimp only); rw [a1', jU_ne (by omega), x_end_ne (by omega)])
    by_cases k7 : x_k X0 n p = 7
    · have k6 : N 87 k = 6 := by rw [k87]; exact r4.mpr k7
      refine ⟨e + 1, GFx, RG rM, ⟨(arr 87 (by decide)).trans s5, (arr 88 (by decide)).trans s6, (arr 89 (by decide)).trans s7⟩, ⟨c1', xm2, (s77 20 (by decide) (by decide)).trans s10, (s77 21 (by decide) (by decide)).trans s11⟩, ?_, ?_, by omega, ?_⟩
      · rw [xm34 3 (by decide), c1, k7]
        unfold x_end; rw [if_pos rfl]; unfold x_endM
        rw [x0 3 (by decide) (by decide), s12]
        split
        · split
          · rw [jU_same, nI_1]
          · rw [jU_same, jU_slot (by decide), x0 3 (by decide) (by decide), s12, nI_1]
        · rw [jU_same, nI_1]
      · rw [jU_same, if_pos k6, nI_1]
      · rw [fl_s (b := 0) (f := N 91) (e := e) (by omega) f91 e 0 (by omega), g91, ← s15, xm34 4 (by decide), c1, k7]
        unfold x_end; rw [if_pos rfl]; unfold x_endM
        rw [x0 4 (by decide) (by decide), (r_rate rX2).1, x0 3 (by decide) (by decide), s12]
        by_cases q : X 20 4 = -6
        · rw [if_pos q, if_pos q]
          by_cases q2 : v ≤ m_rate H
          · rw [if_pos q2, if_pos q2, jU_slot (by decide), x0 4 (by decide) (by decide), q]
          · rw [if_neg q2, if_neg q2, jU_slot (by decide), jU_same]
        · rw [if_neg q, if_neg q, jU_slot (by decide), x0 4 (by decide) (by decide)]
    · have k6 : ¬ N 87 k = 6 := by rw [k87]; exact fun q => k7 (r4.mp q)
      have xe : x_end (jU (x_stepA X n p).2 20 2 0) v (x_k X n p) = jU (x_stepA X n p).2 20 2 0 := by unfold x_end; rw [c1, if_neg k7]
      refine ⟨e, GFx, RG rM, ⟨(arr 87 (by decide)).trans s5, (arr 88 (by decide)).trans s6, (arr 89 (by decide)).trans s7⟩, ⟨c1', xm2, (s77 20 (by decide) (by decide)).trans s10, (s77 21 (by decide) (by decide)).trans s11⟩, ?_, ?_, by omega, ?_⟩
      · rw [xm34 3 (by decide), xe, x0 3 (by decide) (by decide), s12]
      · rw [jU_same, if_neg k6, Int32.add_zero]
      · rw [xm34 4 (by decide), xe, x0 4 (by decide) (by decide), s15]
        exact fl_cg (fun j hj => (f91 j hj).symm) e 0 (by omega)
  · right
    have nx : ¬ (x_stepA X n p).1 = 0 := fun q => y (a1.symm.trans q)
    have nle : ¬ m_goW N k ≤ 0 := fun q => y (Int32.le_antisymm q wn_nn)
    have eS : m_goS N k = jU (jU N 77 20 (nI k)) 77 21 (m_goW N k) := by unfold m_goS; rw [if_neg y]; unfold m_goB; rw [if_neg nle, if_neg nle]
    have e20 : m_goS N k 77 20 = nI k := by rw [eS, jU_slot (by decide), jU_same]
    refine ⟨nx, by rw [e20]; exact nI_nn (by omega), ⟨fun c hc => ?_, ?_, ?_⟩, k, hk6, ?_, e20, ?_, ?_⟩
    · rw [jU_ne (by omega), x_stepA_ne hw hc, s1 c hc]
    · rw [eS]; exact KP_cg s2 (fun c b1 _ _ => by rw [jU_ne (by omega), jU_ne (by omega)]) (fun j b1 b2 _ => by rw [jU_slot b2, jU_slot b1])
    · rw [eS, jU_slot (by decide), jU_slot (by decide), s3]
    · rw [jU_slot (by decide), x20, x_read_slot (by decide), s8]
    · rw [jU_same, eS, jU_same, a1]
    · rw [jU_same]; exact nx
