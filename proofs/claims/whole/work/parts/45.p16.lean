/-! ===== frames, and the calls in pairs ===== -/
theorem Inv2_N {X N N' : jM} (I : Inv2 X N) (h : ∀ c, 78 ≤ c → c ≠ 87 → c ≠ 88 → c ≠ 89 → c ≠ 91 → c ≠ 92 → c ≠ 93 → c ≠ 94 → N' c = N c) (h7 : ∀ j, j ≠ 18 → N' 77 j = N 77 j) : Inv2 X N' := by
  obtain ⟨i1, i2, ⟨n, p1, p2, p3, p4⟩, i4, i5⟩ := I
  have hh : ∀ c, 78 ≤ c → c ≤ 86 ∨ 98 ≤ c → N' c = N c := fun c h1 h2 => h c h1 (by omega) (by omega) (by omega) (by omega) (by omega) (by omega) (by omega)
  refine ⟨RN_N i1 (fun c h1 h2 => hh c h1 (by omega)) (fun j hj => h7 j (by omega)), ?_, ⟨n, p1, p2, ?_, fun i hi => ?_⟩, ?_, ?_⟩
  · rw [hh 83 (by decide) (by decide), hh 84 (by decide) (by decide), hh 85 (by decide) (by decide), h7 12 (by decide)]; exact i2
  · rw [h7 14 (by decide)]; exact p3
  · rw [hh 86 (by decide) (by decide)]; exact p4 i hi
  · unfold IM; rw [hh 98 (by decide) (by decide), hh 99 (by decide) (by decide)]; exact i4
  · unfold IM; rw [hh 98 (by decide) (by decide), hh 99 (by decide) (by decide)]; exact i5
theorem Inv2_X {X X' N : jM} (I : Inv2 X N) (h : ∀ c, c < 77 → c ≠ 17 → c ≠ 34 → c ≠ 35 → X' c = X c) : Inv2 X' N := by
  obtain ⟨i1, i2, ⟨n, p1, p2, p3, p4⟩, i4, i5⟩ := I
  have hh : ∀ c, c < 77 → c < 17 ∨ c = 18 ∨ c = 19 ∨ 36 ≤ c → X' c = X c := fun c h1 h2 => h c h1 (by omega) (by omega) (by omega)
  have im : ∀ {o fl q sq k : Nat}, 36 ≤ o → o < 77 → 36 ≤ q → q + 12 ≤ 77 → 36 ≤ sq → sq + 4 ≤ 77 → IM X N o fl q sq k → IM X' N o fl q sq k := by
    intro o fl q sq k l1 l2 l3 l4 l5 l6 hJ
    obtain ⟨j1, j2⟩ := hJ
    unfold IM
    rw [hh o l2 (by omega)]
    refine ⟨j1, ?_⟩
    rcases j2 with j2 | ⟨j2, j3⟩
    · exact Or.inl j2
    · exact Or.inr ⟨RR_cg (fun c _ _ => (hh c (by omega) (by omega)).symm) j2, SS_cg (fun c _ _ => (hh c (by omega) (by omega)).symm) j3⟩
  refine ⟨RN_X i1 (fun c h1 h2 => hh c (by omega) (by omega)), SS_cg (fun c _ _ => (hh c (by omega) (by omega)).symm) i2, ⟨n, p1, ?_, p3, fun i hi => ?_⟩, im (by decide) (by decide) (by decide) (by decide) (by decide) (by decide) i4, im (by decide) (by decide) (by decide) (by decide) (by decide) (by decide) i5⟩
  · rw [hh 18 (by decide) (by decide)]; exact p2
  · rw [hh 19 (by decide) (by decide)]; exact p4 i hi
theorem Inv2_1 {M M1 : jM} (I : Inv2 M M) (hx : ∀ c, 77 ≤ c → M1 c = M c) : Inv2 M M1 := Inv2_cg (fun _ _ => rfl) (fun c hc => (hx c hc).symm) I
theorem Inv2_2 {M1 M2 : jM} (I : Inv2 M1 M2) (hm : ∀ c, c < 77 → M2 c = M1 c) : Inv2 M2 M2 := Inv2_cg (fun c hc => (hm c hc).symm) (fun _ _ => rfl) I
theorem PP_n {M : jM} (I : Inv2 M M) : ∃ n, n ≤ 60 ∧ M 18 1 = nI n ∧ M 77 14 = nI n := by
  obtain ⟨n, p1, p2, p3, _⟩ := I.2.2.1
  exact ⟨n, p1, p2, p3⟩
theorem SS_s {M : jM} (I : Inv2 M M) : ∃ s, s ≤ 8 ∧ M 13 4 = nI s ∧ M 77 12 = nI s ∧ ∀ i, i < 8 → 0 ≤ (M 83 i).toInt ∧ (M 83 i).toInt ≤ 255 := by
  obtain ⟨e, ⟨s, h1, h2⟩, h3⟩ := I.2.1
  exact ⟨s, h1, e.trans h2, h2, fun i hi => (h3 i hi).2.1⟩
theorem m_happen_lo {M : jM} {w v : Int32} {k c : Nat} (h : c < 77) : m_happen M w k v c = M c := by
  unfold m_happen
  repeat' split
  all_goals (try unfold m_buyM); (try unfold m_swap); (try unfold m_payM)
  all_goals (funext i; (try dsimp only); repeat rw [jU_cell (by omega)])
theorem m_go_lo {K c : Nat} (h : c < 77) : ∀ f k M, m_go K f k M c = M c := by
  intro f
  induction f with
  | zero => intro k M; rfl
  | succ f ih =>
    intro k M
    rw [m_go]
    split
    · split
      · rfl
      · rw [ih]; unfold m_goS; split
        · rw [m_goE_ne (by omega), m_happen_lo h, m_goB_ne (by omega)]
        · rw [m_goB_ne (by omega)]
    · rfl
theorem fault_scan (N : jM) (n : Nat) : ∃ j, (m_fault N n).2 = (m_scan N j).2 := by
  have key : ∀ r i, ∃ j, (m_fp N n r i).2 = (m_scan N j).2 := by
    intro r
    induction r with
    | zero => intro i; exact ⟨i, rfl⟩
    | succ r ih =>
      intro i
      rw [m_fp]
      split
      · exact ih (i + 1)
      · exact ⟨i + 1, rfl⟩
  exact key n 0
theorem m_refM_lo {N : jM} {n c : Nat} (h : c < 77) : m_refM N n c = N c := by
  unfold m_refM
  obtain ⟨j, ej⟩ := fault_scan (m_keep N) n
  split
  · rw [ej, m_scan_ne (by omega), m_keep_ne (by omega)]
  · unfold m_goMonths
    rw [m_go_lo h, jU_ne (by omega), jU_ne (by omega), jU_ne (by omega), ej, m_scan_ne (by omega), m_keep_ne (by omega)]
theorem m_yM_lo {N : jM} {s c : Nat} (h : c < 77) : ∀ m, m_yM N s m c = N c := by
  intro m
  induction m with
  | zero => exact m_keep_ne (by omega)
  | succ m ih =>
    rw [m_yM]; unfold m_yA
    split
    · rw [m_happen_lo h, ih]
    · exact ih
theorem m_row_lo {M : jM} {k r c : Nat} (h : c < 77) (hr : 77 < r) : ∀ m, m_row M k r m c = M c := by
  intro m
  induction m with
  | zero => rfl
  | succ m ih => rw [m_row]; unfold m_pM; rw [jU_ne (by omega), jU_ne (by omega), jU_ne (by omega), ih]
theorem m_sc_lo {M : jM} {k f c : Nat} (h : c < 77) : m_sc M k f c = M c := by
  unfold m_sc m_pM; rw [jU_ne (by omega), jU_ne (by omega), jU_ne (by omega)]
theorem m_pA8_lo {M : jM} {k c : Nat} (h : c < 77) : m_pA8 M k c = M c := by
  unfold m_pA8 m_pA7 m_pA6 m_pA5 m_pA4 m_pA3 m_pA2 m_pA1 m_pA0
  rw [m_row_lo h (by decide), m_row_lo h (by decide), m_row_lo h (by decide), m_row_lo h (by decide), m_row_lo h (by decide), m_row_lo h (by decide), m_row_lo h (by decide), m_row_lo h (by decide), m_sc_lo h, m_sc_lo h, m_sc_lo h, m_sc_lo h, m_sc_lo h]
theorem m_st_lo {M : jM} {k c : Nat} {b : Int32} (h : c < 77) : m_st M k b c = M c := m_st_ne (by omega)
theorem x_yM_hi {M : jM} {s c : Nat} (h : 77 ≤ c) : ∀ m, x_yM M s m c = M c := by
  intro m
  induction m with
  | zero => exact x_copy_ne (by omega)
  | succ m ih => rw [x_yM]; unfold x_yA; rw [x_act_ne (by omega) (by omega), ih]
theorem fx_one {M : jM} {o p e : Int32} {c : Nat} (hc : 77 ≤ c) : (x_one M o p e).2 c = M c := by
  unfold x_one
  repeat' split
  all_goals (first | rfl | (dsimp only; repeat rw [jU_ne (by omega)]))
theorem fm_one {M : jM} {o p e : Int32} {c : Nat} (hc : c < 77) : (m_one M o p e).2 c = M c := by
  unfold m_one
  repeat' split
  all_goals (first | rfl | (dsimp only; repeat rw [jU_ne (by omega)]))
theorem fx_owe {M : jM} {o r v : Int32} {c : Nat} (hc : 77 ≤ c) : (x_owe M o r v).2 c = M c := by
  unfold x_owe
  split
  · rename_i h; have := jixl h; repeat' split
    all_goals (first | rfl | (dsimp only; repeat rw [jU_ne (by omega)]))
  · rfl
theorem fm_owe {M : jM} {o r v : Int32} {c : Nat} (hc : c < 77) : (m_owe M o r v).2 c = M c := by
  unfold m_owe
  repeat' split
  all_goals (first | rfl | (dsimp only; repeat rw [jU_ne (by omega)]))
theorem fx_lot {M : jM} {o p e : Int32} {c : Nat} (hc : 77 ≤ c) : (x_lot M o p e).2 c = M c := by
  unfold x_lot
  repeat' split
  all_goals (first | rfl | (dsimp only; repeat rw [jU_ne (by omega)]))
theorem fm_lot {M : jM} {o p e : Int32} {c : Nat} (hc : c < 77) : (m_lot M o p e).2 c = M c := by
  unfold m_lot
  repeat' split
  all_goals (first | rfl | (dsimp only; repeat rw [jU_ne (by omega)]))
theorem fx_set {M : jM} {o v : Int32} {c : Nat} (hc : 77 ≤ c) : (x_set M o v).2 c = M c := by
  unfold x_set
  repeat' split
  all_goals (first | rfl | (dsimp only; repeat rw [jU_ne (by omega)]))
theorem fm_set {M : jM} {o v : Int32} {c : Nat} (hc : c < 77) : (m_set M o v).2 c = M c := by
  unfold m_set
  repeat' split
  all_goals (first | rfl | (dsimp only; repeat rw [jU_ne (by omega)]))
theorem fx_say {M : jM} {n : Nat} {s : Int32} {c : Nat} (hc : 77 ≤ c) : (x_say M n s).2 c = M c := by
  unfold x_say
  (try unfold x_add)
  repeat' split
  all_goals (first | rfl | (dsimp only; repeat rw [jU_ne (by omega)]))
theorem fm_say {M : jM} {n : Nat} {s : Int32} {c : Nat} (hc : c < 77) : (m_say M n s).2 c = M c := by
  unfold m_say
  repeat' split
  all_goals (first | rfl | (dsimp only; repeat rw [jU_ne (by omega)]))
theorem fx_wipe {M : jM} {c : Nat} (hc : 77 ≤ c) : (x_wipe M).2 c = M c := by
  unfold x_wipe
  dsimp only; rw [jU_ne (by omega)]
theorem fm_wipe {M : jM} {c : Nat} (hc : c < 77) : (m_wipe M).2 c = M c := by
  unfold m_wipe
  dsimp only; rw [jU_ne (by omega)]
theorem fx_forget {M : jM} {c : Nat} (hc : 77 ≤ c) : (x_forget M).2 c = M c := by
  unfold x_forget
  dsimp only; rw [jU_ne (by omega)]
theorem fm_forget {M : jM} {c : Nat} (hc : c < 77) : (m_forget M).2 c = M c := by
  unfold m_forget
  dsimp only; rw [jU_ne (by omega)]
theorem fx_seen {M : jM} {s : Nat} {e m h : Int32} {c : Nat} (hc : 77 ≤ c) : (x_seen M s e m h).2 c = M c := by
  unfold x_seen
  (try unfold x_addS)
  repeat' split
  all_goals (first | rfl | (dsimp only; repeat rw [jU_ne (by omega)]))
theorem fm_seen {M : jM} {s : Nat} {e m h : Int32} {c : Nat} (hc : c < 77) : (m_seen M s e m h).2 c = M c := by
  unfold m_seen
  (try unfold m_addS)
  repeat' split
  all_goals (first | rfl | (dsimp only; repeat rw [jU_ne (by omega)]))
theorem fx_image {M : jM} {k : Int32} {c : Nat} (hc : 77 ≤ c) : (x_image M k).2 c = M c := by
  unfold x_image
  repeat' split
  all_goals (first | rfl | (dsimp only; rw [jU_ne (by omega), x_cpSg_ne (by omega), x_copy_ne (by omega)]))
theorem fm_image {M : jM} {k : Int32} {c : Nat} (hc : c < 77) : (m_image M k).2 c = M c := by
  unfold m_image
  repeat' split
  all_goals (first | rfl | (dsimp only; rw [jU_ne (by omega), m_pA8_lo hc, m_st_lo hc]))
theorem fx_restore {M : jM} {k : Int32} {c : Nat} (hc : 77 ≤ c) : (x_restore M k).2 c = M c := by
  unfold x_restore
  repeat' split
  all_goals (first | rfl | (dsimp only; rw [x_cpSg_ne (by omega), x_copy_ne (by omega)]))
theorem fm_restore {M : jM} {k : Int32} {c : Nat} (hc : c < 77) : (m_restore M k).2 c = M c := by
  unfold m_restore
  repeat' split
  all_goals (first | rfl | (dsimp only; rw [m_pA8_lo hc, m_st_lo hc]))
theorem fx_year {M : jM} {s m k : Int32} {c : Nat} (hc : 77 ≤ c) : (x_year M s m k).2 c = M c := by
  unfold x_year
  repeat' split
  all_goals (first | rfl | exact x_yM_hi hc _)
theorem fm_year {M : jM} {s m k : Int32} {c : Nat} (hc : c < 77) : (m_year M s m k).2 c = M c := by
  unfold m_year
  repeat' split
  all_goals (first | rfl | exact (m_back_ne (Or.inl hc)).trans (m_yM_lo hc _))
theorem fx_judge {M : jM} (I : Inv2 M M) {n : Nat} (hn : n ≤ 60) (hX : M 18 1 = nI n) {k : Int32} {c : Nat} (hc : 77 ≤ c) : (x_judge M n k).2 c = M c := by
  unfold x_judge
  repeat' split
  all_goals (first | rfl | exact (oc I hn hX _).1 c (by omega))
theorem fm_judge {M : jM} {n : Nat} {k : Int32} {c : Nat} (hc : c < 77) : (m_judge M n k).2 c = M c := by
  unfold m_judge
  repeat' split
  all_goals (first | rfl | exact (m_back_ne (Or.inl hc)).trans (m_refM_lo hc))
theorem fx_behind {M : jM} (I : Inv2 M M) {n : Nat} (hn : n ≤ 60) (hX : M 18 1 = nI n) {o k : Int32} {c : Nat} (hc : 77 ≤ c) : (x_behind M n o k).2 c = M c := by
  unfold x_behind
  repeat' split
  all_goals (first | rfl | exact (oc I hn hX _).1 c (by omega))
theorem fm_behind {M : jM} {n : Nat} {o k : Int32} {c : Nat} (hc : c < 77) : (m_behind M n o k).2 c = M c := by
  unfold m_behind
  repeat' split
  all_goals (first | rfl | exact (m_back_ne (Or.inl hc)).trans (m_refM_lo hc))
theorem fx_total {M : jM} (I : Inv2 M M) {n : Nat} (hn : n ≤ 60) (hX : M 18 1 = nI n) {k : Int32} {c : Nat} (hc : 77 ≤ c) : (x_total M n k).2 c = M c := by
  unfold x_total
  repeat' split
  all_goals (first | rfl | exact (oc I hn hX _).1 c (by omega))
theorem fm_total {M : jM} {n : Nat} {k : Int32} {c : Nat} (hc : c < 77) : (m_total M n k).2 c = M c := by
  unfold m_total
  repeat' split
  all_goals (first | rfl | exact (m_back_ne (Or.inl hc)).trans (m_refM_lo hc))
theorem fx_fell {M : jM} (I : Inv2 M M) {n : Nat} (hn : n ≤ 60) (hX : M 18 1 = nI n) {v : Int32} {c : Nat} (hc : 77 ≤ c) : (x_fell M n v).2 c = M c := by
  unfold x_fell
  repeat' split
  all_goals (first | rfl | exact (oc I hn hX _).1 c (by omega))
theorem fm_fell {M : jM} {n : Nat} {v : Int32} {c : Nat} (hc : c < 77) : (m_fell M n v).2 c = M c := by
  unfold m_fell
  repeat' split
  all_goals (first | rfl | exact (m_back_ne (Or.inl hc)).trans (m_refM_lo hc))
theorem fx_done {M : jM} (I : Inv2 M M) {n : Nat} (hn : n ≤ 60) (hX : M 18 1 = nI n) {c : Nat} (hc : 77 ≤ c) : (x_done M n).2 c = M c := by
  unfold x_done
  dsimp only
  split
  · dsimp only; rw [jU_ne (by omega), x_copy_ne (by omega)]; exact (oc I hn hX _).1 c (by omega)
  · exact (oc I hn hX _).1 c (by omega)
theorem fm_done {M : jM} {n : Nat} {c : Nat} (hc : c < 77) : (m_done M n).2 c = M c := by
  unfold m_done
  split
  · dsimp only; rw [jU_ne (by omega), m_refM_lo hc]
  · exact (m_back_ne (Or.inl hc)).trans (m_refM_lo hc)
theorem pr_fault {M : jM} (I : Inv2 M M) {n : Nat} (hn : n ≤ 60) : x_fault (M 19) n = (m_fault M n).1 ∧ Inv2 (m_fault M n).2 (m_fault M n).2 := by
  obtain ⟨n', p1, p2, p3, p4⟩ := I.2.2.1
  refine ⟨fault_e (fun i hi => p4 i (by omega)), ?_⟩
  obtain ⟨j, ej⟩ := fault_scan M n
  rw [ej]
  refine Inv2_2 (M1 := M) (Inv2_N I (fun c h1 h2 h3 h4 _ _ _ _ => m_scan_ne (by omega) j) (fun j' hj => m_scan_slot hj j)) (fun c hc => m_scan_ne (by omega) j)
theorem pr_one {M : jM} (I : Inv2 M M) (o p e : Int32) : (x_one M o p e).1 = (m_one (x_one M o p e).2 o p e).1 ∧ Inv2 (m_one (x_one M o p e).2 o p e).2 (m_one (x_one M o p e).2 o p e).2 := by
  have q := e_one (Inv2_1 (M1 := (x_one M o p e).2) I (fun c hc => fx_one hc)) o p e
  exact ⟨q.1, Inv2_2 q.2 (fun c hc => fm_one hc)⟩
theorem pr_owe {M : jM} (I : Inv2 M M) (o r v : Int32) : (x_owe M o r v).1 = (m_owe (x_owe M o r v).2 o r v).1 ∧ Inv2 (m_owe (x_owe M o r v).2 o r v).2 (m_owe (x_owe M o r v).2 o r v).2 := by
  have q := e_owe (Inv2_1 (M1 := (x_owe M o r v).2) I (fun c hc => fx_owe hc)) o r v
  exact ⟨q.1, Inv2_2 q.2 (fun c hc => fm_owe hc)⟩
theorem pr_lot {M : jM} (I : Inv2 M M) (o p e : Int32) : (x_lot M o p e).1 = (m_lot (x_lot M o p e).2 o p e).1 ∧ Inv2 (m_lot (x_lot M o p e).2 o p e).2 (m_lot (x_lot M o p e).2 o p e).2 := by
  have q := e_lot (Inv2_1 (M1 := (x_lot M o p e).2) I (fun c hc => fx_lot hc)) o p e
  exact ⟨q.1, Inv2_2 q.2 (fun c hc => fm_lot hc)⟩
theorem pr_set {M : jM} (I : Inv2 M M) (o v : Int32) : (x_set M o v).1 = (m_set (x_set M o v).2 o v).1 ∧ Inv2 (m_set (x_set M o v).2 o v).2 (m_set (x_set M o v).2 o v).2 := by
  have q := e_set (Inv2_1 (M1 := (x_set M o v).2) I (fun c hc => fx_set hc)) o v
  exact ⟨q.1, Inv2_2 q.2 (fun c hc => fm_set hc)⟩
theorem pr_wipe {M : jM} (I : Inv2 M M)  : (x_wipe M).1 = (m_wipe (x_wipe M).2).1 ∧ Inv2 (m_wipe (x_wipe M).2).2 (m_wipe (x_wipe M).2).2 := by
  have q := e_wipe (Inv2_1 (M1 := (x_wipe M).2) I (fun c hc => fx_wipe hc))
  exact ⟨q.1, Inv2_2 q.2 (fun c hc => fm_wipe hc)⟩
theorem pr_forget {M : jM} (I : Inv2 M M)  : (x_forget M).1 = (m_forget (x_forget M).2).1 ∧ Inv2 (m_forget (x_forget M).2).2 (m_forget (x_forget M).2).2 := by
  have q := e_forget (Inv2_1 (M1 := (x_forget M).2) I (fun c hc => fx_forget hc))
  exact ⟨q.1, Inv2_2 q.2 (fun c hc => fm_forget hc)⟩
theorem pr_image {M : jM} (I : Inv2 M M) (k : Int32) : (x_image M k).1 = (m_image (x_image M k).2 k).1 ∧ Inv2 (m_image (x_image M k).2 k).2 (m_image (x_image M k).2 k).2 := by
  have q := e_image (Inv2_1 (M1 := (x_image M k).2) I (fun c hc => fx_image hc)) k
  exact ⟨q.1, Inv2_2 q.2 (fun c hc => fm_image hc)⟩
theorem pr_restore {M : jM} (I : Inv2 M M) (k : Int32) : (x_restore M k).1 = (m_restore (x_restore M k).2 k).1 ∧ Inv2 (m_restore (x_restore M k).2 k).2 (m_restore (x_restore M k).2 k).2 := by
  have q := e_restore (Inv2_1 (M1 := (x_restore M k).2) I (fun c hc => fx_restore hc)) k
  exact ⟨q.1, Inv2_2 q.2 (fun c hc => fm_restore hc)⟩
theorem pr_year {M : jM} (I : Inv2 M M) (s m k : Int32) : (x_year M s m k).1 = (m_year (x_year M s m k).2 s m k).1 ∧ Inv2 (m_year (x_year M s m k).2 s m k).2 (m_year (x_year M s m k).2 s m k).2 := by
  have q := e_year (Inv2_1 (M1 := (x_year M s m k).2) I (fun c hc => fx_year hc)) s m k
  exact ⟨q.1, Inv2_2 q.2 (fun c hc => fm_year hc)⟩
theorem pr_judge {M : jM} (I : Inv2 M M) {n : Nat} (hn : n ≤ 60) (hX : M 18 1 = nI n) (k : Int32) : (x_judge M n k).1 = (m_judge (x_judge M n k).2 n k).1 ∧ Inv2 (m_judge (x_judge M n k).2 n k).2 (m_judge (x_judge M n k).2 n k).2 := by
  have q := e_judge (Inv2_1 (M1 := (x_judge M n k).2) I (fun c hc => fx_judge I hn hX hc)) hn hX k
  exact ⟨q.1, Inv2_2 q.2 (fun c hc => fm_judge hc)⟩
theorem pr_behind {M : jM} (I : Inv2 M M) {n : Nat} (hn : n ≤ 60) (hX : M 18 1 = nI n) (o k : Int32) : (x_behind M n o k).1 = (m_behind (x_behind M n o k).2 n o k).1 ∧ Inv2 (m_behind (x_behind M n o k).2 n o k).2 (m_behind (x_behind M n o k).2 n o k).2 := by
  have q := e_behind (Inv2_1 (M1 := (x_behind M n o k).2) I (fun c hc => fx_behind I hn hX hc)) hn hX o k
  exact ⟨q.1, Inv2_2 q.2 (fun c hc => fm_behind hc)⟩
theorem pr_total {M : jM} (I : Inv2 M M) {n : Nat} (hn : n ≤ 60) (hX : M 18 1 = nI n) (k : Int32) : (x_total M n k).1 = (m_total (x_total M n k).2 n k).1 ∧ Inv2 (m_total (x_total M n k).2 n k).2 (m_total (x_total M n k).2 n k).2 := by
  have q := e_total (Inv2_1 (M1 := (x_total M n k).2) I (fun c hc => fx_total I hn hX hc)) hn hX k
  exact ⟨q.1, Inv2_2 q.2 (fun c hc => fm_total hc)⟩
theorem pr_fell {M : jM} (I : Inv2 M M) {n : Nat} (hn : n ≤ 60) (hX : M 18 1 = nI n) (v : Int32) : (x_fell M n v).1 = (m_fell (x_fell M n v).2 n v).1 ∧ Inv2 (m_fell (x_fell M n v).2 n v).2 (m_fell (x_fell M n v).2 n v).2 := by
  have q := e_fell (Inv2_1 (M1 := (x_fell M n v).2) I (fun c hc => fx_fell I hn hX hc)) hn hX v
  exact ⟨q.1, Inv2_2 q.2 (fun c hc => fm_fell hc)⟩
theorem pr_done {M : jM} (I : Inv2 M M) {n : Nat} (hn : n ≤ 60) (hX : M 18 1 = nI n)  : (x_done M n).1 = (m_done (x_done M n).2 n).1 ∧ Inv2 (m_done (x_done M n).2 n).2 (m_done (x_done M n).2 n).2 := by
  have q := e_done (Inv2_1 (M1 := (x_done M n).2) I (fun c hc => fx_done I hn hX hc)) hn hX
  exact ⟨q.1, Inv2_2 q.2 (fun c hc => fm_done hc)⟩
theorem pr_say {M : jM} (I : Inv2 M M) {n : Nat} (hn : n ≤ 60) (hX : M 18 1 = nI n) (hM : M 77 14 = nI n) (s : Int32) : (x_say M n s).1 = (m_say (x_say M n s).2 n s).1 ∧ Inv2 (m_say (x_say M n s).2 n s).2 (m_say (x_say M n s).2 n s).2 := by
  have e := e_say (Inv2_1 (M1 := (x_say M n s).2) I (fun c hc => fx_say hc)) hn hX (by rw [fx_say (by decide)]; exact hM) s
  exact ⟨e.1, Inv2_2 e.2 (fun c hc => fm_say hc)⟩
theorem pr_seen {M : jM} (I : Inv2 M M) {s : Nat} (hs : s ≤ 8) (hX : M 13 4 = nI s) (hM : M 77 12 = nI s) (e m h : Int32) : (x_seen M s e m h).1 = (m_seen (x_seen M s e m h).2 s e m h).1 ∧ Inv2 (m_seen (x_seen M s e m h).2 s e m h).2 (m_seen (x_seen M s e m h).2 s e m h).2 := by
  have q := e_seen (Inv2_1 (M1 := (x_seen M s e m h).2) I (fun c hc => fx_seen hc)) hs hX (by rw [fx_seen (by decide)]; exact hM) e m h
  exact ⟨q.1, Inv2_2 q.2 (fun c hc => fm_seen hc)⟩
