/-! ===== the law's start ===== -/
def m0 : jM := fun k => if k < 77 then m7 k else mM (k - 77)
def aOf (u v : Nat → Nat) : Nat → Nat := fun k => if k < 77 then u k else v (k - 77)
def d8 : List jC := [jo 8 [some 78, some 79, some 80, some 81, some 82, none, none, none, none, some 83, some 84, some 85, none, some 86, none, some 87, some 88, some 89, none, some 90, none, none, none, some 91, some 92, some 93, some 94, some 95, some 96, some 97, some 98, some 99, none, none],
    ji 0 6, ji 0 6, ji 0 36, ji 0 8, ji 0 8, ji 0 8, ji 0 8, ji 0 8, ji 0 60, ji 0 60, ji 0 60, ji 0 60, ji 0 60, ji 0 60, ji 0 6, ji 0 64, ji 0 9, jj 70, jj 70, jj 31, ji 0 200, ji 2 2]
theorem jCs_c7 : jCs = c7 ++ d8 := by
  unfold jCs c7 d8
  simp only [List.append_assoc]
set_option maxHeartbeats 4000000 in
set_option maxRecDepth 10000 in
theorem wA1 (g : Nat → ClassId) (u v : Nat → Nat) : kR c7 u g m7 l00 = kG (fun k sp => (aOf u v k, kEr (aOf u v) g m0 l00 k sp)) 0 c7 := rfl
set_option maxHeartbeats 4000000 in
set_option maxRecDepth 10000 in
theorem wA2 (g : Nat → ClassId) (u v : Nat → Nat) : kR cs8 v g mM l00 = kG (fun k sp => (aOf u v k, kEr (aOf u v) g m0 l00 k sp)) 77 d8 := rfl
theorem wA (g : Nat → ClassId) (u v : Nat → Nat) : kU c7 u g m7 l00 ++ kU cs8 v g mM l00 = kU jCs (aOf u v) g m0 l00 := by
  rw [kU_r, kU_r, kU_r, jCs_c7]
  unfold kR
  rw [kG_app]
  exact congr (congrArg _ (wA1 g u v)) (wA2 g u v)
theorem fl_in {v : Int32} {n i : Nat} (h : i < n) : fl v n i = v := if_pos h
theorem jrg_0 {h : Int} (hh : 0 ≤ h) : jrg 0 0 h := ⟨by decide, by rw [show (0 : Int32).toInt = 0 by decide]; exact hh⟩
theorem Inv0 : Inv2 m0 m0 := by
  refine ⟨⟨fun i hi => ?_, fun i hi => ?_, fun i j hi hj => ?_, fun i hi => ?_, fun i hi => ?_, ⟨rfl, jrg_0 (by decide)⟩, ⟨rfl, jrg_0 (by decide)⟩, rfl, rfl⟩, ⟨rfl, ⟨0, by decide, rfl⟩, fun i hi => ⟨rfl, jrg_0 (by decide), rfl, rfl⟩⟩, ⟨0, by decide, rfl, rfl, fun i hi => rfl⟩, ⟨rfl, Or.inl rfl⟩, ⟨rfl, Or.inl rfl⟩⟩
  · show fl 100 6 i = fl 100 6 i ∧ jrg (fl 100 6 i) 0 9999
    rw [fl_in hi]
    exact ⟨rfl, by unfold jrg; decide⟩
  · show fl 100 6 i = fl 100 6 i ∧ jrg (fl 100 6 i) 0 9999
    rw [fl_in hi]
    exact ⟨rfl, by unfold jrg; decide⟩
  · rcases (show i = 0 ∨ i = 1 ∨ i = 2 ∨ i = 3 ∨ i = 4 ∨ i = 5 by omega) with rfl | rfl | rfl | rfl | rfl | rfl <;> exact ⟨rfl, jrg_0 (by decide)⟩
  · show fl 100 8 i = fl 100 8 i ∧ jrg (fl 100 8 i) 1 999
    rw [fl_in hi]
    exact ⟨rfl, by unfold jrg; decide⟩
  · show jOwn (fl (-1) 8 i) (fl (-6) 8 i)
    rw [fl_in hi, fl_in hi]
    exact Or.inl ⟨rfl, rfl⟩
theorem ar_int {args : Array Value} {s : State} (h : (Cond.arrayClass .int).before args s = true) : ∃ cA, ArrOfT s cA .int ∧ va_RA s cA .int := by
  obtain ⟨c, k, comp, h1, h2, h3⟩ := Cond.arrayClass_spec h
  exact ⟨c, fun n z => ⟨fun k h => (by cases h), k, h2, comp, h3⟩, h1⟩
theorem ar_long {args : Array Value} {s : State} (h : (Cond.arrayClass .long).before args s = true) : ∃ cA, ArrOfT s cA .long ∧ va_RA s cA .long := by
  obtain ⟨c, k, comp, h1, h2, h3⟩ := Cond.arrayClass_spec h
  exact ⟨c, fun n z => ⟨fun k h => (by cases h), k, h2, comp, h3⟩, h1⟩
theorem ar_bool {args : Array Value} {s : State} (h : (Cond.arrayClass .boolean).before args s = true) : ∃ cA, ArrOfT s cA .boolean ∧ va_RA s cA .boolean := by
  obtain ⟨c, k, comp, h1, h2, h3⟩ := Cond.arrayClass_spec h
  exact ⟨c, fun n z => ⟨fun k h => (by cases h), k, h2, comp, h3⟩, h1⟩
theorem ar_arr {ty : FieldType} {s : State} (h : va_AOA ty s) : ∃ cA, ArrOfT s cA (.array ty) ∧ va_RA s cA (.array ty) := by
  obtain ⟨comp, c, k, h1, h2, h3, h4⟩ := mq_over h
  exact ⟨c, fun n z => ⟨fun k h => (by cases h), k, h2, comp, h3⟩, h4⟩
theorem ar_obj {C : String} {s : State} (h : va_AO C s) : ∃ cA, ArrOfT s cA (.object C) ∧ va_RA s cA (.object C) := by
  obtain ⟨comp, c, k, h1, h2, h3, h4, h5⟩ := Cond.arrayOver_spec h
  exact ⟨c, fun n z => ⟨fun k h => (by cases h), k, h3, comp, h4⟩, k, comp, h3, h4, h1, h5⟩

theorem tN_0 : Cond.methodLinkNest RX0 18 yX4_init RX7 ∈ lw_tbl := by decide +kernel
theorem tN_1 : Cond.methodLinkNest RX7 18 yX4_init RX7 ∈ lw_tbl := by decide +kernel
theorem tN_2 : Cond.methodLinkNest RX7 25 yX1_init RX7 ∈ lw_tbl := by decide +kernel
theorem tN_3 : Cond.methodLinkNest RX7 32 yX5_init RX7 ∈ lw_tbl := by decide +kernel
theorem tN_4 : Cond.methodLinkNest RX7 39 yX3_init RX7 ∈ lw_tbl := by decide +kernel
theorem tN_5 : Cond.methodLinkNest RX7 46 yX6_init RX7 ∈ lw_tbl := by decide +kernel
theorem tN_6 : Cond.methodLinkNest RX7 57 yX0_init RX7 ∈ lw_tbl := by decide +kernel
theorem tN_7 : Cond.methodLinkNest RX1 27 yX7_within RX7 ∈ lw_tbl := by decide +kernel
theorem tN_8 : Cond.methodLinkNest RX2 55 yX7_rateOf RX7 ∈ lw_tbl := by decide +kernel
theorem tA_0 : Cond.arrayOver (.object RX0) ∈ lw_tbl := by decide +kernel
theorem tA_1 : Cond.arrayOver (.array .int) ∈ lw_tbl := by decide +kernel
theorem tA_2 : Cond.arrayOver (.array .long) ∈ lw_tbl := by decide +kernel
theorem kN_of {args : Array Value} {s : State} (hts : ∀ w ∈ lw_tbl, w.before args s = true) : kN s := by
  refine ⟨⟨va_Nw.of rfl (hts _ tN_7), va_Nw.of rfl (hts _ tN_8)⟩, va_AO.of (hts _ tA_0), hts _ tA_1, hts _ tA_2, ?_⟩
  exact List.forall_mem_cons.mpr ⟨va_Nw.of rfl (hts _ tN_0), List.forall_mem_cons.mpr ⟨va_Nw.of rfl (hts _ tN_1), List.forall_mem_cons.mpr ⟨va_Nw.of rfl (hts _ tN_2), List.forall_mem_cons.mpr ⟨va_Nw.of rfl (hts _ tN_3), List.forall_mem_cons.mpr ⟨va_Nw.of rfl (hts _ tN_4), List.forall_mem_cons.mpr ⟨va_Nw.of rfl (hts _ tN_5), List.forall_mem_cons.mpr ⟨va_Nw.of rfl (hts _ tN_6), fun _ h => absurd h List.not_mem_nil⟩⟩⟩⟩⟩⟩⟩
theorem K_of {args : Array Value} {s : State} (hw : ∀ w ∈ wsL_law, w.before args s = true) (hN : kN s) : ∃ (D : va_G) (g : Nat → ClassId), va_K D vwCl (jT g) s := by
  obtain ⟨c0, i0, k0⟩ := u_known (C := RX0) (T := TX0) (N := 3) (n := 3) hw inlX0 (hw _ wm_2_14)
  obtain ⟨c1, i1, k1⟩ := u_known (C := RX1) (T := TX1) (N := 2) (n := 2) hw inlX1 (hw _ wm_1_21)
  obtain ⟨c2, i2, k2⟩ := u_known (C := RX2) (T := TX2) (N := 9) (n := 9) hw inlX2 (hw _ wm_1_13)
  obtain ⟨c3, i3, k3⟩ := u_known (C := RX3) (T := TX3) (N := 2) (n := 2) hw inlX3 (hw _ wm_2_5)
  obtain ⟨c4, i4, k4⟩ := u_known (C := RX4) (T := TX4) (N := 5) (n := 5) hw inlX4 (hw _ wm_1_17)
  obtain ⟨c5, i5, k5⟩ := u_known (C := RX5) (T := TX5) (N := 9) (n := 9) hw inlX5 (hw _ wm_2_1)
  obtain ⟨c6, i6, k6⟩ := u_known (C := RX6) (T := TX6) (N := 1) (n := 1) hw inlX6 (hw _ wm_2_9)
  obtain ⟨c7, i7, k7⟩ := u_known (C := RX7) (T := TX7) (N := 7) (n := 7) hw inlX7 (hw _ wm_1_1)
  obtain ⟨c8, i8, k8⟩ := u_known (C := RX8) (T := TX8) (N := 34) (n := 34) hw inlX8 (hw _ wm_1_4)
  obtain ⟨a0, A0⟩ := ar_int (hw _ wm_2_20)
  obtain ⟨a1, A1⟩ := ar_long (hw _ wm_4_5)
  obtain ⟨a2, A2⟩ := ar_bool (hw _ wm_5_16)
  obtain ⟨a3, A3⟩ := ar_arr hN.2.2.1
  obtain ⟨a4, A4⟩ := ar_arr hN.2.2.2.1
  obtain ⟨a5, A5⟩ := ar_obj hN.2.1
  refine ⟨(fun k => match k with | 0 => c0 | 1 => c1 | 2 => c2 | 3 => c3 | 4 => c4 | 5 => c5 | 6 => c6 | 7 => c7 | _ => c8, fun k => match k with | 0 => i0 | 1 => i1 | 2 => i2 | 3 => i3 | 4 => i4 | 5 => i5 | 6 => i6 | 7 => i7 | _ => i8), fun k => match k with | 0 => a0 | 1 => a1 | 2 => a2 | 3 => a3 | 4 => a4 | _ => a5, fun k q hq => ?_, fun k q hq => ?_⟩
  · match k, hq with
    | 0, hq => cases hq; exact k0
    | 1, hq => cases hq; exact k1
    | 2, hq => cases hq; exact k2
    | 3, hq => cases hq; exact k3
    | 4, hq => cases hq; exact k4
    | 5, hq => cases hq; exact k5
    | 6, hq => cases hq; exact k6
    | 7, hq => cases hq; exact k7
    | 8, hq => cases hq; exact k8
    | k + 9, hq => exact absurd hq (by simp)
  · match k, hq with
    | 0, hq => cases hq; exact A0
    | 1, hq => cases hq; exact A1
    | 2, hq => cases hq; exact A2
    | 3, hq => cases hq; exact A3
    | 4, hq => cases hq; exact A4
    | 5, hq => cases hq; exact A5
    | k + 6, hq => exact absurd hq (by simp)
set_option maxHeartbeats 4000000 in
theorem start_loop {p : Program} {e : Env} {s : State} {m : MethodId} {below : List Frame} {meth : Method} {c : Code} {l : Launch} {b L : Nat} {xs : Nat → Int32} {D : va_G} {g : Nat → ClassId} {ce sl : Nat} (hL : L ≤ 384) (C0 : lw_At p s m meth c b L xs) (hw : ∀ w ∈ wsL_law, w.before #[Value.ref b] s = true) (hK : va_K D vwCl (jT g) s) (hN : kN s) (hce : ce ≤ 600000) (hsl : sl ≤ 7302250) (u v : Nat → Nat) :
    Kj l D (fun q => s.heap.size ≤ q) (p, e, room_1, s, m, #[Value.ref b], below, meth, c, 600000, 7302250, lw_Z below #[Value.ref b] s) 4 (kU c7 u g m7 l00 ++ kU cs8 v g mM l00) ce sl 18 [(3, .int 0), (2, .ref (v 0)), (1, .ref (u 0)), (0, .ref b)] [] := by
  obtain ⟨hx, hb, hr, hml, hown, hts, hX, hbl, hlocks, hgv⟩ := C0
  intro H locs ls hP hD hS hl
  rw [wA, kU_j] at hP hD
  have at0 : ∀ k, k < 100 → ∃ sp, jCs[k]? = some sp := fun k hk => ⟨_, List.getElem?_eq_getElem (by rw [jCs_len]; exact hk)⟩
  have hinj : jInj (aOf u v) := by
    intro i j hi hj hij
    obtain ⟨si, ei⟩ := at0 i hi
    obtain ⟨sj, ej⟩ := at0 j hj
    exact hD.1 i j _ _ (jW_at ei) (jW_at ej) hij
  have hA : ∀ k, k < 100 → s.heap.size ≤ aOf u v k := by
    intro k hk
    obtain ⟨sp, ek⟩ := at0 k hk
    exact hD.2 k _ (jW_at ek)
  refine W.widen (k := 600000) (n := 7302250) hce hsl ?_
  refine va_forget (fun q hq => hS.2.2 q hq) ?_
  refine law_loop (a := aOf u v) (G := (p, e, room_1, s, m, #[Value.ref b], below, meth, c, 600000, 7302250, lw_Z below #[Value.ref b] s)) ⟨hx, hb, hml, hown, hw, hK, hN.1, hinj, rfl, rfl, Nat.le_refl _, Nat.le_refl _⟩ ⟨hX, hbl, hA⟩ ⟨rfl, rfl, rfl, rfl, rfl, hr, hlocks⟩ hL (L + 1) 0 m0 l00 (by omega) (Nat.zero_le _) Inv0 H [] ls hP ⟨hS.1, fun q h1 h2 => hS.2.1 q h1 (fun h3 => absurd h1 (Nat.not_lt.mpr h3)), fun _ h => by cases h⟩ (lv_sub hl [3, 2, 1, 0] rfl)
set_option maxHeartbeats 4000000 in
theorem whole_start {p : Program} {e : Env} {s : State} {m : MethodId} {below : List Frame} {meth : Method} {c : Code} (l : Launch) (hflags : l.flags = flags0) {b L : Nat} {xs : Nat → Int32} (hL : L ≤ 384) (C0 : lw_At p s m meth c b L xs) : W p l e room_1 s m #[Value.ref b] below meth c s.heap [] 0 0 (lw_Z below #[Value.ref b] s) (entryFrame m ([Value.ref b] : List Value).toArray 4) := by
  obtain ⟨hx, hb, hr, hml, hown, hts, hX, hbl, hlocks, hgv⟩ := id C0
  have hw : ∀ w ∈ wsL_law, w.before #[Value.ref b] s = true := fun w h => hts w (wsL_law_in w h)
  have hN : kN s := kN_of hts
  obtain ⟨D, g, hK⟩ := K_of hw hN
  have hl := lv_entry ([.ref b]) (n := 4) (Nat.le_of_ble_eq_true rfl)
  rw [lg_entry_eq]
  generalize (lg_sl ([.ref b]) ++ List.replicate (4 - (lg_sl ([.ref b])).length) Slot.unset).toArray = ls at hl ⊢
  have hl : lv_has ls 4 [(0, .ref b)] := hl
  have hKX : kX D (fun q => s.heap.size ≤ q) g (p, e, room_1, s, m, #[Value.ref b], below, meth, c, 600000, 7302250, lw_Z below #[Value.ref b] s) RL cL_law 4 10 356 600000 7302250 := ⟨hx, hb, hml, hown, hw, hK, hN, fun q h => h, rfl, rfl, rfl, rfl⟩
  have key : Kj l D (fun q => s.heap.size ≤ q) (p, e, room_1, s, m, #[Value.ref b], below, meth, c, 600000, 7302250, lw_Z below #[Value.ref b] s) 4 [] 0 0 0 [(0, .ref b)] [] := by
    refine K_new (ci := 7) (fs := z7) hKX tyX7 inlX7 tyX7_ok wm_1_0 wm_1_1 wm_1_2 rfl (fun j hj => by rcases (show j = 0 ∨ j = 1 ∨ j = 2 ∨ j = 3 ∨ j = 4 ∨ j = 5 ∨ j = 6 by omega) with rfl | rfl | rfl | rfl | rfl | rfl | rfl <;> rfl) (Nat.le_of_ble_eq_true rfl) (Nat.le_of_ble_eq_true rfl) dL_law_0 (fun q => ?_)
    refine K_dup hKX dL_law_3 rfl ?_
    refine K_callE (w := []) hKX (c_X7_init l D g) wm_1_6 wm_1_7 wm_1_2 wm_1_8 rfl ⟨by decide +kernel, by decide +kernel, by decide +kernel⟩ (Nat.le_of_ble_eq_true rfl) (Nat.le_of_ble_eq_true rfl) (Nat.le_of_ble_eq_true rfl) (Nat.le_of_ble_eq_true rfl) (Nat.le_of_ble_eq_true rfl) dL_law_4 (fun u hu => ?_)
    subst hu
    refine K_cg (ws' := kU c7 u g m7 l00) (List.nil_append _) rfl rfl ?_
    refine K_astore_n (loc' := [(1, .ref (u 0)), (0, .ref b)]) hKX dL_law_7 (by decide) rfl ?_
    refine K_new (ci := 8) (fs := z8) hKX tyX8 inlX8 tyX8_ok wm_1_3 wm_1_4 wm_1_5 rfl (fun j hj => by rcases (show j = 0 ∨ j = 1 ∨ j = 2 ∨ j = 3 ∨ j = 4 ∨ j = 5 ∨ j = 6 ∨ j = 7 ∨ j = 8 ∨ j = 9 ∨ j = 10 ∨ j = 11 ∨ j = 12 ∨ j = 13 ∨ j = 14 ∨ j = 15 ∨ j = 16 ∨ j = 17 ∨ j = 18 ∨ j = 19 ∨ j = 20 ∨ j = 21 ∨ j = 22 ∨ j = 23 ∨ j = 24 ∨ j = 25 ∨ j = 26 ∨ j = 27 ∨ j = 28 ∨ j = 29 ∨ j = 30 ∨ j = 31 ∨ j = 32 ∨ j = 33 by omega) with rfl | rfl | rfl | rfl | rfl | rfl | rfl | rfl | rfl | rfl | rfl | rfl | rfl | rfl | rfl | rfl | rfl | rfl | rfl | rfl | rfl | rfl | rfl | rfl | rfl | rfl | rfl | rfl | rfl | rfl | rfl | rfl | rfl | rfl <;> rfl) (Nat.le_of_ble_eq_true rfl) (Nat.le_of_ble_eq_true rfl) dL_law_8 (fun q => ?_)
    refine K_dup hKX dL_law_11 rfl ?_
    refine K_callE (w := kU c7 u g m7 l00) hKX (c_X8_init l D g) wm_4_15 wm_4_16 wm_1_5 wm_4_17 rfl ⟨by decide +kernel, by decide +kernel, by decide +kernel⟩ (Nat.le_of_ble_eq_true rfl) (Nat.le_of_ble_eq_true rfl) (Nat.le_of_ble_eq_true rfl) (Nat.le_of_ble_eq_true rfl) (Nat.le_of_ble_eq_true rfl) dL_law_12 (fun v hv => ?_)
    subst hv
    refine K_astore_n (loc' := [(2, .ref (v 0)), (1, .ref (u 0)), (0, .ref b)]) hKX dL_law_15 (by decide) rfl ?_
    refine K_iconst (v := 0) hKX dL_law_16 (by decide) ?_
    refine K_istore_n (loc' := [(3, .int 0), (2, .ref (v 0)), (1, .ref (u 0)), (0, .ref b)]) hKX dL_law_17 (by decide) rfl ?_
    exact start_loop hL C0 hw hK hN (Nat.le_of_ble_eq_true rfl) (Nat.le_of_ble_eq_true rfl) u v
  exact key s.heap [] ls (fun k q h => by simp at h) ⟨fun i j p q h => by simp at h, fun k q h => by simp at h⟩ va_S.rf hl
