def m_frL (c : Nat) (L L' : jL) : Prop := ∀ k, k ≠ c → L' k = L k
theorem m_frL.u {c : Nat} {L L' : jL} {i : Nat} {v : Int64} (h : m_frL c L L') : m_frL c L (jUL L' c i v) := fun k hk => by rw [jUL_ne hk]; exact h k hk
theorem m_pas : ∀ m, m < 30 → ∀ j, j < 30 → x_ch (m + 1) (j + 1) = x_ch m (j + 1) + x_ch m j := by decide +kernel
theorem m_ch0 (m : Nat) : x_ch m 0 = 1 := by unfold x_ch; rw [if_pos (Nat.zero_le m)]; rfl
theorem m_ch00 {e : Nat} (h : e ≠ 0) : x_ch 0 e = 0 := by unfold x_ch; rw [if_neg (by omega)]
theorem nI_m1 {e : Nat} (h : 0 < e) : nI e + Int32.ofInt (-1) = nI (e - 1) := by
  rw [show e = (e - 1) + 1 by omega]
  exact pk_m1 _
set_option maxHeartbeats 4000000 in
set_option maxRecDepth 10000 in
theorem c_X8_chooseOf (l : Launch) (D : va_G) (a : Nat → Nat) (g : Nat → ClassId) (M : jM) (L : jL) (n k : Nat) (hn : n ≤ 30) (hk : k ≤ 30)  : jV l D a g yX8_chooseOf cX8_chooseOf 5 (some .long) 0 0 [.ref (a 77), .int (nI n), .int (nI k)] M L (fun rv M1 L1 => rv = some (.long (lN (x_ch n k))) ∧ M1 = M ∧ m_frL 97 L L1) := by
  refine jMeth (by decide) (Nat.le_of_ble_eq_true rfl) ?_
  intro G hX hZ
  refine J_cg (loc' := [(0, .ref (a 77)), (1, .int (nI n)), (2, .int (nI k))]) rfl rfl rfl rfl ?_
  refine J_iconst (v := 0) hX dX8_chooseOf_0 (by decide) ?_
  refine J_istore_n (loc' := [(3, .int 0), (0, .ref (a 77)), (1, .int (nI n)), (2, .int (nI k))]) hX dX8_chooseOf_1 (by decide) rfl ?_
  have key2 : ∀ (fu2 : Nat) (e : Nat) (L' : jL), 31 - e < fu2 → (e ≤ 31) → (∀ j, j < e → L' 97 j = lN (x_ch 0 j)) → (m_frL 97 L L') → J l D a g G 5 M L' 2 [(0, .ref (a 77)), (1, .int (nI n)), (2, .int (nI k)), (3, .int (nI e))] [] := by
    intro fu2
    induction fu2 with
    | zero => intro e L' hmu; exact absurd hmu (Nat.not_lt_zero _)
    | succ fu2 ih2 =>
      intro e L' hmu2 he hl hF
      refine J_iload_n hX 3 dX8_chooseOf_2 rfl ?_
      refine J_bipush (v := 30) hX dX8_chooseOf_3 (by decide) ?_
      refine J_cmpN_gt hX 29 e 30 dX8_chooseOf_5 (by decide) rfl rfl (by omega) (by omega) (fun h5 => ?_) (fun h5 => ?_)
      · skip
        refine J_iconst (v := 0) hX dX8_chooseOf_29 (by decide) ?_
        refine J_istore_n (loc' := [(3, .int 0), (0, .ref (a 77)), (1, .int (nI n)), (2, .int (nI k))]) hX dX8_chooseOf_30 (by decide) rfl ?_
        have key31 : ∀ (fu31 : Nat) (m : Nat) (L1 : jL), n - m < fu31 → (m ≤ n) → (∀ j, j ≤ 30 → L1 97 j = lN (x_ch m j)) → (m_frL 97 L L1) → J l D a g G 5 M L1 31 [(0, .ref (a 77)), (1, .int (nI n)), (2, .int (nI k)), (3, .int (nI m))] [] := by
          intro fu31
          induction fu31 with
          | zero => intro m L1 hmu; exact absurd hmu (Nat.not_lt_zero _)
          | succ fu31 ih31 =>
            intro m L1 hmu31 hm hc hG
            refine J_iload_n hX 3 dX8_chooseOf_31 rfl ?_
            refine J_iload_n hX 1 dX8_chooseOf_32 rfl ?_
            refine J_cmpN_ge hX 76 m n dX8_chooseOf_33 (by decide) rfl rfl (by omega) (by omega) (fun h33 => ?_) (fun h33 => ?_)
            · skip
              refine J_aload_n hX 0 dX8_chooseOf_76 rfl ?_
              refine J_getr hX 77 29 dX8_chooseOf_77 jc_77 rfl rfl (by decide) inlX8 wm_5_14 ?_
              refine J_iload_n hX 2 dX8_chooseOf_80 rfl ?_
              refine J_lald hX 97 k dX8_chooseOf_81 jc_97 rfl (by omega) (by omega) ?_
              exact J_lret hX hZ dX8_chooseOf_82 ⟨by rw [hc k hk, show m = n by omega], rfl, hG⟩
            · skip
              refine J_bipush (v := 30) hX dX8_chooseOf_36 (by decide) ?_
              refine J_istore (loc' := [(4, .int 30), (0, .ref (a 77)), (1, .int (nI n)), (2, .int (nI k)), (3, .int (nI m))]) hX dX8_chooseOf_38 (by decide) rfl ?_
              have key40 : ∀ (fu40 : Nat) (c : Nat) (L2 : jL), 30 - c < fu40 → (c ≤ 30) → (∀ j, j ≤ 30 → L2 97 j = lN (x_ch (if 30 - c < j then m + 1 else m) j)) → (m_frL 97 L L2) → J l D a g G 5 M L2 40 [(0, .ref (a 77)), (1, .int (nI n)), (2, .int (nI k)), (3, .int (nI m)), (4, .int (nI (30 - c)))] [] := by
                intro fu40
                induction fu40 with
                | zero => intro c L2 hmu; exact absurd hmu (Nat.not_lt_zero _)
                | succ fu40 ih40 =>
                  intro c L2 hmu40 hcc hz hH
                  refine J_iload hX 4 dX8_chooseOf_40 rfl ?_
                  refine J_if_le hX 70 dX8_chooseOf_42 (by decide) (fun h42 => ?_) (fun h42 => ?_)
                  · skip
                    have c30 : c = 30 := by rcases Nat.lt_or_ge c 30 with q | q; (exact absurd h42 (nI_nle (by omega) (by omega))); (omega)
                    refine J_iinc (v := nI (m + 1)) (loc' := [(3, .int (nI (m + 1))), (0, .ref (a 77)), (1, .int (nI n)), (2, .int (nI k)), (4, .int (nI (30 - c)))]) hX 3 dX8_chooseOf_70 rfl (jinc m) (by decide) rfl ?_
                    refine J_goto hX 31 dX8_chooseOf_73 (by decide) ?_
                    refine J_sub (loc' := [(0, .ref (a 77)), (1, .int (nI n)), (2, .int (nI k)), (3, .int (nI (m + 1)))]) [1, 2, 3, 0] rfl ?_
                    exact ih31  (m + 1) L2 (by omega) (by omega) (fun j hj => by rw [hz j hj]; by_cases q : j = 0; (subst q; rw [m_ch0, m_ch0]); (rw [if_pos (by omega)])) hH
                  · skip
                    have c30 : c < 30 := by rcases Nat.lt_or_ge c 30 with q | q; (exact q); (exact absurd (show nI (30 - c) ≤ 0 by rw [show 30 - c = 0 by omega]; decide) h42)
                    refine J_aload_n hX 0 dX8_chooseOf_45 rfl ?_
                    refine J_getr hX 77 29 dX8_chooseOf_46 jc_77 rfl rfl (by decide) inlX8 wm_5_14 ?_
                    refine J_iload hX 4 dX8_chooseOf_49 rfl ?_
                    refine J_dup2 hX dX8_chooseOf_51 rfl rfl ?_
                    refine J_lald hX 97 (30 - c) dX8_chooseOf_52 jc_97 rfl (by omega) (by omega) ?_
                    refine J_topl (y := lN (x_ch m (30 - c))) (by rw [hz _ (by omega), if_neg (by omega)]) ?_
                    refine J_aload_n hX 0 dX8_chooseOf_53 rfl ?_
                    refine J_getr hX 77 29 dX8_chooseOf_54 jc_77 rfl rfl (by decide) inlX8 wm_5_14 ?_
                    refine J_iload hX 4 dX8_chooseOf_57 rfl ?_
                    refine J_iconst (v := 1) hX dX8_chooseOf_59 (by decide) ?_
                    refine J_isub hX dX8_chooseOf_60 ?_
                    refine J_topi (y := nI (30 - c - 1)) (by rw [show 30 - c = (30 - c - 1) + 1 by omega, nI_pred]; rfl) ?_
                    refine J_lald hX 97 (30 - c - 1) dX8_chooseOf_61 jc_97 rfl (by omega) (by omega) ?_
                    refine J_topl (y := lN (x_ch m (30 - c - 1))) (by rw [hz _ (by omega), if_neg (by omega)]) ?_
                    refine J_ladd hX dX8_chooseOf_62 ?_
                    refine J_topl (y := lN (x_ch (m + 1) (30 - c))) (by have q := m_pas m (by omega) (30 - c - 1) (by omega); rw [show 30 - c - 1 + 1 = 30 - c by omega] at q; rw [q]; exact lN_add _ _) ?_
                    refine J_last hX 97 (30 - c) dX8_chooseOf_63 jc_97 rfl (by omega) (by omega) ?_
                    refine J_iinc (v := nI (30 - (c + 1))) (loc' := [(4, .int (nI (30 - (c + 1)))), (0, .ref (a 77)), (1, .int (nI n)), (2, .int (nI k)), (3, .int (nI m))]) hX 4 dX8_chooseOf_64 rfl (nI_m1 (by omega)) (by decide) rfl ?_
                    refine J_goto hX 40 dX8_chooseOf_67 (by decide) ?_
                    refine J_sub (loc' := [(0, .ref (a 77)), (1, .int (nI n)), (2, .int (nI k)), (3, .int (nI m)), (4, .int (nI (30 - (c + 1))))]) [1, 2, 3, 4, 0] rfl ?_
                    refine J_cg (M' := M) (L' := (jUL L2 97 (30 - c) (lN (x_ch (m + 1) (30 - c))))) rfl rfl rfl rfl ?_
                    exact ih40  (c + 1) (jUL L2 97 (30 - c) (lN (x_ch (m + 1) (30 - c)))) (by omega) (by omega) (fun j hj => by by_cases q : j = 30 - c; (subst q; rw [jUL_same, if_pos (by omega)]); (rw [jUL_slot q, hz j hj]; by_cases w : 30 - c < j; (rw [if_pos w, if_pos (by omega)]); (rw [if_neg w, if_neg (by omega)]))) hH.u
              refine J_sub (loc' := [(0, .ref (a 77)), (1, .int (nI n)), (2, .int (nI k)), (3, .int (nI m)), (4, .int 30)]) [1, 2, 3, 4, 0] rfl ?_
              refine J_seti (y := nI (30 - 0)) (loc' := [(0, .ref (a 77)), (1, .int (nI n)), (2, .int (nI k)), (3, .int (nI m)), (4, .int (nI (30 - 0)))]) 4 rfl rfl rfl ?_
              exact key40 _ 0 L1 (Nat.lt_succ_self _) (by omega) (fun j h => by rw [if_neg (by omega)]; exact hc j h) hG
        refine J_sub (loc' := [(0, .ref (a 77)), (1, .int (nI n)), (2, .int (nI k)), (3, .int 0)]) [1, 2, 3, 0] rfl ?_
        refine J_seti (y := nI 0) (loc' := [(0, .ref (a 77)), (1, .int (nI n)), (2, .int (nI k)), (3, .int (nI 0))]) 3 rfl rfl rfl ?_
        exact key31 _ 0 L' (Nat.lt_succ_self _) (by omega) (fun j h => hl j (by omega)) hF
      · skip
        refine J_aload_n hX 0 dX8_chooseOf_8 rfl ?_
        refine J_getr hX 77 29 dX8_chooseOf_9 jc_77 rfl rfl (by decide) inlX8 wm_5_14 ?_
        refine J_iload_n hX 3 dX8_chooseOf_12 rfl ?_
        refine J_iload_n hX 3 dX8_chooseOf_13 rfl ?_
        refine J_if_ne hX 21 dX8_chooseOf_14 (by decide) (fun h14 => ?_) (fun h14 => ?_)
        · skip
          refine J_lconst (v := 0) hX dX8_chooseOf_21 (by decide) ?_
          refine J_topl (y := lN (x_ch 0 e)) (by rw [m_ch00 (fun q => h14 (by rw [q]; rfl))]; rfl) ?_
          refine J_last hX 97 e dX8_chooseOf_22 jc_97 rfl (by omega) (by omega) ?_
          refine J_iinc (v := nI (e + 1)) (loc' := [(3, .int (nI (e + 1))), (0, .ref (a 77)), (1, .int (nI n)), (2, .int (nI k))]) hX 3 dX8_chooseOf_23 rfl (jinc e) (by decide) rfl ?_
          refine J_goto hX 2 dX8_chooseOf_26 (by decide) ?_
          refine J_sub (loc' := [(0, .ref (a 77)), (1, .int (nI n)), (2, .int (nI k)), (3, .int (nI (e + 1)))]) [1, 2, 3, 0] rfl ?_
          refine J_cg (M' := M) (L' := (jUL L' 97 e (lN (x_ch 0 e)))) rfl rfl rfl rfl ?_
          exact ih2  (e + 1) (jUL L' 97 e (lN (x_ch 0 e))) (by omega) (by omega) (fun j hj => by by_cases q : j = e; (subst q; exact jUL_same); (rw [jUL_slot q]; exact hl j (by omega))) hF.u
        · skip
          refine J_lconst (v := 1) hX dX8_chooseOf_17 (by decide) ?_
          refine J_goto hX 22 dX8_chooseOf_18 (by decide) ?_
          refine J_topl (y := lN (x_ch 0 e)) (by rw [(nI_eq (by omega) (by omega)).mp (show nI e = nI 0 by first | exact h14 | exact Classical.not_not.mp h14)]; rfl) ?_
          refine J_last hX 97 e dX8_chooseOf_22 jc_97 rfl (by omega) (by omega) ?_
          refine J_iinc (v := nI (e + 1)) (loc' := [(3, .int (nI (e + 1))), (0, .ref (a 77)), (1, .int (nI n)), (2, .int (nI k))]) hX 3 dX8_chooseOf_23 rfl (jinc e) (by decide) rfl ?_
          refine J_goto hX 2 dX8_chooseOf_26 (by decide) ?_
          refine J_sub (loc' := [(0, .ref (a 77)), (1, .int (nI n)), (2, .int (nI k)), (3, .int (nI (e + 1)))]) [1, 2, 3, 0] rfl ?_
          refine J_cg (M' := M) (L' := (jUL L' 97 e (lN (x_ch 0 e)))) rfl rfl rfl rfl ?_
          exact ih2  (e + 1) (jUL L' 97 e (lN (x_ch 0 e))) (by omega) (by omega) (fun j hj => by by_cases q : j = e; (subst q; exact jUL_same); (rw [jUL_slot q]; exact hl j (by omega))) hF.u
  refine J_sub (loc' := [(0, .ref (a 77)), (1, .int (nI n)), (2, .int (nI k)), (3, .int 0)]) [1, 2, 3, 0] rfl ?_
  refine J_seti (y := nI 0) (loc' := [(0, .ref (a 77)), (1, .int (nI n)), (2, .int (nI k)), (3, .int (nI 0))]) 3 rfl rfl rfl ?_
  exact key2 _ 0 L (Nat.lt_succ_self _) (by omega) (fun c h => absurd h (Nat.not_lt_zero c)) (fun _ _ => rfl)
set_option maxHeartbeats 4000000 in
set_option maxRecDepth 10000 in
theorem c_X8_sample (l : Launch) (D : va_G) (a : Nat → Nat) (g : Nat → ClassId) (M : jM) (L : jL) (n f k j p : Int32)  : jV l D a g yX8_sample cX8_sample 6 (some .long) 1 30 [.ref (a 77), .int n, .int f, .int k, .int j, .int p] M L (fun rv M1 L1 => rv = some (.long (x_sample n f k j p)) ∧ M1 = M ∧ m_frL 97 L L1) := by
  refine jMeth (by decide) (Nat.le_of_ble_eq_true rfl) ?_
  intro G hX hZ
  refine J_cg (loc' := [(0, .ref (a 77)), (1, .int n), (2, .int f), (3, .int k), (4, .int j), (5, .int p)]) rfl rfl rfl rfl ?_
  refine J_iload_n hX 1 dX8_sample_0 rfl ?_
  refine J_i2l hX dX8_sample_1 ?_
  refine J_lconst (v := 1) hX dX8_sample_2 (by decide) ?_
  refine J_ldc2 hX dX8_sample_3 wm_27_11 ?_
  refine J_callS hX [.long (Int32.toInt64 n), .long (1 : Int64), .long (30 : Int64)] [] dX8_sample_6 (c_X8_in l D a g M L n (1 : Int64) (30 : Int64)) lk_X8_80 rfl rfl (Nat.le_of_ble_eq_true rfl) (Nat.le_of_ble_eq_true rfl) (Nat.le_of_ble_eq_true rfl) (J_eq (st := [.int (jB (1 ≤ n.toInt ∧ n.toInt ≤ 30))]) rfl ?_)
  refine J_ifB_eq hX 57 dX8_sample_9 (by decide) (fun h9 => ?_) (fun h9 => ?_)
  · skip
    refine J_ldc2 hX dX8_sample_57 wm_26_20 ?_
    exact J_lret hX hZ dX8_sample_60 ⟨by rw [x_sample]; (first | rw [if_pos h9] | rw [if_neg h9] | skip), rfl, fun _ _ => rfl⟩
  · skip
    refine J_iload_n hX 2 dX8_sample_12 rfl ?_
    refine J_i2l hX dX8_sample_13 ?_
    refine J_lconst (v := 0) hX dX8_sample_14 (by decide) ?_
    refine J_iload_n hX 1 dX8_sample_15 rfl ?_
    refine J_i2l hX dX8_sample_16 ?_
    refine J_callS hX [.long (Int32.toInt64 f), .long (0 : Int64), .long (Int32.toInt64 n)] [] dX8_sample_17 (c_X8_in l D a g M L f (0 : Int64) (Int32.toInt64 n)) lk_X8_80 rfl rfl (Nat.le_of_ble_eq_true rfl) (Nat.le_of_ble_eq_true rfl) (Nat.le_of_ble_eq_true rfl) (J_eq (st := [.int (jB (0 ≤ f.toInt ∧ f.toInt ≤ (Int32.toInt64 n).toInt))]) rfl ?_)
    refine J_topi (y := jB (0 ≤ f.toInt ∧ f.toInt ≤ n.toInt)) (by simp only [Int32.toInt_toInt64]) ?_
    refine J_ifB_eq hX 57 dX8_sample_20 (by decide) (fun h20 => ?_) (fun h20 => ?_)
    · skip
      refine J_ldc2 hX dX8_sample_57 wm_26_20 ?_
      exact J_lret hX hZ dX8_sample_60 ⟨by rw [x_sample]; (first | rw [if_pos h9] | rw [if_neg h9] | skip); (first | rw [if_pos h20] | rw [if_neg h20] | skip), rfl, fun _ _ => rfl⟩
    · skip
      refine J_iload_n hX 3 dX8_sample_23 rfl ?_
      refine J_i2l hX dX8_sample_24 ?_
      refine J_lconst (v := 0) hX dX8_sample_25 (by decide) ?_
      refine J_iload_n hX 1 dX8_sample_26 rfl ?_
      refine J_i2l hX dX8_sample_27 ?_
      refine J_callS hX [.long (Int32.toInt64 k), .long (0 : Int64), .long (Int32.toInt64 n)] [] dX8_sample_28 (c_X8_in l D a g M L k (0 : Int64) (Int32.toInt64 n)) lk_X8_80 rfl rfl (Nat.le_of_ble_eq_true rfl) (Nat.le_of_ble_eq_true rfl) (Nat.le_of_ble_eq_true rfl) (J_eq (st := [.int (jB (0 ≤ k.toInt ∧ k.toInt ≤ (Int32.toInt64 n).toInt))]) rfl ?_)
      refine J_topi (y := jB (0 ≤ k.toInt ∧ k.toInt ≤ n.toInt)) (by simp only [Int32.toInt_toInt64]) ?_
      refine J_ifB_eq hX 57 dX8_sample_31 (by decide) (fun h31 => ?_) (fun h31 => ?_)
      · skip
        refine J_ldc2 hX dX8_sample_57 wm_26_20 ?_
        exact J_lret hX hZ dX8_sample_60 ⟨by rw [x_sample]; (first | rw [if_pos h9] | rw [if_neg h9] | skip); (first | rw [if_pos h20] | rw [if_neg h20] | skip); (first | rw [if_pos h31] | rw [if_neg h31] | skip), rfl, fun _ _ => rfl⟩
      · skip
        refine J_iload hX 4 dX8_sample_34 rfl ?_
        refine J_i2l hX dX8_sample_36 ?_
        refine J_lconst (v := 0) hX dX8_sample_37 (by decide) ?_
        refine J_iload_n hX 3 dX8_sample_38 rfl ?_
        refine J_i2l hX dX8_sample_39 ?_
        refine J_callS hX [.long (Int32.toInt64 j), .long (0 : Int64), .long (Int32.toInt64 k)] [] dX8_sample_40 (c_X8_in l D a g M L j (0 : Int64) (Int32.toInt64 k)) lk_X8_80 rfl rfl (Nat.le_of_ble_eq_true rfl) (Nat.le_of_ble_eq_true rfl) (Nat.le_of_ble_eq_true rfl) (J_eq (st := [.int (jB (0 ≤ j.toInt ∧ j.toInt ≤ (Int32.toInt64 k).toInt))]) rfl ?_)
        refine J_topi (y := jB (0 ≤ j.toInt ∧ j.toInt ≤ k.toInt)) (by simp only [Int32.toInt_toInt64]) ?_
        refine J_ifB_eq hX 57 dX8_sample_43 (by decide) (fun h43 => ?_) (fun h43 => ?_)
        · skip
          refine J_ldc2 hX dX8_sample_57 wm_26_20 ?_
          exact J_lret hX hZ dX8_sample_60 ⟨by rw [x_sample]; (first | rw [if_pos h9] | rw [if_neg h9] | skip); (first | rw [if_pos h20] | rw [if_neg h20] | skip); (first | rw [if_pos h31] | rw [if_neg h31] | skip); (first | rw [if_pos h43] | rw [if_neg h43] | skip), rfl, fun _ _ => rfl⟩
        · skip
          refine J_iload hX 5 dX8_sample_46 rfl ?_
          refine J_i2l hX dX8_sample_48 ?_
          refine J_lconst (v := 0) hX dX8_sample_49 (by decide) ?_
          refine J_lconst (v := 1) hX dX8_sample_50 (by decide) ?_
          refine J_callS hX [.long (Int32.toInt64 p), .long (0 : Int64), .long (1 : Int64)] [] dX8_sample_51 (c_X8_in l D a g M L p (0 : Int64) (1 : Int64)) lk_X8_80 rfl rfl (Nat.le_of_ble_eq_true rfl) (Nat.le_of_ble_eq_true rfl) (Nat.le_of_ble_eq_true rfl) (J_eq (st := [.int (jB (0 ≤ p.toInt ∧ p.toInt ≤ 1))]) rfl ?_)
          refine J_ifB_ne hX 61 dX8_sample_54 (by decide) (fun h54 => ?_) (fun h54 => ?_)
          · skip
            have in_ : n = nI n.toNatClampNeg := jix (b := 30) ⟨by omega, h9.2⟩
            have ln := jixl (o := n) (b := 30) ⟨by omega, h9.2⟩
            have if' := jix h20
            have lf := jixl h20
            have ik := jix h31
            have lk := jixl h31
            have ij := jix h43
            have lj := jixl h43
            have e1 := jle h20.2
            have e2 := jle h31.2
            have e3 := jle h43.2
            refine J_seti (y := nI n.toNatClampNeg) (loc' := [(0, .ref (a 77)), (1, .int (nI n.toNatClampNeg)), (2, .int f), (3, .int k), (4, .int j), (5, .int p)]) 1 rfl in_ rfl ?_
            refine J_seti (y := nI f.toNatClampNeg) (loc' := [(0, .ref (a 77)), (1, .int (nI n.toNatClampNeg)), (2, .int (nI f.toNatClampNeg)), (3, .int k), (4, .int j), (5, .int p)]) 2 rfl if' rfl ?_
            refine J_seti (y := nI k.toNatClampNeg) (loc' := [(0, .ref (a 77)), (1, .int (nI n.toNatClampNeg)), (2, .int (nI f.toNatClampNeg)), (3, .int (nI k.toNatClampNeg)), (4, .int j), (5, .int p)]) 3 rfl ik rfl ?_
            refine J_seti (y := nI j.toNatClampNeg) (loc' := [(0, .ref (a 77)), (1, .int (nI n.toNatClampNeg)), (2, .int (nI f.toNatClampNeg)), (3, .int (nI k.toNatClampNeg)), (4, .int (nI j.toNatClampNeg)), (5, .int p)]) 4 rfl ij rfl ?_
            refine J_aload_n hX 0 dX8_sample_61 rfl ?_
            refine J_iload_n hX 2 dX8_sample_62 rfl ?_
            refine J_iload hX 4 dX8_sample_63 rfl ?_
            refine J_callV hX 77 [.int (nI f.toNatClampNeg), .int (nI j.toNatClampNeg)] [] dX8_sample_65 (c_X8_chooseOf l D a g M L f.toNatClampNeg j.toNatClampNeg (by omega) (by omega)) lk_X8_270 jc_77 rfl rfl rfl (Nat.le_of_ble_eq_true rfl) (Nat.le_of_ble_eq_true rfl) (Nat.le_of_ble_eq_true rfl) (fun rv65 M65 L65 hp65 => ?_)
            obtain ⟨rfl, eM, hF65⟩ := hp65
            have eM := eM.symm
            subst eM
            refine J_cg (st' := [.long (lN (x_ch f.toNatClampNeg j.toNatClampNeg))]) rfl rfl rfl rfl ?_
            refine J_aload_n hX 0 dX8_sample_68 rfl ?_
            refine J_iload_n hX 1 dX8_sample_69 rfl ?_
            refine J_iload_n hX 2 dX8_sample_70 rfl ?_
            refine J_isub hX dX8_sample_71 ?_
            refine J_topi (y := nI (n.toNatClampNeg - f.toNatClampNeg)) (pk_sub e1) ?_
            refine J_iload_n hX 3 dX8_sample_72 rfl ?_
            refine J_iload hX 4 dX8_sample_73 rfl ?_
            refine J_isub hX dX8_sample_75 ?_
            refine J_topi (y := nI (k.toNatClampNeg - j.toNatClampNeg)) (pk_sub e3) ?_
            refine J_callV hX 77 [.int (nI (n.toNatClampNeg - f.toNatClampNeg)), .int (nI (k.toNatClampNeg - j.toNatClampNeg))] [.long (lN (x_ch f.toNatClampNeg j.toNatClampNeg))] dX8_sample_76 (c_X8_chooseOf l D a g M L65 (n.toNatClampNeg - f.toNatClampNeg) (k.toNatClampNeg - j.toNatClampNeg) (by omega) (by omega)) lk_X8_270 jc_77 rfl rfl rfl (Nat.le_of_ble_eq_true rfl) (Nat.le_of_ble_eq_true rfl) (Nat.le_of_ble_eq_true rfl) (fun rv76 M76 L76 hp76 => ?_)
            obtain ⟨rfl, eM, hF76⟩ := hp76
            have eM := eM.symm
            subst eM
            refine J_cg (st' := [.long (lN (x_ch (n.toNatClampNeg - f.toNatClampNeg) (k.toNatClampNeg - j.toNatClampNeg))), .long (lN (x_ch f.toNatClampNeg j.toNatClampNeg))]) rfl rfl rfl rfl ?_
            refine J_lmul hX dX8_sample_79 ?_
            refine J_topl (y := lN (x_ch f.toNatClampNeg j.toNatClampNeg * x_ch (n.toNatClampNeg - f.toNatClampNeg) (k.toNatClampNeg - j.toNatClampNeg))) (lN_mul _ _) ?_
            refine J_aload_n hX 0 dX8_sample_80 rfl ?_
            refine J_iload_n hX 1 dX8_sample_81 rfl ?_
            refine J_iload_n hX 3 dX8_sample_82 rfl ?_
            refine J_callV hX 77 [.int (nI n.toNatClampNeg), .int (nI k.toNatClampNeg)] [.long (lN (x_ch f.toNatClampNeg j.toNatClampNeg * x_ch (n.toNatClampNeg - f.toNatClampNeg) (k.toNatClampNeg - j.toNatClampNeg)))] dX8_sample_83 (c_X8_chooseOf l D a g M L76 n.toNatClampNeg k.toNatClampNeg (by omega) (by omega)) lk_X8_270 jc_77 rfl rfl rfl (Nat.le_of_ble_eq_true rfl) (Nat.le_of_ble_eq_true rfl) (Nat.le_of_ble_eq_true rfl) (fun rv83 M83 L83 hp83 => ?_)
            obtain ⟨rfl, eM, hF83⟩ := hp83
            have eM := eM.symm
            subst eM
            refine J_cg (st' := [.long (lN (x_ch n.toNatClampNeg k.toNatClampNeg)), .long (lN (x_ch f.toNatClampNeg j.toNatClampNeg * x_ch (n.toNatClampNeg - f.toNatClampNeg) (k.toNatClampNeg - j.toNatClampNeg)))]) rfl rfl rfl rfl ?_
            refine J_iload hX 5 dX8_sample_86 rfl ?_
            refine J_callS hX [.long (lN (x_ch f.toNatClampNeg j.toNatClampNeg * x_ch (n.toNatClampNeg - f.toNatClampNeg) (k.toNatClampNeg - j.toNatClampNeg))), .long (lN (x_ch n.toNatClampNeg k.toNatClampNeg)), .int p] [] dX8_sample_88 (c_X8_lowest l D a g M L83 (x_ch f.toNatClampNeg j.toNatClampNeg * x_ch (n.toNatClampNeg - f.toNatClampNeg) (k.toNatClampNeg - j.toNatClampNeg)) (x_ch n.toNatClampNeg k.toNatClampNeg) (x_chm (x_ch_lt (by omega) (by omega)) (x_ch_lt (by omega) (by omega))) (Nat.lt_trans (x_ch_lt (by omega) (by omega)) (by decide)) (x_ch_pos (by omega) e2) p) lk_X8_264 rfl rfl (Nat.le_of_ble_eq_true rfl) (Nat.le_of_ble_eq_true rfl) (Nat.le_of_ble_eq_true rfl) (J_eq (st := [.long (x_low (x_ch f.toNatClampNeg j.toNatClampNeg * x_ch (n.toNatClampNeg - f.toNatClampNeg) (k.toNatClampNeg - j.toNatClampNeg)) (x_ch n.toNatClampNeg k.toNatClampNeg) p)]) rfl ?_)
            exact J_lret hX hZ dX8_sample_91 ⟨by rw [x_sample, if_pos h9, if_pos h20, if_pos h31, if_pos h43, if_pos h54], rfl, fun c hc => by rw [hF83 c hc, hF76 c hc, hF65 c hc]⟩
          · skip
            refine J_ldc2 hX dX8_sample_57 wm_26_20 ?_
            exact J_lret hX hZ dX8_sample_60 ⟨by rw [x_sample]; (first | rw [if_pos h9] | rw [if_neg h9] | skip); (first | rw [if_pos h20] | rw [if_neg h20] | skip); (first | rw [if_pos h31] | rw [if_neg h31] | skip); (first | rw [if_pos h43] | rw [if_neg h43] | skip); (first | rw [if_pos h54] | rw [if_neg h54] | skip), rfl, fun _ _ => rfl⟩
def m_fr2 (L L' : jL) : Prop := ∀ k, k ≠ 95 → k ≠ 96 → L' k = L k
theorem m_fr2.u5 {L L' : jL} {i : Nat} {v : Int64} (h : m_fr2 L L') : m_fr2 L (jUL L' 95 i v) := fun k h1 h2 => by rw [jUL_ne h1]; exact h k h1 h2
theorem m_fr2.u6 {L L' : jL} {i : Nat} {v : Int64} (h : m_fr2 L L') : m_fr2 L (jUL L' 96 i v) := fun k h1 h2 => by rw [jUL_ne h2]; exact h k h1 h2
/-- changing at once is as good, with e months to come -/
def m_ao (t v e : Nat) : Prop := x_V t e v = v * 10 ^ e
set_option maxHeartbeats 4000000 in
set_option maxRecDepth 10000 in
theorem c_X8_change (l : Launch) (D : va_G) (a : Nat → Nat) (g : Nat → ClassId) (M : jM) (L : jL) (v m t k p : Int32)  : jV l D a g yX8_change cX8_change 13 (some .long) 1 30 [.ref (a 77), .int v, .int m, .int t, .int k, .int p] M L (fun rv M1 L1 => rv = some (.long (x_change v m t k p)) ∧ M1 = M ∧ m_fr2 L L1) := by
  refine jMeth (by decide) (Nat.le_of_ble_eq_true rfl) ?_
  intro G hX hZ
  refine J_cg (loc' := [(0, .ref (a 77)), (1, .int v), (2, .int m), (3, .int t), (4, .int k), (5, .int p)]) rfl rfl rfl rfl ?_
  refine J_iload_n hX 1 dX8_change_0 rfl ?_
  refine J_i2l hX dX8_change_1 ?_
  refine J_lconst (v := 0) hX dX8_change_2 (by decide) ?_
  refine J_ldc2 hX dX8_change_3 wm_26_18 ?_
  refine J_callS hX [.long (Int32.toInt64 v), .long (0 : Int64), .long (60 : Int64)] [] dX8_change_6 (c_X8_in l D a g M L v (0 : Int64) (60 : Int64)) lk_X8_80 rfl rfl (Nat.le_of_ble_eq_true rfl) (Nat.le_of_ble_eq_true rfl) (Nat.le_of_ble_eq_true rfl) (J_eq (st := [.int (jB (0 ≤ v.toInt ∧ v.toInt ≤ 60))]) rfl ?_)
  refine J_ifB_eq hX 58 dX8_change_9 (by decide) (fun h9 => ?_) (fun h9 => ?_)
  · skip
    refine J_ldc2 hX dX8_change_58 wm_26_20 ?_
    exact J_lret hX hZ dX8_change_61 ⟨by rw [x_change]; (first | rw [if_pos h9] | rw [if_neg h9] | skip), rfl, fun _ _ _ => rfl⟩
  · skip
    refine J_iload_n hX 2 dX8_change_12 rfl ?_
    refine J_i2l hX dX8_change_13 ?_
    refine J_lconst (v := 0) hX dX8_change_14 (by decide) ?_
    refine J_ldc2 hX dX8_change_15 wm_25_19 ?_
    refine J_callS hX [.long (Int32.toInt64 m), .long (0 : Int64), .long (8 : Int64)] [] dX8_change_18 (c_X8_in l D a g M L m (0 : Int64) (8 : Int64)) lk_X8_80 rfl rfl (Nat.le_of_ble_eq_true rfl) (Nat.le_of_ble_eq_true rfl) (Nat.le_of_ble_eq_true rfl) (J_eq (st := [.int (jB (0 ≤ m.toInt ∧ m.toInt ≤ 8))]) rfl ?_)
    refine J_ifB_eq hX 58 dX8_change_21 (by decide) (fun h21 => ?_) (fun h21 => ?_)
    · skip
      refine J_ldc2 hX dX8_change_58 wm_26_20 ?_
      exact J_lret hX hZ dX8_change_61 ⟨by rw [x_change]; (first | rw [if_pos h9] | rw [if_neg h9] | skip); (first | rw [if_pos h21] | rw [if_neg h21] | skip), rfl, fun _ _ _ => rfl⟩
    · skip
      refine J_iload_n hX 3 dX8_change_24 rfl ?_
      refine J_i2l hX dX8_change_25 ?_
      refine J_lconst (v := 0) hX dX8_change_26 (by decide) ?_
      refine J_ldc2 hX dX8_change_27 wm_26_19 ?_
      refine J_callS hX [.long (Int32.toInt64 t), .long (0 : Int64), .long (10 : Int64)] [] dX8_change_30 (c_X8_in l D a g M L t (0 : Int64) (10 : Int64)) lk_X8_80 rfl rfl (Nat.le_of_ble_eq_true rfl) (Nat.le_of_ble_eq_true rfl) (Nat.le_of_ble_eq_true rfl) (J_eq (st := [.int (jB (0 ≤ t.toInt ∧ t.toInt ≤ 10))]) rfl ?_)
      refine J_ifB_eq hX 58 dX8_change_33 (by decide) (fun h33 => ?_) (fun h33 => ?_)
      · skip
        refine J_ldc2 hX dX8_change_58 wm_26_20 ?_
        exact J_lret hX hZ dX8_change_61 ⟨by rw [x_change]; (first | rw [if_pos h9] | rw [if_neg h9] | skip); (first | rw [if_pos h21] | rw [if_neg h21] | skip); (first | rw [if_pos h33] | rw [if_neg h33] | skip), rfl, fun _ _ _ => rfl⟩
      · skip
        refine J_iload hX 4 dX8_change_36 rfl ?_
        refine J_i2l hX dX8_change_38 ?_
        refine J_lconst (v := 0) hX dX8_change_39 (by decide) ?_
        refine J_lconst (v := 1) hX dX8_change_40 (by decide) ?_
        refine J_callS hX [.long (Int32.toInt64 k), .long (0 : Int64), .long (1 : Int64)] [] dX8_change_41 (c_X8_in l D a g M L k (0 : Int64) (1 : Int64)) lk_X8_80 rfl rfl (Nat.le_of_ble_eq_true rfl) (Nat.le_of_ble_eq_true rfl) (Nat.le_of_ble_eq_true rfl) (J_eq (st := [.int (jB (0 ≤ k.toInt ∧ k.toInt ≤ 1))]) rfl ?_)
        refine J_ifB_eq hX 58 dX8_change_44 (by decide) (fun h44 => ?_) (fun h44 => ?_)
        · skip
          refine J_ldc2 hX dX8_change_58 wm_26_20 ?_
          exact J_lret hX hZ dX8_change_61 ⟨by rw [x_change]; (first | rw [if_pos h9] | rw [if_neg h9] | skip); (first | rw [if_pos h21] | rw [if_neg h21] | skip); (first | rw [if_pos h33] | rw [if_neg h33] | skip); (first | rw [if_pos h44] | rw [if_neg h44] | skip), rfl, fun _ _ _ => rfl⟩
        · skip
          refine J_iload hX 5 dX8_change_47 rfl ?_
          refine J_i2l hX dX8_change_49 ?_
          refine J_lconst (v := 0) hX dX8_change_50 (by decide) ?_
          refine J_lconst (v := 1) hX dX8_change_51 (by decide) ?_
          refine J_callS hX [.long (Int32.toInt64 p), .long (0 : Int64), .long (1 : Int64)] [] dX8_change_52 (c_X8_in l D a g M L p (0 : Int64) (1 : Int64)) lk_X8_80 rfl rfl (Nat.le_of_ble_eq_true rfl) (Nat.le_of_ble_eq_true rfl) (Nat.le_of_ble_eq_true rfl) (J_eq (st := [.int (jB (0 ≤ p.toInt ∧ p.toInt ≤ 1))]) rfl ?_)
          refine J_ifB_ne hX 62 dX8_change_55 (by decide) (fun h55 => ?_) (fun h55 => ?_)
          · skip
            have iv := jix h9
            have lv := jixl h9
            have im := jix h21
            have lm := jixl h21
            have it := jix h33
            have lt := jixl h33
            refine J_seti (y := nI v.toNatClampNeg) (loc' := [(0, .ref (a 77)), (1, .int (nI v.toNatClampNeg)), (2, .int m), (3, .int t), (4, .int k), (5, .int p)]) 1 rfl iv rfl ?_
            refine J_seti (y := nI m.toNatClampNeg) (loc' := [(0, .ref (a 77)), (1, .int (nI v.toNatClampNeg)), (2, .int (nI m.toNatClampNeg)), (3, .int t), (4, .int k), (5, .int p)]) 2 rfl im rfl ?_
            refine J_seti (y := nI t.toNatClampNeg) (loc' := [(0, .ref (a 77)), (1, .int (nI v.toNatClampNeg)), (2, .int (nI m.toNatClampNeg)), (3, .int (nI t.toNatClampNeg)), (4, .int k), (5, .int p)]) 3 rfl it rfl ?_
            refine J_iconst (v := 0) hX dX8_change_62 (by decide) ?_
            refine J_istore (loc' := [(6, .int 0), (0, .ref (a 77)), (1, .int (nI v.toNatClampNeg)), (2, .int (nI m.toNatClampNeg)), (3, .int (nI t.toNatClampNeg)), (4, .int k), (5, .int p)]) hX dX8_change_63 (by decide) rfl ?_
            have key65 : ∀ (fu65 : Nat) (i : Nat) (L' : jL), 70 - i < fu65 → (i ≤ 70) → (∀ j, j < i → L' 95 j = lN j) → (m_fr2 L L') → J l D a g G 13 M L' 65 [(0, .ref (a 77)), (1, .int (nI v.toNatClampNeg)), (2, .int (nI m.toNatClampNeg)), (3, .int (nI t.toNatClampNeg)), (4, .int k), (5, .int p), (6, .int (nI i))] [] := by
              intro fu65
              induction fu65 with
              | zero => intro i L' hmu; exact absurd hmu (Nat.not_lt_zero _)
              | succ fu65 ih65 =>
                intro i L' hmu65 hi hl hF
                refine J_iload hX 6 dX8_change_65 rfl ?_
                refine J_bipush (v := 70) hX dX8_change_67 (by decide) ?_
                refine J_cmpN_ge hX 88 i 70 dX8_change_69 (by decide) rfl rfl (by omega) (by omega) (fun h69 => ?_) (fun h69 => ?_)
                · skip
                  refine J_lconst (v := 1) hX dX8_change_88 (by decide) ?_
                  refine J_topl (y := lN (10 ^ 0)) rfl ?_
                  refine J_lstore (loc' := [(6, .long (lN (10 ^ 0))), (0, .ref (a 77)), (1, .int (nI v.toNatClampNeg)), (2, .int (nI m.toNatClampNeg)), (3, .int (nI t.toNatClampNeg)), (4, .int k), (5, .int p)]) hX dX8_change_89 (by decide) rfl ?_
                  refine J_iconst (v := 1) hX dX8_change_91 (by decide) ?_
                  refine J_topi (y := jB (x_V t.toNatClampNeg 0 v.toNatClampNeg = v.toNatClampNeg * 10 ^ 0)) (by rw [jB_t (show x_V t.toNatClampNeg 0 v.toNatClampNeg = v.toNatClampNeg * 10 ^ 0 by rw [x_V, Nat.pow_zero, Nat.mul_one])]) ?_
                  refine J_istore (loc' := [(8, .int (jB (x_V t.toNatClampNeg 0 v.toNatClampNeg = v.toNatClampNeg * 10 ^ 0))), (6, .long (lN (10 ^ 0))), (0, .ref (a 77)), (1, .int (nI v.toNatClampNeg)), (2, .int (nI m.toNatClampNeg)), (3, .int (nI t.toNatClampNeg)), (4, .int k), (5, .int p)]) hX dX8_change_92 (by decide) rfl ?_
                  refine J_iconst (v := 1) hX dX8_change_94 (by decide) ?_
                  refine J_istore (loc' := [(9, .int 1), (8, .int (jB (x_V t.toNatClampNeg 0 v.toNatClampNeg = v.toNatClampNeg * 10 ^ 0))), (6, .long (lN (10 ^ 0))), (0, .ref (a 77)), (1, .int (nI v.toNatClampNeg)), (2, .int (nI m.toNatClampNeg)), (3, .int (nI t.toNatClampNeg)), (4, .int k), (5, .int p)]) hX dX8_change_95 (by decide) rfl ?_
                  have key97 : ∀ (fu97 : Nat) (e : Nat) (L1 : jL), m.toNatClampNeg - e < fu97 → (e ≤ m.toNatClampNeg) → (∀ r, r < 69 - e → L1 95 r = lN (x_V t.toNatClampNeg e r)) → (m_fr2 L L1) → J l D a g G 13 M L1 97 [(0, .ref (a 77)), (1, .int (nI v.toNatClampNeg)), (2, .int (nI m.toNatClampNeg)), (3, .int (nI t.toNatClampNeg)), (4, .int k), (5, .int p), (6, .long (lN (10 ^ e))), (8, .int (jB (x_V t.toNatClampNeg e v.toNatClampNeg = v.toNatClampNeg * 10 ^ e))), (9, .int (nI (e + 1)))] [] := by
                    intro fu97
                    induction fu97 with
                    | zero => intro e L1 hmu; exact absurd hmu (Nat.not_lt_zero _)
                    | succ fu97 ih97 =>
                      intro e L1 hmu97 he hr hG
                      refine J_iload hX 8 dX8_change_97 rfl ?_
                      refine J_iload_n hX 2 dX8_change_99 rfl ?_
                      refine J_cmpN_gt hX 270 (e + 1) m.toNatClampNeg dX8_change_100 (by decide) rfl rfl (by omega) (by omega) (fun h100 => ?_) (fun h100 => ?_)
                      · skip
                        have ee : e = m.toNatClampNeg := by omega
                        have bV := x_V_b (t := t.toNatClampNeg) (e := m.toNatClampNeg) (r := v.toNatClampNeg) (by omega) (by omega) (by omega)
                        have bQ := x_p10 (r := 1) (e := m.toNatClampNeg) (by omega) (by omega)
                        refine J_setl (y := lN (10 ^ m.toNatClampNeg)) (loc' := [(0, .ref (a 77)), (1, .int (nI v.toNatClampNeg)), (2, .int (nI m.toNatClampNeg)), (3, .int (nI t.toNatClampNeg)), (4, .int k), (5, .int p), (6, .long (lN (10 ^ m.toNatClampNeg))), (8, .int (jB (x_V t.toNatClampNeg e v.toNatClampNeg = v.toNatClampNeg * 10 ^ e))), (9, .int (nI (e + 1)))]) 6 rfl (by rw [ee]) rfl ?_
                        refine J_seti (y := jB (x_V t.toNatClampNeg m.toNatClampNeg v.toNatClampNeg = v.toNatClampNeg * 10 ^ m.toNatClampNeg)) (loc' := [(0, .ref (a 77)), (1, .int (nI v.toNatClampNeg)), (2, .int (nI m.toNatClampNeg)), (3, .int (nI t.toNatClampNeg)), (4, .int k), (5, .int p), (6, .long (lN (10 ^ m.toNatClampNeg))), (8, .int (jB (x_V t.toNatClampNeg m.toNatClampNeg v.toNatClampNeg = v.toNatClampNeg * 10 ^ m.toNatClampNeg))), (9, .int (nI (e + 1)))]) 7 rfl (by rw [ee]) rfl ?_
                        refine J_iload hX 4 dX8_change_270 rfl ?_
                        refine J_iconst (v := 1) hX dX8_change_272 (by decide) ?_
                        refine J_icmp_ne hX 289 dX8_change_273 (by decide) (fun h273 => ?_) (fun h273 => ?_)
                        · skip
                          refine J_aload_n hX 0 dX8_change_289 rfl ?_
                          refine J_getr hX 77 27 dX8_change_290 jc_77 rfl rfl (by decide) inlX8 wm_5_12 ?_
                          refine J_iload_n hX 1 dX8_change_293 rfl ?_
                          refine J_lald hX 95 v.toNatClampNeg dX8_change_294 jc_95 rfl (by omega) (by omega) ?_
                          refine J_topl (y := lN (x_V t.toNatClampNeg m.toNatClampNeg v.toNatClampNeg)) (by rw [hr _ (by omega), ee]) ?_
                          refine J_lload hX 6 dX8_change_295 rfl ?_
                          refine J_iload hX 5 dX8_change_297 rfl ?_
                          refine J_callS hX [.long (lN (x_V t.toNatClampNeg m.toNatClampNeg v.toNatClampNeg)), .long (lN (10 ^ m.toNatClampNeg)), .int p] [] dX8_change_299 (c_X8_lowest l D a g M L1 (x_V t.toNatClampNeg m.toNatClampNeg v.toNatClampNeg) (10 ^ m.toNatClampNeg) (by omega) (by omega) (Nat.pow_pos (by omega)) p) lk_X8_264 rfl rfl (Nat.le_of_ble_eq_true rfl) (Nat.le_of_ble_eq_true rfl) (Nat.le_of_ble_eq_true rfl) (J_eq (st := [.long (x_low (x_V t.toNatClampNeg m.toNatClampNeg v.toNatClampNeg) (10 ^ m.toNatClampNeg) p)]) rfl ?_)
                          exact J_lret hX hZ dX8_change_302 ⟨by rw [x_change, if_pos h9, if_pos h21, if_pos h33, if_pos h44, if_pos h55]; rw [if_neg h273], rfl, hG⟩
                        · skip
                          refine J_iload hX 7 dX8_change_276 rfl ?_
                          refine J_ifB_eq hX 285 dX8_change_278 (by decide) (fun h278 => ?_) (fun h278 => ?_)
                          · skip
                            refine J_lconst (v := 0) hX dX8_change_285 (by decide) ?_
                            refine J_goto hX 302 dX8_change_286 (by decide) ?_
                            exact J_lret hX hZ dX8_change_302 ⟨by rw [x_change, if_pos h9, if_pos h21, if_pos h33, if_pos h44, if_pos h55]; rw [if_pos (by first | exact h273 | exact Classical.not_not.mp h273)]; (first | rw [if_pos h278] | rw [if_neg h278]), rfl, hG⟩
                          · skip
                            refine J_lconst (v := 1) hX dX8_change_281 (by decide) ?_
                            refine J_goto hX 302 dX8_change_282 (by decide) ?_
                            exact J_lret hX hZ dX8_change_302 ⟨by rw [x_change, if_pos h9, if_pos h21, if_pos h33, if_pos h44, if_pos h55]; rw [if_pos (by first | exact h273 | exact Classical.not_not.mp h273)]; (first | rw [if_pos h278] | rw [if_neg h278]), rfl, hG⟩
                      · skip
                        refine J_lload hX 6 dX8_change_103 rfl ?_
                        refine J_ldc2 hX dX8_change_105 wm_26_19 ?_
                        refine J_lmul hX dX8_change_108 ?_
                        refine J_topl (y := lN (10 ^ (e + 1))) (by rw [Nat.pow_succ, ← lN_mul]; rfl) ?_
                        refine J_lstore (loc' := [(6, .long (lN (10 ^ (e + 1)))), (0, .ref (a 77)), (1, .int (nI v.toNatClampNeg)), (2, .int (nI m.toNatClampNeg)), (3, .int (nI t.toNatClampNeg)), (4, .int k), (5, .int p), (8, .int (jB (x_V t.toNatClampNeg e v.toNatClampNeg = v.toNatClampNeg * 10 ^ e))), (9, .int (nI (e + 1)))]) hX dX8_change_109 (by decide) rfl ?_
                        refine J_iconst (v := 0) hX dX8_change_111 (by decide) ?_
                        refine J_istore (loc' := [(10, .int 0), (6, .long (lN (10 ^ (e + 1)))), (0, .ref (a 77)), (1, .int (nI v.toNatClampNeg)), (2, .int (nI m.toNatClampNeg)), (3, .int (nI t.toNatClampNeg)), (4, .int k), (5, .int p), (8, .int (jB (x_V t.toNatClampNeg e v.toNatClampNeg = v.toNatClampNeg * 10 ^ e))), (9, .int (nI (e + 1)))]) hX dX8_change_112 (by decide) rfl ?_
                        have key114 : ∀ (fu114 : Nat) (r : Nat) (L2 : jL), 69 - r < fu114 → (r ≤ 69 - (e + 1)) → (∀ j, j < r → L2 96 j = lN (x_V t.toNatClampNeg (e + 1) j)) → (∀ j, j < 69 - e → L2 95 j = lN (x_V t.toNatClampNeg e j)) → (m_fr2 L L2) → J l D a g G 13 M L2 114 [(0, .ref (a 77)), (1, .int (nI v.toNatClampNeg)), (2, .int (nI m.toNatClampNeg)), (3, .int (nI t.toNatClampNeg)), (4, .int k), (5, .int p), (6, .long (lN (10 ^ (e + 1)))), (8, .int (jB (x_V t.toNatClampNeg (if r ≤ v.toNatClampNeg then e else e + 1) v.toNatClampNeg = v.toNatClampNeg * 10 ^ (if r ≤ v.toNatClampNeg then e else e + 1)))), (9, .int (nI (e + 1))), (10, .int (nI r))] [] := by
                          intro fu114
                          induction fu114 with
                          | zero => intro r L2 hmu; exact absurd hmu (Nat.not_lt_zero _)
                          | succ fu114 ih114 =>
                            intro r L2 hmu114 hq hz hw hH
                            have b1 := x_V_b (t := t.toNatClampNeg) (e := e) (r := r - 3) (by omega) (by omega) (by omega)
                            have b2 := x_V_b (t := t.toNatClampNeg) (e := e) (r := r + 1) (by omega) (by omega) (by omega)
                            have b3 := x_p10 (r := r) (e := e + 1) (by omega) (by omega)
                            have b4 : t.toNatClampNeg * x_V t.toNatClampNeg e (r - 3) ≤ 10 * 2 ^ 40 := Nat.mul_le_mul (by omega) (Nat.le_of_lt b1)
                            have b5 : (10 - t.toNatClampNeg) * x_V t.toNatClampNeg e (r + 1) ≤ 10 * 2 ^ 40 := Nat.mul_le_mul (by omega) (Nat.le_of_lt b2)
                            have xge : (lN (t.toNatClampNeg * x_V t.toNatClampNeg e (r - 3) + (10 - t.toNatClampNeg) * x_V t.toNatClampNeg e (r + 1)) ≤ lN (r * 10 ^ (e + 1))) → x_V t.toNatClampNeg (e + 1) r = r * 10 ^ (e + 1) := fun h => by rw [x_V, Nat.max_eq_left ((pk_lLE (by omega) (by omega)).mp h)]
                            have xlt : (lN (r * 10 ^ (e + 1)) < lN (t.toNatClampNeg * x_V t.toNatClampNeg e (r - 3) + (10 - t.toNatClampNeg) * x_V t.toNatClampNeg e (r + 1))) → ¬ x_V t.toNatClampNeg (e + 1) r = r * 10 ^ (e + 1) := fun h q => by rw [x_V, Nat.max_eq_right (Nat.le_of_lt ((pk_lLT (by omega) (by omega)).mp h))] at q; have := (pk_lLT (by omega) (by omega)).mp h; omega
                            refine J_iload hX 9 dX8_change_114 rfl ?_
                            refine J_bipush (v := 69) hX dX8_change_116 (by decide) ?_
                            refine J_iload hX 8 dX8_change_118 rfl ?_
                            refine J_isub hX dX8_change_120 ?_
                            refine J_topi (y := nI (69 - (e + 1))) (pk_sub (a := 69) (by omega)) ?_
                            refine J_cmpN_ge hX 231 r (69 - (e + 1)) dX8_change_121 (by decide) rfl rfl (by omega) (by omega) (fun h121 => ?_) (fun h121 => ?_)
                            · skip
                              have r9 : r = 69 - (e + 1) := by omega
                              refine J_seti (y := jB (x_V t.toNatClampNeg (e + 1) v.toNatClampNeg = v.toNatClampNeg * 10 ^ (e + 1))) (loc' := [(0, .ref (a 77)), (1, .int (nI v.toNatClampNeg)), (2, .int (nI m.toNatClampNeg)), (3, .int (nI t.toNatClampNeg)), (4, .int k), (5, .int p), (6, .long (lN (10 ^ (e + 1)))), (8, .int (jB (x_V t.toNatClampNeg (e + 1) v.toNatClampNeg = v.toNatClampNeg * 10 ^ (e + 1)))), (9, .int (nI (e + 1))), (10, .int (nI r))]) 7 rfl (by rw [if_neg (show ¬ r ≤ v.toNatClampNeg by omega)]) rfl ?_
                              refine J_iconst (v := 0) hX dX8_change_231 (by decide) ?_
                              refine J_istore (loc' := [(10, .int 0), (0, .ref (a 77)), (1, .int (nI v.toNatClampNeg)), (2, .int (nI m.toNatClampNeg)), (3, .int (nI t.toNatClampNeg)), (4, .int k), (5, .int p), (6, .long (lN (10 ^ (e + 1)))), (8, .int (jB (x_V t.toNatClampNeg (e + 1) v.toNatClampNeg = v.toNatClampNeg * 10 ^ (e + 1)))), (9, .int (nI (e + 1)))]) hX dX8_change_232 (by decide) rfl ?_
                              have key234 : ∀ (fu234 : Nat) (q : Nat) (L3 : jL), 69 - q < fu234 → (q ≤ 69 - (e + 1)) → (∀ j, j < q → L3 95 j = lN (x_V t.toNatClampNeg (e + 1) j)) → (∀ j, j < 69 - (e + 1) → L3 96 j = lN (x_V t.toNatClampNeg (e + 1) j)) → (m_fr2 L L3) → J l D a g G 13 M L3 234 [(0, .ref (a 77)), (1, .int (nI v.toNatClampNeg)), (2, .int (nI m.toNatClampNeg)), (3, .int (nI t.toNatClampNeg)), (4, .int k), (5, .int p), (6, .long (lN (10 ^ (e + 1)))), (8, .int (jB (x_V t.toNatClampNeg (e + 1) v.toNatClampNeg = v.toNatClampNeg * 10 ^ (e + 1)))), (9, .int (nI (e + 1))), (10, .int (nI q))] [] := by
                                intro fu234
                                induction fu234 with
                                | zero => intro q L3 hmu; exact absurd hmu (Nat.not_lt_zero _)
                                | succ fu234 ih234 =>
                                  intro q L3 hmu234 hqq hy hx hK
                                  refine J_iload hX 9 dX8_change_234 rfl ?_
                                  refine J_bipush (v := 69) hX dX8_change_236 (by decide) ?_
                                  refine J_iload hX 8 dX8_change_238 rfl ?_
                                  refine J_isub hX dX8_change_240 ?_
                                  refine J_topi (y := nI (69 - (e + 1))) (pk_sub (a := 69) (by omega)) ?_
                                  refine J_cmpN_ge hX 264 q (69 - (e + 1)) dX8_change_241 (by decide) rfl rfl (by omega) (by omega) (fun h241 => ?_) (fun h241 => ?_)
                                  · skip
                                    refine J_iinc (v := nI (e + 1 + 1)) (loc' := [(9, .int (nI (e + 1 + 1))), (0, .ref (a 77)), (1, .int (nI v.toNatClampNeg)), (2, .int (nI m.toNatClampNeg)), (3, .int (nI t.toNatClampNeg)), (4, .int k), (5, .int p), (6, .long (lN (10 ^ (e + 1)))), (8, .int (jB (x_V t.toNatClampNeg (e + 1) v.toNatClampNeg = v.toNatClampNeg * 10 ^ (e + 1)))), (10, .int (nI q))]) hX 8 dX8_change_264 rfl (jinc (e + 1)) (by decide) rfl ?_
                                    refine J_goto hX 97 dX8_change_267 (by decide) ?_
                                    refine J_sub (loc' := [(0, .ref (a 77)), (1, .int (nI v.toNatClampNeg)), (2, .int (nI m.toNatClampNeg)), (3, .int (nI t.toNatClampNeg)), (4, .int k), (5, .int p), (6, .long (lN (10 ^ (e + 1)))), (8, .int (jB (x_V t.toNatClampNeg (e + 1) v.toNatClampNeg = v.toNatClampNeg * 10 ^ (e + 1)))), (9, .int (nI (e + 1 + 1)))]) [1, 2, 3, 4, 5, 6, 7, 8, 0] rfl ?_
                                    refine J_seti (y := nI ((e + 1) + 1)) (loc' := [(0, .ref (a 77)), (1, .int (nI v.toNatClampNeg)), (2, .int (nI m.toNatClampNeg)), (3, .int (nI t.toNatClampNeg)), (4, .int k), (5, .int p), (6, .long (lN (10 ^ (e + 1)))), (8, .int (jB (x_V t.toNatClampNeg (e + 1) v.toNatClampNeg = v.toNatClampNeg * 10 ^ (e + 1)))), (9, .int (nI ((e + 1) + 1)))]) 8 rfl rfl rfl ?_
                                    exact ih97  (e + 1) L3 (by omega) (by omega) (fun r h => hy r (by omega)) hK
                                  · skip
                                    refine J_aload_n hX 0 dX8_change_244 rfl ?_
                                    refine J_getr hX 77 27 dX8_change_245 jc_77 rfl rfl (by decide) inlX8 wm_5_12 ?_
                                    refine J_iload hX 9 dX8_change_248 rfl ?_
                                    refine J_aload_n hX 0 dX8_change_250 rfl ?_
                                    refine J_getr hX 77 28 dX8_change_251 jc_77 rfl rfl (by decide) inlX8 wm_5_13 ?_
                                    refine J_iload hX 9 dX8_change_254 rfl ?_
                                    refine J_lald hX 96 q dX8_change_256 jc_96 rfl (by omega) (by omega) ?_
                                    refine J_topl (y := lN (x_V t.toNatClampNeg (e + 1) q)) (hx _ (by omega)) ?_
                                    refine J_last hX 95 q dX8_change_257 jc_95 rfl (by omega) (by omega) ?_
                                    refine J_iinc (v := nI (q + 1)) (loc' := [(10, .int (nI (q + 1))), (0, .ref (a 77)), (1, .int (nI v.toNatClampNeg)), (2, .int (nI m.toNatClampNeg)), (3, .int (nI t.toNatClampNeg)), (4, .int k), (5, .int p), (6, .long (lN (10 ^ (e + 1)))), (8, .int (jB (x_V t.toNatClampNeg (e + 1) v.toNatClampNeg = v.toNatClampNeg * 10 ^ (e + 1)))), (9, .int (nI (e + 1)))]) hX 9 dX8_change_258 rfl (jinc q) (by decide) rfl ?_
                                    refine J_goto hX 234 dX8_change_261 (by decide) ?_
                                    refine J_sub (loc' := [(0, .ref (a 77)), (1, .int (nI v.toNatClampNeg)), (2, .int (nI m.toNatClampNeg)), (3, .int (nI t.toNatClampNeg)), (4, .int k), (5, .int p), (6, .long (lN (10 ^ (e + 1)))), (8, .int (jB (x_V t.toNatClampNeg (e + 1) v.toNatClampNeg = v.toNatClampNeg * 10 ^ (e + 1)))), (9, .int (nI (e + 1))), (10, .int (nI (q + 1)))]) [1, 2, 3, 4, 5, 6, 7, 8, 9, 0] rfl ?_
                                    refine J_cg (M' := M) (L' := (jUL L3 95 q (lN (x_V t.toNatClampNeg (e + 1) q)))) rfl rfl rfl rfl ?_
                                    exact ih234  (q + 1) (jUL L3 95 q (lN (x_V t.toNatClampNeg (e + 1) q))) (by omega) (by omega) (fun j hj => by by_cases w : j = q; (subst w; exact jUL_same); (rw [jUL_slot w]; exact hy j (by omega))) (fun j hj => by rw [jUL_cell (by decide)]; exact hx j hj) hK.u5
                              refine J_sub (loc' := [(0, .ref (a 77)), (1, .int (nI v.toNatClampNeg)), (2, .int (nI m.toNatClampNeg)), (3, .int (nI t.toNatClampNeg)), (4, .int k), (5, .int p), (6, .long (lN (10 ^ (e + 1)))), (8, .int (jB (x_V t.toNatClampNeg (e + 1) v.toNatClampNeg = v.toNatClampNeg * 10 ^ (e + 1)))), (9, .int (nI (e + 1))), (10, .int 0)]) [1, 2, 3, 4, 5, 6, 7, 8, 9, 0] rfl ?_
                              refine J_seti (y := nI 0) (loc' := [(0, .ref (a 77)), (1, .int (nI v.toNatClampNeg)), (2, .int (nI m.toNatClampNeg)), (3, .int (nI t.toNatClampNeg)), (4, .int k), (5, .int p), (6, .long (lN (10 ^ (e + 1)))), (8, .int (jB (x_V t.toNatClampNeg (e + 1) v.toNatClampNeg = v.toNatClampNeg * 10 ^ (e + 1)))), (9, .int (nI (e + 1))), (10, .int (nI 0))]) 9 rfl rfl rfl ?_
                              exact key234 _ 0 L2 (Nat.lt_succ_self _) (by omega) (fun c h => absurd h (Nat.not_lt_zero c)) (fun j h => hz j (by omega)) hH
                            · skip
                              refine J_iload_n hX 3 dX8_change_124 rfl ?_
                              refine J_i2l hX dX8_change_125 ?_
                              refine J_topl (y := lN t.toNatClampNeg) (nI_l (by omega)) ?_
                              refine J_aload_n hX 0 dX8_change_126 rfl ?_
                              refine J_getr hX 77 27 dX8_change_127 jc_77 rfl rfl (by decide) inlX8 wm_5_12 ?_
                              refine J_iload hX 9 dX8_change_130 rfl ?_
                              refine J_iconst (v := 3) hX dX8_change_132 (by decide) ?_
                              refine J_cmpN_le hX 143 r 3 dX8_change_133 (by decide) rfl rfl (by omega) (by omega) (fun h133 => ?_) (fun h133 => ?_)
                              · skip
                                refine J_iconst (v := 0) hX dX8_change_143 (by decide) ?_
                                refine J_topi (y := nI (r - 3)) (by rw [show r - 3 = 0 by omega]; rfl) ?_
                                refine J_lald hX 95 (r - 3) dX8_change_144 jc_95 rfl (by omega) (by omega) ?_
                                refine J_topl (y := lN (x_V t.toNatClampNeg e (r - 3))) (hw _ (by omega)) ?_
                                refine J_lmul hX dX8_change_145 ?_
                                refine J_topl (y := lN (t.toNatClampNeg * x_V t.toNatClampNeg e (r - 3))) (lN_mul _ _) ?_
                                refine J_ldc2 hX dX8_change_146 wm_26_19 ?_
                                refine J_iload_n hX 3 dX8_change_149 rfl ?_
                                refine J_i2l hX dX8_change_150 ?_
                                refine J_topl (y := lN t.toNatClampNeg) (nI_l (by omega)) ?_
                                refine J_lsub hX dX8_change_151 ?_
                                refine J_topl (y := lN (10 - t.toNatClampNeg)) (lN_sub (a := 10) (by omega)) ?_
                                refine J_aload_n hX 0 dX8_change_152 rfl ?_
                                refine J_getr hX 77 27 dX8_change_153 jc_77 rfl rfl (by decide) inlX8 wm_5_12 ?_
                                refine J_iload hX 9 dX8_change_156 rfl ?_
                                refine J_iconst (v := 1) hX dX8_change_158 (by decide) ?_
                                refine J_iadd hX dX8_change_159 ?_
                                refine J_topi (y := nI (r + 1)) (nI_1 r) ?_
                                refine J_lald hX 95 (r + 1) dX8_change_160 jc_95 rfl (by omega) (by omega) ?_
                                refine J_topl (y := lN (x_V t.toNatClampNeg e (r + 1))) (hw _ (by omega)) ?_
                                refine J_lmul hX dX8_change_161 ?_
                                refine J_topl (y := lN ((10 - t.toNatClampNeg) * x_V t.toNatClampNeg e (r + 1))) (lN_mul _ _) ?_
                                refine J_ladd hX dX8_change_162 ?_
                                refine J_topl (y := lN (t.toNatClampNeg * x_V t.toNatClampNeg e (r - 3) + (10 - t.toNatClampNeg) * x_V t.toNatClampNeg e (r + 1))) (lN_add _ _) ?_
                                refine J_lstore (loc' := [(11, .long (lN (t.toNatClampNeg * x_V t.toNatClampNeg e (r - 3) + (10 - t.toNatClampNeg) * x_V t.toNatClampNeg e (r + 1)))), (0, .ref (a 77)), (1, .int (nI v.toNatClampNeg)), (2, .int (nI m.toNatClampNeg)), (3, .int (nI t.toNatClampNeg)), (4, .int k), (5, .int p), (6, .long (lN (10 ^ (e + 1)))), (8, .int (jB (x_V t.toNatClampNeg (if r ≤ v.toNatClampNeg then e else e + 1) v.toNatClampNeg = v.toNatClampNeg * 10 ^ (if r ≤ v.toNatClampNeg then e else e + 1)))), (9, .int (nI (e + 1))), (10, .int (nI r))]) hX dX8_change_163 (by decide) rfl ?_
                                refine J_iload hX 10 dX8_change_165 rfl ?_
                                refine J_iload_n hX 2 dX8_change_167 rfl ?_
                                refine J_cmpN_ne hX 191 r v.toNatClampNeg dX8_change_168 (by decide) rfl rfl (by omega) (by omega) (fun h168 => ?_) (fun h168 => ?_)
                                · skip
                                  refine J_iload hX 8 dX8_change_191 rfl ?_
                                  refine J_topi (y := jB (x_V t.toNatClampNeg (if r + 1 ≤ v.toNatClampNeg then e else e + 1) v.toNatClampNeg = v.toNatClampNeg * 10 ^ (if r + 1 ≤ v.toNatClampNeg then e else e + 1))) (by by_cases q : r + 1 ≤ v.toNatClampNeg; (rw [if_pos q, if_pos (by omega)]); (rw [if_neg q, if_neg (by omega)])) ?_
                                  refine J_istore (loc' := [(8, .int (jB (x_V t.toNatClampNeg (if r + 1 ≤ v.toNatClampNeg then e else e + 1) v.toNatClampNeg = v.toNatClampNeg * 10 ^ (if r + 1 ≤ v.toNatClampNeg then e else e + 1)))), (11, .long (lN (t.toNatClampNeg * x_V t.toNatClampNeg e (r - 3) + (10 - t.toNatClampNeg) * x_V t.toNatClampNeg e (r + 1)))), (0, .ref (a 77)), (1, .int (nI v.toNatClampNeg)), (2, .int (nI m.toNatClampNeg)), (3, .int (nI t.toNatClampNeg)), (4, .int k), (5, .int p), (6, .long (lN (10 ^ (e + 1)))), (9, .int (nI (e + 1))), (10, .int (nI r))]) hX dX8_change_193 (by decide) rfl ?_
                                  refine J_aload_n hX 2 dX8_change_195 rfl ?_
                                  refine J_getr hX 77 28 dX8_change_196 jc_77 rfl rfl (by decide) inlX8 wm_5_13 ?_
                                  refine J_iload hX 10 dX8_change_199 rfl ?_
                                  refine J_iload hX 10 dX8_change_201 rfl ?_
                                  refine J_i2l hX dX8_change_203 ?_
                                  refine J_topl (y := lN r) (nI_l (by omega)) ?_
                                  refine J_lload hX 8 dX8_change_204 rfl ?_
                                  refine J_lmul hX dX8_change_206 ?_
                                  refine J_topl (y := lN (r * 10 ^ (e + 1))) (lN_mul _ _) ?_
                                  refine J_lload hX 1 dX8_change_207 rfl ?_
                                  refine J_lcmp hX dX8_change_209 ?_
                                  refine J_ifK_lt hX 222 dX8_change_210 (by decide) (fun h210 => ?_) (fun h210 => ?_)
                                  · skip
                                    refine J_lload hX 1 dX8_change_222 rfl ?_
                                    refine J_topl (y := lN (x_V t.toNatClampNeg (e + 1) r)) (by rw [x_V, Nat.max_eq_right (Nat.le_of_lt ((pk_lLT (by omega) (by omega)).mp h210))]) ?_
                                    refine J_last hX 96 r dX8_change_224 jc_96 rfl (by omega) (by omega) ?_
                                    refine J_iinc (v := nI (r + 1)) (loc' := [(10, .int (nI (r + 1))), (8, .int (jB (x_V t.toNatClampNeg (if r + 1 ≤ v.toNatClampNeg then e else e + 1) v.toNatClampNeg = v.toNatClampNeg * 10 ^ (if r + 1 ≤ v.toNatClampNeg then e else e + 1)))), (11, .long (lN (t.toNatClampNeg * x_V t.toNatClampNeg e (r - 3) + (10 - t.toNatClampNeg) * x_V t.toNatClampNeg e (r + 1)))), (0, .ref (a 77)), (1, .int (nI v.toNatClampNeg)), (2, .int (nI m.toNatClampNeg)), (3, .int (nI t.toNatClampNeg)), (4, .int k), (5, .int p), (6, .long (lN (10 ^ (e + 1)))), (9, .int (nI (e + 1)))]) hX 10 dX8_change_225 rfl (jinc r) (by decide) rfl ?_
                                    refine J_goto hX 114 dX8_change_228 (by decide) ?_
                                    refine J_sub (loc' := [(0, .ref (a 77)), (1, .int (nI v.toNatClampNeg)), (2, .int (nI m.toNatClampNeg)), (3, .int (nI t.toNatClampNeg)), (4, .int k), (5, .int p), (6, .long (lN (10 ^ (e + 1)))), (8, .int (jB (x_V t.toNatClampNeg (if r + 1 ≤ v.toNatClampNeg then e else e + 1) v.toNatClampNeg = v.toNatClampNeg * 10 ^ (if r + 1 ≤ v.toNatClampNeg then e else e + 1)))), (9, .int (nI (e + 1))), (10, .int (nI (r + 1)))]) [3, 4, 5, 6, 7, 8, 9, 1, 10, 0] rfl ?_
                                    refine J_seti (y := jB (x_V t.toNatClampNeg (if (r + 1) ≤ v.toNatClampNeg then e else e + 1) v.toNatClampNeg = v.toNatClampNeg * 10 ^ (if (r + 1) ≤ v.toNatClampNeg then e else e + 1))) (loc' := [(0, .ref (a 77)), (1, .int (nI v.toNatClampNeg)), (2, .int (nI m.toNatClampNeg)), (3, .int (nI t.toNatClampNeg)), (4, .int k), (5, .int p), (6, .long (lN (10 ^ (e + 1)))), (8, .int (jB (x_V t.toNatClampNeg (if (r + 1) ≤ v.toNatClampNeg then e else e + 1) v.toNatClampNeg = v.toNatClampNeg * 10 ^ (if (r + 1) ≤ v.toNatClampNeg then e else e + 1)))), (9, .int (nI (e + 1))), (10, .int (nI (r + 1)))]) 7 rfl rfl rfl ?_
                                    refine J_cg (M' := M) (L' := (jUL L2 96 r (lN (x_V t.toNatClampNeg (e + 1) r)))) rfl rfl rfl rfl ?_
                                    exact ih114  (r + 1) (jUL L2 96 r (lN (x_V t.toNatClampNeg (e + 1) r))) (by omega) (by omega) (fun j hj => by by_cases q : j = r; (subst q; exact jUL_same); (rw [jUL_slot q]; exact hz j (by omega))) (fun j hj => by rw [jUL_cell (by decide)]; exact hw j hj) hH.u6
                                  · skip
                                    refine J_iload hX 10 dX8_change_213 rfl ?_
                                    refine J_i2l hX dX8_change_215 ?_
                                    refine J_topl (y := lN r) (nI_l (by omega)) ?_
                                    refine J_lload hX 8 dX8_change_216 rfl ?_
                                    refine J_lmul hX dX8_change_218 ?_
                                    refine J_topl (y := lN (r * 10 ^ (e + 1))) (lN_mul _ _) ?_
                                    refine J_goto hX 224 dX8_change_219 (by decide) ?_
                                    refine J_topl (y := lN (x_V t.toNatClampNeg (e + 1) r)) (by rw [xge (Int64.not_lt.mp h210)]) ?_
                                    refine J_last hX 96 r dX8_change_224 jc_96 rfl (by omega) (by omega) ?_
                                    refine J_iinc (v := nI (r + 1)) (loc' := [(10, .int (nI (r + 1))), (8, .int (jB (x_V t.toNatClampNeg (if r + 1 ≤ v.toNatClampNeg then e else e + 1) v.toNatClampNeg = v.toNatClampNeg * 10 ^ (if r + 1 ≤ v.toNatClampNeg then e else e + 1)))), (11, .long (lN (t.toNatClampNeg * x_V t.toNatClampNeg e (r - 3) + (10 - t.toNatClampNeg) * x_V t.toNatClampNeg e (r + 1)))), (0, .ref (a 77)), (1, .int (nI v.toNatClampNeg)), (2, .int (nI m.toNatClampNeg)), (3, .int (nI t.toNatClampNeg)), (4, .int k), (5, .int p), (6, .long (lN (10 ^ (e + 1)))), (9, .int (nI (e + 1)))]) hX 10 dX8_change_225 rfl (jinc r) (by decide) rfl ?_
                                    refine J_goto hX 114 dX8_change_228 (by decide) ?_
                                    refine J_sub (loc' := [(0, .ref (a 77)), (1, .int (nI v.toNatClampNeg)), (2, .int (nI m.toNatClampNeg)), (3, .int (nI t.toNatClampNeg)), (4, .int k), (5, .int p), (6, .long (lN (10 ^ (e + 1)))), (8, .int (jB (x_V t.toNatClampNeg (if r + 1 ≤ v.toNatClampNeg then e else e + 1) v.toNatClampNeg = v.toNatClampNeg * 10 ^ (if r + 1 ≤ v.toNatClampNeg then e else e + 1)))), (9, .int (nI (e + 1))), (10, .int (nI (r + 1)))]) [3, 4, 5, 6, 7, 8, 9, 1, 10, 0] rfl ?_
                                    refine J_seti (y := jB (x_V t.toNatClampNeg (if (r + 1) ≤ v.toNatClampNeg then e else e + 1) v.toNatClampNeg = v.toNatClampNeg * 10 ^ (if (r + 1) ≤ v.toNatClampNeg then e else e + 1))) (loc' := [(0, .ref (a 77)), (1, .int (nI v.toNatClampNeg)), (2, .int (nI m.toNatClampNeg)), (3, .int (nI t.toNatClampNeg)), (4, .int k), (5, .int p), (6, .long (lN (10 ^ (e + 1)))), (8, .int (jB (x_V t.toNatClampNeg (if (r + 1) ≤ v.toNatClampNeg then e else e + 1) v.toNatClampNeg = v.toNatClampNeg * 10 ^ (if (r + 1) ≤ v.toNatClampNeg then e else e + 1)))), (9, .int (nI (e + 1))), (10, .int (nI (r + 1)))]) 7 rfl rfl rfl ?_
                                    refine J_cg (M' := M) (L' := (jUL L2 96 r (lN (x_V t.toNatClampNeg (e + 1) r)))) rfl rfl rfl rfl ?_
                                    exact ih114  (r + 1) (jUL L2 96 r (lN (x_V t.toNatClampNeg (e + 1) r))) (by omega) (by omega) (fun j hj => by by_cases q : j = r; (subst q; exact jUL_same); (rw [jUL_slot q]; exact hz j (by omega))) (fun j hj => by rw [jUL_cell (by decide)]; exact hw j hj) hH.u6
                                · skip
                                  refine J_iload hX 10 dX8_change_171 rfl ?_
                                  refine J_i2l hX dX8_change_173 ?_
                                  refine J_topl (y := lN r) (nI_l (by omega)) ?_
                                  refine J_lload hX 7 dX8_change_174 rfl ?_
                                  refine J_lmul hX dX8_change_176 ?_
                                  refine J_topl (y := lN (r * 10 ^ (e + 1))) (lN_mul _ _) ?_
                                  refine J_lload hX 0 dX8_change_177 rfl ?_
                                  refine J_lcmp hX dX8_change_179 ?_
                                  refine J_ifK_lt hX 187 dX8_change_180 (by decide) (fun h180 => ?_) (fun h180 => ?_)
                                  · skip
                                    refine J_iconst (v := 0) hX dX8_change_187 (by decide) ?_
                                    refine J_goto hX 193 dX8_change_188 (by decide) ?_
                                    refine J_topi (y := jB (x_V t.toNatClampNeg (if r + 1 ≤ v.toNatClampNeg then e else e + 1) v.toNatClampNeg = v.toNatClampNeg * 10 ^ (if r + 1 ≤ v.toNatClampNeg then e else e + 1))) (by rw [if_neg (show ¬ r + 1 ≤ v.toNatClampNeg by omega), ← show r = v.toNatClampNeg by omega]; rw [jB_f (fun q => xlt h180 q)]) ?_
                                    refine J_istore (loc' := [(8, .int (jB (x_V t.toNatClampNeg (if r + 1 ≤ v.toNatClampNeg then e else e + 1) v.toNatClampNeg = v.toNatClampNeg * 10 ^ (if r + 1 ≤ v.toNatClampNeg then e else e + 1)))), (11, .long (lN (t.toNatClampNeg * x_V t.toNatClampNeg e (r - 3) + (10 - t.toNatClampNeg) * x_V t.toNatClampNeg e (r + 1)))), (0, .ref (a 77)), (1, .int (nI v.toNatClampNeg)), (2, .int (nI m.toNatClampNeg)), (3, .int (nI t.toNatClampNeg)), (4, .int k), (5, .int p), (6, .long (lN (10 ^ (e + 1)))), (9, .int (nI (e + 1))), (10, .int (nI r))]) hX dX8_change_193 (by decide) rfl ?_
                                    refine J_aload_n hX 2 dX8_change_195 rfl ?_
                                    refine J_getr hX 77 28 dX8_change_196 jc_77 rfl rfl (by decide) inlX8 wm_5_13 ?_
                                    refine J_iload hX 10 dX8_change_199 rfl ?_
                                    refine J_iload hX 10 dX8_change_201 rfl ?_
                                    refine J_i2l hX dX8_change_203 ?_
                                    refine J_topl (y := lN r) (nI_l (by omega)) ?_
                                    refine J_lload hX 8 dX8_change_204 rfl ?_
                                    refine J_lmul hX dX8_change_206 ?_
                                    refine J_topl (y := lN (r * 10 ^ (e + 1))) (lN_mul _ _) ?_
                                    refine J_lload hX 1 dX8_change_207 rfl ?_
                                    refine J_lcmp hX dX8_change_209 ?_
                                    refine J_ifK_lt hX 222 dX8_change_210 (by decide) (fun h210 => ?_) (fun h210 => ?_)
                                    · skip
                                      refine J_lload hX 1 dX8_change_222 rfl ?_
                                      refine J_topl (y := lN (x_V t.toNatClampNeg (e + 1) r)) (by rw [x_V, Nat.max_eq_right (Nat.le_of_lt ((pk_lLT (by omega) (by omega)).mp h210))]) ?_
                                      refine J_last hX 96 r dX8_change_224 jc_96 rfl (by omega) (by omega) ?_
                                      refine J_iinc (v := nI (r + 1)) (loc' := [(10, .int (nI (r + 1))), (8, .int (jB (x_V t.toNatClampNeg (if r + 1 ≤ v.toNatClampNeg then e else e + 1) v.toNatClampNeg = v.toNatClampNeg * 10 ^ (if r + 1 ≤ v.toNatClampNeg then e else e + 1)))), (11, .long (lN (t.toNatClampNeg * x_V t.toNatClampNeg e (r - 3) + (10 - t.toNatClampNeg) * x_V t.toNatClampNeg e (r + 1)))), (0, .ref (a 77)), (1, .int (nI v.toNatClampNeg)), (2, .int (nI m.toNatClampNeg)), (3, .int (nI t.toNatClampNeg)), (4, .int k), (5, .int p), (6, .long (lN (10 ^ (e + 1)))), (9, .int (nI (e + 1)))]) hX 10 dX8_change_225 rfl (jinc r) (by decide) rfl ?_
                                      refine J_goto hX 114 dX8_change_228 (by decide) ?_
                                      refine J_sub (loc' := [(0, .ref (a 77)), (1, .int (nI v.toNatClampNeg)), (2, .int (nI m.toNatClampNeg)), (3, .int (nI t.toNatClampNeg)), (4, .int k), (5, .int p), (6, .long (lN (10 ^ (e + 1)))), (8, .int (jB (x_V t.toNatClampNeg (if r + 1 ≤ v.toNatClampNeg then e else e + 1) v.toNatClampNeg = v.toNatClampNeg * 10 ^ (if r + 1 ≤ v.toNatClampNeg then e else e + 1)))), (9, .int (nI (e + 1))), (10, .int (nI (r + 1)))]) [3, 4, 5, 6, 7, 8, 9, 1, 10, 0] rfl ?_
                                      refine J_seti (y := jB (x_V t.toNatClampNeg (if (r + 1) ≤ v.toNatClampNeg then e else e + 1) v.toNatClampNeg = v.toNatClampNeg * 10 ^ (if (r + 1) ≤ v.toNatClampNeg then e else e + 1))) (loc' := [(0, .ref (a 77)), (1, .int (nI v.toNatClampNeg)), (2, .int (nI m.toNatClampNeg)), (3, .int (nI t.toNatClampNeg)), (4, .int k), (5, .int p), (6, .long (lN (10 ^ (e + 1)))), (8, .int (jB (x_V t.toNatClampNeg (if (r + 1) ≤ v.toNatClampNeg then e else e + 1) v.toNatClampNeg = v.toNatClampNeg * 10 ^ (if (r + 1) ≤ v.toNatClampNeg then e else e + 1)))), (9, .int (nI (e + 1))), (10, .int (nI (r + 1)))]) 7 rfl rfl rfl ?_
                                      refine J_cg (M' := M) (L' := (jUL L2 96 r (lN (x_V t.toNatClampNeg (e + 1) r)))) rfl rfl rfl rfl ?_
                                      exact ih114  (r + 1) (jUL L2 96 r (lN (x_V t.toNatClampNeg (e + 1) r))) (by omega) (by omega) (fun j hj => by by_cases q : j = r; (subst q; exact jUL_same); (rw [jUL_slot q]; exact hz j (by omega))) (fun j hj => by rw [jUL_cell (by decide)]; exact hw j hj) hH.u6
                                    · skip
                                      refine J_iload hX 10 dX8_change_213 rfl ?_
                                      refine J_i2l hX dX8_change_215 ?_
                                      refine J_topl (y := lN r) (nI_l (by omega)) ?_
                                      refine J_lload hX 8 dX8_change_216 rfl ?_
                                      refine J_lmul hX dX8_change_218 ?_
                                      refine J_topl (y := lN (r * 10 ^ (e + 1))) (lN_mul _ _) ?_
                                      refine J_goto hX 224 dX8_change_219 (by decide) ?_
                                      refine J_topl (y := lN (x_V t.toNatClampNeg (e + 1) r)) (by rw [xge (Int64.not_lt.mp h210)]) ?_
                                      refine J_last hX 96 r dX8_change_224 jc_96 rfl (by omega) (by omega) ?_
                                      refine J_iinc (v := nI (r + 1)) (loc' := [(10, .int (nI (r + 1))), (8, .int (jB (x_V t.toNatClampNeg (if r + 1 ≤ v.toNatClampNeg then e else e + 1) v.toNatClampNeg = v.toNatClampNeg * 10 ^ (if r + 1 ≤ v.toNatClampNeg then e else e + 1)))), (11, .long (lN (t.toNatClampNeg * x_V t.toNatClampNeg e (r - 3) + (10 - t.toNatClampNeg) * x_V t.toNatClampNeg e (r + 1)))), (0, .ref (a 77)), (1, .int (nI v.toNatClampNeg)), (2, .int (nI m.toNatClampNeg)), (3, .int (nI t.toNatClampNeg)), (4, .int k), (5, .int p), (6, .long (lN (10 ^ (e + 1)))), (9, .int (nI (e + 1)))]) hX 10 dX8_change_225 rfl (jinc r) (by decide) rfl ?_
                                      refine J_goto hX 114 dX8_change_228 (by decide) ?_
                                      refine J_sub (loc' := [(0, .ref (a 77)), (1, .int (nI v.toNatClampNeg)), (2, .int (nI m.toNatClampNeg)), (3, .int (nI t.toNatClampNeg)), (4, .int k), (5, .int p), (6, .long (lN (10 ^ (e + 1)))), (8, .int (jB (x_V t.toNatClampNeg (if r + 1 ≤ v.toNatClampNeg then e else e + 1) v.toNatClampNeg = v.toNatClampNeg * 10 ^ (if r + 1 ≤ v.toNatClampNeg then e else e + 1)))), (9, .int (nI (e + 1))), (10, .int (nI (r + 1)))]) [3, 4, 5, 6, 7, 8, 9, 1, 10, 0] rfl ?_
                                      refine J_seti (y := jB (x_V t.toNatClampNeg (if (r + 1) ≤ v.toNatClampNeg then e else e + 1) v.toNatClampNeg = v.toNatClampNeg * 10 ^ (if (r + 1) ≤ v.toNatClampNeg then e else e + 1))) (loc' := [(0, .ref (a 77)), (1, .int (nI v.toNatClampNeg)), (2, .int (nI m.toNatClampNeg)), (3, .int (nI t.toNatClampNeg)), (4, .int k), (5, .int p), (6, .long (lN (10 ^ (e + 1)))), (8, .int (jB (x_V t.toNatClampNeg (if (r + 1) ≤ v.toNatClampNeg then e else e + 1) v.toNatClampNeg = v.toNatClampNeg * 10 ^ (if (r + 1) ≤ v.toNatClampNeg then e else e + 1)))), (9, .int (nI (e + 1))), (10, .int (nI (r + 1)))]) 7 rfl rfl rfl ?_
                                      refine J_cg (M' := M) (L' := (jUL L2 96 r (lN (x_V t.toNatClampNeg (e + 1) r)))) rfl rfl rfl rfl ?_
                                      exact ih114  (r + 1) (jUL L2 96 r (lN (x_V t.toNatClampNeg (e + 1) r))) (by omega) (by omega) (fun j hj => by by_cases q : j = r; (subst q; exact jUL_same); (rw [jUL_slot q]; exact hz j (by omega))) (fun j hj => by rw [jUL_cell (by decide)]; exact hw j hj) hH.u6
                                  · skip
                                    refine J_iconst (v := 1) hX dX8_change_183 (by decide) ?_
                                    refine J_goto hX 193 dX8_change_184 (by decide) ?_
                                    refine J_topi (y := jB (x_V t.toNatClampNeg (if r + 1 ≤ v.toNatClampNeg then e else e + 1) v.toNatClampNeg = v.toNatClampNeg * 10 ^ (if r + 1 ≤ v.toNatClampNeg then e else e + 1))) (by rw [if_neg (show ¬ r + 1 ≤ v.toNatClampNeg by omega), ← show r = v.toNatClampNeg by omega]; rw [jB_t (xge (Int64.not_lt.mp h180))]) ?_
                                    refine J_istore (loc' := [(8, .int (jB (x_V t.toNatClampNeg (if r + 1 ≤ v.toNatClampNeg then e else e + 1) v.toNatClampNeg = v.toNatClampNeg * 10 ^ (if r + 1 ≤ v.toNatClampNeg then e else e + 1)))), (11, .long (lN (t.toNatClampNeg * x_V t.toNatClampNeg e (r - 3) + (10 - t.toNatClampNeg) * x_V t.toNatClampNeg e (r + 1)))), (0, .ref (a 77)), (1, .int (nI v.toNatClampNeg)), (2, .int (nI m.toNatClampNeg)), (3, .int (nI t.toNatClampNeg)), (4, .int k), (5, .int p), (6, .long (lN (10 ^ (e + 1)))), (9, .int (nI (e + 1))), (10, .int (nI r))]) hX dX8_change_193 (by decide) rfl ?_
                                    refine J_aload_n hX 2 dX8_change_195 rfl ?_
                                    refine J_getr hX 77 28 dX8_change_196 jc_77 rfl rfl (by decide) inlX8 wm_5_13 ?_
                                    refine J_iload hX 10 dX8_change_199 rfl ?_
                                    refine J_iload hX 10 dX8_change_201 rfl ?_
                                    refine J_i2l hX dX8_change_203 ?_
                                    refine J_topl (y := lN r) (nI_l (by omega)) ?_
                                    refine J_lload hX 8 dX8_change_204 rfl ?_
                                    refine J_lmul hX dX8_change_206 ?_
                                    refine J_topl (y := lN (r * 10 ^ (e + 1))) (lN_mul _ _) ?_
                                    refine J_lload hX 1 dX8_change_207 rfl ?_
                                    refine J_lcmp hX dX8_change_209 ?_
                                    refine J_ifK_lt hX 222 dX8_change_210 (by decide) (fun h210 => ?_) (fun h210 => ?_)
                                    · skip
                                      refine J_lload hX 1 dX8_change_222 rfl ?_
                                      refine J_topl (y := lN (x_V t.toNatClampNeg (e + 1) r)) (by rw [x_V, Nat.max_eq_right (Nat.le_of_lt ((pk_lLT (by omega) (by omega)).mp h210))]) ?_
                                      refine J_last hX 96 r dX8_change_224 jc_96 rfl (by omega) (by omega) ?_
                                      refine J_iinc (v := nI (r + 1)) (loc' := [(10, .int (nI (r + 1))), (8, .int (jB (x_V t.toNatClampNeg (if r + 1 ≤ v.toNatClampNeg then e else e + 1) v.toNatClampNeg = v.toNatClampNeg * 10 ^ (if r + 1 ≤ v.toNatClampNeg then e else e + 1)))), (11, .long (lN (t.toNatClampNeg * x_V t.toNatClampNeg e (r - 3) + (10 - t.toNatClampNeg) * x_V t.toNatClampNeg e (r + 1)))), (0, .ref (a 77)), (1, .int (nI v.toNatClampNeg)), (2, .int (nI m.toNatClampNeg)), (3, .int (nI t.toNatClampNeg)), (4, .int k), (5, .int p), (6, .long (lN (10 ^ (e + 1)))), (9, .int (nI (e + 1)))]) hX 10 dX8_change_225 rfl (jinc r) (by decide) rfl ?_
                                      refine J_goto hX 114 dX8_change_228 (by decide) ?_
                                      refine J_sub (loc' := [(0, .ref (a 77)), (1, .int (nI v.toNatClampNeg)), (2, .int (nI m.toNatClampNeg)), (3, .int (nI t.toNatClampNeg)), (4, .int k), (5, .int p), (6, .long (lN (10 ^ (e + 1)))), (8, .int (jB (x_V t.toNatClampNeg (if r + 1 ≤ v.toNatClampNeg then e else e + 1) v.toNatClampNeg = v.toNatClampNeg * 10 ^ (if r + 1 ≤ v.toNatClampNeg then e else e + 1)))), (9, .int (nI (e + 1))), (10, .int (nI (r + 1)))]) [3, 4, 5, 6, 7, 8, 9, 1, 10, 0] rfl ?_
                                      refine J_seti (y := jB (x_V t.toNatClampNeg (if (r + 1) ≤ v.toNatClampNeg then e else e + 1) v.toNatClampNeg = v.toNatClampNeg * 10 ^ (if (r + 1) ≤ v.toNatClampNeg then e else e + 1))) (loc' := [(0, .ref (a 77)), (1, .int (nI v.toNatClampNeg)), (2, .int (nI m.toNatClampNeg)), (3, .int (nI t.toNatClampNeg)), (4, .int k), (5, .int p), (6, .long (lN (10 ^ (e + 1)))), (8, .int (jB (x_V t.toNatClampNeg (if (r + 1) ≤ v.toNatClampNeg then e else e + 1) v.toNatClampNeg = v.toNatClampNeg * 10 ^ (if (r + 1) ≤ v.toNatClampNeg then e else e + 1)))), (9, .int (nI (e + 1))), (10, .int (nI (r + 1)))]) 7 rfl rfl rfl ?_
                                      refine J_cg (M' := M) (L' := (jUL L2 96 r (lN (x_V t.toNatClampNeg (e + 1) r)))) rfl rfl rfl rfl ?_
                                      exact ih114  (r + 1) (jUL L2 96 r (lN (x_V t.toNatClampNeg (e + 1) r))) (by omega) (by omega) (fun j hj => by by_cases q : j = r; (subst q; exact jUL_same); (rw [jUL_slot q]; exact hz j (by omega))) (fun j hj => by rw [jUL_cell (by decide)]; exact hw j hj) hH.u6
                                    · skip
                                      refine J_iload hX 10 dX8_change_213 rfl ?_
                                      refine J_i2l hX dX8_change_215 ?_
                                      refine J_topl (y := lN r) (nI_l (by omega)) ?_
                                      refine J_lload hX 8 dX8_change_216 rfl ?_
                                      refine J_lmul hX dX8_change_218 ?_
                                      refine J_topl (y := lN (r * 10 ^ (e + 1))) (lN_mul _ _) ?_
                                      refine J_goto hX 224 dX8_change_219 (by decide) ?_
                                      refine J_topl (y := lN (x_V t.toNatClampNeg (e + 1) r)) (by rw [xge (Int64.not_lt.mp h210)]) ?_
                                      refine J_last hX 96 r dX8_change_224 jc_96 rfl (by omega) (by omega) ?_
                                      refine J_iinc (v := nI (r + 1)) (loc' := [(10, .int (nI (r + 1))), (8, .int (jB (x_V t.toNatClampNeg (if r + 1 ≤ v.toNatClampNeg then e else e + 1) v.toNatClampNeg = v.toNatClampNeg * 10 ^ (if r + 1 ≤ v.toNatClampNeg then e else e + 1)))), (11, .long (lN (t.toNatClampNeg * x_V t.toNatClampNeg e (r - 3) + (10 - t.toNatClampNeg) * x_V t.toNatClampNeg e (r + 1)))), (0, .ref (a 77)), (1, .int (nI v.toNatClampNeg)), (2, .int (nI m.toNatClampNeg)), (3, .int (nI t.toNatClampNeg)), (4, .int k), (5, .int p), (6, .long (lN (10 ^ (e + 1)))), (9, .int (nI (e + 1)))]) hX 10 dX8_change_225 rfl (jinc r) (by decide) rfl ?_
                                      refine J_goto hX 114 dX8_change_228 (by decide) ?_
                                      refine J_sub (loc' := [(0, .ref (a 77)), (1, .int (nI v.toNatClampNeg)), (2, .int (nI m.toNatClampNeg)), (3, .int (nI t.toNatClampNeg)), (4, .int k), (5, .int p), (6, .long (lN (10 ^ (e + 1)))), (8, .int (jB (x_V t.toNatClampNeg (if r + 1 ≤ v.toNatClampNeg then e else e + 1) v.toNatClampNeg = v.toNatClampNeg * 10 ^ (if r + 1 ≤ v.toNatClampNeg then e else e + 1)))), (9, .int (nI (e + 1))), (10, .int (nI (r + 1)))]) [3, 4, 5, 6, 7, 8, 9, 1, 10, 0] rfl ?_
                                      refine J_seti (y := jB (x_V t.toNatClampNeg (if (r + 1) ≤ v.toNatClampNeg then e else e + 1) v.toNatClampNeg = v.toNatClampNeg * 10 ^ (if (r + 1) ≤ v.toNatClampNeg then e else e + 1))) (loc' := [(0, .ref (a 77)), (1, .int (nI v.toNatClampNeg)), (2, .int (nI m.toNatClampNeg)), (3, .int (nI t.toNatClampNeg)), (4, .int k), (5, .int p), (6, .long (lN (10 ^ (e + 1)))), (8, .int (jB (x_V t.toNatClampNeg (if (r + 1) ≤ v.toNatClampNeg then e else e + 1) v.toNatClampNeg = v.toNatClampNeg * 10 ^ (if (r + 1) ≤ v.toNatClampNeg then e else e + 1)))), (9, .int (nI (e + 1))), (10, .int (nI (r + 1)))]) 7 rfl rfl rfl ?_
                                      refine J_cg (M' := M) (L' := (jUL L2 96 r (lN (x_V t.toNatClampNeg (e + 1) r)))) rfl rfl rfl rfl ?_
                                      exact ih114  (r + 1) (jUL L2 96 r (lN (x_V t.toNatClampNeg (e + 1) r))) (by omega) (by omega) (fun j hj => by by_cases q : j = r; (subst q; exact jUL_same); (rw [jUL_slot q]; exact hz j (by omega))) (fun j hj => by rw [jUL_cell (by decide)]; exact hw j hj) hH.u6
                              · skip
                                refine J_iload hX 9 dX8_change_136 rfl ?_
                                refine J_iconst (v := 3) hX dX8_change_138 (by decide) ?_
                                refine J_isub hX dX8_change_139 ?_
                                refine J_goto hX 144 dX8_change_140 (by decide) ?_
                                refine J_topi (y := nI (r - 3)) (pk_sub (b := 3) (by omega)) ?_
                                refine J_lald hX 95 (r - 3) dX8_change_144 jc_95 rfl (by omega) (by omega) ?_
                                refine J_topl (y := lN (x_V t.toNatClampNeg e (r - 3))) (hw _ (by omega)) ?_
                                refine J_lmul hX dX8_change_145 ?_
                                refine J_topl (y := lN (t.toNatClampNeg * x_V t.toNatClampNeg e (r - 3))) (lN_mul _ _) ?_
                                refine J_ldc2 hX dX8_change_146 wm_26_19 ?_
                                refine J_iload_n hX 3 dX8_change_149 rfl ?_
                                refine J_i2l hX dX8_change_150 ?_
                                refine J_topl (y := lN t.toNatClampNeg) (nI_l (by omega)) ?_
                                refine J_lsub hX dX8_change_151 ?_
                                refine J_topl (y := lN (10 - t.toNatClampNeg)) (lN_sub (a := 10) (by omega)) ?_
                                refine J_aload_n hX 0 dX8_change_152 rfl ?_
                                refine J_getr hX 77 27 dX8_change_153 jc_77 rfl rfl (by decide) inlX8 wm_5_12 ?_
                                refine J_iload hX 9 dX8_change_156 rfl ?_
                                refine J_iconst (v := 1) hX dX8_change_158 (by decide) ?_
                                refine J_iadd hX dX8_change_159 ?_
                                refine J_topi (y := nI (r + 1)) (nI_1 r) ?_
                                refine J_lald hX 95 (r + 1) dX8_change_160 jc_95 rfl (by omega) (by omega) ?_
                                refine J_topl (y := lN (x_V t.toNatClampNeg e (r + 1))) (hw _ (by omega)) ?_
                                refine J_lmul hX dX8_change_161 ?_
                                refine J_topl (y := lN ((10 - t.toNatClampNeg) * x_V t.toNatClampNeg e (r + 1))) (lN_mul _ _) ?_
                                refine J_ladd hX dX8_change_162 ?_
                                refine J_topl (y := lN (t.toNatClampNeg * x_V t.toNatClampNeg e (r - 3) + (10 - t.toNatClampNeg) * x_V t.toNatClampNeg e (r + 1))) (lN_add _ _) ?_
                                refine J_lstore (loc' := [(11, .long (lN (t.toNatClampNeg * x_V t.toNatClampNeg e (r - 3) + (10 - t.toNatClampNeg) * x_V t.toNatClampNeg e (r + 1)))), (0, .ref (a 77)), (1, .int (nI v.toNatClampNeg)), (2, .int (nI m.toNatClampNeg)), (3, .int (nI t.toNatClampNeg)), (4, .int k), (5, .int p), (6, .long (lN (10 ^ (e + 1)))), (8, .int (jB (x_V t.toNatClampNeg (if r ≤ v.toNatClampNeg then e else e + 1) v.toNatClampNeg = v.toNatClampNeg * 10 ^ (if r ≤ v.toNatClampNeg then e else e + 1)))), (9, .int (nI (e + 1))), (10, .int (nI r))]) hX dX8_change_163 (by decide) rfl ?_
                                refine J_iload hX 10 dX8_change_165 rfl ?_
                                refine J_iload_n hX 2 dX8_change_167 rfl ?_
                                refine J_cmpN_ne hX 191 r v.toNatClampNeg dX8_change_168 (by decide) rfl rfl (by omega) (by omega) (fun h168 => ?_) (fun h168 => ?_)
                                · skip
                                  refine J_iload hX 8 dX8_change_191 rfl ?_
                                  refine J_topi (y := jB (x_V t.toNatClampNeg (if r + 1 ≤ v.toNatClampNeg then e else e + 1) v.toNatClampNeg = v.toNatClampNeg * 10 ^ (if r + 1 ≤ v.toNatClampNeg then e else e + 1))) (by by_cases q : r + 1 ≤ v.toNatClampNeg; (rw [if_pos q, if_pos (by omega)]); (rw [if_neg q, if_neg (by omega)])) ?_
                                  refine J_istore (loc' := [(8, .int (jB (x_V t.toNatClampNeg (if r + 1 ≤ v.toNatClampNeg then e else e + 1) v.toNatClampNeg = v.toNatClampNeg * 10 ^ (if r + 1 ≤ v.toNatClampNeg then e else e + 1)))), (11, .long (lN (t.toNatClampNeg * x_V t.toNatClampNeg e (r - 3) + (10 - t.toNatClampNeg) * x_V t.toNatClampNeg e (r + 1)))), (0, .ref (a 77)), (1, .int (nI v.toNatClampNeg)), (2, .int (nI m.toNatClampNeg)), (3, .int (nI t.toNatClampNeg)), (4, .int k), (5, .int p), (6, .long (lN (10 ^ (e + 1)))), (9, .int (nI (e + 1))), (10, .int (nI r))]) hX dX8_change_193 (by decide) rfl ?_
                                  refine J_aload_n hX 2 dX8_change_195 rfl ?_
                                  refine J_getr hX 77 28 dX8_change_196 jc_77 rfl rfl (by decide) inlX8 wm_5_13 ?_
                                  refine J_iload hX 10 dX8_change_199 rfl ?_
                                  refine J_iload hX 10 dX8_change_201 rfl ?_
                                  refine J_i2l hX dX8_change_203 ?_
                                  refine J_topl (y := lN r) (nI_l (by omega)) ?_
                                  refine J_lload hX 8 dX8_change_204 rfl ?_
                                  refine J_lmul hX dX8_change_206 ?_
                                  refine J_topl (y := lN (r * 10 ^ (e + 1))) (lN_mul _ _) ?_
                                  refine J_lload hX 1 dX8_change_207 rfl ?_
                                  refine J_lcmp hX dX8_change_209 ?_
                                  refine J_ifK_lt hX 222 dX8_change_210 (by decide) (fun h210 => ?_) (fun h210 => ?_)
                                  · skip
                                    refine J_lload hX 1 dX8_change_222 rfl ?_
                                    refine J_topl (y := lN (x_V t.toNatClampNeg (e + 1) r)) (by rw [x_V, Nat.max_eq_right (Nat.le_of_lt ((pk_lLT (by omega) (by omega)).mp h210))]) ?_
                                    refine J_last hX 96 r dX8_change_224 jc_96 rfl (by omega) (by omega) ?_
                                    refine J_iinc (v := nI (r + 1)) (loc' := [(10, .int (nI (r + 1))), (8, .int (jB (x_V t.toNatClampNeg (if r + 1 ≤ v.toNatClampNeg then e else e + 1) v.toNatClampNeg = v.toNatClampNeg * 10 ^ (if r + 1 ≤ v.toNatClampNeg then e else e + 1)))), (11, .long (lN (t.toNatClampNeg * x_V t.toNatClampNeg e (r - 3) + (10 - t.toNatClampNeg) * x_V t.toNatClampNeg e (r + 1)))), (0, .ref (a 77)), (1, .int (nI v.toNatClampNeg)), (2, .int (nI m.toNatClampNeg)), (3, .int (nI t.toNatClampNeg)), (4, .int k), (5, .int p), (6, .long (lN (10 ^ (e + 1)))), (9, .int (nI (e + 1)))]) hX 10 dX8_change_225 rfl (jinc r) (by decide) rfl ?_
                                    refine J_goto hX 114 dX8_change_228 (by decide) ?_
                                    refine J_sub (loc' := [(0, .ref (a 77)), (1, .int (nI v.toNatClampNeg)), (2, .int (nI m.toNatClampNeg)), (3, .int (nI t.toNatClampNeg)), (4, .int k), (5, .int p), (6, .long (lN (10 ^ (e + 1)))), (8, .int (jB (x_V t.toNatClampNeg (if r + 1 ≤ v.toNatClampNeg then e else e + 1) v.toNatClampNeg = v.toNatClampNeg * 10 ^ (if r + 1 ≤ v.toNatClampNeg then e else e + 1)))), (9, .int (nI (e + 1))), (10, .int (nI (r + 1)))]) [3, 4, 5, 6, 7, 8, 9, 1, 10, 0] rfl ?_
                                    refine J_seti (y := jB (x_V t.toNatClampNeg (if (r + 1) ≤ v.toNatClampNeg then e else e + 1) v.toNatClampNeg = v.toNatClampNeg * 10 ^ (if (r + 1) ≤ v.toNatClampNeg then e else e + 1))) (loc' := [(0, .ref (a 77)), (1, .int (nI v.toNatClampNeg)), (2, .int (nI m.toNatClampNeg)), (3, .int (nI t.toNatClampNeg)), (4, .int k), (5, .int p), (6, .long (lN (10 ^ (e + 1)))), (8, .int (jB (x_V t.toNatClampNeg (if (r + 1) ≤ v.toNatClampNeg then e else e + 1) v.toNatClampNeg = v.toNatClampNeg * 10 ^ (if (r + 1) ≤ v.toNatClampNeg then e else e + 1)))), (9, .int (nI (e + 1))), (10, .int (nI (r + 1)))]) 7 rfl rfl rfl ?_
                                    refine J_cg (M' := M) (L' := (jUL L2 96 r (lN (x_V t.toNatClampNeg (e + 1) r)))) rfl rfl rfl rfl ?_
                                    exact ih114  (r + 1) (jUL L2 96 r (lN (x_V t.toNatClampNeg (e + 1) r))) (by omega) (by omega) (fun j hj => by by_cases q : j = r; (subst q; exact jUL_same); (rw [jUL_slot q]; exact hz j (by omega))) (fun j hj => by rw [jUL_cell (by decide)]; exact hw j hj) hH.u6
                                  · skip
                                    refine J_iload hX 10 dX8_change_213 rfl ?_
                                    refine J_i2l hX dX8_change_215 ?_
                                    refine J_topl (y := lN r) (nI_l (by omega)) ?_
                                    refine J_lload hX 8 dX8_change_216 rfl ?_
                                    refine J_lmul hX dX8_change_218 ?_
                                    refine J_topl (y := lN (r * 10 ^ (e + 1))) (lN_mul _ _) ?_
                                    refine J_goto hX 224 dX8_change_219 (by decide) ?_
                                    refine J_topl (y := lN (x_V t.toNatClampNeg (e + 1) r)) (by rw [xge (Int64.not_lt.mp h210)]) ?_
                                    refine J_last hX 96 r dX8_change_224 jc_96 rfl (by omega) (by omega) ?_
                                    refine J_iinc (v := nI (r + 1)) (loc' := [(10, .int (nI (r + 1))), (8, .int (jB (x_V t.toNatClampNeg (if r + 1 ≤ v.toNatClampNeg then e else e + 1) v.toNatClampNeg = v.toNatClampNeg * 10 ^ (if r + 1 ≤ v.toNatClampNeg then e else e + 1)))), (11, .long (lN (t.toNatClampNeg * x_V t.toNatClampNeg e (r - 3) + (10 - t.toNatClampNeg) * x_V t.toNatClampNeg e (r + 1)))), (0, .ref (a 77)), (1, .int (nI v.toNatClampNeg)), (2, .int (nI m.toNatClampNeg)), (3, .int (nI t.toNatClampNeg)), (4, .int k), (5, .int p), (6, .long (lN (10 ^ (e + 1)))), (9, .int (nI (e + 1)))]) hX 10 dX8_change_225 rfl (jinc r) (by decide) rfl ?_
                                    refine J_goto hX 114 dX8_change_228 (by decide) ?_
                                    refine J_sub (loc' := [(0, .ref (a 77)), (1, .int (nI v.toNatClampNeg)), (2, .int (nI m.toNatClampNeg)), (3, .int (nI t.toNatClampNeg)), (4, .int k), (5, .int p), (6, .long (lN (10 ^ (e + 1)))), (8, .int (jB (x_V t.toNatClampNeg (if r + 1 ≤ v.toNatClampNeg then e else e + 1) v.toNatClampNeg = v.toNatClampNeg * 10 ^ (if r + 1 ≤ v.toNatClampNeg then e else e + 1)))), (9, .int (nI (e + 1))), (10, .int (nI (r + 1)))]) [3, 4, 5, 6, 7, 8, 9, 1, 10, 0] rfl ?_
                                    refine J_seti (y := jB (x_V t.toNatClampNeg (if (r + 1) ≤ v.toNatClampNeg then e else e + 1) v.toNatClampNeg = v.toNatClampNeg * 10 ^ (if (r + 1) ≤ v.toNatClampNeg then e else e + 1))) (loc' := [(0, .ref (a 77)), (1, .int (nI v.toNatClampNeg)), (2, .int (nI m.toNatClampNeg)), (3, .int (nI t.toNatClampNeg)), (4, .int k), (5, .int p), (6, .long (lN (10 ^ (e + 1)))), (8, .int (jB (x_V t.toNatClampNeg (if (r + 1) ≤ v.toNatClampNeg then e else e + 1) v.toNatClampNeg = v.toNatClampNeg * 10 ^ (if (r + 1) ≤ v.toNatClampNeg then e else e + 1)))), (9, .int (nI (e + 1))), (10, .int (nI (r + 1)))]) 7 rfl rfl rfl ?_
                                    refine J_cg (M' := M) (L' := (jUL L2 96 r (lN (x_V t.toNatClampNeg (e + 1) r)))) rfl rfl rfl rfl ?_
                                    exact ih114  (r + 1) (jUL L2 96 r (lN (x_V t.toNatClampNeg (e + 1) r))) (by omega) (by omega) (fun j hj => by by_cases q : j = r; (subst q; exact jUL_same); (rw [jUL_slot q]; exact hz j (by omega))) (fun j hj => by rw [jUL_cell (by decide)]; exact hw j hj) hH.u6
                                · skip
                                  refine J_iload hX 10 dX8_change_171 rfl ?_
                                  refine J_i2l hX dX8_change_173 ?_
                                  refine J_topl (y := lN r) (nI_l (by omega)) ?_
                                  refine J_lload hX 7 dX8_change_174 rfl ?_
                                  refine J_lmul hX dX8_change_176 ?_
                                  refine J_topl (y := lN (r * 10 ^ (e + 1))) (lN_mul _ _) ?_
                                  refine J_lload hX 0 dX8_change_177 rfl ?_
                                  refine J_lcmp hX dX8_change_179 ?_
                                  refine J_ifK_lt hX 187 dX8_change_180 (by decide) (fun h180 => ?_) (fun h180 => ?_)
                                  · skip
                                    refine J_iconst (v := 0) hX dX8_change_187 (by decide) ?_
                                    refine J_goto hX 193 dX8_change_188 (by decide) ?_
                                    refine J_topi (y := jB (x_V t.toNatClampNeg (if r + 1 ≤ v.toNatClampNeg then e else e + 1) v.toNatClampNeg = v.toNatClampNeg * 10 ^ (if r + 1 ≤ v.toNatClampNeg then e else e + 1))) (by rw [if_neg (show ¬ r + 1 ≤ v.toNatClampNeg by omega), ← show r = v.toNatClampNeg by omega]; rw [jB_f (fun q => xlt h180 q)]) ?_
                                    refine J_istore (loc' := [(8, .int (jB (x_V t.toNatClampNeg (if r + 1 ≤ v.toNatClampNeg then e else e + 1) v.toNatClampNeg = v.toNatClampNeg * 10 ^ (if r + 1 ≤ v.toNatClampNeg then e else e + 1)))), (11, .long (lN (t.toNatClampNeg * x_V t.toNatClampNeg e (r - 3) + (10 - t.toNatClampNeg) * x_V t.toNatClampNeg e (r + 1)))), (0, .ref (a 77)), (1, .int (nI v.toNatClampNeg)), (2, .int (nI m.toNatClampNeg)), (3, .int (nI t.toNatClampNeg)), (4, .int k), (5, .int p), (6, .long (lN (10 ^ (e + 1)))), (9, .int (nI (e + 1))), (10, .int (nI r))]) hX dX8_change_193 (by decide) rfl ?_
                                    refine J_aload_n hX 2 dX8_change_195 rfl ?_
                                    refine J_getr hX 77 28 dX8_change_196 jc_77 rfl rfl (by decide) inlX8 wm_5_13 ?_
                                    refine J_iload hX 10 dX8_change_199 rfl ?_
                                    refine J_iload hX 10 dX8_change_201 rfl ?_
                                    refine J_i2l hX dX8_change_203 ?_
                                    refine J_topl (y := lN r) (nI_l (by omega)) ?_
                                    refine J_lload hX 8 dX8_change_204 rfl ?_
                                    refine J_lmul hX dX8_change_206 ?_
                                    refine J_topl (y := lN (r * 10 ^ (e + 1))) (lN_mul _ _) ?_
                                    refine J_lload hX 1 dX8_change_207 rfl ?_
                                    refine J_lcmp hX dX8_change_209 ?_
                                    refine J_ifK_lt hX 222 dX8_change_210 (by decide) (fun h210 => ?_) (fun h210 => ?_)
                                    · skip
                                      refine J_lload hX 1 dX8_change_222 rfl ?_
                                      refine J_topl (y := lN (x_V t.toNatClampNeg (e + 1) r)) (by rw [x_V, Nat.max_eq_right (Nat.le_of_lt ((pk_lLT (by omega) (by omega)).mp h210))]) ?_
                                      refine J_last hX 96 r dX8_change_224 jc_96 rfl (by omega) (by omega) ?_
                                      refine J_iinc (v := nI (r + 1)) (loc' := [(10, .int (nI (r + 1))), (8, .int (jB (x_V t.toNatClampNeg (if r + 1 ≤ v.toNatClampNeg then e else e + 1) v.toNatClampNeg = v.toNatClampNeg * 10 ^ (if r + 1 ≤ v.toNatClampNeg then e else e + 1)))), (11, .long (lN (t.toNatClampNeg * x_V t.toNatClampNeg e (r - 3) + (10 - t.toNatClampNeg) * x_V t.toNatClampNeg e (r + 1)))), (0, .ref (a 77)), (1, .int (nI v.toNatClampNeg)), (2, .int (nI m.toNatClampNeg)), (3, .int (nI t.toNatClampNeg)), (4, .int k), (5, .int p), (6, .long (lN (10 ^ (e + 1)))), (9, .int (nI (e + 1)))]) hX 10 dX8_change_225 rfl (jinc r) (by decide) rfl ?_
                                      refine J_goto hX 114 dX8_change_228 (by decide) ?_
                                      refine J_sub (loc' := [(0, .ref (a 77)), (1, .int (nI v.toNatClampNeg)), (2, .int (nI m.toNatClampNeg)), (3, .int (nI t.toNatClampNeg)), (4, .int k), (5, .int p), (6, .long (lN (10 ^ (e + 1)))), (8, .int (jB (x_V t.toNatClampNeg (if r + 1 ≤ v.toNatClampNeg then e else e + 1) v.toNatClampNeg = v.toNatClampNeg * 10 ^ (if r + 1 ≤ v.toNatClampNeg then e else e + 1)))), (9, .int (nI (e + 1))), (10, .int (nI (r + 1)))]) [3, 4, 5, 6, 7, 8, 9, 1, 10, 0] rfl ?_
                                      refine J_seti (y := jB (x_V t.toNatClampNeg (if (r + 1) ≤ v.toNatClampNeg then e else e + 1) v.toNatClampNeg = v.toNatClampNeg * 10 ^ (if (r + 1) ≤ v.toNatClampNeg then e else e + 1))) (loc' := [(0, .ref (a 77)), (1, .int (nI v.toNatClampNeg)), (2, .int (nI m.toNatClampNeg)), (3, .int (nI t.toNatClampNeg)), (4, .int k), (5, .int p), (6, .long (lN (10 ^ (e + 1)))), (8, .int (jB (x_V t.toNatClampNeg (if (r + 1) ≤ v.toNatClampNeg then e else e + 1) v.toNatClampNeg = v.toNatClampNeg * 10 ^ (if (r + 1) ≤ v.toNatClampNeg then e else e + 1)))), (9, .int (nI (e + 1))), (10, .int (nI (r + 1)))]) 7 rfl rfl rfl ?_
                                      refine J_cg (M' := M) (L' := (jUL L2 96 r (lN (x_V t.toNatClampNeg (e + 1) r)))) rfl rfl rfl rfl ?_
                                      exact ih114  (r + 1) (jUL L2 96 r (lN (x_V t.toNatClampNeg (e + 1) r))) (by omega) (by omega) (fun j hj => by by_cases q : j = r; (subst q; exact jUL_same); (rw [jUL_slot q]; exact hz j (by omega))) (fun j hj => by rw [jUL_cell (by decide)]; exact hw j hj) hH.u6
                                    · skip
                                      refine J_iload hX 10 dX8_change_213 rfl ?_
                                      refine J_i2l hX dX8_change_215 ?_
                                      refine J_topl (y := lN r) (nI_l (by omega)) ?_
                                      refine J_lload hX 8 dX8_change_216 rfl ?_
                                      refine J_lmul hX dX8_change_218 ?_
                                      refine J_topl (y := lN (r * 10 ^ (e + 1))) (lN_mul _ _) ?_
                                      refine J_goto hX 224 dX8_change_219 (by decide) ?_
                                      refine J_topl (y := lN (x_V t.toNatClampNeg (e + 1) r)) (by rw [xge (Int64.not_lt.mp h210)]) ?_
                                      refine J_last hX 96 r dX8_change_224 jc_96 rfl (by omega) (by omega) ?_
                                      refine J_iinc (v := nI (r + 1)) (loc' := [(10, .int (nI (r + 1))), (8, .int (jB (x_V t.toNatClampNeg (if r + 1 ≤ v.toNatClampNeg then e else e + 1) v.toNatClampNeg = v.toNatClampNeg * 10 ^ (if r + 1 ≤ v.toNatClampNeg then e else e + 1)))), (11, .long (lN (t.toNatClampNeg * x_V t.toNatClampNeg e (r - 3) + (10 - t.toNatClampNeg) * x_V t.toNatClampNeg e (r + 1)))), (0, .ref (a 77)), (1, .int (nI v.toNatClampNeg)), (2, .int (nI m.toNatClampNeg)), (3, .int (nI t.toNatClampNeg)), (4, .int k), (5, .int p), (6, .long (lN (10 ^ (e + 1)))), (9, .int (nI (e + 1)))]) hX 10 dX8_change_225 rfl (jinc r) (by decide) rfl ?_
                                      refine J_goto hX 114 dX8_change_228 (by decide) ?_
                                      refine J_sub (loc' := [(0, .ref (a 77)), (1, .int (nI v.toNatClampNeg)), (2, .int (nI m.toNatClampNeg)), (3, .int (nI t.toNatClampNeg)), (4, .int k), (5, .int p), (6, .long (lN (10 ^ (e + 1)))), (8, .int (jB (x_V t.toNatClampNeg (if r + 1 ≤ v.toNatClampNeg then e else e + 1) v.toNatClampNeg = v.toNatClampNeg * 10 ^ (if r + 1 ≤ v.toNatClampNeg then e else e + 1)))), (9, .int (nI (e + 1))), (10, .int (nI (r + 1)))]) [3, 4, 5, 6, 7, 8, 9, 1, 10, 0] rfl ?_
                                      refine J_seti (y := jB (x_V t.toNatClampNeg (if (r + 1) ≤ v.toNatClampNeg then e else e + 1) v.toNatClampNeg = v.toNatClampNeg * 10 ^ (if (r + 1) ≤ v.toNatClampNeg then e else e + 1))) (loc' := [(0, .ref (a 77)), (1, .int (nI v.toNatClampNeg)), (2, .int (nI m.toNatClampNeg)), (3, .int (nI t.toNatClampNeg)), (4, .int k), (5, .int p), (6, .long (lN (10 ^ (e + 1)))), (8, .int (jB (x_V t.toNatClampNeg (if (r + 1) ≤ v.toNatClampNeg then e else e + 1) v.toNatClampNeg = v.toNatClampNeg * 10 ^ (if (r + 1) ≤ v.toNatClampNeg then e else e + 1)))), (9, .int (nI (e + 1))), (10, .int (nI (r + 1)))]) 7 rfl rfl rfl ?_
                                      refine J_cg (M' := M) (L' := (jUL L2 96 r (lN (x_V t.toNatClampNeg (e + 1) r)))) rfl rfl rfl rfl ?_
                                      exact ih114  (r + 1) (jUL L2 96 r (lN (x_V t.toNatClampNeg (e + 1) r))) (by omega) (by omega) (fun j hj => by by_cases q : j = r; (subst q; exact jUL_same); (rw [jUL_slot q]; exact hz j (by omega))) (fun j hj => by rw [jUL_cell (by decide)]; exact hw j hj) hH.u6
                                  · skip
                                    refine J_iconst (v := 1) hX dX8_change_183 (by decide) ?_
                                    refine J_goto hX 193 dX8_change_184 (by decide) ?_
                                    refine J_topi (y := jB (x_V t.toNatClampNeg (if r + 1 ≤ v.toNatClampNeg then e else e + 1) v.toNatClampNeg = v.toNatClampNeg * 10 ^ (if r + 1 ≤ v.toNatClampNeg then e else e + 1))) (by rw [if_neg (show ¬ r + 1 ≤ v.toNatClampNeg by omega), ← show r = v.toNatClampNeg by omega]; rw [jB_t (xge (Int64.not_lt.mp h180))]) ?_
                                    refine J_istore (loc' := [(8, .int (jB (x_V t.toNatClampNeg (if r + 1 ≤ v.toNatClampNeg then e else e + 1) v.toNatClampNeg = v.toNatClampNeg * 10 ^ (if r + 1 ≤ v.toNatClampNeg then e else e + 1)))), (11, .long (lN (t.toNatClampNeg * x_V t.toNatClampNeg e (r - 3) + (10 - t.toNatClampNeg) * x_V t.toNatClampNeg e (r + 1)))), (0, .ref (a 77)), (1, .int (nI v.toNatClampNeg)), (2, .int (nI m.toNatClampNeg)), (3, .int (nI t.toNatClampNeg)), (4, .int k), (5, .int p), (6, .long (lN (10 ^ (e + 1)))), (9, .int (nI (e + 1))), (10, .int (nI r))]) hX dX8_change_193 (by decide) rfl ?_
                                    refine J_aload_n hX 2 dX8_change_195 rfl ?_
                                    refine J_getr hX 77 28 dX8_change_196 jc_77 rfl rfl (by decide) inlX8 wm_5_13 ?_
                                    refine J_iload hX 10 dX8_change_199 rfl ?_
                                    refine J_iload hX 10 dX8_change_201 rfl ?_
                                    refine J_i2l hX dX8_change_203 ?_
                                    refine J_topl (y := lN r) (nI_l (by omega)) ?_
                                    refine J_lload hX 8 dX8_change_204 rfl ?_
                                    refine J_lmul hX dX8_change_206 ?_
                                    refine J_topl (y := lN (r * 10 ^ (e + 1))) (lN_mul _ _) ?_
                                    refine J_lload hX 1 dX8_change_207 rfl ?_
                                    refine J_lcmp hX dX8_change_209 ?_
                                    refine J_ifK_lt hX 222 dX8_change_210 (by decide) (fun h210 => ?_) (fun h210 => ?_)
                                    · skip
                                      refine J_lload hX 1 dX8_change_222 rfl ?_
                                      refine J_topl (y := lN (x_V t.toNatClampNeg (e + 1) r)) (by rw [x_V, Nat.max_eq_right (Nat.le_of_lt ((pk_lLT (by omega) (by omega)).mp h210))]) ?_
                                      refine J_last hX 96 r dX8_change_224 jc_96 rfl (by omega) (by omega) ?_
                                      refine J_iinc (v := nI (r + 1)) (loc' := [(10, .int (nI (r + 1))), (8, .int (jB (x_V t.toNatClampNeg (if r + 1 ≤ v.toNatClampNeg then e else e + 1) v.toNatClampNeg = v.toNatClampNeg * 10 ^ (if r + 1 ≤ v.toNatClampNeg then e else e + 1)))), (11, .long (lN (t.toNatClampNeg * x_V t.toNatClampNeg e (r - 3) + (10 - t.toNatClampNeg) * x_V t.toNatClampNeg e (r + 1)))), (0, .ref (a 77)), (1, .int (nI v.toNatClampNeg)), (2, .int (nI m.toNatClampNeg)), (3, .int (nI t.toNatClampNeg)), (4, .int k), (5, .int p), (6, .long (lN (10 ^ (e + 1)))), (9, .int (nI (e + 1)))]) hX 10 dX8_change_225 rfl (jinc r) (by decide) rfl ?_
                                      refine J_goto hX 114 dX8_change_228 (by decide) ?_
                                      refine J_sub (loc' := [(0, .ref (a 77)), (1, .int (nI v.toNatClampNeg)), (2, .int (nI m.toNatClampNeg)), (3, .int (nI t.toNatClampNeg)), (4, .int k), (5, .int p), (6, .long (lN (10 ^ (e + 1)))), (8, .int (jB (x_V t.toNatClampNeg (if r + 1 ≤ v.toNatClampNeg then e else e + 1) v.toNatClampNeg = v.toNatClampNeg * 10 ^ (if r + 1 ≤ v.toNatClampNeg then e else e + 1)))), (9, .int (nI (e + 1))), (10, .int (nI (r + 1)))]) [3, 4, 5, 6, 7, 8, 9, 1, 10, 0] rfl ?_
                                      refine J_seti (y := jB (x_V t.toNatClampNeg (if (r + 1) ≤ v.toNatClampNeg then e else e + 1) v.toNatClampNeg = v.toNatClampNeg * 10 ^ (if (r + 1) ≤ v.toNatClampNeg then e else e + 1))) (loc' := [(0, .ref (a 77)), (1, .int (nI v.toNatClampNeg)), (2, .int (nI m.toNatClampNeg)), (3, .int (nI t.toNatClampNeg)), (4, .int k), (5, .int p), (6, .long (lN (10 ^ (e + 1)))), (8, .int (jB (x_V t.toNatClampNeg (if (r + 1) ≤ v.toNatClampNeg then e else e + 1) v.toNatClampNeg = v.toNatClampNeg * 10 ^ (if (r + 1) ≤ v.toNatClampNeg then e else e + 1)))), (9, .int (nI (e + 1))), (10, .int (nI (r + 1)))]) 7 rfl rfl rfl ?_
                                      refine J_cg (M' := M) (L' := (jUL L2 96 r (lN (x_V t.toNatClampNeg (e + 1) r)))) rfl rfl rfl rfl ?_
                                      exact ih114  (r + 1) (jUL L2 96 r (lN (x_V t.toNatClampNeg (e + 1) r))) (by omega) (by omega) (fun j hj => by by_cases q : j = r; (subst q; exact jUL_same); (rw [jUL_slot q]; exact hz j (by omega))) (fun j hj => by rw [jUL_cell (by decide)]; exact hw j hj) hH.u6
                                    · skip
                                      refine J_iload hX 10 dX8_change_213 rfl ?_
                                      refine J_i2l hX dX8_change_215 ?_
                                      refine J_topl (y := lN r) (nI_l (by omega)) ?_
                                      refine J_lload hX 8 dX8_change_216 rfl ?_
                                      refine J_lmul hX dX8_change_218 ?_
                                      refine J_topl (y := lN (r * 10 ^ (e + 1))) (lN_mul _ _) ?_
                                      refine J_goto hX 224 dX8_change_219 (by decide) ?_
                                      refine J_topl (y := lN (x_V t.toNatClampNeg (e + 1) r)) (by rw [xge (Int64.not_lt.mp h210)]) ?_
                                      refine J_last hX 96 r dX8_change_224 jc_96 rfl (by omega) (by omega) ?_
                                      refine J_iinc (v := nI (r + 1)) (loc' := [(10, .int (nI (r + 1))), (8, .int (jB (x_V t.toNatClampNeg (if r + 1 ≤ v.toNatClampNeg then e else e + 1) v.toNatClampNeg = v.toNatClampNeg * 10 ^ (if r + 1 ≤ v.toNatClampNeg then e else e + 1)))), (11, .long (lN (t.toNatClampNeg * x_V t.toNatClampNeg e (r - 3) + (10 - t.toNatClampNeg) * x_V t.toNatClampNeg e (r + 1)))), (0, .ref (a 77)), (1, .int (nI v.toNatClampNeg)), (2, .int (nI m.toNatClampNeg)), (3, .int (nI t.toNatClampNeg)), (4, .int k), (5, .int p), (6, .long (lN (10 ^ (e + 1)))), (9, .int (nI (e + 1)))]) hX 10 dX8_change_225 rfl (jinc r) (by decide) rfl ?_
                                      refine J_goto hX 114 dX8_change_228 (by decide) ?_
                                      refine J_sub (loc' := [(0, .ref (a 77)), (1, .int (nI v.toNatClampNeg)), (2, .int (nI m.toNatClampNeg)), (3, .int (nI t.toNatClampNeg)), (4, .int k), (5, .int p), (6, .long (lN (10 ^ (e + 1)))), (8, .int (jB (x_V t.toNatClampNeg (if r + 1 ≤ v.toNatClampNeg then e else e + 1) v.toNatClampNeg = v.toNatClampNeg * 10 ^ (if r + 1 ≤ v.toNatClampNeg then e else e + 1)))), (9, .int (nI (e + 1))), (10, .int (nI (r + 1)))]) [3, 4, 5, 6, 7, 8, 9, 1, 10, 0] rfl ?_
                                      refine J_seti (y := jB (x_V t.toNatClampNeg (if (r + 1) ≤ v.toNatClampNeg then e else e + 1) v.toNatClampNeg = v.toNatClampNeg * 10 ^ (if (r + 1) ≤ v.toNatClampNeg then e else e + 1))) (loc' := [(0, .ref (a 77)), (1, .int (nI v.toNatClampNeg)), (2, .int (nI m.toNatClampNeg)), (3, .int (nI t.toNatClampNeg)), (4, .int k), (5, .int p), (6, .long (lN (10 ^ (e + 1)))), (8, .int (jB (x_V t.toNatClampNeg (if (r + 1) ≤ v.toNatClampNeg then e else e + 1) v.toNatClampNeg = v.toNatClampNeg * 10 ^ (if (r + 1) ≤ v.toNatClampNeg then e else e + 1)))), (9, .int (nI (e + 1))), (10, .int (nI (r + 1)))]) 7 rfl rfl rfl ?_
                                      refine J_cg (M' := M) (L' := (jUL L2 96 r (lN (x_V t.toNatClampNeg (e + 1) r)))) rfl rfl rfl rfl ?_
                                      exact ih114  (r + 1) (jUL L2 96 r (lN (x_V t.toNatClampNeg (e + 1) r))) (by omega) (by omega) (fun j hj => by by_cases q : j = r; (subst q; exact jUL_same); (rw [jUL_slot q]; exact hz j (by omega))) (fun j hj => by rw [jUL_cell (by decide)]; exact hw j hj) hH.u6
                        refine J_sub (loc' := [(0, .ref (a 77)), (1, .int (nI v.toNatClampNeg)), (2, .int (nI m.toNatClampNeg)), (3, .int (nI t.toNatClampNeg)), (4, .int k), (5, .int p), (6, .long (lN (10 ^ (e + 1)))), (8, .int (jB (x_V t.toNatClampNeg e v.toNatClampNeg = v.toNatClampNeg * 10 ^ e))), (9, .int (nI (e + 1))), (10, .int 0)]) [2, 3, 4, 5, 6, 7, 1, 8, 9, 0] rfl ?_
                        refine J_seti (y := jB (x_V t.toNatClampNeg (if 0 ≤ v.toNatClampNeg then e else e + 1) v.toNatClampNeg = v.toNatClampNeg * 10 ^ (if 0 ≤ v.toNatClampNeg then e else e + 1))) (loc' := [(0, .ref (a 77)), (1, .int (nI v.toNatClampNeg)), (2, .int (nI m.toNatClampNeg)), (3, .int (nI t.toNatClampNeg)), (4, .int k), (5, .int p), (6, .long (lN (10 ^ (e + 1)))), (8, .int (jB (x_V t.toNatClampNeg (if 0 ≤ v.toNatClampNeg then e else e + 1) v.toNatClampNeg = v.toNatClampNeg * 10 ^ (if 0 ≤ v.toNatClampNeg then e else e + 1)))), (9, .int (nI (e + 1))), (10, .int 0)]) 7 rfl (by rw [if_pos (Nat.zero_le _)]) rfl ?_
                        refine J_seti (y := nI 0) (loc' := [(0, .ref (a 77)), (1, .int (nI v.toNatClampNeg)), (2, .int (nI m.toNatClampNeg)), (3, .int (nI t.toNatClampNeg)), (4, .int k), (5, .int p), (6, .long (lN (10 ^ (e + 1)))), (8, .int (jB (x_V t.toNatClampNeg (if 0 ≤ v.toNatClampNeg then e else e + 1) v.toNatClampNeg = v.toNatClampNeg * 10 ^ (if 0 ≤ v.toNatClampNeg then e else e + 1)))), (9, .int (nI (e + 1))), (10, .int (nI 0))]) 9 rfl rfl rfl ?_
                        exact key114 _ 0 L1 (Nat.lt_succ_self _) (by omega) (fun c h => absurd h (Nat.not_lt_zero c)) hr hG
                  refine J_sub (loc' := [(0, .ref (a 77)), (1, .int (nI v.toNatClampNeg)), (2, .int (nI m.toNatClampNeg)), (3, .int (nI t.toNatClampNeg)), (4, .int k), (5, .int p), (6, .long (lN (10 ^ 0))), (8, .int (jB (x_V t.toNatClampNeg 0 v.toNatClampNeg = v.toNatClampNeg * 10 ^ 0))), (9, .int 1)]) [3, 4, 5, 6, 7, 8, 2, 1, 0] rfl ?_
                  refine J_seti (y := nI (0 + 1)) (loc' := [(0, .ref (a 77)), (1, .int (nI v.toNatClampNeg)), (2, .int (nI m.toNatClampNeg)), (3, .int (nI t.toNatClampNeg)), (4, .int k), (5, .int p), (6, .long (lN (10 ^ 0))), (8, .int (jB (x_V t.toNatClampNeg 0 v.toNatClampNeg = v.toNatClampNeg * 10 ^ 0))), (9, .int (nI (0 + 1)))]) 8 rfl rfl rfl ?_
                  exact key97 _ 0 L' (Nat.lt_succ_self _) (Nat.zero_le _) (fun r h => by rw [hl r (by omega), x_V]) hF
                · skip
                  refine J_aload_n hX 0 dX8_change_72 rfl ?_
                  refine J_getr hX 77 27 dX8_change_73 jc_77 rfl rfl (by decide) inlX8 wm_5_12 ?_
                  refine J_iload hX 6 dX8_change_76 rfl ?_
                  refine J_iload hX 6 dX8_change_78 rfl ?_
                  refine J_i2l hX dX8_change_80 ?_
                  refine J_topl (y := lN i) (nI_l (by omega)) ?_
                  refine J_last hX 95 i dX8_change_81 jc_95 rfl (by omega) (by omega) ?_
                  refine J_iinc (v := nI (i + 1)) (loc' := [(6, .int (nI (i + 1))), (0, .ref (a 77)), (1, .int (nI v.toNatClampNeg)), (2, .int (nI m.toNatClampNeg)), (3, .int (nI t.toNatClampNeg)), (4, .int k), (5, .int p)]) hX 6 dX8_change_82 rfl (jinc i) (by decide) rfl ?_
                  refine J_goto hX 65 dX8_change_85 (by decide) ?_
                  refine J_sub (loc' := [(0, .ref (a 77)), (1, .int (nI v.toNatClampNeg)), (2, .int (nI m.toNatClampNeg)), (3, .int (nI t.toNatClampNeg)), (4, .int k), (5, .int p), (6, .int (nI (i + 1)))]) [1, 2, 3, 4, 5, 6, 0] rfl ?_
                  refine J_cg (M' := M) (L' := (jUL L' 95 i (lN i))) rfl rfl rfl rfl ?_
                  exact ih65  (i + 1) (jUL L' 95 i (lN i)) (by omega) (by omega) (fun j hj => by by_cases q : j = i; (subst q; exact jUL_same); (rw [jUL_slot q]; exact hl j (by omega))) hF.u5
            refine J_sub (loc' := [(0, .ref (a 77)), (1, .int (nI v.toNatClampNeg)), (2, .int (nI m.toNatClampNeg)), (3, .int (nI t.toNatClampNeg)), (4, .int k), (5, .int p), (6, .int 0)]) [1, 2, 3, 4, 5, 6, 0] rfl ?_
            refine J_seti (y := nI 0) (loc' := [(0, .ref (a 77)), (1, .int (nI v.toNatClampNeg)), (2, .int (nI m.toNatClampNeg)), (3, .int (nI t.toNatClampNeg)), (4, .int k), (5, .int p), (6, .int (nI 0))]) 6 rfl rfl rfl ?_
            exact key65 _ 0 L (Nat.lt_succ_self _) (by omega) (fun c h => absurd h (Nat.not_lt_zero c)) (fun _ _ _ => rfl)
          · skip
            refine J_ldc2 hX dX8_change_58 wm_26_20 ?_
            exact J_lret hX hZ dX8_change_61 ⟨by rw [x_change]; (first | rw [if_pos h9] | rw [if_neg h9] | skip); (first | rw [if_pos h21] | rw [if_neg h21] | skip); (first | rw [if_pos h33] | rw [if_neg h33] | skip); (first | rw [if_pos h44] | rw [if_neg h44] | skip); (first | rw [if_pos h55] | rw [if_neg h55] | skip), rfl, fun _ _ _ => rfl⟩
