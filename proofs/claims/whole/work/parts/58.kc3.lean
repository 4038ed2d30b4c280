/-! ===== constructors: Trial, Image ===== -/
def mT : jM := fun k => match k with
  | 0 => fun _ => 0
  | k + 1 => mR k
def mI : jM := fun k => match k with
  | 0 => fun _ => 0
  | k + 1 => if k < 12 then mR k else fun _ => 0
set_option maxHeartbeats 4000000 in
set_option maxRecDepth 10000 in
theorem c_X5_init (l : Launch) (D : va_G) (g : Nat → ClassId) : kV l D g yX5_init cX5_init 1 2 33 12 79 5 [.null, .int 0, .int 0, .int 0, .int 0, .int 0, .int 0, .int 0, .int 0] (fun q => kU ([jo 5 [some 1, none, none, none, none, none, none, none, none]] ++ jRealm 1) q g mT l00) := by
  refine kMeth (by decide) rfl (by decide) ?_
  intro G h0 hX hZ
  refine K_aload_n hX 0 dX5_init_0 rfl ?_
  refine K_obj hX wm_3_16 dX5_init_1 (Nat.le_of_ble_eq_true rfl) (Nat.le_of_ble_eq_true rfl) ?_
  refine K_aload_n hX 0 dX5_init_4 rfl ?_
  refine K_new (ci := 2) (fs := [.null, .null, .null, .null, .null, .int 0, .int 0, .int 0, .int 0]) hX tyX2 inlX2 tyX2_ok wm_3_17 wm_1_13 wm_1_14 rfl (fun j hj => by rcases (show j = 0 ∨ j = 1 ∨ j = 2 ∨ j = 3 ∨ j = 4 ∨ j = 5 ∨ j = 6 ∨ j = 7 ∨ j = 8 by omega) with rfl | rfl | rfl | rfl | rfl | rfl | rfl | rfl | rfl <;> rfl) (Nat.le_of_ble_eq_true rfl) (Nat.le_of_ble_eq_true rfl) dX5_init_5 (fun q1 => ?_)
  refine K_dup hX dX5_init_8 rfl ?_
  refine K_call (wr := [(h0, .inr (5, [.null, .int 0, .int 0, .int 0, .int 0, .int 0, .int 0, .int 0, .int 0]))]) hX 1 [0] (c_X2_init l D g) wm_3_19 wm_2_17 wm_1_14 wm_2_18 rfl ⟨by decide +kernel, by decide +kernel, by decide +kernel⟩ (Nat.le_of_ble_eq_true rfl) (Nat.le_of_ble_eq_true rfl) (Nat.le_of_ble_eq_true rfl) (Nat.le_of_ble_eq_true rfl) (Nat.le_of_ble_eq_true rfl) rfl rfl (by decide) (by decide) dX5_init_9 (fun u1 hu1 => ?_)
  subst hu1
  refine K_putF (ty := .object "AbbeyNotes$Realm") (ws' := [(h0, .inr (5, [.ref (u1 0), .int 0, .int 0, .int 0, .int 0, .int 0, .int 0, .int 0, .int 0]))] ++ kU (jRealm 0) u1 g mR l00) hX hZ.2.2.1 0 0 inlX5 tyX5_ok nmX5 rfl rfl (by decide) wm_3_18 rfl rfl (by decide +kernel) rfl rfl (Nat.le_of_ble_eq_true rfl) dX5_init_12 rfl ?_
  exact K_vret hX hZ (fun k => match k with | 0 => h0 | k + 1 => u1 k) rfl dX5_init_15 (Nat.le_of_ble_eq_true rfl) (Nat.le_of_ble_eq_true rfl) rfl

