theorem jinc (i : Nat) : nI i + Int32.ofInt 1 = nI (i + 1) := nI_1 i
theorem jB_nar (p : Prop) [Decidable p] : narrow .boolean (.int (jB p)) = .int (jB p) := by
  unfold jB; split <;> rfl
theorem jB_fit (p : Prop) [Decidable p] : fits .boolean (.int (jB p)) = true := by
  unfold jB; split <;> rfl
theorem jB_t {p : Prop} [Decidable p] (h : p) : jB p = 1 := if_pos h
theorem jB_f {p : Prop} [Decidable p] (h : ¬ p) : jB p = 0 := if_neg h
theorem jB_cg {p q : Prop} [Decidable p] [Decidable q] (h : p ↔ q) : jB p = jB q := by
  by_cases hp : p
  · rw [jB_t hp, jB_t (h.mp hp)]
  · rw [jB_f hp, jB_f (fun c => hp (h.mpr c))]
theorem jU_same {M : jM} {k i : Nat} {v : Int32} : jU M k i v k i = v := if_pos ⟨rfl, rfl⟩
theorem jU_cell {M : jM} {k i k' i' : Nat} {v : Int32} (h : k' ≠ k) : jU M k i v k' i' = M k' i' := if_neg (fun q => h q.1)
theorem jU_slot {M : jM} {k i k' i' : Nat} {v : Int32} (h : i' ≠ i) : jU M k i v k' i' = M k' i' := if_neg (fun q => h q.2)
/-- a sum from z on: z + f 0 + .. + f (n - 1) -/
def jSum (f : Nat → Int32) (z : Int32) : Nat → Int32
  | 0 => z
  | n + 1 => jSum f z n + f n
theorem jset_self {α : Type} {l : List α} {p : Nat} {v : α} (h : l[p]? = some v) : l.set p v = l := by
  apply List.ext_getElem?
  intro i
  by_cases e : i = p
  · subst e
    rw [List.getElem?_set_self (List.getElem?_eq_some_iff.mp h).1, h]
  · rw [List.getElem?_set_ne (Ne.symm e)]
section JS
variable {l : Launch} {D : va_G} {a : Nat → Nat} {g : Nat → ClassId} {G : jG} {own : String} {cc : ByteArray} {nL fr lo : Nat} {M : jM} {L : jL} {pc : Nat} {loc loc' : List (Nat × Value)} {rest : List Value}
theorem J_seti {k : Nat} {x y : Int32} {st : List Value} (p : Nat) (hp : loc[p]? = some (k, .int x)) (h : x = y) (hl : loc.set p (k, .int y) = loc') (kk : J l D a g G nL M L pc loc' st) : J l D a g G nL M L pc loc st := by
  subst h
  rw [jset_self hp] at hl
  subst hl
  exact kk
theorem J_setl {k : Nat} {x y : Int64} {st : List Value} (p : Nat) (hp : loc[p]? = some (k, .long x)) (h : x = y) (hl : loc.set p (k, .long y) = loc') (kk : J l D a g G nL M L pc loc' st) : J l D a g G nL M L pc loc st := by
  subst h
  rw [jset_self hp] at hl
  subst hl
  exact kk
theorem J_ifK_eq (hX : jX D a g G own cc nL fr lo) {x y : Int64} {off : Int} (tgt : Nat) (hd : decode cc pc = .ok (.ifCond .eq off, 3)) (ht : (pc : Int) + off = (tgt : Int)) (kt : x = y → J l D a g G nL M L tgt loc rest) (kf : ¬ x = y → J l D a g G nL M L (pc + 3) loc rest) : J l D a g G nL M L pc loc (.int (lg_cmp x y) :: rest) :=
  J_if_eq hX tgt hd ht (fun h => kt ((lg_cmp_eq x y).mp h)) (fun h => kf (fun q => h ((lg_cmp_eq x y).mpr q)))
theorem J_ifK_ne (hX : jX D a g G own cc nL fr lo) {x y : Int64} {off : Int} (tgt : Nat) (hd : decode cc pc = .ok (.ifCond .ne off, 3)) (ht : (pc : Int) + off = (tgt : Int)) (kt : ¬ x = y → J l D a g G nL M L tgt loc rest) (kf : x = y → J l D a g G nL M L (pc + 3) loc rest) : J l D a g G nL M L pc loc (.int (lg_cmp x y) :: rest) :=
  J_if_ne hX tgt hd ht (fun h => kt (fun q => h ((lg_cmp_eq x y).mpr q))) (fun h => kf (by first | exact (lg_cmp_eq x y).mp h | exact (lg_cmp_eq x y).mp (Classical.not_not.mp h)))
theorem J_ifK_lt (hX : jX D a g G own cc nL fr lo) {x y : Int64} {off : Int} (tgt : Nat) (hd : decode cc pc = .ok (.ifCond .lt off, 3)) (ht : (pc : Int) + off = (tgt : Int)) (kt : x < y → J l D a g G nL M L tgt loc rest) (kf : ¬ x < y → J l D a g G nL M L (pc + 3) loc rest) : J l D a g G nL M L pc loc (.int (lg_cmp x y) :: rest) :=
  J_if_lt hX tgt hd ht (fun h => kt ((lg_cmp_lt x y).mp h)) (fun h => kf (fun q => h ((lg_cmp_lt x y).mpr q)))
theorem J_ifK_ge (hX : jX D a g G own cc nL fr lo) {x y : Int64} {off : Int} (tgt : Nat) (hd : decode cc pc = .ok (.ifCond .ge off, 3)) (ht : (pc : Int) + off = (tgt : Int)) (kt : y ≤ x → J l D a g G nL M L tgt loc rest) (kf : ¬ y ≤ x → J l D a g G nL M L (pc + 3) loc rest) : J l D a g G nL M L pc loc (.int (lg_cmp x y) :: rest) :=
  J_if_ge hX tgt hd ht (fun h => kt ((lg_cmp_ge x y).mp h)) (fun h => kf (fun q => h ((lg_cmp_ge x y).mpr q)))
theorem J_ifK_gt (hX : jX D a g G own cc nL fr lo) {x y : Int64} {off : Int} (tgt : Nat) (hd : decode cc pc = .ok (.ifCond .gt off, 3)) (ht : (pc : Int) + off = (tgt : Int)) (kt : y < x → J l D a g G nL M L tgt loc rest) (kf : ¬ y < x → J l D a g G nL M L (pc + 3) loc rest) : J l D a g G nL M L pc loc (.int (lg_cmp x y) :: rest) :=
  J_if_gt hX tgt hd ht (fun h => kt ((lg_cmp_gt x y).mp h)) (fun h => kf (fun q => h ((lg_cmp_gt x y).mpr q)))
theorem J_ifK_le (hX : jX D a g G own cc nL fr lo) {x y : Int64} {off : Int} (tgt : Nat) (hd : decode cc pc = .ok (.ifCond .le off, 3)) (ht : (pc : Int) + off = (tgt : Int)) (kt : x ≤ y → J l D a g G nL M L tgt loc rest) (kf : ¬ x ≤ y → J l D a g G nL M L (pc + 3) loc rest) : J l D a g G nL M L pc loc (.int (lg_cmp x y) :: rest) :=
  J_if_le hX tgt hd ht (fun h => kt ((lg_cmp_le x y).mp h)) (fun h => kf (fun q => h ((lg_cmp_le x y).mpr q)))
end JS
