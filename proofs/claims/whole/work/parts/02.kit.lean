/-! ===== the world of all cells of the class and of its reference, by one list of kinds; memories of ints and of longs ===== -/
abbrev jM : Type := Nat → Nat → Int32
abbrev jL : Type := Nat → Nat → Int64
abbrev jC : Type := (Nat × Nat) ⊕ ((Nat × Nat) ⊕ ((Nat × List Nat) ⊕ (Nat × List (Option Nat))))
abbrev ji (t n : Nat) : jC := .inl (t, n)
abbrev jj (n : Nat) : jC := .inr (.inl (1, n))
abbrev jr (t : Nat) (js : List Nat) : jC := .inr (.inr (.inl (t, js)))
abbrev jo (ci : Nat) (fs : List (Option Nat)) : jC := .inr (.inr (.inr (ci, fs)))
/-- a Realm whose first cell is q -/
abbrev jRealm (q : Nat) : List jC := [jo 2 [some (q + 1), some (q + 2), some (q + 3), some (q + 4), some (q + 5), none, none, none, none], ji 0 6, ji 0 6, jr 3 [q + 6, q + 7, q + 8, q + 9, q + 10, q + 11], ji 0 8, ji 0 8, ji 0 6, ji 0 6, ji 0 6, ji 0 6, ji 0 6, ji 0 6]
/-- Sights whose first cell is q -/
abbrev jSights (q : Nat) : List jC := [jo 4 [some (q + 1), some (q + 2), some (q + 3), some (q + 4), none], ji 0 8, ji 0 8, ji 0 8, ji 0 8]
def jCs : List jC :=
  [jo 7 [some 1, some 13, some 18, some 20, some 33, some 36, some 40]] ++ jRealm 1 ++ jSights 13 ++ [jo 1 [some 19, none], ji 0 60]
  ++ [jo 5 [some 21, none, none, none, none, none, none, none, none]] ++ jRealm 21 ++ [jo 3 [some 34, some 35], ji 0 6, ji 0 64] ++ [jo 6 [some 37], jr 4 [38, 39], jj 69, jj 69]
  ++ [jr 5 [41, 59]] ++ [jo 0 [some 42, some 54, none]] ++ jRealm 42 ++ jSights 54 ++ [jo 0 [some 60, some 72, none]] ++ jRealm 60 ++ jSights 72
  ++ [jo 8 [some 78, some 79, some 80, some 81, some 82, none, none, none, none, some 83, some 84, some 85, none, some 86, none, some 87, some 88, some 89, none, some 90, none, none, none, some 91, some 92, some 93, some 94, some 95, some 96, some 97, some 98, some 99, none, none],
    ji 0 6, ji 0 6, ji 0 36, ji 0 8, ji 0 8, ji 0 8, ji 0 8, ji 0 8, ji 0 60, ji 0 60, ji 0 60, ji 0 60, ji 0 60, ji 0 60, ji 0 6, ji 0 64, ji 0 9, jj 70, jj 70, jj 31, ji 0 200, ji 2 2]
theorem jCs_len : jCs.length = 100 := by decide +kernel
abbrev jf (a : Nat → Nat) (M : jM) (k j : Nat) (f : Option Nat) : Value := match f with
  | some q => .ref (a q)
  | none => .int (M k j)
def jE (a : Nat → Nat) (g : Nat → ClassId) (M : jM) (L : jL) (k : Nat) (sp : jC) : va_E := match sp with
  | .inl (t, n) => .inl (g t, n, .inl (M k))
  | .inr (.inl (t, n)) => .inl (g t, n, .inr (.inl (L k)))
  | .inr (.inr (.inl (t, js))) => .inl (g t, js.length, .inr (.inr (.inr (.inr (fun i => js[i]?.map a)))))
  | .inr (.inr (.inr (ci, fs))) => .inr (ci, fs.mapIdx (fun j f => jf a M k j f))
def jW (a : Nat → Nat) (g : Nat → ClassId) (M : jM) (L : jL) : va_W := jCs.mapIdx (fun k sp => (a k, jE a g M L k sp))
def jU (M : jM) (k i : Nat) (v : Int32) : jM := fun k' i' => if k' = k ∧ i' = i then v else M k' i'
def jUL (L : jL) (k i : Nat) (v : Int64) : jL := fun k' i' => if k' = k ∧ i' = i then v else L k' i'
theorem jU_row {M : jM} {k i : Nat} {v : Int32} : jU M k i v k = upd (M k) i v := by
  funext j
  simp [jU, upd]
theorem jU_ne {M : jM} {k i k' : Nat} {v : Int32} (h : k' ≠ k) : jU M k i v k' = M k' := by
  funext j
  simp [jU, h]
theorem jUL_row {L : jL} {k i : Nat} {v : Int64} : jUL L k i v k = vp_updL (L k) i v := by
  funext j
  simp [jUL, vp_updL]
theorem jUL_ne {L : jL} {k i k' : Nat} {v : Int64} (h : k' ≠ k) : jUL L k i v k' = L k' := by
  funext j
  simp [jUL, h]
theorem jE_congr {a : Nat → Nat} {g : Nat → ClassId} {M M' : jM} {L L' : jL} {k : Nat} (hM : M k = M' k) (hL : L k = L' k) (sp : jC) : jE a g M L k sp = jE a g M' L' k sp := by
  match sp with
  | .inl (t, n) => simp only [jE, hM]
  | .inr (.inl (t, n)) => simp only [jE, hL]
  | .inr (.inr (.inl (t, js))) => rfl
  | .inr (.inr (.inr (ci, fs))) => simp only [jE, jf, hM]
theorem jW_at {a : Nat → Nat} {g : Nat → ClassId} {M : jM} {L : jL} {k : Nat} {sp : jC} (h : jCs[k]? = some sp) : (jW a g M L)[k]? = some (a k, jE a g M L k sp) := by
  simp [jW, List.getElem?_mapIdx, h]
theorem jW_set {a : Nat → Nat} {g : Nat → ClassId} {M M' : jM} {L L' : jL} {k : Nat} {sp : jC} (h : jCs[k]? = some sp) (hM : ∀ k', k' ≠ k → M k' = M' k') (hL : ∀ k', k' ≠ k → L k' = L' k') :
    (jW a g M L).set k (a k, jE a g M' L' k sp) = jW a g M' L' := by
  apply List.ext_getElem?
  intro i
  by_cases e : i = k
  · subst e
    rw [List.getElem?_set_self (by rw [jW, List.length_mapIdx]; exact (List.getElem?_eq_some_iff.mp h).1), jW_at h]
  · rw [List.getElem?_set_ne (Ne.symm e)]
    simp only [jW, List.getElem?_mapIdx]
    cases hi : jCs[i]? with
    | none => rfl
    | some sq => simp only [Option.map_some, jE_congr (hM i e) (hL i e) sq]
def jA (a : Nat → Nat) : Nat → Prop := fun q => ∃ k : Nat, k < 100 ∧ q = a k
def jInj (a : Nat → Nat) : Prop := ∀ i j : Nat, i < 100 → j < 100 → a i = a j → i = j
theorem jW_D {a : Nat → Nat} (h : jInj a) (g : Nat → ClassId) (M : jM) (L : jL) : va_D (jA a) (jW a g M L) := by
  have key : ∀ (k : Nat) (q : Nat × va_E), (jW a g M L)[k]? = some q → k < 100 ∧ q.1 = a k := by
    intro k q hk
    simp only [jW, List.getElem?_mapIdx] at hk
    cases hi : jCs[k]? with
    | none => rw [hi] at hk; cases hk
    | some sp =>
      rw [hi] at hk
      cases hk
      exact ⟨by have := (List.getElem?_eq_some_iff.mp hi).1; rw [jCs_len] at this; exact this, rfl⟩
  refine ⟨fun i j x y hi hj hxy => ?_, fun k q hk => ?_⟩
  · obtain ⟨l1, e1⟩ := key i x hi
    obtain ⟨l2, e2⟩ := key j y hj
    exact h i j l1 l2 (by rw [← e1, ← e2]; exact hxy)
  · obtain ⟨l1, e1⟩ := key k q hk
    exact ⟨k, l1, e1⟩
abbrev jT (g : Nat → ClassId) : List (ClassId × FieldType) := [(g 0, .int), (g 1, .long), (g 2, .boolean), (g 3, .array .int), (g 4, .array .long), (g 5, .object RX0)]
/-- the two links of private static methods that nest mates call -/
def jN (U : State) : Prop := va_Nw (.methodLinkNest RX1 27 yX7_within RX7) U ∧ va_Nw (.methodLinkNest RX2 55 yX7_rateOf RX7) U
theorem jN.same {u U : State} (h : u.vm = U.vm) (hZ : jN u) : jN U := ⟨va_Nw.same rfl h hZ.1, va_Nw.same rfl h hZ.2⟩
theorem jN.warm {s U : State} (hW : s.WarmedH U.vm) (hZ : jN s) : jN U := ⟨va_Nw.warmM hW hZ.1, va_Nw.warmM hW hZ.2⟩
/-! ===== contracts ===== -/
def jP (D : va_G) (a : Nat → Nat) (g : Nat → ClassId) (av : List Value) (M : jM) (L : jL) : Array Value → State → Prop :=
  va_Pc av (fun U => va_P D vwCl (jW a g M L) U.heap ∧ va_K D vwCl (jT g) U ∧ jN U ∧ jInj a)
abbrev jPo : Type := Option Value → jM → jL → Prop
def jQ (D : va_G) (a : Nat → Nat) (g : Nat → ClassId) (post : jPo) : Array Value → State → Outcome → State → Prop :=
  fun _ st oc t => ∃ (rv : Option Value) (M1 : jM) (L1 : jL), oc = .returned rv ∧ post rv M1 L1 ∧ va_P D vwCl (jW a g M1 L1) t.heap ∧ va_F (jA a) st t
/-- from the memories M, L, with the arguments av, the method returns, and post says of its answer and of the memories behind it; it makes nothing, and writes the world's cells alone -/
def jV (l : Launch) (D : va_G) (a : Nat → Nat) (g : Nat → ClassId) (y : MethodName) (C : ByteArray) (n : Nat) (ret : Option FieldType) (fr lo : Nat) (av : List Value) (M : jM) (L : jL) (post : jPo) : Prop :=
  Met l y (.code y C n ret :: wsL_law) ({ frames := fr, cells := 0, slots := 0, locals := lo }) (jP D a g av M L) (jQ D a g post) 0 0 (jA a)
abbrev jEq (rv : Option Value) (M1 : jM) (L1 : jL) : jPo := fun rv' M' L' => rv' = rv ∧ M' = M1 ∧ L' = L1
abbrev jK (l : Launch) (D : va_G) (a : Nat → Nat) (g : Nat → ClassId) (y : MethodName) (C : ByteArray) (n : Nat) (ret : Option FieldType) (fr lo : Nat) (av : List Value) (M : jM) (L : jL) (rv : Option Value) (M1 : jM) (L1 : jL) : Prop :=
  jV l D a g y C n ret fr lo av M L (jEq rv M1 L1)
/-! ===== the judgement ===== -/
abbrev jG : Type := Program × Env × Room × State × MethodId × Array Value × List Frame × Method × Code × Nat × Nat × (State → Prop)
def gp (G : jG) : Program := G.1
def ge (G : jG) : Env := G.2.1
def gR (G : jG) : Room := G.2.2.1
def gs (G : jG) : State := G.2.2.2.1
def gm (G : jG) : MethodId := G.2.2.2.2.1
def gar (G : jG) : Array Value := G.2.2.2.2.2.1
def gb (G : jG) : List Frame := G.2.2.2.2.2.2.1
def gme (G : jG) : Method := G.2.2.2.2.2.2.2.1
def gc (G : jG) : Code := G.2.2.2.2.2.2.2.2.1
def gce (G : jG) : Nat := G.2.2.2.2.2.2.2.2.2.1
def gsl (G : jG) : Nat := G.2.2.2.2.2.2.2.2.2.2.1
def gQ (G : jG) : State → Prop := G.2.2.2.2.2.2.2.2.2.2.2
def J (l : Launch) (D : va_G) (a : Nat → Nat) (g : Nat → ClassId) (G : jG) (nL : Nat) (M : jM) (L : jL) (pc : Nat) (loc : List (Nat × Value)) (st : List Value) : Prop :=
  ∀ (H : Heap) (locs : List Loc) (ls : Array Slot), va_P D vwCl (jW a g M L) H → va_S (jA a) (gs G).heap H locs → lv_has ls nL loc →
    W (gp G) l (ge G) (gR G) (gs G) (gm G) (gar G) (gb G) (gme G) (gc G) H locs (gce G) (gsl G) (gQ G) (F0 (gm G) pc ls st)
def jX (D : va_G) (a : Nat → Nat) (g : Nat → ClassId) (G : jG) (own : String) (cc : ByteArray) (nL fr lo : Nat) : Prop :=
  (gp G).tables.exec = Jvm.exec ∧ (gc G).code = cc ∧ (gc G).maxLocals = nL ∧ (gs G).vm.findClass own = some (gm G).cls ∧ (∀ w ∈ wsL_law, w.before (gar G) (gs G) = true) ∧
  va_K D vwCl (jT g) (gs G) ∧ jN (gs G) ∧ jInj a ∧ (gR G).frames = fr ∧ (gR G).locals = lo ∧ gce G ≤ (gR G).cells ∧ gsl G ≤ (gR G).slots
def jZ (D : va_G) (a : Nat → Nat) (g : Nat → ClassId) (G : jG) (ret : Option FieldType) (post : jPo) : Prop :=
  (gme G).sig.returnType = ret ∧ (gme G).locks = false ∧ gQ G = MQ (gb G) (jQ D a g post) (gar G) (gs G) (gce G) (gsl G) (jA a)
theorem jMeth {l : Launch} {D : va_G} {a : Nat → Nat} {g : Nat → ClassId} {y : MethodName} {C : ByteArray} {n : Nat} {ret : Option FieldType} {fr lo : Nat} {av : List Value} {M : jM} {L : jL} {post : jPo} (hy : plainName y.cls = true) (hlen : (lg_sl av).length ≤ n)
    (body : ∀ G : jG, jX D a g G y.cls C n fr lo → jZ D a g G ret post → J l D a g G n M L 0 (lv_args 0 av) []) : jV l D a g y C n ret fr lo av M L post := by
  refine Met.ofW (cc := C) (maxL := n) (ret := ret) hy rfl ?_
  intro p e s m args below meth c s₁ B hml hv
  obtain ⟨rfl, hP, hK, hN, hI⟩ := hv
  have hts := atoms_spec (ws := Cond.code y C n ret :: wsL_law) B.pre
  have hl := lv_entry av (n := n) hlen
  rw [lg_entry_eq]
  generalize (lg_sl av ++ List.replicate (n - (lg_sl av).length) Slot.unset).toArray = ls at hl ⊢
  exact body (p, e, (headSpec (Cond.code y C n ret :: wsL_law) ({ frames := fr, cells := 0, slots := 0, locals := lo })).room, s, m, av.toArray, below, meth, c, 0, 0, MQ below (jQ D a g post) av.toArray s 0 0 (jA a))
    ⟨B.exec, B.bytes, hml, findClass_of_methodNamed B.named, fun w hw => hts w (List.mem_cons_of_mem _ hw), hK, hN, hI, rfl, rfl, Nat.le_refl _, Nat.le_refl _⟩ ⟨B.returns, B.notSynchronized, rfl⟩ s.heap [] ls hP va_S.rf hl
