/-! ===== the law's loop ===== -/
def lwB (a : Nat → Nat) (s : State) (b n : Nat) (xs : Nat → Int32) : Prop := va_X b n xs s s.heap ∧ b < s.heap.size ∧ ∀ k, k < 100 → s.heap.size ≤ a k
theorem lwB_not {a : Nat → Nat} {s : State} {b n : Nat} {xs : Nat → Int32} (h : lwB a s b n xs) : ¬ jA a b := fun ⟨k, hk, e⟩ => by have := h.2.2 k hk; have := h.2.1; omega
theorem J_sld {l : Launch} {D : va_G} {a : Nat → Nat} {g : Nat → ClassId} {G : jG} {own : String} {cc : ByteArray} {nL fr lo : Nat} {M : jM} {L : jL} {pc : Nat} {loc : List (Nat × Value)} {rest : List Value} (hX : jX D a g G own cc nL fr lo) {b n : Nat} {xs : Nat → Int32} (hB : lwB a (gs G) b n xs) (hn : n ≤ 384) (j : Nat) (hj : j < n) (hd : decode cc pc = .ok (.iaload, 1)) (k : J l D a g G nL M L (pc + 1) loc (.int (xs j) :: rest)) : J l D a g G nL M L pc loc (.int (nI j) :: .ref b :: rest) := by
  intro H locs ls hP hS hl
  refine va_sld hX.1 hX.2.1 hB.1 hB.2.1 (lwB_not hB) hS (nI_in hj (by omega)) hd ?_
  rw [nI_clamp (by omega)]
  exact k H locs ls hP hS hl
theorem J_slen {l : Launch} {D : va_G} {a : Nat → Nat} {g : Nat → ClassId} {G : jG} {own : String} {cc : ByteArray} {nL fr lo : Nat} {M : jM} {L : jL} {pc : Nat} {loc : List (Nat × Value)} {rest : List Value} (hX : jX D a g G own cc nL fr lo) {b n : Nat} {xs : Nat → Int32} (hB : lwB a (gs G) b n xs) (hd : decode cc pc = .ok (.arraylength, 1)) (k : J l D a g G nL M L (pc + 1) loc (.int (nI n) :: rest)) : J l D a g G nL M L pc loc (.ref b :: rest) :=
  fun H locs ls hP hS hl => va_slen hX.1 hX.2.1 hB.1 hB.2.1 (lwB_not hB) hS hd (k H locs ls hP hS hl)
def lwG (G : jG) (b : Nat) : Prop := gR G = room_1 ∧ gar G = #[Value.ref b] ∧ gce G = 600000 ∧ gsl G = 7302250 ∧ gQ G = lw_Z (gb G) #[Value.ref b] (gs G) ∧ (gme G).sig.returnType = ret ∧ (gme G).locks = false
theorem J_lret1 {l : Launch} {D : va_G} {a : Nat → Nat} {g : Nat → ClassId} {G : jG} {nL : Nat} {M : jM} {L : jL} {loc : List (Nat × Value)} {fr lo : Nat} (hX : jX D a g G RL cL_law nL fr lo) {b n : Nat} {xs : Nat → Int32} (hB : lwB a (gs G) b n xs) (hG : lwG G b) : J l D a g G nL M L 1006 loc [.int 1] := by
  intro H locs ls hP hS hl
  obtain ⟨g1, g2, g3, g4, g5, g6, g7⟩ := hG
  rw [g1, g2, g3, g4, g5]
  refine va_forget (fun q hq => ?_) (lw_ret hX.1 hX.2.1 g6 g7 dL_law_1006)
  obtain ⟨k, hk, e⟩ := hS.2.2 q hq
  rw [e]; exact hB.2.2 k hk
set_option maxHeartbeats 4000000 in
theorem arm_one {l : Launch} {D : va_G} {a : Nat → Nat} {g : Nat → ClassId} {G : jG} {M : jM} {L : jL} {b n i : Nat} {xs : Nat → Int32} (hX : jX D a g G RL cL_law 4 10 356) (hB : lwB a (gs G) b n xs) (hn : n ≤ 384) (hi : i + 6 ≤ n) (I : Inv2 M M) (nxt : ∀ M' L', Inv2 M' M' → J l D a g G 4 M' L' 999 [(0, .ref b), (1, .ref (a 0)), (2, .ref (a 77)), (3, .int (nI i))] []) : J l D a g G 4 M L 156 [(0, .ref b), (1, .ref (a 0)), (2, .ref (a 77)), (3, .int (nI i))] [] := by
  refine J_aload_n hX 1 dL_law_156 rfl ?_
  refine J_aload_n hX 0 dL_law_157 rfl ?_
  refine J_iload_n hX 3 dL_law_158 rfl ?_
  refine J_iconst (v := 1) hX dL_law_159 (by decide) ?_
  refine J_iadd hX dL_law_160 ?_
  refine J_topi (y := nI (i + 1)) (nI_add i 1) ?_
  refine J_sld hX hB hn (i + 1) (by omega) dL_law_161 ?_
  refine J_aload_n hX 0 dL_law_162 rfl ?_
  refine J_iload_n hX 3 dL_law_163 rfl ?_
  refine J_iconst (v := 2) hX dL_law_164 (by decide) ?_
  refine J_iadd hX dL_law_165 ?_
  refine J_topi (y := nI (i + 2)) (nI_add i 2) ?_
  refine J_sld hX hB hn (i + 2) (by omega) dL_law_166 ?_
  refine J_aload_n hX 0 dL_law_167 rfl ?_
  refine J_iload_n hX 3 dL_law_168 rfl ?_
  refine J_iconst (v := 3) hX dL_law_169 (by decide) ?_
  refine J_iadd hX dL_law_170 ?_
  refine J_topi (y := nI (i + 3)) (nI_add i 3) ?_
  refine J_sld hX hB hn (i + 3) (by omega) dL_law_171 ?_
  refine J_callV hX 0 [.int (xs (i + 1)), .int (xs (i + 2)), .int (xs (i + 3))] [] dL_law_172 (c_X7_one l D a g M L (xs (i + 1)) (xs (i + 2)) (xs (i + 3))) lk_L_13 jc_0 rfl rfl rfl (Nat.le_of_ble_eq_true rfl) (Nat.le_of_ble_eq_true rfl) (Nat.le_of_ble_eq_true rfl) (J_eq (st := [.int ((x_one M (xs (i + 1)) (xs (i + 2)) (xs (i + 3))).1)]) rfl ?_)
  refine J_aload_n hX 2 dL_law_175 rfl ?_
  refine J_aload_n hX 0 dL_law_176 rfl ?_
  refine J_iload_n hX 3 dL_law_177 rfl ?_
  refine J_iconst (v := 1) hX dL_law_178 (by decide) ?_
  refine J_iadd hX dL_law_179 ?_
  refine J_topi (y := nI (i + 1)) (nI_add i 1) ?_
  refine J_sld hX hB hn (i + 1) (by omega) dL_law_180 ?_
  refine J_aload_n hX 0 dL_law_181 rfl ?_
  refine J_iload_n hX 3 dL_law_182 rfl ?_
  refine J_iconst (v := 2) hX dL_law_183 (by decide) ?_
  refine J_iadd hX dL_law_184 ?_
  refine J_topi (y := nI (i + 2)) (nI_add i 2) ?_
  refine J_sld hX hB hn (i + 2) (by omega) dL_law_185 ?_
  refine J_aload_n hX 0 dL_law_186 rfl ?_
  refine J_iload_n hX 3 dL_law_187 rfl ?_
  refine J_iconst (v := 3) hX dL_law_188 (by decide) ?_
  refine J_iadd hX dL_law_189 ?_
  refine J_topi (y := nI (i + 3)) (nI_add i 3) ?_
  refine J_sld hX hB hn (i + 3) (by omega) dL_law_190 ?_
  refine J_callV hX 77 [.int (xs (i + 1)), .int (xs (i + 2)), .int (xs (i + 3))] [.int ((x_one M (xs (i + 1)) (xs (i + 2)) (xs (i + 3))).1)] dL_law_191 (c_X8_one l D a g ((x_one M (xs (i + 1)) (xs (i + 2)) (xs (i + 3))).2) L (xs (i + 1)) (xs (i + 2)) (xs (i + 3))) lk_L_17 jc_77 rfl rfl rfl (Nat.le_of_ble_eq_true rfl) (Nat.le_of_ble_eq_true rfl) (Nat.le_of_ble_eq_true rfl) (J_eq (st := [.int ((m_one ((x_one M (xs (i + 1)) (xs (i + 2)) (xs (i + 3))).2) (xs (i + 1)) (xs (i + 2)) (xs (i + 3))).1), .int ((x_one M (xs (i + 1)) (xs (i + 2)) (xs (i + 3))).1)]) rfl ?_)
  have q := pr_one I (xs (i + 1)) (xs (i + 2)) (xs (i + 3))
  refine J_icmp_eq hX 999 dL_law_194 rfl (fun _ => nxt _ _ q.2) (fun e => absurd q.1 e)
set_option maxHeartbeats 4000000 in
theorem arm_owe {l : Launch} {D : va_G} {a : Nat → Nat} {g : Nat → ClassId} {G : jG} {M : jM} {L : jL} {b n i : Nat} {xs : Nat → Int32} (hX : jX D a g G RL cL_law 4 10 356) (hB : lwB a (gs G) b n xs) (hn : n ≤ 384) (hi : i + 6 ≤ n) (I : Inv2 M M) (nxt : ∀ M' L', Inv2 M' M' → J l D a g G 4 M' L' 999 [(0, .ref b), (1, .ref (a 0)), (2, .ref (a 77)), (3, .int (nI i))] []) : J l D a g G 4 M L 199 [(0, .ref b), (1, .ref (a 0)), (2, .ref (a 77)), (3, .int (nI i))] [] := by
  refine J_aload_n hX 1 dL_law_199 rfl ?_
  refine J_aload_n hX 0 dL_law_200 rfl ?_
  refine J_iload_n hX 3 dL_law_201 rfl ?_
  refine J_iconst (v := 1) hX dL_law_202 (by decide) ?_
  refine J_iadd hX dL_law_203 ?_
  refine J_topi (y := nI (i + 1)) (nI_add i 1) ?_
  refine J_sld hX hB hn (i + 1) (by omega) dL_law_204 ?_
  refine J_aload_n hX 0 dL_law_205 rfl ?_
  refine J_iload_n hX 3 dL_law_206 rfl ?_
  refine J_iconst (v := 2) hX dL_law_207 (by decide) ?_
  refine J_iadd hX dL_law_208 ?_
  refine J_topi (y := nI (i + 2)) (nI_add i 2) ?_
  refine J_sld hX hB hn (i + 2) (by omega) dL_law_209 ?_
  refine J_aload_n hX 0 dL_law_210 rfl ?_
  refine J_iload_n hX 3 dL_law_211 rfl ?_
  refine J_iconst (v := 3) hX dL_law_212 (by decide) ?_
  refine J_iadd hX dL_law_213 ?_
  refine J_topi (y := nI (i + 3)) (nI_add i 3) ?_
  refine J_sld hX hB hn (i + 3) (by omega) dL_law_214 ?_
  refine J_callV hX 0 [.int (xs (i + 1)), .int (xs (i + 2)), .int (xs (i + 3))] [] dL_law_215 (c_X7_owe l D a g M L (xs (i + 1)) (xs (i + 2)) (xs (i + 3))) lk_L_18 jc_0 rfl rfl rfl (Nat.le_of_ble_eq_true rfl) (Nat.le_of_ble_eq_true rfl) (Nat.le_of_ble_eq_true rfl) (J_eq (st := [.int ((x_owe M (xs (i + 1)) (xs (i + 2)) (xs (i + 3))).1)]) rfl ?_)
  refine J_aload_n hX 2 dL_law_218 rfl ?_
  refine J_aload_n hX 0 dL_law_219 rfl ?_
  refine J_iload_n hX 3 dL_law_220 rfl ?_
  refine J_iconst (v := 1) hX dL_law_221 (by decide) ?_
  refine J_iadd hX dL_law_222 ?_
  refine J_topi (y := nI (i + 1)) (nI_add i 1) ?_
  refine J_sld hX hB hn (i + 1) (by omega) dL_law_223 ?_
  refine J_aload_n hX 0 dL_law_224 rfl ?_
  refine J_iload_n hX 3 dL_law_225 rfl ?_
  refine J_iconst (v := 2) hX dL_law_226 (by decide) ?_
  refine J_iadd hX dL_law_227 ?_
  refine J_topi (y := nI (i + 2)) (nI_add i 2) ?_
  refine J_sld hX hB hn (i + 2) (by omega) dL_law_228 ?_
  refine J_aload_n hX 0 dL_law_229 rfl ?_
  refine J_iload_n hX 3 dL_law_230 rfl ?_
  refine J_iconst (v := 3) hX dL_law_231 (by decide) ?_
  refine J_iadd hX dL_law_232 ?_
  refine J_topi (y := nI (i + 3)) (nI_add i 3) ?_
  refine J_sld hX hB hn (i + 3) (by omega) dL_law_233 ?_
  refine J_callV hX 77 [.int (xs (i + 1)), .int (xs (i + 2)), .int (xs (i + 3))] [.int ((x_owe M (xs (i + 1)) (xs (i + 2)) (xs (i + 3))).1)] dL_law_234 (c_X8_owe l D a g ((x_owe M (xs (i + 1)) (xs (i + 2)) (xs (i + 3))).2) L (xs (i + 1)) (xs (i + 2)) (xs (i + 3))) lk_L_21 jc_77 rfl rfl rfl (Nat.le_of_ble_eq_true rfl) (Nat.le_of_ble_eq_true rfl) (Nat.le_of_ble_eq_true rfl) (J_eq (st := [.int ((m_owe ((x_owe M (xs (i + 1)) (xs (i + 2)) (xs (i + 3))).2) (xs (i + 1)) (xs (i + 2)) (xs (i + 3))).1), .int ((x_owe M (xs (i + 1)) (xs (i + 2)) (xs (i + 3))).1)]) rfl ?_)
  have q := pr_owe I (xs (i + 1)) (xs (i + 2)) (xs (i + 3))
  refine J_icmp_eq hX 999 dL_law_237 rfl (fun _ => nxt _ _ q.2) (fun e => absurd q.1 e)
set_option maxHeartbeats 4000000 in
theorem arm_lot {l : Launch} {D : va_G} {a : Nat → Nat} {g : Nat → ClassId} {G : jG} {M : jM} {L : jL} {b n i : Nat} {xs : Nat → Int32} (hX : jX D a g G RL cL_law 4 10 356) (hB : lwB a (gs G) b n xs) (hn : n ≤ 384) (hi : i + 6 ≤ n) (I : Inv2 M M) (nxt : ∀ M' L', Inv2 M' M' → J l D a g G 4 M' L' 999 [(0, .ref b), (1, .ref (a 0)), (2, .ref (a 77)), (3, .int (nI i))] []) : J l D a g G 4 M L 242 [(0, .ref b), (1, .ref (a 0)), (2, .ref (a 77)), (3, .int (nI i))] [] := by
  refine J_aload_n hX 1 dL_law_242 rfl ?_
  refine J_aload_n hX 0 dL_law_243 rfl ?_
  refine J_iload_n hX 3 dL_law_244 rfl ?_
  refine J_iconst (v := 1) hX dL_law_245 (by decide) ?_
  refine J_iadd hX dL_law_246 ?_
  refine J_topi (y := nI (i + 1)) (nI_add i 1) ?_
  refine J_sld hX hB hn (i + 1) (by omega) dL_law_247 ?_
  refine J_aload_n hX 0 dL_law_248 rfl ?_
  refine J_iload_n hX 3 dL_law_249 rfl ?_
  refine J_iconst (v := 2) hX dL_law_250 (by decide) ?_
  refine J_iadd hX dL_law_251 ?_
  refine J_topi (y := nI (i + 2)) (nI_add i 2) ?_
  refine J_sld hX hB hn (i + 2) (by omega) dL_law_252 ?_
  refine J_aload_n hX 0 dL_law_253 rfl ?_
  refine J_iload_n hX 3 dL_law_254 rfl ?_
  refine J_iconst (v := 3) hX dL_law_255 (by decide) ?_
  refine J_iadd hX dL_law_256 ?_
  refine J_topi (y := nI (i + 3)) (nI_add i 3) ?_
  refine J_sld hX hB hn (i + 3) (by omega) dL_law_257 ?_
  refine J_callV hX 0 [.int (xs (i + 1)), .int (xs (i + 2)), .int (xs (i + 3))] [] dL_law_258 (c_X7_lot l D a g M L (xs (i + 1)) (xs (i + 2)) (xs (i + 3))) lk_L_22 jc_0 rfl rfl rfl (Nat.le_of_ble_eq_true rfl) (Nat.le_of_ble_eq_true rfl) (Nat.le_of_ble_eq_true rfl) (J_eq (st := [.int ((x_lot M (xs (i + 1)) (xs (i + 2)) (xs (i + 3))).1)]) rfl ?_)
  refine J_aload_n hX 2 dL_law_261 rfl ?_
  refine J_aload_n hX 0 dL_law_262 rfl ?_
  refine J_iload_n hX 3 dL_law_263 rfl ?_
  refine J_iconst (v := 1) hX dL_law_264 (by decide) ?_
  refine J_iadd hX dL_law_265 ?_
  refine J_topi (y := nI (i + 1)) (nI_add i 1) ?_
  refine J_sld hX hB hn (i + 1) (by omega) dL_law_266 ?_
  refine J_aload_n hX 0 dL_law_267 rfl ?_
  refine J_iload_n hX 3 dL_law_268 rfl ?_
  refine J_iconst (v := 2) hX dL_law_269 (by decide) ?_
  refine J_iadd hX dL_law_270 ?_
  refine J_topi (y := nI (i + 2)) (nI_add i 2) ?_
  refine J_sld hX hB hn (i + 2) (by omega) dL_law_271 ?_
  refine J_aload_n hX 0 dL_law_272 rfl ?_
  refine J_iload_n hX 3 dL_law_273 rfl ?_
  refine J_iconst (v := 3) hX dL_law_274 (by decide) ?_
  refine J_iadd hX dL_law_275 ?_
  refine J_topi (y := nI (i + 3)) (nI_add i 3) ?_
  refine J_sld hX hB hn (i + 3) (by omega) dL_law_276 ?_
  refine J_callV hX 77 [.int (xs (i + 1)), .int (xs (i + 2)), .int (xs (i + 3))] [.int ((x_lot M (xs (i + 1)) (xs (i + 2)) (xs (i + 3))).1)] dL_law_277 (c_X8_lot l D a g ((x_lot M (xs (i + 1)) (xs (i + 2)) (xs (i + 3))).2) L (xs (i + 1)) (xs (i + 2)) (xs (i + 3))) lk_L_25 jc_77 rfl rfl rfl (Nat.le_of_ble_eq_true rfl) (Nat.le_of_ble_eq_true rfl) (Nat.le_of_ble_eq_true rfl) (J_eq (st := [.int ((m_lot ((x_lot M (xs (i + 1)) (xs (i + 2)) (xs (i + 3))).2) (xs (i + 1)) (xs (i + 2)) (xs (i + 3))).1), .int ((x_lot M (xs (i + 1)) (xs (i + 2)) (xs (i + 3))).1)]) rfl ?_)
  have q := pr_lot I (xs (i + 1)) (xs (i + 2)) (xs (i + 3))
  refine J_icmp_eq hX 999 dL_law_280 rfl (fun _ => nxt _ _ q.2) (fun e => absurd q.1 e)
set_option maxHeartbeats 4000000 in
theorem arm_set {l : Launch} {D : va_G} {a : Nat → Nat} {g : Nat → ClassId} {G : jG} {M : jM} {L : jL} {b n i : Nat} {xs : Nat → Int32} (hX : jX D a g G RL cL_law 4 10 356) (hB : lwB a (gs G) b n xs) (hn : n ≤ 384) (hi : i + 6 ≤ n) (I : Inv2 M M) (nxt : ∀ M' L', Inv2 M' M' → J l D a g G 4 M' L' 999 [(0, .ref b), (1, .ref (a 0)), (2, .ref (a 77)), (3, .int (nI i))] []) : J l D a g G 4 M L 285 [(0, .ref b), (1, .ref (a 0)), (2, .ref (a 77)), (3, .int (nI i))] [] := by
  refine J_aload_n hX 1 dL_law_285 rfl ?_
  refine J_aload_n hX 0 dL_law_286 rfl ?_
  refine J_iload_n hX 3 dL_law_287 rfl ?_
  refine J_iconst (v := 1) hX dL_law_288 (by decide) ?_
  refine J_iadd hX dL_law_289 ?_
  refine J_topi (y := nI (i + 1)) (nI_add i 1) ?_
  refine J_sld hX hB hn (i + 1) (by omega) dL_law_290 ?_
  refine J_aload_n hX 0 dL_law_291 rfl ?_
  refine J_iload_n hX 3 dL_law_292 rfl ?_
  refine J_iconst (v := 2) hX dL_law_293 (by decide) ?_
  refine J_iadd hX dL_law_294 ?_
  refine J_topi (y := nI (i + 2)) (nI_add i 2) ?_
  refine J_sld hX hB hn (i + 2) (by omega) dL_law_295 ?_
  refine J_callV hX 0 [.int (xs (i + 1)), .int (xs (i + 2))] [] dL_law_296 (c_X7_set l D a g M L (xs (i + 1)) (xs (i + 2))) lk_L_26 jc_0 rfl rfl rfl (Nat.le_of_ble_eq_true rfl) (Nat.le_of_ble_eq_true rfl) (Nat.le_of_ble_eq_true rfl) (J_eq (st := [.int ((x_set M (xs (i + 1)) (xs (i + 2))).1)]) rfl ?_)
  refine J_aload_n hX 2 dL_law_299 rfl ?_
  refine J_aload_n hX 0 dL_law_300 rfl ?_
  refine J_iload_n hX 3 dL_law_301 rfl ?_
  refine J_iconst (v := 1) hX dL_law_302 (by decide) ?_
  refine J_iadd hX dL_law_303 ?_
  refine J_topi (y := nI (i + 1)) (nI_add i 1) ?_
  refine J_sld hX hB hn (i + 1) (by omega) dL_law_304 ?_
  refine J_aload_n hX 0 dL_law_305 rfl ?_
  refine J_iload_n hX 3 dL_law_306 rfl ?_
  refine J_iconst (v := 2) hX dL_law_307 (by decide) ?_
  refine J_iadd hX dL_law_308 ?_
  refine J_topi (y := nI (i + 2)) (nI_add i 2) ?_
  refine J_sld hX hB hn (i + 2) (by omega) dL_law_309 ?_
  refine J_callV hX 77 [.int (xs (i + 1)), .int (xs (i + 2))] [.int ((x_set M (xs (i + 1)) (xs (i + 2))).1)] dL_law_310 (c_X8_set l D a g ((x_set M (xs (i + 1)) (xs (i + 2))).2) L (xs (i + 1)) (xs (i + 2))) lk_L_30 jc_77 rfl rfl rfl (Nat.le_of_ble_eq_true rfl) (Nat.le_of_ble_eq_true rfl) (Nat.le_of_ble_eq_true rfl) (J_eq (st := [.int ((m_set ((x_set M (xs (i + 1)) (xs (i + 2))).2) (xs (i + 1)) (xs (i + 2))).1), .int ((x_set M (xs (i + 1)) (xs (i + 2))).1)]) rfl ?_)
  have q := pr_set I (xs (i + 1)) (xs (i + 2))
  refine J_icmp_eq hX 999 dL_law_313 rfl (fun _ => nxt _ _ q.2) (fun e => absurd q.1 e)
set_option maxHeartbeats 4000000 in
theorem arm_say {l : Launch} {D : va_G} {a : Nat → Nat} {g : Nat → ClassId} {G : jG} {M : jM} {L : jL} {b n i : Nat} {xs : Nat → Int32} (hX : jX D a g G RL cL_law 4 10 356) (hB : lwB a (gs G) b n xs) (hn : n ≤ 384) (hi : i + 6 ≤ n) (I : Inv2 M M) (nxt : ∀ M' L', Inv2 M' M' → J l D a g G 4 M' L' 999 [(0, .ref b), (1, .ref (a 0)), (2, .ref (a 77)), (3, .int (nI i))] []) : J l D a g G 4 M L 318 [(0, .ref b), (1, .ref (a 0)), (2, .ref (a 77)), (3, .int (nI i))] [] := by
  obtain ⟨n0, hn0, h18, h77⟩ := PP_n I
  refine J_aload_n hX 1 dL_law_318 rfl ?_
  refine J_aload_n hX 0 dL_law_319 rfl ?_
  refine J_iload_n hX 3 dL_law_320 rfl ?_
  refine J_iconst (v := 1) hX dL_law_321 (by decide) ?_
  refine J_iadd hX dL_law_322 ?_
  refine J_topi (y := nI (i + 1)) (nI_add i 1) ?_
  refine J_sld hX hB hn (i + 1) (by omega) dL_law_323 ?_
  refine J_callV hX 0 [.int (xs (i + 1))] [] dL_law_324 (c_X7_say l D a g M L n0 h18 hn0 (xs (i + 1))) lk_L_31 jc_0 rfl rfl rfl (Nat.le_of_ble_eq_true rfl) (Nat.le_of_ble_eq_true rfl) (Nat.le_of_ble_eq_true rfl) (J_eq (st := [.int ((x_say M n0 (xs (i + 1))).1)]) rfl ?_)
  refine J_aload_n hX 2 dL_law_327 rfl ?_
  refine J_aload_n hX 0 dL_law_328 rfl ?_
  refine J_iload_n hX 3 dL_law_329 rfl ?_
  refine J_iconst (v := 1) hX dL_law_330 (by decide) ?_
  refine J_iadd hX dL_law_331 ?_
  refine J_topi (y := nI (i + 1)) (nI_add i 1) ?_
  refine J_sld hX hB hn (i + 1) (by omega) dL_law_332 ?_
  refine J_callV hX 77 [.int (xs (i + 1))] [.int ((x_say M n0 (xs (i + 1))).1)] dL_law_333 (c_X8_say l D a g ((x_say M n0 (xs (i + 1))).2) L n0 (by rw [fx_say (by decide)]; exact h77) hn0 (xs (i + 1))) lk_L_35 jc_77 rfl rfl rfl (Nat.le_of_ble_eq_true rfl) (Nat.le_of_ble_eq_true rfl) (Nat.le_of_ble_eq_true rfl) (J_eq (st := [.int ((m_say ((x_say M n0 (xs (i + 1))).2) n0 (xs (i + 1))).1), .int ((x_say M n0 (xs (i + 1))).1)]) rfl ?_)
  have q := pr_say I hn0 h18 h77 (xs (i + 1))
  refine J_icmp_eq hX 999 dL_law_336 rfl (fun _ => nxt _ _ q.2) (fun e => absurd q.1 e)
set_option maxHeartbeats 4000000 in
theorem arm_wipe {l : Launch} {D : va_G} {a : Nat → Nat} {g : Nat → ClassId} {G : jG} {M : jM} {L : jL} {b n i : Nat} {xs : Nat → Int32} (hX : jX D a g G RL cL_law 4 10 356) (hB : lwB a (gs G) b n xs) (hn : n ≤ 384) (hi : i + 6 ≤ n) (I : Inv2 M M) (nxt : ∀ M' L', Inv2 M' M' → J l D a g G 4 M' L' 999 [(0, .ref b), (1, .ref (a 0)), (2, .ref (a 77)), (3, .int (nI i))] []) : J l D a g G 4 M L 341 [(0, .ref b), (1, .ref (a 0)), (2, .ref (a 77)), (3, .int (nI i))] [] := by
  refine J_aload_n hX 1 dL_law_341 rfl ?_
  refine J_callV hX 0 [] [] dL_law_342 (c_X7_wipe l D a g M L) lk_L_36 jc_0 rfl rfl rfl (Nat.le_of_ble_eq_true rfl) (Nat.le_of_ble_eq_true rfl) (Nat.le_of_ble_eq_true rfl) (J_eq (st := [.int ((x_wipe M).1)]) rfl ?_)
  refine J_aload_n hX 2 dL_law_345 rfl ?_
  refine J_callV hX 77 [] [.int ((x_wipe M).1)] dL_law_346 (c_X8_wipe l D a g ((x_wipe M).2) L) lk_L_40 jc_77 rfl rfl rfl (Nat.le_of_ble_eq_true rfl) (Nat.le_of_ble_eq_true rfl) (Nat.le_of_ble_eq_true rfl) (J_eq (st := [.int ((m_wipe ((x_wipe M).2)).1), .int ((x_wipe M).1)]) rfl ?_)
  have q := pr_wipe I
  refine J_icmp_eq hX 999 dL_law_349 rfl (fun _ => nxt _ _ q.2) (fun e => absurd q.1 e)
set_option maxHeartbeats 4000000 in
theorem arm_fault {l : Launch} {D : va_G} {a : Nat → Nat} {g : Nat → ClassId} {G : jG} {M : jM} {L : jL} {b n i : Nat} {xs : Nat → Int32} (hX : jX D a g G RL cL_law 4 10 356) (hB : lwB a (gs G) b n xs) (hn : n ≤ 384) (hi : i + 6 ≤ n) (I : Inv2 M M) (nxt : ∀ M' L', Inv2 M' M' → J l D a g G 4 M' L' 999 [(0, .ref b), (1, .ref (a 0)), (2, .ref (a 77)), (3, .int (nI i))] []) : J l D a g G 4 M L 354 [(0, .ref b), (1, .ref (a 0)), (2, .ref (a 77)), (3, .int (nI i))] [] := by
  obtain ⟨n0, hn0, h18, h77⟩ := PP_n I
  refine J_aload_n hX 1 dL_law_354 rfl ?_
  refine J_callV hX 0 [] [] dL_law_355 (c_X7_fault l D a g M L n0 h18 hn0) lk_L_41 jc_0 rfl rfl rfl (Nat.le_of_ble_eq_true rfl) (Nat.le_of_ble_eq_true rfl) (Nat.le_of_ble_eq_true rfl) (J_eq (st := [.int (x_fault (M 19) n0)]) rfl ?_)
  refine J_aload_n hX 2 dL_law_358 rfl ?_
  refine J_callV hX 77 [] [.int (x_fault (M 19) n0)] dL_law_359 (c_X8_fault l D a g M L n0 h77 hn0) lk_L_44 jc_77 rfl rfl rfl (Nat.le_of_ble_eq_true rfl) (Nat.le_of_ble_eq_true rfl) (Nat.le_of_ble_eq_true rfl) (J_eq (st := [.int ((m_fault M n0).1), .int (x_fault (M 19) n0)]) rfl ?_)
  have q := pr_fault I hn0
  refine J_icmp_eq hX 999 dL_law_362 rfl (fun _ => nxt _ _ q.2) (fun e => absurd q.1 e)
set_option maxHeartbeats 4000000 in
theorem arm_judge {l : Launch} {D : va_G} {a : Nat → Nat} {g : Nat → ClassId} {G : jG} {M : jM} {L : jL} {b n i : Nat} {xs : Nat → Int32} (hX : jX D a g G RL cL_law 4 10 356) (hB : lwB a (gs G) b n xs) (hn : n ≤ 384) (hi : i + 6 ≤ n) (I : Inv2 M M) (nxt : ∀ M' L', Inv2 M' M' → J l D a g G 4 M' L' 999 [(0, .ref b), (1, .ref (a 0)), (2, .ref (a 77)), (3, .int (nI i))] []) : J l D a g G 4 M L 367 [(0, .ref b), (1, .ref (a 0)), (2, .ref (a 77)), (3, .int (nI i))] [] := by
  obtain ⟨n0, hn0, h18, h77⟩ := PP_n I
  refine J_aload_n hX 1 dL_law_367 rfl ?_
  refine J_aload_n hX 0 dL_law_368 rfl ?_
  refine J_iload_n hX 3 dL_law_369 rfl ?_
  refine J_iconst (v := 1) hX dL_law_370 (by decide) ?_
  refine J_iadd hX dL_law_371 ?_
  refine J_topi (y := nI (i + 1)) (nI_add i 1) ?_
  refine J_sld hX hB hn (i + 1) (by omega) dL_law_372 ?_
  refine J_callV hX 0 [.int (xs (i + 1))] [] dL_law_373 (c_X7_judge l D a g M L n0 h18 hn0 (xs (i + 1))) lk_L_45 jc_0 rfl rfl rfl (Nat.le_of_ble_eq_true rfl) (Nat.le_of_ble_eq_true rfl) (Nat.le_of_ble_eq_true rfl) (J_eq (st := [.int ((x_judge M n0 (xs (i + 1))).1)]) rfl ?_)
  refine J_aload_n hX 2 dL_law_376 rfl ?_
  refine J_aload_n hX 0 dL_law_377 rfl ?_
  refine J_iload_n hX 3 dL_law_378 rfl ?_
  refine J_iconst (v := 1) hX dL_law_379 (by decide) ?_
  refine J_iadd hX dL_law_380 ?_
  refine J_topi (y := nI (i + 1)) (nI_add i 1) ?_
  refine J_sld hX hB hn (i + 1) (by omega) dL_law_381 ?_
  refine J_callV hX 77 [.int (xs (i + 1))] [.int ((x_judge M n0 (xs (i + 1))).1)] dL_law_382 (c_X8_judge l D a g ((x_judge M n0 (xs (i + 1))).2) L n0 (by rw [fx_judge I hn0 h18 (by decide)]; exact h77) hn0 (xs (i + 1))) lk_L_48 jc_77 rfl rfl rfl (Nat.le_of_ble_eq_true rfl) (Nat.le_of_ble_eq_true rfl) (Nat.le_of_ble_eq_true rfl) (J_eq (st := [.int ((m_judge ((x_judge M n0 (xs (i + 1))).2) n0 (xs (i + 1))).1), .int ((x_judge M n0 (xs (i + 1))).1)]) rfl ?_)
  have q := pr_judge I hn0 h18 (xs (i + 1))
  refine J_icmp_eq hX 999 dL_law_385 rfl (fun _ => nxt _ _ q.2) (fun e => absurd q.1 e)
set_option maxHeartbeats 4000000 in
theorem arm_behind {l : Launch} {D : va_G} {a : Nat → Nat} {g : Nat → ClassId} {G : jG} {M : jM} {L : jL} {b n i : Nat} {xs : Nat → Int32} (hX : jX D a g G RL cL_law 4 10 356) (hB : lwB a (gs G) b n xs) (hn : n ≤ 384) (hi : i + 6 ≤ n) (I : Inv2 M M) (nxt : ∀ M' L', Inv2 M' M' → J l D a g G 4 M' L' 999 [(0, .ref b), (1, .ref (a 0)), (2, .ref (a 77)), (3, .int (nI i))] []) : J l D a g G 4 M L 390 [(0, .ref b), (1, .ref (a 0)), (2, .ref (a 77)), (3, .int (nI i))] [] := by
  obtain ⟨n0, hn0, h18, h77⟩ := PP_n I
  refine J_aload_n hX 1 dL_law_390 rfl ?_
  refine J_aload_n hX 0 dL_law_391 rfl ?_
  refine J_iload_n hX 3 dL_law_392 rfl ?_
  refine J_iconst (v := 1) hX dL_law_393 (by decide) ?_
  refine J_iadd hX dL_law_394 ?_
  refine J_topi (y := nI (i + 1)) (nI_add i 1) ?_
  refine J_sld hX hB hn (i + 1) (by omega) dL_law_395 ?_
  refine J_aload_n hX 0 dL_law_396 rfl ?_
  refine J_iload_n hX 3 dL_law_397 rfl ?_
  refine J_iconst (v := 2) hX dL_law_398 (by decide) ?_
  refine J_iadd hX dL_law_399 ?_
  refine J_topi (y := nI (i + 2)) (nI_add i 2) ?_
  refine J_sld hX hB hn (i + 2) (by omega) dL_law_400 ?_
  refine J_callV hX 0 [.int (xs (i + 1)), .int (xs (i + 2))] [] dL_law_401 (c_X7_behind l D a g M L n0 h18 hn0 (xs (i + 1)) (xs (i + 2))) lk_L_49 jc_0 rfl rfl rfl (Nat.le_of_ble_eq_true rfl) (Nat.le_of_ble_eq_true rfl) (Nat.le_of_ble_eq_true rfl) (J_eq (st := [.int ((x_behind M n0 (xs (i + 1)) (xs (i + 2))).1)]) rfl ?_)
  refine J_aload_n hX 2 dL_law_404 rfl ?_
  refine J_aload_n hX 0 dL_law_405 rfl ?_
  refine J_iload_n hX 3 dL_law_406 rfl ?_
  refine J_iconst (v := 1) hX dL_law_407 (by decide) ?_
  refine J_iadd hX dL_law_408 ?_
  refine J_topi (y := nI (i + 1)) (nI_add i 1) ?_
  refine J_sld hX hB hn (i + 1) (by omega) dL_law_409 ?_
  refine J_aload_n hX 0 dL_law_410 rfl ?_
  refine J_iload_n hX 3 dL_law_411 rfl ?_
  refine J_iconst (v := 2) hX dL_law_412 (by decide) ?_
  refine J_iadd hX dL_law_413 ?_
  refine J_topi (y := nI (i + 2)) (nI_add i 2) ?_
  refine J_sld hX hB hn (i + 2) (by omega) dL_law_414 ?_
  refine J_callV hX 77 [.int (xs (i + 1)), .int (xs (i + 2))] [.int ((x_behind M n0 (xs (i + 1)) (xs (i + 2))).1)] dL_law_415 (c_X8_behind l D a g ((x_behind M n0 (xs (i + 1)) (xs (i + 2))).2) L n0 (by rw [fx_behind I hn0 h18 (by decide)]; exact h77) hn0 (xs (i + 1)) (xs (i + 2))) lk_L_52 jc_77 rfl rfl rfl (Nat.le_of_ble_eq_true rfl) (Nat.le_of_ble_eq_true rfl) (Nat.le_of_ble_eq_true rfl) (J_eq (st := [.int ((m_behind ((x_behind M n0 (xs (i + 1)) (xs (i + 2))).2) n0 (xs (i + 1)) (xs (i + 2))).1), .int ((x_behind M n0 (xs (i + 1)) (xs (i + 2))).1)]) rfl ?_)
  have q := pr_behind I hn0 h18 (xs (i + 1)) (xs (i + 2))
  refine J_icmp_eq hX 999 dL_law_418 rfl (fun _ => nxt _ _ q.2) (fun e => absurd q.1 e)
set_option maxHeartbeats 4000000 in
theorem arm_total {l : Launch} {D : va_G} {a : Nat → Nat} {g : Nat → ClassId} {G : jG} {M : jM} {L : jL} {b n i : Nat} {xs : Nat → Int32} (hX : jX D a g G RL cL_law 4 10 356) (hB : lwB a (gs G) b n xs) (hn : n ≤ 384) (hi : i + 6 ≤ n) (I : Inv2 M M) (nxt : ∀ M' L', Inv2 M' M' → J l D a g G 4 M' L' 999 [(0, .ref b), (1, .ref (a 0)), (2, .ref (a 77)), (3, .int (nI i))] []) : J l D a g G 4 M L 423 [(0, .ref b), (1, .ref (a 0)), (2, .ref (a 77)), (3, .int (nI i))] [] := by
  obtain ⟨n0, hn0, h18, h77⟩ := PP_n I
  refine J_aload_n hX 1 dL_law_423 rfl ?_
  refine J_aload_n hX 0 dL_law_424 rfl ?_
  refine J_iload_n hX 3 dL_law_425 rfl ?_
  refine J_iconst (v := 1) hX dL_law_426 (by decide) ?_
  refine J_iadd hX dL_law_427 ?_
  refine J_topi (y := nI (i + 1)) (nI_add i 1) ?_
  refine J_sld hX hB hn (i + 1) (by omega) dL_law_428 ?_
  refine J_callV hX 0 [.int (xs (i + 1))] [] dL_law_429 (c_X7_total l D a g M L n0 h18 hn0 (xs (i + 1))) lk_L_53 jc_0 rfl rfl rfl (Nat.le_of_ble_eq_true rfl) (Nat.le_of_ble_eq_true rfl) (Nat.le_of_ble_eq_true rfl) (J_eq (st := [.int ((x_total M n0 (xs (i + 1))).1)]) rfl ?_)
  refine J_aload_n hX 2 dL_law_432 rfl ?_
  refine J_aload_n hX 0 dL_law_433 rfl ?_
  refine J_iload_n hX 3 dL_law_434 rfl ?_
  refine J_iconst (v := 1) hX dL_law_435 (by decide) ?_
  refine J_iadd hX dL_law_436 ?_
  refine J_topi (y := nI (i + 1)) (nI_add i 1) ?_
  refine J_sld hX hB hn (i + 1) (by omega) dL_law_437 ?_
  refine J_callV hX 77 [.int (xs (i + 1))] [.int ((x_total M n0 (xs (i + 1))).1)] dL_law_438 (c_X8_total l D a g ((x_total M n0 (xs (i + 1))).2) L n0 (by rw [fx_total I hn0 h18 (by decide)]; exact h77) hn0 (xs (i + 1))) lk_L_56 jc_77 rfl rfl rfl (Nat.le_of_ble_eq_true rfl) (Nat.le_of_ble_eq_true rfl) (Nat.le_of_ble_eq_true rfl) (J_eq (st := [.int ((m_total ((x_total M n0 (xs (i + 1))).2) n0 (xs (i + 1))).1), .int ((x_total M n0 (xs (i + 1))).1)]) rfl ?_)
  have q := pr_total I hn0 h18 (xs (i + 1))
  refine J_icmp_eq hX 999 dL_law_441 rfl (fun _ => nxt _ _ q.2) (fun e => absurd q.1 e)
set_option maxHeartbeats 4000000 in
theorem arm_fell {l : Launch} {D : va_G} {a : Nat → Nat} {g : Nat → ClassId} {G : jG} {M : jM} {L : jL} {b n i : Nat} {xs : Nat → Int32} (hX : jX D a g G RL cL_law 4 10 356) (hB : lwB a (gs G) b n xs) (hn : n ≤ 384) (hi : i + 6 ≤ n) (I : Inv2 M M) (nxt : ∀ M' L', Inv2 M' M' → J l D a g G 4 M' L' 999 [(0, .ref b), (1, .ref (a 0)), (2, .ref (a 77)), (3, .int (nI i))] []) : J l D a g G 4 M L 446 [(0, .ref b), (1, .ref (a 0)), (2, .ref (a 77)), (3, .int (nI i))] [] := by
  obtain ⟨n0, hn0, h18, h77⟩ := PP_n I
  refine J_aload_n hX 1 dL_law_446 rfl ?_
  refine J_aload_n hX 0 dL_law_447 rfl ?_
  refine J_iload_n hX 3 dL_law_448 rfl ?_
  refine J_iconst (v := 1) hX dL_law_449 (by decide) ?_
  refine J_iadd hX dL_law_450 ?_
  refine J_topi (y := nI (i + 1)) (nI_add i 1) ?_
  refine J_sld hX hB hn (i + 1) (by omega) dL_law_451 ?_
  refine J_callV hX 0 [.int (xs (i + 1))] [] dL_law_452 (c_X7_fell l D a g M L n0 h18 hn0 (xs (i + 1))) lk_L_57 jc_0 rfl rfl rfl (Nat.le_of_ble_eq_true rfl) (Nat.le_of_ble_eq_true rfl) (Nat.le_of_ble_eq_true rfl) (J_eq (st := [.int ((x_fell M n0 (xs (i + 1))).1)]) rfl ?_)
  refine J_aload_n hX 2 dL_law_455 rfl ?_
  refine J_aload_n hX 0 dL_law_456 rfl ?_
  refine J_iload_n hX 3 dL_law_457 rfl ?_
  refine J_iconst (v := 1) hX dL_law_458 (by decide) ?_
  refine J_iadd hX dL_law_459 ?_
  refine J_topi (y := nI (i + 1)) (nI_add i 1) ?_
  refine J_sld hX hB hn (i + 1) (by omega) dL_law_460 ?_
  refine J_callV hX 77 [.int (xs (i + 1))] [.int ((x_fell M n0 (xs (i + 1))).1)] dL_law_461 (c_X8_fell l D a g ((x_fell M n0 (xs (i + 1))).2) L n0 (by rw [fx_fell I hn0 h18 (by decide)]; exact h77) hn0 (xs (i + 1))) lk_L_60 jc_77 rfl rfl rfl (Nat.le_of_ble_eq_true rfl) (Nat.le_of_ble_eq_true rfl) (Nat.le_of_ble_eq_true rfl) (J_eq (st := [.int ((m_fell ((x_fell M n0 (xs (i + 1))).2) n0 (xs (i + 1))).1), .int ((x_fell M n0 (xs (i + 1))).1)]) rfl ?_)
  have q := pr_fell I hn0 h18 (xs (i + 1))
  refine J_icmp_eq hX 999 dL_law_464 rfl (fun _ => nxt _ _ q.2) (fun e => absurd q.1 e)
set_option maxHeartbeats 4000000 in
theorem arm_done {l : Launch} {D : va_G} {a : Nat → Nat} {g : Nat → ClassId} {G : jG} {M : jM} {L : jL} {b n i : Nat} {xs : Nat → Int32} (hX : jX D a g G RL cL_law 4 10 356) (hB : lwB a (gs G) b n xs) (hn : n ≤ 384) (hi : i + 6 ≤ n) (I : Inv2 M M) (nxt : ∀ M' L', Inv2 M' M' → J l D a g G 4 M' L' 999 [(0, .ref b), (1, .ref (a 0)), (2, .ref (a 77)), (3, .int (nI i))] []) : J l D a g G 4 M L 469 [(0, .ref b), (1, .ref (a 0)), (2, .ref (a 77)), (3, .int (nI i))] [] := by
  obtain ⟨n0, hn0, h18, h77⟩ := PP_n I
  refine J_aload_n hX 1 dL_law_469 rfl ?_
  refine J_callV hX 0 [] [] dL_law_470 (c_X7_done l D a g M L n0 h18 hn0) lk_L_61 jc_0 rfl rfl rfl (Nat.le_of_ble_eq_true rfl) (Nat.le_of_ble_eq_true rfl) (Nat.le_of_ble_eq_true rfl) (J_eq (st := [.int ((x_done M n0).1)]) rfl ?_)
  refine J_aload_n hX 2 dL_law_473 rfl ?_
  refine J_callV hX 77 [] [.int ((x_done M n0).1)] dL_law_474 (c_X8_done l D a g ((x_done M n0).2) L n0 (by rw [fx_done I hn0 h18 (by decide)]; exact h77) hn0) lk_L_64 jc_77 rfl rfl rfl (Nat.le_of_ble_eq_true rfl) (Nat.le_of_ble_eq_true rfl) (Nat.le_of_ble_eq_true rfl) (J_eq (st := [.int ((m_done ((x_done M n0).2) n0).1), .int ((x_done M n0).1)]) rfl ?_)
  have q := pr_done I hn0 h18
  refine J_icmp_eq hX 999 dL_law_477 rfl (fun _ => nxt _ _ q.2) (fun e => absurd q.1 e)
set_option maxHeartbeats 4000000 in
theorem arm_struck {l : Launch} {D : va_G} {a : Nat → Nat} {g : Nat → ClassId} {G : jG} {M : jM} {L : jL} {b n i : Nat} {xs : Nat → Int32} (hX : jX D a g G RL cL_law 4 10 356) (hB : lwB a (gs G) b n xs) (hn : n ≤ 384) (hi : i + 6 ≤ n) (I : Inv2 M M) (nxt : ∀ M' L', Inv2 M' M' → J l D a g G 4 M' L' 999 [(0, .ref b), (1, .ref (a 0)), (2, .ref (a 77)), (3, .int (nI i))] []) : J l D a g G 4 M L 482 [(0, .ref b), (1, .ref (a 0)), (2, .ref (a 77)), (3, .int (nI i))] [] := by
  refine J_aload_n hX 1 dL_law_482 rfl ?_
  refine J_aload_n hX 0 dL_law_483 rfl ?_
  refine J_iload_n hX 3 dL_law_484 rfl ?_
  refine J_iconst (v := 1) hX dL_law_485 (by decide) ?_
  refine J_iadd hX dL_law_486 ?_
  refine J_topi (y := nI (i + 1)) (nI_add i 1) ?_
  refine J_sld hX hB hn (i + 1) (by omega) dL_law_487 ?_
  refine J_callV hX 0 [.int (xs (i + 1))] [] dL_law_488 (c_X7_struck l D a g M L (xs (i + 1))) lk_L_65 jc_0 rfl rfl rfl (Nat.le_of_ble_eq_true rfl) (Nat.le_of_ble_eq_true rfl) (Nat.le_of_ble_eq_true rfl) (fun rv M1 L1 h1 => ?_)
  obtain ⟨rfl, h2, rfl⟩ := h1
  refine J_cg (st' := [.int (x_struck M (xs (i + 1)))]) rfl rfl rfl rfl ?_
  refine J_aload_n hX 2 dL_law_491 rfl ?_
  refine J_aload_n hX 0 dL_law_492 rfl ?_
  refine J_iload_n hX 3 dL_law_493 rfl ?_
  refine J_iconst (v := 1) hX dL_law_494 (by decide) ?_
  refine J_iadd hX dL_law_495 ?_
  refine J_topi (y := nI (i + 1)) (nI_add i 1) ?_
  refine J_sld hX hB hn (i + 1) (by omega) dL_law_496 ?_
  refine J_callV hX 77 [.int (xs (i + 1))] [.int (x_struck M (xs (i + 1)))] dL_law_497 (c_X8_struck l D a g M1 L1 (xs (i + 1))) lk_L_68 jc_77 rfl rfl rfl (Nat.le_of_ble_eq_true rfl) (Nat.le_of_ble_eq_true rfl) (Nat.le_of_ble_eq_true rfl) (fun rv M2 L2 h3 => ?_)
  obtain ⟨rfl, h4, h5⟩ := h3
  refine J_cg (st' := [.int (m_struck M1 (xs (i + 1))), .int (x_struck M (xs (i + 1)))]) rfl rfl rfl rfl ?_
  have i1 : Inv2 M M1 := Inv2_1 I (fun c hc => h2 c (by omega) (by omega))
  have i2 : Inv2 M1 M1 := Inv2_X i1 (fun c _ _ q1 q2 => h2 c q1 q2)
  refine J_icmp_eq hX 999 dL_law_500 rfl (fun _ => nxt _ _ (Inv2_2 (M1 := M1) (Inv2_N i2 (fun c _ _ _ _ _ q1 q2 _ => h4 c q1 q2) (fun j _ => by rw [h4 77 (by decide) (by decide)])) (fun c hc => h4 c (by omega) (by omega)))) (fun e => absurd (e_struck i1 (xs (i + 1))) e)
set_option maxHeartbeats 4000000 in
theorem arm_prints {l : Launch} {D : va_G} {a : Nat → Nat} {g : Nat → ClassId} {G : jG} {M : jM} {L : jL} {b n i : Nat} {xs : Nat → Int32} (hX : jX D a g G RL cL_law 4 10 356) (hB : lwB a (gs G) b n xs) (hn : n ≤ 384) (hi : i + 6 ≤ n) (I : Inv2 M M) (nxt : ∀ M' L', Inv2 M' M' → J l D a g G 4 M' L' 999 [(0, .ref b), (1, .ref (a 0)), (2, .ref (a 77)), (3, .int (nI i))] []) : J l D a g G 4 M L 505 [(0, .ref b), (1, .ref (a 0)), (2, .ref (a 77)), (3, .int (nI i))] [] := by
  refine J_aload_n hX 1 dL_law_505 rfl ?_
  refine J_aload_n hX 0 dL_law_506 rfl ?_
  refine J_iload_n hX 3 dL_law_507 rfl ?_
  refine J_iconst (v := 1) hX dL_law_508 (by decide) ?_
  refine J_iadd hX dL_law_509 ?_
  refine J_topi (y := nI (i + 1)) (nI_add i 1) ?_
  refine J_sld hX hB hn (i + 1) (by omega) dL_law_510 ?_
  refine J_callV hX 0 [.int (xs (i + 1))] [] dL_law_511 (c_X7_prints l D a g M L (xs (i + 1))) lk_L_69 jc_0 rfl rfl rfl (Nat.le_of_ble_eq_true rfl) (Nat.le_of_ble_eq_true rfl) (Nat.le_of_ble_eq_true rfl) (J_eq (st := [.int (x_prints M (xs (i + 1)))]) rfl ?_)
  refine J_aload_n hX 2 dL_law_514 rfl ?_
  refine J_aload_n hX 0 dL_law_515 rfl ?_
  refine J_iload_n hX 3 dL_law_516 rfl ?_
  refine J_iconst (v := 1) hX dL_law_517 (by decide) ?_
  refine J_iadd hX dL_law_518 ?_
  refine J_topi (y := nI (i + 1)) (nI_add i 1) ?_
  refine J_sld hX hB hn (i + 1) (by omega) dL_law_519 ?_
  refine J_callV hX 77 [.int (xs (i + 1))] [.int (x_prints M (xs (i + 1)))] dL_law_520 (c_X8_prints l D a g M L (xs (i + 1))) lk_L_72 jc_77 rfl rfl rfl (Nat.le_of_ble_eq_true rfl) (Nat.le_of_ble_eq_true rfl) (Nat.le_of_ble_eq_true rfl) (J_eq (st := [.int (m_prints M (xs (i + 1))), .int (x_prints M (xs (i + 1)))]) rfl ?_)
  refine J_icmp_eq hX 999 dL_law_523 rfl (fun _ => nxt _ _ I) (fun e => absurd (e_prints I (xs (i + 1))) e)
set_option maxHeartbeats 4000000 in
theorem arm_buys {l : Launch} {D : va_G} {a : Nat → Nat} {g : Nat → ClassId} {G : jG} {M : jM} {L : jL} {b n i : Nat} {xs : Nat → Int32} (hX : jX D a g G RL cL_law 4 10 356) (hB : lwB a (gs G) b n xs) (hn : n ≤ 384) (hi : i + 6 ≤ n) (I : Inv2 M M) (nxt : ∀ M' L', Inv2 M' M' → J l D a g G 4 M' L' 999 [(0, .ref b), (1, .ref (a 0)), (2, .ref (a 77)), (3, .int (nI i))] []) : J l D a g G 4 M L 528 [(0, .ref b), (1, .ref (a 0)), (2, .ref (a 77)), (3, .int (nI i))] [] := by
  refine J_aload_n hX 1 dL_law_528 rfl ?_
  refine J_aload_n hX 0 dL_law_529 rfl ?_
  refine J_iload_n hX 3 dL_law_530 rfl ?_
  refine J_iconst (v := 1) hX dL_law_531 (by decide) ?_
  refine J_iadd hX dL_law_532 ?_
  refine J_topi (y := nI (i + 1)) (nI_add i 1) ?_
  refine J_sld hX hB hn (i + 1) (by omega) dL_law_533 ?_
  refine J_aload_n hX 0 dL_law_534 rfl ?_
  refine J_iload_n hX 3 dL_law_535 rfl ?_
  refine J_iconst (v := 2) hX dL_law_536 (by decide) ?_
  refine J_iadd hX dL_law_537 ?_
  refine J_topi (y := nI (i + 2)) (nI_add i 2) ?_
  refine J_sld hX hB hn (i + 2) (by omega) dL_law_538 ?_
  refine J_callV hX 0 [.int (xs (i + 1)), .int (xs (i + 2))] [] dL_law_539 (c_X7_buys l D a g M L (xs (i + 1)) (xs (i + 2))) lk_L_73 jc_0 rfl rfl rfl (Nat.le_of_ble_eq_true rfl) (Nat.le_of_ble_eq_true rfl) (Nat.le_of_ble_eq_true rfl) (J_eq (st := [.int (x_buys M (xs (i + 1)) (xs (i + 2)))]) rfl ?_)
  refine J_aload_n hX 2 dL_law_542 rfl ?_
  refine J_aload_n hX 0 dL_law_543 rfl ?_
  refine J_iload_n hX 3 dL_law_544 rfl ?_
  refine J_iconst (v := 1) hX dL_law_545 (by decide) ?_
  refine J_iadd hX dL_law_546 ?_
  refine J_topi (y := nI (i + 1)) (nI_add i 1) ?_
  refine J_sld hX hB hn (i + 1) (by omega) dL_law_547 ?_
  refine J_aload_n hX 0 dL_law_548 rfl ?_
  refine J_iload_n hX 3 dL_law_549 rfl ?_
  refine J_iconst (v := 2) hX dL_law_550 (by decide) ?_
  refine J_iadd hX dL_law_551 ?_
  refine J_topi (y := nI (i + 2)) (nI_add i 2) ?_
  refine J_sld hX hB hn (i + 2) (by omega) dL_law_552 ?_
  refine J_callV hX 77 [.int (xs (i + 1)), .int (xs (i + 2))] [.int (x_buys M (xs (i + 1)) (xs (i + 2)))] dL_law_553 (c_X8_buys l D a g M L (xs (i + 1)) (xs (i + 2))) lk_L_76 jc_77 rfl rfl rfl (Nat.le_of_ble_eq_true rfl) (Nat.le_of_ble_eq_true rfl) (Nat.le_of_ble_eq_true rfl) (J_eq (st := [.int (m_buys M (xs (i + 1)) (xs (i + 2))), .int (x_buys M (xs (i + 1)) (xs (i + 2)))]) rfl ?_)
  refine J_icmp_eq hX 999 dL_law_556 rfl (fun _ => nxt _ _ I) (fun e => absurd (e_buys I (xs (i + 1)) (xs (i + 2))) e)
set_option maxHeartbeats 4000000 in
theorem arm_runs {l : Launch} {D : va_G} {a : Nat → Nat} {g : Nat → ClassId} {G : jG} {M : jM} {L : jL} {b n i : Nat} {xs : Nat → Int32} (hX : jX D a g G RL cL_law 4 10 356) (hB : lwB a (gs G) b n xs) (hn : n ≤ 384) (hi : i + 6 ≤ n) (I : Inv2 M M) (nxt : ∀ M' L', Inv2 M' M' → J l D a g G 4 M' L' 999 [(0, .ref b), (1, .ref (a 0)), (2, .ref (a 77)), (3, .int (nI i))] []) : J l D a g G 4 M L 561 [(0, .ref b), (1, .ref (a 0)), (2, .ref (a 77)), (3, .int (nI i))] [] := by
  refine J_aload_n hX 1 dL_law_561 rfl ?_
  refine J_aload_n hX 0 dL_law_562 rfl ?_
  refine J_iload_n hX 3 dL_law_563 rfl ?_
  refine J_iconst (v := 1) hX dL_law_564 (by decide) ?_
  refine J_iadd hX dL_law_565 ?_
  refine J_topi (y := nI (i + 1)) (nI_add i 1) ?_
  refine J_sld hX hB hn (i + 1) (by omega) dL_law_566 ?_
  refine J_aload_n hX 0 dL_law_567 rfl ?_
  refine J_iload_n hX 3 dL_law_568 rfl ?_
  refine J_iconst (v := 2) hX dL_law_569 (by decide) ?_
  refine J_iadd hX dL_law_570 ?_
  refine J_topi (y := nI (i + 2)) (nI_add i 2) ?_
  refine J_sld hX hB hn (i + 2) (by omega) dL_law_571 ?_
  refine J_aload_n hX 0 dL_law_572 rfl ?_
  refine J_iload_n hX 3 dL_law_573 rfl ?_
  refine J_iconst (v := 3) hX dL_law_574 (by decide) ?_
  refine J_iadd hX dL_law_575 ?_
  refine J_topi (y := nI (i + 3)) (nI_add i 3) ?_
  refine J_sld hX hB hn (i + 3) (by omega) dL_law_576 ?_
  refine J_callV hX 0 [.int (xs (i + 1)), .int (xs (i + 2)), .int (xs (i + 3))] [] dL_law_577 (c_X7_runs l D a g M L (xs (i + 1)) (xs (i + 2)) (xs (i + 3))) lk_L_77 jc_0 rfl rfl rfl (Nat.le_of_ble_eq_true rfl) (Nat.le_of_ble_eq_true rfl) (Nat.le_of_ble_eq_true rfl) (J_eq (st := [.int (x_runs M (xs (i + 1)) (xs (i + 2)) (xs (i + 3)))]) rfl ?_)
  refine J_aload_n hX 2 dL_law_580 rfl ?_
  refine J_aload_n hX 0 dL_law_581 rfl ?_
  refine J_iload_n hX 3 dL_law_582 rfl ?_
  refine J_iconst (v := 1) hX dL_law_583 (by decide) ?_
  refine J_iadd hX dL_law_584 ?_
  refine J_topi (y := nI (i + 1)) (nI_add i 1) ?_
  refine J_sld hX hB hn (i + 1) (by omega) dL_law_585 ?_
  refine J_aload_n hX 0 dL_law_586 rfl ?_
  refine J_iload_n hX 3 dL_law_587 rfl ?_
  refine J_iconst (v := 2) hX dL_law_588 (by decide) ?_
  refine J_iadd hX dL_law_589 ?_
  refine J_topi (y := nI (i + 2)) (nI_add i 2) ?_
  refine J_sld hX hB hn (i + 2) (by omega) dL_law_590 ?_
  refine J_aload_n hX 0 dL_law_591 rfl ?_
  refine J_iload_n hX 3 dL_law_592 rfl ?_
  refine J_iconst (v := 3) hX dL_law_593 (by decide) ?_
  refine J_iadd hX dL_law_594 ?_
  refine J_topi (y := nI (i + 3)) (nI_add i 3) ?_
  refine J_sld hX hB hn (i + 3) (by omega) dL_law_595 ?_
  refine J_callV hX 77 [.int (xs (i + 1)), .int (xs (i + 2)), .int (xs (i + 3))] [.int (x_runs M (xs (i + 1)) (xs (i + 2)) (xs (i + 3)))] dL_law_596 (c_X8_runs l D a g M L (xs (i + 1)) (xs (i + 2)) (xs (i + 3))) lk_L_80 jc_77 rfl rfl rfl (Nat.le_of_ble_eq_true rfl) (Nat.le_of_ble_eq_true rfl) (Nat.le_of_ble_eq_true rfl) (J_eq (st := [.int (m_runs M (xs (i + 1)) (xs (i + 2)) (xs (i + 3))), .int (x_runs M (xs (i + 1)) (xs (i + 2)) (xs (i + 3)))]) rfl ?_)
  refine J_icmp_eq hX 999 dL_law_599 rfl (fun _ => nxt _ _ I) (fun e => absurd (e_runs I (xs (i + 1)) (xs (i + 2)) (xs (i + 3))) e)
set_option maxHeartbeats 4000000 in
theorem arm_wages {l : Launch} {D : va_G} {a : Nat → Nat} {g : Nat → ClassId} {G : jG} {M : jM} {L : jL} {b n i : Nat} {xs : Nat → Int32} (hX : jX D a g G RL cL_law 4 10 356) (hB : lwB a (gs G) b n xs) (hn : n ≤ 384) (hi : i + 6 ≤ n) (I : Inv2 M M) (nxt : ∀ M' L', Inv2 M' M' → J l D a g G 4 M' L' 999 [(0, .ref b), (1, .ref (a 0)), (2, .ref (a 77)), (3, .int (nI i))] []) : J l D a g G 4 M L 604 [(0, .ref b), (1, .ref (a 0)), (2, .ref (a 77)), (3, .int (nI i))] [] := by
  refine J_aload_n hX 1 dL_law_604 rfl ?_
  refine J_aload_n hX 0 dL_law_605 rfl ?_
  refine J_iload_n hX 3 dL_law_606 rfl ?_
  refine J_iconst (v := 1) hX dL_law_607 (by decide) ?_
  refine J_iadd hX dL_law_608 ?_
  refine J_topi (y := nI (i + 1)) (nI_add i 1) ?_
  refine J_sld hX hB hn (i + 1) (by omega) dL_law_609 ?_
  refine J_aload_n hX 0 dL_law_610 rfl ?_
  refine J_iload_n hX 3 dL_law_611 rfl ?_
  refine J_iconst (v := 2) hX dL_law_612 (by decide) ?_
  refine J_iadd hX dL_law_613 ?_
  refine J_topi (y := nI (i + 2)) (nI_add i 2) ?_
  refine J_sld hX hB hn (i + 2) (by omega) dL_law_614 ?_
  refine J_callV hX 0 [.int (xs (i + 1)), .int (xs (i + 2))] [] dL_law_615 (c_X7_wages l D a g M L (xs (i + 1)) (xs (i + 2))) lk_L_81 jc_0 rfl rfl rfl (Nat.le_of_ble_eq_true rfl) (Nat.le_of_ble_eq_true rfl) (Nat.le_of_ble_eq_true rfl) (J_eq (st := [.int (x_wages (xs (i + 1)) (xs (i + 2)))]) rfl ?_)
  refine J_aload_n hX 2 dL_law_618 rfl ?_
  refine J_aload_n hX 0 dL_law_619 rfl ?_
  refine J_iload_n hX 3 dL_law_620 rfl ?_
  refine J_iconst (v := 1) hX dL_law_621 (by decide) ?_
  refine J_iadd hX dL_law_622 ?_
  refine J_topi (y := nI (i + 1)) (nI_add i 1) ?_
  refine J_sld hX hB hn (i + 1) (by omega) dL_law_623 ?_
  refine J_aload_n hX 0 dL_law_624 rfl ?_
  refine J_iload_n hX 3 dL_law_625 rfl ?_
  refine J_iconst (v := 2) hX dL_law_626 (by decide) ?_
  refine J_iadd hX dL_law_627 ?_
  refine J_topi (y := nI (i + 2)) (nI_add i 2) ?_
  refine J_sld hX hB hn (i + 2) (by omega) dL_law_628 ?_
  refine J_callV hX 77 [.int (xs (i + 1)), .int (xs (i + 2))] [.int (x_wages (xs (i + 1)) (xs (i + 2)))] dL_law_629 (c_X8_wages l D a g M L (xs (i + 1)) (xs (i + 2))) lk_L_84 jc_77 rfl rfl rfl (Nat.le_of_ble_eq_true rfl) (Nat.le_of_ble_eq_true rfl) (Nat.le_of_ble_eq_true rfl) (fun rv M2 L2 h3 => ?_)
  obtain ⟨rfl, h4, h5⟩ := h3
  refine J_cg (st' := [.int (m_wages (xs (i + 1)) (xs (i + 2))), .int (x_wages (xs (i + 1)) (xs (i + 2)))]) rfl rfl rfl rfl ?_
  refine J_icmp_eq hX 999 dL_law_632 rfl (fun _ => nxt _ _ (Inv2_2 (M1 := M) (Inv2_N I (fun c _ _ _ _ _ _ _ h94 => h4 c h94) (fun j _ => by rw [h4 77 (by decide)])) (fun c hc => h4 c (by omega)))) (fun e => absurd (e_wages (xs (i + 1)) (xs (i + 2))) e)
set_option maxHeartbeats 4000000 in
theorem arm_change {l : Launch} {D : va_G} {a : Nat → Nat} {g : Nat → ClassId} {G : jG} {M : jM} {L : jL} {b n i : Nat} {xs : Nat → Int32} (hX : jX D a g G RL cL_law 4 10 356) (hB : lwB a (gs G) b n xs) (hn : n ≤ 384) (hi : i + 6 ≤ n) (I : Inv2 M M) (nxt : ∀ M' L', Inv2 M' M' → J l D a g G 4 M' L' 999 [(0, .ref b), (1, .ref (a 0)), (2, .ref (a 77)), (3, .int (nI i))] []) : J l D a g G 4 M L 637 [(0, .ref b), (1, .ref (a 0)), (2, .ref (a 77)), (3, .int (nI i))] [] := by
  refine J_aload_n hX 1 dL_law_637 rfl ?_
  refine J_aload_n hX 0 dL_law_638 rfl ?_
  refine J_iload_n hX 3 dL_law_639 rfl ?_
  refine J_iconst (v := 1) hX dL_law_640 (by decide) ?_
  refine J_iadd hX dL_law_641 ?_
  refine J_topi (y := nI (i + 1)) (nI_add i 1) ?_
  refine J_sld hX hB hn (i + 1) (by omega) dL_law_642 ?_
  refine J_aload_n hX 0 dL_law_643 rfl ?_
  refine J_iload_n hX 3 dL_law_644 rfl ?_
  refine J_iconst (v := 2) hX dL_law_645 (by decide) ?_
  refine J_iadd hX dL_law_646 ?_
  refine J_topi (y := nI (i + 2)) (nI_add i 2) ?_
  refine J_sld hX hB hn (i + 2) (by omega) dL_law_647 ?_
  refine J_aload_n hX 0 dL_law_648 rfl ?_
  refine J_iload_n hX 3 dL_law_649 rfl ?_
  refine J_iconst (v := 3) hX dL_law_650 (by decide) ?_
  refine J_iadd hX dL_law_651 ?_
  refine J_topi (y := nI (i + 3)) (nI_add i 3) ?_
  refine J_sld hX hB hn (i + 3) (by omega) dL_law_652 ?_
  refine J_aload_n hX 0 dL_law_653 rfl ?_
  refine J_iload_n hX 3 dL_law_654 rfl ?_
  refine J_iconst (v := 4) hX dL_law_655 (by decide) ?_
  refine J_iadd hX dL_law_656 ?_
  refine J_topi (y := nI (i + 4)) (nI_add i 4) ?_
  refine J_sld hX hB hn (i + 4) (by omega) dL_law_657 ?_
  refine J_aload_n hX 0 dL_law_658 rfl ?_
  refine J_iload_n hX 3 dL_law_659 rfl ?_
  refine J_iconst (v := 5) hX dL_law_660 (by decide) ?_
  refine J_iadd hX dL_law_661 ?_
  refine J_topi (y := nI (i + 5)) (nI_add i 5) ?_
  refine J_sld hX hB hn (i + 5) (by omega) dL_law_662 ?_
  refine J_callV hX 0 [.int (xs (i + 1)), .int (xs (i + 2)), .int (xs (i + 3)), .int (xs (i + 4)), .int (xs (i + 5))] [] dL_law_663 (c_X7_change l D a g M L (xs (i + 1)) (xs (i + 2)) (xs (i + 3)) (xs (i + 4)) (xs (i + 5))) lk_L_85 jc_0 rfl rfl rfl (Nat.le_of_ble_eq_true rfl) (Nat.le_of_ble_eq_true rfl) (Nat.le_of_ble_eq_true rfl) (fun rv M1 L1 h1 => ?_)
  obtain ⟨rfl, rfl, h2⟩ := h1
  refine J_cg (st' := [.long (x_change (xs (i + 1)) (xs (i + 2)) (xs (i + 3)) (xs (i + 4)) (xs (i + 5)))]) rfl rfl rfl rfl ?_
  refine J_aload_n hX 2 dL_law_666 rfl ?_
  refine J_aload_n hX 0 dL_law_667 rfl ?_
  refine J_iload_n hX 3 dL_law_668 rfl ?_
  refine J_iconst (v := 1) hX dL_law_669 (by decide) ?_
  refine J_iadd hX dL_law_670 ?_
  refine J_topi (y := nI (i + 1)) (nI_add i 1) ?_
  refine J_sld hX hB hn (i + 1) (by omega) dL_law_671 ?_
  refine J_aload_n hX 0 dL_law_672 rfl ?_
  refine J_iload_n hX 3 dL_law_673 rfl ?_
  refine J_iconst (v := 2) hX dL_law_674 (by decide) ?_
  refine J_iadd hX dL_law_675 ?_
  refine J_topi (y := nI (i + 2)) (nI_add i 2) ?_
  refine J_sld hX hB hn (i + 2) (by omega) dL_law_676 ?_
  refine J_aload_n hX 0 dL_law_677 rfl ?_
  refine J_iload_n hX 3 dL_law_678 rfl ?_
  refine J_iconst (v := 3) hX dL_law_679 (by decide) ?_
  refine J_iadd hX dL_law_680 ?_
  refine J_topi (y := nI (i + 3)) (nI_add i 3) ?_
  refine J_sld hX hB hn (i + 3) (by omega) dL_law_681 ?_
  refine J_aload_n hX 0 dL_law_682 rfl ?_
  refine J_iload_n hX 3 dL_law_683 rfl ?_
  refine J_iconst (v := 4) hX dL_law_684 (by decide) ?_
  refine J_iadd hX dL_law_685 ?_
  refine J_topi (y := nI (i + 4)) (nI_add i 4) ?_
  refine J_sld hX hB hn (i + 4) (by omega) dL_law_686 ?_
  refine J_aload_n hX 0 dL_law_687 rfl ?_
  refine J_iload_n hX 3 dL_law_688 rfl ?_
  refine J_iconst (v := 5) hX dL_law_689 (by decide) ?_
  refine J_iadd hX dL_law_690 ?_
  refine J_topi (y := nI (i + 5)) (nI_add i 5) ?_
  refine J_sld hX hB hn (i + 5) (by omega) dL_law_691 ?_
  refine J_callV hX 77 [.int (xs (i + 1)), .int (xs (i + 2)), .int (xs (i + 3)), .int (xs (i + 4)), .int (xs (i + 5))] [.long (x_change (xs (i + 1)) (xs (i + 2)) (xs (i + 3)) (xs (i + 4)) (xs (i + 5)))] dL_law_692 (c_X8_change l D a g M1 L1 (xs (i + 1)) (xs (i + 2)) (xs (i + 3)) (xs (i + 4)) (xs (i + 5))) lk_L_89 jc_77 rfl rfl rfl (Nat.le_of_ble_eq_true rfl) (Nat.le_of_ble_eq_true rfl) (Nat.le_of_ble_eq_true rfl) (fun rv M2 L2 h3 => ?_)
  obtain ⟨rfl, h4, h5⟩ := h3
  refine J_cg (st' := [.long (x_change (xs (i + 1)) (xs (i + 2)) (xs (i + 3)) (xs (i + 4)) (xs (i + 5))), .long (x_change (xs (i + 1)) (xs (i + 2)) (xs (i + 3)) (xs (i + 4)) (xs (i + 5)))]) rfl rfl rfl rfl ?_
  refine J_lcmp hX dL_law_695 ?_
  refine J_ifK_eq hX 999 dL_law_696 rfl (fun _ => nxt _ _ (by rw [h4]; exact I)) (fun e => absurd rfl e)
set_option maxHeartbeats 4000000 in
theorem arm_sample {l : Launch} {D : va_G} {a : Nat → Nat} {g : Nat → ClassId} {G : jG} {M : jM} {L : jL} {b n i : Nat} {xs : Nat → Int32} (hX : jX D a g G RL cL_law 4 10 356) (hB : lwB a (gs G) b n xs) (hn : n ≤ 384) (hi : i + 6 ≤ n) (I : Inv2 M M) (nxt : ∀ M' L', Inv2 M' M' → J l D a g G 4 M' L' 999 [(0, .ref b), (1, .ref (a 0)), (2, .ref (a 77)), (3, .int (nI i))] []) : J l D a g G 4 M L 701 [(0, .ref b), (1, .ref (a 0)), (2, .ref (a 77)), (3, .int (nI i))] [] := by
  refine J_aload_n hX 1 dL_law_701 rfl ?_
  refine J_aload_n hX 0 dL_law_702 rfl ?_
  refine J_iload_n hX 3 dL_law_703 rfl ?_
  refine J_iconst (v := 1) hX dL_law_704 (by decide) ?_
  refine J_iadd hX dL_law_705 ?_
  refine J_topi (y := nI (i + 1)) (nI_add i 1) ?_
  refine J_sld hX hB hn (i + 1) (by omega) dL_law_706 ?_
  refine J_aload_n hX 0 dL_law_707 rfl ?_
  refine J_iload_n hX 3 dL_law_708 rfl ?_
  refine J_iconst (v := 2) hX dL_law_709 (by decide) ?_
  refine J_iadd hX dL_law_710 ?_
  refine J_topi (y := nI (i + 2)) (nI_add i 2) ?_
  refine J_sld hX hB hn (i + 2) (by omega) dL_law_711 ?_
  refine J_aload_n hX 0 dL_law_712 rfl ?_
  refine J_iload_n hX 3 dL_law_713 rfl ?_
  refine J_iconst (v := 3) hX dL_law_714 (by decide) ?_
  refine J_iadd hX dL_law_715 ?_
  refine J_topi (y := nI (i + 3)) (nI_add i 3) ?_
  refine J_sld hX hB hn (i + 3) (by omega) dL_law_716 ?_
  refine J_aload_n hX 0 dL_law_717 rfl ?_
  refine J_iload_n hX 3 dL_law_718 rfl ?_
  refine J_iconst (v := 4) hX dL_law_719 (by decide) ?_
  refine J_iadd hX dL_law_720 ?_
  refine J_topi (y := nI (i + 4)) (nI_add i 4) ?_
  refine J_sld hX hB hn (i + 4) (by omega) dL_law_721 ?_
  refine J_aload_n hX 0 dL_law_722 rfl ?_
  refine J_iload_n hX 3 dL_law_723 rfl ?_
  refine J_iconst (v := 5) hX dL_law_724 (by decide) ?_
  refine J_iadd hX dL_law_725 ?_
  refine J_topi (y := nI (i + 5)) (nI_add i 5) ?_
  refine J_sld hX hB hn (i + 5) (by omega) dL_law_726 ?_
  refine J_callV hX 0 [.int (xs (i + 1)), .int (xs (i + 2)), .int (xs (i + 3)), .int (xs (i + 4)), .int (xs (i + 5))] [] dL_law_727 (c_X7_sample l D a g M L (xs (i + 1)) (xs (i + 2)) (xs (i + 3)) (xs (i + 4)) (xs (i + 5))) lk_L_90 jc_0 rfl rfl rfl (Nat.le_of_ble_eq_true rfl) (Nat.le_of_ble_eq_true rfl) (Nat.le_of_ble_eq_true rfl) (J_eq (st := [.long (x_sample (xs (i + 1)) (xs (i + 2)) (xs (i + 3)) (xs (i + 4)) (xs (i + 5)))]) rfl ?_)
  refine J_aload_n hX 2 dL_law_730 rfl ?_
  refine J_aload_n hX 0 dL_law_731 rfl ?_
  refine J_iload_n hX 3 dL_law_732 rfl ?_
  refine J_iconst (v := 1) hX dL_law_733 (by decide) ?_
  refine J_iadd hX dL_law_734 ?_
  refine J_topi (y := nI (i + 1)) (nI_add i 1) ?_
  refine J_sld hX hB hn (i + 1) (by omega) dL_law_735 ?_
  refine J_aload_n hX 0 dL_law_736 rfl ?_
  refine J_iload_n hX 3 dL_law_737 rfl ?_
  refine J_iconst (v := 2) hX dL_law_738 (by decide) ?_
  refine J_iadd hX dL_law_739 ?_
  refine J_topi (y := nI (i + 2)) (nI_add i 2) ?_
  refine J_sld hX hB hn (i + 2) (by omega) dL_law_740 ?_
  refine J_aload_n hX 0 dL_law_741 rfl ?_
  refine J_iload_n hX 3 dL_law_742 rfl ?_
  refine J_iconst (v := 3) hX dL_law_743 (by decide) ?_
  refine J_iadd hX dL_law_744 ?_
  refine J_topi (y := nI (i + 3)) (nI_add i 3) ?_
  refine J_sld hX hB hn (i + 3) (by omega) dL_law_745 ?_
  refine J_aload_n hX 0 dL_law_746 rfl ?_
  refine J_iload_n hX 3 dL_law_747 rfl ?_
  refine J_iconst (v := 4) hX dL_law_748 (by decide) ?_
  refine J_iadd hX dL_law_749 ?_
  refine J_topi (y := nI (i + 4)) (nI_add i 4) ?_
  refine J_sld hX hB hn (i + 4) (by omega) dL_law_750 ?_
  refine J_aload_n hX 0 dL_law_751 rfl ?_
  refine J_iload_n hX 3 dL_law_752 rfl ?_
  refine J_iconst (v := 5) hX dL_law_753 (by decide) ?_
  refine J_iadd hX dL_law_754 ?_
  refine J_topi (y := nI (i + 5)) (nI_add i 5) ?_
  refine J_sld hX hB hn (i + 5) (by omega) dL_law_755 ?_
  refine J_callV hX 77 [.int (xs (i + 1)), .int (xs (i + 2)), .int (xs (i + 3)), .int (xs (i + 4)), .int (xs (i + 5))] [.long (x_sample (xs (i + 1)) (xs (i + 2)) (xs (i + 3)) (xs (i + 4)) (xs (i + 5)))] dL_law_756 (c_X8_sample l D a g M L (xs (i + 1)) (xs (i + 2)) (xs (i + 3)) (xs (i + 4)) (xs (i + 5))) lk_L_93 jc_77 rfl rfl rfl (Nat.le_of_ble_eq_true rfl) (Nat.le_of_ble_eq_true rfl) (Nat.le_of_ble_eq_true rfl) (fun rv M2 L2 h3 => ?_)
  obtain ⟨rfl, h4, h5⟩ := h3
  refine J_cg (st' := [.long (x_sample (xs (i + 1)) (xs (i + 2)) (xs (i + 3)) (xs (i + 4)) (xs (i + 5))), .long (x_sample (xs (i + 1)) (xs (i + 2)) (xs (i + 3)) (xs (i + 4)) (xs (i + 5)))]) rfl rfl rfl rfl ?_
  refine J_lcmp hX dL_law_759 ?_
  refine J_ifK_eq hX 999 dL_law_760 rfl (fun _ => nxt _ _ (by rw [h4]; exact I)) (fun e => absurd rfl e)
set_option maxHeartbeats 4000000 in
theorem arm_seen {l : Launch} {D : va_G} {a : Nat → Nat} {g : Nat → ClassId} {G : jG} {M : jM} {L : jL} {b n i : Nat} {xs : Nat → Int32} (hX : jX D a g G RL cL_law 4 10 356) (hB : lwB a (gs G) b n xs) (hn : n ≤ 384) (hi : i + 6 ≤ n) (I : Inv2 M M) (nxt : ∀ M' L', Inv2 M' M' → J l D a g G 4 M' L' 999 [(0, .ref b), (1, .ref (a 0)), (2, .ref (a 77)), (3, .int (nI i))] []) : J l D a g G 4 M L 765 [(0, .ref b), (1, .ref (a 0)), (2, .ref (a 77)), (3, .int (nI i))] [] := by
  obtain ⟨s0, hs0, h13, h77, hS0⟩ := SS_s I
  refine J_aload_n hX 1 dL_law_765 rfl ?_
  refine J_aload_n hX 0 dL_law_766 rfl ?_
  refine J_iload_n hX 3 dL_law_767 rfl ?_
  refine J_iconst (v := 1) hX dL_law_768 (by decide) ?_
  refine J_iadd hX dL_law_769 ?_
  refine J_topi (y := nI (i + 1)) (nI_add i 1) ?_
  refine J_sld hX hB hn (i + 1) (by omega) dL_law_770 ?_
  refine J_aload_n hX 0 dL_law_771 rfl ?_
  refine J_iload_n hX 3 dL_law_772 rfl ?_
  refine J_iconst (v := 2) hX dL_law_773 (by decide) ?_
  refine J_iadd hX dL_law_774 ?_
  refine J_topi (y := nI (i + 2)) (nI_add i 2) ?_
  refine J_sld hX hB hn (i + 2) (by omega) dL_law_775 ?_
  refine J_aload_n hX 0 dL_law_776 rfl ?_
  refine J_iload_n hX 3 dL_law_777 rfl ?_
  refine J_iconst (v := 3) hX dL_law_778 (by decide) ?_
  refine J_iadd hX dL_law_779 ?_
  refine J_topi (y := nI (i + 3)) (nI_add i 3) ?_
  refine J_sld hX hB hn (i + 3) (by omega) dL_law_780 ?_
  refine J_callV hX 0 [.int (xs (i + 1)), .int (xs (i + 2)), .int (xs (i + 3))] [] dL_law_781 (c_X7_seen l D a g M L s0 h13 hs0 (xs (i + 1)) (xs (i + 2)) (xs (i + 3))) lk_L_94 jc_0 rfl rfl rfl (Nat.le_of_ble_eq_true rfl) (Nat.le_of_ble_eq_true rfl) (Nat.le_of_ble_eq_true rfl) (J_eq (st := [.int ((x_seen M s0 (xs (i + 1)) (xs (i + 2)) (xs (i + 3))).1)]) rfl ?_)
  refine J_aload_n hX 2 dL_law_784 rfl ?_
  refine J_aload_n hX 0 dL_law_785 rfl ?_
  refine J_iload_n hX 3 dL_law_786 rfl ?_
  refine J_iconst (v := 1) hX dL_law_787 (by decide) ?_
  refine J_iadd hX dL_law_788 ?_
  refine J_topi (y := nI (i + 1)) (nI_add i 1) ?_
  refine J_sld hX hB hn (i + 1) (by omega) dL_law_789 ?_
  refine J_aload_n hX 0 dL_law_790 rfl ?_
  refine J_iload_n hX 3 dL_law_791 rfl ?_
  refine J_iconst (v := 2) hX dL_law_792 (by decide) ?_
  refine J_iadd hX dL_law_793 ?_
  refine J_topi (y := nI (i + 2)) (nI_add i 2) ?_
  refine J_sld hX hB hn (i + 2) (by omega) dL_law_794 ?_
  refine J_aload_n hX 0 dL_law_795 rfl ?_
  refine J_iload_n hX 3 dL_law_796 rfl ?_
  refine J_iconst (v := 3) hX dL_law_797 (by decide) ?_
  refine J_iadd hX dL_law_798 ?_
  refine J_topi (y := nI (i + 3)) (nI_add i 3) ?_
  refine J_sld hX hB hn (i + 3) (by omega) dL_law_799 ?_
  refine J_callV hX 77 [.int (xs (i + 1)), .int (xs (i + 2)), .int (xs (i + 3))] [.int ((x_seen M s0 (xs (i + 1)) (xs (i + 2)) (xs (i + 3))).1)] dL_law_800 (c_X8_seen l D a g ((x_seen M s0 (xs (i + 1)) (xs (i + 2)) (xs (i + 3))).2) L s0 (by rw [fx_seen (by decide)]; exact h77) hs0 (xs (i + 1)) (xs (i + 2)) (xs (i + 3))) lk_L_97 jc_77 rfl rfl rfl (Nat.le_of_ble_eq_true rfl) (Nat.le_of_ble_eq_true rfl) (Nat.le_of_ble_eq_true rfl) (J_eq (st := [.int ((m_seen ((x_seen M s0 (xs (i + 1)) (xs (i + 2)) (xs (i + 3))).2) s0 (xs (i + 1)) (xs (i + 2)) (xs (i + 3))).1), .int ((x_seen M s0 (xs (i + 1)) (xs (i + 2)) (xs (i + 3))).1)]) rfl ?_)
  have q := pr_seen I hs0 h13 h77 (xs (i + 1)) (xs (i + 2)) (xs (i + 3))
  refine J_icmp_eq hX 999 dL_law_803 rfl (fun _ => nxt _ _ q.2) (fun e => absurd q.1 e)
set_option maxHeartbeats 4000000 in
theorem arm_forget {l : Launch} {D : va_G} {a : Nat → Nat} {g : Nat → ClassId} {G : jG} {M : jM} {L : jL} {b n i : Nat} {xs : Nat → Int32} (hX : jX D a g G RL cL_law 4 10 356) (hB : lwB a (gs G) b n xs) (hn : n ≤ 384) (hi : i + 6 ≤ n) (I : Inv2 M M) (nxt : ∀ M' L', Inv2 M' M' → J l D a g G 4 M' L' 999 [(0, .ref b), (1, .ref (a 0)), (2, .ref (a 77)), (3, .int (nI i))] []) : J l D a g G 4 M L 808 [(0, .ref b), (1, .ref (a 0)), (2, .ref (a 77)), (3, .int (nI i))] [] := by
  refine J_aload_n hX 1 dL_law_808 rfl ?_
  refine J_callV hX 0 [] [] dL_law_809 (c_X7_forget l D a g M L) lk_L_98 jc_0 rfl rfl rfl (Nat.le_of_ble_eq_true rfl) (Nat.le_of_ble_eq_true rfl) (Nat.le_of_ble_eq_true rfl) (J_eq (st := [.int ((x_forget M).1)]) rfl ?_)
  refine J_aload_n hX 2 dL_law_812 rfl ?_
  refine J_callV hX 77 [] [.int ((x_forget M).1)] dL_law_813 (c_X8_forget l D a g ((x_forget M).2) L) lk_L_101 jc_77 rfl rfl rfl (Nat.le_of_ble_eq_true rfl) (Nat.le_of_ble_eq_true rfl) (Nat.le_of_ble_eq_true rfl) (J_eq (st := [.int ((m_forget ((x_forget M).2)).1), .int ((x_forget M).1)]) rfl ?_)
  have q := pr_forget I
  refine J_icmp_eq hX 999 dL_law_816 rfl (fun _ => nxt _ _ q.2) (fun e => absurd q.1 e)
set_option maxHeartbeats 4000000 in
theorem arm_clerks {l : Launch} {D : va_G} {a : Nat → Nat} {g : Nat → ClassId} {G : jG} {M : jM} {L : jL} {b n i : Nat} {xs : Nat → Int32} (hX : jX D a g G RL cL_law 4 10 356) (hB : lwB a (gs G) b n xs) (hn : n ≤ 384) (hi : i + 6 ≤ n) (I : Inv2 M M) (nxt : ∀ M' L', Inv2 M' M' → J l D a g G 4 M' L' 999 [(0, .ref b), (1, .ref (a 0)), (2, .ref (a 77)), (3, .int (nI i))] []) : J l D a g G 4 M L 821 [(0, .ref b), (1, .ref (a 0)), (2, .ref (a 77)), (3, .int (nI i))] [] := by
  obtain ⟨s0, hs0, h13, h77, hS0⟩ := SS_s I
  refine J_aload_n hX 1 dL_law_821 rfl ?_
  refine J_aload_n hX 0 dL_law_822 rfl ?_
  refine J_iload_n hX 3 dL_law_823 rfl ?_
  refine J_iconst (v := 1) hX dL_law_824 (by decide) ?_
  refine J_iadd hX dL_law_825 ?_
  refine J_topi (y := nI (i + 1)) (nI_add i 1) ?_
  refine J_sld hX hB hn (i + 1) (by omega) dL_law_826 ?_
  refine J_aload_n hX 0 dL_law_827 rfl ?_
  refine J_iload_n hX 3 dL_law_828 rfl ?_
  refine J_iconst (v := 2) hX dL_law_829 (by decide) ?_
  refine J_iadd hX dL_law_830 ?_
  refine J_topi (y := nI (i + 2)) (nI_add i 2) ?_
  refine J_sld hX hB hn (i + 2) (by omega) dL_law_831 ?_
  refine J_callV hX 0 [.int (xs (i + 1)), .int (xs (i + 2))] [] dL_law_832 (c_X7_clerks l D a g M L s0 h13 hs0 (xs (i + 1)) (xs (i + 2))) lk_L_102 jc_0 rfl rfl rfl (Nat.le_of_ble_eq_true rfl) (Nat.le_of_ble_eq_true rfl) (Nat.le_of_ble_eq_true rfl) (J_eq (st := [.int (x_clerks M s0 (xs (i + 1)) (xs (i + 2)))]) rfl ?_)
  refine J_aload_n hX 2 dL_law_835 rfl ?_
  refine J_aload_n hX 0 dL_law_836 rfl ?_
  refine J_iload_n hX 3 dL_law_837 rfl ?_
  refine J_iconst (v := 1) hX dL_law_838 (by decide) ?_
  refine J_iadd hX dL_law_839 ?_
  refine J_topi (y := nI (i + 1)) (nI_add i 1) ?_
  refine J_sld hX hB hn (i + 1) (by omega) dL_law_840 ?_
  refine J_aload_n hX 0 dL_law_841 rfl ?_
  refine J_iload_n hX 3 dL_law_842 rfl ?_
  refine J_iconst (v := 2) hX dL_law_843 (by decide) ?_
  refine J_iadd hX dL_law_844 ?_
  refine J_topi (y := nI (i + 2)) (nI_add i 2) ?_
  refine J_sld hX hB hn (i + 2) (by omega) dL_law_845 ?_
  refine J_callV hX 77 [.int (xs (i + 1)), .int (xs (i + 2))] [.int (x_clerks M s0 (xs (i + 1)) (xs (i + 2)))] dL_law_846 (c_X8_clerks l D a g M L s0 h77 hs0 hS0 (xs (i + 1)) (xs (i + 2))) lk_L_105 jc_77 rfl rfl rfl (Nat.le_of_ble_eq_true rfl) (Nat.le_of_ble_eq_true rfl) (Nat.le_of_ble_eq_true rfl) (J_eq (st := [.int (m_clerks M s0 (xs (i + 1)) (xs (i + 2))), .int (x_clerks M s0 (xs (i + 1)) (xs (i + 2)))]) rfl ?_)
  refine J_icmp_eq hX 999 dL_law_849 rfl (fun _ => nxt _ _ I) (fun e => absurd (e_clerks I hs0 (xs (i + 1)) (xs (i + 2))) e)
set_option maxHeartbeats 4000000 in
theorem arm_count {l : Launch} {D : va_G} {a : Nat → Nat} {g : Nat → ClassId} {G : jG} {M : jM} {L : jL} {b n i : Nat} {xs : Nat → Int32} (hX : jX D a g G RL cL_law 4 10 356) (hB : lwB a (gs G) b n xs) (hn : n ≤ 384) (hi : i + 6 ≤ n) (I : Inv2 M M) (nxt : ∀ M' L', Inv2 M' M' → J l D a g G 4 M' L' 999 [(0, .ref b), (1, .ref (a 0)), (2, .ref (a 77)), (3, .int (nI i))] []) : J l D a g G 4 M L 854 [(0, .ref b), (1, .ref (a 0)), (2, .ref (a 77)), (3, .int (nI i))] [] := by
  obtain ⟨s0, hs0, h13, h77, hS0⟩ := SS_s I
  refine J_aload_n hX 1 dL_law_854 rfl ?_
  refine J_aload_n hX 0 dL_law_855 rfl ?_
  refine J_iload_n hX 3 dL_law_856 rfl ?_
  refine J_iconst (v := 1) hX dL_law_857 (by decide) ?_
  refine J_iadd hX dL_law_858 ?_
  refine J_topi (y := nI (i + 1)) (nI_add i 1) ?_
  refine J_sld hX hB hn (i + 1) (by omega) dL_law_859 ?_
  refine J_aload_n hX 0 dL_law_860 rfl ?_
  refine J_iload_n hX 3 dL_law_861 rfl ?_
  refine J_iconst (v := 2) hX dL_law_862 (by decide) ?_
  refine J_iadd hX dL_law_863 ?_
  refine J_topi (y := nI (i + 2)) (nI_add i 2) ?_
  refine J_sld hX hB hn (i + 2) (by omega) dL_law_864 ?_
  refine J_callV hX 0 [.int (xs (i + 1)), .int (xs (i + 2))] [] dL_law_865 (c_X7_count l D a g M L s0 h13 hs0 (xs (i + 1)) (xs (i + 2))) lk_L_106 jc_0 rfl rfl rfl (Nat.le_of_ble_eq_true rfl) (Nat.le_of_ble_eq_true rfl) (Nat.le_of_ble_eq_true rfl) (fun rv M1 L1 h1 => ?_)
  obtain ⟨rfl, h2, rfl⟩ := h1
  refine J_cg (st' := [.int (x_count M s0 (xs (i + 1)) (xs (i + 2)))]) rfl rfl rfl rfl ?_
  refine J_aload_n hX 2 dL_law_868 rfl ?_
  refine J_aload_n hX 0 dL_law_869 rfl ?_
  refine J_iload_n hX 3 dL_law_870 rfl ?_
  refine J_iconst (v := 1) hX dL_law_871 (by decide) ?_
  refine J_iadd hX dL_law_872 ?_
  refine J_topi (y := nI (i + 1)) (nI_add i 1) ?_
  refine J_sld hX hB hn (i + 1) (by omega) dL_law_873 ?_
  refine J_aload_n hX 0 dL_law_874 rfl ?_
  refine J_iload_n hX 3 dL_law_875 rfl ?_
  refine J_iconst (v := 2) hX dL_law_876 (by decide) ?_
  refine J_iadd hX dL_law_877 ?_
  refine J_topi (y := nI (i + 2)) (nI_add i 2) ?_
  refine J_sld hX hB hn (i + 2) (by omega) dL_law_878 ?_
  refine J_callV hX 77 [.int (xs (i + 1)), .int (xs (i + 2))] [.int (x_count M s0 (xs (i + 1)) (xs (i + 2)))] dL_law_879 (c_X8_count l D a g M1 L1 s0 (by rw [h2 77 (by decide)]; exact h77) hs0 (by rw [h2 83 (by decide)]; exact hS0) (xs (i + 1)) (xs (i + 2))) lk_L_109 jc_77 rfl rfl rfl (Nat.le_of_ble_eq_true rfl) (Nat.le_of_ble_eq_true rfl) (Nat.le_of_ble_eq_true rfl) (J_eq (st := [.int (m_count M1 s0 (xs (i + 1)) (xs (i + 2))), .int (x_count M s0 (xs (i + 1)) (xs (i + 2)))]) rfl ?_)
  have i1 : Inv2 M M1 := Inv2_1 I (fun c hc => h2 c (by omega))
  refine J_icmp_eq hX 999 dL_law_882 rfl (fun _ => nxt _ _ (Inv2_X i1 (fun c _ q _ _ => h2 c q))) (fun e => absurd (e_count i1 hs0 (xs (i + 1)) (xs (i + 2))) e)
set_option maxHeartbeats 4000000 in
theorem arm_year {l : Launch} {D : va_G} {a : Nat → Nat} {g : Nat → ClassId} {G : jG} {M : jM} {L : jL} {b n i : Nat} {xs : Nat → Int32} (hX : jX D a g G RL cL_law 4 10 356) (hB : lwB a (gs G) b n xs) (hn : n ≤ 384) (hi : i + 6 ≤ n) (I : Inv2 M M) (nxt : ∀ M' L', Inv2 M' M' → J l D a g G 4 M' L' 999 [(0, .ref b), (1, .ref (a 0)), (2, .ref (a 77)), (3, .int (nI i))] []) : J l D a g G 4 M L 887 [(0, .ref b), (1, .ref (a 0)), (2, .ref (a 77)), (3, .int (nI i))] [] := by
  refine J_aload_n hX 1 dL_law_887 rfl ?_
  refine J_aload_n hX 0 dL_law_888 rfl ?_
  refine J_iload_n hX 3 dL_law_889 rfl ?_
  refine J_iconst (v := 1) hX dL_law_890 (by decide) ?_
  refine J_iadd hX dL_law_891 ?_
  refine J_topi (y := nI (i + 1)) (nI_add i 1) ?_
  refine J_sld hX hB hn (i + 1) (by omega) dL_law_892 ?_
  refine J_aload_n hX 0 dL_law_893 rfl ?_
  refine J_iload_n hX 3 dL_law_894 rfl ?_
  refine J_iconst (v := 2) hX dL_law_895 (by decide) ?_
  refine J_iadd hX dL_law_896 ?_
  refine J_topi (y := nI (i + 2)) (nI_add i 2) ?_
  refine J_sld hX hB hn (i + 2) (by omega) dL_law_897 ?_
  refine J_aload_n hX 0 dL_law_898 rfl ?_
  refine J_iload_n hX 3 dL_law_899 rfl ?_
  refine J_iconst (v := 3) hX dL_law_900 (by decide) ?_
  refine J_iadd hX dL_law_901 ?_
  refine J_topi (y := nI (i + 3)) (nI_add i 3) ?_
  refine J_sld hX hB hn (i + 3) (by omega) dL_law_902 ?_
  refine J_callV hX 0 [.int (xs (i + 1)), .int (xs (i + 2)), .int (xs (i + 3))] [] dL_law_903 (c_X7_year l D a g M L (xs (i + 1)) (xs (i + 2)) (xs (i + 3))) lk_L_110 jc_0 rfl rfl rfl (Nat.le_of_ble_eq_true rfl) (Nat.le_of_ble_eq_true rfl) (Nat.le_of_ble_eq_true rfl) (J_eq (st := [.int ((x_year M (xs (i + 1)) (xs (i + 2)) (xs (i + 3))).1)]) rfl ?_)
  refine J_aload_n hX 2 dL_law_906 rfl ?_
  refine J_aload_n hX 0 dL_law_907 rfl ?_
  refine J_iload_n hX 3 dL_law_908 rfl ?_
  refine J_iconst (v := 1) hX dL_law_909 (by decide) ?_
  refine J_iadd hX dL_law_910 ?_
  refine J_topi (y := nI (i + 1)) (nI_add i 1) ?_
  refine J_sld hX hB hn (i + 1) (by omega) dL_law_911 ?_
  refine J_aload_n hX 0 dL_law_912 rfl ?_
  refine J_iload_n hX 3 dL_law_913 rfl ?_
  refine J_iconst (v := 2) hX dL_law_914 (by decide) ?_
  refine J_iadd hX dL_law_915 ?_
  refine J_topi (y := nI (i + 2)) (nI_add i 2) ?_
  refine J_sld hX hB hn (i + 2) (by omega) dL_law_916 ?_
  refine J_aload_n hX 0 dL_law_917 rfl ?_
  refine J_iload_n hX 3 dL_law_918 rfl ?_
  refine J_iconst (v := 3) hX dL_law_919 (by decide) ?_
  refine J_iadd hX dL_law_920 ?_
  refine J_topi (y := nI (i + 3)) (nI_add i 3) ?_
  refine J_sld hX hB hn (i + 3) (by omega) dL_law_921 ?_
  refine J_callV hX 77 [.int (xs (i + 1)), .int (xs (i + 2)), .int (xs (i + 3))] [.int ((x_year M (xs (i + 1)) (xs (i + 2)) (xs (i + 3))).1)] dL_law_922 (c_X8_year l D a g ((x_year M (xs (i + 1)) (xs (i + 2)) (xs (i + 3))).2) L (xs (i + 1)) (xs (i + 2)) (xs (i + 3))) lk_L_113 jc_77 rfl rfl rfl (Nat.le_of_ble_eq_true rfl) (Nat.le_of_ble_eq_true rfl) (Nat.le_of_ble_eq_true rfl) (J_eq (st := [.int ((m_year ((x_year M (xs (i + 1)) (xs (i + 2)) (xs (i + 3))).2) (xs (i + 1)) (xs (i + 2)) (xs (i + 3))).1), .int ((x_year M (xs (i + 1)) (xs (i + 2)) (xs (i + 3))).1)]) rfl ?_)
  have q := pr_year I (xs (i + 1)) (xs (i + 2)) (xs (i + 3))
  refine J_icmp_eq hX 999 dL_law_925 rfl (fun _ => nxt _ _ q.2) (fun e => absurd q.1 e)
set_option maxHeartbeats 4000000 in
theorem arm_image {l : Launch} {D : va_G} {a : Nat → Nat} {g : Nat → ClassId} {G : jG} {M : jM} {L : jL} {b n i : Nat} {xs : Nat → Int32} (hX : jX D a g G RL cL_law 4 10 356) (hB : lwB a (gs G) b n xs) (hn : n ≤ 384) (hi : i + 6 ≤ n) (I : Inv2 M M) (nxt : ∀ M' L', Inv2 M' M' → J l D a g G 4 M' L' 999 [(0, .ref b), (1, .ref (a 0)), (2, .ref (a 77)), (3, .int (nI i))] []) : J l D a g G 4 M L 930 [(0, .ref b), (1, .ref (a 0)), (2, .ref (a 77)), (3, .int (nI i))] [] := by
  refine J_aload_n hX 1 dL_law_930 rfl ?_
  refine J_aload_n hX 0 dL_law_931 rfl ?_
  refine J_iload_n hX 3 dL_law_932 rfl ?_
  refine J_iconst (v := 1) hX dL_law_933 (by decide) ?_
  refine J_iadd hX dL_law_934 ?_
  refine J_topi (y := nI (i + 1)) (nI_add i 1) ?_
  refine J_sld hX hB hn (i + 1) (by omega) dL_law_935 ?_
  refine J_callV hX 0 [.int (xs (i + 1))] [] dL_law_936 (c_X7_image l D a g M L (xs (i + 1))) lk_L_114 jc_0 rfl rfl rfl (Nat.le_of_ble_eq_true rfl) (Nat.le_of_ble_eq_true rfl) (Nat.le_of_ble_eq_true rfl) (J_eq (st := [.int ((x_image M (xs (i + 1))).1)]) rfl ?_)
  refine J_aload_n hX 2 dL_law_939 rfl ?_
  refine J_aload_n hX 0 dL_law_940 rfl ?_
  refine J_iload_n hX 3 dL_law_941 rfl ?_
  refine J_iconst (v := 1) hX dL_law_942 (by decide) ?_
  refine J_iadd hX dL_law_943 ?_
  refine J_topi (y := nI (i + 1)) (nI_add i 1) ?_
  refine J_sld hX hB hn (i + 1) (by omega) dL_law_944 ?_
  refine J_callV hX 77 [.int (xs (i + 1))] [.int ((x_image M (xs (i + 1))).1)] dL_law_945 (c_X8_image l D a g ((x_image M (xs (i + 1))).2) L (xs (i + 1))) lk_L_117 jc_77 rfl rfl rfl (Nat.le_of_ble_eq_true rfl) (Nat.le_of_ble_eq_true rfl) (Nat.le_of_ble_eq_true rfl) (J_eq (st := [.int ((m_image ((x_image M (xs (i + 1))).2) (xs (i + 1))).1), .int ((x_image M (xs (i + 1))).1)]) rfl ?_)
  have q := pr_image I (xs (i + 1))
  refine J_icmp_eq hX 999 dL_law_948 rfl (fun _ => nxt _ _ q.2) (fun e => absurd q.1 e)
set_option maxHeartbeats 4000000 in
theorem arm_restore {l : Launch} {D : va_G} {a : Nat → Nat} {g : Nat → ClassId} {G : jG} {M : jM} {L : jL} {b n i : Nat} {xs : Nat → Int32} (hX : jX D a g G RL cL_law 4 10 356) (hB : lwB a (gs G) b n xs) (hn : n ≤ 384) (hi : i + 6 ≤ n) (I : Inv2 M M) (nxt : ∀ M' L', Inv2 M' M' → J l D a g G 4 M' L' 999 [(0, .ref b), (1, .ref (a 0)), (2, .ref (a 77)), (3, .int (nI i))] []) : J l D a g G 4 M L 953 [(0, .ref b), (1, .ref (a 0)), (2, .ref (a 77)), (3, .int (nI i))] [] := by
  refine J_aload_n hX 1 dL_law_953 rfl ?_
  refine J_aload_n hX 0 dL_law_954 rfl ?_
  refine J_iload_n hX 3 dL_law_955 rfl ?_
  refine J_iconst (v := 1) hX dL_law_956 (by decide) ?_
  refine J_iadd hX dL_law_957 ?_
  refine J_topi (y := nI (i + 1)) (nI_add i 1) ?_
  refine J_sld hX hB hn (i + 1) (by omega) dL_law_958 ?_
  refine J_callV hX 0 [.int (xs (i + 1))] [] dL_law_959 (c_X7_restore l D a g M L (xs (i + 1))) lk_L_118 jc_0 rfl rfl rfl (Nat.le_of_ble_eq_true rfl) (Nat.le_of_ble_eq_true rfl) (Nat.le_of_ble_eq_true rfl) (J_eq (st := [.int ((x_restore M (xs (i + 1))).1)]) rfl ?_)
  refine J_aload_n hX 2 dL_law_962 rfl ?_
  refine J_aload_n hX 0 dL_law_963 rfl ?_
  refine J_iload_n hX 3 dL_law_964 rfl ?_
  refine J_iconst (v := 1) hX dL_law_965 (by decide) ?_
  refine J_iadd hX dL_law_966 ?_
  refine J_topi (y := nI (i + 1)) (nI_add i 1) ?_
  refine J_sld hX hB hn (i + 1) (by omega) dL_law_967 ?_
  refine J_callV hX 77 [.int (xs (i + 1))] [.int ((x_restore M (xs (i + 1))).1)] dL_law_968 (c_X8_restore l D a g ((x_restore M (xs (i + 1))).2) L (xs (i + 1))) lk_L_121 jc_77 rfl rfl rfl (Nat.le_of_ble_eq_true rfl) (Nat.le_of_ble_eq_true rfl) (Nat.le_of_ble_eq_true rfl) (J_eq (st := [.int ((m_restore ((x_restore M (xs (i + 1))).2) (xs (i + 1))).1), .int ((x_restore M (xs (i + 1))).1)]) rfl ?_)
  have q := pr_restore I (xs (i + 1))
  refine J_icmp_eq hX 999 dL_law_971 rfl (fun _ => nxt _ _ q.2) (fun e => absurd q.1 e)
set_option maxHeartbeats 4000000 in
theorem arm_told {l : Launch} {D : va_G} {a : Nat → Nat} {g : Nat → ClassId} {G : jG} {M : jM} {L : jL} {b n i : Nat} {xs : Nat → Int32} (hX : jX D a g G RL cL_law 4 10 356) (hB : lwB a (gs G) b n xs) (hn : n ≤ 384) (hi : i + 6 ≤ n) (I : Inv2 M M) (nxt : ∀ M' L', Inv2 M' M' → J l D a g G 4 M' L' 999 [(0, .ref b), (1, .ref (a 0)), (2, .ref (a 77)), (3, .int (nI i))] []) : J l D a g G 4 M L 976 [(0, .ref b), (1, .ref (a 0)), (2, .ref (a 77)), (3, .int (nI i))] [] := by
  refine J_aload_n hX 1 dL_law_976 rfl ?_
  refine J_aload_n hX 0 dL_law_977 rfl ?_
  refine J_iload_n hX 3 dL_law_978 rfl ?_
  refine J_iconst (v := 1) hX dL_law_979 (by decide) ?_
  refine J_iadd hX dL_law_980 ?_
  refine J_topi (y := nI (i + 1)) (nI_add i 1) ?_
  refine J_sld hX hB hn (i + 1) (by omega) dL_law_981 ?_
  refine J_callV hX 0 [.int (xs (i + 1))] [] dL_law_982 (c_X7_told l D a g M L (xs (i + 1))) lk_L_122 jc_0 rfl rfl rfl (Nat.le_of_ble_eq_true rfl) (Nat.le_of_ble_eq_true rfl) (Nat.le_of_ble_eq_true rfl) (J_eq (st := [.int (x_told M (xs (i + 1)))]) rfl ?_)
  refine J_aload_n hX 2 dL_law_985 rfl ?_
  refine J_aload_n hX 0 dL_law_986 rfl ?_
  refine J_iload_n hX 3 dL_law_987 rfl ?_
  refine J_iconst (v := 1) hX dL_law_988 (by decide) ?_
  refine J_iadd hX dL_law_989 ?_
  refine J_topi (y := nI (i + 1)) (nI_add i 1) ?_
  refine J_sld hX hB hn (i + 1) (by omega) dL_law_990 ?_
  refine J_callV hX 77 [.int (xs (i + 1))] [.int (x_told M (xs (i + 1)))] dL_law_991 (c_X8_told l D a g M L (xs (i + 1))) lk_L_125 jc_77 rfl rfl rfl (Nat.le_of_ble_eq_true rfl) (Nat.le_of_ble_eq_true rfl) (Nat.le_of_ble_eq_true rfl) (J_eq (st := [.int (m_told M (xs (i + 1))), .int (x_told M (xs (i + 1)))]) rfl ?_)
  refine J_icmp_eq hX 999 dL_law_994 rfl (fun _ => nxt _ _ I) (fun e => absurd (e_told I (xs (i + 1))) e)
theorem law_loop {l : Launch} {D : va_G} {a : Nat → Nat} {g : Nat → ClassId} {G : jG} {b n : Nat} {xs : Nat → Int32} (hX : jX D a g G RL cL_law 4 10 356) (hB : lwB a (gs G) b n xs) (hG : lwG G b) (hn : n ≤ 384) : ∀ fu i M L, n - i < fu → i ≤ n → Inv2 M M → J l D a g G 4 M L 18 [(0, .ref b), (1, .ref (a 0)), (2, .ref (a 77)), (3, .int (nI i))] [] := by
  intro fu
  induction fu with
  | zero => intro i M L h; exact absurd h (Nat.not_lt_zero _)
  | succ fu ih =>
    intro i M L h1 h2 I
    refine J_iload_n hX 3 dL_law_18 rfl ?_
    refine J_aload_n hX 0 dL_law_19 rfl ?_
    refine J_slen hX hB dL_law_20 ?_
    refine J_bipush (v := 6) hX dL_law_21 (by decide) ?_
    refine J_isub hX dL_law_23 ?_
    have sb : (nI n - 6).toInt = (n : Int) - 6 := by rw [show (6 : Int32) = nI 6 from rfl, pk_sub_toInt (by omega) (by omega)]; rfl
    refine J_icmp_gt hX 1005 dL_law_24 rfl (fun _ => ?_) (fun q => ?_)
    · refine J_iconst (v := 1) hX dL_law_1005 (by decide) ?_
      exact J_lret1 hX hB hG
    have hi : i + 6 ≤ n := by
      rw [Int32.lt_iff_toInt_lt, sb, nI_toInt (by omega)] at q
      omega
    refine J_aload_n hX 0 dL_law_27 rfl ?_
    refine J_iload_n hX 3 dL_law_28 rfl ?_
    refine J_sld hX hB hn i (by omega) dL_law_29 ?_
    refine J_bipush (v := 31) hX dL_law_30 (by decide) ?_
    refine J_iand hX dL_law_32 ?_
    have nxt : ∀ M' L', Inv2 M' M' → J l D a g G 4 M' L' 999 [(0, .ref b), (1, .ref (a 0)), (2, .ref (a 77)), (3, .int (nI i))] [] := by
      intro M' L' I'
      refine J_iinc (loc' := [(3, .int (nI (i + 6))), (0, .ref b), (1, .ref (a 0)), (2, .ref (a 77))]) hX 3 dL_law_999 rfl (nI_add i 6) (by decide) rfl ?_
      refine J_goto hX 18 dL_law_1002 rfl ?_
      exact J_sub [1, 2, 3, 0] rfl (ih (i + 6) M' L' (by omega) (by omega) I')
    have bd : 0 ≤ (xs i &&& 31).toInt ∧ (xs i &&& 31).toInt ≤ 255 := by rw [Int32.and_comm]; exact m_and_le (by decide)
    by_cases c : (xs i &&& 31).toInt ≤ 26
    · obtain ⟨w, _, w2, e⟩ := jv_of (v := xs i &&& 31) (lo := 0) (hi := 26) ⟨bd.1, c⟩ (by decide)
      refine J_topi e ?_
      have cs : w = 0 ∨ w = 1 ∨ w = 2 ∨ w = 3 ∨ w = 4 ∨ w = 5 ∨ w = 6 ∨ w = 7 ∨ w = 8 ∨ w = 9 ∨ w = 10 ∨ w = 11 ∨ w = 12 ∨ w = 13 ∨ w = 14 ∨ w = 15 ∨ w = 16 ∨ w = 17 ∨ w = 18 ∨ w = 19 ∨ w = 20 ∨ w = 21 ∨ w = 22 ∨ w = 23 ∨ w = 24 ∨ w = 25 ∨ w = 26 := by omega
      rcases cs with c | c | c | c | c | c | c | c | c | c | c | c | c | c | c | c | c | c | c | c | c | c | c | c | c | c | c <;> subst c
      · exact J_tableIn hX 156 dL_law_33 (by decide) (by decide) rfl rfl (arm_one hX hB hn hi I nxt)
      · exact J_tableIn hX 199 dL_law_33 (by decide) (by decide) rfl rfl (arm_owe hX hB hn hi I nxt)
      · exact J_tableIn hX 242 dL_law_33 (by decide) (by decide) rfl rfl (arm_lot hX hB hn hi I nxt)
      · exact J_tableIn hX 285 dL_law_33 (by decide) (by decide) rfl rfl (arm_set hX hB hn hi I nxt)
      · exact J_tableIn hX 318 dL_law_33 (by decide) (by decide) rfl rfl (arm_say hX hB hn hi I nxt)
      · exact J_tableIn hX 341 dL_law_33 (by decide) (by decide) rfl rfl (arm_wipe hX hB hn hi I nxt)
      · exact J_tableIn hX 354 dL_law_33 (by decide) (by decide) rfl rfl (arm_fault hX hB hn hi I nxt)
      · exact J_tableIn hX 367 dL_law_33 (by decide) (by decide) rfl rfl (arm_judge hX hB hn hi I nxt)
      · exact J_tableIn hX 390 dL_law_33 (by decide) (by decide) rfl rfl (arm_behind hX hB hn hi I nxt)
      · exact J_tableIn hX 423 dL_law_33 (by decide) (by decide) rfl rfl (arm_total hX hB hn hi I nxt)
      · exact J_tableIn hX 446 dL_law_33 (by decide) (by decide) rfl rfl (arm_fell hX hB hn hi I nxt)
      · exact J_tableIn hX 469 dL_law_33 (by decide) (by decide) rfl rfl (arm_done hX hB hn hi I nxt)
      · exact J_tableIn hX 482 dL_law_33 (by decide) (by decide) rfl rfl (arm_struck hX hB hn hi I nxt)
      · exact J_tableIn hX 505 dL_law_33 (by decide) (by decide) rfl rfl (arm_prints hX hB hn hi I nxt)
      · exact J_tableIn hX 528 dL_law_33 (by decide) (by decide) rfl rfl (arm_buys hX hB hn hi I nxt)
      · exact J_tableIn hX 561 dL_law_33 (by decide) (by decide) rfl rfl (arm_runs hX hB hn hi I nxt)
      · exact J_tableIn hX 604 dL_law_33 (by decide) (by decide) rfl rfl (arm_wages hX hB hn hi I nxt)
      · exact J_tableIn hX 637 dL_law_33 (by decide) (by decide) rfl rfl (arm_change hX hB hn hi I nxt)
      · exact J_tableIn hX 701 dL_law_33 (by decide) (by decide) rfl rfl (arm_sample hX hB hn hi I nxt)
      · exact J_tableIn hX 765 dL_law_33 (by decide) (by decide) rfl rfl (arm_seen hX hB hn hi I nxt)
      · exact J_tableIn hX 808 dL_law_33 (by decide) (by decide) rfl rfl (arm_forget hX hB hn hi I nxt)
      · exact J_tableIn hX 821 dL_law_33 (by decide) (by decide) rfl rfl (arm_clerks hX hB hn hi I nxt)
      · exact J_tableIn hX 854 dL_law_33 (by decide) (by decide) rfl rfl (arm_count hX hB hn hi I nxt)
      · exact J_tableIn hX 887 dL_law_33 (by decide) (by decide) rfl rfl (arm_year hX hB hn hi I nxt)
      · exact J_tableIn hX 930 dL_law_33 (by decide) (by decide) rfl rfl (arm_image hX hB hn hi I nxt)
      · exact J_tableIn hX 953 dL_law_33 (by decide) (by decide) rfl rfl (arm_restore hX hB hn hi I nxt)
      · exact J_tableIn hX 976 dL_law_33 (by decide) (by decide) rfl rfl (arm_told hX hB hn hi I nxt)
    · exact J_tableOut hX 999 dL_law_33 (Or.inr (by omega)) rfl (nxt M L I)
