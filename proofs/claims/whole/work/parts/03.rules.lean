section JR
variable {l : Launch} {D : va_G} {a : Nat → Nat} {g : Nat → ClassId} {G : jG} {own : String} {cc : ByteArray} {nL fr lo : Nat} {M : jM} {L : jL} {pc : Nat} {loc loc' : List (Nat × Value)} {rest : List Value}

theorem J_iconst (hX : jX D a g G own cc nL fr lo) {n : Int} {v : Int32} (hd : decode cc pc = .ok (.iconst n, 1)) (hv : Int32.ofInt n = v) (k : J l D a g G nL M L (pc + 1) loc (.int v :: rest)) : J l D a g G nL M L pc loc rest :=
  fun H locs ls hP hS hl => lv_iconst hX.1 hX.2.1 hd hv (k H locs ls hP hS hl)
theorem J_bipush (hX : jX D a g G own cc nL fr lo) {n : Int} {v : Int32} (hd : decode cc pc = .ok (.bipush n, 2)) (hv : (Int8.ofInt n).toInt32 = v) (k : J l D a g G nL M L (pc + 2) loc (.int v :: rest)) : J l D a g G nL M L pc loc rest :=
  fun H locs ls hP hS hl => lv_bipush hX.1 hX.2.1 hd hv (k H locs ls hP hS hl)
theorem J_sipush (hX : jX D a g G own cc nL fr lo) {n : Int} {v : Int32} (hd : decode cc pc = .ok (.sipush n, 3)) (hv : (Int16.ofInt n).toInt32 = v) (k : J l D a g G nL M L (pc + 3) loc (.int v :: rest)) : J l D a g G nL M L pc loc rest :=
  fun H locs ls hP hS hl => lv_sipush hX.1 hX.2.1 hd hv (k H locs ls hP hS hl)
theorem J_lconst (hX : jX D a g G own cc nL fr lo) {n : Fin 2} {v : Int64} (hd : decode cc pc = .ok (.lconst n, 1)) (hv : Int64.ofNat (n : Nat) = v) (k : J l D a g G nL M L (pc + 1) loc (.long v :: rest)) : J l D a g G nL M L pc loc rest :=
  fun H locs ls hP hS hl => lv_lconst hX.1 hX.2.1 hd hv (k H locs ls hP hS hl)
theorem J_iadd (hX : jX D a g G own cc nL fr lo) {x y : Int32} (hd : decode cc pc = .ok (.iadd, 1))  (k : J l D a g G nL M L (pc + 1) loc (.int (x + y) :: rest)) : J l D a g G nL M L pc loc (.int y :: .int x :: rest) :=
  fun H locs ls hP hS hl => lv_iadd hX.1 hX.2.1 hd  (k H locs ls hP hS hl)
theorem J_isub (hX : jX D a g G own cc nL fr lo) {x y : Int32} (hd : decode cc pc = .ok (.isub, 1))  (k : J l D a g G nL M L (pc + 1) loc (.int (x - y) :: rest)) : J l D a g G nL M L pc loc (.int y :: .int x :: rest) :=
  fun H locs ls hP hS hl => lv_isub hX.1 hX.2.1 hd  (k H locs ls hP hS hl)
theorem J_imul (hX : jX D a g G own cc nL fr lo) {x y : Int32} (hd : decode cc pc = .ok (.imul, 1))  (k : J l D a g G nL M L (pc + 1) loc (.int (x * y) :: rest)) : J l D a g G nL M L pc loc (.int y :: .int x :: rest) :=
  fun H locs ls hP hS hl => lv_imul hX.1 hX.2.1 hd  (k H locs ls hP hS hl)
theorem J_iand (hX : jX D a g G own cc nL fr lo) {x y : Int32} (hd : decode cc pc = .ok (.iand, 1))  (k : J l D a g G nL M L (pc + 1) loc (.int (x &&& y) :: rest)) : J l D a g G nL M L pc loc (.int y :: .int x :: rest) :=
  fun H locs ls hP hS hl => lv_iand hX.1 hX.2.1 hd  (k H locs ls hP hS hl)
theorem J_ior (hX : jX D a g G own cc nL fr lo) {x y : Int32} (hd : decode cc pc = .ok (.ior, 1))  (k : J l D a g G nL M L (pc + 1) loc (.int (x ||| y) :: rest)) : J l D a g G nL M L pc loc (.int y :: .int x :: rest) :=
  fun H locs ls hP hS hl => lv_ior hX.1 hX.2.1 hd  (k H locs ls hP hS hl)
theorem J_ixor (hX : jX D a g G own cc nL fr lo) {x y : Int32} (hd : decode cc pc = .ok (.ixor, 1))  (k : J l D a g G nL M L (pc + 1) loc (.int (x ^^^ y) :: rest)) : J l D a g G nL M L pc loc (.int y :: .int x :: rest) :=
  fun H locs ls hP hS hl => lv_ixor hX.1 hX.2.1 hd  (k H locs ls hP hS hl)
theorem J_ishl (hX : jX D a g G own cc nL fr lo) {x y : Int32} (hd : decode cc pc = .ok (.ishl, 1))  (k : J l D a g G nL M L (pc + 1) loc (.int (x <<< (y &&& 31)) :: rest)) : J l D a g G nL M L pc loc (.int y :: .int x :: rest) :=
  fun H locs ls hP hS hl => lv_ishl hX.1 hX.2.1 hd  (k H locs ls hP hS hl)
theorem J_ishr (hX : jX D a g G own cc nL fr lo) {x y : Int32} (hd : decode cc pc = .ok (.ishr, 1))  (k : J l D a g G nL M L (pc + 1) loc (.int (x >>> (y &&& 31)) :: rest)) : J l D a g G nL M L pc loc (.int y :: .int x :: rest) :=
  fun H locs ls hP hS hl => lv_ishr hX.1 hX.2.1 hd  (k H locs ls hP hS hl)
theorem J_ladd (hX : jX D a g G own cc nL fr lo) {x y : Int64} (hd : decode cc pc = .ok (.ladd, 1))  (k : J l D a g G nL M L (pc + 1) loc (.long (x + y) :: rest)) : J l D a g G nL M L pc loc (.long y :: .long x :: rest) :=
  fun H locs ls hP hS hl => lv_ladd hX.1 hX.2.1 hd  (k H locs ls hP hS hl)
theorem J_lsub (hX : jX D a g G own cc nL fr lo) {x y : Int64} (hd : decode cc pc = .ok (.lsub, 1))  (k : J l D a g G nL M L (pc + 1) loc (.long (x - y) :: rest)) : J l D a g G nL M L pc loc (.long y :: .long x :: rest) :=
  fun H locs ls hP hS hl => lv_lsub hX.1 hX.2.1 hd  (k H locs ls hP hS hl)
theorem J_lmul (hX : jX D a g G own cc nL fr lo) {x y : Int64} (hd : decode cc pc = .ok (.lmul, 1))  (k : J l D a g G nL M L (pc + 1) loc (.long (x * y) :: rest)) : J l D a g G nL M L pc loc (.long y :: .long x :: rest) :=
  fun H locs ls hP hS hl => lv_lmul hX.1 hX.2.1 hd  (k H locs ls hP hS hl)
theorem J_ineg (hX : jX D a g G own cc nL fr lo) {x : Int32} (hd : decode cc pc = .ok (.ineg, 1))  (k : J l D a g G nL M L (pc + 1) loc (.int (-x) :: rest)) : J l D a g G nL M L pc loc (.int x :: rest) :=
  fun H locs ls hP hS hl => lv_ineg hX.1 hX.2.1 hd  (k H locs ls hP hS hl)
theorem J_idiv (hX : jX D a g G own cc nL fr lo) {x y : Int32} (hd : decode cc pc = .ok (.idiv, 1)) (hne : ¬ y = 0) (k : J l D a g G nL M L (pc + 1) loc (.int (x / y) :: rest)) : J l D a g G nL M L pc loc (.int y :: .int x :: rest) :=
  fun H locs ls hP hS hl => lv_idiv hX.1 hX.2.1 hd hne (k H locs ls hP hS hl)
theorem J_irem (hX : jX D a g G own cc nL fr lo) {x y : Int32} (hd : decode cc pc = .ok (.irem, 1)) (hne : ¬ y = 0) (k : J l D a g G nL M L (pc + 1) loc (.int (x - x / y * y) :: rest)) : J l D a g G nL M L pc loc (.int y :: .int x :: rest) :=
  fun H locs ls hP hS hl => lv_irem hX.1 hX.2.1 hd hne (k H locs ls hP hS hl)
theorem J_ldiv (hX : jX D a g G own cc nL fr lo) {x y : Int64} (hd : decode cc pc = .ok (.ldiv, 1)) (hne : ¬ y = 0) (k : J l D a g G nL M L (pc + 1) loc (.long (x / y) :: rest)) : J l D a g G nL M L pc loc (.long y :: .long x :: rest) :=
  fun H locs ls hP hS hl => lv_ldiv hX.1 hX.2.1 hd hne (k H locs ls hP hS hl)
theorem J_lrem (hX : jX D a g G own cc nL fr lo) {x y : Int64} (hd : decode cc pc = .ok (.lrem, 1)) (hne : ¬ y = 0) (k : J l D a g G nL M L (pc + 1) loc (.long (x - x / y * y) :: rest)) : J l D a g G nL M L pc loc (.long y :: .long x :: rest) :=
  fun H locs ls hP hS hl => lv_lrem hX.1 hX.2.1 hd hne (k H locs ls hP hS hl)
theorem J_i2l (hX : jX D a g G own cc nL fr lo) {x : Int32} (hd : decode cc pc = .ok (.i2l, 1))  (k : J l D a g G nL M L (pc + 1) loc (.long x.toInt64 :: rest)) : J l D a g G nL M L pc loc (.int x :: rest) :=
  fun H locs ls hP hS hl => lv_i2l hX.1 hX.2.1 hd rfl (k H locs ls hP hS hl)
theorem J_l2i (hX : jX D a g G own cc nL fr lo) {x : Int64} (hd : decode cc pc = .ok (.l2i, 1))  (k : J l D a g G nL M L (pc + 1) loc (.int x.toInt32 :: rest)) : J l D a g G nL M L pc loc (.long x :: rest) :=
  fun H locs ls hP hS hl => lv_l2i hX.1 hX.2.1 hd rfl (k H locs ls hP hS hl)
theorem J_iushr (hX : jX D a g G own cc nL fr lo) {x y : Int32} (hd : decode cc pc = .ok (.iushr, 1))  (k : J l D a g G nL M L (pc + 1) loc (.int (x.toUInt32 >>> (y.toUInt32 &&& Int32.toUInt32 31)).toInt32 :: rest)) : J l D a g G nL M L pc loc (.int y :: .int x :: rest) :=
  fun H locs ls hP hS hl => lv_iushr hX.1 hX.2.1 hd rfl (k H locs ls hP hS hl)
theorem J_lcmp (hX : jX D a g G own cc nL fr lo) {x y : Int64} (hd : decode cc pc = .ok (.lcmp, 1))  (k : J l D a g G nL M L (pc + 1) loc (.int (lg_cmp x y) :: rest)) : J l D a g G nL M L pc loc (.long y :: .long x :: rest) :=
  fun H locs ls hP hS hl => W.lcmp hX.1 hX.2.1 hd  (k H locs ls hP hS hl)
theorem J_dup (hX : jX D a g G own cc nL fr lo) {va : Value} (hd : decode cc pc = .ok (.dup, 1)) (h1 : va.category = 1) (k : J l D a g G nL M L (pc + 1) loc (va :: va :: rest)) : J l D a g G nL M L pc loc (va :: rest) :=
  fun H locs ls hP hS hl => lv_dup hX.1 hX.2.1 hd h1 (k H locs ls hP hS hl)
theorem J_pop (hX : jX D a g G own cc nL fr lo) {va : Value} (hd : decode cc pc = .ok (.pop, 1)) (h1 : va.category = 1) (k : J l D a g G nL M L (pc + 1) loc rest) : J l D a g G nL M L pc loc (va :: rest) :=
  fun H locs ls hP hS hl => lv_pop hX.1 hX.2.1 hd h1 (k H locs ls hP hS hl)
theorem J_dup2 (hX : jX D a g G own cc nL fr lo) {va vb : Value} (hd : decode cc pc = .ok (.dup2, 1)) (h1 : va.category = 1) (h2 : vb.category = 1) (k : J l D a g G nL M L (pc + 1) loc (va :: vb :: va :: vb :: rest)) : J l D a g G nL M L pc loc (va :: vb :: rest) :=
  fun H locs ls hP hS hl => lv_dup2_11 hX.1 hX.2.1 hd h1 h2 (k H locs ls hP hS hl)
theorem J_iload_n (hX : jX D a g G own cc nL fr lo) {k : Fin 4} {x : Int32} (i : Nat) (hd : decode cc pc = .ok (.iload_n k, 1)) (hi : loc[i]? = some ((k : Nat), .int x)) (kk : J l D a g G nL M L (pc + 1) loc (.int x :: rest)) : J l D a g G nL M L pc loc rest :=
  fun H locs ls hP hS hl => lv_iload_n hX.1 hX.2.1 hd rfl (lv_at hl i hi) (kk H locs ls hP hS hl)
theorem J_iload (hX : jX D a g G own cc nL fr lo) {k : Nat} {x : Int32} (i : Nat) (hd : decode cc pc = .ok (.iload k, 2)) (hi : loc[i]? = some (k, .int x)) (kk : J l D a g G nL M L (pc + 2) loc (.int x :: rest)) : J l D a g G nL M L pc loc rest :=
  fun H locs ls hP hS hl => lv_iload hX.1 hX.2.1 hd (lv_at hl i hi) (kk H locs ls hP hS hl)
theorem J_lload_n (hX : jX D a g G own cc nL fr lo) {k : Fin 4} {x : Int64} (i : Nat) (hd : decode cc pc = .ok (.lload_n k, 1)) (hi : loc[i]? = some ((k : Nat), .long x)) (kk : J l D a g G nL M L (pc + 1) loc (.long x :: rest)) : J l D a g G nL M L pc loc rest :=
  fun H locs ls hP hS hl => lv_lload_n hX.1 hX.2.1 hd rfl (lv_at hl i hi) (kk H locs ls hP hS hl)
theorem J_lload (hX : jX D a g G own cc nL fr lo) {k : Nat} {x : Int64} (i : Nat) (hd : decode cc pc = .ok (.lload k, 2)) (hi : loc[i]? = some (k, .long x)) (kk : J l D a g G nL M L (pc + 2) loc (.long x :: rest)) : J l D a g G nL M L pc loc rest :=
  fun H locs ls hP hS hl => lv_lload hX.1 hX.2.1 hd (lv_at hl i hi) (kk H locs ls hP hS hl)
theorem J_aload_n (hX : jX D a g G own cc nL fr lo) {k : Fin 4} {x : Nat} (i : Nat) (hd : decode cc pc = .ok (.aload_n k, 1)) (hi : loc[i]? = some ((k : Nat), .ref x)) (kk : J l D a g G nL M L (pc + 1) loc (.ref x :: rest)) : J l D a g G nL M L pc loc rest :=
  fun H locs ls hP hS hl => lv_aload_n hX.1 hX.2.1 hd rfl (lv_at hl i hi) (kk H locs ls hP hS hl)
theorem J_aload (hX : jX D a g G own cc nL fr lo) {k : Nat} {x : Nat} (i : Nat) (hd : decode cc pc = .ok (.aload k, 2)) (hi : loc[i]? = some (k, .ref x)) (kk : J l D a g G nL M L (pc + 2) loc (.ref x :: rest)) : J l D a g G nL M L pc loc rest :=
  fun H locs ls hP hS hl => lv_aload hX.1 hX.2.1 hd (lv_at hl i hi) (kk H locs ls hP hS hl)
theorem J_istore_n (hX : jX D a g G own cc nL fr lo) {k : Fin 4} {x : Int32} (hd : decode cc pc = .ok (.istore_n k, 1)) (hb : (k : Nat) < nL) (hl : ((k : Nat), Value.int x) :: loc.filter (fun q => !(q.1 == (k : Nat)) && !(q.1 + 1 == (k : Nat) && q.2.category == 2)) = loc') (kk : J l D a g G nL M L (pc + 1) loc' rest) : J l D a g G nL M L pc loc (.int x :: rest) :=
  fun H locs ls hP hS h => lv_istore_n hX.1 hX.2.1 hd rfl h hb hl (fun ls' h' => kk H locs ls' hP hS h')
theorem J_istore (hX : jX D a g G own cc nL fr lo) {k : Nat} {x : Int32} (hd : decode cc pc = .ok (.istore k, 2)) (hb : k < nL) (hl : (k, Value.int x) :: loc.filter (fun q => !(q.1 == k) && !(q.1 + 1 == k && q.2.category == 2)) = loc') (kk : J l D a g G nL M L (pc + 2) loc' rest) : J l D a g G nL M L pc loc (.int x :: rest) :=
  fun H locs ls hP hS h => lv_istore hX.1 hX.2.1 hd h hb hl (fun ls' h' => kk H locs ls' hP hS h')
theorem J_lstore_n (hX : jX D a g G own cc nL fr lo) {k : Fin 4} {x : Int64} (hd : decode cc pc = .ok (.lstore_n k, 1)) (hb : (k : Nat) + 1 < nL) (hl : ((k : Nat), Value.long x) :: loc.filter (fun q => !(q.1 == (k : Nat)) && (!(q.1 == (k : Nat) + 1) && !(q.1 + 1 == (k : Nat) && q.2.category == 2))) = loc') (kk : J l D a g G nL M L (pc + 1) loc' rest) : J l D a g G nL M L pc loc (.long x :: rest) :=
  fun H locs ls hP hS h => lv_lstore_n hX.1 hX.2.1 hd rfl h hb hl (fun ls' h' => kk H locs ls' hP hS h')
theorem J_lstore (hX : jX D a g G own cc nL fr lo) {k : Nat} {x : Int64} (hd : decode cc pc = .ok (.lstore k, 2)) (hb : k + 1 < nL) (hl : (k, Value.long x) :: loc.filter (fun q => !(q.1 == k) && (!(q.1 == k + 1) && !(q.1 + 1 == k && q.2.category == 2))) = loc') (kk : J l D a g G nL M L (pc + 2) loc' rest) : J l D a g G nL M L pc loc (.long x :: rest) :=
  fun H locs ls hP hS h => lv_lstore hX.1 hX.2.1 hd h hb hl (fun ls' h' => kk H locs ls' hP hS h')
theorem J_astore_n (hX : jX D a g G own cc nL fr lo) {k : Fin 4} {x : Nat} (hd : decode cc pc = .ok (.astore_n k, 1)) (hb : (k : Nat) < nL) (hl : ((k : Nat), Value.ref x) :: loc.filter (fun q => !(q.1 == (k : Nat)) && !(q.1 + 1 == (k : Nat) && q.2.category == 2)) = loc') (kk : J l D a g G nL M L (pc + 1) loc' rest) : J l D a g G nL M L pc loc (.ref x :: rest) :=
  fun H locs ls hP hS h => lv_astore_n hX.1 hX.2.1 hd rfl h hb hl (fun ls' h' => kk H locs ls' hP hS h')
theorem J_astore (hX : jX D a g G own cc nL fr lo) {k : Nat} {x : Nat} (hd : decode cc pc = .ok (.astore k, 2)) (hb : k < nL) (hl : (k, Value.ref x) :: loc.filter (fun q => !(q.1 == k) && !(q.1 + 1 == k && q.2.category == 2)) = loc') (kk : J l D a g G nL M L (pc + 2) loc' rest) : J l D a g G nL M L pc loc (.ref x :: rest) :=
  fun H locs ls hP hS h => lv_astore hX.1 hX.2.1 hd h hb hl (fun ls' h' => kk H locs ls' hP hS h')
theorem J_iinc (hX : jX D a g G own cc nL fr lo) {k : Nat} {n : Int} {x v : Int32} (i : Nat) (hd : decode cc pc = .ok (.iinc k n, 3)) (hi : loc[i]? = some (k, .int x)) (hv : x + Int32.ofInt n = v) (hb : k < nL) (hl : (k, Value.int v) :: loc.filter (fun q => !(q.1 == k) && !(q.1 + 1 == k && q.2.category == 2)) = loc') (kk : J l D a g G nL M L (pc + 3) loc' rest) : J l D a g G nL M L pc loc rest :=
  fun H locs ls hP hS h => lv_iinc hX.1 hX.2.1 hd h hi hv hb hl (fun ls' h' => kk H locs ls' hP hS h')
theorem J_if_eq (hX : jX D a g G own cc nL fr lo) {x : Int32} {off : Int} (tgt : Nat) (hd : decode cc pc = .ok (.ifCond .eq off, 3)) (ht : (pc : Int) + off = (tgt : Int)) (kt : x = 0 → J l D a g G nL M L tgt loc rest) (kf : ¬ x = 0 → J l D a g G nL M L (pc + 3) loc rest) : J l D a g G nL M L pc loc (.int x :: rest) :=
  fun H locs ls hP hS hl => lv_if_eq hX.1 hX.2.1 hd ht (fun h => kt h H locs ls hP hS hl) (fun h => kf h H locs ls hP hS hl)
theorem J_icmp_eq (hX : jX D a g G own cc nL fr lo) {x y : Int32} {off : Int} (tgt : Nat) (hd : decode cc pc = .ok (.if_icmp .eq off, 3)) (ht : (pc : Int) + off = (tgt : Int)) (kt : x = y → J l D a g G nL M L tgt loc rest) (kf : ¬ x = y → J l D a g G nL M L (pc + 3) loc rest) : J l D a g G nL M L pc loc (.int y :: .int x :: rest) :=
  fun H locs ls hP hS hl => lv_icmp_eq hX.1 hX.2.1 hd ht (fun h => kt h H locs ls hP hS hl) (fun h => kf h H locs ls hP hS hl)
theorem J_if_ne (hX : jX D a g G own cc nL fr lo) {x : Int32} {off : Int} (tgt : Nat) (hd : decode cc pc = .ok (.ifCond .ne off, 3)) (ht : (pc : Int) + off = (tgt : Int)) (kt : ¬ x = 0 → J l D a g G nL M L tgt loc rest) (kf : x = 0 → J l D a g G nL M L (pc + 3) loc rest) : J l D a g G nL M L pc loc (.int x :: rest) :=
  fun H locs ls hP hS hl => lv_if_ne hX.1 hX.2.1 hd ht (fun h => kt h H locs ls hP hS hl) (fun h => kf h H locs ls hP hS hl)
theorem J_icmp_ne (hX : jX D a g G own cc nL fr lo) {x y : Int32} {off : Int} (tgt : Nat) (hd : decode cc pc = .ok (.if_icmp .ne off, 3)) (ht : (pc : Int) + off = (tgt : Int)) (kt : ¬ x = y → J l D a g G nL M L tgt loc rest) (kf : x = y → J l D a g G nL M L (pc + 3) loc rest) : J l D a g G nL M L pc loc (.int y :: .int x :: rest) :=
  fun H locs ls hP hS hl => lv_icmp_ne hX.1 hX.2.1 hd ht (fun h => kt h H locs ls hP hS hl) (fun h => kf h H locs ls hP hS hl)
theorem J_if_lt (hX : jX D a g G own cc nL fr lo) {x : Int32} {off : Int} (tgt : Nat) (hd : decode cc pc = .ok (.ifCond .lt off, 3)) (ht : (pc : Int) + off = (tgt : Int)) (kt : x < 0 → J l D a g G nL M L tgt loc rest) (kf : ¬ x < 0 → J l D a g G nL M L (pc + 3) loc rest) : J l D a g G nL M L pc loc (.int x :: rest) :=
  fun H locs ls hP hS hl => lv_if_lt hX.1 hX.2.1 hd ht (fun h => kt h H locs ls hP hS hl) (fun h => kf h H locs ls hP hS hl)
theorem J_icmp_lt (hX : jX D a g G own cc nL fr lo) {x y : Int32} {off : Int} (tgt : Nat) (hd : decode cc pc = .ok (.if_icmp .lt off, 3)) (ht : (pc : Int) + off = (tgt : Int)) (kt : x < y → J l D a g G nL M L tgt loc rest) (kf : ¬ x < y → J l D a g G nL M L (pc + 3) loc rest) : J l D a g G nL M L pc loc (.int y :: .int x :: rest) :=
  fun H locs ls hP hS hl => lv_icmp_lt hX.1 hX.2.1 hd ht (fun h => kt h H locs ls hP hS hl) (fun h => kf h H locs ls hP hS hl)
theorem J_if_ge (hX : jX D a g G own cc nL fr lo) {x : Int32} {off : Int} (tgt : Nat) (hd : decode cc pc = .ok (.ifCond .ge off, 3)) (ht : (pc : Int) + off = (tgt : Int)) (kt : 0 ≤ x → J l D a g G nL M L tgt loc rest) (kf : ¬ 0 ≤ x → J l D a g G nL M L (pc + 3) loc rest) : J l D a g G nL M L pc loc (.int x :: rest) :=
  fun H locs ls hP hS hl => lv_if_ge hX.1 hX.2.1 hd ht (fun h => kt h H locs ls hP hS hl) (fun h => kf h H locs ls hP hS hl)
theorem J_icmp_ge (hX : jX D a g G own cc nL fr lo) {x y : Int32} {off : Int} (tgt : Nat) (hd : decode cc pc = .ok (.if_icmp .ge off, 3)) (ht : (pc : Int) + off = (tgt : Int)) (kt : y ≤ x → J l D a g G nL M L tgt loc rest) (kf : ¬ y ≤ x → J l D a g G nL M L (pc + 3) loc rest) : J l D a g G nL M L pc loc (.int y :: .int x :: rest) :=
  fun H locs ls hP hS hl => lv_icmp_ge hX.1 hX.2.1 hd ht (fun h => kt h H locs ls hP hS hl) (fun h => kf h H locs ls hP hS hl)
theorem J_if_gt (hX : jX D a g G own cc nL fr lo) {x : Int32} {off : Int} (tgt : Nat) (hd : decode cc pc = .ok (.ifCond .gt off, 3)) (ht : (pc : Int) + off = (tgt : Int)) (kt : 0 < x → J l D a g G nL M L tgt loc rest) (kf : ¬ 0 < x → J l D a g G nL M L (pc + 3) loc rest) : J l D a g G nL M L pc loc (.int x :: rest) :=
  fun H locs ls hP hS hl => lv_if_gt hX.1 hX.2.1 hd ht (fun h => kt h H locs ls hP hS hl) (fun h => kf h H locs ls hP hS hl)
theorem J_icmp_gt (hX : jX D a g G own cc nL fr lo) {x y : Int32} {off : Int} (tgt : Nat) (hd : decode cc pc = .ok (.if_icmp .gt off, 3)) (ht : (pc : Int) + off = (tgt : Int)) (kt : y < x → J l D a g G nL M L tgt loc rest) (kf : ¬ y < x → J l D a g G nL M L (pc + 3) loc rest) : J l D a g G nL M L pc loc (.int y :: .int x :: rest) :=
  fun H locs ls hP hS hl => lv_icmp_gt hX.1 hX.2.1 hd ht (fun h => kt h H locs ls hP hS hl) (fun h => kf h H locs ls hP hS hl)
theorem J_if_le (hX : jX D a g G own cc nL fr lo) {x : Int32} {off : Int} (tgt : Nat) (hd : decode cc pc = .ok (.ifCond .le off, 3)) (ht : (pc : Int) + off = (tgt : Int)) (kt : x ≤ 0 → J l D a g G nL M L tgt loc rest) (kf : ¬ x ≤ 0 → J l D a g G nL M L (pc + 3) loc rest) : J l D a g G nL M L pc loc (.int x :: rest) :=
  fun H locs ls hP hS hl => lv_if_le hX.1 hX.2.1 hd ht (fun h => kt h H locs ls hP hS hl) (fun h => kf h H locs ls hP hS hl)
theorem J_icmp_le (hX : jX D a g G own cc nL fr lo) {x y : Int32} {off : Int} (tgt : Nat) (hd : decode cc pc = .ok (.if_icmp .le off, 3)) (ht : (pc : Int) + off = (tgt : Int)) (kt : x ≤ y → J l D a g G nL M L tgt loc rest) (kf : ¬ x ≤ y → J l D a g G nL M L (pc + 3) loc rest) : J l D a g G nL M L pc loc (.int y :: .int x :: rest) :=
  fun H locs ls hP hS hl => lv_icmp_le hX.1 hX.2.1 hd ht (fun h => kt h H locs ls hP hS hl) (fun h => kf h H locs ls hP hS hl)
theorem J_goto (hX : jX D a g G own cc nL fr lo) {off : Int} (tgt : Nat) (hd : decode cc pc = .ok (.goto off, 3)) (ht : (pc : Int) + off = (tgt : Int)) (k : J l D a g G nL M L tgt loc rest) : J l D a g G nL M L pc loc rest :=
  fun H locs ls hP hS hl => lv_goto hX.1 hX.2.1 hd ht (k H locs ls hP hS hl)
theorem J_tableIn (hX : jX D a g G own cc nL fr lo) {dflt lo1 hi1 : Int} {offs : Array Int} {len : Nat} {x : Int32} {off : Int} (tgt : Nat) (hd : decode cc pc = .ok (.tableswitch dflt lo1 hi1 offs, len)) (h1 : ¬ x.toInt < lo1) (h2 : ¬ hi1 < x.toInt) (ho : offs[(x.toInt - lo1).toNat]? = some off) (ht : (pc : Int) + off = (tgt : Int)) (k : J l D a g G nL M L tgt loc rest) : J l D a g G nL M L pc loc (.int x :: rest) :=
  fun H locs ls hP hS hl => lv_tableIn hX.1 hX.2.1 hd h1 h2 ho ht (k H locs ls hP hS hl)
theorem J_tableOut (hX : jX D a g G own cc nL fr lo) {dflt lo1 hi1 : Int} {offs : Array Int} {len : Nat} {x : Int32} (tgt : Nat) (hd : decode cc pc = .ok (.tableswitch dflt lo1 hi1 offs, len)) (h : x.toInt < lo1 ∨ hi1 < x.toInt) (ht : (pc : Int) + dflt = (tgt : Int)) (k : J l D a g G nL M L tgt loc rest) : J l D a g G nL M L pc loc (.int x :: rest) :=
  fun H locs ls hP hS hl => lv_tableOut hX.1 hX.2.1 hd h ht (k H locs ls hP hS hl)
theorem J_lookup (hX : jX D a g G own cc nL fr lo) {dflt : Int} {ps : Array (Int × Int)} {len : Nat} {x : Int32} {off : Int} (tgt : Nat) (hd : decode cc pc = .ok (.lookupswitch dflt ps, len)) (hp : (ps.toList.zip (ps.toList.drop 1)).all (fun (a, next) => a.1 < next.1) = true) (ho : Op.lookupswitch.offset ps.toList dflt x.toInt = off) (ht : (pc : Int) + off = (tgt : Int)) (k : J l D a g G nL M L tgt loc rest) : J l D a g G nL M L pc loc (.int x :: rest) :=
  fun H locs ls hP hS hl => lv_lookup hX.1 hX.2.1 hd hp ho ht (k H locs ls hP hS hl)
theorem J_ldc (hX : jX D a g G own cc nL fr lo) {idx : Nat} {v : Int32} (hd : decode cc pc = .ok (.ldc idx, 2)) (hw : Cond.constant own idx v ∈ wsL_law) (k : J l D a g G nL M L (pc + 2) loc (.int v :: rest)) : J l D a g G nL M L pc loc rest :=
  fun H locs ls hP hS hl => lv_ldc hX.1 hX.2.1 hX.2.2.2.1 (hX.2.2.2.2.1 _ hw) hd (k H locs ls hP hS hl)
theorem J_ldcw (hX : jX D a g G own cc nL fr lo) {idx : Nat} {v : Int32} (hd : decode cc pc = .ok (.ldc_w idx, 3)) (hw : Cond.constant own idx v ∈ wsL_law) (k : J l D a g G nL M L (pc + 3) loc (.int v :: rest)) : J l D a g G nL M L pc loc rest :=
  fun H locs ls hP hS hl => lv_ldcw hX.1 hX.2.1 hX.2.2.2.1 (hX.2.2.2.2.1 _ hw) hd (k H locs ls hP hS hl)
theorem J_ldc2 (hX : jX D a g G own cc nL fr lo) {idx : Nat} {v : Int64} (hd : decode cc pc = .ok (.ldc2_w idx, 3)) (hw : Cond.constantLong own idx v ∈ wsL_law) (k : J l D a g G nL M L (pc + 3) loc (.long v :: rest)) : J l D a g G nL M L pc loc rest :=
  fun H locs ls hP hS hl => lv_ldc2 hX.1 hX.2.1 hX.2.2.2.1 (hX.2.2.2.2.1 _ hw) hd (k H locs ls hP hS hl)
/-- a word of a field's link, for the class of number ci -/
theorem J_geti (hX : jX D a g G own cc nL fr lo) {idx ci : Nat} {fs : List (Option Nat)} {C : String} {T : u_T} {N : Nat} (q j : Nat) (hd : decode cc pc = .ok (.getfield idx, 3)) (hq : jCs[q]? = some (jo ci fs)) (hf : fs[j]? = some none) (hc : vwCl[ci]? = some (C, T, N)) (hj : j < N) (hin : ∀ w ∈ u_ws C T N, w ∈ wsL_law) (hw : Cond.fieldLink own idx (T j).1 (T j).2.1 (T j).2.2.1 ∈ wsL_law) (k : J l D a g G nL M L (pc + 3) loc (.int (M q j) :: rest)) : J l D a g G nL M L pc loc (.ref (a q) :: rest) :=
  fun H locs ls hP hS hl => va_get (D := D) (cl := vwCl) hX.1 hX.2.1 hX.2.2.2.2.1 hin hX.2.2.2.1 hX.2.2.2.2.2.1 hP q (jW_at hq) hc j hj (hX.2.2.2.2.1 _ hw) (fun _ h => h) (v := .int (M q j)) (by simp only [List.getElem?_mapIdx, hf, Option.map_some, jf]) hd (k H locs ls hP hS hl)
theorem J_getr (hX : jX D a g G own cc nL fr lo) {idx ci r : Nat} {fs : List (Option Nat)} {C : String} {T : u_T} {N : Nat} (q j : Nat) (hd : decode cc pc = .ok (.getfield idx, 3)) (hq : jCs[q]? = some (jo ci fs)) (hf : fs[j]? = some (some r)) (hc : vwCl[ci]? = some (C, T, N)) (hj : j < N) (hin : ∀ w ∈ u_ws C T N, w ∈ wsL_law) (hw : Cond.fieldLink own idx (T j).1 (T j).2.1 (T j).2.2.1 ∈ wsL_law) (k : J l D a g G nL M L (pc + 3) loc (.ref (a r) :: rest)) : J l D a g G nL M L pc loc (.ref (a q) :: rest) :=
  fun H locs ls hP hS hl => va_get (D := D) (cl := vwCl) hX.1 hX.2.1 hX.2.2.2.2.1 hin hX.2.2.2.1 hX.2.2.2.2.2.1 hP q (jW_at hq) hc j hj (hX.2.2.2.2.1 _ hw) (fun _ h => h) (v := .ref (a r)) (by simp only [List.getElem?_mapIdx, hf, Option.map_some, jf]) hd (k H locs ls hP hS hl)
theorem jf_set {k j : Nat} {v : Int32} {fs : List (Option Nat)} (hf : fs[j]? = some none) : (fs.mapIdx (fun i f => jf a M k i f)).set j (.int v) = fs.mapIdx (fun i f => jf a (jU M k j v) k i f) := by
  apply List.ext_getElem?
  intro i
  by_cases e : i = j
  · subst e
    rw [List.getElem?_set_self (by rw [List.length_mapIdx]; exact (List.getElem?_eq_some_iff.mp hf).1)]
    simp [List.getElem?_mapIdx, hf, jU]
  · rw [List.getElem?_set_ne (Ne.symm e)]
    simp only [List.getElem?_mapIdx]
    cases hi : fs[i]? with
    | none => rfl
    | some f => cases f with
      | none => simp [jU, e]
      | some r => rfl
theorem J_puti (hX : jX D a g G own cc nL fr lo) {idx ci : Nat} {fs : List (Option Nat)} {C : String} {T : u_T} {N : Nat} {v : Int32} {ty : FieldType} (q j : Nat) (hd : decode cc pc = .ok (.putfield idx, 3)) (hq : jCs[q]? = some (jo ci fs)) (hf : fs[j]? = some none) (hc : vwCl[ci]? = some (C, T, N)) (hj : j < N) (hin : ∀ w ∈ u_ws C T N, w ∈ wsL_law) (hw : Cond.fieldLink own idx (T j).1 (T j).2.1 (T j).2.2.1 ∈ wsL_law)
    (ty0 : Nat → FieldType) (hty : ∀ k, k < N → parseFieldDescriptor (T k).2.2.1 = some (ty0 k)) (hnm : ∀ a, a < N → ∀ b, b < N → a ≠ b → (T a).2.1 ≠ (T b).2.1) (hfin : (T j).2.2.2 = false) (hp : parseFieldDescriptor (T j).2.2.1 = some ty) (hn : narrow ty (.int v) = .int v) (hfit : fits ty (.int v) = true)
    (k : J l D a g G nL (jU M q j v) L (pc + 3) loc rest) : J l D a g G nL M L pc loc (.int v :: .ref (a q) :: rest) := by
  intro H locs ls hP hS hl
  refine va_put (D := D) (cl := vwCl) (A := jA a) hX.1 hX.2.1 hX.2.2.2.2.1 hin ty0 hty hnm hX.2.2.2.1 hX.2.2.2.2.2.1 hP (jW_D hX.2.2.2.2.2.2.2.1 g M L) hS q (jW_at hq) hc j hj (hX.2.2.2.2.1 _ hw) (fun _ h => h) hfin hp hn hfit (by rw [List.length_mapIdx]; exact (List.getElem?_eq_some_iff.mp hf).1) hd (fun H1 locs1 h1 _ hS1 => ?_)
  rw [jf_set hf] at h1
  have e := jW_set (a := a) (g := g) (M := M) (M' := jU M q j v) (L := L) (L' := L) hq (fun k' h => (jU_ne h).symm) (fun _ _ => rfl)
  rw [show jE a g (jU M q j v) L q (jo ci fs) = .inr (ci, fs.mapIdx (fun i f => jf a (jU M q j v) q i f)) from rfl] at e
  rw [e] at h1
  exact k H1 locs1 ls h1 hS1 hl
theorem J_iald (hX : jX D a g G own cc nL fr lo) {n : Nat} {x : Int32} (q i : Nat) (hd : decode cc pc = .ok (.iaload, 1)) (hq : jCs[q]? = some (ji 0 n)) (hx : x = nI i) (hi : i < n) (hn : n < 2 ^ 31) (k : J l D a g G nL M L (pc + 1) loc (.int (M q i) :: rest)) : J l D a g G nL M L pc loc (.int x :: .ref (a q) :: rest) := by
  intro H locs ls hP hS hl
  subst hx
  refine va_iald hX.1 hX.2.1 hX.2.2.2.2.2.1 hP q 0 (jW_at hq) rfl (vp_in_nI hi hn) hd ?_
  rw [nI_clamp (by omega)]
  exact k H locs ls hP hS hl
theorem J_zald (hX : jX D a g G own cc nL fr lo) {n : Nat} {x : Int32} (q i : Nat) (hd : decode cc pc = .ok (.baload, 1)) (hq : jCs[q]? = some (ji 2 n)) (hx : x = nI i) (hi : i < n) (hn : n < 2 ^ 31) (k : J l D a g G nL M L (pc + 1) loc (.int (M q i) :: rest)) : J l D a g G nL M L pc loc (.int x :: .ref (a q) :: rest) := by
  intro H locs ls hP hS hl
  subst hx
  refine va_zald hX.1 hX.2.1 hX.2.2.2.2.2.1 hP q 2 (jW_at hq) rfl (vp_in_nI hi hn) hd ?_
  rw [nI_clamp (by omega)]
  exact k H locs ls hP hS hl
theorem J_lald (hX : jX D a g G own cc nL fr lo) {n : Nat} {x : Int32} (q i : Nat) (hd : decode cc pc = .ok (.laload, 1)) (hq : jCs[q]? = some (jj n)) (hx : x = nI i) (hi : i < n) (hn : n < 2 ^ 31) (k : J l D a g G nL M L (pc + 1) loc (.long (L q i) :: rest)) : J l D a g G nL M L pc loc (.int x :: .ref (a q) :: rest) := by
  intro H locs ls hP hS hl
  subst hx
  refine va_lald hX.1 hX.2.1 hX.2.2.2.2.2.1 hP q 1 (jW_at hq) rfl (vp_in_nI hi hn) hd ?_
  rw [nI_clamp (by omega)]
  exact k H locs ls hP hS hl
theorem J_iast (hX : jX D a g G own cc nL fr lo) {n : Nat} {x v : Int32} (q i : Nat) (hd : decode cc pc = .ok (.iastore, 1)) (hq : jCs[q]? = some (ji 0 n)) (hx : x = nI i) (hi : i < n) (hn : n < 2 ^ 31) (k : J l D a g G nL (jU M q i v) L (pc + 1) loc rest) : J l D a g G nL M L pc loc (.int v :: .int x :: .ref (a q) :: rest) := by
  intro H locs ls hP hS hl
  subst hx
  refine va_iast hX.1 hX.2.1 hX.2.2.2.2.2.1 hP (jW_D hX.2.2.2.2.2.2.2.1 g M L) hS q 0 (jW_at hq) rfl (vp_in_nI hi hn) hd (fun H1 locs1 h1 _ hS1 => ?_)
  rw [nI_clamp (by omega), ← jU_row] at h1
  have e := jW_set (a := a) (g := g) (M := M) (M' := jU M q i v) (L := L) (L' := L) hq (fun k' h => (jU_ne h).symm) (fun _ _ => rfl)
  rw [show jE a g (jU M q i v) L q (ji 0 n) = .inl (g 0, n, .inl (jU M q i v q)) from rfl] at e
  rw [e] at h1
  exact k H1 locs1 ls h1 hS1 hl
theorem J_zast (hX : jX D a g G own cc nL fr lo) {n : Nat} {x v : Int32} (q i : Nat) (hd : decode cc pc = .ok (.bastore, 1)) (hq : jCs[q]? = some (ji 2 n)) (hx : x = nI i) (hi : i < n) (hn : n < 2 ^ 31) (hv : vp_nar .boolean v = v) (k : J l D a g G nL (jU M q i v) L (pc + 1) loc rest) : J l D a g G nL M L pc loc (.int v :: .int x :: .ref (a q) :: rest) := by
  intro H locs ls hP hS hl
  subst hx
  refine va_zast hX.1 hX.2.1 hX.2.2.2.2.2.1 hP (jW_D hX.2.2.2.2.2.2.2.1 g M L) hS q 2 (jW_at hq) rfl (vp_in_nI hi hn) hd (fun H1 locs1 h1 _ hS1 => ?_)
  rw [nI_clamp (by omega), hv, ← jU_row] at h1
  have e := jW_set (a := a) (g := g) (M := M) (M' := jU M q i v) (L := L) (L' := L) hq (fun k' h => (jU_ne h).symm) (fun _ _ => rfl)
  rw [show jE a g (jU M q i v) L q (ji 2 n) = .inl (g 2, n, .inl (jU M q i v q)) from rfl] at e
  rw [e] at h1
  exact k H1 locs1 ls h1 hS1 hl
theorem J_last (hX : jX D a g G own cc nL fr lo) {n : Nat} {x : Int32} {v : Int64} (q i : Nat) (hd : decode cc pc = .ok (.lastore, 1)) (hq : jCs[q]? = some (jj n)) (hx : x = nI i) (hi : i < n) (hn : n < 2 ^ 31) (k : J l D a g G nL M (jUL L q i v) (pc + 1) loc rest) : J l D a g G nL M L pc loc (.long v :: .int x :: .ref (a q) :: rest) := by
  intro H locs ls hP hS hl
  subst hx
  refine va_last hX.1 hX.2.1 hX.2.2.2.2.2.1 hP (jW_D hX.2.2.2.2.2.2.2.1 g M L) hS q 1 (jW_at hq) rfl (vp_in_nI hi hn) hd (fun H1 locs1 h1 _ hS1 => ?_)
  rw [nI_clamp (by omega), ← jUL_row] at h1
  have e := jW_set (a := a) (g := g) (M := M) (M' := M) (L := L) (L' := jUL L q i v) hq (fun _ _ => rfl) (fun k' h => (jUL_ne h).symm)
  rw [show jE a g M (jUL L q i v) q (jj n) = .inl (g 1, n, .inr (.inl (jUL L q i v q))) from rfl] at e
  rw [e] at h1
  exact k H1 locs1 ls h1 hS1 hl
theorem J_aald (hX : jX D a g G own cc nL fr lo) {t r : Nat} {js : List Nat} {x : Int32} {ty : FieldType} (q i : Nat) (hd : decode cc pc = .ok (.aaload, 1)) (hq : jCs[q]? = some (jr t js)) (ht : (jT g)[t]? = some (g t, ty)) (hty : ty.isReference = true) (hx : x = nI i) (hi : js[i]? = some r) (hn : js.length < 2 ^ 31) (k : J l D a g G nL M L (pc + 1) loc (.ref (a r) :: rest)) : J l D a g G nL M L pc loc (.int x :: .ref (a q) :: rest) := by
  intro H locs ls hP hS hl
  subst hx
  have hlt : i < js.length := (List.getElem?_eq_some_iff.mp hi).1
  have hc : H[a q]? = some (vp_cell (g t) (js.length, .inr (.inr (.inr (.inr (fun i => js[i]?.map a)))))) := hP q _ (jW_at hq)
  refine W.aald (v := .ref (a r)) (ty := ty) hX.1 hX.2.1 hc ((hX.2.2.2.2.2.1.2 t _ ht).1 js.length (fun j => va_rf (js[j]?.map a))) hty (fun q => by cases q) (by show ¬ (nI i < 0 ∨ (arrV _ _ _).slots.size ≤ _); rw [arrV_size]; exact vp_in_nI hlt hn) (by show (arrV _ _ _).slots[_]? = _; rw [nI_clamp (by omega), arrV_read _ _ hlt]; show some (va_rf (Option.map a js[i]?)) = _; rw [hi]; rfl) rfl rfl hd (k H locs ls hP hS hl)
theorem J_mmin (hX : jX D a g G own cc nL fr lo) {idx : Nat} {x y : Int32} (hd : decode cc pc = .ok (.invokestatic idx, 3)) (h1 : Cond.methodLink own idx Lib.Math.min.name ∈ wsL_law) (h2 : Cond.static Lib.Math.min.name ∈ wsL_law) (h3 : Cond.initialized "java/lang/Math" ∈ wsL_law) (h4 : Cond.code Lib.Math.min.name Lib.Math.min.code 2 (some .int) ∈ wsL_law) (hf : 1 ≤ fr) (ho : (rest.map fun v => v.category).sum + 13 ≤ lo) (k : J l D a g G nL M L (pc + 3) loc (.int (if y < x then y else x) :: rest)) : J l D a g G nL M L pc loc (.int y :: .int x :: rest) :=
  fun H locs ls hP hS hl => va_mmin hX.1 hX.2.1 (by rw [hl.1]; exact hX.2.2.1) hX.2.2.2.1 (hX.2.2.2.2.1 _ h1) (hX.2.2.2.2.1 _ h2) (hX.2.2.2.2.1 _ h3) (hX.2.2.2.2.1 _ h4) (by rw [hX.2.2.2.2.2.2.2.2.1]; exact hf) (by rw [hX.2.2.2.2.2.2.2.2.2.1]; exact ho) hX.2.2.2.2.2.2.2.2.2.2.1 hX.2.2.2.2.2.2.2.2.2.2.2 hd (k H locs ls hP hS hl)
theorem J_mmax (hX : jX D a g G own cc nL fr lo) {idx : Nat} {x y : Int32} (hd : decode cc pc = .ok (.invokestatic idx, 3)) (h1 : Cond.methodLink own idx Lib.Math.max.name ∈ wsL_law) (h2 : Cond.static Lib.Math.max.name ∈ wsL_law) (h3 : Cond.initialized "java/lang/Math" ∈ wsL_law) (h4 : Cond.code Lib.Math.max.name Lib.Math.max.code 2 (some .int) ∈ wsL_law) (hf : 1 ≤ fr) (ho : (rest.map fun v => v.category).sum + 13 ≤ lo) (k : J l D a g G nL M L (pc + 3) loc (.int (if x < y then y else x) :: rest)) : J l D a g G nL M L pc loc (.int y :: .int x :: rest) :=
  fun H locs ls hP hS hl => va_mmax hX.1 hX.2.1 (by rw [hl.1]; exact hX.2.2.1) hX.2.2.2.1 (hX.2.2.2.2.1 _ h1) (hX.2.2.2.2.1 _ h2) (hX.2.2.2.2.1 _ h3) (hX.2.2.2.2.1 _ h4) (by rw [hX.2.2.2.2.2.2.2.2.1]; exact hf) (by rw [hX.2.2.2.2.2.2.2.2.2.1]; exact ho) hX.2.2.2.2.2.2.2.2.2.2.1 hX.2.2.2.2.2.2.2.2.2.2.2 hd (k H locs ls hP hS hl)
theorem J_mmax_long (hX : jX D a g G own cc nL fr lo) {idx : Nat} {x y : Int64} (hd : decode cc pc = .ok (.invokestatic idx, 3)) (h1 : Cond.methodLink own idx Lib.MathLoose.max_long.x ∈ wsL_law) (h2 : Cond.static Lib.MathLoose.max_long.x ∈ wsL_law) (h3 : Cond.initialized "java/lang/Math" ∈ wsL_law) (h4 : Cond.code Lib.MathLoose.max_long.x Lib.MathLoose.max_long.code 4 (some .long) ∈ wsL_law) (hf : 1 ≤ fr) (ho : (rest.map fun v => v.category).sum + 15 ≤ lo) (k : J l D a g G nL M L (pc + 3) loc (.long (if y < x then x else y) :: rest)) : J l D a g G nL M L pc loc (.long y :: .long x :: rest) :=
  fun H locs ls hP hS hl => va_mmax_long hX.1 hX.2.1 (by rw [hl.1]; exact hX.2.2.1) hX.2.2.2.1 (hX.2.2.2.2.1 _ h1) (hX.2.2.2.2.1 _ h2) (hX.2.2.2.2.1 _ h3) (hX.2.2.2.2.1 _ h4) (by rw [hX.2.2.2.2.2.2.2.2.1]; exact hf) (by rw [hX.2.2.2.2.2.2.2.2.2.1]; exact ho) hX.2.2.2.2.2.2.2.2.2.2.1 hX.2.2.2.2.2.2.2.2.2.2.2 hd (k H locs ls hP hS hl)
/-- arraycopy of n ints, from place 0 to place 0 -/
def jCp (M : jM) (s t n : Nat) : jM := fun k i => if k = t ∧ i < n then M s i else M k i
theorem jCp_row {s t n : Nat} : jCp M s t n t = va_cpy (M s) (M t) 0 0 n := by
  funext i
  simp [jCp, va_cpy]
theorem jCp_ne {s t n k : Nat} (h : k ≠ t) : jCp M s t n k = M k := by
  funext i
  simp [jCp, h]
theorem J_copyi (hX : jX D a g G own cc nL fr lo) {idx n0 n1 n : Nat} {z : Int32} (s t : Nat) (hd : decode cc pc = .ok (.invokestatic idx, 3)) (h1 : Cond.methodLink own idx arraycopyName ∈ wsL_law) (h2 : Cond.native arraycopyName ∈ wsL_law) (h3 : Cond.static arraycopyName ∈ wsL_law) (h4 : Cond.initialized "java/lang/System" ∈ wsL_law) (hs : jCs[s]? = some (ji 0 n0)) (ht : jCs[t]? = some (ji 0 n1)) (hz : z = nI n) (hn0 : n ≤ n0) (hn1 : n ≤ n1) (hnn : n < 2 ^ 31) (hf : 1 ≤ fr) (ho : (rest.map fun v => v.category).sum + (nativeFrameWords "java/lang/System" "arraycopy" 5 + 11) ≤ lo)
    (k : J l D a g G nL (jCp M s t n) L (pc + 3) loc rest) : J l D a g G nL M L pc loc (.int z :: .int 0 :: .ref (a t) :: .int 0 :: .ref (a s) :: rest) := by
  intro H locs ls hP hS hl
  subst hz
  refine va_copyi hX.1 hX.2.1 (by rw [hl.1]; exact hX.2.2.1) hX.2.2.2.1 (hX.2.2.2.2.1 _ h1) (hX.2.2.2.2.1 _ h2) (hX.2.2.2.2.1 _ h3) (hX.2.2.2.2.1 _ h4) hX.2.2.2.2.2.1 hP (jW_D hX.2.2.2.2.2.2.2.1 g M L) hS s t 0 0 (ty := .int) (jW_at hs) (jW_at ht) rfl rfl rfl (by decide) (by decide) (nI_pos hnn) (by rw [nI_clamp hnn]; show 0 + n ≤ n0; omega) (by rw [nI_clamp hnn]; show 0 + n ≤ n1; omega) (fun _ _ => rfl) (by rw [hX.2.2.2.2.2.2.2.2.1]; exact hf) (by rw [hX.2.2.2.2.2.2.2.2.2.1]; exact ho) hd (fun H1 locs1 h1 _ hS1 => ?_)
  rw [nI_clamp hnn, show (0 : Int32).toNatClampNeg = 0 from rfl, ← jCp_row] at h1
  have e := jW_set (a := a) (g := g) (M := M) (M' := jCp M s t n) (L := L) (L' := L) ht (fun k' h => (jCp_ne h).symm) (fun _ _ => rfl)
  rw [show jE a g (jCp M s t n) L t (ji 0 n1) = .inl (g 0, n1, .inl (jCp M s t n t)) from rfl] at e
  rw [e] at h1
  exact k H1 locs1 ls h1 hS1 hl
theorem J_ret (hX : jX D a g G own cc nL fr lo) {ret : Option FieldType} {post : jPo} {v : Int32} (hZ : jZ D a g G ret post) (hd : decode cc pc = .ok (.ireturn, 1)) {ty : FieldType} (hr : ret = some ty) (hn : narrow ty (.int v) = .int v) (hp : post (some (.int v)) M L) : J l D a g G nL M L pc loc [.int v] := by
  intro H locs ls hP hS hl
  subst hr
  rw [hZ.2.2]
  exact W.zret hX.1 hX.2.1 hZ.1 hn (fun t ht hW => ⟨_, M, L, rfl, hp, by rw [ht]; exact hP, hS.F ht⟩) hS.2.2 hd hZ.2.1
theorem J_lret (hX : jX D a g G own cc nL fr lo) {post : jPo} {v : Int64} (hZ : jZ D a g G (some .long) post) (hd : decode cc pc = .ok (.lreturn, 1)) (hp : post (some (.long v)) M L) : J l D a g G nL M L pc loc [.long v] := by
  intro H locs ls hP hS hl
  rw [hZ.2.2]
  exact W.lret hX.1 hX.2.1 hZ.1 (fun t ht hW => ⟨_, M, L, rfl, hp, by rw [ht]; exact hP, hS.F ht⟩) hS.2.2 hd hZ.2.1
theorem J_vret (hX : jX D a g G own cc nL fr lo) {post : jPo} (hZ : jZ D a g G none post) (hd : decode cc pc = .ok (.return_, 1)) (hp : post none M L) : J l D a g G nL M L pc loc [] := by
  intro H locs ls hP hS hl
  rw [hZ.2.2]
  exact W.vret hX.1 hX.2.1 hZ.1 (fun t ht hW => ⟨_, M, L, rfl, hp, by rw [ht]; exact hP, hS.F ht⟩) hS.2.2 hd hZ.2.1
theorem J_cg {M' : jM} {L' : jL} {st st' : List Value} (h1 : M = M') (h2 : L = L') (h3 : loc = loc') (h4 : st = st') (k : J l D a g G nL M' L' pc loc' st') : J l D a g G nL M L pc loc st := by
  subst h1; subst h2; subst h3; subst h4
  exact k
/-- fewer locals, in another order -/
theorem J_sub (ks : List Nat) (h : lv_pick loc ks = loc') {st : List Value} (k : J l D a g G nL M L pc loc' st) : J l D a g G nL M L pc loc st :=
  fun H locs ls hP hS hl => k H locs ls hP hS (lv_sub hl ks h)
theorem J_topi {x y : Int32} (h : x = y) (k : J l D a g G nL M L pc loc (.int y :: rest)) : J l D a g G nL M L pc loc (.int x :: rest) := h ▸ k
theorem J_topl {x y : Int64} (h : x = y) (k : J l D a g G nL M L pc loc (.long y :: rest)) : J l D a g G nL M L pc loc (.long x :: rest) := h ▸ k

theorem jP_blind {av : List Value} : FrameBlind (jP D a g av M L) := by
  intro b U fr mk h
  obtain ⟨q0, qP, qK, qN, qI⟩ := h
  exact ⟨q0, qP, va_K.moved (u := U) (U := U.calling fr mk b) (Vm.Alike.refl U.vm) qK, jN.same (u := U) (U := U.calling fr mk b) rfl qN, qI⟩
theorem jGoodIn {w : Cond} (h : w ∈ wsL_law) : GoodIn wsL_law (w :: wsL_law) := fun z hz => by
  have hm : z ∈ wsL_law := (List.mem_cons.mp hz).elim (fun e => e ▸ h) id
  exact ⟨hm, good_of_word (jGood z hm)⟩
/-- the tables' words of a call -/
def jLv (own : String) (idx : Nat) (y : MethodName) (C : ByteArray) (n : Nat) (ret : Option FieldType) (np : Nat) : Prop :=
  Cond.methodLink own idx y ∈ wsL_law ∧ Cond.instanceMethod y ∈ wsL_law ∧ Cond.selects y.cls y y ∈ wsL_law ∧ Cond.initialized y.cls ∈ wsL_law ∧ Cond.code y C n ret ∈ wsL_law ∧ y.cls ≠ "java/lang/invoke/MethodHandle" ∧ y.cls ≠ "java/lang/invoke/VarHandle" ∧ (parseMethodDescriptor y.desc).map (fun d => d.parameters.length) = some np
def jLs (own : String) (idx : Nat) (y : MethodName) (C : ByteArray) (n : Nat) (ret : Option FieldType) (np : Nat) : Prop :=
  Cond.methodLink own idx y ∈ wsL_law ∧ Cond.static y ∈ wsL_law ∧ Cond.initialized y.cls ∈ wsL_law ∧ Cond.code y C n ret ∈ wsL_law ∧ y.cls ≠ "java/lang/invoke/MethodHandle" ∧ y.cls ≠ "java/lang/invoke/VarHandle" ∧ (parseMethodDescriptor y.desc).map (fun d => d.parameters.length) = some np
/-- of a nest mate's private static method: its link stands in jN -/
def jLn (y : MethodName) (C : ByteArray) (n : Nat) (ret : Option FieldType) (np : Nat) : Prop :=
  Cond.static y ∈ wsL_law ∧ Cond.initialized y.cls ∈ wsL_law ∧ Cond.code y C n ret ∈ wsL_law ∧ y.cls ≠ "java/lang/invoke/MethodHandle" ∧ y.cls ≠ "java/lang/invoke/VarHandle" ∧ (parseMethodDescriptor y.desc).map (fun d => d.parameters.length) = some np
theorem J_back {post : jPo} {av : Array Value} {H : Heap} {locs : List Loc} {ls : Array Slot} {st0 : List Value} (hr : va_Run (gp G) l (ge G) (gR G) (gs G) (gm G) (gar G) (gb G) (gme G) (gc G) H locs (gce G) (gsl G) 0 0 (F0 (gm G) pc ls st0) rest (jQ D a g post av) (jA a))
    (hS : va_S (jA a) (gs G).heap H locs) (hl : lv_has ls nL loc) (k : ∀ (rv : Option Value) (M1 : jM) (L1 : jL), post rv M1 L1 → J l D a g G nL M1 L1 (pc + 3) loc (rv.toList ++ rest)) : W (gp G) l (ge G) (gR G) (gs G) (gm G) (gar G) (gb G) (gme G) (gc G) H locs (gce G) (gsl G) (gQ G) (F0 (gm G) pc ls st0) := by
  intro T hT X
  obtain ⟨v, st₀, t, T', L2, h0, X', hL2, e1, e2, ⟨rv, M1, L1, hv, hpo, hp, hz, hk⟩, go⟩ := hr T hT X
  have hv' : v = rv := by cases hv; rfl
  subst hv'
  rw [h0] at hz hk
  obtain ⟨t2, a1, b1⟩ := k v M1 L1 hpo T'.heap (locs ++ L2) ls (by rw [e1]; exact hp) ⟨Nat.le_trans hS.1 (by rw [e1]; exact hz), fun q h1 h2 => by rw [e1, hk q (Nat.lt_of_lt_of_le h1 hS.1) h2]; exact hS.2.1 q h1 h2, fun q hq => by
      rcases List.mem_append.mp hq with h | h
      · exact hS.2.2 q h
      · exact hL2 q h⟩ hl T' rfl X'
  exact ⟨t2, go t2 a1, b1⟩
theorem J_callV (hX : jX D a g G own cc nL fr lo) {idx np n' fr' lo' ci : Nat} {y : MethodName} {C' : ByteArray} {ret' : Option FieldType} {post : jPo} {fs : List (Option Nat)} {T : u_T} {N : Nat} {st0 : List Value} (q : Nat) (As : List Value) (rest : List Value) (hd : decode cc pc = .ok (.invokevirtual idx, 3)) (hM : jV l D a g y C' n' ret' fr' lo' (.ref (a q) :: As) M L post) (hw : jLv own idx y C' n' ret' np)
    (hq : jCs[q]? = some (jo ci fs)) (hc : vwCl[ci]? = some (y.cls, T, N)) (hn : As.length = np) (hst0 : As.reverse ++ .ref (a q) :: rest = st0) (hsum : (rest.map fun v => v.category).sum ≤ 8) (hfr : fr' + 1 ≤ fr) (hlo : 8 + (n' + 11) + lo' ≤ lo)
    (k : ∀ (rv : Option Value) (M1 : jM) (L1 : jL), post rv M1 L1 → J l D a g G nL M1 L1 (pc + 3) loc (rv.toList ++ rest)) : J l D a g G nL M L pc loc st0 := by
  intro H locs ls hP hS hl
  subst hst0
  obtain ⟨w1, w2, w3, w4, w5, w6, w7, w8⟩ := hw
  have hts := hX.2.2.2.2.1
  have cb : CallB (gR G) (gs G) (gar G) own idx y C' n' ret' (.code y C' n' ret' :: wsL_law) ({ frames := fr', cells := 0, slots := 0, locals := lo' }) 0 0 np := callB_of np hts (jGoodIn w5) rfl rfl rfl (hts _ w4) (hts _ w1) ⟨w6, w7, w8⟩ ⟨by rw [hX.2.2.2.2.2.2.2.2.1]; exact hfr, by rw [hX.2.2.2.2.2.2.2.2.2.1]; exact hlo⟩
  exact J_back (va_runV (C := y.cls) (As := As) (rest := rest) ⟨hX.1, hX.2.1, hX.2.2.1, hX.2.2.2.1, hts⟩ hM ⟨cb, hts _ w2, hts _ w3⟩ ⟨jP_blind, va_recv hX.2.2.2.2.2.1 hP hc (jW_at hq), fun U hU hW => ⟨rfl, by rw [hU]; exact hP, va_K.moved hW.alike hX.2.2.2.2.2.1, jN.warm hW hX.2.2.2.2.2.2.1, hX.2.2.2.2.2.2.2.1⟩⟩ rfl hn hl.1 rfl (lv_room hsum) hd ⟨hX.2.2.2.2.2.2.2.2.2.2.1, hX.2.2.2.2.2.2.2.2.2.2.2⟩) hS hl k
theorem J_callS (hX : jX D a g G own cc nL fr lo) {idx np n' fr' lo' : Nat} {y : MethodName} {C' : ByteArray} {ret' : Option FieldType} {post : jPo} {st0 : List Value} (As : List Value) (rest : List Value) (hd : decode cc pc = .ok (.invokestatic idx, 3)) (hM : jV l D a g y C' n' ret' fr' lo' As M L post) (hw : jLs own idx y C' n' ret' np)
    (hn : As.length = np) (hst0 : As.reverse ++ rest = st0) (hsum : (rest.map fun v => v.category).sum ≤ 8) (hfr : fr' + 1 ≤ fr) (hlo : 8 + (n' + 11) + lo' ≤ lo)
    (k : ∀ (rv : Option Value) (M1 : jM) (L1 : jL), post rv M1 L1 → J l D a g G nL M1 L1 (pc + 3) loc (rv.toList ++ rest)) : J l D a g G nL M L pc loc st0 := by
  intro H locs ls hP hS hl
  subst hst0
  obtain ⟨w1, w2, w4, w5, w6, w7, w8⟩ := hw
  have hts := hX.2.2.2.2.1
  have cb : CallB (gR G) (gs G) (gar G) own idx y C' n' ret' (.code y C' n' ret' :: wsL_law) ({ frames := fr', cells := 0, slots := 0, locals := lo' }) 0 0 np := callB_of np hts (jGoodIn w5) rfl rfl rfl (hts _ w4) (hts _ w1) ⟨w6, w7, w8⟩ ⟨by rw [hX.2.2.2.2.2.2.2.2.1]; exact hfr, by rw [hX.2.2.2.2.2.2.2.2.2.1]; exact hlo⟩
  exact J_back (va_runS (As := As) (rest := rest) ⟨hX.1, hX.2.1, hX.2.2.1, hX.2.2.2.1, hts⟩ hM ⟨cb, hts _ w2⟩ ⟨jP_blind, fun U hU hW => ⟨rfl, by rw [hU]; exact hP, va_K.moved hW.alike hX.2.2.2.2.2.1, jN.warm hW hX.2.2.2.2.2.2.1, hX.2.2.2.2.2.2.2.1⟩⟩ rfl hn hl.1 rfl (lv_room hsum) hd ⟨hX.2.2.2.2.2.2.2.2.2.2.1, hX.2.2.2.2.2.2.2.2.2.2.2⟩) hS hl k
theorem J_callN (hX : jX D a g G own cc nL fr lo) {idx np n' fr' lo' : Nat} {y : MethodName} {host : String} {C' : ByteArray} {ret' : Option FieldType} {post : jPo} {st0 : List Value} (As : List Value) (rest : List Value) (hd : decode cc pc = .ok (.invokestatic idx, 3)) (hM : jV l D a g y C' n' ret' fr' lo' As M L post) (hw : jLn y C' n' ret' np) (hlk : va_Nw (.methodLinkNest own idx y host) (gs G))
    (hn : As.length = np) (hst0 : As.reverse ++ rest = st0) (hsum : (rest.map fun v => v.category).sum ≤ 8) (hfr : fr' + 1 ≤ fr) (hlo : 8 + (n' + 11) + lo' ≤ lo)
    (k : ∀ (rv : Option Value) (M1 : jM) (L1 : jL), post rv M1 L1 → J l D a g G nL M1 L1 (pc + 3) loc (rv.toList ++ rest)) : J l D a g G nL M L pc loc st0 := by
  intro H locs ls hP hS hl
  subst hst0
  obtain ⟨w2, w4, w5, w6, w7, w8⟩ := hw
  have hts := hX.2.2.2.2.1
  have cb : va_CN (gR G) (gs G) (gar G) own idx y host C' n' ret' (.code y C' n' ret' :: wsL_law) ({ frames := fr', cells := 0, slots := 0, locals := lo' }) 0 0 np := va_cnB np hts (jGoodIn w5) rfl rfl rfl hlk (hts _ w4) ⟨w6, w7, w8⟩ ⟨by rw [hX.2.2.2.2.2.2.2.2.1]; exact hfr, by rw [hX.2.2.2.2.2.2.2.2.2.1]; exact hlo⟩
  exact J_back (va_runSN (As := As) (rest := rest) ⟨hX.1, hX.2.1, hX.2.2.1, hX.2.2.2.1, hts⟩ hM ⟨cb, hts _ w2, trivial⟩ ⟨jP_blind, fun U hU hW => ⟨rfl, by rw [hU]; exact hP, va_K.moved hW.alike hX.2.2.2.2.2.1, jN.warm hW hX.2.2.2.2.2.2.1, hX.2.2.2.2.2.2.2.1⟩⟩ rfl hn hl.1 rfl (lv_room hsum) hd ⟨hX.2.2.2.2.2.2.2.2.2.2.1, hX.2.2.2.2.2.2.2.2.2.2.2⟩) hS hl k
/-- behind a call whose contract tells answer and memories -/
theorem J_eq {rv : Option Value} {M1 : jM} {L1 : jL} {st : List Value} (hst : rv.toList ++ rest = st) (k : J l D a g G nL M1 L1 pc loc st) : ∀ (rv' : Option Value) (M' : jM) (L' : jL), jEq rv M1 L1 rv' M' L' → J l D a g G nL M' L' pc loc (rv'.toList ++ rest) := by
  rintro rv' M' L' ⟨rfl, rfl, rfl⟩
  rw [hst]
  exact k
def jB (p : Prop) [Decidable p] : Int32 := if p then 1 else 0
theorem J_ifB_ne (hX : jX D a g G own cc nL fr lo) {p : Prop} [Decidable p] {off : Int} (tgt : Nat) (hd : decode cc pc = .ok (.ifCond .ne off, 3)) (ht : (pc : Int) + off = (tgt : Int)) (kt : p → J l D a g G nL M L tgt loc rest) (kf : ¬ p → J l D a g G nL M L (pc + 3) loc rest) : J l D a g G nL M L pc loc (.int (jB p) :: rest) :=
  J_if_ne hX tgt hd ht (fun h => kt (by by_cases q : p; exact q; simp [jB, q] at h)) (fun h => kf (fun q => by simp [jB, q] at h))
theorem J_ifB_eq (hX : jX D a g G own cc nL fr lo) {p : Prop} [Decidable p] {off : Int} (tgt : Nat) (hd : decode cc pc = .ok (.ifCond .eq off, 3)) (ht : (pc : Int) + off = (tgt : Int)) (kt : ¬ p → J l D a g G nL M L tgt loc rest) (kf : p → J l D a g G nL M L (pc + 3) loc rest) : J l D a g G nL M L pc loc (.int (jB p) :: rest) :=
  J_if_eq hX tgt hd ht (fun h => kt (fun q => by simp [jB, q] at h)) (fun h => kf (by by_cases q : p; exact q; simp [jB, q] at h))
end JR
