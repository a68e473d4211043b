section ZR
variable {cl : List vw_C} {ats : List FieldType} {nw : State → Prop} {TB : List Cond} {G : z_G} {own : String} {cc : ByteArray} {nL : Nat} {R0 : Room} {X : z_X} {Q : State → Prop} {cells slots pc : Nat} {lv : List (Nat × Value)} {st : List Value} {h : z_H}
theorem z_iconst (F : z_F cl ats nw TB G own cc nL R0 X) {n : Int} {v : Int32} (hd : decode cc pc = .ok (.iconst n, 1)) (hv : Int32.ofInt n = v) (k : z_V cl G nL X Q cells slots (pc + 1) lv (.int v :: st) h) : z_V cl G nL X Q cells slots pc lv (st) h :=
  fun H locs ls a b d => lv_iconst F.1 F.2.1 hd hv (k H locs ls a b d)
theorem z_bipush (F : z_F cl ats nw TB G own cc nL R0 X) {n : Int} {v : Int32} (hd : decode cc pc = .ok (.bipush n, 2)) (hv : (Int8.ofInt n).toInt32 = v) (k : z_V cl G nL X Q cells slots (pc + 2) lv (.int v :: st) h) : z_V cl G nL X Q cells slots pc lv (st) h :=
  fun H locs ls a b d => lv_bipush F.1 F.2.1 hd hv (k H locs ls a b d)
theorem z_sipush (F : z_F cl ats nw TB G own cc nL R0 X) {n : Int} {v : Int32} (hd : decode cc pc = .ok (.sipush n, 3)) (hv : (Int16.ofInt n).toInt32 = v) (k : z_V cl G nL X Q cells slots (pc + 3) lv (.int v :: st) h) : z_V cl G nL X Q cells slots pc lv (st) h :=
  fun H locs ls a b d => lv_sipush F.1 F.2.1 hd hv (k H locs ls a b d)
theorem z_lconst (F : z_F cl ats nw TB G own cc nL R0 X) {n : Fin 2} {v : Int64} (hd : decode cc pc = .ok (.lconst n, 1)) (hv : Int64.ofNat (n : Nat) = v) (k : z_V cl G nL X Q cells slots (pc + 1) lv (.long v :: st) h) : z_V cl G nL X Q cells slots pc lv (st) h :=
  fun H locs ls a b d => lv_lconst F.1 F.2.1 hd hv (k H locs ls a b d)
theorem z_null (F : z_F cl ats nw TB G own cc nL R0 X) (hd : decode cc pc = .ok (.aconst_null, 1)) (k : z_V cl G nL X Q cells slots (pc + 1) lv (.null :: st) h) : z_V cl G nL X Q cells slots pc lv (st) h :=
  fun H locs ls a b d => lv_null F.1 F.2.1 hd (k H locs ls a b d)
theorem z_ldc (F : z_F cl ats nw TB G own cc nL R0 X) {idx : Nat} {v : Int32} (hw : Cond.constant own idx v ∈ TB) (hd : decode cc pc = .ok (.ldc idx, 2)) (k : z_V cl G nL X Q cells slots (pc + 2) lv (.int v :: st) h) : z_V cl G nL X Q cells slots pc lv st h :=
  fun H locs ls a b d => lv_ldc F.1 F.2.1 F.own (F.wd _ hw) hd (k H locs ls a b d)
theorem z_ldc2 (F : z_F cl ats nw TB G own cc nL R0 X) {idx : Nat} {v : Int64} (hw : Cond.constantLong own idx v ∈ TB) (hd : decode cc pc = .ok (.ldc2_w idx, 3)) (k : z_V cl G nL X Q cells slots (pc + 3) lv (.long v :: st) h) : z_V cl G nL X Q cells slots pc lv st h :=
  fun H locs ls a b d => lv_ldc2 F.1 F.2.1 F.own (F.wd _ hw) hd (k H locs ls a b d)
theorem z_iload_n (F : z_F cl ats nw TB G own cc nL R0 X) {n : Fin 4} {x : Int32} (hd : decode cc pc = .ok (.iload_n n, 1)) (hl : z_at lv n = some (.int x)) (k : z_V cl G nL X Q cells slots (pc + 1) lv (.int x :: st) h) : z_V cl G nL X Q cells slots pc lv st h :=
  fun H locs ls a b d => lv_iload_n F.1 F.2.1 hd rfl (z_atL d hl) (k H locs ls a b d)
theorem z_iload (F : z_F cl ats nw TB G own cc nL R0 X) {n : Nat} {x : Int32} (hd : decode cc pc = .ok (.iload n, 2)) (hl : z_at lv n = some (.int x)) (k : z_V cl G nL X Q cells slots (pc + 2) lv (.int x :: st) h) : z_V cl G nL X Q cells slots pc lv st h :=
  fun H locs ls a b d => lv_iload F.1 F.2.1 hd (z_atL d hl) (k H locs ls a b d)
theorem z_lload_n (F : z_F cl ats nw TB G own cc nL R0 X) {n : Fin 4} {x : Int64} (hd : decode cc pc = .ok (.lload_n n, 1)) (hl : z_at lv n = some (.long x)) (k : z_V cl G nL X Q cells slots (pc + 1) lv (.long x :: st) h) : z_V cl G nL X Q cells slots pc lv st h :=
  fun H locs ls a b d => lv_lload_n F.1 F.2.1 hd rfl (z_atL d hl) (k H locs ls a b d)
theorem z_lload (F : z_F cl ats nw TB G own cc nL R0 X) {n : Nat} {x : Int64} (hd : decode cc pc = .ok (.lload n, 2)) (hl : z_at lv n = some (.long x)) (k : z_V cl G nL X Q cells slots (pc + 2) lv (.long x :: st) h) : z_V cl G nL X Q cells slots pc lv st h :=
  fun H locs ls a b d => lv_lload F.1 F.2.1 hd (z_atL d hl) (k H locs ls a b d)
theorem z_aload_n (F : z_F cl ats nw TB G own cc nL R0 X) {n : Fin 4} {v : Value} (hd : decode cc pc = .ok (.aload_n n, 1)) (hl : z_at lv n = some v) (hv : z_isR v = true) (k : z_V cl G nL X Q cells slots (pc + 1) lv (v :: st) h) : z_V cl G nL X Q cells slots pc lv st h :=
  fun H locs ls a b d => by
    cases v <;> first | exact Bool.noConfusion (show false = true from hv) | exact lv_aload_n F.1 F.2.1 hd rfl (z_atL d hl) (k H locs ls a b d) | exact lv_aload_nN F.1 F.2.1 hd rfl (z_atL d hl) (k H locs ls a b d)
theorem z_aload (F : z_F cl ats nw TB G own cc nL R0 X) {n : Nat} {v : Value} (hd : decode cc pc = .ok (.aload n, 2)) (hl : z_at lv n = some v) (hv : z_isR v = true) (k : z_V cl G nL X Q cells slots (pc + 2) lv (v :: st) h) : z_V cl G nL X Q cells slots pc lv st h :=
  fun H locs ls a b d => by
    cases v <;> first | exact Bool.noConfusion (show false = true from hv) | exact lv_aload F.1 F.2.1 hd (z_atL d hl) (k H locs ls a b d) | exact lv_aloadN F.1 F.2.1 hd (z_atL d hl) (k H locs ls a b d)
theorem z_istore_n (F : z_F cl ats nw TB G own cc nL R0 X) {n : Fin 4} {x : Int32} (hd : decode cc pc = .ok (.istore_n n, 1)) (hn : (n : Nat) < nL) (k : z_V cl G nL X Q cells slots (pc + 1) (z_st lv n (.int x)) st h) : z_V cl G nL X Q cells slots pc lv (.int x :: st) h :=
  fun H locs ls a b d => lv_istore_n F.1 F.2.1 hd rfl d hn rfl (fun ls' d' => k H locs ls' a b (z_st1 d' rfl rfl))
theorem z_lstore_n (F : z_F cl ats nw TB G own cc nL R0 X) {n : Fin 4} {x : Int64} (hd : decode cc pc = .ok (.lstore_n n, 1)) (hn : (n : Nat) + 1 < nL) (k : z_V cl G nL X Q cells slots (pc + 1) (z_st lv n (.long x)) st h) : z_V cl G nL X Q cells slots pc lv (.long x :: st) h :=
  fun H locs ls a b d => lv_lstore_n F.1 F.2.1 hd rfl d hn rfl (fun ls' d' => k H locs ls' a b (z_st2 d' rfl rfl))
theorem z_astore_n (F : z_F cl ats nw TB G own cc nL R0 X) {n : Fin 4} {v : Value} (hd : decode cc pc = .ok (.astore_n n, 1)) (hv : z_isR v = true) (hn : (n : Nat) < nL) (k : z_V cl G nL X Q cells slots (pc + 1) (z_st lv n v) st h) : z_V cl G nL X Q cells slots pc lv (v :: st) h :=
  fun H locs ls a b d => by
    cases v <;> first | exact Bool.noConfusion (show false = true from hv) | exact lv_astore_n F.1 F.2.1 hd rfl d hn rfl (fun ls' d' => k H locs ls' a b (z_st1 d' rfl rfl)) | exact lv_astore_nN F.1 F.2.1 hd rfl d hn rfl (fun ls' d' => k H locs ls' a b (z_st1 d' rfl rfl))
theorem z_istore (F : z_F cl ats nw TB G own cc nL R0 X) {n : Nat} {x : Int32} (hd : decode cc pc = .ok (.istore n, 2)) (hn : (n : Nat) < nL) (k : z_V cl G nL X Q cells slots (pc + 2) (z_st lv n (.int x)) st h) : z_V cl G nL X Q cells slots pc lv (.int x :: st) h :=
  fun H locs ls a b d => lv_istore F.1 F.2.1 hd d hn rfl (fun ls' d' => k H locs ls' a b (z_st1 d' rfl rfl))
theorem z_lstore (F : z_F cl ats nw TB G own cc nL R0 X) {n : Nat} {x : Int64} (hd : decode cc pc = .ok (.lstore n, 2)) (hn : (n : Nat) + 1 < nL) (k : z_V cl G nL X Q cells slots (pc + 2) (z_st lv n (.long x)) st h) : z_V cl G nL X Q cells slots pc lv (.long x :: st) h :=
  fun H locs ls a b d => lv_lstore F.1 F.2.1 hd d hn rfl (fun ls' d' => k H locs ls' a b (z_st2 d' rfl rfl))
theorem z_astore (F : z_F cl ats nw TB G own cc nL R0 X) {n : Nat} {v : Value} (hd : decode cc pc = .ok (.astore n, 2)) (hv : z_isR v = true) (hn : (n : Nat) < nL) (k : z_V cl G nL X Q cells slots (pc + 2) (z_st lv n v) st h) : z_V cl G nL X Q cells slots pc lv (v :: st) h :=
  fun H locs ls a b d => by
    cases v <;> first | exact Bool.noConfusion (show false = true from hv) | exact lv_astore F.1 F.2.1 hd d hn rfl (fun ls' d' => k H locs ls' a b (z_st1 d' rfl rfl)) | exact lv_astoreN F.1 F.2.1 hd d hn rfl (fun ls' d' => k H locs ls' a b (z_st1 d' rfl rfl))
theorem z_iinc (F : z_F cl ats nw TB G own cc nL R0 X) {i : Nat} {n : Int} {x w : Int32} (hd : decode cc pc = .ok (.iinc i n, 3)) (hl : z_at lv i = some (.int x)) (hv : Int32.ofInt n = w) (hn : i < nL) (k : z_V cl G nL X Q cells slots (pc + 3) (z_st lv i (.int (x + w))) st h) : z_V cl G nL X Q cells slots pc lv st h :=
  fun H locs ls a b d => by
    subst hv
    obtain ⟨j, hj⟩ := z_atI (G := G) hl
    exact lv_iinc F.1 F.2.1 hd d hj rfl hn rfl (fun ls' d' => k H locs ls' a b (z_st1 d' rfl rfl))
theorem z_iadd (F : z_F cl ats nw TB G own cc nL R0 X) {x y : Int32} (hd : decode cc pc = .ok (.iadd, 1)) (k : z_V cl G nL X Q cells slots (pc + 1) lv (.int (x + y) :: st) h) : z_V cl G nL X Q cells slots pc lv (.int y :: .int x :: st) h :=
  fun H locs ls a b d => lv_iadd F.1 F.2.1 hd (k H locs ls a b d)
theorem z_isub (F : z_F cl ats nw TB G own cc nL R0 X) {x y : Int32} (hd : decode cc pc = .ok (.isub, 1)) (k : z_V cl G nL X Q cells slots (pc + 1) lv (.int (x - y) :: st) h) : z_V cl G nL X Q cells slots pc lv (.int y :: .int x :: st) h :=
  fun H locs ls a b d => lv_isub F.1 F.2.1 hd (k H locs ls a b d)
theorem z_imul (F : z_F cl ats nw TB G own cc nL R0 X) {x y : Int32} (hd : decode cc pc = .ok (.imul, 1)) (k : z_V cl G nL X Q cells slots (pc + 1) lv (.int (x * y) :: st) h) : z_V cl G nL X Q cells slots pc lv (.int y :: .int x :: st) h :=
  fun H locs ls a b d => lv_imul F.1 F.2.1 hd (k H locs ls a b d)
theorem z_iand (F : z_F cl ats nw TB G own cc nL R0 X) {x y : Int32} (hd : decode cc pc = .ok (.iand, 1)) (k : z_V cl G nL X Q cells slots (pc + 1) lv (.int (x &&& y) :: st) h) : z_V cl G nL X Q cells slots pc lv (.int y :: .int x :: st) h :=
  fun H locs ls a b d => lv_iand F.1 F.2.1 hd (k H locs ls a b d)
theorem z_ior (F : z_F cl ats nw TB G own cc nL R0 X) {x y : Int32} (hd : decode cc pc = .ok (.ior, 1)) (k : z_V cl G nL X Q cells slots (pc + 1) lv (.int (x ||| y) :: st) h) : z_V cl G nL X Q cells slots pc lv (.int y :: .int x :: st) h :=
  fun H locs ls a b d => lv_ior F.1 F.2.1 hd (k H locs ls a b d)
theorem z_ixor (F : z_F cl ats nw TB G own cc nL R0 X) {x y : Int32} (hd : decode cc pc = .ok (.ixor, 1)) (k : z_V cl G nL X Q cells slots (pc + 1) lv (.int (x ^^^ y) :: st) h) : z_V cl G nL X Q cells slots pc lv (.int y :: .int x :: st) h :=
  fun H locs ls a b d => lv_ixor F.1 F.2.1 hd (k H locs ls a b d)
theorem z_ishl (F : z_F cl ats nw TB G own cc nL R0 X) {x y : Int32} (hd : decode cc pc = .ok (.ishl, 1)) (k : z_V cl G nL X Q cells slots (pc + 1) lv (.int (x <<< (y &&& 31)) :: st) h) : z_V cl G nL X Q cells slots pc lv (.int y :: .int x :: st) h :=
  fun H locs ls a b d => lv_ishl F.1 F.2.1 hd (k H locs ls a b d)
theorem z_ishr (F : z_F cl ats nw TB G own cc nL R0 X) {x y : Int32} (hd : decode cc pc = .ok (.ishr, 1)) (k : z_V cl G nL X Q cells slots (pc + 1) lv (.int (x >>> (y &&& 31)) :: st) h) : z_V cl G nL X Q cells slots pc lv (.int y :: .int x :: st) h :=
  fun H locs ls a b d => lv_ishr F.1 F.2.1 hd (k H locs ls a b d)
theorem z_iushr (F : z_F cl ats nw TB G own cc nL R0 X) {x y : Int32} (hd : decode cc pc = .ok (.iushr, 1)) (k : z_V cl G nL X Q cells slots (pc + 1) lv (.int ((x.toUInt32 >>> (y.toUInt32 &&& Int32.toUInt32 31)).toInt32) :: st) h) : z_V cl G nL X Q cells slots pc lv (.int y :: .int x :: st) h :=
  fun H locs ls a b d => lv_iushr F.1 F.2.1 hd rfl (k H locs ls a b d)
theorem z_ladd (F : z_F cl ats nw TB G own cc nL R0 X) {x y : Int64} (hd : decode cc pc = .ok (.ladd, 1)) (k : z_V cl G nL X Q cells slots (pc + 1) lv (.long (x + y) :: st) h) : z_V cl G nL X Q cells slots pc lv (.long y :: .long x :: st) h :=
  fun H locs ls a b d => lv_ladd F.1 F.2.1 hd (k H locs ls a b d)
theorem z_lsub (F : z_F cl ats nw TB G own cc nL R0 X) {x y : Int64} (hd : decode cc pc = .ok (.lsub, 1)) (k : z_V cl G nL X Q cells slots (pc + 1) lv (.long (x - y) :: st) h) : z_V cl G nL X Q cells slots pc lv (.long y :: .long x :: st) h :=
  fun H locs ls a b d => lv_lsub F.1 F.2.1 hd (k H locs ls a b d)
theorem z_lmul (F : z_F cl ats nw TB G own cc nL R0 X) {x y : Int64} (hd : decode cc pc = .ok (.lmul, 1)) (k : z_V cl G nL X Q cells slots (pc + 1) lv (.long (x * y) :: st) h) : z_V cl G nL X Q cells slots pc lv (.long y :: .long x :: st) h :=
  fun H locs ls a b d => lv_lmul F.1 F.2.1 hd (k H locs ls a b d)
theorem z_land (F : z_F cl ats nw TB G own cc nL R0 X) {x y : Int64} (hd : decode cc pc = .ok (.land, 1)) (k : z_V cl G nL X Q cells slots (pc + 1) lv (.long (x &&& y) :: st) h) : z_V cl G nL X Q cells slots pc lv (.long y :: .long x :: st) h :=
  fun H locs ls a b d => lv_land F.1 F.2.1 hd (k H locs ls a b d)
theorem z_lor (F : z_F cl ats nw TB G own cc nL R0 X) {x y : Int64} (hd : decode cc pc = .ok (.lor, 1)) (k : z_V cl G nL X Q cells slots (pc + 1) lv (.long (x ||| y) :: st) h) : z_V cl G nL X Q cells slots pc lv (.long y :: .long x :: st) h :=
  fun H locs ls a b d => lv_lor F.1 F.2.1 hd (k H locs ls a b d)
theorem z_lxor (F : z_F cl ats nw TB G own cc nL R0 X) {x y : Int64} (hd : decode cc pc = .ok (.lxor, 1)) (k : z_V cl G nL X Q cells slots (pc + 1) lv (.long (x ^^^ y) :: st) h) : z_V cl G nL X Q cells slots pc lv (.long y :: .long x :: st) h :=
  fun H locs ls a b d => lv_lxor F.1 F.2.1 hd (k H locs ls a b d)
theorem z_lshl (F : z_F cl ats nw TB G own cc nL R0 X) {x : Int64} {y : Int32} (hd : decode cc pc = .ok (.lshl, 1)) (k : z_V cl G nL X Q cells slots (pc + 1) lv (.long (x <<< (y.toInt64 &&& 63)) :: st) h) : z_V cl G nL X Q cells slots pc lv (.int y :: .long x :: st) h :=
  fun H locs ls a b d => lv_lshl F.1 F.2.1 hd rfl (k H locs ls a b d)
theorem z_lshr (F : z_F cl ats nw TB G own cc nL R0 X) {x : Int64} {y : Int32} (hd : decode cc pc = .ok (.lshr, 1)) (k : z_V cl G nL X Q cells slots (pc + 1) lv (.long (x >>> (y.toInt64 &&& 63)) :: st) h) : z_V cl G nL X Q cells slots pc lv (.int y :: .long x :: st) h :=
  fun H locs ls a b d => lv_lshr F.1 F.2.1 hd rfl (k H locs ls a b d)
theorem z_lushr (F : z_F cl ats nw TB G own cc nL R0 X) {x : Int64} {y : Int32} (hd : decode cc pc = .ok (.lushr, 1)) (k : z_V cl G nL X Q cells slots (pc + 1) lv (.long ((x.toUInt64 >>> (y.toInt64.toUInt64 &&& Int64.toUInt64 63)).toInt64) :: st) h) : z_V cl G nL X Q cells slots pc lv (.int y :: .long x :: st) h :=
  fun H locs ls a b d => lv_lushr F.1 F.2.1 hd rfl (k H locs ls a b d)
theorem z_irem (F : z_F cl ats nw TB G own cc nL R0 X) {x y : Int32} (hd : decode cc pc = .ok (.irem, 1)) (hy : ¬ y = 0) (k : z_V cl G nL X Q cells slots (pc + 1) lv (.int (x - x / y * y) :: st) h) : z_V cl G nL X Q cells slots pc lv (.int y :: .int x :: st) h :=
  fun H locs ls a b d => lv_irem F.1 F.2.1 hd hy (k H locs ls a b d)
theorem z_lcmp (F : z_F cl ats nw TB G own cc nL R0 X) {x y : Int64} (hd : decode cc pc = .ok (.lcmp, 1)) (k : z_V cl G nL X Q cells slots (pc + 1) lv (.int (lg_cmp x y) :: st) h) : z_V cl G nL X Q cells slots pc lv (.long y :: .long x :: st) h :=
  fun H locs ls a b d => W.lcmp F.1 F.2.1 hd (k H locs ls a b d)
theorem z_ineg (F : z_F cl ats nw TB G own cc nL R0 X) {x : Int32} (hd : decode cc pc = .ok (.ineg, 1)) (k : z_V cl G nL X Q cells slots (pc + 1) lv (.int (-x) :: st) h) : z_V cl G nL X Q cells slots pc lv (.int x :: st) h :=
  fun H locs ls a b d => lv_ineg F.1 F.2.1 hd (k H locs ls a b d)
theorem z_lneg (F : z_F cl ats nw TB G own cc nL R0 X) {x : Int64} (hd : decode cc pc = .ok (.lneg, 1)) (k : z_V cl G nL X Q cells slots (pc + 1) lv (.long (-x) :: st) h) : z_V cl G nL X Q cells slots pc lv (.long x :: st) h :=
  fun H locs ls a b d => lv_lneg F.1 F.2.1 hd (k H locs ls a b d)
theorem z_i2l (F : z_F cl ats nw TB G own cc nL R0 X) {x : Int32} (hd : decode cc pc = .ok (.i2l, 1)) (k : z_V cl G nL X Q cells slots (pc + 1) lv (.long x.toInt64 :: st) h) : z_V cl G nL X Q cells slots pc lv (.int x :: st) h :=
  fun H locs ls a b d => lv_i2l F.1 F.2.1 hd rfl (k H locs ls a b d)
theorem z_l2i (F : z_F cl ats nw TB G own cc nL R0 X) {x : Int64} (hd : decode cc pc = .ok (.l2i, 1)) (k : z_V cl G nL X Q cells slots (pc + 1) lv (.int x.toInt32 :: st) h) : z_V cl G nL X Q cells slots pc lv (.long x :: st) h :=
  fun H locs ls a b d => lv_l2i F.1 F.2.1 hd rfl (k H locs ls a b d)
theorem z_i2b (F : z_F cl ats nw TB G own cc nL R0 X) {x : Int32} (hd : decode cc pc = .ok (.i2b, 1)) (k : z_V cl G nL X Q cells slots (pc + 1) lv (.int x.toInt8.toInt32 :: st) h) : z_V cl G nL X Q cells slots pc lv (.int x :: st) h :=
  fun H locs ls a b d => lv_i2b F.1 F.2.1 hd rfl (k H locs ls a b d)
theorem z_dup (F : z_F cl ats nw TB G own cc nL R0 X) {u : Value} (hd : decode cc pc = .ok (.dup, 1)) (hu : u.category = 1) (k : z_V cl G nL X Q cells slots (pc + 1) lv (u :: u :: st) h) : z_V cl G nL X Q cells slots pc lv (u :: st) h :=
  fun H locs ls a b d => lv_dup F.1 F.2.1 hd ((z_v_cat G u).trans hu) (k H locs ls a b d)
theorem z_pop (F : z_F cl ats nw TB G own cc nL R0 X) {u : Value} (hd : decode cc pc = .ok (.pop, 1)) (hu : u.category = 1) (k : z_V cl G nL X Q cells slots (pc + 1) lv (st) h) : z_V cl G nL X Q cells slots pc lv (u :: st) h :=
  fun H locs ls a b d => lv_pop F.1 F.2.1 hd ((z_v_cat G u).trans hu) (k H locs ls a b d)
theorem z_dup_x1 (F : z_F cl ats nw TB G own cc nL R0 X) {u w : Value} (hd : decode cc pc = .ok (.dup_x1, 1)) (hu : u.category = 1) (hw : w.category = 1) (k : z_V cl G nL X Q cells slots (pc + 1) lv (u :: w :: u :: st) h) : z_V cl G nL X Q cells slots pc lv (u :: w :: st) h :=
  fun H locs ls a b d => lv_dup_x1 F.1 F.2.1 hd ((z_v_cat G u).trans hu) ((z_v_cat G w).trans hw) (k H locs ls a b d)
theorem z_dup_x2 (F : z_F cl ats nw TB G own cc nL R0 X) {u w z : Value} (hd : decode cc pc = .ok (.dup_x2, 1)) (hu : u.category = 1) (hw : w.category = 1) (hz : z.category = 1) (k : z_V cl G nL X Q cells slots (pc + 1) lv (u :: w :: z :: u :: st) h) : z_V cl G nL X Q cells slots pc lv (u :: w :: z :: st) h :=
  fun H locs ls a b d => lv_dup_x2 F.1 F.2.1 hd ((z_v_cat G u).trans hu) ((z_v_cat G w).trans hw) ((z_v_cat G z).trans hz) (k H locs ls a b d)
theorem z_dup2 (F : z_F cl ats nw TB G own cc nL R0 X) {u w : Value} (hd : decode cc pc = .ok (.dup2, 1)) (hu : u.category = 1) (hw : w.category = 1) (k : z_V cl G nL X Q cells slots (pc + 1) lv (u :: w :: u :: w :: st) h) : z_V cl G nL X Q cells slots pc lv (u :: w :: st) h :=
  fun H locs ls a b d => lv_dup2_11 F.1 F.2.1 hd ((z_v_cat G u).trans hu) ((z_v_cat G w).trans hw) (k H locs ls a b d)
theorem z_pop2 (F : z_F cl ats nw TB G own cc nL R0 X) {u : Value} (hd : decode cc pc = .ok (.pop2, 1)) (hu : u.category = 2) (k : z_V cl G nL X Q cells slots (pc + 1) lv (st) h) : z_V cl G nL X Q cells slots pc lv (u :: st) h :=
  fun H locs ls a b d => lv_pop2_2 F.1 F.2.1 hd ((z_v_cat G u).trans hu) (k H locs ls a b d)
theorem z_if_eq (F : z_F cl ats nw TB G own cc nL R0 X) {x : Int32} {off : Int} {tgt : Nat} (hd : decode cc pc = .ok (.ifCond .eq off, 3)) (ht : (pc : Int) + off = (tgt : Int)) (kt : x = 0 → z_V cl G nL X Q cells slots tgt lv st h) (kf : ¬ x = 0 → z_V cl G nL X Q cells slots (pc + 3) lv st h) : z_V cl G nL X Q cells slots pc lv (.int x :: st) h :=
  fun H locs ls a b d => lv_if_eq F.1 F.2.1 hd ht (fun q => kt q H locs ls a b d) (fun q => kf q H locs ls a b d)
theorem z_icmp_eq (F : z_F cl ats nw TB G own cc nL R0 X) {x y : Int32} {off : Int} {tgt : Nat} (hd : decode cc pc = .ok (.if_icmp .eq off, 3)) (ht : (pc : Int) + off = (tgt : Int)) (kt : x = y → z_V cl G nL X Q cells slots tgt lv st h) (kf : ¬ x = y → z_V cl G nL X Q cells slots (pc + 3) lv st h) : z_V cl G nL X Q cells slots pc lv (.int y :: .int x :: st) h :=
  fun H locs ls a b d => lv_icmp_eq F.1 F.2.1 hd ht (fun q => kt q H locs ls a b d) (fun q => kf q H locs ls a b d)
theorem z_if_ne (F : z_F cl ats nw TB G own cc nL R0 X) {x : Int32} {off : Int} {tgt : Nat} (hd : decode cc pc = .ok (.ifCond .ne off, 3)) (ht : (pc : Int) + off = (tgt : Int)) (kt : ¬ x = 0 → z_V cl G nL X Q cells slots tgt lv st h) (kf : x = 0 → z_V cl G nL X Q cells slots (pc + 3) lv st h) : z_V cl G nL X Q cells slots pc lv (.int x :: st) h :=
  fun H locs ls a b d => lv_if_ne F.1 F.2.1 hd ht (fun q => kt q H locs ls a b d) (fun q => kf q H locs ls a b d)
theorem z_icmp_ne (F : z_F cl ats nw TB G own cc nL R0 X) {x y : Int32} {off : Int} {tgt : Nat} (hd : decode cc pc = .ok (.if_icmp .ne off, 3)) (ht : (pc : Int) + off = (tgt : Int)) (kt : ¬ x = y → z_V cl G nL X Q cells slots tgt lv st h) (kf : x = y → z_V cl G nL X Q cells slots (pc + 3) lv st h) : z_V cl G nL X Q cells slots pc lv (.int y :: .int x :: st) h :=
  fun H locs ls a b d => lv_icmp_ne F.1 F.2.1 hd ht (fun q => kt q H locs ls a b d) (fun q => kf q H locs ls a b d)
theorem z_if_lt (F : z_F cl ats nw TB G own cc nL R0 X) {x : Int32} {off : Int} {tgt : Nat} (hd : decode cc pc = .ok (.ifCond .lt off, 3)) (ht : (pc : Int) + off = (tgt : Int)) (kt : x < 0 → z_V cl G nL X Q cells slots tgt lv st h) (kf : ¬ x < 0 → z_V cl G nL X Q cells slots (pc + 3) lv st h) : z_V cl G nL X Q cells slots pc lv (.int x :: st) h :=
  fun H locs ls a b d => lv_if_lt F.1 F.2.1 hd ht (fun q => kt q H locs ls a b d) (fun q => kf q H locs ls a b d)
theorem z_icmp_lt (F : z_F cl ats nw TB G own cc nL R0 X) {x y : Int32} {off : Int} {tgt : Nat} (hd : decode cc pc = .ok (.if_icmp .lt off, 3)) (ht : (pc : Int) + off = (tgt : Int)) (kt : x < y → z_V cl G nL X Q cells slots tgt lv st h) (kf : ¬ x < y → z_V cl G nL X Q cells slots (pc + 3) lv st h) : z_V cl G nL X Q cells slots pc lv (.int y :: .int x :: st) h :=
  fun H locs ls a b d => lv_icmp_lt F.1 F.2.1 hd ht (fun q => kt q H locs ls a b d) (fun q => kf q H locs ls a b d)
theorem z_if_ge (F : z_F cl ats nw TB G own cc nL R0 X) {x : Int32} {off : Int} {tgt : Nat} (hd : decode cc pc = .ok (.ifCond .ge off, 3)) (ht : (pc : Int) + off = (tgt : Int)) (kt : 0 ≤ x → z_V cl G nL X Q cells slots tgt lv st h) (kf : ¬ 0 ≤ x → z_V cl G nL X Q cells slots (pc + 3) lv st h) : z_V cl G nL X Q cells slots pc lv (.int x :: st) h :=
  fun H locs ls a b d => lv_if_ge F.1 F.2.1 hd ht (fun q => kt q H locs ls a b d) (fun q => kf q H locs ls a b d)
theorem z_icmp_ge (F : z_F cl ats nw TB G own cc nL R0 X) {x y : Int32} {off : Int} {tgt : Nat} (hd : decode cc pc = .ok (.if_icmp .ge off, 3)) (ht : (pc : Int) + off = (tgt : Int)) (kt : y ≤ x → z_V cl G nL X Q cells slots tgt lv st h) (kf : ¬ y ≤ x → z_V cl G nL X Q cells slots (pc + 3) lv st h) : z_V cl G nL X Q cells slots pc lv (.int y :: .int x :: st) h :=
  fun H locs ls a b d => lv_icmp_ge F.1 F.2.1 hd ht (fun q => kt q H locs ls a b d) (fun q => kf q H locs ls a b d)
theorem z_if_gt (F : z_F cl ats nw TB G own cc nL R0 X) {x : Int32} {off : Int} {tgt : Nat} (hd : decode cc pc = .ok (.ifCond .gt off, 3)) (ht : (pc : Int) + off = (tgt : Int)) (kt : 0 < x → z_V cl G nL X Q cells slots tgt lv st h) (kf : ¬ 0 < x → z_V cl G nL X Q cells slots (pc + 3) lv st h) : z_V cl G nL X Q cells slots pc lv (.int x :: st) h :=
  fun H locs ls a b d => lv_if_gt F.1 F.2.1 hd ht (fun q => kt q H locs ls a b d) (fun q => kf q H locs ls a b d)
theorem z_icmp_gt (F : z_F cl ats nw TB G own cc nL R0 X) {x y : Int32} {off : Int} {tgt : Nat} (hd : decode cc pc = .ok (.if_icmp .gt off, 3)) (ht : (pc : Int) + off = (tgt : Int)) (kt : y < x → z_V cl G nL X Q cells slots tgt lv st h) (kf : ¬ y < x → z_V cl G nL X Q cells slots (pc + 3) lv st h) : z_V cl G nL X Q cells slots pc lv (.int y :: .int x :: st) h :=
  fun H locs ls a b d => lv_icmp_gt F.1 F.2.1 hd ht (fun q => kt q H locs ls a b d) (fun q => kf q H locs ls a b d)
theorem z_if_le (F : z_F cl ats nw TB G own cc nL R0 X) {x : Int32} {off : Int} {tgt : Nat} (hd : decode cc pc = .ok (.ifCond .le off, 3)) (ht : (pc : Int) + off = (tgt : Int)) (kt : x ≤ 0 → z_V cl G nL X Q cells slots tgt lv st h) (kf : ¬ x ≤ 0 → z_V cl G nL X Q cells slots (pc + 3) lv st h) : z_V cl G nL X Q cells slots pc lv (.int x :: st) h :=
  fun H locs ls a b d => lv_if_le F.1 F.2.1 hd ht (fun q => kt q H locs ls a b d) (fun q => kf q H locs ls a b d)
theorem z_icmp_le (F : z_F cl ats nw TB G own cc nL R0 X) {x y : Int32} {off : Int} {tgt : Nat} (hd : decode cc pc = .ok (.if_icmp .le off, 3)) (ht : (pc : Int) + off = (tgt : Int)) (kt : x ≤ y → z_V cl G nL X Q cells slots tgt lv st h) (kf : ¬ x ≤ y → z_V cl G nL X Q cells slots (pc + 3) lv st h) : z_V cl G nL X Q cells slots pc lv (.int y :: .int x :: st) h :=
  fun H locs ls a b d => lv_icmp_le F.1 F.2.1 hd ht (fun q => kt q H locs ls a b d) (fun q => kf q H locs ls a b d)
theorem z_goto (F : z_F cl ats nw TB G own cc nL R0 X) {off : Int} {tgt : Nat} (hd : decode cc pc = .ok (.goto off, 3)) (ht : (pc : Int) + off = (tgt : Int)) (k : z_V cl G nL X Q cells slots tgt lv st h) : z_V cl G nL X Q cells slots pc lv st h :=
  fun H locs ls a b d => lv_goto F.1 F.2.1 hd ht (k H locs ls a b d)
theorem z_ifnull (F : z_F cl ats nw TB G own cc nL R0 X) {u : Value} {off : Int} {tgt : Nat} (hd : decode cc pc = .ok (.ifnull off, 3)) (ht : (pc : Int) + off = (tgt : Int)) (hu : z_isR u = true) (kt : u = .null → z_V cl G nL X Q cells slots tgt lv st h) (kf : ¬ u = .null → z_V cl G nL X Q cells slots (pc + 3) lv st h) : z_V cl G nL X Q cells slots pc lv (u :: st) h :=
  fun H locs ls a b d => by
    cases u <;> first | exact Bool.noConfusion (show false = true from hu) | exact lv_ifnullN F.1 F.2.1 hd ht (kt rfl H locs ls a b d) | exact lv_ifnull F.1 F.2.1 hd (kf (fun q => by cases q) H locs ls a b d)
theorem z_ifnonnull (F : z_F cl ats nw TB G own cc nL R0 X) {u : Value} {off : Int} {tgt : Nat} (hd : decode cc pc = .ok (.ifnonnull off, 3)) (ht : (pc : Int) + off = (tgt : Int)) (hu : z_isR u = true) (kt : ¬ u = .null → z_V cl G nL X Q cells slots tgt lv st h) (kf : u = .null → z_V cl G nL X Q cells slots (pc + 3) lv st h) : z_V cl G nL X Q cells slots pc lv (u :: st) h :=
  fun H locs ls a b d => by
    cases u <;> first | exact Bool.noConfusion (show false = true from hu) | exact lv_ifnonnullN F.1 F.2.1 hd (kf rfl H locs ls a b d) | exact lv_ifnonnull F.1 F.2.1 hd ht (kt (fun q => by cases q) H locs ls a b d)
theorem z_tableIn (F : z_F cl ats nw TB G own cc nL R0 X) {x : Int32} {dflt lo hi off : Int} {offs : Array Int} {len tgt : Nat} (hd : decode cc pc = .ok (.tableswitch dflt lo hi offs, len)) (h1 : ¬ x.toInt < lo) (h2 : ¬ hi < x.toInt) (ho : offs[(x.toInt - lo).toNat]? = some off) (ht : (pc : Int) + off = (tgt : Int)) (k : z_V cl G nL X Q cells slots tgt lv st h) : z_V cl G nL X Q cells slots pc lv (.int x :: st) h :=
  fun H locs ls a b d => lv_tableIn F.1 F.2.1 hd h1 h2 ho ht (k H locs ls a b d)
theorem z_tableOut (F : z_F cl ats nw TB G own cc nL R0 X) {x : Int32} {dflt lo hi : Int} {offs : Array Int} {len tgt : Nat} (hd : decode cc pc = .ok (.tableswitch dflt lo hi offs, len)) (h1 : x.toInt < lo ∨ hi < x.toInt) (ht : (pc : Int) + dflt = (tgt : Int)) (k : z_V cl G nL X Q cells slots tgt lv st h) : z_V cl G nL X Q cells slots pc lv (.int x :: st) h :=
  fun H locs ls a b d => lv_tableOut F.1 F.2.1 hd h1 ht (k H locs ls a b d)
theorem z_lookup (F : z_F cl ats nw TB G own cc nL R0 X) {x : Int32} {dflt off : Int} {ps : Array (Int × Int)} {len tgt : Nat} (hd : decode cc pc = .ok (.lookupswitch dflt ps, len)) (hp : (ps.toList.zip (ps.toList.drop 1)).all (fun (a, next) => a.1 < next.1) = true) (ho : Op.lookupswitch.offset ps.toList dflt x.toInt = off) (ht : (pc : Int) + off = (tgt : Int)) (k : z_V cl G nL X Q cells slots tgt lv st h) : z_V cl G nL X Q cells slots pc lv (.int x :: st) h :=
  fun H locs ls a b d => lv_lookup F.1 F.2.1 hd hp ho ht (k H locs ls a b d)

end ZR
