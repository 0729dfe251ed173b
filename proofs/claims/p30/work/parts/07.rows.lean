section JR
variable {E : jx_E} {l : Launch} {cd : ByteArray} {nL : Nat} {ret : Option FieldType} {own : String} {ini : Bool} {Rm : Room} {mc ms : Nat} {Q : jx_Q} {cells slots n : Nat} {kd : jx_K} {R : jx_R} {I : jx_I} {pc pc' : Nat} {lv : List (Option Value)} {st : List Value}
theorem j_iconst {i : Int} {v : Int32} (hd : decode cd pc = .ok (.iconst i, 1)) (hp : pc + 1 = pc') (hv : Int32.ofInt i = v) (k : jx_J E l cd nL ret own ini Rm mc ms Q cells slots n kd R I pc' lv (.int v :: st)) : jx_J E l cd nL ret own ini Rm mc ms Q cells slots n kd R I pc lv st := by
  subst hp
  intro p e s m args below meth c Z X hZ H locs ls hN hW hS hl
  exact lv_iconst X.1 X.2.1 hd hv (k p e s m args below meth c Z X hZ H locs ls hN hW hS hl)
theorem j_bipush {i : Int} {v : Int32} (hd : decode cd pc = .ok (.bipush i, 2)) (hp : pc + 2 = pc') (hv : (Int8.ofInt i).toInt32 = v) (k : jx_J E l cd nL ret own ini Rm mc ms Q cells slots n kd R I pc' lv (.int v :: st)) : jx_J E l cd nL ret own ini Rm mc ms Q cells slots n kd R I pc lv st := by
  subst hp
  intro p e s m args below meth c Z X hZ H locs ls hN hW hS hl
  exact lv_bipush X.1 X.2.1 hd hv (k p e s m args below meth c Z X hZ H locs ls hN hW hS hl)
theorem j_sipush {i : Int} {v : Int32} (hd : decode cd pc = .ok (.sipush i, 3)) (hp : pc + 3 = pc') (hv : (Int16.ofInt i).toInt32 = v) (k : jx_J E l cd nL ret own ini Rm mc ms Q cells slots n kd R I pc' lv (.int v :: st)) : jx_J E l cd nL ret own ini Rm mc ms Q cells slots n kd R I pc lv st := by
  subst hp
  intro p e s m args below meth c Z X hZ H locs ls hN hW hS hl
  exact lv_sipush X.1 X.2.1 hd hv (k p e s m args below meth c Z X hZ H locs ls hN hW hS hl)
theorem j_iadd {x y : Int32} (hd : decode cd pc = .ok (.iadd, 1)) (hp : pc + 1 = pc')  (k : jx_J E l cd nL ret own ini Rm mc ms Q cells slots n kd R I pc' lv (.int (x + y) :: st)) : jx_J E l cd nL ret own ini Rm mc ms Q cells slots n kd R I pc lv (.int y :: .int x :: st) := by
  subst hp
  intro p e s m args below meth c Z X hZ H locs ls hN hW hS hl
  exact lv_iadd X.1 X.2.1 hd  (k p e s m args below meth c Z X hZ H locs ls hN hW hS hl)
theorem j_isub {x y : Int32} (hd : decode cd pc = .ok (.isub, 1)) (hp : pc + 1 = pc')  (k : jx_J E l cd nL ret own ini Rm mc ms Q cells slots n kd R I pc' lv (.int (x - y) :: st)) : jx_J E l cd nL ret own ini Rm mc ms Q cells slots n kd R I pc lv (.int y :: .int x :: st) := by
  subst hp
  intro p e s m args below meth c Z X hZ H locs ls hN hW hS hl
  exact lv_isub X.1 X.2.1 hd  (k p e s m args below meth c Z X hZ H locs ls hN hW hS hl)
theorem j_imul {x y : Int32} (hd : decode cd pc = .ok (.imul, 1)) (hp : pc + 1 = pc')  (k : jx_J E l cd nL ret own ini Rm mc ms Q cells slots n kd R I pc' lv (.int (x * y) :: st)) : jx_J E l cd nL ret own ini Rm mc ms Q cells slots n kd R I pc lv (.int y :: .int x :: st) := by
  subst hp
  intro p e s m args below meth c Z X hZ H locs ls hN hW hS hl
  exact lv_imul X.1 X.2.1 hd  (k p e s m args below meth c Z X hZ H locs ls hN hW hS hl)
theorem j_iand {x y : Int32} (hd : decode cd pc = .ok (.iand, 1)) (hp : pc + 1 = pc')  (k : jx_J E l cd nL ret own ini Rm mc ms Q cells slots n kd R I pc' lv (.int (x &&& y) :: st)) : jx_J E l cd nL ret own ini Rm mc ms Q cells slots n kd R I pc lv (.int y :: .int x :: st) := by
  subst hp
  intro p e s m args below meth c Z X hZ H locs ls hN hW hS hl
  exact lv_iand X.1 X.2.1 hd  (k p e s m args below meth c Z X hZ H locs ls hN hW hS hl)
theorem j_ior {x y : Int32} (hd : decode cd pc = .ok (.ior, 1)) (hp : pc + 1 = pc')  (k : jx_J E l cd nL ret own ini Rm mc ms Q cells slots n kd R I pc' lv (.int (x ||| y) :: st)) : jx_J E l cd nL ret own ini Rm mc ms Q cells slots n kd R I pc lv (.int y :: .int x :: st) := by
  subst hp
  intro p e s m args below meth c Z X hZ H locs ls hN hW hS hl
  exact lv_ior X.1 X.2.1 hd  (k p e s m args below meth c Z X hZ H locs ls hN hW hS hl)
theorem j_ixor {x y : Int32} (hd : decode cd pc = .ok (.ixor, 1)) (hp : pc + 1 = pc')  (k : jx_J E l cd nL ret own ini Rm mc ms Q cells slots n kd R I pc' lv (.int (x ^^^ y) :: st)) : jx_J E l cd nL ret own ini Rm mc ms Q cells slots n kd R I pc lv (.int y :: .int x :: st) := by
  subst hp
  intro p e s m args below meth c Z X hZ H locs ls hN hW hS hl
  exact lv_ixor X.1 X.2.1 hd  (k p e s m args below meth c Z X hZ H locs ls hN hW hS hl)
theorem j_irem {x y : Int32} (hd : decode cd pc = .ok (.irem, 1)) (hp : pc + 1 = pc') (hne : ¬ y = 0) (k : jx_J E l cd nL ret own ini Rm mc ms Q cells slots n kd R I pc' lv (.int (x - x / y * y) :: st)) : jx_J E l cd nL ret own ini Rm mc ms Q cells slots n kd R I pc lv (.int y :: .int x :: st) := by
  subst hp
  intro p e s m args below meth c Z X hZ H locs ls hN hW hS hl
  exact lv_irem X.1 X.2.1 hd hne (k p e s m args below meth c Z X hZ H locs ls hN hW hS hl)
theorem j_idiv {x y : Int32} (hd : decode cd pc = .ok (.idiv, 1)) (hp : pc + 1 = pc') (hne : ¬ y = 0) (k : jx_J E l cd nL ret own ini Rm mc ms Q cells slots n kd R I pc' lv (.int (x / y) :: st)) : jx_J E l cd nL ret own ini Rm mc ms Q cells slots n kd R I pc lv (.int y :: .int x :: st) := by
  subst hp
  intro p e s m args below meth c Z X hZ H locs ls hN hW hS hl
  exact lv_idiv X.1 X.2.1 hd hne (k p e s m args below meth c Z X hZ H locs ls hN hW hS hl)
theorem j_ineg {x : Int32} (hd : decode cd pc = .ok (.ineg, 1)) (hp : pc + 1 = pc')  (k : jx_J E l cd nL ret own ini Rm mc ms Q cells slots n kd R I pc' lv (.int (-x) :: st)) : jx_J E l cd nL ret own ini Rm mc ms Q cells slots n kd R I pc lv (.int x :: st) := by
  subst hp
  intro p e s m args below meth c Z X hZ H locs ls hN hW hS hl
  exact lv_ineg X.1 X.2.1 hd  (k p e s m args below meth c Z X hZ H locs ls hN hW hS hl)
theorem j_ladd {x y : Int64} (hd : decode cd pc = .ok (.ladd, 1)) (hp : pc + 1 = pc')  (k : jx_J E l cd nL ret own ini Rm mc ms Q cells slots n kd R I pc' lv (.long (x + y) :: st)) : jx_J E l cd nL ret own ini Rm mc ms Q cells slots n kd R I pc lv (.long y :: .long x :: st) := by
  subst hp
  intro p e s m args below meth c Z X hZ H locs ls hN hW hS hl
  exact lv_ladd X.1 X.2.1 hd  (k p e s m args below meth c Z X hZ H locs ls hN hW hS hl)
theorem j_lmul {x y : Int64} (hd : decode cd pc = .ok (.lmul, 1)) (hp : pc + 1 = pc')  (k : jx_J E l cd nL ret own ini Rm mc ms Q cells slots n kd R I pc' lv (.long (x * y) :: st)) : jx_J E l cd nL ret own ini Rm mc ms Q cells slots n kd R I pc lv (.long y :: .long x :: st) := by
  subst hp
  intro p e s m args below meth c Z X hZ H locs ls hN hW hS hl
  exact lv_lmul X.1 X.2.1 hd  (k p e s m args below meth c Z X hZ H locs ls hN hW hS hl)
theorem j_i2l {x : Int32} (hd : decode cd pc = .ok (.i2l, 1)) (hp : pc + 1 = pc')  (k : jx_J E l cd nL ret own ini Rm mc ms Q cells slots n kd R I pc' lv (.long x.toInt64 :: st)) : jx_J E l cd nL ret own ini Rm mc ms Q cells slots n kd R I pc lv (.int x :: st) := by
  subst hp
  intro p e s m args below meth c Z X hZ H locs ls hN hW hS hl
  exact lv_i2l X.1 X.2.1 hd rfl (k p e s m args below meth c Z X hZ H locs ls hN hW hS hl)
theorem j_i2c {x : Int32} (hd : decode cd pc = .ok (.i2c, 1)) (hp : pc + 1 = pc')  (k : jx_J E l cd nL ret own ini Rm mc ms Q cells slots n kd R I pc' lv (.int (x.toUInt32 % 65536).toInt32 :: st)) : jx_J E l cd nL ret own ini Rm mc ms Q cells slots n kd R I pc lv (.int x :: st) := by
  subst hp
  intro p e s m args below meth c Z X hZ H locs ls hN hW hS hl
  exact lv_i2c X.1 X.2.1 hd rfl (k p e s m args below meth c Z X hZ H locs ls hN hW hS hl)
theorem j_i2f {x : Int32} (hd : decode cd pc = .ok (.i2f, 1)) (hp : pc + 1 = pc')  (k : jx_J E l cd nL ret own ini Rm mc ms Q cells slots n kd R I pc' lv (.float (FP.i2f x) :: st)) : jx_J E l cd nL ret own ini Rm mc ms Q cells slots n kd R I pc lv (.int x :: st) := by
  subst hp
  intro p e s m args below meth c Z X hZ H locs ls hN hW hS hl
  exact lv_i2f X.1 X.2.1 hd  (k p e s m args below meth c Z X hZ H locs ls hN hW hS hl)
theorem j_fconst0  (hd : decode cd pc = .ok (.fconst 0, 1)) (hp : pc + 1 = pc')  (k : jx_J E l cd nL ret own ini Rm mc ms Q cells slots n kd R I pc' lv (.float 0 :: st)) : jx_J E l cd nL ret own ini Rm mc ms Q cells slots n kd R I pc lv st := by
  subst hp
  intro p e s m args below meth c Z X hZ H locs ls hN hW hS hl
  exact lv_fconst0 X.1 X.2.1 hd  (k p e s m args below meth c Z X hZ H locs ls hN hW hS hl)
theorem j_fdiv {x y : UInt32} (hd : decode cd pc = .ok (.fdiv, 1)) (hp : pc + 1 = pc') (hne : vf_n32 (FP.fdiv x y)) (k : jx_J E l cd nL ret own ini Rm mc ms Q cells slots n kd R I pc' lv (.float (FP.fdiv x y) :: st)) : jx_J E l cd nL ret own ini Rm mc ms Q cells slots n kd R I pc lv (.float y :: .float x :: st) := by
  subst hp
  intro p e s m args below meth c Z X hZ H locs ls hN hW hS hl
  exact lv_fdiv X.1 X.2.1 hd hne (k p e s m args below meth c Z X hZ H locs ls hN hW hS hl)
theorem j_ishr {x y : Int32} (hd : decode cd pc = .ok (.ishr, 1)) (hp : pc + 1 = pc')  (k : jx_J E l cd nL ret own ini Rm mc ms Q cells slots n kd R I pc' lv (.int (x >>> (y &&& 31)) :: st)) : jx_J E l cd nL ret own ini Rm mc ms Q cells slots n kd R I pc lv (.int y :: .int x :: st) := by
  subst hp
  intro p e s m args below meth c Z X hZ H locs ls hN hW hS hl
  exact lv_ishr X.1 X.2.1 hd  (k p e s m args below meth c Z X hZ H locs ls hN hW hS hl)
theorem j_ishl {x y : Int32} (hd : decode cd pc = .ok (.ishl, 1)) (hp : pc + 1 = pc')  (k : jx_J E l cd nL ret own ini Rm mc ms Q cells slots n kd R I pc' lv (.int (x <<< (y &&& 31)) :: st)) : jx_J E l cd nL ret own ini Rm mc ms Q cells slots n kd R I pc lv (.int y :: .int x :: st) := by
  subst hp
  intro p e s m args below meth c Z X hZ H locs ls hN hW hS hl
  exact lv_ishl X.1 X.2.1 hd  (k p e s m args below meth c Z X hZ H locs ls hN hW hS hl)
theorem j_dup {va : Value} (hd : decode cd pc = .ok (.dup, 1)) (hp : pc + 1 = pc') (hv : va.category = 1) (k : jx_J E l cd nL ret own ini Rm mc ms Q cells slots n kd R I pc' lv (va :: va :: st)) : jx_J E l cd nL ret own ini Rm mc ms Q cells slots n kd R I pc lv (va :: st) := by
  subst hp
  intro p e s m args below meth c Z X hZ H locs ls hN hW hS hl
  exact lv_dup X.1 X.2.1 hd hv (k p e s m args below meth c Z X hZ H locs ls hN hW hS hl)
theorem j_pop {va : Value} (hd : decode cd pc = .ok (.pop, 1)) (hp : pc + 1 = pc') (hv : va.category = 1) (k : jx_J E l cd nL ret own ini Rm mc ms Q cells slots n kd R I pc' lv st) : jx_J E l cd nL ret own ini Rm mc ms Q cells slots n kd R I pc lv (va :: st) := by
  subst hp
  intro p e s m args below meth c Z X hZ H locs ls hN hW hS hl
  exact lv_pop X.1 X.2.1 hd hv (k p e s m args below meth c Z X hZ H locs ls hN hW hS hl)
theorem j_dup2 {va vb : Value} (hd : decode cd pc = .ok (.dup2, 1)) (hp : pc + 1 = pc') (hv : va.category = 1) (hw : vb.category = 1) (k : jx_J E l cd nL ret own ini Rm mc ms Q cells slots n kd R I pc' lv (va :: vb :: va :: vb :: st)) : jx_J E l cd nL ret own ini Rm mc ms Q cells slots n kd R I pc lv (va :: vb :: st) := by
  subst hp
  intro p e s m args below meth c Z X hZ H locs ls hN hW hS hl
  exact lv_dup2_11 X.1 X.2.1 hd hv hw (k p e s m args below meth c Z X hZ H locs ls hN hW hS hl)
theorem j_lcmp {x y : Int64} (hd : decode cd pc = .ok (.lcmp, 1)) (hp : pc + 1 = pc') (k : jx_J E l cd nL ret own ini Rm mc ms Q cells slots n kd R I pc' lv (.int (lg_cmp x y) :: st)) : jx_J E l cd nL ret own ini Rm mc ms Q cells slots n kd R I pc lv (.long y :: .long x :: st) := by
  subst hp
  intro p e s m args below meth c Z X hZ H locs ls hN hW hS hl
  exact W.lcmp X.1 X.2.1 hd (k p e s m args below meth c Z X hZ H locs ls hN hW hS hl)
theorem j_ldc2 {ix : Nat} {v : Int64} (hk : Cond.constantLong own ix v ∈ jx_W) (hd : decode cd pc = .ok (.ldc2_w ix, 3)) (hp : pc + 3 = pc') (k : jx_J E l cd nL ret own ini Rm mc ms Q cells slots n kd R I pc' lv (.long v :: st)) : jx_J E l cd nL ret own ini Rm mc ms Q cells slots n kd R I pc lv st := by
  subst hp
  intro p e s m args below meth c Z X hZ H locs ls hN hW hS hl
  exact lv_ldc2 X.1 X.2.1 X.2.2.2.2.2.1 (X.2.2.2.2.2.2.2.1 _ hk) hd (k p e s m args below meth c Z X hZ H locs ls hN hW hS hl)
theorem j_iload_n {q : Fin 4} {x : Int32} (hd : decode cd pc = .ok (.iload_n q, 1)) (hp : pc + 1 = pc') (hi : lv[(q : Nat)]? = some (some (.int x))) (k : jx_J E l cd nL ret own ini Rm mc ms Q cells slots n kd R I pc' lv (.int x :: st)) : jx_J E l cd nL ret own ini Rm mc ms Q cells slots n kd R I pc lv st := by
  subst hp
  intro p e s m args below meth c Z X hZ H locs ls hN hW hS hl
  exact lv_iload_n X.1 X.2.1 hd rfl (jx_Lat hl hi) (k p e s m args below meth c Z X hZ H locs ls hN hW hS hl)
theorem j_iload {i : Nat} {x : Int32} (hd : decode cd pc = .ok (.iload i, 2)) (hp : pc + 2 = pc') (hi : lv[i]? = some (some (.int x))) (k : jx_J E l cd nL ret own ini Rm mc ms Q cells slots n kd R I pc' lv (.int x :: st)) : jx_J E l cd nL ret own ini Rm mc ms Q cells slots n kd R I pc lv st := by
  subst hp
  intro p e s m args below meth c Z X hZ H locs ls hN hW hS hl
  exact lv_iload X.1 X.2.1 hd (jx_Lat hl hi) (k p e s m args below meth c Z X hZ H locs ls hN hW hS hl)
theorem j_istore_n {q : Fin 4} {x : Int32} {lv' : List (Option Value)} (hd : decode cd pc = .ok (.istore_n q, 1)) (hp : pc + 1 = pc') (hn : (q : Nat) < nL) (hi : jx_st1 lv q (.int x) = lv') (k : jx_J E l cd nL ret own ini Rm mc ms Q cells slots n kd R I pc' lv' st) : jx_J E l cd nL ret own ini Rm mc ms Q cells slots n kd R I pc lv (.int x :: st) := by
  subst hp; subst hi
  intro p e s m args below meth c Z X hZ H locs ls hN hW hS hl
  exact lv_istore_n X.1 X.2.1 hd rfl hl hn rfl (fun ls' hl' => k p e s m args below meth c Z X hZ H locs ls' hN hW hS (jx_Lst1 hl'))
theorem j_istore {i : Nat} {x : Int32} {lv' : List (Option Value)} (hd : decode cd pc = .ok (.istore i, 2)) (hp : pc + 2 = pc') (hn : i < nL) (hi : jx_st1 lv i (.int x) = lv') (k : jx_J E l cd nL ret own ini Rm mc ms Q cells slots n kd R I pc' lv' st) : jx_J E l cd nL ret own ini Rm mc ms Q cells slots n kd R I pc lv (.int x :: st) := by
  subst hp; subst hi
  intro p e s m args below meth c Z X hZ H locs ls hN hW hS hl
  exact lv_istore X.1 X.2.1 hd hl hn rfl (fun ls' hl' => k p e s m args below meth c Z X hZ H locs ls' hN hW hS (jx_Lst1 hl'))
theorem j_aload_n {q : Fin 4} {x : Nat} (hd : decode cd pc = .ok (.aload_n q, 1)) (hp : pc + 1 = pc') (hi : lv[(q : Nat)]? = some (some (.ref x))) (k : jx_J E l cd nL ret own ini Rm mc ms Q cells slots n kd R I pc' lv (.ref x :: st)) : jx_J E l cd nL ret own ini Rm mc ms Q cells slots n kd R I pc lv st := by
  subst hp
  intro p e s m args below meth c Z X hZ H locs ls hN hW hS hl
  exact lv_aload_n X.1 X.2.1 hd rfl (jx_Lat hl hi) (k p e s m args below meth c Z X hZ H locs ls hN hW hS hl)
theorem j_aload {i : Nat} {x : Nat} (hd : decode cd pc = .ok (.aload i, 2)) (hp : pc + 2 = pc') (hi : lv[i]? = some (some (.ref x))) (k : jx_J E l cd nL ret own ini Rm mc ms Q cells slots n kd R I pc' lv (.ref x :: st)) : jx_J E l cd nL ret own ini Rm mc ms Q cells slots n kd R I pc lv st := by
  subst hp
  intro p e s m args below meth c Z X hZ H locs ls hN hW hS hl
  exact lv_aload X.1 X.2.1 hd (jx_Lat hl hi) (k p e s m args below meth c Z X hZ H locs ls hN hW hS hl)
theorem j_astore_n {q : Fin 4} {x : Nat} {lv' : List (Option Value)} (hd : decode cd pc = .ok (.astore_n q, 1)) (hp : pc + 1 = pc') (hn : (q : Nat) < nL) (hi : jx_st1 lv q (.ref x) = lv') (k : jx_J E l cd nL ret own ini Rm mc ms Q cells slots n kd R I pc' lv' st) : jx_J E l cd nL ret own ini Rm mc ms Q cells slots n kd R I pc lv (.ref x :: st) := by
  subst hp; subst hi
  intro p e s m args below meth c Z X hZ H locs ls hN hW hS hl
  exact lv_astore_n X.1 X.2.1 hd rfl hl hn rfl (fun ls' hl' => k p e s m args below meth c Z X hZ H locs ls' hN hW hS (jx_Lst1 hl'))
theorem j_astore {i : Nat} {x : Nat} {lv' : List (Option Value)} (hd : decode cd pc = .ok (.astore i, 2)) (hp : pc + 2 = pc') (hn : i < nL) (hi : jx_st1 lv i (.ref x) = lv') (k : jx_J E l cd nL ret own ini Rm mc ms Q cells slots n kd R I pc' lv' st) : jx_J E l cd nL ret own ini Rm mc ms Q cells slots n kd R I pc lv (.ref x :: st) := by
  subst hp; subst hi
  intro p e s m args below meth c Z X hZ H locs ls hN hW hS hl
  exact lv_astore X.1 X.2.1 hd hl hn rfl (fun ls' hl' => k p e s m args below meth c Z X hZ H locs ls' hN hW hS (jx_Lst1 hl'))
theorem j_lload_n {q : Fin 4} {x : Int64} (hd : decode cd pc = .ok (.lload_n q, 1)) (hp : pc + 1 = pc') (hi : lv[(q : Nat)]? = some (some (.long x))) (k : jx_J E l cd nL ret own ini Rm mc ms Q cells slots n kd R I pc' lv (.long x :: st)) : jx_J E l cd nL ret own ini Rm mc ms Q cells slots n kd R I pc lv st := by
  subst hp
  intro p e s m args below meth c Z X hZ H locs ls hN hW hS hl
  exact lv_lload_n X.1 X.2.1 hd rfl (jx_Lat hl hi) (k p e s m args below meth c Z X hZ H locs ls hN hW hS hl)
theorem j_lload {i : Nat} {x : Int64} (hd : decode cd pc = .ok (.lload i, 2)) (hp : pc + 2 = pc') (hi : lv[i]? = some (some (.long x))) (k : jx_J E l cd nL ret own ini Rm mc ms Q cells slots n kd R I pc' lv (.long x :: st)) : jx_J E l cd nL ret own ini Rm mc ms Q cells slots n kd R I pc lv st := by
  subst hp
  intro p e s m args below meth c Z X hZ H locs ls hN hW hS hl
  exact lv_lload X.1 X.2.1 hd (jx_Lat hl hi) (k p e s m args below meth c Z X hZ H locs ls hN hW hS hl)
theorem j_lstore_n {q : Fin 4} {x : Int64} {lv' : List (Option Value)} (hd : decode cd pc = .ok (.lstore_n q, 1)) (hp : pc + 1 = pc') (hn : (q : Nat) + 1 < nL) (hi : jx_st2 lv q (.long x) = lv') (k : jx_J E l cd nL ret own ini Rm mc ms Q cells slots n kd R I pc' lv' st) : jx_J E l cd nL ret own ini Rm mc ms Q cells slots n kd R I pc lv (.long x :: st) := by
  subst hp; subst hi
  intro p e s m args below meth c Z X hZ H locs ls hN hW hS hl
  exact lv_lstore_n X.1 X.2.1 hd rfl hl hn rfl (fun ls' hl' => k p e s m args below meth c Z X hZ H locs ls' hN hW hS (jx_Lst2 hl'))
theorem j_lstore {i : Nat} {x : Int64} {lv' : List (Option Value)} (hd : decode cd pc = .ok (.lstore i, 2)) (hp : pc + 2 = pc') (hn : i + 1 < nL) (hi : jx_st2 lv i (.long x) = lv') (k : jx_J E l cd nL ret own ini Rm mc ms Q cells slots n kd R I pc' lv' st) : jx_J E l cd nL ret own ini Rm mc ms Q cells slots n kd R I pc lv (.long x :: st) := by
  subst hp; subst hi
  intro p e s m args below meth c Z X hZ H locs ls hN hW hS hl
  exact lv_lstore X.1 X.2.1 hd hl hn rfl (fun ls' hl' => k p e s m args below meth c Z X hZ H locs ls' hN hW hS (jx_Lst2 hl'))
theorem j_iinc {i : Nat} {d : Int} {x v : Int32} {lv' : List (Option Value)} (hd : decode cd pc = .ok (.iinc i d, 3)) (hp : pc + 3 = pc') (hx : lv[i]? = some (some (.int x))) (hv : x + Int32.ofInt d = v) (hn : i < nL) (hi : jx_st1 lv i (.int v) = lv') (k : jx_J E l cd nL ret own ini Rm mc ms Q cells slots n kd R I pc' lv' st) : jx_J E l cd nL ret own ini Rm mc ms Q cells slots n kd R I pc lv st := by
  subst hp; subst hi
  intro p e s m args below meth c Z X hZ H locs ls hN hW hS hl
  obtain ⟨k0, hk0⟩ := List.getElem?_of_mem ((jx_asc_mem lv 0 (i, .int x)).mpr ⟨i, by simp, hx⟩)
  exact lv_iinc X.1 X.2.1 hd hl hk0 hv hn rfl (fun ls' hl' => k p e s m args below meth c Z X hZ H locs ls' hN hW hS (jx_Lst1 hl'))
theorem j_if_eq {x : Int32} {off : Int} {tgt : Nat} (hd : decode cd pc = .ok (.ifCond .eq off, 3)) (hp : pc + 3 = pc') (ht : (pc : Int) + off = (tgt : Int)) (kt : x = 0 → jx_J E l cd nL ret own ini Rm mc ms Q cells slots n kd R I tgt lv st) (kf : ¬ x = 0 → jx_J E l cd nL ret own ini Rm mc ms Q cells slots n kd R I pc' lv st) : jx_J E l cd nL ret own ini Rm mc ms Q cells slots n kd R I pc lv (.int x :: st) := by
  subst hp
  intro p e s m args below meth c Z X hZ H locs ls hN hW hS hl
  exact lv_if_eq X.1 X.2.1 hd ht (fun h => kt h p e s m args below meth c Z X hZ H locs ls hN hW hS hl) (fun h => kf h p e s m args below meth c Z X hZ H locs ls hN hW hS hl)
theorem j_icmp_eq {x y : Int32} {off : Int} {tgt : Nat} (hd : decode cd pc = .ok (.if_icmp .eq off, 3)) (hp : pc + 3 = pc') (ht : (pc : Int) + off = (tgt : Int)) (kt : x = y → jx_J E l cd nL ret own ini Rm mc ms Q cells slots n kd R I tgt lv st) (kf : ¬ x = y → jx_J E l cd nL ret own ini Rm mc ms Q cells slots n kd R I pc' lv st) : jx_J E l cd nL ret own ini Rm mc ms Q cells slots n kd R I pc lv (.int y :: .int x :: st) := by
  subst hp
  intro p e s m args below meth c Z X hZ H locs ls hN hW hS hl
  exact lv_icmp_eq X.1 X.2.1 hd ht (fun h => kt h p e s m args below meth c Z X hZ H locs ls hN hW hS hl) (fun h => kf h p e s m args below meth c Z X hZ H locs ls hN hW hS hl)
theorem j_if_ne {x : Int32} {off : Int} {tgt : Nat} (hd : decode cd pc = .ok (.ifCond .ne off, 3)) (hp : pc + 3 = pc') (ht : (pc : Int) + off = (tgt : Int)) (kt : ¬ x = 0 → jx_J E l cd nL ret own ini Rm mc ms Q cells slots n kd R I tgt lv st) (kf : x = 0 → jx_J E l cd nL ret own ini Rm mc ms Q cells slots n kd R I pc' lv st) : jx_J E l cd nL ret own ini Rm mc ms Q cells slots n kd R I pc lv (.int x :: st) := by
  subst hp
  intro p e s m args below meth c Z X hZ H locs ls hN hW hS hl
  exact lv_if_ne X.1 X.2.1 hd ht (fun h => kt h p e s m args below meth c Z X hZ H locs ls hN hW hS hl) (fun h => kf h p e s m args below meth c Z X hZ H locs ls hN hW hS hl)
theorem j_icmp_ne {x y : Int32} {off : Int} {tgt : Nat} (hd : decode cd pc = .ok (.if_icmp .ne off, 3)) (hp : pc + 3 = pc') (ht : (pc : Int) + off = (tgt : Int)) (kt : ¬ x = y → jx_J E l cd nL ret own ini Rm mc ms Q cells slots n kd R I tgt lv st) (kf : x = y → jx_J E l cd nL ret own ini Rm mc ms Q cells slots n kd R I pc' lv st) : jx_J E l cd nL ret own ini Rm mc ms Q cells slots n kd R I pc lv (.int y :: .int x :: st) := by
  subst hp
  intro p e s m args below meth c Z X hZ H locs ls hN hW hS hl
  exact lv_icmp_ne X.1 X.2.1 hd ht (fun h => kt h p e s m args below meth c Z X hZ H locs ls hN hW hS hl) (fun h => kf h p e s m args below meth c Z X hZ H locs ls hN hW hS hl)
theorem j_if_lt {x : Int32} {off : Int} {tgt : Nat} (hd : decode cd pc = .ok (.ifCond .lt off, 3)) (hp : pc + 3 = pc') (ht : (pc : Int) + off = (tgt : Int)) (kt : x < 0 → jx_J E l cd nL ret own ini Rm mc ms Q cells slots n kd R I tgt lv st) (kf : ¬ x < 0 → jx_J E l cd nL ret own ini Rm mc ms Q cells slots n kd R I pc' lv st) : jx_J E l cd nL ret own ini Rm mc ms Q cells slots n kd R I pc lv (.int x :: st) := by
  subst hp
  intro p e s m args below meth c Z X hZ H locs ls hN hW hS hl
  exact lv_if_lt X.1 X.2.1 hd ht (fun h => kt h p e s m args below meth c Z X hZ H locs ls hN hW hS hl) (fun h => kf h p e s m args below meth c Z X hZ H locs ls hN hW hS hl)
theorem j_icmp_lt {x y : Int32} {off : Int} {tgt : Nat} (hd : decode cd pc = .ok (.if_icmp .lt off, 3)) (hp : pc + 3 = pc') (ht : (pc : Int) + off = (tgt : Int)) (kt : x < y → jx_J E l cd nL ret own ini Rm mc ms Q cells slots n kd R I tgt lv st) (kf : ¬ x < y → jx_J E l cd nL ret own ini Rm mc ms Q cells slots n kd R I pc' lv st) : jx_J E l cd nL ret own ini Rm mc ms Q cells slots n kd R I pc lv (.int y :: .int x :: st) := by
  subst hp
  intro p e s m args below meth c Z X hZ H locs ls hN hW hS hl
  exact lv_icmp_lt X.1 X.2.1 hd ht (fun h => kt h p e s m args below meth c Z X hZ H locs ls hN hW hS hl) (fun h => kf h p e s m args below meth c Z X hZ H locs ls hN hW hS hl)
theorem j_if_ge {x : Int32} {off : Int} {tgt : Nat} (hd : decode cd pc = .ok (.ifCond .ge off, 3)) (hp : pc + 3 = pc') (ht : (pc : Int) + off = (tgt : Int)) (kt : 0 ≤ x → jx_J E l cd nL ret own ini Rm mc ms Q cells slots n kd R I tgt lv st) (kf : ¬ 0 ≤ x → jx_J E l cd nL ret own ini Rm mc ms Q cells slots n kd R I pc' lv st) : jx_J E l cd nL ret own ini Rm mc ms Q cells slots n kd R I pc lv (.int x :: st) := by
  subst hp
  intro p e s m args below meth c Z X hZ H locs ls hN hW hS hl
  exact lv_if_ge X.1 X.2.1 hd ht (fun h => kt h p e s m args below meth c Z X hZ H locs ls hN hW hS hl) (fun h => kf h p e s m args below meth c Z X hZ H locs ls hN hW hS hl)
theorem j_icmp_ge {x y : Int32} {off : Int} {tgt : Nat} (hd : decode cd pc = .ok (.if_icmp .ge off, 3)) (hp : pc + 3 = pc') (ht : (pc : Int) + off = (tgt : Int)) (kt : y ≤ x → jx_J E l cd nL ret own ini Rm mc ms Q cells slots n kd R I tgt lv st) (kf : ¬ y ≤ x → jx_J E l cd nL ret own ini Rm mc ms Q cells slots n kd R I pc' lv st) : jx_J E l cd nL ret own ini Rm mc ms Q cells slots n kd R I pc lv (.int y :: .int x :: st) := by
  subst hp
  intro p e s m args below meth c Z X hZ H locs ls hN hW hS hl
  exact lv_icmp_ge X.1 X.2.1 hd ht (fun h => kt h p e s m args below meth c Z X hZ H locs ls hN hW hS hl) (fun h => kf h p e s m args below meth c Z X hZ H locs ls hN hW hS hl)
theorem j_if_gt {x : Int32} {off : Int} {tgt : Nat} (hd : decode cd pc = .ok (.ifCond .gt off, 3)) (hp : pc + 3 = pc') (ht : (pc : Int) + off = (tgt : Int)) (kt : 0 < x → jx_J E l cd nL ret own ini Rm mc ms Q cells slots n kd R I tgt lv st) (kf : ¬ 0 < x → jx_J E l cd nL ret own ini Rm mc ms Q cells slots n kd R I pc' lv st) : jx_J E l cd nL ret own ini Rm mc ms Q cells slots n kd R I pc lv (.int x :: st) := by
  subst hp
  intro p e s m args below meth c Z X hZ H locs ls hN hW hS hl
  exact lv_if_gt X.1 X.2.1 hd ht (fun h => kt h p e s m args below meth c Z X hZ H locs ls hN hW hS hl) (fun h => kf h p e s m args below meth c Z X hZ H locs ls hN hW hS hl)
theorem j_icmp_gt {x y : Int32} {off : Int} {tgt : Nat} (hd : decode cd pc = .ok (.if_icmp .gt off, 3)) (hp : pc + 3 = pc') (ht : (pc : Int) + off = (tgt : Int)) (kt : y < x → jx_J E l cd nL ret own ini Rm mc ms Q cells slots n kd R I tgt lv st) (kf : ¬ y < x → jx_J E l cd nL ret own ini Rm mc ms Q cells slots n kd R I pc' lv st) : jx_J E l cd nL ret own ini Rm mc ms Q cells slots n kd R I pc lv (.int y :: .int x :: st) := by
  subst hp
  intro p e s m args below meth c Z X hZ H locs ls hN hW hS hl
  exact lv_icmp_gt X.1 X.2.1 hd ht (fun h => kt h p e s m args below meth c Z X hZ H locs ls hN hW hS hl) (fun h => kf h p e s m args below meth c Z X hZ H locs ls hN hW hS hl)
theorem j_if_le {x : Int32} {off : Int} {tgt : Nat} (hd : decode cd pc = .ok (.ifCond .le off, 3)) (hp : pc + 3 = pc') (ht : (pc : Int) + off = (tgt : Int)) (kt : x ≤ 0 → jx_J E l cd nL ret own ini Rm mc ms Q cells slots n kd R I tgt lv st) (kf : ¬ x ≤ 0 → jx_J E l cd nL ret own ini Rm mc ms Q cells slots n kd R I pc' lv st) : jx_J E l cd nL ret own ini Rm mc ms Q cells slots n kd R I pc lv (.int x :: st) := by
  subst hp
  intro p e s m args below meth c Z X hZ H locs ls hN hW hS hl
  exact lv_if_le X.1 X.2.1 hd ht (fun h => kt h p e s m args below meth c Z X hZ H locs ls hN hW hS hl) (fun h => kf h p e s m args below meth c Z X hZ H locs ls hN hW hS hl)
theorem j_icmp_le {x y : Int32} {off : Int} {tgt : Nat} (hd : decode cd pc = .ok (.if_icmp .le off, 3)) (hp : pc + 3 = pc') (ht : (pc : Int) + off = (tgt : Int)) (kt : x ≤ y → jx_J E l cd nL ret own ini Rm mc ms Q cells slots n kd R I tgt lv st) (kf : ¬ x ≤ y → jx_J E l cd nL ret own ini Rm mc ms Q cells slots n kd R I pc' lv st) : jx_J E l cd nL ret own ini Rm mc ms Q cells slots n kd R I pc lv (.int y :: .int x :: st) := by
  subst hp
  intro p e s m args below meth c Z X hZ H locs ls hN hW hS hl
  exact lv_icmp_le X.1 X.2.1 hd ht (fun h => kt h p e s m args below meth c Z X hZ H locs ls hN hW hS hl) (fun h => kf h p e s m args below meth c Z X hZ H locs ls hN hW hS hl)
theorem j_goto {off : Int} {tgt : Nat} (hd : decode cd pc = .ok (.goto off, 3)) (ht : (pc : Int) + off = (tgt : Int)) (k : jx_J E l cd nL ret own ini Rm mc ms Q cells slots n kd R I tgt lv st) : jx_J E l cd nL ret own ini Rm mc ms Q cells slots n kd R I pc lv st := by
  intro p e s m args below meth c Z X hZ H locs ls hN hW hS hl
  exact lv_goto X.1 X.2.1 hd ht (k p e s m args below meth c Z X hZ H locs ls hN hW hS hl)
theorem j_tableOut {dflt lo hi : Int} {offs : Array Int} {len : Nat} {x : Int32} {tgt : Nat} (hd : decode cd pc = .ok (.tableswitch dflt lo hi offs, len)) (h : x.toInt < lo ∨ hi < x.toInt) (ht : (pc : Int) + dflt = (tgt : Int)) (k : jx_J E l cd nL ret own ini Rm mc ms Q cells slots n kd R I tgt lv st) : jx_J E l cd nL ret own ini Rm mc ms Q cells slots n kd R I pc lv (.int x :: st) := by
  intro p e s m args below meth c Z X hZ H locs ls hN hW hS hl
  exact lv_tableOut X.1 X.2.1 hd h ht (k p e s m args below meth c Z X hZ H locs ls hN hW hS hl)
theorem j_tableIn {dflt lo hi : Int} {offs : Array Int} {len : Nat} {x : Int32} {off : Int} {tgt : Nat} (hd : decode cd pc = .ok (.tableswitch dflt lo hi offs, len)) (h1 : ¬ x.toInt < lo) (h2 : ¬ hi < x.toInt) (ho : offs[(x.toInt - lo).toNat]? = some off) (ht : (pc : Int) + off = (tgt : Int)) (k : jx_J E l cd nL ret own ini Rm mc ms Q cells slots n kd R I tgt lv st) : jx_J E l cd nL ret own ini Rm mc ms Q cells slots n kd R I pc lv (.int x :: st) := by
  intro p e s m args below meth c Z X hZ H locs ls hN hW hS hl
  exact lv_tableIn X.1 X.2.1 hd h1 h2 ho ht (k p e s m args below meth c Z X hZ H locs ls hN hW hS hl)
theorem j_lookup {dflt : Int} {ps : Array (Int × Int)} {len : Nat} {x : Int32} {off : Int} {tgt : Nat} (hd : decode cd pc = .ok (.lookupswitch dflt ps, len)) (hq : (ps.toList.zip (ps.toList.drop 1)).all (fun (a, next) => a.1 < next.1) = true) (ho : Op.lookupswitch.offset ps.toList dflt x.toInt = off) (ht : (pc : Int) + off = (tgt : Int)) (k : jx_J E l cd nL ret own ini Rm mc ms Q cells slots n kd R I tgt lv st) : jx_J E l cd nL ret own ini Rm mc ms Q cells slots n kd R I pc lv (.int x :: st) := by
  intro p e s m args below meth c Z X hZ H locs ls hN hW hS hl
  exact lv_lookup X.1 X.2.1 hd hq ho ht (k p e s m args below meth c Z X hZ H locs ls hN hW hS hl)
theorem j_ret {v : Option Value} (hd : jx_isRet cd pc ret v) (h : Q v n kd R I) (hs : v.toList = st) : jx_J E l cd nL ret own ini Rm mc ms Q mc ms n kd R I pc lv st := by
  subst hs
  intro p e s m args below meth c Z X hZ H locs ls hN hW hS hl
  exact hZ v n kd R I H locs pc ls h hN hW hS hd
theorem j_ireturn {x : Int32} {ty : FieldType} (hd : decode cd pc = .ok (.ireturn, 1)) (hr : ret = some ty) (hn : narrow ty (.int x) = .int x) (h : Q (some (.int x)) n kd R I) : jx_J E l cd nL ret own ini Rm mc ms Q mc ms n kd R I pc lv [.int x] :=
  j_ret (v := some (.int x)) (Or.inl ⟨hd, x, ty, rfl, hr, hn⟩) h rfl
theorem j_return (hd : decode cd pc = .ok (.return_, 1)) (hr : ret = none) (h : Q none n kd R I) : jx_J E l cd nL ret own ini Rm mc ms Q mc ms n kd R I pc lv [] :=
  j_ret (v := none) (Or.inr (Or.inl ⟨hd, rfl, hr⟩)) h rfl
theorem j_areturn {a : Nat} {nm : String} (hd : decode cd pc = .ok (.areturn, 1)) (hr : ret = some (.object nm)) (h : Q (some (.ref a)) n kd R I) : jx_J E l cd nL ret own ini Rm mc ms Q mc ms n kd R I pc lv [.ref a] :=
  j_ret (v := some (.ref a)) (Or.inr (Or.inr (Or.inl ⟨hd, a, nm, rfl, hr⟩))) h rfl
theorem j_lreturn {x : Int64} (hd : decode cd pc = .ok (.lreturn, 1)) (hr : ret = some .long) (h : Q (some (.long x)) n kd R I) : jx_J E l cd nL ret own ini Rm mc ms Q mc ms n kd R I pc lv [.long x] :=
  j_ret (v := some (.long x)) (Or.inr (Or.inr (Or.inr (Or.inl ⟨hd, x, rfl, hr⟩)))) h rfl
theorem j_freturn {x : UInt32} (hd : decode cd pc = .ok (.freturn, 1)) (hr : ret = some .float) (h : Q (some (.float x)) n kd R I) : jx_J E l cd nL ret own ini Rm mc ms Q mc ms n kd R I pc lv [.float x] :=
  j_ret (v := some (.float x)) (Or.inr (Or.inr (Or.inr (Or.inr ⟨hd, x, rfl, hr⟩)))) h rfl
theorem j_eqI {I' : jx_I} (h : I = I') (k : jx_J E l cd nL ret own ini Rm mc ms Q cells slots n kd R I' pc lv st) : jx_J E l cd nL ret own ini Rm mc ms Q cells slots n kd R I pc lv st := h ▸ k
/-- a field's reference: the reading class, its entry, the object's class and place, whether it is a reference, its type, whether it is final -/
def jx_fl (own : String) (ix ci k : Nat) (b : Bool) (ty : FieldType) (fin : Bool) : Prop :=
  ∃ (C : String) (T : u_T) (N : Nat) (tys : Nat → FieldType), ci < 7 ∧ vwCl[ci]? = some (C, T, N) ∧ (∀ w ∈ u_ws C T N, w ∈ jx_W) ∧ (∀ k, k < N → parseFieldDescriptor (T k).2.2.1 = some (tys k)) ∧ (∀ a, a < N → ∀ b, b < N → a ≠ b → (T a).2.1 ≠ (T b).2.1) ∧ k < N ∧ (jx_lay ci)[k]? = some b ∧ Cond.fieldLink own ix (T k).1 (T k).2.1 (T k).2.2.1 ∈ jx_W ∧ N = (jx_lay ci).length ∧ parseFieldDescriptor (T k).2.2.1 = some ty ∧ (T k).2.2.2 = fin ∧ (T k).1 = C
theorem j_getI {ix ci k0 a mm : Nat} {ty : FieldType} {fin : Bool} (hf : jx_fl own ix ci k0 false ty fin) (hk : kd a = (ci, mm)) (hd : decode cd pc = .ok (.getfield ix, 3)) (hp : pc + 3 = pc') (k : jx_J E l cd nL ret own ini Rm mc ms Q cells slots n kd R I pc' lv (.int (I a k0) :: st)) : jx_J E l cd nL ret own ini Rm mc ms Q cells slots n kd R I pc lv (.ref a :: st) := by
  subst hp
  intro p e s m args below meth c Z X hZ H locs ls hN hW hS hl
  obtain ⟨C, T, N, tys, hci, hc, hin, hty, hnm, hkN, hlay, hlk, hNl, hdt, hfin, hC⟩ := hf
  obtain ⟨q0, hq0⟩ := jx_at hW (a := a) (by rw [hk]; show ci ≤ 10; omega)
  rw [jx_pf_obj hci hk] at hq0
  refine va_get X.1 X.2.1 (X.2.2.2.2.2.2.2.1) hin X.2.2.2.2.2.1 X.2.2.2.2.2.2.2.2.1.1 hW.2 q0 hq0 hc k0 hkN (X.2.2.2.2.2.2.2.1 _ hlk) (fun _ h => h) (v := .int (I a k0)) ?_ hd (k p e s m args below meth c Z X hZ H locs ls hN hW hS hl)
  rw [jx_fs_i _ _ _ _ _ hlay, Nat.zero_add]
theorem j_getR {ix ci k0 a mm q : Nat} {ty : FieldType} {fin : Bool} (hf : jx_fl own ix ci k0 true ty fin) (hk : kd a = (ci, mm)) (hr : R a k0 = some q) (hd : decode cd pc = .ok (.getfield ix, 3)) (hp : pc + 3 = pc') (k : jx_J E l cd nL ret own ini Rm mc ms Q cells slots n kd R I pc' lv (.ref q :: st)) : jx_J E l cd nL ret own ini Rm mc ms Q cells slots n kd R I pc lv (.ref a :: st) := by
  subst hp
  intro p e s m args below meth c Z X hZ H locs ls hN hW hS hl
  obtain ⟨C, T, N, tys, hci, hc, hin, hty, hnm, hkN, hlay, hlk, hNl, hdt, hfin, hC⟩ := hf
  obtain ⟨q0, hq0⟩ := jx_at hW (a := a) (by rw [hk]; show ci ≤ 10; omega)
  rw [jx_pf_obj hci hk] at hq0
  refine va_get X.1 X.2.1 (X.2.2.2.2.2.2.2.1) hin X.2.2.2.2.2.1 X.2.2.2.2.2.2.2.2.1.1 hW.2 q0 hq0 hc k0 hkN (X.2.2.2.2.2.2.2.1 _ hlk) (fun _ h => h) (v := .ref q) ?_ hd (k p e s m args below meth c Z X hZ H locs ls hN hW hS hl)
  rw [jx_fs_r _ _ _ _ _ hlay, Nat.zero_add, hr]
  rfl
theorem j_putI {ix ci k0 a mm : Nat} {ty : FieldType} {x : Int32} (hf : jx_fl own ix ci k0 false ty false) (hk : kd a = (ci, mm)) (hn : narrow ty (.int x) = .int x) (hfit : fits ty (.int x) = true) (hd : decode cd pc = .ok (.putfield ix, 3)) (hp : pc + 3 = pc') (k : jx_J E l cd nL ret own ini Rm mc ms Q cells slots n kd R (jx_up I a k0 x) pc' lv st) : jx_J E l cd nL ret own ini Rm mc ms Q cells slots n kd R I pc lv (.int x :: .ref a :: st) := by
  subst hp
  intro p e s m args below meth c Z X hZ H locs ls hN hW hS hl
  obtain ⟨C, T, N, tys, hci, hc, hin, hty, hnm, hkN, hlay, hlk, hNl, hdt, hfin, hC⟩ := hf
  have ha : (kd a).1 ≤ 10 := by rw [hk]; show ci ≤ 10; omega
  obtain ⟨q0, hq0⟩ := jx_at hW ha
  have hq1 := hq0
  rw [jx_pf_obj hci hk] at hq0
  refine va_put X.1 X.2.1 (X.2.2.2.2.2.2.2.1) hin tys hty hnm X.2.2.2.2.2.1 X.2.2.2.2.2.2.2.2.1.1 hW.2 (jx_D E n _) hS q0 hq0 hc k0 hkN (X.2.2.2.2.2.2.2.1 _ hlk) (fun _ h => h) hfin hdt hn hfit (by rw [jx_fs_len]; omega) hd (fun H1 locs1 hP1 _ hS1 => ?_)
  refine k p e s m args below meth c Z X hZ H1 locs1 ls hN ?_ hS1 hl
  rw [jx_fs_setI _ _ _ _ _ _ hlay] at hP1
  refine jx_Wd_set hW ha hq1 hP1 (jx_pf_upI ?_)
  rw [hk, jx_cell, if_neg (by show ¬ ci = 7; omega), if_neg (by show ¬ ci = 8; omega), if_neg (by show ¬ ci = 9; omega), if_neg (by show ¬ ci = 10; omega), Nat.zero_add]
end JR
