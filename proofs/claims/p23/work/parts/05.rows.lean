section EX
variable {G : GG} {l : Launch} {X : CT} {Q : State → Prop} {d mc ms cs sl : Nat} {cc : ByteArray} {own : String} {nL : Nat} {ret : Option FieldType} {h : HP} {z pc : Nat} {lv : List (Nat × Value)} {st : List Value}
theorem ex_iconst {n : Int} {v : Int32} (dg : decode cc pc = .ok (.iconst n, 1)) (hv : Int32.ofInt n = v) (k1 : ex G l X Q d mc ms cs sl cc own nL ret h z (pc + 1) lv (.int v :: st)) : ex G l X Q d mc ms cs sl cc own nL ret h z pc lv (st) :=
  fun H locs ls F R S L => lv_iconst F.1 F.2.1 dg hv (k1 H locs ls F R S L)
theorem ex_bipush {n : Int} {v : Int32} (dg : decode cc pc = .ok (.bipush n, 2)) (hv : (Int8.ofInt n).toInt32 = v) (k1 : ex G l X Q d mc ms cs sl cc own nL ret h z (pc + 2) lv (.int v :: st)) : ex G l X Q d mc ms cs sl cc own nL ret h z pc lv (st) :=
  fun H locs ls F R S L => lv_bipush F.1 F.2.1 dg hv (k1 H locs ls F R S L)
theorem ex_sipush {n : Int} {v : Int32} (dg : decode cc pc = .ok (.sipush n, 3)) (hv : (Int16.ofInt n).toInt32 = v) (k1 : ex G l X Q d mc ms cs sl cc own nL ret h z (pc + 3) lv (.int v :: st)) : ex G l X Q d mc ms cs sl cc own nL ret h z pc lv (st) :=
  fun H locs ls F R S L => lv_sipush F.1 F.2.1 dg hv (k1 H locs ls F R S L)
theorem ex_lconst {n : Fin 2} {v : Int64} (dg : decode cc pc = .ok (.lconst n, 1)) (hv : Int64.ofNat (n : Nat) = v) (k1 : ex G l X Q d mc ms cs sl cc own nL ret h z (pc + 1) lv (.long v :: st)) : ex G l X Q d mc ms cs sl cc own nL ret h z pc lv (st) :=
  fun H locs ls F R S L => lv_lconst F.1 F.2.1 dg hv (k1 H locs ls F R S L)
theorem ex_null  (dg : decode cc pc = .ok (.aconst_null, 1)) (k1 : ex G l X Q d mc ms cs sl cc own nL ret h z (pc + 1) lv (.null :: st)) : ex G l X Q d mc ms cs sl cc own nL ret h z pc lv (st) :=
  fun H locs ls F R S L => lv_null F.1 F.2.1 dg (k1 H locs ls F R S L)
theorem ex_ldc {index : Nat} {v : Int32} (dg : decode cc pc = .ok (.ldc index, 2)) (hc : Cond.constant own index v ∈ TW) (k1 : ex G l X Q d mc ms cs sl cc own nL ret h z (pc + 2) lv (.int v :: st)) : ex G l X Q d mc ms cs sl cc own nL ret h z pc lv (st) :=
  fun H locs ls F R S L => lv_ldc F.1 F.2.1 F.2.2.2.1 (F.2.2.2.2.1 _ hc) dg (k1 H locs ls F R S L)
theorem ex_ldc2 {index : Nat} {v : Int64} (dg : decode cc pc = .ok (.ldc2_w index, 3)) (hc : Cond.constantLong own index v ∈ TW) (k1 : ex G l X Q d mc ms cs sl cc own nL ret h z (pc + 3) lv (.long v :: st)) : ex G l X Q d mc ms cs sl cc own nL ret h z pc lv (st) :=
  fun H locs ls F R S L => lv_ldc2 F.1 F.2.1 F.2.2.2.1 (F.2.2.2.2.1 _ hc) dg (k1 H locs ls F R S L)
theorem ex_iload_n {k : Fin 4} {i : Nat} {x : Int32} (q : Nat) (dg : decode cc pc = .ok (.iload_n k, 1)) (hi : (k : Nat) = i) (hq : lv[q]? = some (i, .int x)) (k1 : ex G l X Q d mc ms cs sl cc own nL ret h z (pc + 1) lv (.int x :: st)) : ex G l X Q d mc ms cs sl cc own nL ret h z pc lv (st) :=
  fun H locs ls F R S L => lv_iload_n F.1 F.2.1 dg hi (lv_at L q hq) (k1 H locs ls F R S L)
theorem ex_iload {i : Nat} {x : Int32} (q : Nat) (dg : decode cc pc = .ok (.iload i, 2)) (hq : lv[q]? = some (i, .int x)) (k1 : ex G l X Q d mc ms cs sl cc own nL ret h z (pc + 2) lv (.int x :: st)) : ex G l X Q d mc ms cs sl cc own nL ret h z pc lv (st) :=
  fun H locs ls F R S L => lv_iload F.1 F.2.1 dg (lv_at L q hq) (k1 H locs ls F R S L)
theorem ex_lload_n {k : Fin 4} {i : Nat} {x : Int64} (q : Nat) (dg : decode cc pc = .ok (.lload_n k, 1)) (hi : (k : Nat) = i) (hq : lv[q]? = some (i, .long x)) (k1 : ex G l X Q d mc ms cs sl cc own nL ret h z (pc + 1) lv (.long x :: st)) : ex G l X Q d mc ms cs sl cc own nL ret h z pc lv (st) :=
  fun H locs ls F R S L => lv_lload_n F.1 F.2.1 dg hi (lv_at L q hq) (k1 H locs ls F R S L)
theorem ex_lload {i : Nat} {x : Int64} (q : Nat) (dg : decode cc pc = .ok (.lload i, 2)) (hq : lv[q]? = some (i, .long x)) (k1 : ex G l X Q d mc ms cs sl cc own nL ret h z (pc + 2) lv (.long x :: st)) : ex G l X Q d mc ms cs sl cc own nL ret h z pc lv (st) :=
  fun H locs ls F R S L => lv_lload F.1 F.2.1 dg (lv_at L q hq) (k1 H locs ls F R S L)
theorem ex_aload_n {k : Fin 4} {i : Nat} {x : Nat} (q : Nat) (dg : decode cc pc = .ok (.aload_n k, 1)) (hi : (k : Nat) = i) (hq : lv[q]? = some (i, .ref x)) (k1 : ex G l X Q d mc ms cs sl cc own nL ret h z (pc + 1) lv (.ref x :: st)) : ex G l X Q d mc ms cs sl cc own nL ret h z pc lv (st) :=
  fun H locs ls F R S L => lv_aload_n F.1 F.2.1 dg hi (lv_at L q hq) (k1 H locs ls F R S L)
theorem ex_aload {i : Nat} {x : Nat} (q : Nat) (dg : decode cc pc = .ok (.aload i, 2)) (hq : lv[q]? = some (i, .ref x)) (k1 : ex G l X Q d mc ms cs sl cc own nL ret h z (pc + 2) lv (.ref x :: st)) : ex G l X Q d mc ms cs sl cc own nL ret h z pc lv (st) :=
  fun H locs ls F R S L => lv_aload F.1 F.2.1 dg (lv_at L q hq) (k1 H locs ls F R S L)
theorem ex_aload_nN {k : Fin 4} {i : Nat} (q : Nat) (dg : decode cc pc = .ok (.aload_n k, 1)) (hi : (k : Nat) = i) (hq : lv[q]? = some (i, .null)) (k1 : ex G l X Q d mc ms cs sl cc own nL ret h z (pc + 1) lv (.null :: st)) : ex G l X Q d mc ms cs sl cc own nL ret h z pc lv (st) :=
  fun H locs ls F R S L => lv_aload_nN F.1 F.2.1 dg hi (lv_at L q hq) (k1 H locs ls F R S L)
theorem ex_aloadN {i : Nat} (q : Nat) (dg : decode cc pc = .ok (.aload i, 2)) (hq : lv[q]? = some (i, .null)) (k1 : ex G l X Q d mc ms cs sl cc own nL ret h z (pc + 2) lv (.null :: st)) : ex G l X Q d mc ms cs sl cc own nL ret h z pc lv (st) :=
  fun H locs ls F R S L => lv_aloadN F.1 F.2.1 dg (lv_at L q hq) (k1 H locs ls F R S L)
theorem ex_istore_n {k : Fin 4} {i : Nat} {x : Int32} {lv' : List (Nat × Value)} (dg : decode cc pc = .ok (.istore_n k, 1)) (hi : (k : Nat) = i) (hn : i < nL) (hl : (i, Value.int x) :: lv.filter (fun q => !(q.1 == i) && !(q.1 + 1 == i && q.2.category == 2)) = lv') (k1 : ex G l X Q d mc ms cs sl cc own nL ret h z (pc + 1) lv' (st)) : ex G l X Q d mc ms cs sl cc own nL ret h z pc lv (.int x :: st) :=
  fun H locs ls F R S L => lv_istore_n F.1 F.2.1 dg hi L hn hl (fun ls L => k1 H locs ls F R S L)
theorem ex_istore {i : Nat} {x : Int32} {lv' : List (Nat × Value)} (dg : decode cc pc = .ok (.istore i, 2)) (hn : i < nL) (hl : (i, Value.int x) :: lv.filter (fun q => !(q.1 == i) && !(q.1 + 1 == i && q.2.category == 2)) = lv') (k1 : ex G l X Q d mc ms cs sl cc own nL ret h z (pc + 2) lv' (st)) : ex G l X Q d mc ms cs sl cc own nL ret h z pc lv (.int x :: st) :=
  fun H locs ls F R S L => lv_istore F.1 F.2.1 dg L hn hl (fun ls L => k1 H locs ls F R S L)
theorem ex_lstore_n {k : Fin 4} {i : Nat} {x : Int64} {lv' : List (Nat × Value)} (dg : decode cc pc = .ok (.lstore_n k, 1)) (hi : (k : Nat) = i) (hn : i + 1 < nL) (hl : (i, Value.long x) :: lv.filter (fun q => !(q.1 == i) && (!(q.1 == i + 1) && !(q.1 + 1 == i && q.2.category == 2))) = lv') (k1 : ex G l X Q d mc ms cs sl cc own nL ret h z (pc + 1) lv' (st)) : ex G l X Q d mc ms cs sl cc own nL ret h z pc lv (.long x :: st) :=
  fun H locs ls F R S L => lv_lstore_n F.1 F.2.1 dg hi L hn hl (fun ls L => k1 H locs ls F R S L)
theorem ex_lstore {i : Nat} {x : Int64} {lv' : List (Nat × Value)} (dg : decode cc pc = .ok (.lstore i, 2)) (hn : i + 1 < nL) (hl : (i, Value.long x) :: lv.filter (fun q => !(q.1 == i) && (!(q.1 == i + 1) && !(q.1 + 1 == i && q.2.category == 2))) = lv') (k1 : ex G l X Q d mc ms cs sl cc own nL ret h z (pc + 2) lv' (st)) : ex G l X Q d mc ms cs sl cc own nL ret h z pc lv (.long x :: st) :=
  fun H locs ls F R S L => lv_lstore F.1 F.2.1 dg L hn hl (fun ls L => k1 H locs ls F R S L)
theorem ex_astore_n {k : Fin 4} {i : Nat} {x : Nat} {lv' : List (Nat × Value)} (dg : decode cc pc = .ok (.astore_n k, 1)) (hi : (k : Nat) = i) (hn : i < nL) (hl : (i, Value.ref x) :: lv.filter (fun q => !(q.1 == i) && !(q.1 + 1 == i && q.2.category == 2)) = lv') (k1 : ex G l X Q d mc ms cs sl cc own nL ret h z (pc + 1) lv' (st)) : ex G l X Q d mc ms cs sl cc own nL ret h z pc lv (.ref x :: st) :=
  fun H locs ls F R S L => lv_astore_n F.1 F.2.1 dg hi L hn hl (fun ls L => k1 H locs ls F R S L)
theorem ex_astore {i : Nat} {x : Nat} {lv' : List (Nat × Value)} (dg : decode cc pc = .ok (.astore i, 2)) (hn : i < nL) (hl : (i, Value.ref x) :: lv.filter (fun q => !(q.1 == i) && !(q.1 + 1 == i && q.2.category == 2)) = lv') (k1 : ex G l X Q d mc ms cs sl cc own nL ret h z (pc + 2) lv' (st)) : ex G l X Q d mc ms cs sl cc own nL ret h z pc lv (.ref x :: st) :=
  fun H locs ls F R S L => lv_astore F.1 F.2.1 dg L hn hl (fun ls L => k1 H locs ls F R S L)
theorem ex_astore_nN {k : Fin 4} {i : Nat} {lv' : List (Nat × Value)} (dg : decode cc pc = .ok (.astore_n k, 1)) (hi : (k : Nat) = i) (hn : i < nL) (hl : (i, Value.null) :: lv.filter (fun q => !(q.1 == i) && !(q.1 + 1 == i && q.2.category == 2)) = lv') (k1 : ex G l X Q d mc ms cs sl cc own nL ret h z (pc + 1) lv' (st)) : ex G l X Q d mc ms cs sl cc own nL ret h z pc lv (.null :: st) :=
  fun H locs ls F R S L => lv_astore_nN F.1 F.2.1 dg hi L hn hl (fun ls L => k1 H locs ls F R S L)
theorem ex_astoreN {i : Nat} {lv' : List (Nat × Value)} (dg : decode cc pc = .ok (.astore i, 2)) (hn : i < nL) (hl : (i, Value.null) :: lv.filter (fun q => !(q.1 == i) && !(q.1 + 1 == i && q.2.category == 2)) = lv') (k1 : ex G l X Q d mc ms cs sl cc own nL ret h z (pc + 2) lv' (st)) : ex G l X Q d mc ms cs sl cc own nL ret h z pc lv (.null :: st) :=
  fun H locs ls F R S L => lv_astoreN F.1 F.2.1 dg L hn hl (fun ls L => k1 H locs ls F R S L)
theorem ex_iinc {i : Nat} {n : Int} {x v : Int32} {lv' : List (Nat × Value)} (q : Nat) (dg : decode cc pc = .ok (.iinc i n, 3)) (hq : lv[q]? = some (i, .int x)) (hv : x + Int32.ofInt n = v) (hn : i < nL) (hl : (i, Value.int v) :: lv.filter (fun q => !(q.1 == i) && !(q.1 + 1 == i && q.2.category == 2)) = lv') (k1 : ex G l X Q d mc ms cs sl cc own nL ret h z (pc + 3) lv' (st)) : ex G l X Q d mc ms cs sl cc own nL ret h z pc lv (st) :=
  fun H locs ls F R S L => lv_iinc F.1 F.2.1 dg L hq hv hn hl (fun ls L => k1 H locs ls F R S L)
theorem ex_iadd {x y : Int32} (dg : decode cc pc = .ok (.iadd, 1)) (k1 : ex G l X Q d mc ms cs sl cc own nL ret h z (pc + 1) lv (.int (x + y) :: st)) : ex G l X Q d mc ms cs sl cc own nL ret h z pc lv (.int y :: .int x :: st) :=
  fun H locs ls F R S L => lv_iadd F.1 F.2.1 dg (k1 H locs ls F R S L)
theorem ex_isub {x y : Int32} (dg : decode cc pc = .ok (.isub, 1)) (k1 : ex G l X Q d mc ms cs sl cc own nL ret h z (pc + 1) lv (.int (x - y) :: st)) : ex G l X Q d mc ms cs sl cc own nL ret h z pc lv (.int y :: .int x :: st) :=
  fun H locs ls F R S L => lv_isub F.1 F.2.1 dg (k1 H locs ls F R S L)
theorem ex_imul {x y : Int32} (dg : decode cc pc = .ok (.imul, 1)) (k1 : ex G l X Q d mc ms cs sl cc own nL ret h z (pc + 1) lv (.int (x * y) :: st)) : ex G l X Q d mc ms cs sl cc own nL ret h z pc lv (.int y :: .int x :: st) :=
  fun H locs ls F R S L => lv_imul F.1 F.2.1 dg (k1 H locs ls F R S L)
theorem ex_iand {x y : Int32} (dg : decode cc pc = .ok (.iand, 1)) (k1 : ex G l X Q d mc ms cs sl cc own nL ret h z (pc + 1) lv (.int (x &&& y) :: st)) : ex G l X Q d mc ms cs sl cc own nL ret h z pc lv (.int y :: .int x :: st) :=
  fun H locs ls F R S L => lv_iand F.1 F.2.1 dg (k1 H locs ls F R S L)
theorem ex_iaddN {a b : Nat} (dg : decode cc pc = .ok (.iadd, 1)) (k1 : ex G l X Q d mc ms cs sl cc own nL ret h z (pc + 1) lv (.int (nI (a + b)) :: st)) : ex G l X Q d mc ms cs sl cc own nL ret h z pc lv (.int (nI b) :: .int (nI a) :: st) :=
  fun H locs ls F R S L => lv_iadd F.1 F.2.1 dg (by rw [nI_add]; exact (k1 H locs ls F R S L))
theorem ex_imulN {a b : Nat} (dg : decode cc pc = .ok (.imul, 1)) (k1 : ex G l X Q d mc ms cs sl cc own nL ret h z (pc + 1) lv (.int (nI (a * b)) :: st)) : ex G l X Q d mc ms cs sl cc own nL ret h z pc lv (.int (nI b) :: .int (nI a) :: st) :=
  fun H locs ls F R S L => lv_imul F.1 F.2.1 dg (by rw [pk_mul]; exact (k1 H locs ls F R S L))
theorem ex_isubN {a b : Nat} (dg : decode cc pc = .ok (.isub, 1)) (hba : b ≤ a) (k1 : ex G l X Q d mc ms cs sl cc own nL ret h z (pc + 1) lv (.int (nI (a - b)) :: st)) : ex G l X Q d mc ms cs sl cc own nL ret h z pc lv (.int (nI b) :: .int (nI a) :: st) :=
  fun H locs ls F R S L => lv_isub F.1 F.2.1 dg (by rw [pk_sub hba]; exact (k1 H locs ls F R S L))
theorem ex_idiv {x y : Int32} (dg : decode cc pc = .ok (.idiv, 1)) (hne : ¬ y = 0) (k1 : ex G l X Q d mc ms cs sl cc own nL ret h z (pc + 1) lv (.int (x / y) :: st)) : ex G l X Q d mc ms cs sl cc own nL ret h z pc lv (.int y :: .int x :: st) :=
  fun H locs ls F R S L => lv_idiv F.1 F.2.1 dg hne (k1 H locs ls F R S L)
theorem ex_irem {x y : Int32} (dg : decode cc pc = .ok (.irem, 1)) (hne : ¬ y = 0) (k1 : ex G l X Q d mc ms cs sl cc own nL ret h z (pc + 1) lv (.int (x - x / y * y) :: st)) : ex G l X Q d mc ms cs sl cc own nL ret h z pc lv (.int y :: .int x :: st) :=
  fun H locs ls F R S L => lv_irem F.1 F.2.1 dg hne (k1 H locs ls F R S L)
theorem ex_i2l {x : Int32} {v : Int64} (dg : decode cc pc = .ok (.i2l, 1)) (hv : x.toInt64 = v) (k1 : ex G l X Q d mc ms cs sl cc own nL ret h z (pc + 1) lv (.long v :: st)) : ex G l X Q d mc ms cs sl cc own nL ret h z pc lv (.int x :: st) :=
  fun H locs ls F R S L => lv_i2l F.1 F.2.1 dg hv (k1 H locs ls F R S L)
theorem ex_l2i {x : Int64} {v : Int32} (dg : decode cc pc = .ok (.l2i, 1)) (hv : x.toInt32 = v) (k1 : ex G l X Q d mc ms cs sl cc own nL ret h z (pc + 1) lv (.int v :: st)) : ex G l X Q d mc ms cs sl cc own nL ret h z pc lv (.long x :: st) :=
  fun H locs ls F R S L => lv_l2i F.1 F.2.1 dg hv (k1 H locs ls F R S L)
theorem ex_i2c {x : Int32} {v : Int32} (dg : decode cc pc = .ok (.i2c, 1)) (hv : (x.toUInt32 % 65536).toInt32 = v) (k1 : ex G l X Q d mc ms cs sl cc own nL ret h z (pc + 1) lv (.int v :: st)) : ex G l X Q d mc ms cs sl cc own nL ret h z pc lv (.int x :: st) :=
  fun H locs ls F R S L => lv_i2c F.1 F.2.1 dg hv (k1 H locs ls F R S L)
theorem ex_land {x y : Int64} (dg : decode cc pc = .ok (.land, 1)) (k1 : ex G l X Q d mc ms cs sl cc own nL ret h z (pc + 1) lv (.long (x &&& y) :: st)) : ex G l X Q d mc ms cs sl cc own nL ret h z pc lv (.long y :: .long x :: st) :=
  fun H locs ls F R S L => lv_land F.1 F.2.1 dg (k1 H locs ls F R S L)
theorem ex_lor {x y : Int64} (dg : decode cc pc = .ok (.lor, 1)) (k1 : ex G l X Q d mc ms cs sl cc own nL ret h z (pc + 1) lv (.long (x ||| y) :: st)) : ex G l X Q d mc ms cs sl cc own nL ret h z pc lv (.long y :: .long x :: st) :=
  fun H locs ls F R S L => lv_lor F.1 F.2.1 dg (k1 H locs ls F R S L)
theorem ex_lushr {x v : Int64} {y : Int32} (dg : decode cc pc = .ok (.lushr, 1)) (hv : (x.toUInt64 >>> (y.toInt64.toUInt64 &&& Int64.toUInt64 63)).toInt64 = v) (k1 : ex G l X Q d mc ms cs sl cc own nL ret h z (pc + 1) lv (.long v :: st)) : ex G l X Q d mc ms cs sl cc own nL ret h z pc lv (.int y :: .long x :: st) :=
  fun H locs ls F R S L => lv_lushr F.1 F.2.1 dg hv (k1 H locs ls F R S L)
theorem ex_lshl {x v : Int64} {y : Int32} (dg : decode cc pc = .ok (.lshl, 1)) (hv : x <<< (y.toInt64 &&& 63) = v) (k1 : ex G l X Q d mc ms cs sl cc own nL ret h z (pc + 1) lv (.long v :: st)) : ex G l X Q d mc ms cs sl cc own nL ret h z pc lv (.int y :: .long x :: st) :=
  fun H locs ls F R S L => lv_lshl F.1 F.2.1 dg hv (k1 H locs ls F R S L)
theorem ex_lshr {x v : Int64} {y : Int32} (dg : decode cc pc = .ok (.lshr, 1)) (hv : x >>> (y.toInt64 &&& 63) = v) (k1 : ex G l X Q d mc ms cs sl cc own nL ret h z (pc + 1) lv (.long v :: st)) : ex G l X Q d mc ms cs sl cc own nL ret h z pc lv (.int y :: .long x :: st) :=
  fun H locs ls F R S L => lv_lshr F.1 F.2.1 dg hv (k1 H locs ls F R S L)
theorem ex_dup {va : Value} (dg : decode cc pc = .ok (.dup, 1)) (hva : va.category = 1) (k1 : ex G l X Q d mc ms cs sl cc own nL ret h z (pc + 1) lv (va :: va :: st)) : ex G l X Q d mc ms cs sl cc own nL ret h z pc lv (va :: st) :=
  fun H locs ls F R S L => lv_dup F.1 F.2.1 dg hva (k1 H locs ls F R S L)
theorem ex_pop {va : Value} (dg : decode cc pc = .ok (.pop, 1)) (hva : va.category = 1) (k1 : ex G l X Q d mc ms cs sl cc own nL ret h z (pc + 1) lv (st)) : ex G l X Q d mc ms cs sl cc own nL ret h z pc lv (va :: st) :=
  fun H locs ls F R S L => lv_pop F.1 F.2.1 dg hva (k1 H locs ls F R S L)
theorem ex_dup2 {va vb : Value} (dg : decode cc pc = .ok (.dup2, 1)) (hva : va.category = 1) (hvb : vb.category = 1) (k1 : ex G l X Q d mc ms cs sl cc own nL ret h z (pc + 1) lv (va :: vb :: va :: vb :: st)) : ex G l X Q d mc ms cs sl cc own nL ret h z pc lv (va :: vb :: st) :=
  fun H locs ls F R S L => lv_dup2_11 F.1 F.2.1 dg hva hvb (k1 H locs ls F R S L)
theorem ex_if_eq {x : Int32} {off : Int} {tgt : Nat} (dg : decode cc pc = .ok (.ifCond .eq off, 3)) (ht : (pc : Int) + off = (tgt : Int)) (kt : x = 0 → ex G l X Q d mc ms cs sl cc own nL ret h z tgt lv (st)) (kf : ¬ x = 0 → ex G l X Q d mc ms cs sl cc own nL ret h z (pc + 3) lv (st)) : ex G l X Q d mc ms cs sl cc own nL ret h z pc lv (.int x :: st) :=
  fun H locs ls F R S L => lv_if_eq F.1 F.2.1 dg ht (fun c => kt c H locs ls F R S L) (fun c => kf c H locs ls F R S L)
theorem ex_icmp_eq {x y : Int32} {off : Int} {tgt : Nat} (dg : decode cc pc = .ok (.if_icmp .eq off, 3)) (ht : (pc : Int) + off = (tgt : Int)) (kt : x = y → ex G l X Q d mc ms cs sl cc own nL ret h z tgt lv (st)) (kf : ¬ x = y → ex G l X Q d mc ms cs sl cc own nL ret h z (pc + 3) lv (st)) : ex G l X Q d mc ms cs sl cc own nL ret h z pc lv (.int y :: .int x :: st) :=
  fun H locs ls F R S L => lv_icmp_eq F.1 F.2.1 dg ht (fun c => kt c H locs ls F R S L) (fun c => kf c H locs ls F R S L)
theorem ex_if_ne {x : Int32} {off : Int} {tgt : Nat} (dg : decode cc pc = .ok (.ifCond .ne off, 3)) (ht : (pc : Int) + off = (tgt : Int)) (kt : ¬ x = 0 → ex G l X Q d mc ms cs sl cc own nL ret h z tgt lv (st)) (kf : x = 0 → ex G l X Q d mc ms cs sl cc own nL ret h z (pc + 3) lv (st)) : ex G l X Q d mc ms cs sl cc own nL ret h z pc lv (.int x :: st) :=
  fun H locs ls F R S L => lv_if_ne F.1 F.2.1 dg ht (fun c => kt c H locs ls F R S L) (fun c => kf c H locs ls F R S L)
theorem ex_icmp_ne {x y : Int32} {off : Int} {tgt : Nat} (dg : decode cc pc = .ok (.if_icmp .ne off, 3)) (ht : (pc : Int) + off = (tgt : Int)) (kt : ¬ x = y → ex G l X Q d mc ms cs sl cc own nL ret h z tgt lv (st)) (kf : x = y → ex G l X Q d mc ms cs sl cc own nL ret h z (pc + 3) lv (st)) : ex G l X Q d mc ms cs sl cc own nL ret h z pc lv (.int y :: .int x :: st) :=
  fun H locs ls F R S L => lv_icmp_ne F.1 F.2.1 dg ht (fun c => kt c H locs ls F R S L) (fun c => kf c H locs ls F R S L)
theorem ex_if_lt {x : Int32} {off : Int} {tgt : Nat} (dg : decode cc pc = .ok (.ifCond .lt off, 3)) (ht : (pc : Int) + off = (tgt : Int)) (kt : x < 0 → ex G l X Q d mc ms cs sl cc own nL ret h z tgt lv (st)) (kf : ¬ x < 0 → ex G l X Q d mc ms cs sl cc own nL ret h z (pc + 3) lv (st)) : ex G l X Q d mc ms cs sl cc own nL ret h z pc lv (.int x :: st) :=
  fun H locs ls F R S L => lv_if_lt F.1 F.2.1 dg ht (fun c => kt c H locs ls F R S L) (fun c => kf c H locs ls F R S L)
theorem ex_icmp_lt {x y : Int32} {off : Int} {tgt : Nat} (dg : decode cc pc = .ok (.if_icmp .lt off, 3)) (ht : (pc : Int) + off = (tgt : Int)) (kt : x < y → ex G l X Q d mc ms cs sl cc own nL ret h z tgt lv (st)) (kf : ¬ x < y → ex G l X Q d mc ms cs sl cc own nL ret h z (pc + 3) lv (st)) : ex G l X Q d mc ms cs sl cc own nL ret h z pc lv (.int y :: .int x :: st) :=
  fun H locs ls F R S L => lv_icmp_lt F.1 F.2.1 dg ht (fun c => kt c H locs ls F R S L) (fun c => kf c H locs ls F R S L)
theorem ex_if_ge {x : Int32} {off : Int} {tgt : Nat} (dg : decode cc pc = .ok (.ifCond .ge off, 3)) (ht : (pc : Int) + off = (tgt : Int)) (kt : 0 ≤ x → ex G l X Q d mc ms cs sl cc own nL ret h z tgt lv (st)) (kf : ¬ 0 ≤ x → ex G l X Q d mc ms cs sl cc own nL ret h z (pc + 3) lv (st)) : ex G l X Q d mc ms cs sl cc own nL ret h z pc lv (.int x :: st) :=
  fun H locs ls F R S L => lv_if_ge F.1 F.2.1 dg ht (fun c => kt c H locs ls F R S L) (fun c => kf c H locs ls F R S L)
theorem ex_icmp_ge {x y : Int32} {off : Int} {tgt : Nat} (dg : decode cc pc = .ok (.if_icmp .ge off, 3)) (ht : (pc : Int) + off = (tgt : Int)) (kt : y ≤ x → ex G l X Q d mc ms cs sl cc own nL ret h z tgt lv (st)) (kf : ¬ y ≤ x → ex G l X Q d mc ms cs sl cc own nL ret h z (pc + 3) lv (st)) : ex G l X Q d mc ms cs sl cc own nL ret h z pc lv (.int y :: .int x :: st) :=
  fun H locs ls F R S L => lv_icmp_ge F.1 F.2.1 dg ht (fun c => kt c H locs ls F R S L) (fun c => kf c H locs ls F R S L)
theorem ex_if_gt {x : Int32} {off : Int} {tgt : Nat} (dg : decode cc pc = .ok (.ifCond .gt off, 3)) (ht : (pc : Int) + off = (tgt : Int)) (kt : 0 < x → ex G l X Q d mc ms cs sl cc own nL ret h z tgt lv (st)) (kf : ¬ 0 < x → ex G l X Q d mc ms cs sl cc own nL ret h z (pc + 3) lv (st)) : ex G l X Q d mc ms cs sl cc own nL ret h z pc lv (.int x :: st) :=
  fun H locs ls F R S L => lv_if_gt F.1 F.2.1 dg ht (fun c => kt c H locs ls F R S L) (fun c => kf c H locs ls F R S L)
theorem ex_icmp_gt {x y : Int32} {off : Int} {tgt : Nat} (dg : decode cc pc = .ok (.if_icmp .gt off, 3)) (ht : (pc : Int) + off = (tgt : Int)) (kt : y < x → ex G l X Q d mc ms cs sl cc own nL ret h z tgt lv (st)) (kf : ¬ y < x → ex G l X Q d mc ms cs sl cc own nL ret h z (pc + 3) lv (st)) : ex G l X Q d mc ms cs sl cc own nL ret h z pc lv (.int y :: .int x :: st) :=
  fun H locs ls F R S L => lv_icmp_gt F.1 F.2.1 dg ht (fun c => kt c H locs ls F R S L) (fun c => kf c H locs ls F R S L)
theorem ex_if_le {x : Int32} {off : Int} {tgt : Nat} (dg : decode cc pc = .ok (.ifCond .le off, 3)) (ht : (pc : Int) + off = (tgt : Int)) (kt : x ≤ 0 → ex G l X Q d mc ms cs sl cc own nL ret h z tgt lv (st)) (kf : ¬ x ≤ 0 → ex G l X Q d mc ms cs sl cc own nL ret h z (pc + 3) lv (st)) : ex G l X Q d mc ms cs sl cc own nL ret h z pc lv (.int x :: st) :=
  fun H locs ls F R S L => lv_if_le F.1 F.2.1 dg ht (fun c => kt c H locs ls F R S L) (fun c => kf c H locs ls F R S L)
theorem ex_icmp_le {x y : Int32} {off : Int} {tgt : Nat} (dg : decode cc pc = .ok (.if_icmp .le off, 3)) (ht : (pc : Int) + off = (tgt : Int)) (kt : x ≤ y → ex G l X Q d mc ms cs sl cc own nL ret h z tgt lv (st)) (kf : ¬ x ≤ y → ex G l X Q d mc ms cs sl cc own nL ret h z (pc + 3) lv (st)) : ex G l X Q d mc ms cs sl cc own nL ret h z pc lv (.int y :: .int x :: st) :=
  fun H locs ls F R S L => lv_icmp_le F.1 F.2.1 dg ht (fun c => kt c H locs ls F R S L) (fun c => kf c H locs ls F R S L)
theorem ex_goto {off : Int} {tgt : Nat} (dg : decode cc pc = .ok (.goto off, 3)) (ht : (pc : Int) + off = (tgt : Int)) (k1 : ex G l X Q d mc ms cs sl cc own nL ret h z tgt lv (st)) : ex G l X Q d mc ms cs sl cc own nL ret h z pc lv (st) :=
  fun H locs ls F R S L => lv_goto F.1 F.2.1 dg ht (k1 H locs ls F R S L)
theorem ex_ifnonnull {x : Nat} {off : Int} {tgt : Nat} (dg : decode cc pc = .ok (.ifnonnull off, 3)) (ht : (pc : Int) + off = (tgt : Int)) (k1 : ex G l X Q d mc ms cs sl cc own nL ret h z tgt lv (st)) : ex G l X Q d mc ms cs sl cc own nL ret h z pc lv (.ref x :: st) :=
  fun H locs ls F R S L => lv_ifnonnull F.1 F.2.1 dg ht (k1 H locs ls F R S L)
theorem ex_ifnonnullN {off : Int} (dg : decode cc pc = .ok (.ifnonnull off, 3)) (k1 : ex G l X Q d mc ms cs sl cc own nL ret h z (pc + 3) lv (st)) : ex G l X Q d mc ms cs sl cc own nL ret h z pc lv (.null :: st) :=
  fun H locs ls F R S L => lv_ifnonnullN F.1 F.2.1 dg (k1 H locs ls F R S L)
theorem ex_ifnull {x : Nat} {off : Int} (dg : decode cc pc = .ok (.ifnull off, 3)) (k1 : ex G l X Q d mc ms cs sl cc own nL ret h z (pc + 3) lv (st)) : ex G l X Q d mc ms cs sl cc own nL ret h z pc lv (.ref x :: st) :=
  fun H locs ls F R S L => lv_ifnull F.1 F.2.1 dg (k1 H locs ls F R S L)
theorem ex_ifnullN {off : Int} {tgt : Nat} (dg : decode cc pc = .ok (.ifnull off, 3)) (ht : (pc : Int) + off = (tgt : Int)) (k1 : ex G l X Q d mc ms cs sl cc own nL ret h z tgt lv (st)) : ex G l X Q d mc ms cs sl cc own nL ret h z pc lv (.null :: st) :=
  fun H locs ls F R S L => lv_ifnullN F.1 F.2.1 dg ht (k1 H locs ls F R S L)
theorem ex_tableOut {dflt lo hi : Int} {offs : Array Int} {len : Nat} {x : Int32} {tgt : Nat} (dg : decode cc pc = .ok (.tableswitch dflt lo hi offs, len)) (hx : x.toInt < lo ∨ hi < x.toInt) (ht : (pc : Int) + dflt = (tgt : Int)) (k1 : ex G l X Q d mc ms cs sl cc own nL ret h z tgt lv (st)) : ex G l X Q d mc ms cs sl cc own nL ret h z pc lv (.int x :: st) :=
  fun H locs ls F R S L => lv_tableOut F.1 F.2.1 dg hx ht (k1 H locs ls F R S L)
theorem ex_tableIn {dflt lo hi : Int} {offs : Array Int} {len : Nat} {x : Int32} {off : Int} {tgt : Nat} (dg : decode cc pc = .ok (.tableswitch dflt lo hi offs, len)) (h1 : ¬ x.toInt < lo) (h2 : ¬ hi < x.toInt) (ho : offs[(x.toInt - lo).toNat]? = some off) (ht : (pc : Int) + off = (tgt : Int)) (k1 : ex G l X Q d mc ms cs sl cc own nL ret h z tgt lv (st)) : ex G l X Q d mc ms cs sl cc own nL ret h z pc lv (.int x :: st) :=
  fun H locs ls F R S L => lv_tableIn F.1 F.2.1 dg h1 h2 ho ht (k1 H locs ls F R S L)
theorem ex_lcmp {x y : Int64} (dg : decode cc pc = .ok (.lcmp, 1)) (k1 : ex G l X Q d mc ms cs sl cc own nL ret h z (pc + 1) lv (.int (lg_cmp x y) :: st)) : ex G l X Q d mc ms cs sl cc own nL ret h z pc lv (.long y :: .long x :: st) :=
  fun H locs ls F R S L => W.lcmp F.1 F.2.1 dg (k1 H locs ls F R S L)
end EX
