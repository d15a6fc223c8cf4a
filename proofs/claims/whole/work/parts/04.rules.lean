theorem LR.len {K : Cx} {mL : Nat} {ls : List (Option Value)} {arr : Array Slot} (h : LR K mL ls arr) : arr.size = mL := h.1
def bI (b : Bool) : Int32 := if b then 1 else 0
theorem bI_eq0 {b : Bool} : bI b = 0 ↔ b = false := by cases b <;> decide
theorem bI_ne0 {b : Bool} : ¬ bI b = 0 ↔ b = true := by cases b <;> decide
theorem bI_true : bI true = 1 := rfl
theorem bI_false : bI false = 0 := rfl
section RULES
variable {own : String} {cc : ByteArray} {mL : Nat} {rt : Option FieldType} {fr lo : Nat} {K : Cx} {pc q : Nat} {ls : List (Option Value)} {st : List Value} {m : TM} {Q : Option Value → TM → Prop}

theorem x_iconst {n : Int} {v : Int32} (hd : decode cc pc = .ok (.iconst n, 1)) (hq : pc + 1 = q) (hv : Int32.ofInt n = v) (kk : XX own cc mL rt fr lo K q ls (.int v :: st) m Q) : XX own cc mL rt fr lo K pc ls (st) m Q := by
  subst hq
  intro p e s mi args below meth c H locs arr C hP hD hS hL
  exact lv_iconst C.1 C.2.1 hd hv (kk p e s mi args below meth c H locs arr C hP hD hS hL)

theorem x_bipush {n : Int} {v : Int32} (hd : decode cc pc = .ok (.bipush n, 2)) (hq : pc + 2 = q) (hv : (Int8.ofInt n).toInt32 = v) (kk : XX own cc mL rt fr lo K q ls (.int v :: st) m Q) : XX own cc mL rt fr lo K pc ls (st) m Q := by
  subst hq
  intro p e s mi args below meth c H locs arr C hP hD hS hL
  exact lv_bipush C.1 C.2.1 hd hv (kk p e s mi args below meth c H locs arr C hP hD hS hL)

theorem x_sipush {n : Int} {v : Int32} (hd : decode cc pc = .ok (.sipush n, 3)) (hq : pc + 3 = q) (hv : (Int16.ofInt n).toInt32 = v) (kk : XX own cc mL rt fr lo K q ls (.int v :: st) m Q) : XX own cc mL rt fr lo K pc ls (st) m Q := by
  subst hq
  intro p e s mi args below meth c H locs arr C hP hD hS hL
  exact lv_sipush C.1 C.2.1 hd hv (kk p e s mi args below meth c H locs arr C hP hD hS hL)

theorem x_lconst {n : Fin 2} {v : Int64} (hd : decode cc pc = .ok (.lconst n, 1)) (hq : pc + 1 = q) (hv : Int64.ofNat (n : Nat) = v) (kk : XX own cc mL rt fr lo K q ls (.long v :: st) m Q) : XX own cc mL rt fr lo K pc ls (st) m Q := by
  subst hq
  intro p e s mi args below meth c H locs arr C hP hD hS hL
  exact lv_lconst C.1 C.2.1 hd hv (kk p e s mi args below meth c H locs arr C hP hD hS hL)

theorem x_iload_n {k : Fin 4} {x : Int32} (hd : decode cc pc = .ok (.iload_n k, 1)) (hq : pc + 1 = q) (hl : ls[(k : Nat)]? = some (some (.int x))) (kk : XX own cc mL rt fr lo K q ls (.int x :: st) m Q) : XX own cc mL rt fr lo K pc ls (st) m Q := by
  subst hq
  intro p e s mi args below meth c H locs arr C hP hD hS hL
  exact lv_iload_n C.1 C.2.1 hd rfl (hL.get hl) (kk p e s mi args below meth c H locs arr C hP hD hS hL)

theorem x_iload {k : Nat} {x : Int32} (hd : decode cc pc = .ok (.iload k, 2)) (hq : pc + 2 = q) (hl : ls[k]? = some (some (.int x))) (kk : XX own cc mL rt fr lo K q ls (.int x :: st) m Q) : XX own cc mL rt fr lo K pc ls (st) m Q := by
  subst hq
  intro p e s mi args below meth c H locs arr C hP hD hS hL
  exact lv_iload C.1 C.2.1 hd (hL.get hl) (kk p e s mi args below meth c H locs arr C hP hD hS hL)

theorem x_lload {k : Nat} {x : Int64} (hd : decode cc pc = .ok (.lload k, 2)) (hq : pc + 2 = q) (hl : ls[k]? = some (some (.long x))) (kk : XX own cc mL rt fr lo K q ls (.long x :: st) m Q) : XX own cc mL rt fr lo K pc ls (st) m Q := by
  subst hq
  intro p e s mi args below meth c H locs arr C hP hD hS hL
  exact lv_lload C.1 C.2.1 hd (hL.get hl) (kk p e s mi args below meth c H locs arr C hP hD hS hL)

theorem x_lload_n {k : Fin 4} {x : Int64} (hd : decode cc pc = .ok (.lload_n k, 1)) (hq : pc + 1 = q) (hl : ls[(k : Nat)]? = some (some (.long x))) (kk : XX own cc mL rt fr lo K q ls (.long x :: st) m Q) : XX own cc mL rt fr lo K pc ls (st) m Q := by
  subst hq
  intro p e s mi args below meth c H locs arr C hP hD hS hL
  exact lv_lload_n C.1 C.2.1 hd rfl (hL.get hl) (kk p e s mi args below meth c H locs arr C hP hD hS hL)

theorem x_aload_n {k : Fin 4} {x : Nat} (hd : decode cc pc = .ok (.aload_n k, 1)) (hq : pc + 1 = q) (hl : ls[(k : Nat)]? = some (some (.ref x))) (kk : XX own cc mL rt fr lo K q ls (.ref x :: st) m Q) : XX own cc mL rt fr lo K pc ls (st) m Q := by
  subst hq
  intro p e s mi args below meth c H locs arr C hP hD hS hL
  exact lv_aload_n C.1 C.2.1 hd rfl (hL.get hl) (kk p e s mi args below meth c H locs arr C hP hD hS hL)

theorem x_aload {k : Nat} {x : Nat} (hd : decode cc pc = .ok (.aload k, 2)) (hq : pc + 2 = q) (hl : ls[k]? = some (some (.ref x))) (kk : XX own cc mL rt fr lo K q ls (.ref x :: st) m Q) : XX own cc mL rt fr lo K pc ls (st) m Q := by
  subst hq
  intro p e s mi args below meth c H locs arr C hP hD hS hL
  exact lv_aload C.1 C.2.1 hd (hL.get hl) (kk p e s mi args below meth c H locs arr C hP hD hS hL)

theorem x_aload_nN {k : Fin 4} (hd : decode cc pc = .ok (.aload_n k, 1)) (hq : pc + 1 = q) (hl : ls[(k : Nat)]? = some (some .null)) (kk : XX own cc mL rt fr lo K q ls (.null :: st) m Q) : XX own cc mL rt fr lo K pc ls (st) m Q := by
  subst hq
  intro p e s mi args below meth c H locs arr C hP hD hS hL
  exact lv_aload_nN C.1 C.2.1 hd rfl (hL.get hl) (kk p e s mi args below meth c H locs arr C hP hD hS hL)

theorem x_aloadN {k : Nat} (hd : decode cc pc = .ok (.aload k, 2)) (hq : pc + 2 = q) (hl : ls[k]? = some (some .null)) (kk : XX own cc mL rt fr lo K q ls (.null :: st) m Q) : XX own cc mL rt fr lo K pc ls (st) m Q := by
  subst hq
  intro p e s mi args below meth c H locs arr C hP hD hS hL
  exact lv_aloadN C.1 C.2.1 hd (hL.get hl) (kk p e s mi args below meth c H locs arr C hP hD hS hL)

theorem x_istore_n {k : Fin 4} {x : Int32} (hd : decode cc pc = .ok (.istore_n k, 1)) (hq : pc + 1 = q) (hn : (k : Nat) < mL) (hok : stok ls (k : Nat) = true) {ls2 : List (Option Value)} (h2 : (ls.set (k : Nat) (some (.int x))) = ls2) (kk : XX own cc mL rt fr lo K q ls2 st m Q) : XX own cc mL rt fr lo K pc ls (.int x :: st) m Q := by
  subst hq; subst h2
  intro p e s mi args below meth c H locs arr C hP hD hS hL
  exact lv_istore_n C.1 C.2.1 hd rfl  hL hn rfl (fun arr2 h2 => kk p e s mi args below meth c H locs arr2 C hP hD hS (LR.store (v := .int x) hok h2))

theorem x_istore {k : Nat} {x : Int32} (hd : decode cc pc = .ok (.istore k, 2)) (hq : pc + 2 = q) (hn : k < mL) (hok : stok ls k = true) {ls2 : List (Option Value)} (h2 : (ls.set k (some (.int x))) = ls2) (kk : XX own cc mL rt fr lo K q ls2 st m Q) : XX own cc mL rt fr lo K pc ls (.int x :: st) m Q := by
  subst hq; subst h2
  intro p e s mi args below meth c H locs arr C hP hD hS hL
  exact lv_istore C.1 C.2.1 hd  hL hn rfl (fun arr2 h2 => kk p e s mi args below meth c H locs arr2 C hP hD hS (LR.store (v := .int x) hok h2))

theorem x_astore_n {k : Fin 4} {x : Nat} (hd : decode cc pc = .ok (.astore_n k, 1)) (hq : pc + 1 = q) (hn : (k : Nat) < mL) (hok : stok ls (k : Nat) = true) {ls2 : List (Option Value)} (h2 : (ls.set (k : Nat) (some (.ref x))) = ls2) (kk : XX own cc mL rt fr lo K q ls2 st m Q) : XX own cc mL rt fr lo K pc ls (.ref x :: st) m Q := by
  subst hq; subst h2
  intro p e s mi args below meth c H locs arr C hP hD hS hL
  exact lv_astore_n C.1 C.2.1 hd rfl  hL hn rfl (fun arr2 h2 => kk p e s mi args below meth c H locs arr2 C hP hD hS (LR.store (v := .ref x) hok h2))

theorem x_astore {k : Nat} {x : Nat} (hd : decode cc pc = .ok (.astore k, 2)) (hq : pc + 2 = q) (hn : k < mL) (hok : stok ls k = true) {ls2 : List (Option Value)} (h2 : (ls.set k (some (.ref x))) = ls2) (kk : XX own cc mL rt fr lo K q ls2 st m Q) : XX own cc mL rt fr lo K pc ls (.ref x :: st) m Q := by
  subst hq; subst h2
  intro p e s mi args below meth c H locs arr C hP hD hS hL
  exact lv_astore C.1 C.2.1 hd  hL hn rfl (fun arr2 h2 => kk p e s mi args below meth c H locs arr2 C hP hD hS (LR.store (v := .ref x) hok h2))

theorem x_astore_nN {k : Fin 4} (hd : decode cc pc = .ok (.astore_n k, 1)) (hq : pc + 1 = q) (hn : (k : Nat) < mL) (hok : stok ls (k : Nat) = true) {ls2 : List (Option Value)} (h2 : (ls.set (k : Nat) (some (.null))) = ls2) (kk : XX own cc mL rt fr lo K q ls2 st m Q) : XX own cc mL rt fr lo K pc ls (.null :: st) m Q := by
  subst hq; subst h2
  intro p e s mi args below meth c H locs arr C hP hD hS hL
  exact lv_astore_nN C.1 C.2.1 hd rfl  hL hn rfl (fun arr2 h2 => kk p e s mi args below meth c H locs arr2 C hP hD hS (LR.store (v := .null) hok h2))

theorem x_astoreN {k : Nat} (hd : decode cc pc = .ok (.astore k, 2)) (hq : pc + 2 = q) (hn : k < mL) (hok : stok ls k = true) {ls2 : List (Option Value)} (h2 : (ls.set k (some (.null))) = ls2) (kk : XX own cc mL rt fr lo K q ls2 st m Q) : XX own cc mL rt fr lo K pc ls (.null :: st) m Q := by
  subst hq; subst h2
  intro p e s mi args below meth c H locs arr C hP hD hS hL
  exact lv_astoreN C.1 C.2.1 hd  hL hn rfl (fun arr2 h2 => kk p e s mi args below meth c H locs arr2 C hP hD hS (LR.store (v := .null) hok h2))

theorem x_lstore {k : Nat} {x : Int64} (hd : decode cc pc = .ok (.lstore k, 2)) (hq : pc + 2 = q) (hn : k + 1 < mL) (hok : stok ls k = true) {ls2 : List (Option Value)} (h2 : ((ls.set k (some (.long x))).set (k + 1) none) = ls2) (kk : XX own cc mL rt fr lo K q ls2 st m Q) : XX own cc mL rt fr lo K pc ls (.long x :: st) m Q := by
  subst hq; subst h2
  intro p e s mi args below meth c H locs arr C hP hD hS hL
  exact lv_lstore C.1 C.2.1 hd  hL hn rfl (fun arr2 h2 => kk p e s mi args below meth c H locs arr2 C hP hD hS (LR.store2 (v := .long x) hok h2))

theorem x_lstore_n {k : Fin 4} {x : Int64} (hd : decode cc pc = .ok (.lstore_n k, 1)) (hq : pc + 1 = q) (hn : (k : Nat) + 1 < mL) (hok : stok ls (k : Nat) = true) {ls2 : List (Option Value)} (h2 : ((ls.set (k : Nat) (some (.long x))).set ((k : Nat) + 1) none) = ls2) (kk : XX own cc mL rt fr lo K q ls2 st m Q) : XX own cc mL rt fr lo K pc ls (.long x :: st) m Q := by
  subst hq; subst h2
  intro p e s mi args below meth c H locs arr C hP hD hS hL
  exact lv_lstore_n C.1 C.2.1 hd rfl  hL hn rfl (fun arr2 h2 => kk p e s mi args below meth c H locs arr2 C hP hD hS (LR.store2 (v := .long x) hok h2))

theorem x_iinc {k : Nat} {n : Int} {x v : Int32} (hd : decode cc pc = .ok (.iinc k n, 3)) (hq : pc + 3 = q) (hl : ls[k]? = some (some (.int x))) (hv : x + Int32.ofInt n = v) (hn : k < mL) (hok : stok ls k = true) {ls2 : List (Option Value)} (h2 : ls.set k (some (.int v)) = ls2) (kk : XX own cc mL rt fr lo K q ls2 st m Q) : XX own cc mL rt fr lo K pc ls st m Q := by
  subst hq; subst h2
  intro p e s mi args below meth c H locs arr C hP hD hS hL
  obtain ⟨j, hj⟩ := List.getElem?_of_mem (lvOf_mem (K := K) (q := (k, .int x)) (ls := ls) |>.mpr ⟨.int x, hl, rfl⟩)
  exact lv_iinc C.1 C.2.1 hd hL hj hv hn rfl (fun arr2 h2 => kk p e s mi args below meth c H locs arr2 C hP hD hS (LR.store (v := .int v) hok h2))

theorem x_iadd {x y : Int32} (hd : decode cc pc = .ok (.iadd, 1)) (hq : pc + 1 = q)  (kk : XX own cc mL rt fr lo K q ls (.int (x + y) :: st) m Q) : XX own cc mL rt fr lo K pc ls (.int y :: .int x :: st) m Q := by
  subst hq
  intro p e s mi args below meth c H locs arr C hP hD hS hL
  exact lv_iadd C.1 C.2.1 hd (kk p e s mi args below meth c H locs arr C hP hD hS hL)

theorem x_isub {x y : Int32} (hd : decode cc pc = .ok (.isub, 1)) (hq : pc + 1 = q)  (kk : XX own cc mL rt fr lo K q ls (.int (x - y) :: st) m Q) : XX own cc mL rt fr lo K pc ls (.int y :: .int x :: st) m Q := by
  subst hq
  intro p e s mi args below meth c H locs arr C hP hD hS hL
  exact lv_isub C.1 C.2.1 hd (kk p e s mi args below meth c H locs arr C hP hD hS hL)

theorem x_imul {x y : Int32} (hd : decode cc pc = .ok (.imul, 1)) (hq : pc + 1 = q)  (kk : XX own cc mL rt fr lo K q ls (.int (x * y) :: st) m Q) : XX own cc mL rt fr lo K pc ls (.int y :: .int x :: st) m Q := by
  subst hq
  intro p e s mi args below meth c H locs arr C hP hD hS hL
  exact lv_imul C.1 C.2.1 hd (kk p e s mi args below meth c H locs arr C hP hD hS hL)

theorem x_iand {x y : Int32} (hd : decode cc pc = .ok (.iand, 1)) (hq : pc + 1 = q)  (kk : XX own cc mL rt fr lo K q ls (.int (x &&& y) :: st) m Q) : XX own cc mL rt fr lo K pc ls (.int y :: .int x :: st) m Q := by
  subst hq
  intro p e s mi args below meth c H locs arr C hP hD hS hL
  exact lv_iand C.1 C.2.1 hd (kk p e s mi args below meth c H locs arr C hP hD hS hL)

theorem x_ior {x y : Int32} (hd : decode cc pc = .ok (.ior, 1)) (hq : pc + 1 = q)  (kk : XX own cc mL rt fr lo K q ls (.int (x ||| y) :: st) m Q) : XX own cc mL rt fr lo K pc ls (.int y :: .int x :: st) m Q := by
  subst hq
  intro p e s mi args below meth c H locs arr C hP hD hS hL
  exact lv_ior C.1 C.2.1 hd (kk p e s mi args below meth c H locs arr C hP hD hS hL)

theorem x_ixor {x y : Int32} (hd : decode cc pc = .ok (.ixor, 1)) (hq : pc + 1 = q)  (kk : XX own cc mL rt fr lo K q ls (.int (x ^^^ y) :: st) m Q) : XX own cc mL rt fr lo K pc ls (.int y :: .int x :: st) m Q := by
  subst hq
  intro p e s mi args below meth c H locs arr C hP hD hS hL
  exact lv_ixor C.1 C.2.1 hd (kk p e s mi args below meth c H locs arr C hP hD hS hL)

theorem x_ishl {x y : Int32} (hd : decode cc pc = .ok (.ishl, 1)) (hq : pc + 1 = q)  (kk : XX own cc mL rt fr lo K q ls (.int (x <<< (y &&& 31)) :: st) m Q) : XX own cc mL rt fr lo K pc ls (.int y :: .int x :: st) m Q := by
  subst hq
  intro p e s mi args below meth c H locs arr C hP hD hS hL
  exact lv_ishl C.1 C.2.1 hd (kk p e s mi args below meth c H locs arr C hP hD hS hL)

theorem x_ishr {x y : Int32} (hd : decode cc pc = .ok (.ishr, 1)) (hq : pc + 1 = q)  (kk : XX own cc mL rt fr lo K q ls (.int (x >>> (y &&& 31)) :: st) m Q) : XX own cc mL rt fr lo K pc ls (.int y :: .int x :: st) m Q := by
  subst hq
  intro p e s mi args below meth c H locs arr C hP hD hS hL
  exact lv_ishr C.1 C.2.1 hd (kk p e s mi args below meth c H locs arr C hP hD hS hL)

theorem x_idiv {x y : Int32} (hd : decode cc pc = .ok (.idiv, 1)) (hq : pc + 1 = q) (hne : ¬ y = 0) (kk : XX own cc mL rt fr lo K q ls (.int (x / y) :: st) m Q) : XX own cc mL rt fr lo K pc ls (.int y :: .int x :: st) m Q := by
  subst hq
  intro p e s mi args below meth c H locs arr C hP hD hS hL
  exact lv_idiv C.1 C.2.1 hd hne (kk p e s mi args below meth c H locs arr C hP hD hS hL)

theorem x_irem {x y : Int32} (hd : decode cc pc = .ok (.irem, 1)) (hq : pc + 1 = q) (hne : ¬ y = 0) (kk : XX own cc mL rt fr lo K q ls (.int (x - x / y * y) :: st) m Q) : XX own cc mL rt fr lo K pc ls (.int y :: .int x :: st) m Q := by
  subst hq
  intro p e s mi args below meth c H locs arr C hP hD hS hL
  exact lv_irem C.1 C.2.1 hd hne (kk p e s mi args below meth c H locs arr C hP hD hS hL)

theorem x_ladd {x y : Int64} (hd : decode cc pc = .ok (.ladd, 1)) (hq : pc + 1 = q)  (kk : XX own cc mL rt fr lo K q ls (.long (x + y) :: st) m Q) : XX own cc mL rt fr lo K pc ls (.long y :: .long x :: st) m Q := by
  subst hq
  intro p e s mi args below meth c H locs arr C hP hD hS hL
  exact lv_ladd C.1 C.2.1 hd (kk p e s mi args below meth c H locs arr C hP hD hS hL)

theorem x_lsub {x y : Int64} (hd : decode cc pc = .ok (.lsub, 1)) (hq : pc + 1 = q)  (kk : XX own cc mL rt fr lo K q ls (.long (x - y) :: st) m Q) : XX own cc mL rt fr lo K pc ls (.long y :: .long x :: st) m Q := by
  subst hq
  intro p e s mi args below meth c H locs arr C hP hD hS hL
  exact lv_lsub C.1 C.2.1 hd (kk p e s mi args below meth c H locs arr C hP hD hS hL)

theorem x_lmul {x y : Int64} (hd : decode cc pc = .ok (.lmul, 1)) (hq : pc + 1 = q)  (kk : XX own cc mL rt fr lo K q ls (.long (x * y) :: st) m Q) : XX own cc mL rt fr lo K pc ls (.long y :: .long x :: st) m Q := by
  subst hq
  intro p e s mi args below meth c H locs arr C hP hD hS hL
  exact lv_lmul C.1 C.2.1 hd (kk p e s mi args below meth c H locs arr C hP hD hS hL)

theorem x_ldiv {x y : Int64} (hd : decode cc pc = .ok (.ldiv, 1)) (hq : pc + 1 = q) (hne : ¬ y = 0) (kk : XX own cc mL rt fr lo K q ls (.long (x / y) :: st) m Q) : XX own cc mL rt fr lo K pc ls (.long y :: .long x :: st) m Q := by
  subst hq
  intro p e s mi args below meth c H locs arr C hP hD hS hL
  exact lv_ldiv C.1 C.2.1 hd hne (kk p e s mi args below meth c H locs arr C hP hD hS hL)

theorem x_lrem {x y : Int64} (hd : decode cc pc = .ok (.lrem, 1)) (hq : pc + 1 = q) (hne : ¬ y = 0) (kk : XX own cc mL rt fr lo K q ls (.long (x - x / y * y) :: st) m Q) : XX own cc mL rt fr lo K pc ls (.long y :: .long x :: st) m Q := by
  subst hq
  intro p e s mi args below meth c H locs arr C hP hD hS hL
  exact lv_lrem C.1 C.2.1 hd hne (kk p e s mi args below meth c H locs arr C hP hD hS hL)

theorem x_iushr {x y : Int32} (hd : decode cc pc = .ok (.iushr, 1)) (hq : pc + 1 = q)  (kk : XX own cc mL rt fr lo K q ls (.int ((x.toUInt32 >>> (y.toUInt32 &&& Int32.toUInt32 31)).toInt32) :: st) m Q) : XX own cc mL rt fr lo K pc ls (.int y :: .int x :: st) m Q := by
  subst hq
  intro p e s mi args below meth c H locs arr C hP hD hS hL
  exact lv_iushr C.1 C.2.1 hd rfl (kk p e s mi args below meth c H locs arr C hP hD hS hL)

theorem x_i2l {x : Int32} (hd : decode cc pc = .ok (.i2l, 1)) (hq : pc + 1 = q)  (kk : XX own cc mL rt fr lo K q ls (.long x.toInt64 :: st) m Q) : XX own cc mL rt fr lo K pc ls (.int x :: st) m Q := by
  subst hq
  intro p e s mi args below meth c H locs arr C hP hD hS hL
  exact lv_i2l C.1 C.2.1 hd rfl (kk p e s mi args below meth c H locs arr C hP hD hS hL)

theorem x_l2i {x : Int64} (hd : decode cc pc = .ok (.l2i, 1)) (hq : pc + 1 = q)  (kk : XX own cc mL rt fr lo K q ls (.int x.toInt32 :: st) m Q) : XX own cc mL rt fr lo K pc ls (.long x :: st) m Q := by
  subst hq
  intro p e s mi args below meth c H locs arr C hP hD hS hL
  exact lv_l2i C.1 C.2.1 hd rfl (kk p e s mi args below meth c H locs arr C hP hD hS hL)

theorem x_i2b {x : Int32} (hd : decode cc pc = .ok (.i2b, 1)) (hq : pc + 1 = q)  (kk : XX own cc mL rt fr lo K q ls (.int x.toInt8.toInt32 :: st) m Q) : XX own cc mL rt fr lo K pc ls (.int x :: st) m Q := by
  subst hq
  intro p e s mi args below meth c H locs arr C hP hD hS hL
  exact lv_i2b C.1 C.2.1 hd rfl (kk p e s mi args below meth c H locs arr C hP hD hS hL)

theorem x_i2s {x : Int32} (hd : decode cc pc = .ok (.i2s, 1)) (hq : pc + 1 = q)  (kk : XX own cc mL rt fr lo K q ls (.int x.toInt16.toInt32 :: st) m Q) : XX own cc mL rt fr lo K pc ls (.int x :: st) m Q := by
  subst hq
  intro p e s mi args below meth c H locs arr C hP hD hS hL
  exact lv_i2s C.1 C.2.1 hd rfl (kk p e s mi args below meth c H locs arr C hP hD hS hL)

theorem x_i2c {x : Int32} (hd : decode cc pc = .ok (.i2c, 1)) (hq : pc + 1 = q)  (kk : XX own cc mL rt fr lo K q ls (.int (x.toUInt32 % 65536).toInt32 :: st) m Q) : XX own cc mL rt fr lo K pc ls (.int x :: st) m Q := by
  subst hq
  intro p e s mi args below meth c H locs arr C hP hD hS hL
  exact lv_i2c C.1 C.2.1 hd rfl (kk p e s mi args below meth c H locs arr C hP hD hS hL)

theorem x_lcmp {x y : Int64} (hd : decode cc pc = .ok (.lcmp, 1)) (hq : pc + 1 = q)  (kk : XX own cc mL rt fr lo K q ls (.int (lg_cmp x y) :: st) m Q) : XX own cc mL rt fr lo K pc ls (.long y :: .long x :: st) m Q := by
  subst hq
  intro p e s mi args below meth c H locs arr C hP hD hS hL
  exact W.lcmp C.1 C.2.1 hd (kk p e s mi args below meth c H locs arr C hP hD hS hL)

theorem x_dup {va : Value} (hd : decode cc pc = .ok (.dup, 1)) (hq : pc + 1 = q) (hc : va.category = 1) (kk : XX own cc mL rt fr lo K q ls (va :: va :: st) m Q) : XX own cc mL rt fr lo K pc ls (va :: st) m Q := by
  subst hq
  intro p e s mi args below meth c H locs arr C hP hD hS hL
  exact lv_dup C.1 C.2.1 hd ((vmp_cat K va).trans hc) (kk p e s mi args below meth c H locs arr C hP hD hS hL)

theorem x_pop {va : Value} (hd : decode cc pc = .ok (.pop, 1)) (hq : pc + 1 = q) (hc : va.category = 1) (kk : XX own cc mL rt fr lo K q ls (st) m Q) : XX own cc mL rt fr lo K pc ls (va :: st) m Q := by
  subst hq
  intro p e s mi args below meth c H locs arr C hP hD hS hL
  exact lv_pop C.1 C.2.1 hd ((vmp_cat K va).trans hc) (kk p e s mi args below meth c H locs arr C hP hD hS hL)

theorem x_dup2 {va vb : Value} (hd : decode cc pc = .ok (.dup2, 1)) (hq : pc + 1 = q) (hc : va.category = 1) (hc2 : vb.category = 1) (kk : XX own cc mL rt fr lo K q ls (va :: vb :: va :: vb :: st) m Q) : XX own cc mL rt fr lo K pc ls (va :: vb :: st) m Q := by
  subst hq
  intro p e s mi args below meth c H locs arr C hP hD hS hL
  exact lv_dup2_11 C.1 C.2.1 hd ((vmp_cat K va).trans hc) ((vmp_cat K vb).trans hc2) (kk p e s mi args below meth c H locs arr C hP hD hS hL)

theorem x_null  (hd : decode cc pc = .ok (.aconst_null, 1)) (hq : pc + 1 = q)  (kk : XX own cc mL rt fr lo K q ls (.null :: st) m Q) : XX own cc mL rt fr lo K pc ls (st) m Q := by
  subst hq
  intro p e s mi args below meth c H locs arr C hP hD hS hL
  exact lv_null C.1 C.2.1 hd (kk p e s mi args below meth c H locs arr C hP hD hS hL)

theorem x_ldc {i : Nat} {v : Int32} (hd : decode cc pc = .ok (.ldc i, 2)) (hq : pc + 2 = q) (hc : Cond.constant own i v ∈ WT) (kk : XX own cc mL rt fr lo K q ls (.int v :: st) m Q) : XX own cc mL rt fr lo K pc ls (st) m Q := by
  subst hq
  intro p e s mi args below meth c H locs arr C hP hD hS hL
  exact lv_ldc C.1 C.2.1 C.2.2.2.2.1 (C.2.2.2.2.2.1 _ hc) hd (kk p e s mi args below meth c H locs arr C hP hD hS hL)

theorem x_ldc_w {i : Nat} {v : Int32} (hd : decode cc pc = .ok (.ldc_w i, 3)) (hq : pc + 3 = q) (hc : Cond.constant own i v ∈ WT) (kk : XX own cc mL rt fr lo K q ls (.int v :: st) m Q) : XX own cc mL rt fr lo K pc ls (st) m Q := by
  subst hq
  intro p e s mi args below meth c H locs arr C hP hD hS hL
  exact lv_ldcw C.1 C.2.1 C.2.2.2.2.1 (C.2.2.2.2.2.1 _ hc) hd (kk p e s mi args below meth c H locs arr C hP hD hS hL)

theorem x_ldc2 {i : Nat} {v : Int64} (hd : decode cc pc = .ok (.ldc2_w i, 3)) (hq : pc + 3 = q) (hc : Cond.constantLong own i v ∈ WT) (kk : XX own cc mL rt fr lo K q ls (.long v :: st) m Q) : XX own cc mL rt fr lo K pc ls (st) m Q := by
  subst hq
  intro p e s mi args below meth c H locs arr C hP hD hS hL
  exact lv_ldc2 C.1 C.2.1 C.2.2.2.2.1 (C.2.2.2.2.2.1 _ hc) hd (kk p e s mi args below meth c H locs arr C hP hD hS hL)

theorem x_goto {off : Int} (hd : decode cc pc = .ok (.goto off, 3)) (ht : (pc : Int) + off = (q : Int)) (kk : XX own cc mL rt fr lo K q ls st m Q) : XX own cc mL rt fr lo K pc ls st m Q := by
  intro p e s mi args below meth c H locs arr C hP hD hS hL
  exact lv_goto C.1 C.2.1 hd ht (kk p e s mi args below meth c H locs arr C hP hD hS hL)
theorem x_ifnonnull {off : Int} {x : Nat} (hd : decode cc pc = .ok (.ifnonnull off, 3)) (ht : (pc : Int) + off = (q : Int)) (kk : XX own cc mL rt fr lo K q ls st m Q) : XX own cc mL rt fr lo K pc ls (.ref x :: st) m Q := by
  intro p e s mi args below meth c H locs arr C hP hD hS hL
  exact lv_ifnonnull C.1 C.2.1 hd ht (kk p e s mi args below meth c H locs arr C hP hD hS hL)
theorem x_ifnonnullN {off : Int} (hd : decode cc pc = .ok (.ifnonnull off, 3)) (hq : pc + 3 = q) (kk : XX own cc mL rt fr lo K q ls st m Q) : XX own cc mL rt fr lo K pc ls (.null :: st) m Q := by
  subst hq
  intro p e s mi args below meth c H locs arr C hP hD hS hL
  exact lv_ifnonnullN C.1 C.2.1 hd (kk p e s mi args below meth c H locs arr C hP hD hS hL)

theorem x_if_eq {x : Int32} {off : Int} {t : Nat} (hd : decode cc pc = .ok (.ifCond .eq off, 3)) (hq : pc + 3 = q) (ht : (pc : Int) + off = (t : Int)) (kt : (x = 0) → XX own cc mL rt fr lo K t ls st m Q) (kf : ¬ (x = 0) → XX own cc mL rt fr lo K q ls st m Q) : XX own cc mL rt fr lo K pc ls (.int x :: st) m Q := by
  subst hq
  intro p e s mi args below meth c H locs arr C hP hD hS hL
  exact lv_if_eq C.1 C.2.1 hd ht (fun h => ((kt h) p e s mi args below meth c H locs arr C hP hD hS hL)) (fun h => ((kf h) p e s mi args below meth c H locs arr C hP hD hS hL))

theorem x_icmp_eq {x y : Int32} {off : Int} {t : Nat} (hd : decode cc pc = .ok (.if_icmp .eq off, 3)) (hq : pc + 3 = q) (ht : (pc : Int) + off = (t : Int)) (kt : (x = y) → XX own cc mL rt fr lo K t ls st m Q) (kf : ¬ (x = y) → XX own cc mL rt fr lo K q ls st m Q) : XX own cc mL rt fr lo K pc ls (.int y :: .int x :: st) m Q := by
  subst hq
  intro p e s mi args below meth c H locs arr C hP hD hS hL
  exact lv_icmp_eq C.1 C.2.1 hd ht (fun h => ((kt h) p e s mi args below meth c H locs arr C hP hD hS hL)) (fun h => ((kf h) p e s mi args below meth c H locs arr C hP hD hS hL))

theorem x_if_ne {x : Int32} {off : Int} {t : Nat} (hd : decode cc pc = .ok (.ifCond .ne off, 3)) (hq : pc + 3 = q) (ht : (pc : Int) + off = (t : Int)) (kt : (¬ x = 0) → XX own cc mL rt fr lo K t ls st m Q) (kf : (x = 0) → XX own cc mL rt fr lo K q ls st m Q) : XX own cc mL rt fr lo K pc ls (.int x :: st) m Q := by
  subst hq
  intro p e s mi args below meth c H locs arr C hP hD hS hL
  exact lv_if_ne C.1 C.2.1 hd ht (fun h => ((kt h) p e s mi args below meth c H locs arr C hP hD hS hL)) (fun h => ((kf h) p e s mi args below meth c H locs arr C hP hD hS hL))

theorem x_icmp_ne {x y : Int32} {off : Int} {t : Nat} (hd : decode cc pc = .ok (.if_icmp .ne off, 3)) (hq : pc + 3 = q) (ht : (pc : Int) + off = (t : Int)) (kt : (¬ x = y) → XX own cc mL rt fr lo K t ls st m Q) (kf : (x = y) → XX own cc mL rt fr lo K q ls st m Q) : XX own cc mL rt fr lo K pc ls (.int y :: .int x :: st) m Q := by
  subst hq
  intro p e s mi args below meth c H locs arr C hP hD hS hL
  exact lv_icmp_ne C.1 C.2.1 hd ht (fun h => ((kt h) p e s mi args below meth c H locs arr C hP hD hS hL)) (fun h => ((kf h) p e s mi args below meth c H locs arr C hP hD hS hL))

theorem x_if_lt {x : Int32} {off : Int} {t : Nat} (hd : decode cc pc = .ok (.ifCond .lt off, 3)) (hq : pc + 3 = q) (ht : (pc : Int) + off = (t : Int)) (kt : (x < 0) → XX own cc mL rt fr lo K t ls st m Q) (kf : ¬ (x < 0) → XX own cc mL rt fr lo K q ls st m Q) : XX own cc mL rt fr lo K pc ls (.int x :: st) m Q := by
  subst hq
  intro p e s mi args below meth c H locs arr C hP hD hS hL
  exact lv_if_lt C.1 C.2.1 hd ht (fun h => ((kt h) p e s mi args below meth c H locs arr C hP hD hS hL)) (fun h => ((kf h) p e s mi args below meth c H locs arr C hP hD hS hL))

theorem x_icmp_lt {x y : Int32} {off : Int} {t : Nat} (hd : decode cc pc = .ok (.if_icmp .lt off, 3)) (hq : pc + 3 = q) (ht : (pc : Int) + off = (t : Int)) (kt : (x < y) → XX own cc mL rt fr lo K t ls st m Q) (kf : ¬ (x < y) → XX own cc mL rt fr lo K q ls st m Q) : XX own cc mL rt fr lo K pc ls (.int y :: .int x :: st) m Q := by
  subst hq
  intro p e s mi args below meth c H locs arr C hP hD hS hL
  exact lv_icmp_lt C.1 C.2.1 hd ht (fun h => ((kt h) p e s mi args below meth c H locs arr C hP hD hS hL)) (fun h => ((kf h) p e s mi args below meth c H locs arr C hP hD hS hL))

theorem x_if_ge {x : Int32} {off : Int} {t : Nat} (hd : decode cc pc = .ok (.ifCond .ge off, 3)) (hq : pc + 3 = q) (ht : (pc : Int) + off = (t : Int)) (kt : (0 ≤ x) → XX own cc mL rt fr lo K t ls st m Q) (kf : ¬ (0 ≤ x) → XX own cc mL rt fr lo K q ls st m Q) : XX own cc mL rt fr lo K pc ls (.int x :: st) m Q := by
  subst hq
  intro p e s mi args below meth c H locs arr C hP hD hS hL
  exact lv_if_ge C.1 C.2.1 hd ht (fun h => ((kt h) p e s mi args below meth c H locs arr C hP hD hS hL)) (fun h => ((kf h) p e s mi args below meth c H locs arr C hP hD hS hL))

theorem x_icmp_ge {x y : Int32} {off : Int} {t : Nat} (hd : decode cc pc = .ok (.if_icmp .ge off, 3)) (hq : pc + 3 = q) (ht : (pc : Int) + off = (t : Int)) (kt : (y ≤ x) → XX own cc mL rt fr lo K t ls st m Q) (kf : ¬ (y ≤ x) → XX own cc mL rt fr lo K q ls st m Q) : XX own cc mL rt fr lo K pc ls (.int y :: .int x :: st) m Q := by
  subst hq
  intro p e s mi args below meth c H locs arr C hP hD hS hL
  exact lv_icmp_ge C.1 C.2.1 hd ht (fun h => ((kt h) p e s mi args below meth c H locs arr C hP hD hS hL)) (fun h => ((kf h) p e s mi args below meth c H locs arr C hP hD hS hL))

theorem x_if_gt {x : Int32} {off : Int} {t : Nat} (hd : decode cc pc = .ok (.ifCond .gt off, 3)) (hq : pc + 3 = q) (ht : (pc : Int) + off = (t : Int)) (kt : (0 < x) → XX own cc mL rt fr lo K t ls st m Q) (kf : ¬ (0 < x) → XX own cc mL rt fr lo K q ls st m Q) : XX own cc mL rt fr lo K pc ls (.int x :: st) m Q := by
  subst hq
  intro p e s mi args below meth c H locs arr C hP hD hS hL
  exact lv_if_gt C.1 C.2.1 hd ht (fun h => ((kt h) p e s mi args below meth c H locs arr C hP hD hS hL)) (fun h => ((kf h) p e s mi args below meth c H locs arr C hP hD hS hL))

theorem x_icmp_gt {x y : Int32} {off : Int} {t : Nat} (hd : decode cc pc = .ok (.if_icmp .gt off, 3)) (hq : pc + 3 = q) (ht : (pc : Int) + off = (t : Int)) (kt : (y < x) → XX own cc mL rt fr lo K t ls st m Q) (kf : ¬ (y < x) → XX own cc mL rt fr lo K q ls st m Q) : XX own cc mL rt fr lo K pc ls (.int y :: .int x :: st) m Q := by
  subst hq
  intro p e s mi args below meth c H locs arr C hP hD hS hL
  exact lv_icmp_gt C.1 C.2.1 hd ht (fun h => ((kt h) p e s mi args below meth c H locs arr C hP hD hS hL)) (fun h => ((kf h) p e s mi args below meth c H locs arr C hP hD hS hL))

theorem x_if_le {x : Int32} {off : Int} {t : Nat} (hd : decode cc pc = .ok (.ifCond .le off, 3)) (hq : pc + 3 = q) (ht : (pc : Int) + off = (t : Int)) (kt : (x ≤ 0) → XX own cc mL rt fr lo K t ls st m Q) (kf : ¬ (x ≤ 0) → XX own cc mL rt fr lo K q ls st m Q) : XX own cc mL rt fr lo K pc ls (.int x :: st) m Q := by
  subst hq
  intro p e s mi args below meth c H locs arr C hP hD hS hL
  exact lv_if_le C.1 C.2.1 hd ht (fun h => ((kt h) p e s mi args below meth c H locs arr C hP hD hS hL)) (fun h => ((kf h) p e s mi args below meth c H locs arr C hP hD hS hL))

theorem x_icmp_le {x y : Int32} {off : Int} {t : Nat} (hd : decode cc pc = .ok (.if_icmp .le off, 3)) (hq : pc + 3 = q) (ht : (pc : Int) + off = (t : Int)) (kt : (x ≤ y) → XX own cc mL rt fr lo K t ls st m Q) (kf : ¬ (x ≤ y) → XX own cc mL rt fr lo K q ls st m Q) : XX own cc mL rt fr lo K pc ls (.int y :: .int x :: st) m Q := by
  subst hq
  intro p e s mi args below meth c H locs arr C hP hD hS hL
  exact lv_icmp_le C.1 C.2.1 hd ht (fun h => ((kt h) p e s mi args below meth c H locs arr C hP hD hS hL)) (fun h => ((kf h) p e s mi args below meth c H locs arr C hP hD hS hL))

/-- of a boolean -/
theorem x_ifB_eq {b : Bool} {off : Int} {t : Nat} (hd : decode cc pc = .ok (.ifCond .eq off, 3)) (hq : pc + 3 = q) (ht : (pc : Int) + off = (t : Int)) (kt : b = false → XX own cc mL rt fr lo K t ls st m Q) (kf : b = true → XX own cc mL rt fr lo K q ls st m Q) : XX own cc mL rt fr lo K pc ls (.int (bI b) :: st) m Q :=
  x_if_eq hd hq ht (fun h => kt (bI_eq0.mp h)) (fun h => kf (bI_ne0.mp h))
theorem x_ifB_ne {b : Bool} {off : Int} {t : Nat} (hd : decode cc pc = .ok (.ifCond .ne off, 3)) (hq : pc + 3 = q) (ht : (pc : Int) + off = (t : Int)) (kt : b = true → XX own cc mL rt fr lo K t ls st m Q) (kf : b = false → XX own cc mL rt fr lo K q ls st m Q) : XX own cc mL rt fr lo K pc ls (.int (bI b) :: st) m Q :=
  x_if_ne hd hq ht (fun h => kt (bI_ne0.mp h)) (fun h => kf (bI_eq0.mp h))
theorem x_tswC {x k : Int32} {dflt l hi : Int} {offs : Array Int} {len : Nat} {off : Int} (hd : decode cc pc = .ok (.tableswitch dflt l hi offs, len)) (hx : x = k) (h1 : ¬ k.toInt < l) (h2 : ¬ hi < k.toInt) (ho : offs[(k.toInt - l).toNat]? = some off) (ht : (pc : Int) + off = (q : Int)) (kk : XX own cc mL rt fr lo K q ls st m Q) : XX own cc mL rt fr lo K pc ls (.int x :: st) m Q := by
  subst hx
  intro p e s mi args below meth c H locs arr C hP hD hS hL
  exact lv_tableIn C.1 C.2.1 hd h1 h2 ho ht (kk p e s mi args below meth c H locs arr C hP hD hS hL)
theorem x_tswD {x : Int32} {dflt l hi : Int} {offs : Array Int} {len : Nat} (hd : decode cc pc = .ok (.tableswitch dflt l hi offs, len)) (hx : x.toInt < l ∨ hi < x.toInt) (ht : (pc : Int) + dflt = (q : Int)) (kk : XX own cc mL rt fr lo K q ls st m Q) : XX own cc mL rt fr lo K pc ls (.int x :: st) m Q := by
  intro p e s mi args below meth c H locs arr C hP hD hS hL
  exact lv_tableOut C.1 C.2.1 hd hx ht (kk p e s mi args below meth c H locs arr C hP hD hS hL)
theorem x_lsw {x : Int32} {dflt : Int} {ps : Array (Int × Int)} {len : Nat} {off : Int} (hd : decode cc pc = .ok (.lookupswitch dflt ps, len)) (hp : (ps.toList.zip (ps.toList.drop 1)).all (fun (a, next) => a.1 < next.1) = true) (ho : Op.lookupswitch.offset ps.toList dflt x.toInt = off) (ht : (pc : Int) + off = (q : Int)) (kk : XX own cc mL rt fr lo K q ls st m Q) : XX own cc mL rt fr lo K pc ls (.int x :: st) m Q := by
  intro p e s mi args below meth c H locs arr C hP hD hS hL
  exact lv_lookup C.1 C.2.1 hd hp ho ht (kk p e s mi args below meth c H locs arr C hP hD hS hL)

theorem xq_end {p : Program} {s : State} {mi : MethodId} {args : Array Value} {meth : Method} {c : Code} {H : Heap} {locs : List Loc} {r : Option Value} (hP : va_P (kD K) vwCl (wsOf K m) H) (hD : va_D (AA K) (wsOf K m)) (hS : va_S (AA K) s.heap H locs) (hq : Q r m) (t : State) (ht : t.heap = H) : QQ K Q args s (.returned (r.map (vmp K))) t :=
  ⟨⟨r, m, rfl, hq, by rw [ht]; exact hP, hD⟩, hS.F ht⟩
theorem x_ireturn {v : Int32} {ty : FieldType} (hd : decode cc pc = .ok (.ireturn, 1)) (hr : rt = some ty) (hn : narrow ty (.int v) = .int v) (hq : Q (some (.int v)) m) : XX own cc mL rt fr lo K pc ls [.int v] m Q := by
  intro p e s mi args below meth c H locs arr C hP hD hS hL
  exact W.zret C.1 C.2.1 (C.2.2.1.trans hr) hn (fun t ht _ => xq_end (p := p) (mi := mi) (meth := meth) (c := c) (r := some (.int v)) hP hD hS hq t ht) hS.2.2 hd C.2.2.2.2.2.2.1
theorem x_lreturn {v : Int64} (hd : decode cc pc = .ok (.lreturn, 1)) (hr : rt = some .long) (hq : Q (some (.long v)) m) : XX own cc mL rt fr lo K pc ls [.long v] m Q := by
  intro p e s mi args below meth c H locs arr C hP hD hS hL
  exact W.lret C.1 C.2.1 (C.2.2.1.trans hr) (fun t ht _ => xq_end (p := p) (mi := mi) (meth := meth) (c := c) (r := some (.long v)) hP hD hS hq t ht) hS.2.2 hd C.2.2.2.2.2.2.1
theorem x_return (hd : decode cc pc = .ok (.return_, 1)) (hr : rt = none) (hq : Q none m) : XX own cc mL rt fr lo K pc ls [] m Q := by
  intro p e s mi args below meth c H locs arr C hP hD hS hL
  exact W.vret C.1 C.2.1 (C.2.2.1.trans hr) (fun t ht _ => xq_end (p := p) (mi := mi) (meth := meth) (c := c) (r := none) hP hD hS hq t ht) hS.2.2 hd C.2.2.2.2.2.2.1
theorem x_areturn {v : Value} {C0 : String} (hd : decode cc pc = .ok (.areturn, 1)) (hr : rt = some (.object C0)) (hv : v = .null ∨ ∃ a, v = .ref a) (hq : Q (some v) m) : XX own cc mL rt fr lo K pc ls [v] m Q := by
  intro p e s mi args below meth c H locs arr C hP hD hS hL
  exact W.aret C.1 C.2.1 (C.2.2.1.trans hr) (Or.inl ⟨_, rfl⟩) (by rcases hv with rfl | ⟨a, rfl⟩; exact Or.inl rfl; exact Or.inr ⟨_, rfl⟩) (fun t ht _ => xq_end (p := p) (mi := mi) (meth := meth) (c := c) (r := some v) hP hD hS hq t ht) hS.2.2 hd C.2.2.2.2.2.2.1

end RULES
