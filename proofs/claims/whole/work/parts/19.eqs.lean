-- equations of the second walk, by instruction
def kc (a : Nat) (P : xS → List Value → xA → Prop) (K : xT) : xT := fun pc => if pc = a then some P else K pc
def K2 : xT := fun _ => none
def kif (K : xT) (pc : Nat) (ls : xS) (st : List Value) (S : xA) (n : Prop) : Prop := match K pc with
  | some P => P ls st S
  | none => n
theorem kif_0 (pc : Nat) (ls : xS) (st : List Value) (S : xA) (n : Prop) : kif K2 pc ls st S n = n := rfl
theorem kif_c (a : Nat) (P : xS → List Value → xA → Prop) (K : xT) (pc : Nat) (ls : xS) (st : List Value) (S : xA) (n : Prop) : kif (kc a P K) pc ls st S n = if pc = a then P ls st S else kif K pc ls st S n := by
  by_cases h : pc = a
  · simp [kif, kc, h]
  · simp [kif, kc, h]
theorem f3 : ((3 : Fin 4) : Nat) = 3 := rfl
theorem sg_s (M : xM) (b : ByteArray) (o : Nat) (K : xT) (fi : xP) (fv : xA → Prop) (n pc : Nat) (ls : xS) (st : List Value) (S : xA) : sg2 M b o K fi fv (n + 1) pc ls st S = kif K pc ls st S (sn2 M b o (sg2 M b o K fi fv n) fi fv pc ls st S) := rfl
def nl (v : Option Value) : Bool := match v with
  | some (.long _) => false
  | some (.double _) => false
  | _ => true
theorem nl_n : nl none = true := by decide
theorem nl_i (x : Int32) : nl (some (.int x)) = true := by simp only [nl]
theorem nl_r (x : Nat) : nl (some (.ref x)) = true := by simp only [nl]
section E2
variable {M : xM} {b : ByteArray} {o : Nat} {k : xW} {fi : xP} {fv : xA → Prop} {pc n : Nat} {ls : xS} {st : List Value} {S : xA}
theorem sn_at {ins : Instr} {len : Nat} (hd : decode b pc = .ok (ins, len)) : sn2 M b o k fi fv pc ls st S = s2 M o k fi fv ins len pc ls st S := by unfold sn2; rw [hd]
theorem j_iadd {x y : Int32} (hd : decode b pc = .ok (.iadd, 1)) (hn : pc + 1 = n) : sn2 M b o k fi fv pc ls (.int y :: .int x :: st) S = k n ls (.int (x + y) :: st) S := by
  rw [sn_at hd]; subst hn; simp [s2, pII]
theorem j_isub {x y : Int32} (hd : decode b pc = .ok (.isub, 1)) (hn : pc + 1 = n) : sn2 M b o k fi fv pc ls (.int y :: .int x :: st) S = k n ls (.int (x - y) :: st) S := by
  rw [sn_at hd]; subst hn; simp [s2, pII]
theorem j_imul {x y : Int32} (hd : decode b pc = .ok (.imul, 1)) (hn : pc + 1 = n) : sn2 M b o k fi fv pc ls (.int y :: .int x :: st) S = k n ls (.int (x * y) :: st) S := by
  rw [sn_at hd]; subst hn; simp [s2, pII]
theorem j_iand {x y : Int32} (hd : decode b pc = .ok (.iand, 1)) (hn : pc + 1 = n) : sn2 M b o k fi fv pc ls (.int y :: .int x :: st) S = k n ls (.int (x &&& y) :: st) S := by
  rw [sn_at hd]; subst hn; simp [s2, pII]
theorem j_ior {x y : Int32} (hd : decode b pc = .ok (.ior, 1)) (hn : pc + 1 = n) : sn2 M b o k fi fv pc ls (.int y :: .int x :: st) S = k n ls (.int (x ||| y) :: st) S := by
  rw [sn_at hd]; subst hn; simp [s2, pII]
theorem j_ixor {x y : Int32} (hd : decode b pc = .ok (.ixor, 1)) (hn : pc + 1 = n) : sn2 M b o k fi fv pc ls (.int y :: .int x :: st) S = k n ls (.int (x ^^^ y) :: st) S := by
  rw [sn_at hd]; subst hn; simp [s2, pII]
theorem j_ishl {x y : Int32} (hd : decode b pc = .ok (.ishl, 1)) (hn : pc + 1 = n) : sn2 M b o k fi fv pc ls (.int y :: .int x :: st) S = k n ls (.int (x <<< (y &&& 31)) :: st) S := by
  rw [sn_at hd]; subst hn; simp [s2, pII]
theorem j_ishr {x y : Int32} (hd : decode b pc = .ok (.ishr, 1)) (hn : pc + 1 = n) : sn2 M b o k fi fv pc ls (.int y :: .int x :: st) S = k n ls (.int (x >>> (y &&& 31)) :: st) S := by
  rw [sn_at hd]; subst hn; simp [s2, pII]
theorem j_idiv {x y : Int32} (hd : decode b pc = .ok (.idiv, 1)) (hn : pc + 1 = n) : sn2 M b o k fi fv pc ls (.int y :: .int x :: st) S = (¬ y = 0 ∧ k n ls (.int (x / y) :: st) S) := by
  rw [sn_at hd]; subst hn; simp [s2, pII]
theorem j_irem {x y : Int32} (hd : decode b pc = .ok (.irem, 1)) (hn : pc + 1 = n) : sn2 M b o k fi fv pc ls (.int y :: .int x :: st) S = (¬ y = 0 ∧ k n ls (.int (x - x / y * y) :: st) S) := by
  rw [sn_at hd]; subst hn; simp [s2, pII]
theorem j_ladd {x y : Int64} (hd : decode b pc = .ok (.ladd, 1)) (hn : pc + 1 = n) : sn2 M b o k fi fv pc ls (.long y :: .long x :: st) S = k n ls (.long (x + y) :: st) S := by
  rw [sn_at hd]; subst hn; simp [s2, pJJ]
theorem j_lmul {x y : Int64} (hd : decode b pc = .ok (.lmul, 1)) (hn : pc + 1 = n) : sn2 M b o k fi fv pc ls (.long y :: .long x :: st) S = k n ls (.long (x * y) :: st) S := by
  rw [sn_at hd]; subst hn; simp [s2, pJJ]
theorem j_land {x y : Int64} (hd : decode b pc = .ok (.land, 1)) (hn : pc + 1 = n) : sn2 M b o k fi fv pc ls (.long y :: .long x :: st) S = k n ls (.long (x &&& y) :: st) S := by
  rw [sn_at hd]; subst hn; simp [s2, pJJ]
theorem j_lor {x y : Int64} (hd : decode b pc = .ok (.lor, 1)) (hn : pc + 1 = n) : sn2 M b o k fi fv pc ls (.long y :: .long x :: st) S = k n ls (.long (x ||| y) :: st) S := by
  rw [sn_at hd]; subst hn; simp [s2, pJJ]
theorem j_ldiv {x y : Int64} (hd : decode b pc = .ok (.ldiv, 1)) (hn : pc + 1 = n) : sn2 M b o k fi fv pc ls (.long y :: .long x :: st) S = (¬ y = 0 ∧ k n ls (.long (x / y) :: st) S) := by
  rw [sn_at hd]; subst hn; simp [s2, pJJ]
theorem j_lcmp {x y : Int64} (hd : decode b pc = .ok (.lcmp, 1)) (hn : pc + 1 = n) : sn2 M b o k fi fv pc ls (.long y :: .long x :: st) S = k n ls (.int (lg_cmp x y) :: st) S := by
  rw [sn_at hd]; subst hn; simp [s2, pJJ]
theorem j_lshl {x : Int64} {y : Int32} (hd : decode b pc = .ok (.lshl, 1)) (hn : pc + 1 = n) : sn2 M b o k fi fv pc ls (.int y :: .long x :: st) S = k n ls (.long (x <<< (y.toInt64 &&& 63)) :: st) S := by
  rw [sn_at hd]; subst hn; simp [s2, pIJ]
theorem j_lshr {x : Int64} {y : Int32} (hd : decode b pc = .ok (.lshr, 1)) (hn : pc + 1 = n) : sn2 M b o k fi fv pc ls (.int y :: .long x :: st) S = k n ls (.long (x >>> (y.toInt64 &&& 63)) :: st) S := by
  rw [sn_at hd]; subst hn; simp [s2, pIJ]
theorem j_i2l {x : Int32} (hd : decode b pc = .ok (.i2l, 1)) (hn : pc + 1 = n) : sn2 M b o k fi fv pc ls (.int x :: st) S = k n ls (.long x.toInt64 :: st) S := by
  rw [sn_at hd]; subst hn; simp [s2, pI]
theorem j_i2c {x : Int32} (hd : decode b pc = .ok (.i2c, 1)) (hn : pc + 1 = n) : sn2 M b o k fi fv pc ls (.int x :: st) S = k n ls (.int (x.toUInt32 % 65536).toInt32 :: st) S := by
  rw [sn_at hd]; subst hn; simp [s2, pI]
theorem j_l2i {x : Int64} (hd : decode b pc = .ok (.l2i, 1)) (hn : pc + 1 = n) : sn2 M b o k fi fv pc ls (.long x :: st) S = k n ls (.int x.toInt32 :: st) S := by
  rw [sn_at hd]; subst hn; simp [s2, pJ]
theorem j_dup_i {x : Int32} (hd : decode b pc = .ok (.dup, 1)) (hn : pc + 1 = n) : sn2 M b o k fi fv pc ls ((.int x) :: st) S = k n ls ((.int x) :: (.int x) :: st) S := by
  rw [sn_at hd]; subst hn; simp [s2, pV, Value.category]
theorem j_pop_i {x : Int32} (hd : decode b pc = .ok (.pop, 1)) (hn : pc + 1 = n) : sn2 M b o k fi fv pc ls ((.int x) :: st) S = k n ls st S := by
  rw [sn_at hd]; subst hn; simp [s2, pV, Value.category]
theorem j_dup_r {x : Nat} (hd : decode b pc = .ok (.dup, 1)) (hn : pc + 1 = n) : sn2 M b o k fi fv pc ls ((.ref x) :: st) S = k n ls ((.ref x) :: (.ref x) :: st) S := by
  rw [sn_at hd]; subst hn; simp [s2, pV, Value.category]
theorem j_pop_r {x : Nat} (hd : decode b pc = .ok (.pop, 1)) (hn : pc + 1 = n) : sn2 M b o k fi fv pc ls ((.ref x) :: st) S = k n ls st S := by
  rw [sn_at hd]; subst hn; simp [s2, pV, Value.category]
theorem j_dup2_ir {x : Int32} {a : Nat} (hd : decode b pc = .ok (.dup2, 1)) (hn : pc + 1 = n) : sn2 M b o k fi fv pc ls (.int x :: .ref a :: st) S = k n ls (.int x :: .ref a :: .int x :: .ref a :: st) S := by
  rw [sn_at hd]; subst hn; simp [s2, pVV, Value.category]
theorem j_dup_x1_ir {x : Int32} {a : Nat} (hd : decode b pc = .ok (.dup_x1, 1)) (hn : pc + 1 = n) : sn2 M b o k fi fv pc ls (.int x :: .ref a :: st) S = k n ls (.int x :: .ref a :: .int x :: st) S := by
  rw [sn_at hd]; subst hn; simp [s2, pVV, Value.category]
theorem j_dup_x1_ii {x y : Int32} (hd : decode b pc = .ok (.dup_x1, 1)) (hn : pc + 1 = n) : sn2 M b o k fi fv pc ls (.int x :: .int y :: st) S = k n ls (.int x :: .int y :: .int x :: st) S := by
  rw [sn_at hd]; subst hn; simp [s2, pVV, Value.category]
theorem j_iconst {q : Int} {v : Int32} (hd : decode b pc = .ok (.iconst q, 1)) (hn : pc + 1 = n) (hv : Int32.ofInt q = v) : sn2 M b o k fi fv pc ls st S = k n ls (.int v :: st) S := by
  rw [sn_at hd]; subst hn; subst hv; simp [s2]
theorem j_bipush {q : Int} {v : Int32} (hd : decode b pc = .ok (.bipush q, 2)) (hn : pc + 2 = n) (hv : (Int8.ofInt q).toInt32 = v) : sn2 M b o k fi fv pc ls st S = k n ls (.int v :: st) S := by
  rw [sn_at hd]; subst hn; subst hv; simp [s2]
theorem j_sipush {q : Int} {v : Int32} (hd : decode b pc = .ok (.sipush q, 3)) (hn : pc + 3 = n) (hv : (Int16.ofInt q).toInt32 = v) : sn2 M b o k fi fv pc ls st S = k n ls (.int v :: st) S := by
  rw [sn_at hd]; subst hn; subst hv; simp [s2]
theorem j_lconst {q : Fin 2} {v : Int64} (hd : decode b pc = .ok (.lconst q, 1)) (hn : pc + 1 = n) (hv : Int64.ofNat q.val = v) : sn2 M b o k fi fv pc ls st S = k n ls (.long v :: st) S := by
  rw [sn_at hd]; subst hn; subst hv; simp [s2]
theorem j_ldc_i {i : Nat} {v : Int32} (hd : decode b pc = .ok (.ldc i, 2)) (hn : pc + 2 = n) (hv : cpI o i = some v) : sn2 M b o k fi fv pc ls st S = k n ls (.int v :: st) S := by
  rw [sn_at hd]; subst hn; simp [s2, hv]
theorem j_ldc_w {i : Nat} {v : Int32} (hd : decode b pc = .ok (.ldc_w i, 3)) (hn : pc + 3 = n) (hv : cpI o i = some v) : sn2 M b o k fi fv pc ls st S = k n ls (.int v :: st) S := by
  rw [sn_at hd]; subst hn; simp [s2, hv]
theorem j_ldc_s {i q : Nat} (hd : decode b pc = .ok (.ldc i, 2)) (hn : pc + 2 = n) (h0 : cpI o i = none) (hv : cpT o i = some q) : sn2 M b o k fi fv pc ls st S = k n ls (.ref (1000 + q : Nat) :: st) S := by
  rw [sn_at hd]; subst hn; simp [s2, hv, h0]
theorem j_ldc2 {i : Nat} {v : Int64} (hd : decode b pc = .ok (.ldc2_w i, 3)) (hn : pc + 3 = n) (hv : cpJ o i = some v) : sn2 M b o k fi fv pc ls st S = k n ls (.long v :: st) S := by
  rw [sn_at hd]; subst hn; simp [s2, hv]
theorem j_gets_a {i u : Nat} {ns : Bool} (hd : decode b pc = .ok (.getstatic i, 3)) (hn : pc + 3 = n) (hv : cpG o i = some (u, ns)) (hu : ¬ u = 9) : sn2 M b o k fi fv pc ls st S = k n ls (.ref (1200 + u : Nat) :: st) S := by
  rw [sn_at hd]; subst hn; simp [s2, hv, hu]
theorem j_gets_z {i : Nat} {ns : Bool} (hd : decode b pc = .ok (.getstatic i, 3)) (hn : pc + 3 = n) (hv : cpG o i = some (9, ns)) : sn2 M b o k fi fv pc ls st S = k n ls (.int 1 :: st) S := by
  rw [sn_at hd]; subst hn; simp [s2, hv]
theorem j_iload_n_0 {x : Int32} {r : xS} (hd : decode b pc = .ok (.iload_n 0, 1)) (hn : pc + 1 = n) : sn2 M b o k fi fv pc (some (.int x) :: r) st S = k n (some (.int x) :: r) (.int x :: st) S := by
  rw [sn_at hd]; subst hn; simp [s2, lI, f3]
theorem j_aload_n_0 {x : Nat} {r : xS} (hd : decode b pc = .ok (.aload_n 0, 1)) (hn : pc + 1 = n) : sn2 M b o k fi fv pc (some (.ref x) :: r) st S = k n (some (.ref x) :: r) (.ref x :: st) S := by
  rw [sn_at hd]; subst hn; simp [s2, lA, f3]
theorem j_lload_n_0 {x : Int64} {r : xS} (hd : decode b pc = .ok (.lload_n 0, 1)) (hn : pc + 1 = n) : sn2 M b o k fi fv pc (some (.long x) :: r) st S = k n (some (.long x) :: r) (.long x :: st) S := by
  rw [sn_at hd]; subst hn; simp [s2, lJ, f3]
theorem j_istore_n_0 {x : Int32} {y : Option Value} {r : xS} (hd : decode b pc = .ok (.istore_n 0, 1)) (hn : pc + 1 = n) : sn2 M b o k fi fv pc (y :: r) (.int x :: st) S = k n (some (.int x) :: r) st S := by
  rw [sn_at hd]; subst hn; simp [s2, pI, lS, lB, f3]
theorem j_astore_n_0 {x : Nat} {y : Option Value} {r : xS} (hd : decode b pc = .ok (.astore_n 0, 1)) (hn : pc + 1 = n) : sn2 M b o k fi fv pc (y :: r) (.ref x :: st) S = k n (some (.ref x) :: r) st S := by
  rw [sn_at hd]; subst hn; simp [s2, pR, lS, lB, f3]
theorem j_lstore_n_0 {x : Int64} {y w : Option Value} {r : xS} (hd : decode b pc = .ok (.lstore_n 0, 1)) (hn : pc + 1 = n) : sn2 M b o k fi fv pc (y :: w :: r) (.long x :: st) S = k n (some (.long x) :: none :: r) st S := by
  rw [sn_at hd]; subst hn; simp [s2, pJ, lD, lB, f3]
theorem j_iinc_0 {x v : Int32} {q : Int} {r : xS} (hd : decode b pc = .ok (.iinc 0 q, 3)) (hn : pc + 3 = n) (hv : Int32.ofInt q = v) : sn2 M b o k fi fv pc (some (.int x) :: r) st S = k n (some (.int (x + v)) :: r) st S := by
  rw [sn_at hd]; subst hn; subst hv; simp [s2, lI, lS, lB]
theorem j_iload_n_1 {x : Int32} {r : xS} {a0 : Option Value} (hd : decode b pc = .ok (.iload_n 1, 1)) (hn : pc + 1 = n) : sn2 M b o k fi fv pc (a0 :: some (.int x) :: r) st S = k n (a0 :: some (.int x) :: r) (.int x :: st) S := by
  rw [sn_at hd]; subst hn; simp [s2, lI, f3]
theorem j_aload_n_1 {x : Nat} {r : xS} {a0 : Option Value} (hd : decode b pc = .ok (.aload_n 1, 1)) (hn : pc + 1 = n) : sn2 M b o k fi fv pc (a0 :: some (.ref x) :: r) st S = k n (a0 :: some (.ref x) :: r) (.ref x :: st) S := by
  rw [sn_at hd]; subst hn; simp [s2, lA, f3]
theorem j_lload_n_1 {x : Int64} {r : xS} {a0 : Option Value} (hd : decode b pc = .ok (.lload_n 1, 1)) (hn : pc + 1 = n) : sn2 M b o k fi fv pc (a0 :: some (.long x) :: r) st S = k n (a0 :: some (.long x) :: r) (.long x :: st) S := by
  rw [sn_at hd]; subst hn; simp [s2, lJ, f3]
theorem j_istore_n_1 {x : Int32} {y : Option Value} {r : xS} {a0 : Option Value} (hd : decode b pc = .ok (.istore_n 1, 1)) (hn : pc + 1 = n) (hp : nl a0 = true) : sn2 M b o k fi fv pc (a0 :: y :: r) (.int x :: st) S = k n (a0 :: some (.int x) :: r) st S := by
  rw [sn_at hd]; subst hn; (have hB : lB (a0 :: y :: r) 1 = true := by (cases a0 with | none => rfl | some v => cases v <;> first | rfl | cases hp)); simp [s2, pI, lS, hB, f3]
theorem j_astore_n_1 {x : Nat} {y : Option Value} {r : xS} {a0 : Option Value} (hd : decode b pc = .ok (.astore_n 1, 1)) (hn : pc + 1 = n) (hp : nl a0 = true) : sn2 M b o k fi fv pc (a0 :: y :: r) (.ref x :: st) S = k n (a0 :: some (.ref x) :: r) st S := by
  rw [sn_at hd]; subst hn; (have hB : lB (a0 :: y :: r) 1 = true := by (cases a0 with | none => rfl | some v => cases v <;> first | rfl | cases hp)); simp [s2, pR, lS, hB, f3]
theorem j_lstore_n_1 {x : Int64} {y w : Option Value} {r : xS} {a0 : Option Value} (hd : decode b pc = .ok (.lstore_n 1, 1)) (hn : pc + 1 = n) (hp : nl a0 = true) : sn2 M b o k fi fv pc (a0 :: y :: w :: r) (.long x :: st) S = k n (a0 :: some (.long x) :: none :: r) st S := by
  rw [sn_at hd]; subst hn; (have hB : lB (a0 :: y :: w :: r) 1 = true := by (cases a0 with | none => rfl | some v => cases v <;> first | rfl | cases hp)); simp [s2, pJ, lD, hB, f3]
theorem j_iinc_1 {x v : Int32} {q : Int} {r : xS} {a0 : Option Value} (hd : decode b pc = .ok (.iinc 1 q, 3)) (hn : pc + 3 = n) (hv : Int32.ofInt q = v) (hp : nl a0 = true) : sn2 M b o k fi fv pc (a0 :: some (.int x) :: r) st S = k n (a0 :: some (.int (x + v)) :: r) st S := by
  rw [sn_at hd]; subst hn; subst hv; (have hB : lB (a0 :: some (.int x) :: r) 1 = true := by (cases a0 with | none => rfl | some v => cases v <;> first | rfl | cases hp)); simp [s2, lI, lS, hB]
theorem j_iload_n_2 {x : Int32} {r : xS} {a0 a1 : Option Value} (hd : decode b pc = .ok (.iload_n 2, 1)) (hn : pc + 1 = n) : sn2 M b o k fi fv pc (a0 :: a1 :: some (.int x) :: r) st S = k n (a0 :: a1 :: some (.int x) :: r) (.int x :: st) S := by
  rw [sn_at hd]; subst hn; simp [s2, lI, f3]
theorem j_aload_n_2 {x : Nat} {r : xS} {a0 a1 : Option Value} (hd : decode b pc = .ok (.aload_n 2, 1)) (hn : pc + 1 = n) : sn2 M b o k fi fv pc (a0 :: a1 :: some (.ref x) :: r) st S = k n (a0 :: a1 :: some (.ref x) :: r) (.ref x :: st) S := by
  rw [sn_at hd]; subst hn; simp [s2, lA, f3]
theorem j_lload_n_2 {x : Int64} {r : xS} {a0 a1 : Option Value} (hd : decode b pc = .ok (.lload_n 2, 1)) (hn : pc + 1 = n) : sn2 M b o k fi fv pc (a0 :: a1 :: some (.long x) :: r) st S = k n (a0 :: a1 :: some (.long x) :: r) (.long x :: st) S := by
  rw [sn_at hd]; subst hn; simp [s2, lJ, f3]
theorem j_istore_n_2 {x : Int32} {y : Option Value} {r : xS} {a0 a1 : Option Value} (hd : decode b pc = .ok (.istore_n 2, 1)) (hn : pc + 1 = n) (hp : nl a1 = true) : sn2 M b o k fi fv pc (a0 :: a1 :: y :: r) (.int x :: st) S = k n (a0 :: a1 :: some (.int x) :: r) st S := by
  rw [sn_at hd]; subst hn; (have hB : lB (a0 :: a1 :: y :: r) 2 = true := by (cases a1 with | none => rfl | some v => cases v <;> first | rfl | cases hp)); simp [s2, pI, lS, hB, f3]
theorem j_astore_n_2 {x : Nat} {y : Option Value} {r : xS} {a0 a1 : Option Value} (hd : decode b pc = .ok (.astore_n 2, 1)) (hn : pc + 1 = n) (hp : nl a1 = true) : sn2 M b o k fi fv pc (a0 :: a1 :: y :: r) (.ref x :: st) S = k n (a0 :: a1 :: some (.ref x) :: r) st S := by
  rw [sn_at hd]; subst hn; (have hB : lB (a0 :: a1 :: y :: r) 2 = true := by (cases a1 with | none => rfl | some v => cases v <;> first | rfl | cases hp)); simp [s2, pR, lS, hB, f3]
theorem j_lstore_n_2 {x : Int64} {y w : Option Value} {r : xS} {a0 a1 : Option Value} (hd : decode b pc = .ok (.lstore_n 2, 1)) (hn : pc + 1 = n) (hp : nl a1 = true) : sn2 M b o k fi fv pc (a0 :: a1 :: y :: w :: r) (.long x :: st) S = k n (a0 :: a1 :: some (.long x) :: none :: r) st S := by
  rw [sn_at hd]; subst hn; (have hB : lB (a0 :: a1 :: y :: w :: r) 2 = true := by (cases a1 with | none => rfl | some v => cases v <;> first | rfl | cases hp)); simp [s2, pJ, lD, hB, f3]
theorem j_iinc_2 {x v : Int32} {q : Int} {r : xS} {a0 a1 : Option Value} (hd : decode b pc = .ok (.iinc 2 q, 3)) (hn : pc + 3 = n) (hv : Int32.ofInt q = v) (hp : nl a1 = true) : sn2 M b o k fi fv pc (a0 :: a1 :: some (.int x) :: r) st S = k n (a0 :: a1 :: some (.int (x + v)) :: r) st S := by
  rw [sn_at hd]; subst hn; subst hv; (have hB : lB (a0 :: a1 :: some (.int x) :: r) 2 = true := by (cases a1 with | none => rfl | some v => cases v <;> first | rfl | cases hp)); simp [s2, lI, lS, hB]
theorem j_iload_n_3 {x : Int32} {r : xS} {a0 a1 a2 : Option Value} (hd : decode b pc = .ok (.iload_n 3, 1)) (hn : pc + 1 = n) : sn2 M b o k fi fv pc (a0 :: a1 :: a2 :: some (.int x) :: r) st S = k n (a0 :: a1 :: a2 :: some (.int x) :: r) (.int x :: st) S := by
  rw [sn_at hd]; subst hn; simp [s2, lI, f3]
theorem j_aload_n_3 {x : Nat} {r : xS} {a0 a1 a2 : Option Value} (hd : decode b pc = .ok (.aload_n 3, 1)) (hn : pc + 1 = n) : sn2 M b o k fi fv pc (a0 :: a1 :: a2 :: some (.ref x) :: r) st S = k n (a0 :: a1 :: a2 :: some (.ref x) :: r) (.ref x :: st) S := by
  rw [sn_at hd]; subst hn; simp [s2, lA, f3]
theorem j_lload_n_3 {x : Int64} {r : xS} {a0 a1 a2 : Option Value} (hd : decode b pc = .ok (.lload_n 3, 1)) (hn : pc + 1 = n) : sn2 M b o k fi fv pc (a0 :: a1 :: a2 :: some (.long x) :: r) st S = k n (a0 :: a1 :: a2 :: some (.long x) :: r) (.long x :: st) S := by
  rw [sn_at hd]; subst hn; simp [s2, lJ, f3]
theorem j_istore_n_3 {x : Int32} {y : Option Value} {r : xS} {a0 a1 a2 : Option Value} (hd : decode b pc = .ok (.istore_n 3, 1)) (hn : pc + 1 = n) (hp : nl a2 = true) : sn2 M b o k fi fv pc (a0 :: a1 :: a2 :: y :: r) (.int x :: st) S = k n (a0 :: a1 :: a2 :: some (.int x) :: r) st S := by
  rw [sn_at hd]; subst hn; (have hB : lB (a0 :: a1 :: a2 :: y :: r) 3 = true := by (cases a2 with | none => rfl | some v => cases v <;> first | rfl | cases hp)); simp [s2, pI, lS, hB, f3]
theorem j_astore_n_3 {x : Nat} {y : Option Value} {r : xS} {a0 a1 a2 : Option Value} (hd : decode b pc = .ok (.astore_n 3, 1)) (hn : pc + 1 = n) (hp : nl a2 = true) : sn2 M b o k fi fv pc (a0 :: a1 :: a2 :: y :: r) (.ref x :: st) S = k n (a0 :: a1 :: a2 :: some (.ref x) :: r) st S := by
  rw [sn_at hd]; subst hn; (have hB : lB (a0 :: a1 :: a2 :: y :: r) 3 = true := by (cases a2 with | none => rfl | some v => cases v <;> first | rfl | cases hp)); simp [s2, pR, lS, hB, f3]
theorem j_lstore_n_3 {x : Int64} {y w : Option Value} {r : xS} {a0 a1 a2 : Option Value} (hd : decode b pc = .ok (.lstore_n 3, 1)) (hn : pc + 1 = n) (hp : nl a2 = true) : sn2 M b o k fi fv pc (a0 :: a1 :: a2 :: y :: w :: r) (.long x :: st) S = k n (a0 :: a1 :: a2 :: some (.long x) :: none :: r) st S := by
  rw [sn_at hd]; subst hn; (have hB : lB (a0 :: a1 :: a2 :: y :: w :: r) 3 = true := by (cases a2 with | none => rfl | some v => cases v <;> first | rfl | cases hp)); simp [s2, pJ, lD, hB, f3]
theorem j_iinc_3 {x v : Int32} {q : Int} {r : xS} {a0 a1 a2 : Option Value} (hd : decode b pc = .ok (.iinc 3 q, 3)) (hn : pc + 3 = n) (hv : Int32.ofInt q = v) (hp : nl a2 = true) : sn2 M b o k fi fv pc (a0 :: a1 :: a2 :: some (.int x) :: r) st S = k n (a0 :: a1 :: a2 :: some (.int (x + v)) :: r) st S := by
  rw [sn_at hd]; subst hn; subst hv; (have hB : lB (a0 :: a1 :: a2 :: some (.int x) :: r) 3 = true := by (cases a2 with | none => rfl | some v => cases v <;> first | rfl | cases hp)); simp [s2, lI, lS, hB]
theorem j_iload_4 {x : Int32} {r : xS} {a0 a1 a2 a3 : Option Value} (hd : decode b pc = .ok (.iload 4, 2)) (hn : pc + 2 = n) : sn2 M b o k fi fv pc (a0 :: a1 :: a2 :: a3 :: some (.int x) :: r) st S = k n (a0 :: a1 :: a2 :: a3 :: some (.int x) :: r) (.int x :: st) S := by
  rw [sn_at hd]; subst hn; simp [s2, lI, f3]
theorem j_aload_4 {x : Nat} {r : xS} {a0 a1 a2 a3 : Option Value} (hd : decode b pc = .ok (.aload 4, 2)) (hn : pc + 2 = n) : sn2 M b o k fi fv pc (a0 :: a1 :: a2 :: a3 :: some (.ref x) :: r) st S = k n (a0 :: a1 :: a2 :: a3 :: some (.ref x) :: r) (.ref x :: st) S := by
  rw [sn_at hd]; subst hn; simp [s2, lA, f3]
theorem j_lload_4 {x : Int64} {r : xS} {a0 a1 a2 a3 : Option Value} (hd : decode b pc = .ok (.lload 4, 2)) (hn : pc + 2 = n) : sn2 M b o k fi fv pc (a0 :: a1 :: a2 :: a3 :: some (.long x) :: r) st S = k n (a0 :: a1 :: a2 :: a3 :: some (.long x) :: r) (.long x :: st) S := by
  rw [sn_at hd]; subst hn; simp [s2, lJ, f3]
theorem j_istore_4 {x : Int32} {y : Option Value} {r : xS} {a0 a1 a2 a3 : Option Value} (hd : decode b pc = .ok (.istore 4, 2)) (hn : pc + 2 = n) (hp : nl a3 = true) : sn2 M b o k fi fv pc (a0 :: a1 :: a2 :: a3 :: y :: r) (.int x :: st) S = k n (a0 :: a1 :: a2 :: a3 :: some (.int x) :: r) st S := by
  rw [sn_at hd]; subst hn; (have hB : lB (a0 :: a1 :: a2 :: a3 :: y :: r) 4 = true := by (cases a3 with | none => rfl | some v => cases v <;> first | rfl | cases hp)); simp [s2, pI, lS, hB, f3]
theorem j_astore_4 {x : Nat} {y : Option Value} {r : xS} {a0 a1 a2 a3 : Option Value} (hd : decode b pc = .ok (.astore 4, 2)) (hn : pc + 2 = n) (hp : nl a3 = true) : sn2 M b o k fi fv pc (a0 :: a1 :: a2 :: a3 :: y :: r) (.ref x :: st) S = k n (a0 :: a1 :: a2 :: a3 :: some (.ref x) :: r) st S := by
  rw [sn_at hd]; subst hn; (have hB : lB (a0 :: a1 :: a2 :: a3 :: y :: r) 4 = true := by (cases a3 with | none => rfl | some v => cases v <;> first | rfl | cases hp)); simp [s2, pR, lS, hB, f3]
theorem j_lstore_4 {x : Int64} {y w : Option Value} {r : xS} {a0 a1 a2 a3 : Option Value} (hd : decode b pc = .ok (.lstore 4, 2)) (hn : pc + 2 = n) (hp : nl a3 = true) : sn2 M b o k fi fv pc (a0 :: a1 :: a2 :: a3 :: y :: w :: r) (.long x :: st) S = k n (a0 :: a1 :: a2 :: a3 :: some (.long x) :: none :: r) st S := by
  rw [sn_at hd]; subst hn; (have hB : lB (a0 :: a1 :: a2 :: a3 :: y :: w :: r) 4 = true := by (cases a3 with | none => rfl | some v => cases v <;> first | rfl | cases hp)); simp [s2, pJ, lD, hB, f3]
theorem j_iinc_4 {x v : Int32} {q : Int} {r : xS} {a0 a1 a2 a3 : Option Value} (hd : decode b pc = .ok (.iinc 4 q, 3)) (hn : pc + 3 = n) (hv : Int32.ofInt q = v) (hp : nl a3 = true) : sn2 M b o k fi fv pc (a0 :: a1 :: a2 :: a3 :: some (.int x) :: r) st S = k n (a0 :: a1 :: a2 :: a3 :: some (.int (x + v)) :: r) st S := by
  rw [sn_at hd]; subst hn; subst hv; (have hB : lB (a0 :: a1 :: a2 :: a3 :: some (.int x) :: r) 4 = true := by (cases a3 with | none => rfl | some v => cases v <;> first | rfl | cases hp)); simp [s2, lI, lS, hB]
theorem j_iload_5 {x : Int32} {r : xS} {a0 a1 a2 a3 a4 : Option Value} (hd : decode b pc = .ok (.iload 5, 2)) (hn : pc + 2 = n) : sn2 M b o k fi fv pc (a0 :: a1 :: a2 :: a3 :: a4 :: some (.int x) :: r) st S = k n (a0 :: a1 :: a2 :: a3 :: a4 :: some (.int x) :: r) (.int x :: st) S := by
  rw [sn_at hd]; subst hn; simp [s2, lI, f3]
theorem j_aload_5 {x : Nat} {r : xS} {a0 a1 a2 a3 a4 : Option Value} (hd : decode b pc = .ok (.aload 5, 2)) (hn : pc + 2 = n) : sn2 M b o k fi fv pc (a0 :: a1 :: a2 :: a3 :: a4 :: some (.ref x) :: r) st S = k n (a0 :: a1 :: a2 :: a3 :: a4 :: some (.ref x) :: r) (.ref x :: st) S := by
  rw [sn_at hd]; subst hn; simp [s2, lA, f3]
theorem j_lload_5 {x : Int64} {r : xS} {a0 a1 a2 a3 a4 : Option Value} (hd : decode b pc = .ok (.lload 5, 2)) (hn : pc + 2 = n) : sn2 M b o k fi fv pc (a0 :: a1 :: a2 :: a3 :: a4 :: some (.long x) :: r) st S = k n (a0 :: a1 :: a2 :: a3 :: a4 :: some (.long x) :: r) (.long x :: st) S := by
  rw [sn_at hd]; subst hn; simp [s2, lJ, f3]
theorem j_istore_5 {x : Int32} {y : Option Value} {r : xS} {a0 a1 a2 a3 a4 : Option Value} (hd : decode b pc = .ok (.istore 5, 2)) (hn : pc + 2 = n) (hp : nl a4 = true) : sn2 M b o k fi fv pc (a0 :: a1 :: a2 :: a3 :: a4 :: y :: r) (.int x :: st) S = k n (a0 :: a1 :: a2 :: a3 :: a4 :: some (.int x) :: r) st S := by
  rw [sn_at hd]; subst hn; (have hB : lB (a0 :: a1 :: a2 :: a3 :: a4 :: y :: r) 5 = true := by (cases a4 with | none => rfl | some v => cases v <;> first | rfl | cases hp)); simp [s2, pI, lS, hB, f3]
theorem j_astore_5 {x : Nat} {y : Option Value} {r : xS} {a0 a1 a2 a3 a4 : Option Value} (hd : decode b pc = .ok (.astore 5, 2)) (hn : pc + 2 = n) (hp : nl a4 = true) : sn2 M b o k fi fv pc (a0 :: a1 :: a2 :: a3 :: a4 :: y :: r) (.ref x :: st) S = k n (a0 :: a1 :: a2 :: a3 :: a4 :: some (.ref x) :: r) st S := by
  rw [sn_at hd]; subst hn; (have hB : lB (a0 :: a1 :: a2 :: a3 :: a4 :: y :: r) 5 = true := by (cases a4 with | none => rfl | some v => cases v <;> first | rfl | cases hp)); simp [s2, pR, lS, hB, f3]
theorem j_lstore_5 {x : Int64} {y w : Option Value} {r : xS} {a0 a1 a2 a3 a4 : Option Value} (hd : decode b pc = .ok (.lstore 5, 2)) (hn : pc + 2 = n) (hp : nl a4 = true) : sn2 M b o k fi fv pc (a0 :: a1 :: a2 :: a3 :: a4 :: y :: w :: r) (.long x :: st) S = k n (a0 :: a1 :: a2 :: a3 :: a4 :: some (.long x) :: none :: r) st S := by
  rw [sn_at hd]; subst hn; (have hB : lB (a0 :: a1 :: a2 :: a3 :: a4 :: y :: w :: r) 5 = true := by (cases a4 with | none => rfl | some v => cases v <;> first | rfl | cases hp)); simp [s2, pJ, lD, hB, f3]
theorem j_iinc_5 {x v : Int32} {q : Int} {r : xS} {a0 a1 a2 a3 a4 : Option Value} (hd : decode b pc = .ok (.iinc 5 q, 3)) (hn : pc + 3 = n) (hv : Int32.ofInt q = v) (hp : nl a4 = true) : sn2 M b o k fi fv pc (a0 :: a1 :: a2 :: a3 :: a4 :: some (.int x) :: r) st S = k n (a0 :: a1 :: a2 :: a3 :: a4 :: some (.int (x + v)) :: r) st S := by
  rw [sn_at hd]; subst hn; subst hv; (have hB : lB (a0 :: a1 :: a2 :: a3 :: a4 :: some (.int x) :: r) 5 = true := by (cases a4 with | none => rfl | some v => cases v <;> first | rfl | cases hp)); simp [s2, lI, lS, hB]
theorem j_iload_6 {x : Int32} {r : xS} {a0 a1 a2 a3 a4 a5 : Option Value} (hd : decode b pc = .ok (.iload 6, 2)) (hn : pc + 2 = n) : sn2 M b o k fi fv pc (a0 :: a1 :: a2 :: a3 :: a4 :: a5 :: some (.int x) :: r) st S = k n (a0 :: a1 :: a2 :: a3 :: a4 :: a5 :: some (.int x) :: r) (.int x :: st) S := by
  rw [sn_at hd]; subst hn; simp [s2, lI, f3]
theorem j_aload_6 {x : Nat} {r : xS} {a0 a1 a2 a3 a4 a5 : Option Value} (hd : decode b pc = .ok (.aload 6, 2)) (hn : pc + 2 = n) : sn2 M b o k fi fv pc (a0 :: a1 :: a2 :: a3 :: a4 :: a5 :: some (.ref x) :: r) st S = k n (a0 :: a1 :: a2 :: a3 :: a4 :: a5 :: some (.ref x) :: r) (.ref x :: st) S := by
  rw [sn_at hd]; subst hn; simp [s2, lA, f3]
theorem j_lload_6 {x : Int64} {r : xS} {a0 a1 a2 a3 a4 a5 : Option Value} (hd : decode b pc = .ok (.lload 6, 2)) (hn : pc + 2 = n) : sn2 M b o k fi fv pc (a0 :: a1 :: a2 :: a3 :: a4 :: a5 :: some (.long x) :: r) st S = k n (a0 :: a1 :: a2 :: a3 :: a4 :: a5 :: some (.long x) :: r) (.long x :: st) S := by
  rw [sn_at hd]; subst hn; simp [s2, lJ, f3]
theorem j_istore_6 {x : Int32} {y : Option Value} {r : xS} {a0 a1 a2 a3 a4 a5 : Option Value} (hd : decode b pc = .ok (.istore 6, 2)) (hn : pc + 2 = n) (hp : nl a5 = true) : sn2 M b o k fi fv pc (a0 :: a1 :: a2 :: a3 :: a4 :: a5 :: y :: r) (.int x :: st) S = k n (a0 :: a1 :: a2 :: a3 :: a4 :: a5 :: some (.int x) :: r) st S := by
  rw [sn_at hd]; subst hn; (have hB : lB (a0 :: a1 :: a2 :: a3 :: a4 :: a5 :: y :: r) 6 = true := by (cases a5 with | none => rfl | some v => cases v <;> first | rfl | cases hp)); simp [s2, pI, lS, hB, f3]
theorem j_astore_6 {x : Nat} {y : Option Value} {r : xS} {a0 a1 a2 a3 a4 a5 : Option Value} (hd : decode b pc = .ok (.astore 6, 2)) (hn : pc + 2 = n) (hp : nl a5 = true) : sn2 M b o k fi fv pc (a0 :: a1 :: a2 :: a3 :: a4 :: a5 :: y :: r) (.ref x :: st) S = k n (a0 :: a1 :: a2 :: a3 :: a4 :: a5 :: some (.ref x) :: r) st S := by
  rw [sn_at hd]; subst hn; (have hB : lB (a0 :: a1 :: a2 :: a3 :: a4 :: a5 :: y :: r) 6 = true := by (cases a5 with | none => rfl | some v => cases v <;> first | rfl | cases hp)); simp [s2, pR, lS, hB, f3]
theorem j_lstore_6 {x : Int64} {y w : Option Value} {r : xS} {a0 a1 a2 a3 a4 a5 : Option Value} (hd : decode b pc = .ok (.lstore 6, 2)) (hn : pc + 2 = n) (hp : nl a5 = true) : sn2 M b o k fi fv pc (a0 :: a1 :: a2 :: a3 :: a4 :: a5 :: y :: w :: r) (.long x :: st) S = k n (a0 :: a1 :: a2 :: a3 :: a4 :: a5 :: some (.long x) :: none :: r) st S := by
  rw [sn_at hd]; subst hn; (have hB : lB (a0 :: a1 :: a2 :: a3 :: a4 :: a5 :: y :: w :: r) 6 = true := by (cases a5 with | none => rfl | some v => cases v <;> first | rfl | cases hp)); simp [s2, pJ, lD, hB, f3]
theorem j_iinc_6 {x v : Int32} {q : Int} {r : xS} {a0 a1 a2 a3 a4 a5 : Option Value} (hd : decode b pc = .ok (.iinc 6 q, 3)) (hn : pc + 3 = n) (hv : Int32.ofInt q = v) (hp : nl a5 = true) : sn2 M b o k fi fv pc (a0 :: a1 :: a2 :: a3 :: a4 :: a5 :: some (.int x) :: r) st S = k n (a0 :: a1 :: a2 :: a3 :: a4 :: a5 :: some (.int (x + v)) :: r) st S := by
  rw [sn_at hd]; subst hn; subst hv; (have hB : lB (a0 :: a1 :: a2 :: a3 :: a4 :: a5 :: some (.int x) :: r) 6 = true := by (cases a5 with | none => rfl | some v => cases v <;> first | rfl | cases hp)); simp [s2, lI, lS, hB]
theorem j_iload_7 {x : Int32} {r : xS} {a0 a1 a2 a3 a4 a5 a6 : Option Value} (hd : decode b pc = .ok (.iload 7, 2)) (hn : pc + 2 = n) : sn2 M b o k fi fv pc (a0 :: a1 :: a2 :: a3 :: a4 :: a5 :: a6 :: some (.int x) :: r) st S = k n (a0 :: a1 :: a2 :: a3 :: a4 :: a5 :: a6 :: some (.int x) :: r) (.int x :: st) S := by
  rw [sn_at hd]; subst hn; simp [s2, lI, f3]
theorem j_aload_7 {x : Nat} {r : xS} {a0 a1 a2 a3 a4 a5 a6 : Option Value} (hd : decode b pc = .ok (.aload 7, 2)) (hn : pc + 2 = n) : sn2 M b o k fi fv pc (a0 :: a1 :: a2 :: a3 :: a4 :: a5 :: a6 :: some (.ref x) :: r) st S = k n (a0 :: a1 :: a2 :: a3 :: a4 :: a5 :: a6 :: some (.ref x) :: r) (.ref x :: st) S := by
  rw [sn_at hd]; subst hn; simp [s2, lA, f3]
theorem j_lload_7 {x : Int64} {r : xS} {a0 a1 a2 a3 a4 a5 a6 : Option Value} (hd : decode b pc = .ok (.lload 7, 2)) (hn : pc + 2 = n) : sn2 M b o k fi fv pc (a0 :: a1 :: a2 :: a3 :: a4 :: a5 :: a6 :: some (.long x) :: r) st S = k n (a0 :: a1 :: a2 :: a3 :: a4 :: a5 :: a6 :: some (.long x) :: r) (.long x :: st) S := by
  rw [sn_at hd]; subst hn; simp [s2, lJ, f3]
theorem j_istore_7 {x : Int32} {y : Option Value} {r : xS} {a0 a1 a2 a3 a4 a5 a6 : Option Value} (hd : decode b pc = .ok (.istore 7, 2)) (hn : pc + 2 = n) (hp : nl a6 = true) : sn2 M b o k fi fv pc (a0 :: a1 :: a2 :: a3 :: a4 :: a5 :: a6 :: y :: r) (.int x :: st) S = k n (a0 :: a1 :: a2 :: a3 :: a4 :: a5 :: a6 :: some (.int x) :: r) st S := by
  rw [sn_at hd]; subst hn; (have hB : lB (a0 :: a1 :: a2 :: a3 :: a4 :: a5 :: a6 :: y :: r) 7 = true := by (cases a6 with | none => rfl | some v => cases v <;> first | rfl | cases hp)); simp [s2, pI, lS, hB, f3]
theorem j_astore_7 {x : Nat} {y : Option Value} {r : xS} {a0 a1 a2 a3 a4 a5 a6 : Option Value} (hd : decode b pc = .ok (.astore 7, 2)) (hn : pc + 2 = n) (hp : nl a6 = true) : sn2 M b o k fi fv pc (a0 :: a1 :: a2 :: a3 :: a4 :: a5 :: a6 :: y :: r) (.ref x :: st) S = k n (a0 :: a1 :: a2 :: a3 :: a4 :: a5 :: a6 :: some (.ref x) :: r) st S := by
  rw [sn_at hd]; subst hn; (have hB : lB (a0 :: a1 :: a2 :: a3 :: a4 :: a5 :: a6 :: y :: r) 7 = true := by (cases a6 with | none => rfl | some v => cases v <;> first | rfl | cases hp)); simp [s2, pR, lS, hB, f3]
theorem j_lstore_7 {x : Int64} {y w : Option Value} {r : xS} {a0 a1 a2 a3 a4 a5 a6 : Option Value} (hd : decode b pc = .ok (.lstore 7, 2)) (hn : pc + 2 = n) (hp : nl a6 = true) : sn2 M b o k fi fv pc (a0 :: a1 :: a2 :: a3 :: a4 :: a5 :: a6 :: y :: w :: r) (.long x :: st) S = k n (a0 :: a1 :: a2 :: a3 :: a4 :: a5 :: a6 :: some (.long x) :: none :: r) st S := by
  rw [sn_at hd]; subst hn; (have hB : lB (a0 :: a1 :: a2 :: a3 :: a4 :: a5 :: a6 :: y :: w :: r) 7 = true := by (cases a6 with | none => rfl | some v => cases v <;> first | rfl | cases hp)); simp [s2, pJ, lD, hB, f3]
theorem j_iinc_7 {x v : Int32} {q : Int} {r : xS} {a0 a1 a2 a3 a4 a5 a6 : Option Value} (hd : decode b pc = .ok (.iinc 7 q, 3)) (hn : pc + 3 = n) (hv : Int32.ofInt q = v) (hp : nl a6 = true) : sn2 M b o k fi fv pc (a0 :: a1 :: a2 :: a3 :: a4 :: a5 :: a6 :: some (.int x) :: r) st S = k n (a0 :: a1 :: a2 :: a3 :: a4 :: a5 :: a6 :: some (.int (x + v)) :: r) st S := by
  rw [sn_at hd]; subst hn; subst hv; (have hB : lB (a0 :: a1 :: a2 :: a3 :: a4 :: a5 :: a6 :: some (.int x) :: r) 7 = true := by (cases a6 with | none => rfl | some v => cases v <;> first | rfl | cases hp)); simp [s2, lI, lS, hB]
theorem j_iload_8 {x : Int32} {r : xS} {a0 a1 a2 a3 a4 a5 a6 a7 : Option Value} (hd : decode b pc = .ok (.iload 8, 2)) (hn : pc + 2 = n) : sn2 M b o k fi fv pc (a0 :: a1 :: a2 :: a3 :: a4 :: a5 :: a6 :: a7 :: some (.int x) :: r) st S = k n (a0 :: a1 :: a2 :: a3 :: a4 :: a5 :: a6 :: a7 :: some (.int x) :: r) (.int x :: st) S := by
  rw [sn_at hd]; subst hn; simp [s2, lI, f3]
theorem j_aload_8 {x : Nat} {r : xS} {a0 a1 a2 a3 a4 a5 a6 a7 : Option Value} (hd : decode b pc = .ok (.aload 8, 2)) (hn : pc + 2 = n) : sn2 M b o k fi fv pc (a0 :: a1 :: a2 :: a3 :: a4 :: a5 :: a6 :: a7 :: some (.ref x) :: r) st S = k n (a0 :: a1 :: a2 :: a3 :: a4 :: a5 :: a6 :: a7 :: some (.ref x) :: r) (.ref x :: st) S := by
  rw [sn_at hd]; subst hn; simp [s2, lA, f3]
theorem j_lload_8 {x : Int64} {r : xS} {a0 a1 a2 a3 a4 a5 a6 a7 : Option Value} (hd : decode b pc = .ok (.lload 8, 2)) (hn : pc + 2 = n) : sn2 M b o k fi fv pc (a0 :: a1 :: a2 :: a3 :: a4 :: a5 :: a6 :: a7 :: some (.long x) :: r) st S = k n (a0 :: a1 :: a2 :: a3 :: a4 :: a5 :: a6 :: a7 :: some (.long x) :: r) (.long x :: st) S := by
  rw [sn_at hd]; subst hn; simp [s2, lJ, f3]
theorem j_istore_8 {x : Int32} {y : Option Value} {r : xS} {a0 a1 a2 a3 a4 a5 a6 a7 : Option Value} (hd : decode b pc = .ok (.istore 8, 2)) (hn : pc + 2 = n) (hp : nl a7 = true) : sn2 M b o k fi fv pc (a0 :: a1 :: a2 :: a3 :: a4 :: a5 :: a6 :: a7 :: y :: r) (.int x :: st) S = k n (a0 :: a1 :: a2 :: a3 :: a4 :: a5 :: a6 :: a7 :: some (.int x) :: r) st S := by
  rw [sn_at hd]; subst hn; (have hB : lB (a0 :: a1 :: a2 :: a3 :: a4 :: a5 :: a6 :: a7 :: y :: r) 8 = true := by (cases a7 with | none => rfl | some v => cases v <;> first | rfl | cases hp)); simp [s2, pI, lS, hB, f3]
theorem j_astore_8 {x : Nat} {y : Option Value} {r : xS} {a0 a1 a2 a3 a4 a5 a6 a7 : Option Value} (hd : decode b pc = .ok (.astore 8, 2)) (hn : pc + 2 = n) (hp : nl a7 = true) : sn2 M b o k fi fv pc (a0 :: a1 :: a2 :: a3 :: a4 :: a5 :: a6 :: a7 :: y :: r) (.ref x :: st) S = k n (a0 :: a1 :: a2 :: a3 :: a4 :: a5 :: a6 :: a7 :: some (.ref x) :: r) st S := by
  rw [sn_at hd]; subst hn; (have hB : lB (a0 :: a1 :: a2 :: a3 :: a4 :: a5 :: a6 :: a7 :: y :: r) 8 = true := by (cases a7 with | none => rfl | some v => cases v <;> first | rfl | cases hp)); simp [s2, pR, lS, hB, f3]
theorem j_lstore_8 {x : Int64} {y w : Option Value} {r : xS} {a0 a1 a2 a3 a4 a5 a6 a7 : Option Value} (hd : decode b pc = .ok (.lstore 8, 2)) (hn : pc + 2 = n) (hp : nl a7 = true) : sn2 M b o k fi fv pc (a0 :: a1 :: a2 :: a3 :: a4 :: a5 :: a6 :: a7 :: y :: w :: r) (.long x :: st) S = k n (a0 :: a1 :: a2 :: a3 :: a4 :: a5 :: a6 :: a7 :: some (.long x) :: none :: r) st S := by
  rw [sn_at hd]; subst hn; (have hB : lB (a0 :: a1 :: a2 :: a3 :: a4 :: a5 :: a6 :: a7 :: y :: w :: r) 8 = true := by (cases a7 with | none => rfl | some v => cases v <;> first | rfl | cases hp)); simp [s2, pJ, lD, hB, f3]
theorem j_iinc_8 {x v : Int32} {q : Int} {r : xS} {a0 a1 a2 a3 a4 a5 a6 a7 : Option Value} (hd : decode b pc = .ok (.iinc 8 q, 3)) (hn : pc + 3 = n) (hv : Int32.ofInt q = v) (hp : nl a7 = true) : sn2 M b o k fi fv pc (a0 :: a1 :: a2 :: a3 :: a4 :: a5 :: a6 :: a7 :: some (.int x) :: r) st S = k n (a0 :: a1 :: a2 :: a3 :: a4 :: a5 :: a6 :: a7 :: some (.int (x + v)) :: r) st S := by
  rw [sn_at hd]; subst hn; subst hv; (have hB : lB (a0 :: a1 :: a2 :: a3 :: a4 :: a5 :: a6 :: a7 :: some (.int x) :: r) 8 = true := by (cases a7 with | none => rfl | some v => cases v <;> first | rfl | cases hp)); simp [s2, lI, lS, hB]
theorem j_iload_9 {x : Int32} {r : xS} {a0 a1 a2 a3 a4 a5 a6 a7 a8 : Option Value} (hd : decode b pc = .ok (.iload 9, 2)) (hn : pc + 2 = n) : sn2 M b o k fi fv pc (a0 :: a1 :: a2 :: a3 :: a4 :: a5 :: a6 :: a7 :: a8 :: some (.int x) :: r) st S = k n (a0 :: a1 :: a2 :: a3 :: a4 :: a5 :: a6 :: a7 :: a8 :: some (.int x) :: r) (.int x :: st) S := by
  rw [sn_at hd]; subst hn; simp [s2, lI, f3]
theorem j_aload_9 {x : Nat} {r : xS} {a0 a1 a2 a3 a4 a5 a6 a7 a8 : Option Value} (hd : decode b pc = .ok (.aload 9, 2)) (hn : pc + 2 = n) : sn2 M b o k fi fv pc (a0 :: a1 :: a2 :: a3 :: a4 :: a5 :: a6 :: a7 :: a8 :: some (.ref x) :: r) st S = k n (a0 :: a1 :: a2 :: a3 :: a4 :: a5 :: a6 :: a7 :: a8 :: some (.ref x) :: r) (.ref x :: st) S := by
  rw [sn_at hd]; subst hn; simp [s2, lA, f3]
theorem j_lload_9 {x : Int64} {r : xS} {a0 a1 a2 a3 a4 a5 a6 a7 a8 : Option Value} (hd : decode b pc = .ok (.lload 9, 2)) (hn : pc + 2 = n) : sn2 M b o k fi fv pc (a0 :: a1 :: a2 :: a3 :: a4 :: a5 :: a6 :: a7 :: a8 :: some (.long x) :: r) st S = k n (a0 :: a1 :: a2 :: a3 :: a4 :: a5 :: a6 :: a7 :: a8 :: some (.long x) :: r) (.long x :: st) S := by
  rw [sn_at hd]; subst hn; simp [s2, lJ, f3]
theorem j_istore_9 {x : Int32} {y : Option Value} {r : xS} {a0 a1 a2 a3 a4 a5 a6 a7 a8 : Option Value} (hd : decode b pc = .ok (.istore 9, 2)) (hn : pc + 2 = n) (hp : nl a8 = true) : sn2 M b o k fi fv pc (a0 :: a1 :: a2 :: a3 :: a4 :: a5 :: a6 :: a7 :: a8 :: y :: r) (.int x :: st) S = k n (a0 :: a1 :: a2 :: a3 :: a4 :: a5 :: a6 :: a7 :: a8 :: some (.int x) :: r) st S := by
  rw [sn_at hd]; subst hn; (have hB : lB (a0 :: a1 :: a2 :: a3 :: a4 :: a5 :: a6 :: a7 :: a8 :: y :: r) 9 = true := by (cases a8 with | none => rfl | some v => cases v <;> first | rfl | cases hp)); simp [s2, pI, lS, hB, f3]
theorem j_astore_9 {x : Nat} {y : Option Value} {r : xS} {a0 a1 a2 a3 a4 a5 a6 a7 a8 : Option Value} (hd : decode b pc = .ok (.astore 9, 2)) (hn : pc + 2 = n) (hp : nl a8 = true) : sn2 M b o k fi fv pc (a0 :: a1 :: a2 :: a3 :: a4 :: a5 :: a6 :: a7 :: a8 :: y :: r) (.ref x :: st) S = k n (a0 :: a1 :: a2 :: a3 :: a4 :: a5 :: a6 :: a7 :: a8 :: some (.ref x) :: r) st S := by
  rw [sn_at hd]; subst hn; (have hB : lB (a0 :: a1 :: a2 :: a3 :: a4 :: a5 :: a6 :: a7 :: a8 :: y :: r) 9 = true := by (cases a8 with | none => rfl | some v => cases v <;> first | rfl | cases hp)); simp [s2, pR, lS, hB, f3]
theorem j_lstore_9 {x : Int64} {y w : Option Value} {r : xS} {a0 a1 a2 a3 a4 a5 a6 a7 a8 : Option Value} (hd : decode b pc = .ok (.lstore 9, 2)) (hn : pc + 2 = n) (hp : nl a8 = true) : sn2 M b o k fi fv pc (a0 :: a1 :: a2 :: a3 :: a4 :: a5 :: a6 :: a7 :: a8 :: y :: w :: r) (.long x :: st) S = k n (a0 :: a1 :: a2 :: a3 :: a4 :: a5 :: a6 :: a7 :: a8 :: some (.long x) :: none :: r) st S := by
  rw [sn_at hd]; subst hn; (have hB : lB (a0 :: a1 :: a2 :: a3 :: a4 :: a5 :: a6 :: a7 :: a8 :: y :: w :: r) 9 = true := by (cases a8 with | none => rfl | some v => cases v <;> first | rfl | cases hp)); simp [s2, pJ, lD, hB, f3]
theorem j_iinc_9 {x v : Int32} {q : Int} {r : xS} {a0 a1 a2 a3 a4 a5 a6 a7 a8 : Option Value} (hd : decode b pc = .ok (.iinc 9 q, 3)) (hn : pc + 3 = n) (hv : Int32.ofInt q = v) (hp : nl a8 = true) : sn2 M b o k fi fv pc (a0 :: a1 :: a2 :: a3 :: a4 :: a5 :: a6 :: a7 :: a8 :: some (.int x) :: r) st S = k n (a0 :: a1 :: a2 :: a3 :: a4 :: a5 :: a6 :: a7 :: a8 :: some (.int (x + v)) :: r) st S := by
  rw [sn_at hd]; subst hn; subst hv; (have hB : lB (a0 :: a1 :: a2 :: a3 :: a4 :: a5 :: a6 :: a7 :: a8 :: some (.int x) :: r) 9 = true := by (cases a8 with | none => rfl | some v => cases v <;> first | rfl | cases hp)); simp [s2, lI, lS, hB]
theorem j_iload_10 {x : Int32} {r : xS} {a0 a1 a2 a3 a4 a5 a6 a7 a8 a9 : Option Value} (hd : decode b pc = .ok (.iload 10, 2)) (hn : pc + 2 = n) : sn2 M b o k fi fv pc (a0 :: a1 :: a2 :: a3 :: a4 :: a5 :: a6 :: a7 :: a8 :: a9 :: some (.int x) :: r) st S = k n (a0 :: a1 :: a2 :: a3 :: a4 :: a5 :: a6 :: a7 :: a8 :: a9 :: some (.int x) :: r) (.int x :: st) S := by
  rw [sn_at hd]; subst hn; simp [s2, lI, f3]
theorem j_aload_10 {x : Nat} {r : xS} {a0 a1 a2 a3 a4 a5 a6 a7 a8 a9 : Option Value} (hd : decode b pc = .ok (.aload 10, 2)) (hn : pc + 2 = n) : sn2 M b o k fi fv pc (a0 :: a1 :: a2 :: a3 :: a4 :: a5 :: a6 :: a7 :: a8 :: a9 :: some (.ref x) :: r) st S = k n (a0 :: a1 :: a2 :: a3 :: a4 :: a5 :: a6 :: a7 :: a8 :: a9 :: some (.ref x) :: r) (.ref x :: st) S := by
  rw [sn_at hd]; subst hn; simp [s2, lA, f3]
theorem j_lload_10 {x : Int64} {r : xS} {a0 a1 a2 a3 a4 a5 a6 a7 a8 a9 : Option Value} (hd : decode b pc = .ok (.lload 10, 2)) (hn : pc + 2 = n) : sn2 M b o k fi fv pc (a0 :: a1 :: a2 :: a3 :: a4 :: a5 :: a6 :: a7 :: a8 :: a9 :: some (.long x) :: r) st S = k n (a0 :: a1 :: a2 :: a3 :: a4 :: a5 :: a6 :: a7 :: a8 :: a9 :: some (.long x) :: r) (.long x :: st) S := by
  rw [sn_at hd]; subst hn; simp [s2, lJ, f3]
theorem j_istore_10 {x : Int32} {y : Option Value} {r : xS} {a0 a1 a2 a3 a4 a5 a6 a7 a8 a9 : Option Value} (hd : decode b pc = .ok (.istore 10, 2)) (hn : pc + 2 = n) (hp : nl a9 = true) : sn2 M b o k fi fv pc (a0 :: a1 :: a2 :: a3 :: a4 :: a5 :: a6 :: a7 :: a8 :: a9 :: y :: r) (.int x :: st) S = k n (a0 :: a1 :: a2 :: a3 :: a4 :: a5 :: a6 :: a7 :: a8 :: a9 :: some (.int x) :: r) st S := by
  rw [sn_at hd]; subst hn; (have hB : lB (a0 :: a1 :: a2 :: a3 :: a4 :: a5 :: a6 :: a7 :: a8 :: a9 :: y :: r) 10 = true := by (cases a9 with | none => rfl | some v => cases v <;> first | rfl | cases hp)); simp [s2, pI, lS, hB, f3]
theorem j_astore_10 {x : Nat} {y : Option Value} {r : xS} {a0 a1 a2 a3 a4 a5 a6 a7 a8 a9 : Option Value} (hd : decode b pc = .ok (.astore 10, 2)) (hn : pc + 2 = n) (hp : nl a9 = true) : sn2 M b o k fi fv pc (a0 :: a1 :: a2 :: a3 :: a4 :: a5 :: a6 :: a7 :: a8 :: a9 :: y :: r) (.ref x :: st) S = k n (a0 :: a1 :: a2 :: a3 :: a4 :: a5 :: a6 :: a7 :: a8 :: a9 :: some (.ref x) :: r) st S := by
  rw [sn_at hd]; subst hn; (have hB : lB (a0 :: a1 :: a2 :: a3 :: a4 :: a5 :: a6 :: a7 :: a8 :: a9 :: y :: r) 10 = true := by (cases a9 with | none => rfl | some v => cases v <;> first | rfl | cases hp)); simp [s2, pR, lS, hB, f3]
theorem j_lstore_10 {x : Int64} {y w : Option Value} {r : xS} {a0 a1 a2 a3 a4 a5 a6 a7 a8 a9 : Option Value} (hd : decode b pc = .ok (.lstore 10, 2)) (hn : pc + 2 = n) (hp : nl a9 = true) : sn2 M b o k fi fv pc (a0 :: a1 :: a2 :: a3 :: a4 :: a5 :: a6 :: a7 :: a8 :: a9 :: y :: w :: r) (.long x :: st) S = k n (a0 :: a1 :: a2 :: a3 :: a4 :: a5 :: a6 :: a7 :: a8 :: a9 :: some (.long x) :: none :: r) st S := by
  rw [sn_at hd]; subst hn; (have hB : lB (a0 :: a1 :: a2 :: a3 :: a4 :: a5 :: a6 :: a7 :: a8 :: a9 :: y :: w :: r) 10 = true := by (cases a9 with | none => rfl | some v => cases v <;> first | rfl | cases hp)); simp [s2, pJ, lD, hB, f3]
theorem j_iinc_10 {x v : Int32} {q : Int} {r : xS} {a0 a1 a2 a3 a4 a5 a6 a7 a8 a9 : Option Value} (hd : decode b pc = .ok (.iinc 10 q, 3)) (hn : pc + 3 = n) (hv : Int32.ofInt q = v) (hp : nl a9 = true) : sn2 M b o k fi fv pc (a0 :: a1 :: a2 :: a3 :: a4 :: a5 :: a6 :: a7 :: a8 :: a9 :: some (.int x) :: r) st S = k n (a0 :: a1 :: a2 :: a3 :: a4 :: a5 :: a6 :: a7 :: a8 :: a9 :: some (.int (x + v)) :: r) st S := by
  rw [sn_at hd]; subst hn; subst hv; (have hB : lB (a0 :: a1 :: a2 :: a3 :: a4 :: a5 :: a6 :: a7 :: a8 :: a9 :: some (.int x) :: r) 10 = true := by (cases a9 with | none => rfl | some v => cases v <;> first | rfl | cases hp)); simp [s2, lI, lS, hB]
theorem j_iload_11 {x : Int32} {r : xS} {a0 a1 a2 a3 a4 a5 a6 a7 a8 a9 a10 : Option Value} (hd : decode b pc = .ok (.iload 11, 2)) (hn : pc + 2 = n) : sn2 M b o k fi fv pc (a0 :: a1 :: a2 :: a3 :: a4 :: a5 :: a6 :: a7 :: a8 :: a9 :: a10 :: some (.int x) :: r) st S = k n (a0 :: a1 :: a2 :: a3 :: a4 :: a5 :: a6 :: a7 :: a8 :: a9 :: a10 :: some (.int x) :: r) (.int x :: st) S := by
  rw [sn_at hd]; subst hn; simp [s2, lI, f3]
theorem j_aload_11 {x : Nat} {r : xS} {a0 a1 a2 a3 a4 a5 a6 a7 a8 a9 a10 : Option Value} (hd : decode b pc = .ok (.aload 11, 2)) (hn : pc + 2 = n) : sn2 M b o k fi fv pc (a0 :: a1 :: a2 :: a3 :: a4 :: a5 :: a6 :: a7 :: a8 :: a9 :: a10 :: some (.ref x) :: r) st S = k n (a0 :: a1 :: a2 :: a3 :: a4 :: a5 :: a6 :: a7 :: a8 :: a9 :: a10 :: some (.ref x) :: r) (.ref x :: st) S := by
  rw [sn_at hd]; subst hn; simp [s2, lA, f3]
theorem j_lload_11 {x : Int64} {r : xS} {a0 a1 a2 a3 a4 a5 a6 a7 a8 a9 a10 : Option Value} (hd : decode b pc = .ok (.lload 11, 2)) (hn : pc + 2 = n) : sn2 M b o k fi fv pc (a0 :: a1 :: a2 :: a3 :: a4 :: a5 :: a6 :: a7 :: a8 :: a9 :: a10 :: some (.long x) :: r) st S = k n (a0 :: a1 :: a2 :: a3 :: a4 :: a5 :: a6 :: a7 :: a8 :: a9 :: a10 :: some (.long x) :: r) (.long x :: st) S := by
  rw [sn_at hd]; subst hn; simp [s2, lJ, f3]
theorem j_istore_11 {x : Int32} {y : Option Value} {r : xS} {a0 a1 a2 a3 a4 a5 a6 a7 a8 a9 a10 : Option Value} (hd : decode b pc = .ok (.istore 11, 2)) (hn : pc + 2 = n) (hp : nl a10 = true) : sn2 M b o k fi fv pc (a0 :: a1 :: a2 :: a3 :: a4 :: a5 :: a6 :: a7 :: a8 :: a9 :: a10 :: y :: r) (.int x :: st) S = k n (a0 :: a1 :: a2 :: a3 :: a4 :: a5 :: a6 :: a7 :: a8 :: a9 :: a10 :: some (.int x) :: r) st S := by
  rw [sn_at hd]; subst hn; (have hB : lB (a0 :: a1 :: a2 :: a3 :: a4 :: a5 :: a6 :: a7 :: a8 :: a9 :: a10 :: y :: r) 11 = true := by (cases a10 with | none => rfl | some v => cases v <;> first | rfl | cases hp)); simp [s2, pI, lS, hB, f3]
theorem j_astore_11 {x : Nat} {y : Option Value} {r : xS} {a0 a1 a2 a3 a4 a5 a6 a7 a8 a9 a10 : Option Value} (hd : decode b pc = .ok (.astore 11, 2)) (hn : pc + 2 = n) (hp : nl a10 = true) : sn2 M b o k fi fv pc (a0 :: a1 :: a2 :: a3 :: a4 :: a5 :: a6 :: a7 :: a8 :: a9 :: a10 :: y :: r) (.ref x :: st) S = k n (a0 :: a1 :: a2 :: a3 :: a4 :: a5 :: a6 :: a7 :: a8 :: a9 :: a10 :: some (.ref x) :: r) st S := by
  rw [sn_at hd]; subst hn; (have hB : lB (a0 :: a1 :: a2 :: a3 :: a4 :: a5 :: a6 :: a7 :: a8 :: a9 :: a10 :: y :: r) 11 = true := by (cases a10 with | none => rfl | some v => cases v <;> first | rfl | cases hp)); simp [s2, pR, lS, hB, f3]
theorem j_lstore_11 {x : Int64} {y w : Option Value} {r : xS} {a0 a1 a2 a3 a4 a5 a6 a7 a8 a9 a10 : Option Value} (hd : decode b pc = .ok (.lstore 11, 2)) (hn : pc + 2 = n) (hp : nl a10 = true) : sn2 M b o k fi fv pc (a0 :: a1 :: a2 :: a3 :: a4 :: a5 :: a6 :: a7 :: a8 :: a9 :: a10 :: y :: w :: r) (.long x :: st) S = k n (a0 :: a1 :: a2 :: a3 :: a4 :: a5 :: a6 :: a7 :: a8 :: a9 :: a10 :: some (.long x) :: none :: r) st S := by
  rw [sn_at hd]; subst hn; (have hB : lB (a0 :: a1 :: a2 :: a3 :: a4 :: a5 :: a6 :: a7 :: a8 :: a9 :: a10 :: y :: w :: r) 11 = true := by (cases a10 with | none => rfl | some v => cases v <;> first | rfl | cases hp)); simp [s2, pJ, lD, hB, f3]
theorem j_iinc_11 {x v : Int32} {q : Int} {r : xS} {a0 a1 a2 a3 a4 a5 a6 a7 a8 a9 a10 : Option Value} (hd : decode b pc = .ok (.iinc 11 q, 3)) (hn : pc + 3 = n) (hv : Int32.ofInt q = v) (hp : nl a10 = true) : sn2 M b o k fi fv pc (a0 :: a1 :: a2 :: a3 :: a4 :: a5 :: a6 :: a7 :: a8 :: a9 :: a10 :: some (.int x) :: r) st S = k n (a0 :: a1 :: a2 :: a3 :: a4 :: a5 :: a6 :: a7 :: a8 :: a9 :: a10 :: some (.int (x + v)) :: r) st S := by
  rw [sn_at hd]; subst hn; subst hv; (have hB : lB (a0 :: a1 :: a2 :: a3 :: a4 :: a5 :: a6 :: a7 :: a8 :: a9 :: a10 :: some (.int x) :: r) 11 = true := by (cases a10 with | none => rfl | some v => cases v <;> first | rfl | cases hp)); simp [s2, lI, lS, hB]
theorem tgB {pc t : Nat} {off : Int} (h : (decide (0 ≤ (pc : Int) + off) && (tg pc off == t)) = true) : (0 ≤ (pc : Int) + off) ∧ tg pc off = t := by simpa using h
theorem j_if_eq {x : Int32} {off : Int} {t : Nat} (hd : decode b pc = .ok (.ifCond .eq off, 3)) (hn : pc + 3 = n) (ht : (decide (0 ≤ (pc : Int) + off) && (tg pc off == t)) = true) : sn2 M b o k fi fv pc ls (.int x :: st) S = (if x = 0 then k t ls st S else k n ls st S) := by
  rw [sn_at hd]; subst hn; obtain ⟨h1, h2⟩ := tgB ht; simp only [s2, pI, xif, h1, h2, and_self, true_and]
theorem j_ic_eq {x y : Int32} {off : Int} {t : Nat} (hd : decode b pc = .ok (.if_icmp .eq off, 3)) (hn : pc + 3 = n) (ht : (decide (0 ≤ (pc : Int) + off) && (tg pc off == t)) = true) : sn2 M b o k fi fv pc ls (.int y :: .int x :: st) S = (if x = y then k t ls st S else k n ls st S) := by
  rw [sn_at hd]; subst hn; obtain ⟨h1, h2⟩ := tgB ht; simp only [s2, pII, xif, h1, h2, and_self, true_and]
theorem j_if_ne {x : Int32} {off : Int} {t : Nat} (hd : decode b pc = .ok (.ifCond .ne off, 3)) (hn : pc + 3 = n) (ht : (decide (0 ≤ (pc : Int) + off) && (tg pc off == t)) = true) : sn2 M b o k fi fv pc ls (.int x :: st) S = (if x = 0 then k n ls st S else k t ls st S) := by
  rw [sn_at hd]; subst hn; obtain ⟨h1, h2⟩ := tgB ht; simp only [s2, pI, xif, h1, h2, and_self, true_and]
theorem j_ic_ne {x y : Int32} {off : Int} {t : Nat} (hd : decode b pc = .ok (.if_icmp .ne off, 3)) (hn : pc + 3 = n) (ht : (decide (0 ≤ (pc : Int) + off) && (tg pc off == t)) = true) : sn2 M b o k fi fv pc ls (.int y :: .int x :: st) S = (if x = y then k n ls st S else k t ls st S) := by
  rw [sn_at hd]; subst hn; obtain ⟨h1, h2⟩ := tgB ht; simp only [s2, pII, xif, h1, h2, and_self, true_and]
theorem j_if_lt {x : Int32} {off : Int} {t : Nat} (hd : decode b pc = .ok (.ifCond .lt off, 3)) (hn : pc + 3 = n) (ht : (decide (0 ≤ (pc : Int) + off) && (tg pc off == t)) = true) : sn2 M b o k fi fv pc ls (.int x :: st) S = (if x < 0 then k t ls st S else k n ls st S) := by
  rw [sn_at hd]; subst hn; obtain ⟨h1, h2⟩ := tgB ht; simp only [s2, pI, xif, h1, h2, and_self, true_and]
theorem j_ic_lt {x y : Int32} {off : Int} {t : Nat} (hd : decode b pc = .ok (.if_icmp .lt off, 3)) (hn : pc + 3 = n) (ht : (decide (0 ≤ (pc : Int) + off) && (tg pc off == t)) = true) : sn2 M b o k fi fv pc ls (.int y :: .int x :: st) S = (if x < y then k t ls st S else k n ls st S) := by
  rw [sn_at hd]; subst hn; obtain ⟨h1, h2⟩ := tgB ht; simp only [s2, pII, xif, h1, h2, and_self, true_and]
theorem j_if_ge {x : Int32} {off : Int} {t : Nat} (hd : decode b pc = .ok (.ifCond .ge off, 3)) (hn : pc + 3 = n) (ht : (decide (0 ≤ (pc : Int) + off) && (tg pc off == t)) = true) : sn2 M b o k fi fv pc ls (.int x :: st) S = (if x < 0 then k n ls st S else k t ls st S) := by
  rw [sn_at hd]; subst hn; obtain ⟨h1, h2⟩ := tgB ht; simp only [s2, pI, xif, h1, h2, and_self, true_and]
theorem j_ic_ge {x y : Int32} {off : Int} {t : Nat} (hd : decode b pc = .ok (.if_icmp .ge off, 3)) (hn : pc + 3 = n) (ht : (decide (0 ≤ (pc : Int) + off) && (tg pc off == t)) = true) : sn2 M b o k fi fv pc ls (.int y :: .int x :: st) S = (if x < y then k n ls st S else k t ls st S) := by
  rw [sn_at hd]; subst hn; obtain ⟨h1, h2⟩ := tgB ht; simp only [s2, pII, xif, h1, h2, and_self, true_and]
theorem j_if_gt {x : Int32} {off : Int} {t : Nat} (hd : decode b pc = .ok (.ifCond .gt off, 3)) (hn : pc + 3 = n) (ht : (decide (0 ≤ (pc : Int) + off) && (tg pc off == t)) = true) : sn2 M b o k fi fv pc ls (.int x :: st) S = (if 0 < x then k t ls st S else k n ls st S) := by
  rw [sn_at hd]; subst hn; obtain ⟨h1, h2⟩ := tgB ht; simp only [s2, pI, xif, h1, h2, and_self, true_and]
theorem j_ic_gt {x y : Int32} {off : Int} {t : Nat} (hd : decode b pc = .ok (.if_icmp .gt off, 3)) (hn : pc + 3 = n) (ht : (decide (0 ≤ (pc : Int) + off) && (tg pc off == t)) = true) : sn2 M b o k fi fv pc ls (.int y :: .int x :: st) S = (if y < x then k t ls st S else k n ls st S) := by
  rw [sn_at hd]; subst hn; obtain ⟨h1, h2⟩ := tgB ht; simp only [s2, pII, xif, h1, h2, and_self, true_and]
theorem j_if_le {x : Int32} {off : Int} {t : Nat} (hd : decode b pc = .ok (.ifCond .le off, 3)) (hn : pc + 3 = n) (ht : (decide (0 ≤ (pc : Int) + off) && (tg pc off == t)) = true) : sn2 M b o k fi fv pc ls (.int x :: st) S = (if 0 < x then k n ls st S else k t ls st S) := by
  rw [sn_at hd]; subst hn; obtain ⟨h1, h2⟩ := tgB ht; simp only [s2, pI, xif, h1, h2, and_self, true_and]
theorem j_ic_le {x y : Int32} {off : Int} {t : Nat} (hd : decode b pc = .ok (.if_icmp .le off, 3)) (hn : pc + 3 = n) (ht : (decide (0 ≤ (pc : Int) + off) && (tg pc off == t)) = true) : sn2 M b o k fi fv pc ls (.int y :: .int x :: st) S = (if y < x then k n ls st S else k t ls st S) := by
  rw [sn_at hd]; subst hn; obtain ⟨h1, h2⟩ := tgB ht; simp only [s2, pII, xif, h1, h2, and_self, true_and]
theorem j_goto {off : Int} {t : Nat} (hd : decode b pc = .ok (.goto off, 3)) (hn : pc + 3 = n) (ht : (decide (0 ≤ (pc : Int) + off) && (tg pc off == t)) = true) : sn2 M b o k fi fv pc ls st S = k t ls st S := by
  rw [sn_at hd]; subst hn; obtain ⟨h1, h2⟩ := tgB ht; simp only [s2, jp, h1, h2, true_and]
def sw3 (x : Int32) (f : Nat → Prop) (d : Nat) : List (Int32 × Nat) → Prop
  | [] => f d
  | (v, t) :: r => if x = v then f t else sw3 x f d r
theorem sw3_n (x : Int32) (f : Nat → Prop) (d : Nat) : sw3 x f d [] = f d := rfl
theorem sw3_c (x : Int32) (f : Nat → Prop) (d : Nat) (v : Int32) (t : Nat) (r : List (Int32 × Nat)) : sw3 x f d ((v, t) :: r) = if x = v then f t else sw3 x f d r := rfl
def swB (pc : Nat) (d : Int) (dt : Nat) : List Int → Int → List (Int32 × Nat) → Bool
  | [], _, [] => decide (0 ≤ (pc : Int) + d) && (tg pc d == dt)
  | a :: r, lo, (v, t) :: q => (decide (0 ≤ (pc : Int) + a) && (tg pc a == t)) && (v == Int32.ofInt lo) && swB pc d dt r (lo + 1) q
  | _, _, _ => false
theorem swB_ok {x : Int32} {pc : Nat} {f : Nat → Prop} {d : Int} {dt : Nat} : ∀ (offs : List Int) (lo : Int) (q : List (Int32 × Nat)), swB pc d dt offs lo q = true → swt x pc f d offs lo = sw3 x f dt q
  | [], lo, [], h => by
    obtain ⟨h1, h2⟩ := tgB h
    simp only [swt, jp, sw3, h1, h2, true_and]
  | a :: r, lo, (v, t) :: q, h => by
    unfold swB at h
    rw [Bool.and_eq_true, Bool.and_eq_true] at h
    obtain ⟨h1, h2⟩ := tgB h.1.1
    have h3 : v = Int32.ofInt lo := eq_of_beq h.1.2
    simp only [swt, jp, sw3, h1, h2, true_and, ← h3, swB_ok r (lo + 1) q h.2]
  | [], _, _ :: _, h => by cases h
  | _ :: _, _, [], h => by cases h
theorem j_tsw {d lo hi : Int} {offs : Array Int} {len dt : Nat} {q : List (Int32 × Nat)} {x : Int32} (hd : decode b pc = .ok (.tableswitch d lo hi offs, len)) (hq : (decide (-2147483648 ≤ lo ∧ hi ≤ 2147483647 ∧ (offs.toList.length : Int) = hi - lo + 1) && swB pc d dt offs.toList lo q) = true) : sn2 M b o k fi fv pc ls (.int x :: st) S = sw3 x (fun t => k t ls st S) dt q := by
  rw [Bool.and_eq_true] at hq
  rw [sn_at hd]
  have h1 := of_decide_eq_true hq.1
  show (_ ∧ swt x pc (fun t => k t ls st S) d offs.toList lo) = _
  rw [swB_ok _ _ _ hq.2]
  exact propext ⟨fun h => h.2, fun h => ⟨h1, h⟩⟩
def oL (a ci m : Nat) : Bool := decide (a < 1000) && (Ld a == (ci + 3, m))
def oC (a ci : Nat) : Bool := decide (a < 1000) && ((Ld a).1 == ci + 3)
def oA (a : Nat) : Bool := decide (a < 1000) && ((Ld a).1 == 1)
def oZ (a : Nat) : Bool := decide (a < 1000) && ((Ld a).1 == 2)
theorem oL_h {a ci m : Nat} (h : oL a ci m = true) : a < 1000 ∧ Ld a = (ci + 3, m) := by simpa [oL] using h
theorem oC_h {a ci : Nat} (h : oC a ci = true) : a < 1000 ∧ (Ld a).1 = ci + 3 := by simpa [oC] using h
theorem oA_h {a : Nat} (h : oA a = true) : a < 1000 ∧ (Ld a).1 = 1 := by simpa [oA] using h
theorem oZ_h {a : Nat} (h : oZ a = true) : a < 1000 ∧ (Ld a).1 = 2 := by simpa [oZ] using h
theorem j_getf {i a ci j m : Nat} {ns rf fin : Bool} (hd : decode b pc = .ok (.getfield i, 3)) (hn : pc + 3 = n) (hc : cpF o i = some (ci, j, m, ns, rf, fin)) (hLo : oL a ci m = true) : sn2 M b o k fi fv pc ls (.ref a :: st) S = k n ls (Fc S a j :: st) S := by
  rw [sn_at hd]; subst hn; obtain ⟨ha, hL⟩ := oL_h hLo; simp [s2, pR, hc, ha, hL]
theorem j_gets_v {i a : Nat} (hd : decode b pc = .ok (.getfield i, 3)) (hn : pc + 3 = n) (h0 : cpF o i = none) (hc : cpU o i = some 0) (ha : 1000 ≤ a) (hb : a < 1013) : sn2 M b o k fi fv pc ls (.ref a :: st) S = k n ls (.ref (a + 100 : Nat) :: st) S := by
  rw [sn_at hd]; subst hn; simp [s2, pR, h0, hc, ha, hb]
theorem j_gets_c {i a : Nat} (hd : decode b pc = .ok (.getfield i, 3)) (hn : pc + 3 = n) (h0 : cpF o i = none) (hc : cpU o i = some 1) (ha : 1000 ≤ a) (hb : a < 1013) : sn2 M b o k fi fv pc ls (.ref a :: st) S = k n ls (.int 0 :: st) S := by
  rw [sn_at hd]; subst hn; simp [s2, pR, h0, hc, ha, hb]
def oI (a j : Nat) : Bool := !oD a j && (rT.lookup (a, j)).isNone
theorem j_putf {i a ci j m : Nat} {ns : Bool} {x : Int32} (hd : decode b pc = .ok (.putfield i, 3)) (hn : pc + 3 = n) (hc : cpF o i = some (ci, j, m, ns, false, false)) (hLo : oL a ci m = true) (hI : oI a j = true) : sn2 M b o k fi fv pc ls (.int x :: .ref a :: st) S = k n ls st (upA S a (upd (S a) j x)) := by
  rw [sn_at hd]; subst hn; obtain ⟨ha, hL⟩ := oL_h hLo; (have h1 : oD a j = false ∧ rT.lookup (a, j) = none := by simpa [oI] using hI); simp [s2, pVR, hc, ha, hL, h1.1, h1.2]
theorem j_putr {i a ci j m c : Nat} {ns : Bool} (hd : decode b pc = .ok (.putfield i, 3)) (hn : pc + 3 = n) (hc : cpF o i = some (ci, j, m, ns, true, false)) (hLo : oL a ci m = true) (hI : oD a j = true) (hcc : c < 1000) : sn2 M b o k fi fv pc ls (.ref c :: .ref a :: st) S = k n ls st (upA S a (upd (S a) j (nI c))) := by
  rw [sn_at hd]; subst hn; obtain ⟨ha, hL⟩ := oL_h hLo; simp [s2, pVR, hc, ha, hL, hI, hcc]
theorem ald_n {a t : Nat} (ha : a < 1000) (hL : (Ld a).1 = t) : ald M L0 S a t = some ((Ld a).2, S a) := by
  unfold ald
  rw [if_pos ha]
  have : (L0.getD a (0, 0)).1 = t := hL
  rw [if_pos this]
  rfl
theorem j_iald {a : Nat} {i : Int32} (hd : decode b pc = .ok (.iaload, 1)) (hn : pc + 1 = n) (hLo : oA a = true) : sn2 M b o k fi fv pc ls (.int i :: .ref a :: st) S = (vp_in i (Ld a).2 ∧ k n ls (.int (S a i.toNatClampNeg) :: st) S) := by
  rw [sn_at hd]; subst hn; obtain ⟨ha, hL⟩ := oA_h hLo; simp [s2, pIR, ald_n ha hL, rdA]
theorem j_bald {a : Nat} {i : Int32} (hd : decode b pc = .ok (.baload, 1)) (hn : pc + 1 = n) (hLo : oZ a = true) : sn2 M b o k fi fv pc ls (.int i :: .ref a :: st) S = (vp_in i (Ld a).2 ∧ k n ls (.int (S a i.toNatClampNeg) :: st) S) := by
  rw [sn_at hd]; subst hn; obtain ⟨ha, hL⟩ := oZ_h hLo; simp [s2, pIR, ha, ald_n ha hL, rdA]
theorem j_alen {a : Nat} (hd : decode b pc = .ok (.arraylength, 1)) (hn : pc + 1 = n) (hLo : oA a = true) : sn2 M b o k fi fv pc ls (.ref a :: st) S = k n ls (.int (Int32.ofNat (Ld a).2) :: st) S := by
  rw [sn_at hd]; subst hn; obtain ⟨ha, hL⟩ := oA_h hLo; simp [s2, pR, ha, ald_n ha hL, lnA]
theorem j_iald_c0 {i : Int32} (hd : decode b pc = .ok (.iaload, 1)) (hn : pc + 1 = n) : sn2 M b o k fi fv pc ls (.int i :: .ref (1200 : Nat) :: st) S = (vp_in i (kX 0).length ∧ k n ls (.int ((kX 0).getD i.toNatClampNeg 0) :: st) S) := by
  rw [sn_at hd]; subst hn; simp [s2, pIR, ald, rdA]
theorem j_iald_c1 {i : Int32} (hd : decode b pc = .ok (.iaload, 1)) (hn : pc + 1 = n) : sn2 M b o k fi fv pc ls (.int i :: .ref (1201 : Nat) :: st) S = (vp_in i (kX 1).length ∧ k n ls (.int ((kX 1).getD i.toNatClampNeg 0) :: st) S) := by
  rw [sn_at hd]; subst hn; simp [s2, pIR, ald, rdA]
theorem j_iald_c2 {i : Int32} (hd : decode b pc = .ok (.iaload, 1)) (hn : pc + 1 = n) : sn2 M b o k fi fv pc ls (.int i :: .ref (1202 : Nat) :: st) S = (vp_in i (kX 2).length ∧ k n ls (.int ((kX 2).getD i.toNatClampNeg 0) :: st) S) := by
  rw [sn_at hd]; subst hn; simp [s2, pIR, ald, rdA]
theorem j_bald_c {a : Nat} {i : Int32} (hd : decode b pc = .ok (.baload, 1)) (hn : pc + 1 = n) (ha : 1100 ≤ a) (hb : a < 1113) : sn2 M b o k fi fv pc ls (.int i :: .ref a :: st) S = (vp_in i (kLen.getD (a - 1100) 0) ∧ k n ls (.int ((kByt.getD (a - 1100) []).getD i.toNatClampNeg 0) :: st) S) := by
  rw [sn_at hd]; subst hn; (have h1 : ¬ a < 1000 := by omega); simp [s2, pIR, ald, rdA, h1, ha, hb]
theorem j_alen_c {a : Nat} (hd : decode b pc = .ok (.arraylength, 1)) (hn : pc + 1 = n) (ha : 1100 ≤ a) (hb : a < 1113) : sn2 M b o k fi fv pc ls (.ref a :: st) S = k n ls (.int (Int32.ofNat (kLen.getD (a - 1100) 0)) :: st) S := by
  rw [sn_at hd]; subst hn; (have h1 : ¬ a < 1000 := by omega); (have h2 : a < 1200 := by omega); simp [s2, pR, ald, lnA, h1, h2, ha, hb]
theorem j_iald_s {i : Int32} {m : Nat} {f : Nat → Int32} (hd : decode b pc = .ok (.iaload, 1)) (hn : pc + 1 = n) (hx : mX M = some (m, f)) : sn2 M b o k fi fv pc ls (.int i :: .ref (1300 : Nat) :: st) S = (vp_in i m ∧ k n ls (.int (f i.toNatClampNeg) :: st) S) := by
  rw [sn_at hd]; subst hn; simp [s2, pIR, ald, rdA, hx]
theorem j_alen_s {m : Nat} {f : Nat → Int32} (hd : decode b pc = .ok (.arraylength, 1)) (hn : pc + 1 = n) (hx : mX M = some (m, f)) : sn2 M b o k fi fv pc ls (.ref (1300 : Nat) :: st) S = k n ls (.int (Int32.ofNat m) :: st) S := by
  rw [sn_at hd]; subst hn; simp [s2, pR, ald, lnA, hx]
theorem j_iast {a : Nat} {i x : Int32} (hd : decode b pc = .ok (.iastore, 1)) (hn : pc + 1 = n) (hLo : oA a = true) : sn2 M b o k fi fv pc ls (.int x :: .int i :: .ref a :: st) S = (vp_in i (Ld a).2 ∧ k n ls st (upA S a (upd (S a) i.toNatClampNeg x))) := by
  rw [sn_at hd]; subst hn; obtain ⟨ha, hL⟩ := oA_h hLo; simp [s2, pIIR, ha, hL]
theorem j_bast {a : Nat} {i x : Int32} (hd : decode b pc = .ok (.bastore, 1)) (hn : pc + 1 = n) (hLo : oZ a = true) : sn2 M b o k fi fv pc ls (.int x :: .int i :: .ref a :: st) S = (vp_in i (Ld a).2 ∧ k n ls st (upA S a (upd (S a) i.toNatClampNeg (vp_nar .boolean x)))) := by
  rw [sn_at hd]; subst hn; obtain ⟨ha, hL⟩ := oZ_h hLo; simp [s2, pIIR, ha, hL]
theorem j_min {i : Nat} {x y : Int32} (hd : decode b pc = .ok (.invokestatic i, 3)) (hn : pc + 3 = n) (hc : cpB o i = some 0) (hv : 1 ≤ mV M) (hr : st.length ≤ 4) : sn2 M b o k fi fv pc ls (.int y :: .int x :: st) S = k n ls (.int (if y < x then y else x) :: st) S := by
  rw [sn_at hd]; subst hn; simp only [s2, pII, hc, hv, hr, true_and]
theorem j_max {i : Nat} {x y : Int32} (hd : decode b pc = .ok (.invokestatic i, 3)) (hn : pc + 3 = n) (hc : cpB o i = some 1) (hv : 1 ≤ mV M) (hr : st.length ≤ 4) : sn2 M b o k fi fv pc ls (.int y :: .int x :: st) S = k n ls (.int (if x < y then y else x) :: st) S := by
  rw [sn_at hd]; subst hn; simp only [s2, pII, hc, hv, hr, true_and]
theorem j_abs {i : Nat} {x : Int32} (hd : decode b pc = .ok (.invokestatic i, 3)) (hn : pc + 3 = n) (hc : cpB o i = some 2) (hv : 1 ≤ mV M) (hr : st.length ≤ 4) : sn2 M b o k fi fv pc ls (.int x :: st) S = k n ls (.int (if 0 ≤ x then x else 0 - x) :: st) S := by
  rw [sn_at hd]; subst hn; simp only [s2, pI, hc, hv, hr, true_and]
theorem j_cpy {i a c : Nat} {s d m : Int32} (hd : decode b pc = .ok (.invokestatic i, 3)) (hn : pc + 3 = n) (hc : cpB o i = some 4) (hv : 1 ≤ mV M) (hr : st.length ≤ 1) (hLx : oA a = true) (hLy : oA c = true) : sn2 M b o k fi fv pc ls (.int m :: .int d :: .ref c :: .int s :: .ref a :: st) S = ((¬ s < 0 ∧ ¬ d < 0 ∧ ¬ m < 0 ∧ d.toNatClampNeg + m.toNatClampNeg ≤ (Ld c).2 ∧ s.toNatClampNeg + m.toNatClampNeg ≤ (Ld a).2) ∧ k n ls st (upA S c (va_cpy (S a) (S c) s.toNatClampNeg d.toNatClampNeg m.toNatClampNeg))) := by
  rw [sn_at hd]; subst hn; obtain ⟨ha, hLa⟩ := oA_h hLx; obtain ⟨hb, hLb⟩ := oA_h hLy; (have h1 : a ≠ 1300 := by omega); simp only [s2, pCpy, hc, hv, hr, hb, hLb, ald_n ha hLa, ne_eq, true_and]; simp [h1, and_assoc]
theorem j_cpy_c0 {i c : Nat} {s d m : Int32} (hd : decode b pc = .ok (.invokestatic i, 3)) (hn : pc + 3 = n) (hc : cpB o i = some 4) (hv : 1 ≤ mV M) (hr : st.length ≤ 1) (hLy : oA c = true) : sn2 M b o k fi fv pc ls (.int m :: .int d :: .ref c :: .int s :: .ref (1200 : Nat) :: st) S = ((¬ s < 0 ∧ ¬ d < 0 ∧ ¬ m < 0 ∧ d.toNatClampNeg + m.toNatClampNeg ≤ (Ld c).2 ∧ s.toNatClampNeg + m.toNatClampNeg ≤ (kX 0).length) ∧ k n ls st (upA S c (va_cpy (fun q => (kX 0).getD q 0) (S c) s.toNatClampNeg d.toNatClampNeg m.toNatClampNeg))) := by
  rw [sn_at hd]; subst hn; obtain ⟨hb, hLb⟩ := oA_h hLy; simp only [s2, pCpy, hc, hv, hr, hb, hLb, ald, true_and]; simp [and_assoc]
theorem j_cpy_c1 {i c : Nat} {s d m : Int32} (hd : decode b pc = .ok (.invokestatic i, 3)) (hn : pc + 3 = n) (hc : cpB o i = some 4) (hv : 1 ≤ mV M) (hr : st.length ≤ 1) (hLy : oA c = true) : sn2 M b o k fi fv pc ls (.int m :: .int d :: .ref c :: .int s :: .ref (1201 : Nat) :: st) S = ((¬ s < 0 ∧ ¬ d < 0 ∧ ¬ m < 0 ∧ d.toNatClampNeg + m.toNatClampNeg ≤ (Ld c).2 ∧ s.toNatClampNeg + m.toNatClampNeg ≤ (kX 1).length) ∧ k n ls st (upA S c (va_cpy (fun q => (kX 1).getD q 0) (S c) s.toNatClampNeg d.toNatClampNeg m.toNatClampNeg))) := by
  rw [sn_at hd]; subst hn; obtain ⟨hb, hLb⟩ := oA_h hLy; simp only [s2, pCpy, hc, hv, hr, hb, hLb, ald, true_and]; simp [and_assoc]
theorem j_cpy_c2 {i c : Nat} {s d m : Int32} (hd : decode b pc = .ok (.invokestatic i, 3)) (hn : pc + 3 = n) (hc : cpB o i = some 4) (hv : 1 ≤ mV M) (hr : st.length ≤ 1) (hLy : oA c = true) : sn2 M b o k fi fv pc ls (.int m :: .int d :: .ref c :: .int s :: .ref (1202 : Nat) :: st) S = ((¬ s < 0 ∧ ¬ d < 0 ∧ ¬ m < 0 ∧ d.toNatClampNeg + m.toNatClampNeg ≤ (Ld c).2 ∧ s.toNatClampNeg + m.toNatClampNeg ≤ (kX 2).length) ∧ k n ls st (upA S c (va_cpy (fun q => (kX 2).getD q 0) (S c) s.toNatClampNeg d.toNatClampNeg m.toNatClampNeg))) := by
  rw [sn_at hd]; subst hn; obtain ⟨hb, hLb⟩ := oA_h hLy; simp only [s2, pCpy, hc, hv, hr, hb, hLb, ald, true_and]; simp [and_assoc]
theorem kdS {kd : Nat} {A B : Prop} (h : kd = 1 ∨ kd = 4) (hAB : A = B) : True := trivial
theorem j_cs0i {i kd : Nat} {T : xM} {ty : FieldType} (hd : decode b pc = .ok (.invokestatic i, 3)) (hn : pc + 3 = n) (hq : cpM o i = some (kd, 0, T)) (hk : kd = 1 ∨ kd = 4) (hb : cpB o i = none) (hl : mV T + 1 ≤ mV M ∧ mC T = 0 ∧ mS T = 0) (ht : mT T = some ty) (hr : st.length ≤ 4) : sn2 M b o k fi fv pc ls (st) S = (CI T [] S fun x S => k n ls (.int x :: st) S) := by
  rw [sn_at hd]; subst hn; rcases hk with rfl | rfl <;> simp [s2, hb, hq, sC2, hl, ht, stN, hr]
theorem j_cv0i {i kd c oc : Nat} {T : xM} {ty : FieldType} (hd : decode b pc = .ok (.invokevirtual i, 3)) (hn : pc + 3 = n) (hq : cpM o i = some (kd, 0, T)) (hk : kd = 0 ∨ kd = 3) (hl : mV T + 1 ≤ mV M ∧ mC T = 0 ∧ mS T = 0) (ht : mT T = some ty) (ho : mO T = oc) (hr : st.length ≤ 4) (hLo : oC c oc = true) : sn2 M b o k fi fv pc ls (.ref c :: st) S = (CI T [.ref c] S fun x S => k n ls (.int x :: st) S) := by
  rw [sn_at hd]; subst hn; obtain ⟨hc, hL⟩ := oC_h hLo; rcases hk with rfl | rfl <;> simp [s2, hq, sC2, hl, ht, stN, hr, hc, hL, ho]
theorem j_ct0i {i c : Nat} {T : xM} {ty : FieldType} (hd : decode b pc = .ok (.invokevirtual i, 3)) (hn : pc + 3 = n) (hq : cpM o i = some (6, 0, T)) (hl : mV T + 1 ≤ mV M ∧ mC T = 0 ∧ mS T = 0) (ht : mT T = some ty) (hr : st.length ≤ 4) (hc : 1000 ≤ c) (hc2 : c < 1013) : sn2 M b o k fi fv pc ls (.ref c :: st) S = (CI T [.ref c] S fun x S => k n ls (.int x :: st) S) := by
  rw [sn_at hd]; subst hn; simp [s2, hq, sC2, hl, ht, stN, hr, hc, hc2]
theorem j_cs0v {i kd : Nat} {T : xM} (hd : decode b pc = .ok (.invokestatic i, 3)) (hn : pc + 3 = n) (hq : cpM o i = some (kd, 0, T)) (hk : kd = 1 ∨ kd = 4) (hb : cpB o i = none) (hl : mV T + 1 ≤ mV M ∧ mC T = 0 ∧ mS T = 0) (ht : mT T = none) (hr : st.length ≤ 4) : sn2 M b o k fi fv pc ls (st) S = (CV T [] S fun S => k n ls st S) := by
  rw [sn_at hd]; subst hn; rcases hk with rfl | rfl <;> simp [s2, hb, hq, sC2, hl, ht, stN, hr]
theorem j_cv0v {i kd c oc : Nat} {T : xM} (hd : decode b pc = .ok (.invokevirtual i, 3)) (hn : pc + 3 = n) (hq : cpM o i = some (kd, 0, T)) (hk : kd = 0 ∨ kd = 3) (hl : mV T + 1 ≤ mV M ∧ mC T = 0 ∧ mS T = 0) (ht : mT T = none) (ho : mO T = oc) (hr : st.length ≤ 4) (hLo : oC c oc = true) : sn2 M b o k fi fv pc ls (.ref c :: st) S = (CV T [.ref c] S fun S => k n ls st S) := by
  rw [sn_at hd]; subst hn; obtain ⟨hc, hL⟩ := oC_h hLo; rcases hk with rfl | rfl <;> simp [s2, hq, sC2, hl, ht, stN, hr, hc, hL, ho]
theorem j_ct0v {i c : Nat} {T : xM} (hd : decode b pc = .ok (.invokevirtual i, 3)) (hn : pc + 3 = n) (hq : cpM o i = some (6, 0, T)) (hl : mV T + 1 ≤ mV M ∧ mC T = 0 ∧ mS T = 0) (ht : mT T = none) (hr : st.length ≤ 4) (hc : 1000 ≤ c) (hc2 : c < 1013) : sn2 M b o k fi fv pc ls (.ref c :: st) S = (CV T [.ref c] S fun S => k n ls st S) := by
  rw [sn_at hd]; subst hn; simp [s2, hq, sC2, hl, ht, stN, hr, hc, hc2]
theorem j_cs1i {i kd : Nat} {T : xM} {ty : FieldType} {a0 : Value} (hd : decode b pc = .ok (.invokestatic i, 3)) (hn : pc + 3 = n) (hq : cpM o i = some (kd, 1, T)) (hk : kd = 1 ∨ kd = 4) (hb : cpB o i = none) (hl : mV T + 1 ≤ mV M ∧ mC T = 0 ∧ mS T = 0) (ht : mT T = some ty) (hr : st.length ≤ 4) : sn2 M b o k fi fv pc ls (a0 :: st) S = (CI T [a0] S fun x S => k n ls (.int x :: st) S) := by
  rw [sn_at hd]; subst hn; rcases hk with rfl | rfl <;> simp [s2, hb, hq, sC2, hl, ht, stN, hr]
theorem j_cv1i {i kd c oc : Nat} {T : xM} {ty : FieldType} {a0 : Value} (hd : decode b pc = .ok (.invokevirtual i, 3)) (hn : pc + 3 = n) (hq : cpM o i = some (kd, 1, T)) (hk : kd = 0 ∨ kd = 3) (hl : mV T + 1 ≤ mV M ∧ mC T = 0 ∧ mS T = 0) (ht : mT T = some ty) (ho : mO T = oc) (hr : st.length ≤ 4) (hLo : oC c oc = true) : sn2 M b o k fi fv pc ls (a0 :: .ref c :: st) S = (CI T [.ref c, a0] S fun x S => k n ls (.int x :: st) S) := by
  rw [sn_at hd]; subst hn; obtain ⟨hc, hL⟩ := oC_h hLo; rcases hk with rfl | rfl <;> simp [s2, hq, sC2, hl, ht, stN, hr, hc, hL, ho]
theorem j_ct1i {i c : Nat} {T : xM} {ty : FieldType} {a0 : Value} (hd : decode b pc = .ok (.invokevirtual i, 3)) (hn : pc + 3 = n) (hq : cpM o i = some (6, 1, T)) (hl : mV T + 1 ≤ mV M ∧ mC T = 0 ∧ mS T = 0) (ht : mT T = some ty) (hr : st.length ≤ 4) (hc : 1000 ≤ c) (hc2 : c < 1013) : sn2 M b o k fi fv pc ls (a0 :: .ref c :: st) S = (CI T [.ref c, a0] S fun x S => k n ls (.int x :: st) S) := by
  rw [sn_at hd]; subst hn; simp [s2, hq, sC2, hl, ht, stN, hr, hc, hc2]
theorem j_cs1v {i kd : Nat} {T : xM} {a0 : Value} (hd : decode b pc = .ok (.invokestatic i, 3)) (hn : pc + 3 = n) (hq : cpM o i = some (kd, 1, T)) (hk : kd = 1 ∨ kd = 4) (hb : cpB o i = none) (hl : mV T + 1 ≤ mV M ∧ mC T = 0 ∧ mS T = 0) (ht : mT T = none) (hr : st.length ≤ 4) : sn2 M b o k fi fv pc ls (a0 :: st) S = (CV T [a0] S fun S => k n ls st S) := by
  rw [sn_at hd]; subst hn; rcases hk with rfl | rfl <;> simp [s2, hb, hq, sC2, hl, ht, stN, hr]
theorem j_cv1v {i kd c oc : Nat} {T : xM} {a0 : Value} (hd : decode b pc = .ok (.invokevirtual i, 3)) (hn : pc + 3 = n) (hq : cpM o i = some (kd, 1, T)) (hk : kd = 0 ∨ kd = 3) (hl : mV T + 1 ≤ mV M ∧ mC T = 0 ∧ mS T = 0) (ht : mT T = none) (ho : mO T = oc) (hr : st.length ≤ 4) (hLo : oC c oc = true) : sn2 M b o k fi fv pc ls (a0 :: .ref c :: st) S = (CV T [.ref c, a0] S fun S => k n ls st S) := by
  rw [sn_at hd]; subst hn; obtain ⟨hc, hL⟩ := oC_h hLo; rcases hk with rfl | rfl <;> simp [s2, hq, sC2, hl, ht, stN, hr, hc, hL, ho]
theorem j_ct1v {i c : Nat} {T : xM} {a0 : Value} (hd : decode b pc = .ok (.invokevirtual i, 3)) (hn : pc + 3 = n) (hq : cpM o i = some (6, 1, T)) (hl : mV T + 1 ≤ mV M ∧ mC T = 0 ∧ mS T = 0) (ht : mT T = none) (hr : st.length ≤ 4) (hc : 1000 ≤ c) (hc2 : c < 1013) : sn2 M b o k fi fv pc ls (a0 :: .ref c :: st) S = (CV T [.ref c, a0] S fun S => k n ls st S) := by
  rw [sn_at hd]; subst hn; simp [s2, hq, sC2, hl, ht, stN, hr, hc, hc2]
theorem j_cs2i {i kd : Nat} {T : xM} {ty : FieldType} {a0 a1 : Value} (hd : decode b pc = .ok (.invokestatic i, 3)) (hn : pc + 3 = n) (hq : cpM o i = some (kd, 2, T)) (hk : kd = 1 ∨ kd = 4) (hb : cpB o i = none) (hl : mV T + 1 ≤ mV M ∧ mC T = 0 ∧ mS T = 0) (ht : mT T = some ty) (hr : st.length ≤ 4) : sn2 M b o k fi fv pc ls (a1 :: a0 :: st) S = (CI T [a0, a1] S fun x S => k n ls (.int x :: st) S) := by
  rw [sn_at hd]; subst hn; rcases hk with rfl | rfl <;> simp [s2, hb, hq, sC2, hl, ht, stN, hr]
theorem j_cv2i {i kd c oc : Nat} {T : xM} {ty : FieldType} {a0 a1 : Value} (hd : decode b pc = .ok (.invokevirtual i, 3)) (hn : pc + 3 = n) (hq : cpM o i = some (kd, 2, T)) (hk : kd = 0 ∨ kd = 3) (hl : mV T + 1 ≤ mV M ∧ mC T = 0 ∧ mS T = 0) (ht : mT T = some ty) (ho : mO T = oc) (hr : st.length ≤ 4) (hLo : oC c oc = true) : sn2 M b o k fi fv pc ls (a1 :: a0 :: .ref c :: st) S = (CI T [.ref c, a0, a1] S fun x S => k n ls (.int x :: st) S) := by
  rw [sn_at hd]; subst hn; obtain ⟨hc, hL⟩ := oC_h hLo; rcases hk with rfl | rfl <;> simp [s2, hq, sC2, hl, ht, stN, hr, hc, hL, ho]
theorem j_ct2i {i c : Nat} {T : xM} {ty : FieldType} {a0 a1 : Value} (hd : decode b pc = .ok (.invokevirtual i, 3)) (hn : pc + 3 = n) (hq : cpM o i = some (6, 2, T)) (hl : mV T + 1 ≤ mV M ∧ mC T = 0 ∧ mS T = 0) (ht : mT T = some ty) (hr : st.length ≤ 4) (hc : 1000 ≤ c) (hc2 : c < 1013) : sn2 M b o k fi fv pc ls (a1 :: a0 :: .ref c :: st) S = (CI T [.ref c, a0, a1] S fun x S => k n ls (.int x :: st) S) := by
  rw [sn_at hd]; subst hn; simp [s2, hq, sC2, hl, ht, stN, hr, hc, hc2]
theorem j_cs2v {i kd : Nat} {T : xM} {a0 a1 : Value} (hd : decode b pc = .ok (.invokestatic i, 3)) (hn : pc + 3 = n) (hq : cpM o i = some (kd, 2, T)) (hk : kd = 1 ∨ kd = 4) (hb : cpB o i = none) (hl : mV T + 1 ≤ mV M ∧ mC T = 0 ∧ mS T = 0) (ht : mT T = none) (hr : st.length ≤ 4) : sn2 M b o k fi fv pc ls (a1 :: a0 :: st) S = (CV T [a0, a1] S fun S => k n ls st S) := by
  rw [sn_at hd]; subst hn; rcases hk with rfl | rfl <;> simp [s2, hb, hq, sC2, hl, ht, stN, hr]
theorem j_cv2v {i kd c oc : Nat} {T : xM} {a0 a1 : Value} (hd : decode b pc = .ok (.invokevirtual i, 3)) (hn : pc + 3 = n) (hq : cpM o i = some (kd, 2, T)) (hk : kd = 0 ∨ kd = 3) (hl : mV T + 1 ≤ mV M ∧ mC T = 0 ∧ mS T = 0) (ht : mT T = none) (ho : mO T = oc) (hr : st.length ≤ 4) (hLo : oC c oc = true) : sn2 M b o k fi fv pc ls (a1 :: a0 :: .ref c :: st) S = (CV T [.ref c, a0, a1] S fun S => k n ls st S) := by
  rw [sn_at hd]; subst hn; obtain ⟨hc, hL⟩ := oC_h hLo; rcases hk with rfl | rfl <;> simp [s2, hq, sC2, hl, ht, stN, hr, hc, hL, ho]
theorem j_ct2v {i c : Nat} {T : xM} {a0 a1 : Value} (hd : decode b pc = .ok (.invokevirtual i, 3)) (hn : pc + 3 = n) (hq : cpM o i = some (6, 2, T)) (hl : mV T + 1 ≤ mV M ∧ mC T = 0 ∧ mS T = 0) (ht : mT T = none) (hr : st.length ≤ 4) (hc : 1000 ≤ c) (hc2 : c < 1013) : sn2 M b o k fi fv pc ls (a1 :: a0 :: .ref c :: st) S = (CV T [.ref c, a0, a1] S fun S => k n ls st S) := by
  rw [sn_at hd]; subst hn; simp [s2, hq, sC2, hl, ht, stN, hr, hc, hc2]
theorem j_cs3i {i kd : Nat} {T : xM} {ty : FieldType} {a0 a1 a2 : Value} (hd : decode b pc = .ok (.invokestatic i, 3)) (hn : pc + 3 = n) (hq : cpM o i = some (kd, 3, T)) (hk : kd = 1 ∨ kd = 4) (hb : cpB o i = none) (hl : mV T + 1 ≤ mV M ∧ mC T = 0 ∧ mS T = 0) (ht : mT T = some ty) (hr : st.length ≤ 4) : sn2 M b o k fi fv pc ls (a2 :: a1 :: a0 :: st) S = (CI T [a0, a1, a2] S fun x S => k n ls (.int x :: st) S) := by
  rw [sn_at hd]; subst hn; rcases hk with rfl | rfl <;> simp [s2, hb, hq, sC2, hl, ht, stN, hr]
theorem j_cv3i {i kd c oc : Nat} {T : xM} {ty : FieldType} {a0 a1 a2 : Value} (hd : decode b pc = .ok (.invokevirtual i, 3)) (hn : pc + 3 = n) (hq : cpM o i = some (kd, 3, T)) (hk : kd = 0 ∨ kd = 3) (hl : mV T + 1 ≤ mV M ∧ mC T = 0 ∧ mS T = 0) (ht : mT T = some ty) (ho : mO T = oc) (hr : st.length ≤ 4) (hLo : oC c oc = true) : sn2 M b o k fi fv pc ls (a2 :: a1 :: a0 :: .ref c :: st) S = (CI T [.ref c, a0, a1, a2] S fun x S => k n ls (.int x :: st) S) := by
  rw [sn_at hd]; subst hn; obtain ⟨hc, hL⟩ := oC_h hLo; rcases hk with rfl | rfl <;> simp [s2, hq, sC2, hl, ht, stN, hr, hc, hL, ho]
theorem j_cs3v {i kd : Nat} {T : xM} {a0 a1 a2 : Value} (hd : decode b pc = .ok (.invokestatic i, 3)) (hn : pc + 3 = n) (hq : cpM o i = some (kd, 3, T)) (hk : kd = 1 ∨ kd = 4) (hb : cpB o i = none) (hl : mV T + 1 ≤ mV M ∧ mC T = 0 ∧ mS T = 0) (ht : mT T = none) (hr : st.length ≤ 4) : sn2 M b o k fi fv pc ls (a2 :: a1 :: a0 :: st) S = (CV T [a0, a1, a2] S fun S => k n ls st S) := by
  rw [sn_at hd]; subst hn; rcases hk with rfl | rfl <;> simp [s2, hb, hq, sC2, hl, ht, stN, hr]
theorem j_cv3v {i kd c oc : Nat} {T : xM} {a0 a1 a2 : Value} (hd : decode b pc = .ok (.invokevirtual i, 3)) (hn : pc + 3 = n) (hq : cpM o i = some (kd, 3, T)) (hk : kd = 0 ∨ kd = 3) (hl : mV T + 1 ≤ mV M ∧ mC T = 0 ∧ mS T = 0) (ht : mT T = none) (ho : mO T = oc) (hr : st.length ≤ 4) (hLo : oC c oc = true) : sn2 M b o k fi fv pc ls (a2 :: a1 :: a0 :: .ref c :: st) S = (CV T [.ref c, a0, a1, a2] S fun S => k n ls st S) := by
  rw [sn_at hd]; subst hn; obtain ⟨hc, hL⟩ := oC_h hLo; rcases hk with rfl | rfl <;> simp [s2, hq, sC2, hl, ht, stN, hr, hc, hL, ho]
theorem j_cs4i {i kd : Nat} {T : xM} {ty : FieldType} {a0 a1 a2 a3 : Value} (hd : decode b pc = .ok (.invokestatic i, 3)) (hn : pc + 3 = n) (hq : cpM o i = some (kd, 4, T)) (hk : kd = 1 ∨ kd = 4) (hb : cpB o i = none) (hl : mV T + 1 ≤ mV M ∧ mC T = 0 ∧ mS T = 0) (ht : mT T = some ty) (hr : st.length ≤ 4) : sn2 M b o k fi fv pc ls (a3 :: a2 :: a1 :: a0 :: st) S = (CI T [a0, a1, a2, a3] S fun x S => k n ls (.int x :: st) S) := by
  rw [sn_at hd]; subst hn; rcases hk with rfl | rfl <;> simp [s2, hb, hq, sC2, hl, ht, stN, hr]
theorem j_cv4i {i kd c oc : Nat} {T : xM} {ty : FieldType} {a0 a1 a2 a3 : Value} (hd : decode b pc = .ok (.invokevirtual i, 3)) (hn : pc + 3 = n) (hq : cpM o i = some (kd, 4, T)) (hk : kd = 0 ∨ kd = 3) (hl : mV T + 1 ≤ mV M ∧ mC T = 0 ∧ mS T = 0) (ht : mT T = some ty) (ho : mO T = oc) (hr : st.length ≤ 4) (hLo : oC c oc = true) : sn2 M b o k fi fv pc ls (a3 :: a2 :: a1 :: a0 :: .ref c :: st) S = (CI T [.ref c, a0, a1, a2, a3] S fun x S => k n ls (.int x :: st) S) := by
  rw [sn_at hd]; subst hn; obtain ⟨hc, hL⟩ := oC_h hLo; rcases hk with rfl | rfl <;> simp [s2, hq, sC2, hl, ht, stN, hr, hc, hL, ho]
theorem j_cs4v {i kd : Nat} {T : xM} {a0 a1 a2 a3 : Value} (hd : decode b pc = .ok (.invokestatic i, 3)) (hn : pc + 3 = n) (hq : cpM o i = some (kd, 4, T)) (hk : kd = 1 ∨ kd = 4) (hb : cpB o i = none) (hl : mV T + 1 ≤ mV M ∧ mC T = 0 ∧ mS T = 0) (ht : mT T = none) (hr : st.length ≤ 4) : sn2 M b o k fi fv pc ls (a3 :: a2 :: a1 :: a0 :: st) S = (CV T [a0, a1, a2, a3] S fun S => k n ls st S) := by
  rw [sn_at hd]; subst hn; rcases hk with rfl | rfl <;> simp [s2, hb, hq, sC2, hl, ht, stN, hr]
theorem j_cv4v {i kd c oc : Nat} {T : xM} {a0 a1 a2 a3 : Value} (hd : decode b pc = .ok (.invokevirtual i, 3)) (hn : pc + 3 = n) (hq : cpM o i = some (kd, 4, T)) (hk : kd = 0 ∨ kd = 3) (hl : mV T + 1 ≤ mV M ∧ mC T = 0 ∧ mS T = 0) (ht : mT T = none) (ho : mO T = oc) (hr : st.length ≤ 4) (hLo : oC c oc = true) : sn2 M b o k fi fv pc ls (a3 :: a2 :: a1 :: a0 :: .ref c :: st) S = (CV T [.ref c, a0, a1, a2, a3] S fun S => k n ls st S) := by
  rw [sn_at hd]; subst hn; obtain ⟨hc, hL⟩ := oC_h hLo; rcases hk with rfl | rfl <;> simp [s2, hq, sC2, hl, ht, stN, hr, hc, hL, ho]
theorem j_cs5i {i kd : Nat} {T : xM} {ty : FieldType} {a0 a1 a2 a3 a4 : Value} (hd : decode b pc = .ok (.invokestatic i, 3)) (hn : pc + 3 = n) (hq : cpM o i = some (kd, 5, T)) (hk : kd = 1 ∨ kd = 4) (hb : cpB o i = none) (hl : mV T + 1 ≤ mV M ∧ mC T = 0 ∧ mS T = 0) (ht : mT T = some ty) (hr : st.length ≤ 4) : sn2 M b o k fi fv pc ls (a4 :: a3 :: a2 :: a1 :: a0 :: st) S = (CI T [a0, a1, a2, a3, a4] S fun x S => k n ls (.int x :: st) S) := by
  rw [sn_at hd]; subst hn; rcases hk with rfl | rfl <;> simp [s2, hb, hq, sC2, hl, ht, stN, hr]
theorem j_cv5i {i kd c oc : Nat} {T : xM} {ty : FieldType} {a0 a1 a2 a3 a4 : Value} (hd : decode b pc = .ok (.invokevirtual i, 3)) (hn : pc + 3 = n) (hq : cpM o i = some (kd, 5, T)) (hk : kd = 0 ∨ kd = 3) (hl : mV T + 1 ≤ mV M ∧ mC T = 0 ∧ mS T = 0) (ht : mT T = some ty) (ho : mO T = oc) (hr : st.length ≤ 4) (hLo : oC c oc = true) : sn2 M b o k fi fv pc ls (a4 :: a3 :: a2 :: a1 :: a0 :: .ref c :: st) S = (CI T [.ref c, a0, a1, a2, a3, a4] S fun x S => k n ls (.int x :: st) S) := by
  rw [sn_at hd]; subst hn; obtain ⟨hc, hL⟩ := oC_h hLo; rcases hk with rfl | rfl <;> simp [s2, hq, sC2, hl, ht, stN, hr, hc, hL, ho]
theorem j_cs5v {i kd : Nat} {T : xM} {a0 a1 a2 a3 a4 : Value} (hd : decode b pc = .ok (.invokestatic i, 3)) (hn : pc + 3 = n) (hq : cpM o i = some (kd, 5, T)) (hk : kd = 1 ∨ kd = 4) (hb : cpB o i = none) (hl : mV T + 1 ≤ mV M ∧ mC T = 0 ∧ mS T = 0) (ht : mT T = none) (hr : st.length ≤ 4) : sn2 M b o k fi fv pc ls (a4 :: a3 :: a2 :: a1 :: a0 :: st) S = (CV T [a0, a1, a2, a3, a4] S fun S => k n ls st S) := by
  rw [sn_at hd]; subst hn; rcases hk with rfl | rfl <;> simp [s2, hb, hq, sC2, hl, ht, stN, hr]
theorem j_cv5v {i kd c oc : Nat} {T : xM} {a0 a1 a2 a3 a4 : Value} (hd : decode b pc = .ok (.invokevirtual i, 3)) (hn : pc + 3 = n) (hq : cpM o i = some (kd, 5, T)) (hk : kd = 0 ∨ kd = 3) (hl : mV T + 1 ≤ mV M ∧ mC T = 0 ∧ mS T = 0) (ht : mT T = none) (ho : mO T = oc) (hr : st.length ≤ 4) (hLo : oC c oc = true) : sn2 M b o k fi fv pc ls (a4 :: a3 :: a2 :: a1 :: a0 :: .ref c :: st) S = (CV T [.ref c, a0, a1, a2, a3, a4] S fun S => k n ls st S) := by
  rw [sn_at hd]; subst hn; obtain ⟨hc, hL⟩ := oC_h hLo; rcases hk with rfl | rfl <;> simp [s2, hq, sC2, hl, ht, stN, hr, hc, hL, ho]
theorem j_cs6i {i kd : Nat} {T : xM} {ty : FieldType} {a0 a1 a2 a3 a4 a5 : Value} (hd : decode b pc = .ok (.invokestatic i, 3)) (hn : pc + 3 = n) (hq : cpM o i = some (kd, 6, T)) (hk : kd = 1 ∨ kd = 4) (hb : cpB o i = none) (hl : mV T + 1 ≤ mV M ∧ mC T = 0 ∧ mS T = 0) (ht : mT T = some ty) (hr : st.length ≤ 4) : sn2 M b o k fi fv pc ls (a5 :: a4 :: a3 :: a2 :: a1 :: a0 :: st) S = (CI T [a0, a1, a2, a3, a4, a5] S fun x S => k n ls (.int x :: st) S) := by
  rw [sn_at hd]; subst hn; rcases hk with rfl | rfl <;> simp [s2, hb, hq, sC2, hl, ht, stN, hr]
theorem j_cv6i {i kd c oc : Nat} {T : xM} {ty : FieldType} {a0 a1 a2 a3 a4 a5 : Value} (hd : decode b pc = .ok (.invokevirtual i, 3)) (hn : pc + 3 = n) (hq : cpM o i = some (kd, 6, T)) (hk : kd = 0 ∨ kd = 3) (hl : mV T + 1 ≤ mV M ∧ mC T = 0 ∧ mS T = 0) (ht : mT T = some ty) (ho : mO T = oc) (hr : st.length ≤ 4) (hLo : oC c oc = true) : sn2 M b o k fi fv pc ls (a5 :: a4 :: a3 :: a2 :: a1 :: a0 :: .ref c :: st) S = (CI T [.ref c, a0, a1, a2, a3, a4, a5] S fun x S => k n ls (.int x :: st) S) := by
  rw [sn_at hd]; subst hn; obtain ⟨hc, hL⟩ := oC_h hLo; rcases hk with rfl | rfl <;> simp [s2, hq, sC2, hl, ht, stN, hr, hc, hL, ho]
theorem j_cs6v {i kd : Nat} {T : xM} {a0 a1 a2 a3 a4 a5 : Value} (hd : decode b pc = .ok (.invokestatic i, 3)) (hn : pc + 3 = n) (hq : cpM o i = some (kd, 6, T)) (hk : kd = 1 ∨ kd = 4) (hb : cpB o i = none) (hl : mV T + 1 ≤ mV M ∧ mC T = 0 ∧ mS T = 0) (ht : mT T = none) (hr : st.length ≤ 4) : sn2 M b o k fi fv pc ls (a5 :: a4 :: a3 :: a2 :: a1 :: a0 :: st) S = (CV T [a0, a1, a2, a3, a4, a5] S fun S => k n ls st S) := by
  rw [sn_at hd]; subst hn; rcases hk with rfl | rfl <;> simp [s2, hb, hq, sC2, hl, ht, stN, hr]
theorem j_cv6v {i kd c oc : Nat} {T : xM} {a0 a1 a2 a3 a4 a5 : Value} (hd : decode b pc = .ok (.invokevirtual i, 3)) (hn : pc + 3 = n) (hq : cpM o i = some (kd, 6, T)) (hk : kd = 0 ∨ kd = 3) (hl : mV T + 1 ≤ mV M ∧ mC T = 0 ∧ mS T = 0) (ht : mT T = none) (ho : mO T = oc) (hr : st.length ≤ 4) (hLo : oC c oc = true) : sn2 M b o k fi fv pc ls (a5 :: a4 :: a3 :: a2 :: a1 :: a0 :: .ref c :: st) S = (CV T [.ref c, a0, a1, a2, a3, a4, a5] S fun S => k n ls st S) := by
  rw [sn_at hd]; subst hn; obtain ⟨hc, hL⟩ := oC_h hLo; rcases hk with rfl | rfl <;> simp [s2, hq, sC2, hl, ht, stN, hr, hc, hL, ho]
theorem j_cs7i {i kd : Nat} {T : xM} {ty : FieldType} {a0 a1 a2 a3 a4 a5 a6 : Value} (hd : decode b pc = .ok (.invokestatic i, 3)) (hn : pc + 3 = n) (hq : cpM o i = some (kd, 7, T)) (hk : kd = 1 ∨ kd = 4) (hb : cpB o i = none) (hl : mV T + 1 ≤ mV M ∧ mC T = 0 ∧ mS T = 0) (ht : mT T = some ty) (hr : st.length ≤ 4) : sn2 M b o k fi fv pc ls (a6 :: a5 :: a4 :: a3 :: a2 :: a1 :: a0 :: st) S = (CI T [a0, a1, a2, a3, a4, a5, a6] S fun x S => k n ls (.int x :: st) S) := by
  rw [sn_at hd]; subst hn; rcases hk with rfl | rfl <;> simp [s2, hb, hq, sC2, hl, ht, stN, hr]
theorem j_cv7i {i kd c oc : Nat} {T : xM} {ty : FieldType} {a0 a1 a2 a3 a4 a5 a6 : Value} (hd : decode b pc = .ok (.invokevirtual i, 3)) (hn : pc + 3 = n) (hq : cpM o i = some (kd, 7, T)) (hk : kd = 0 ∨ kd = 3) (hl : mV T + 1 ≤ mV M ∧ mC T = 0 ∧ mS T = 0) (ht : mT T = some ty) (ho : mO T = oc) (hr : st.length ≤ 4) (hLo : oC c oc = true) : sn2 M b o k fi fv pc ls (a6 :: a5 :: a4 :: a3 :: a2 :: a1 :: a0 :: .ref c :: st) S = (CI T [.ref c, a0, a1, a2, a3, a4, a5, a6] S fun x S => k n ls (.int x :: st) S) := by
  rw [sn_at hd]; subst hn; obtain ⟨hc, hL⟩ := oC_h hLo; rcases hk with rfl | rfl <;> simp [s2, hq, sC2, hl, ht, stN, hr, hc, hL, ho]
theorem j_cs7v {i kd : Nat} {T : xM} {a0 a1 a2 a3 a4 a5 a6 : Value} (hd : decode b pc = .ok (.invokestatic i, 3)) (hn : pc + 3 = n) (hq : cpM o i = some (kd, 7, T)) (hk : kd = 1 ∨ kd = 4) (hb : cpB o i = none) (hl : mV T + 1 ≤ mV M ∧ mC T = 0 ∧ mS T = 0) (ht : mT T = none) (hr : st.length ≤ 4) : sn2 M b o k fi fv pc ls (a6 :: a5 :: a4 :: a3 :: a2 :: a1 :: a0 :: st) S = (CV T [a0, a1, a2, a3, a4, a5, a6] S fun S => k n ls st S) := by
  rw [sn_at hd]; subst hn; rcases hk with rfl | rfl <;> simp [s2, hb, hq, sC2, hl, ht, stN, hr]
theorem j_cv7v {i kd c oc : Nat} {T : xM} {a0 a1 a2 a3 a4 a5 a6 : Value} (hd : decode b pc = .ok (.invokevirtual i, 3)) (hn : pc + 3 = n) (hq : cpM o i = some (kd, 7, T)) (hk : kd = 0 ∨ kd = 3) (hl : mV T + 1 ≤ mV M ∧ mC T = 0 ∧ mS T = 0) (ht : mT T = none) (ho : mO T = oc) (hr : st.length ≤ 4) (hLo : oC c oc = true) : sn2 M b o k fi fv pc ls (a6 :: a5 :: a4 :: a3 :: a2 :: a1 :: a0 :: .ref c :: st) S = (CV T [.ref c, a0, a1, a2, a3, a4, a5, a6] S fun S => k n ls st S) := by
  rw [sn_at hd]; subst hn; obtain ⟨hc, hL⟩ := oC_h hLo; rcases hk with rfl | rfl <;> simp [s2, hq, sC2, hl, ht, stN, hr, hc, hL, ho]
theorem j_iret {v : Int32} (hd : decode b pc = .ok (.ireturn, 1)) (hn : pc + 1 = n) : sn2 M b o k fi fv pc ls [.int v] S = (rOk M v ∧ fi v S) := by
  rw [sn_at hd]; subst hn; simp [s2, pI]
theorem j_ret (hd : decode b pc = .ok (.return_, 1)) (hn : pc + 1 = n) (ht : mT M = none) : sn2 M b o k fi fv pc ls [] S = fv S := by
  rw [sn_at hd]; subst hn; simp [s2, ht]
theorem rOk_i {v : Int32} (h : mT M = some .int) : rOk M v = True := by
  apply propext
  exact ⟨fun _ => trivial, fun _ => ⟨.int, h, rfl⟩⟩
theorem rOk_z {v : Int32} (h : mT M = some .boolean) (hv : v = 0 ∨ v = 1) : rOk M v := by
  refine ⟨.boolean, h, ?_⟩
  rcases hv with rfl | rfl <;> rfl
end E2
theorem upA_s (A : xA) (a : Nat) (f : Nat → Int32) : upA A a f a = f := by simp [upA]
theorem upA_n (A : xA) {a c : Nat} (f : Nat → Int32) (h : ¬ c = a) : upA A a f c = A c := by simp [upA, h]
theorem upA_u (A : xA) (a : Nat) (f h : Nat → Int32) : upA (upA A a f) a h = upA A a h := by
  funext c
  simp only [upA]
  split <;> rfl
theorem upA_i (A : xA) (a : Nat) : upA A a (A a) = A := by
  funext c
  simp only [upA]
  split <;> simp_all
theorem oL_0 : oL 0 9 12 = true := by decide
theorem oC_0 : oC 0 9 = true := by decide
theorem oL_1 : oL 1 3 2 = true := by decide
theorem oC_1 : oC 1 3 = true := by decide
theorem oA_2 : oA 2 = true := by decide
theorem oL_3 : oL 3 2 5 = true := by decide
theorem oC_3 : oC 3 2 = true := by decide
theorem oA_4 : oA 4 = true := by decide
theorem oA_5 : oA 5 = true := by decide
theorem oA_6 : oA 6 = true := by decide
theorem oA_7 : oA 7 = true := by decide
theorem oA_8 : oA 8 = true := by decide
theorem oL_9 : oL 9 6 8 = true := by decide
theorem oC_9 : oC 9 6 = true := by decide
theorem oA_10 : oA 10 = true := by decide
theorem oA_11 : oA 11 = true := by decide
theorem oA_12 : oA 12 = true := by decide
theorem oA_13 : oA 13 = true := by decide
theorem oA_14 : oA 14 = true := by decide
theorem oA_15 : oA 15 = true := by decide
theorem oL_16 : oL 16 8 6 = true := by decide
theorem oC_16 : oC 16 8 = true := by decide
theorem oA_17 : oA 17 = true := by decide
theorem oA_18 : oA 18 = true := by decide
theorem oA_19 : oA 19 = true := by decide
theorem oA_20 : oA 20 = true := by decide
theorem oA_21 : oA 21 = true := by decide
theorem oL_22 : oL 22 7 9 = true := by decide
theorem oC_22 : oC 22 7 = true := by decide
theorem oA_23 : oA 23 = true := by decide
theorem oA_24 : oA 24 = true := by decide
theorem oA_25 : oA 25 = true := by decide
theorem oL_26 : oL 26 5 7 = true := by decide
theorem oC_26 : oC 26 5 = true := by decide
theorem oA_27 : oA 27 = true := by decide
theorem oA_28 : oA 28 = true := by decide
theorem oA_29 : oA 29 = true := by decide
theorem oA_30 : oA 30 = true := by decide
theorem oA_31 : oA 31 = true := by decide
theorem oA_32 : oA 32 = true := by decide
theorem oL_33 : oL 33 0 17 = true := by decide
theorem oC_33 : oC 33 0 = true := by decide
theorem oA_34 : oA 34 = true := by decide
theorem oA_35 : oA 35 = true := by decide
theorem oA_36 : oA 36 = true := by decide
theorem oA_37 : oA 37 = true := by decide
theorem oA_38 : oA 38 = true := by decide
theorem oA_39 : oA 39 = true := by decide
theorem oA_40 : oA 40 = true := by decide
theorem oA_41 : oA 41 = true := by decide
theorem oA_42 : oA 42 = true := by decide
theorem oA_43 : oA 43 = true := by decide
theorem oZ_44 : oZ 44 = true := by decide
theorem oA_45 : oA 45 = true := by decide
theorem oL_46 : oL 46 0 17 = true := by decide
theorem oC_46 : oC 46 0 = true := by decide
theorem oA_47 : oA 47 = true := by decide
theorem oA_48 : oA 48 = true := by decide
theorem oA_49 : oA 49 = true := by decide
theorem oA_50 : oA 50 = true := by decide
theorem oA_51 : oA 51 = true := by decide
theorem oA_52 : oA 52 = true := by decide
theorem oA_53 : oA 53 = true := by decide
theorem oA_54 : oA 54 = true := by decide
theorem oA_55 : oA 55 = true := by decide
theorem oA_56 : oA 56 = true := by decide
theorem oZ_57 : oZ 57 = true := by decide
theorem oA_58 : oA 58 = true := by decide
theorem oL_59 : oL 59 4 6 = true := by decide
theorem oC_59 : oC 59 4 = true := by decide
theorem oA_60 : oA 60 = true := by decide
theorem oA_61 : oA 61 = true := by decide
theorem oA_62 : oA 62 = true := by decide
theorem oA_63 : oA 63 = true := by decide
theorem oZ_64 : oZ 64 = true := by decide
theorem oL_65 : oL 65 1 6 = true := by decide
theorem oC_65 : oC 65 1 = true := by decide
theorem oA_66 : oA 66 = true := by decide
theorem oA_67 : oA 67 = true := by decide
theorem oA_68 : oA 68 = true := by decide
theorem oA_69 : oA 69 = true := by decide
theorem oL_70 : oL 70 10 60 = true := by decide
theorem oC_70 : oC 70 10 = true := by decide
theorem oA_71 : oA 71 = true := by decide
theorem oA_72 : oA 72 = true := by decide
theorem oA_73 : oA 73 = true := by decide
theorem oA_74 : oA 74 = true := by decide
theorem oA_75 : oA 75 = true := by decide
theorem oA_76 : oA 76 = true := by decide
theorem oA_77 : oA 77 = true := by decide
theorem oA_78 : oA 78 = true := by decide
theorem oA_79 : oA 79 = true := by decide
theorem oA_80 : oA 80 = true := by decide
theorem oA_81 : oA 81 = true := by decide
theorem oA_82 : oA 82 = true := by decide
theorem oA_83 : oA 83 = true := by decide
theorem oA_84 : oA 84 = true := by decide
theorem oA_85 : oA 85 = true := by decide
theorem oA_86 : oA 86 = true := by decide
theorem oA_87 : oA 87 = true := by decide
theorem oA_88 : oA 88 = true := by decide
theorem oA_89 : oA 89 = true := by decide
theorem oA_90 : oA 90 = true := by decide
theorem oA_91 : oA 91 = true := by decide
theorem oA_92 : oA 92 = true := by decide
theorem oA_93 : oA 93 = true := by decide
theorem oZ_94 : oZ 94 = true := by decide
theorem oA_95 : oA 95 = true := by decide
theorem oA_96 : oA 96 = true := by decide
theorem oA_97 : oA 97 = true := by decide
theorem oA_98 : oA 98 = true := by decide
theorem oA_99 : oA 99 = true := by decide
theorem oA_100 : oA 100 = true := by decide
theorem oA_101 : oA 101 = true := by decide
theorem oA_102 : oA 102 = true := by decide
theorem oA_103 : oA 103 = true := by decide
theorem oA_104 : oA 104 = true := by decide
theorem oA_105 : oA 105 = true := by decide
theorem oA_106 : oA 106 = true := by decide
theorem oA_107 : oA 107 = true := by decide
theorem oA_108 : oA 108 = true := by decide
theorem oA_109 : oA 109 = true := by decide
theorem oZ_110 : oZ 110 = true := by decide
theorem oA_111 : oA 111 = true := by decide
theorem oA_112 : oA 112 = true := by decide
theorem oA_113 : oA 113 = true := by decide
