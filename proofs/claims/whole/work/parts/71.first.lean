-- equations of the first walk, by instruction
abbrev xT1 : Type := Nat → Option xC
def kd (a : Nat) (P : xC) (K : xT1) : xT1 := fun pc => if pc = a then some P else K pc
def K1 : xT1 := fun _ => none
def kig (K : xT1) (pc : Nat) (ls : xS) (st : List Value) (c z : Nat) (L : xL) (F : xF) (A : xA) (n : Prop) : Prop := match K pc with
  | some P => P ls st c z L F A
  | none => n
theorem kig_0 (pc : Nat) (ls : xS) (st : List Value) (c z : Nat) (L : xL) (F : xF) (A : xA) (n : Prop) : kig K1 pc ls st c z L F A n = n := rfl
theorem kig_c (a : Nat) (P : xC) (K : xT1) (pc : Nat) (ls : xS) (st : List Value) (c z : Nat) (L : xL) (F : xF) (A : xA) (n : Prop) : kig (kd a P K) pc ls st c z L F A n = if pc = a then P ls st c z L F A else kig K pc ls st c z L F A n := by
  by_cases h : pc = a
  · simp [kig, kd, h]
  · simp [kig, kd, h]
theorem sg1_s (M : xM) (b : ByteArray) (o : Nat) (K : xT1) (Q : xQ) (n pc : Nat) (ls : xS) (st : List Value) (c z : Nat) (L : xL) (F : xF) (A : xA) : seg M b o K Q (n + 1) pc ls st c z L F A = kig K pc ls st c z L F A (sin M b o (seg M b o K Q n) Q pc ls st c z L F A) := rfl
section E1
variable {M : xM} {b : ByteArray} {o : Nat} {k : xK} {Q : xQ} {pc n : Nat} {ls : xS} {st : List Value} {c z : Nat} {L : xL} {F : xF} {A : xA}
theorem ok1_0 (b : ByteArray) (o n : Nat) (hb : b = mB M) (ho : o = mO M) (h : sin M b o (seg M b o K1 Q n) Q pc ls st c z L F A) : Ok M pc ls st c z L F A Q := ok_seg n K1 hb ho h (fun _ _ h => by cases h)
/-- one cut at a, its own proposition P leading on -/
theorem ok1_1 (b : ByteArray) (o n a : Nat) (P : xC) (hb : b = mB M) (ho : o = mO M) (hP : ∀ ls st c z L F A, P ls st c z L F A → Ok M a ls st c z L F A Q) (h : ∀ R : xC, (∀ ls st c z L F A, P ls st c z L F A → R ls st c z L F A) → sin M b o (seg M b o (kd a R K1) Q n) Q pc ls st c z L F A) : Ok M pc ls st c z L F A Q := by
  refine ok_seg n (kd a P K1) hb ho (h P (fun _ _ _ _ _ _ _ q => q)) ?_
  intro pc' P' hP' ls st c z L F A hq
  unfold kd K1 at hP'
  by_cases hpc : pc' = a
  · rw [if_pos hpc] at hP'
    cases hP'
    subst hpc
    exact hP ls st c z L F A hq
  · rw [if_neg hpc] at hP'
    cases hP'
theorem sin_at {ins : Instr} {len : Nat} (hd : decode b pc = .ok (ins, len)) : sin M b o k Q pc ls st c z L F A = sop M o k Q ins len pc ls st c z L F A := by unfold sin; rw [hd]
theorem n_iadd {x y : Int32} (hd : decode b pc = .ok (.iadd, 1)) (hn : pc + 1 = n) : sin M b o k Q pc ls (.int y :: .int x :: st) c z L F A = k n ls (.int (x + y) :: st) c z L F A := by
  rw [sin_at hd]; subst hn; simp [sop, pII]
theorem n_isub {x y : Int32} (hd : decode b pc = .ok (.isub, 1)) (hn : pc + 1 = n) : sin M b o k Q pc ls (.int y :: .int x :: st) c z L F A = k n ls (.int (x - y) :: st) c z L F A := by
  rw [sin_at hd]; subst hn; simp [sop, pII]
theorem n_imul {x y : Int32} (hd : decode b pc = .ok (.imul, 1)) (hn : pc + 1 = n) : sin M b o k Q pc ls (.int y :: .int x :: st) c z L F A = k n ls (.int (x * y) :: st) c z L F A := by
  rw [sin_at hd]; subst hn; simp [sop, pII]
theorem n_idiv {x y : Int32} (hd : decode b pc = .ok (.idiv, 1)) (hn : pc + 1 = n) : sin M b o k Q pc ls (.int y :: .int x :: st) c z L F A = (¬ y = 0 ∧ k n ls (.int (x / y) :: st) c z L F A) := by
  rw [sin_at hd]; subst hn; simp [sop, pII]
theorem n_irem {x y : Int32} (hd : decode b pc = .ok (.irem, 1)) (hn : pc + 1 = n) : sin M b o k Q pc ls (.int y :: .int x :: st) c z L F A = (¬ y = 0 ∧ k n ls (.int (x - x / y * y) :: st) c z L F A) := by
  rw [sin_at hd]; subst hn; simp [sop, pII]
theorem n_dup_i {x : Int32} (hd : decode b pc = .ok (.dup, 1)) (hn : pc + 1 = n) : sin M b o k Q pc ls ((.int x) :: st) c z L F A = k n ls ((.int x) :: (.int x) :: st) c z L F A := by
  rw [sin_at hd]; subst hn; simp [sop, pV, Value.category]
theorem n_pop_i {x : Int32} (hd : decode b pc = .ok (.pop, 1)) (hn : pc + 1 = n) : sin M b o k Q pc ls ((.int x) :: st) c z L F A = k n ls st c z L F A := by
  rw [sin_at hd]; subst hn; simp [sop, pV, Value.category]
theorem n_dup_r {x : Nat} (hd : decode b pc = .ok (.dup, 1)) (hn : pc + 1 = n) : sin M b o k Q pc ls ((.ref x) :: st) c z L F A = k n ls ((.ref x) :: (.ref x) :: st) c z L F A := by
  rw [sin_at hd]; subst hn; simp [sop, pV, Value.category]
theorem n_pop_r {x : Nat} (hd : decode b pc = .ok (.pop, 1)) (hn : pc + 1 = n) : sin M b o k Q pc ls ((.ref x) :: st) c z L F A = k n ls st c z L F A := by
  rw [sin_at hd]; subst hn; simp [sop, pV, Value.category]
theorem n_iconst {q : Int} {v : Int32} (hd : decode b pc = .ok (.iconst q, 1)) (hn : pc + 1 = n) (hv : Int32.ofInt q = v) : sin M b o k Q pc ls st c z L F A = k n ls (.int v :: st) c z L F A := by
  rw [sin_at hd]; subst hn; subst hv; simp [sop]
theorem n_bipush {q : Int} {v : Int32} (hd : decode b pc = .ok (.bipush q, 2)) (hn : pc + 2 = n) (hv : (Int8.ofInt q).toInt32 = v) : sin M b o k Q pc ls st c z L F A = k n ls (.int v :: st) c z L F A := by
  rw [sin_at hd]; subst hn; subst hv; simp [sop]
theorem n_sipush {q : Int} {v : Int32} (hd : decode b pc = .ok (.sipush q, 3)) (hn : pc + 3 = n) (hv : (Int16.ofInt q).toInt32 = v) : sin M b o k Q pc ls st c z L F A = k n ls (.int v :: st) c z L F A := by
  rw [sin_at hd]; subst hn; subst hv; simp [sop]
theorem n_ldc_i {i : Nat} {v : Int32} (hd : decode b pc = .ok (.ldc i, 2)) (hn : pc + 2 = n) (hv : cpI o i = some v) : sin M b o k Q pc ls st c z L F A = k n ls (.int v :: st) c z L F A := by
  rw [sin_at hd]; subst hn; simp [sop, hv]
theorem n_iload_n_0 {x : Int32} {r : xS} (hd : decode b pc = .ok (.iload_n 0, 1)) (hn : pc + 1 = n) : sin M b o k Q pc (some (.int x) :: r) st c z L F A = k n (some (.int x) :: r) (.int x :: st) c z L F A := by
  rw [sin_at hd]; subst hn; simp [sop, lI, f3]
theorem n_aload_n_0 {x : Nat} {r : xS} (hd : decode b pc = .ok (.aload_n 0, 1)) (hn : pc + 1 = n) : sin M b o k Q pc (some (.ref x) :: r) st c z L F A = k n (some (.ref x) :: r) (.ref x :: st) c z L F A := by
  rw [sin_at hd]; subst hn; simp [sop, lA, f3]
theorem n_iload_0 {x : Int32} {r : xS} (hd : decode b pc = .ok (.iload 0, 2)) (hn : pc + 2 = n) : sin M b o k Q pc (some (.int x) :: r) st c z L F A = k n (some (.int x) :: r) (.int x :: st) c z L F A := by
  rw [sin_at hd]; subst hn; simp [sop, lI, f3]
theorem n_aload_0 {x : Nat} {r : xS} (hd : decode b pc = .ok (.aload 0, 2)) (hn : pc + 2 = n) : sin M b o k Q pc (some (.ref x) :: r) st c z L F A = k n (some (.ref x) :: r) (.ref x :: st) c z L F A := by
  rw [sin_at hd]; subst hn; simp [sop, lA, f3]
theorem n_istore_n_0 {x : Int32} {y : Option Value} {r : xS} (hd : decode b pc = .ok (.istore_n 0, 1)) (hn : pc + 1 = n) : sin M b o k Q pc (y :: r) (.int x :: st) c z L F A = k n (some (.int x) :: r) st c z L F A := by
  rw [sin_at hd]; subst hn; simp [sop, pI, lS, lB, f3]
theorem n_astore_n_0 {x : Nat} {y : Option Value} {r : xS} (hd : decode b pc = .ok (.astore_n 0, 1)) (hn : pc + 1 = n) : sin M b o k Q pc (y :: r) (.ref x :: st) c z L F A = k n (some (.ref x) :: r) st c z L F A := by
  rw [sin_at hd]; subst hn; simp [sop, pR, lS, lB, f3]
theorem n_istore_0 {x : Int32} {y : Option Value} {r : xS} (hd : decode b pc = .ok (.istore 0, 2)) (hn : pc + 2 = n) : sin M b o k Q pc (y :: r) (.int x :: st) c z L F A = k n (some (.int x) :: r) st c z L F A := by
  rw [sin_at hd]; subst hn; simp [sop, pI, lS, lB, f3]
theorem n_astore_0 {x : Nat} {y : Option Value} {r : xS} (hd : decode b pc = .ok (.astore 0, 2)) (hn : pc + 2 = n) : sin M b o k Q pc (y :: r) (.ref x :: st) c z L F A = k n (some (.ref x) :: r) st c z L F A := by
  rw [sin_at hd]; subst hn; simp [sop, pR, lS, lB, f3]
theorem n_iinc_0 {x v : Int32} {q : Int} {r : xS} (hd : decode b pc = .ok (.iinc 0 q, 3)) (hn : pc + 3 = n) (hv : Int32.ofInt q = v) : sin M b o k Q pc (some (.int x) :: r) st c z L F A = k n (some (.int (x + v)) :: r) st c z L F A := by
  rw [sin_at hd]; subst hn; subst hv; simp [sop, lI, lS, lB]
theorem n_iload_n_1 {x : Int32} {r : xS} {a0 : Option Value} (hd : decode b pc = .ok (.iload_n 1, 1)) (hn : pc + 1 = n) : sin M b o k Q pc (a0 :: some (.int x) :: r) st c z L F A = k n (a0 :: some (.int x) :: r) (.int x :: st) c z L F A := by
  rw [sin_at hd]; subst hn; simp [sop, lI, f3]
theorem n_aload_n_1 {x : Nat} {r : xS} {a0 : Option Value} (hd : decode b pc = .ok (.aload_n 1, 1)) (hn : pc + 1 = n) : sin M b o k Q pc (a0 :: some (.ref x) :: r) st c z L F A = k n (a0 :: some (.ref x) :: r) (.ref x :: st) c z L F A := by
  rw [sin_at hd]; subst hn; simp [sop, lA, f3]
theorem n_iload_1 {x : Int32} {r : xS} {a0 : Option Value} (hd : decode b pc = .ok (.iload 1, 2)) (hn : pc + 2 = n) : sin M b o k Q pc (a0 :: some (.int x) :: r) st c z L F A = k n (a0 :: some (.int x) :: r) (.int x :: st) c z L F A := by
  rw [sin_at hd]; subst hn; simp [sop, lI, f3]
theorem n_aload_1 {x : Nat} {r : xS} {a0 : Option Value} (hd : decode b pc = .ok (.aload 1, 2)) (hn : pc + 2 = n) : sin M b o k Q pc (a0 :: some (.ref x) :: r) st c z L F A = k n (a0 :: some (.ref x) :: r) (.ref x :: st) c z L F A := by
  rw [sin_at hd]; subst hn; simp [sop, lA, f3]
theorem n_istore_n_1 {x : Int32} {y : Option Value} {r : xS} {a0 : Option Value} (hd : decode b pc = .ok (.istore_n 1, 1)) (hn : pc + 1 = n) (hp : nl a0 = true) : sin M b o k Q pc (a0 :: y :: r) (.int x :: st) c z L F A = k n (a0 :: some (.int x) :: r) st c z L F A := by
  rw [sin_at hd]; subst hn; (have hB : lB (a0 :: y :: r) 1 = true := by (cases a0 with | none => rfl | some v => cases v <;> first | rfl | cases hp)); simp [sop, pI, lS, hB, f3]
theorem n_astore_n_1 {x : Nat} {y : Option Value} {r : xS} {a0 : Option Value} (hd : decode b pc = .ok (.astore_n 1, 1)) (hn : pc + 1 = n) (hp : nl a0 = true) : sin M b o k Q pc (a0 :: y :: r) (.ref x :: st) c z L F A = k n (a0 :: some (.ref x) :: r) st c z L F A := by
  rw [sin_at hd]; subst hn; (have hB : lB (a0 :: y :: r) 1 = true := by (cases a0 with | none => rfl | some v => cases v <;> first | rfl | cases hp)); simp [sop, pR, lS, hB, f3]
theorem n_istore_1 {x : Int32} {y : Option Value} {r : xS} {a0 : Option Value} (hd : decode b pc = .ok (.istore 1, 2)) (hn : pc + 2 = n) (hp : nl a0 = true) : sin M b o k Q pc (a0 :: y :: r) (.int x :: st) c z L F A = k n (a0 :: some (.int x) :: r) st c z L F A := by
  rw [sin_at hd]; subst hn; (have hB : lB (a0 :: y :: r) 1 = true := by (cases a0 with | none => rfl | some v => cases v <;> first | rfl | cases hp)); simp [sop, pI, lS, hB, f3]
theorem n_astore_1 {x : Nat} {y : Option Value} {r : xS} {a0 : Option Value} (hd : decode b pc = .ok (.astore 1, 2)) (hn : pc + 2 = n) (hp : nl a0 = true) : sin M b o k Q pc (a0 :: y :: r) (.ref x :: st) c z L F A = k n (a0 :: some (.ref x) :: r) st c z L F A := by
  rw [sin_at hd]; subst hn; (have hB : lB (a0 :: y :: r) 1 = true := by (cases a0 with | none => rfl | some v => cases v <;> first | rfl | cases hp)); simp [sop, pR, lS, hB, f3]
theorem n_iinc_1 {x v : Int32} {q : Int} {r : xS} {a0 : Option Value} (hd : decode b pc = .ok (.iinc 1 q, 3)) (hn : pc + 3 = n) (hv : Int32.ofInt q = v) (hp : nl a0 = true) : sin M b o k Q pc (a0 :: some (.int x) :: r) st c z L F A = k n (a0 :: some (.int (x + v)) :: r) st c z L F A := by
  rw [sin_at hd]; subst hn; subst hv; (have hB : lB (a0 :: some (.int x) :: r) 1 = true := by (cases a0 with | none => rfl | some v => cases v <;> first | rfl | cases hp)); simp [sop, lI, lS, hB]
theorem n_iload_n_2 {x : Int32} {r : xS} {a0 a1 : Option Value} (hd : decode b pc = .ok (.iload_n 2, 1)) (hn : pc + 1 = n) : sin M b o k Q pc (a0 :: a1 :: some (.int x) :: r) st c z L F A = k n (a0 :: a1 :: some (.int x) :: r) (.int x :: st) c z L F A := by
  rw [sin_at hd]; subst hn; simp [sop, lI, f3]
theorem n_aload_n_2 {x : Nat} {r : xS} {a0 a1 : Option Value} (hd : decode b pc = .ok (.aload_n 2, 1)) (hn : pc + 1 = n) : sin M b o k Q pc (a0 :: a1 :: some (.ref x) :: r) st c z L F A = k n (a0 :: a1 :: some (.ref x) :: r) (.ref x :: st) c z L F A := by
  rw [sin_at hd]; subst hn; simp [sop, lA, f3]
theorem n_iload_2 {x : Int32} {r : xS} {a0 a1 : Option Value} (hd : decode b pc = .ok (.iload 2, 2)) (hn : pc + 2 = n) : sin M b o k Q pc (a0 :: a1 :: some (.int x) :: r) st c z L F A = k n (a0 :: a1 :: some (.int x) :: r) (.int x :: st) c z L F A := by
  rw [sin_at hd]; subst hn; simp [sop, lI, f3]
theorem n_aload_2 {x : Nat} {r : xS} {a0 a1 : Option Value} (hd : decode b pc = .ok (.aload 2, 2)) (hn : pc + 2 = n) : sin M b o k Q pc (a0 :: a1 :: some (.ref x) :: r) st c z L F A = k n (a0 :: a1 :: some (.ref x) :: r) (.ref x :: st) c z L F A := by
  rw [sin_at hd]; subst hn; simp [sop, lA, f3]
theorem n_istore_n_2 {x : Int32} {y : Option Value} {r : xS} {a0 a1 : Option Value} (hd : decode b pc = .ok (.istore_n 2, 1)) (hn : pc + 1 = n) (hp : nl a1 = true) : sin M b o k Q pc (a0 :: a1 :: y :: r) (.int x :: st) c z L F A = k n (a0 :: a1 :: some (.int x) :: r) st c z L F A := by
  rw [sin_at hd]; subst hn; (have hB : lB (a0 :: a1 :: y :: r) 2 = true := by (cases a1 with | none => rfl | some v => cases v <;> first | rfl | cases hp)); simp [sop, pI, lS, hB, f3]
theorem n_astore_n_2 {x : Nat} {y : Option Value} {r : xS} {a0 a1 : Option Value} (hd : decode b pc = .ok (.astore_n 2, 1)) (hn : pc + 1 = n) (hp : nl a1 = true) : sin M b o k Q pc (a0 :: a1 :: y :: r) (.ref x :: st) c z L F A = k n (a0 :: a1 :: some (.ref x) :: r) st c z L F A := by
  rw [sin_at hd]; subst hn; (have hB : lB (a0 :: a1 :: y :: r) 2 = true := by (cases a1 with | none => rfl | some v => cases v <;> first | rfl | cases hp)); simp [sop, pR, lS, hB, f3]
theorem n_istore_2 {x : Int32} {y : Option Value} {r : xS} {a0 a1 : Option Value} (hd : decode b pc = .ok (.istore 2, 2)) (hn : pc + 2 = n) (hp : nl a1 = true) : sin M b o k Q pc (a0 :: a1 :: y :: r) (.int x :: st) c z L F A = k n (a0 :: a1 :: some (.int x) :: r) st c z L F A := by
  rw [sin_at hd]; subst hn; (have hB : lB (a0 :: a1 :: y :: r) 2 = true := by (cases a1 with | none => rfl | some v => cases v <;> first | rfl | cases hp)); simp [sop, pI, lS, hB, f3]
theorem n_astore_2 {x : Nat} {y : Option Value} {r : xS} {a0 a1 : Option Value} (hd : decode b pc = .ok (.astore 2, 2)) (hn : pc + 2 = n) (hp : nl a1 = true) : sin M b o k Q pc (a0 :: a1 :: y :: r) (.ref x :: st) c z L F A = k n (a0 :: a1 :: some (.ref x) :: r) st c z L F A := by
  rw [sin_at hd]; subst hn; (have hB : lB (a0 :: a1 :: y :: r) 2 = true := by (cases a1 with | none => rfl | some v => cases v <;> first | rfl | cases hp)); simp [sop, pR, lS, hB, f3]
theorem n_iinc_2 {x v : Int32} {q : Int} {r : xS} {a0 a1 : Option Value} (hd : decode b pc = .ok (.iinc 2 q, 3)) (hn : pc + 3 = n) (hv : Int32.ofInt q = v) (hp : nl a1 = true) : sin M b o k Q pc (a0 :: a1 :: some (.int x) :: r) st c z L F A = k n (a0 :: a1 :: some (.int (x + v)) :: r) st c z L F A := by
  rw [sin_at hd]; subst hn; subst hv; (have hB : lB (a0 :: a1 :: some (.int x) :: r) 2 = true := by (cases a1 with | none => rfl | some v => cases v <;> first | rfl | cases hp)); simp [sop, lI, lS, hB]
theorem n_iload_n_3 {x : Int32} {r : xS} {a0 a1 a2 : Option Value} (hd : decode b pc = .ok (.iload_n 3, 1)) (hn : pc + 1 = n) : sin M b o k Q pc (a0 :: a1 :: a2 :: some (.int x) :: r) st c z L F A = k n (a0 :: a1 :: a2 :: some (.int x) :: r) (.int x :: st) c z L F A := by
  rw [sin_at hd]; subst hn; simp [sop, lI, f3]
theorem n_aload_n_3 {x : Nat} {r : xS} {a0 a1 a2 : Option Value} (hd : decode b pc = .ok (.aload_n 3, 1)) (hn : pc + 1 = n) : sin M b o k Q pc (a0 :: a1 :: a2 :: some (.ref x) :: r) st c z L F A = k n (a0 :: a1 :: a2 :: some (.ref x) :: r) (.ref x :: st) c z L F A := by
  rw [sin_at hd]; subst hn; simp [sop, lA, f3]
theorem n_iload_3 {x : Int32} {r : xS} {a0 a1 a2 : Option Value} (hd : decode b pc = .ok (.iload 3, 2)) (hn : pc + 2 = n) : sin M b o k Q pc (a0 :: a1 :: a2 :: some (.int x) :: r) st c z L F A = k n (a0 :: a1 :: a2 :: some (.int x) :: r) (.int x :: st) c z L F A := by
  rw [sin_at hd]; subst hn; simp [sop, lI, f3]
theorem n_aload_3 {x : Nat} {r : xS} {a0 a1 a2 : Option Value} (hd : decode b pc = .ok (.aload 3, 2)) (hn : pc + 2 = n) : sin M b o k Q pc (a0 :: a1 :: a2 :: some (.ref x) :: r) st c z L F A = k n (a0 :: a1 :: a2 :: some (.ref x) :: r) (.ref x :: st) c z L F A := by
  rw [sin_at hd]; subst hn; simp [sop, lA, f3]
theorem n_istore_n_3 {x : Int32} {y : Option Value} {r : xS} {a0 a1 a2 : Option Value} (hd : decode b pc = .ok (.istore_n 3, 1)) (hn : pc + 1 = n) (hp : nl a2 = true) : sin M b o k Q pc (a0 :: a1 :: a2 :: y :: r) (.int x :: st) c z L F A = k n (a0 :: a1 :: a2 :: some (.int x) :: r) st c z L F A := by
  rw [sin_at hd]; subst hn; (have hB : lB (a0 :: a1 :: a2 :: y :: r) 3 = true := by (cases a2 with | none => rfl | some v => cases v <;> first | rfl | cases hp)); simp [sop, pI, lS, hB, f3]
theorem n_astore_n_3 {x : Nat} {y : Option Value} {r : xS} {a0 a1 a2 : Option Value} (hd : decode b pc = .ok (.astore_n 3, 1)) (hn : pc + 1 = n) (hp : nl a2 = true) : sin M b o k Q pc (a0 :: a1 :: a2 :: y :: r) (.ref x :: st) c z L F A = k n (a0 :: a1 :: a2 :: some (.ref x) :: r) st c z L F A := by
  rw [sin_at hd]; subst hn; (have hB : lB (a0 :: a1 :: a2 :: y :: r) 3 = true := by (cases a2 with | none => rfl | some v => cases v <;> first | rfl | cases hp)); simp [sop, pR, lS, hB, f3]
theorem n_istore_3 {x : Int32} {y : Option Value} {r : xS} {a0 a1 a2 : Option Value} (hd : decode b pc = .ok (.istore 3, 2)) (hn : pc + 2 = n) (hp : nl a2 = true) : sin M b o k Q pc (a0 :: a1 :: a2 :: y :: r) (.int x :: st) c z L F A = k n (a0 :: a1 :: a2 :: some (.int x) :: r) st c z L F A := by
  rw [sin_at hd]; subst hn; (have hB : lB (a0 :: a1 :: a2 :: y :: r) 3 = true := by (cases a2 with | none => rfl | some v => cases v <;> first | rfl | cases hp)); simp [sop, pI, lS, hB, f3]
theorem n_astore_3 {x : Nat} {y : Option Value} {r : xS} {a0 a1 a2 : Option Value} (hd : decode b pc = .ok (.astore 3, 2)) (hn : pc + 2 = n) (hp : nl a2 = true) : sin M b o k Q pc (a0 :: a1 :: a2 :: y :: r) (.ref x :: st) c z L F A = k n (a0 :: a1 :: a2 :: some (.ref x) :: r) st c z L F A := by
  rw [sin_at hd]; subst hn; (have hB : lB (a0 :: a1 :: a2 :: y :: r) 3 = true := by (cases a2 with | none => rfl | some v => cases v <;> first | rfl | cases hp)); simp [sop, pR, lS, hB, f3]
theorem n_iinc_3 {x v : Int32} {q : Int} {r : xS} {a0 a1 a2 : Option Value} (hd : decode b pc = .ok (.iinc 3 q, 3)) (hn : pc + 3 = n) (hv : Int32.ofInt q = v) (hp : nl a2 = true) : sin M b o k Q pc (a0 :: a1 :: a2 :: some (.int x) :: r) st c z L F A = k n (a0 :: a1 :: a2 :: some (.int (x + v)) :: r) st c z L F A := by
  rw [sin_at hd]; subst hn; subst hv; (have hB : lB (a0 :: a1 :: a2 :: some (.int x) :: r) 3 = true := by (cases a2 with | none => rfl | some v => cases v <;> first | rfl | cases hp)); simp [sop, lI, lS, hB]
theorem n_iload_4 {x : Int32} {r : xS} {a0 a1 a2 a3 : Option Value} (hd : decode b pc = .ok (.iload 4, 2)) (hn : pc + 2 = n) : sin M b o k Q pc (a0 :: a1 :: a2 :: a3 :: some (.int x) :: r) st c z L F A = k n (a0 :: a1 :: a2 :: a3 :: some (.int x) :: r) (.int x :: st) c z L F A := by
  rw [sin_at hd]; subst hn; simp [sop, lI, f3]
theorem n_aload_4 {x : Nat} {r : xS} {a0 a1 a2 a3 : Option Value} (hd : decode b pc = .ok (.aload 4, 2)) (hn : pc + 2 = n) : sin M b o k Q pc (a0 :: a1 :: a2 :: a3 :: some (.ref x) :: r) st c z L F A = k n (a0 :: a1 :: a2 :: a3 :: some (.ref x) :: r) (.ref x :: st) c z L F A := by
  rw [sin_at hd]; subst hn; simp [sop, lA, f3]
theorem n_istore_4 {x : Int32} {y : Option Value} {r : xS} {a0 a1 a2 a3 : Option Value} (hd : decode b pc = .ok (.istore 4, 2)) (hn : pc + 2 = n) (hp : nl a3 = true) : sin M b o k Q pc (a0 :: a1 :: a2 :: a3 :: y :: r) (.int x :: st) c z L F A = k n (a0 :: a1 :: a2 :: a3 :: some (.int x) :: r) st c z L F A := by
  rw [sin_at hd]; subst hn; (have hB : lB (a0 :: a1 :: a2 :: a3 :: y :: r) 4 = true := by (cases a3 with | none => rfl | some v => cases v <;> first | rfl | cases hp)); simp [sop, pI, lS, hB, f3]
theorem n_astore_4 {x : Nat} {y : Option Value} {r : xS} {a0 a1 a2 a3 : Option Value} (hd : decode b pc = .ok (.astore 4, 2)) (hn : pc + 2 = n) (hp : nl a3 = true) : sin M b o k Q pc (a0 :: a1 :: a2 :: a3 :: y :: r) (.ref x :: st) c z L F A = k n (a0 :: a1 :: a2 :: a3 :: some (.ref x) :: r) st c z L F A := by
  rw [sin_at hd]; subst hn; (have hB : lB (a0 :: a1 :: a2 :: a3 :: y :: r) 4 = true := by (cases a3 with | none => rfl | some v => cases v <;> first | rfl | cases hp)); simp [sop, pR, lS, hB, f3]
theorem n_iinc_4 {x v : Int32} {q : Int} {r : xS} {a0 a1 a2 a3 : Option Value} (hd : decode b pc = .ok (.iinc 4 q, 3)) (hn : pc + 3 = n) (hv : Int32.ofInt q = v) (hp : nl a3 = true) : sin M b o k Q pc (a0 :: a1 :: a2 :: a3 :: some (.int x) :: r) st c z L F A = k n (a0 :: a1 :: a2 :: a3 :: some (.int (x + v)) :: r) st c z L F A := by
  rw [sin_at hd]; subst hn; subst hv; (have hB : lB (a0 :: a1 :: a2 :: a3 :: some (.int x) :: r) 4 = true := by (cases a3 with | none => rfl | some v => cases v <;> first | rfl | cases hp)); simp [sop, lI, lS, hB]
theorem n_iload_5 {x : Int32} {r : xS} {a0 a1 a2 a3 a4 : Option Value} (hd : decode b pc = .ok (.iload 5, 2)) (hn : pc + 2 = n) : sin M b o k Q pc (a0 :: a1 :: a2 :: a3 :: a4 :: some (.int x) :: r) st c z L F A = k n (a0 :: a1 :: a2 :: a3 :: a4 :: some (.int x) :: r) (.int x :: st) c z L F A := by
  rw [sin_at hd]; subst hn; simp [sop, lI, f3]
theorem n_aload_5 {x : Nat} {r : xS} {a0 a1 a2 a3 a4 : Option Value} (hd : decode b pc = .ok (.aload 5, 2)) (hn : pc + 2 = n) : sin M b o k Q pc (a0 :: a1 :: a2 :: a3 :: a4 :: some (.ref x) :: r) st c z L F A = k n (a0 :: a1 :: a2 :: a3 :: a4 :: some (.ref x) :: r) (.ref x :: st) c z L F A := by
  rw [sin_at hd]; subst hn; simp [sop, lA, f3]
theorem n_istore_5 {x : Int32} {y : Option Value} {r : xS} {a0 a1 a2 a3 a4 : Option Value} (hd : decode b pc = .ok (.istore 5, 2)) (hn : pc + 2 = n) (hp : nl a4 = true) : sin M b o k Q pc (a0 :: a1 :: a2 :: a3 :: a4 :: y :: r) (.int x :: st) c z L F A = k n (a0 :: a1 :: a2 :: a3 :: a4 :: some (.int x) :: r) st c z L F A := by
  rw [sin_at hd]; subst hn; (have hB : lB (a0 :: a1 :: a2 :: a3 :: a4 :: y :: r) 5 = true := by (cases a4 with | none => rfl | some v => cases v <;> first | rfl | cases hp)); simp [sop, pI, lS, hB, f3]
theorem n_astore_5 {x : Nat} {y : Option Value} {r : xS} {a0 a1 a2 a3 a4 : Option Value} (hd : decode b pc = .ok (.astore 5, 2)) (hn : pc + 2 = n) (hp : nl a4 = true) : sin M b o k Q pc (a0 :: a1 :: a2 :: a3 :: a4 :: y :: r) (.ref x :: st) c z L F A = k n (a0 :: a1 :: a2 :: a3 :: a4 :: some (.ref x) :: r) st c z L F A := by
  rw [sin_at hd]; subst hn; (have hB : lB (a0 :: a1 :: a2 :: a3 :: a4 :: y :: r) 5 = true := by (cases a4 with | none => rfl | some v => cases v <;> first | rfl | cases hp)); simp [sop, pR, lS, hB, f3]
theorem n_iinc_5 {x v : Int32} {q : Int} {r : xS} {a0 a1 a2 a3 a4 : Option Value} (hd : decode b pc = .ok (.iinc 5 q, 3)) (hn : pc + 3 = n) (hv : Int32.ofInt q = v) (hp : nl a4 = true) : sin M b o k Q pc (a0 :: a1 :: a2 :: a3 :: a4 :: some (.int x) :: r) st c z L F A = k n (a0 :: a1 :: a2 :: a3 :: a4 :: some (.int (x + v)) :: r) st c z L F A := by
  rw [sin_at hd]; subst hn; subst hv; (have hB : lB (a0 :: a1 :: a2 :: a3 :: a4 :: some (.int x) :: r) 5 = true := by (cases a4 with | none => rfl | some v => cases v <;> first | rfl | cases hp)); simp [sop, lI, lS, hB]
theorem n_iload_6 {x : Int32} {r : xS} {a0 a1 a2 a3 a4 a5 : Option Value} (hd : decode b pc = .ok (.iload 6, 2)) (hn : pc + 2 = n) : sin M b o k Q pc (a0 :: a1 :: a2 :: a3 :: a4 :: a5 :: some (.int x) :: r) st c z L F A = k n (a0 :: a1 :: a2 :: a3 :: a4 :: a5 :: some (.int x) :: r) (.int x :: st) c z L F A := by
  rw [sin_at hd]; subst hn; simp [sop, lI, f3]
theorem n_aload_6 {x : Nat} {r : xS} {a0 a1 a2 a3 a4 a5 : Option Value} (hd : decode b pc = .ok (.aload 6, 2)) (hn : pc + 2 = n) : sin M b o k Q pc (a0 :: a1 :: a2 :: a3 :: a4 :: a5 :: some (.ref x) :: r) st c z L F A = k n (a0 :: a1 :: a2 :: a3 :: a4 :: a5 :: some (.ref x) :: r) (.ref x :: st) c z L F A := by
  rw [sin_at hd]; subst hn; simp [sop, lA, f3]
theorem n_istore_6 {x : Int32} {y : Option Value} {r : xS} {a0 a1 a2 a3 a4 a5 : Option Value} (hd : decode b pc = .ok (.istore 6, 2)) (hn : pc + 2 = n) (hp : nl a5 = true) : sin M b o k Q pc (a0 :: a1 :: a2 :: a3 :: a4 :: a5 :: y :: r) (.int x :: st) c z L F A = k n (a0 :: a1 :: a2 :: a3 :: a4 :: a5 :: some (.int x) :: r) st c z L F A := by
  rw [sin_at hd]; subst hn; (have hB : lB (a0 :: a1 :: a2 :: a3 :: a4 :: a5 :: y :: r) 6 = true := by (cases a5 with | none => rfl | some v => cases v <;> first | rfl | cases hp)); simp [sop, pI, lS, hB, f3]
theorem n_astore_6 {x : Nat} {y : Option Value} {r : xS} {a0 a1 a2 a3 a4 a5 : Option Value} (hd : decode b pc = .ok (.astore 6, 2)) (hn : pc + 2 = n) (hp : nl a5 = true) : sin M b o k Q pc (a0 :: a1 :: a2 :: a3 :: a4 :: a5 :: y :: r) (.ref x :: st) c z L F A = k n (a0 :: a1 :: a2 :: a3 :: a4 :: a5 :: some (.ref x) :: r) st c z L F A := by
  rw [sin_at hd]; subst hn; (have hB : lB (a0 :: a1 :: a2 :: a3 :: a4 :: a5 :: y :: r) 6 = true := by (cases a5 with | none => rfl | some v => cases v <;> first | rfl | cases hp)); simp [sop, pR, lS, hB, f3]
theorem n_iinc_6 {x v : Int32} {q : Int} {r : xS} {a0 a1 a2 a3 a4 a5 : Option Value} (hd : decode b pc = .ok (.iinc 6 q, 3)) (hn : pc + 3 = n) (hv : Int32.ofInt q = v) (hp : nl a5 = true) : sin M b o k Q pc (a0 :: a1 :: a2 :: a3 :: a4 :: a5 :: some (.int x) :: r) st c z L F A = k n (a0 :: a1 :: a2 :: a3 :: a4 :: a5 :: some (.int (x + v)) :: r) st c z L F A := by
  rw [sin_at hd]; subst hn; subst hv; (have hB : lB (a0 :: a1 :: a2 :: a3 :: a4 :: a5 :: some (.int x) :: r) 6 = true := by (cases a5 with | none => rfl | some v => cases v <;> first | rfl | cases hp)); simp [sop, lI, lS, hB]
theorem n_if_eq {x : Int32} {off : Int} {t : Nat} (hd : decode b pc = .ok (.ifCond .eq off, 3)) (hn : pc + 3 = n) (ht : (decide (0 ≤ (pc : Int) + off) && (tg pc off == t)) = true) : sin M b o k Q pc ls (.int x :: st) c z L F A = (if x = 0 then k t ls st c z L F A else k n ls st c z L F A) := by
  rw [sin_at hd]; subst hn; obtain ⟨h1, h2⟩ := tgB ht; simp only [sop, pI, xif, h1, h2, and_self, true_and]
theorem n_ic_eq {x y : Int32} {off : Int} {t : Nat} (hd : decode b pc = .ok (.if_icmp .eq off, 3)) (hn : pc + 3 = n) (ht : (decide (0 ≤ (pc : Int) + off) && (tg pc off == t)) = true) : sin M b o k Q pc ls (.int y :: .int x :: st) c z L F A = (if x = y then k t ls st c z L F A else k n ls st c z L F A) := by
  rw [sin_at hd]; subst hn; obtain ⟨h1, h2⟩ := tgB ht; simp only [sop, pII, xif, h1, h2, and_self, true_and]
theorem n_if_ne {x : Int32} {off : Int} {t : Nat} (hd : decode b pc = .ok (.ifCond .ne off, 3)) (hn : pc + 3 = n) (ht : (decide (0 ≤ (pc : Int) + off) && (tg pc off == t)) = true) : sin M b o k Q pc ls (.int x :: st) c z L F A = (if x = 0 then k n ls st c z L F A else k t ls st c z L F A) := by
  rw [sin_at hd]; subst hn; obtain ⟨h1, h2⟩ := tgB ht; simp only [sop, pI, xif, h1, h2, and_self, true_and]
theorem n_ic_ne {x y : Int32} {off : Int} {t : Nat} (hd : decode b pc = .ok (.if_icmp .ne off, 3)) (hn : pc + 3 = n) (ht : (decide (0 ≤ (pc : Int) + off) && (tg pc off == t)) = true) : sin M b o k Q pc ls (.int y :: .int x :: st) c z L F A = (if x = y then k n ls st c z L F A else k t ls st c z L F A) := by
  rw [sin_at hd]; subst hn; obtain ⟨h1, h2⟩ := tgB ht; simp only [sop, pII, xif, h1, h2, and_self, true_and]
theorem n_if_lt {x : Int32} {off : Int} {t : Nat} (hd : decode b pc = .ok (.ifCond .lt off, 3)) (hn : pc + 3 = n) (ht : (decide (0 ≤ (pc : Int) + off) && (tg pc off == t)) = true) : sin M b o k Q pc ls (.int x :: st) c z L F A = (if x < 0 then k t ls st c z L F A else k n ls st c z L F A) := by
  rw [sin_at hd]; subst hn; obtain ⟨h1, h2⟩ := tgB ht; simp only [sop, pI, xif, h1, h2, and_self, true_and]
theorem n_ic_lt {x y : Int32} {off : Int} {t : Nat} (hd : decode b pc = .ok (.if_icmp .lt off, 3)) (hn : pc + 3 = n) (ht : (decide (0 ≤ (pc : Int) + off) && (tg pc off == t)) = true) : sin M b o k Q pc ls (.int y :: .int x :: st) c z L F A = (if x < y then k t ls st c z L F A else k n ls st c z L F A) := by
  rw [sin_at hd]; subst hn; obtain ⟨h1, h2⟩ := tgB ht; simp only [sop, pII, xif, h1, h2, and_self, true_and]
theorem n_if_ge {x : Int32} {off : Int} {t : Nat} (hd : decode b pc = .ok (.ifCond .ge off, 3)) (hn : pc + 3 = n) (ht : (decide (0 ≤ (pc : Int) + off) && (tg pc off == t)) = true) : sin M b o k Q pc ls (.int x :: st) c z L F A = (if x < 0 then k n ls st c z L F A else k t ls st c z L F A) := by
  rw [sin_at hd]; subst hn; obtain ⟨h1, h2⟩ := tgB ht; simp only [sop, pI, xif, h1, h2, and_self, true_and]
theorem n_ic_ge {x y : Int32} {off : Int} {t : Nat} (hd : decode b pc = .ok (.if_icmp .ge off, 3)) (hn : pc + 3 = n) (ht : (decide (0 ≤ (pc : Int) + off) && (tg pc off == t)) = true) : sin M b o k Q pc ls (.int y :: .int x :: st) c z L F A = (if x < y then k n ls st c z L F A else k t ls st c z L F A) := by
  rw [sin_at hd]; subst hn; obtain ⟨h1, h2⟩ := tgB ht; simp only [sop, pII, xif, h1, h2, and_self, true_and]
theorem n_if_gt {x : Int32} {off : Int} {t : Nat} (hd : decode b pc = .ok (.ifCond .gt off, 3)) (hn : pc + 3 = n) (ht : (decide (0 ≤ (pc : Int) + off) && (tg pc off == t)) = true) : sin M b o k Q pc ls (.int x :: st) c z L F A = (if 0 < x then k t ls st c z L F A else k n ls st c z L F A) := by
  rw [sin_at hd]; subst hn; obtain ⟨h1, h2⟩ := tgB ht; simp only [sop, pI, xif, h1, h2, and_self, true_and]
theorem n_ic_gt {x y : Int32} {off : Int} {t : Nat} (hd : decode b pc = .ok (.if_icmp .gt off, 3)) (hn : pc + 3 = n) (ht : (decide (0 ≤ (pc : Int) + off) && (tg pc off == t)) = true) : sin M b o k Q pc ls (.int y :: .int x :: st) c z L F A = (if y < x then k t ls st c z L F A else k n ls st c z L F A) := by
  rw [sin_at hd]; subst hn; obtain ⟨h1, h2⟩ := tgB ht; simp only [sop, pII, xif, h1, h2, and_self, true_and]
theorem n_if_le {x : Int32} {off : Int} {t : Nat} (hd : decode b pc = .ok (.ifCond .le off, 3)) (hn : pc + 3 = n) (ht : (decide (0 ≤ (pc : Int) + off) && (tg pc off == t)) = true) : sin M b o k Q pc ls (.int x :: st) c z L F A = (if 0 < x then k n ls st c z L F A else k t ls st c z L F A) := by
  rw [sin_at hd]; subst hn; obtain ⟨h1, h2⟩ := tgB ht; simp only [sop, pI, xif, h1, h2, and_self, true_and]
theorem n_ic_le {x y : Int32} {off : Int} {t : Nat} (hd : decode b pc = .ok (.if_icmp .le off, 3)) (hn : pc + 3 = n) (ht : (decide (0 ≤ (pc : Int) + off) && (tg pc off == t)) = true) : sin M b o k Q pc ls (.int y :: .int x :: st) c z L F A = (if y < x then k n ls st c z L F A else k t ls st c z L F A) := by
  rw [sin_at hd]; subst hn; obtain ⟨h1, h2⟩ := tgB ht; simp only [sop, pII, xif, h1, h2, and_self, true_and]
theorem n_goto {off : Int} {t : Nat} (hd : decode b pc = .ok (.goto off, 3)) (hn : pc + 3 = n) (ht : (decide (0 ≤ (pc : Int) + off) && (tg pc off == t)) = true) : sin M b o k Q pc ls st c z L F A = k t ls st c z L F A := by
  rw [sin_at hd]; subst hn; obtain ⟨h1, h2⟩ := tgB ht; simp only [sop, jp, h1, h2, true_and]
theorem n_getf {i a ci j m : Nat} {ns rf fi : Bool} (hd : decode b pc = .ok (.getfield i, 3)) (hn : pc + 3 = n) (hq : cpF o i = some (ci, j, m, ns, rf, fi)) : sin M b o k Q pc ls (.ref a :: st) c z L F A = ((a < 1000 ∧ L.getD a (0, 0) = (ci + 3, m)) ∧ k n ls (F a j :: st) c z L F A) := by
  rw [sin_at hd]; subst hn; simp [sop, pR, hq, and_assoc]
theorem n_putr {i a ci j m v : Nat} {ns fi : Bool} (hd : decode b pc = .ok (.putfield i, 3)) (hn : pc + 3 = n) (hq : cpF o i = some (ci, j, m, ns, true, fi)) (hi : (fi = false ∨ (ns = false ∧ o = ci ∧ (mY M).name = "<init>"))) : sin M b o k Q pc ls (.ref v :: .ref a :: st) c z L F A = ((a < 1000 ∧ L.getD a (0, 0) = (ci + 3, m)) ∧ k n ls st c z L (upF F a j (.ref v)) A) := by
  rw [sin_at hd]; subst hn; simp only [sop, pVR, hq, tyV]; simp only [hi, true_and, and_assoc]
theorem n_puti {i a ci j m : Nat} {v : Int32} {ns fi : Bool} (hd : decode b pc = .ok (.putfield i, 3)) (hn : pc + 3 = n) (hq : cpF o i = some (ci, j, m, ns, false, fi)) (hi : (fi = false ∨ (ns = false ∧ o = ci ∧ (mY M).name = "<init>"))) : sin M b o k Q pc ls (.int v :: .ref a :: st) c z L F A = ((a < 1000 ∧ L.getD a (0, 0) = (ci + 3, m)) ∧ k n ls st c z L (upF F a j (.int v)) A) := by
  rw [sin_at hd]; subst hn; simp only [sop, pVR, hq, tyV]; simp only [hi, true_and, and_assoc]
theorem n_newi {v : Int32} (hd : decode b pc = .ok (.newarray .int, 2)) (hn : pc + 2 = n) : sin M b o k Q pc ls (.int v :: st) c z L F A = ((L.length < 1000 ∧ ¬ v < 0 ∧ v.toNatClampNeg ≤ 100000 ∧ c + 1 ≤ mC M ∧ z + v.toNatClampNeg ≤ mS M) ∧ k n ls (.ref L.length :: st) (c + 1) (z + v.toNatClampNeg) (L ++ [(1, v.toNatClampNeg)]) F (upA A L.length fun _ => 0)) := by
  rw [sin_at hd]; subst hn; simp [sop, pI, and_assoc]
theorem n_newz {v : Int32} (hd : decode b pc = .ok (.newarray .boolean, 2)) (hn : pc + 2 = n) : sin M b o k Q pc ls (.int v :: st) c z L F A = ((L.length < 1000 ∧ ¬ v < 0 ∧ v.toNatClampNeg ≤ 100000 ∧ c + 1 ≤ mC M ∧ z + v.toNatClampNeg ≤ mS M) ∧ k n ls (.ref L.length :: st) (c + 1) (z + v.toNatClampNeg) (L ++ [(2, v.toNatClampNeg)]) F (upA A L.length fun _ => 0)) := by
  rw [sin_at hd]; subst hn; simp [sop, pI, and_assoc]
theorem n_new {i ci m : Nat} (hd : decode b pc = .ok (.new i, 3)) (hn : pc + 3 = n) (hq : cpC o i = some (ci, m)) : sin M b o k Q pc ls st c z L F A = ((L.length < 1000 ∧ c + 1 ≤ mC M ∧ z + m ≤ mS M) ∧ k n ls (.ref L.length :: st) (c + 1) (z + m) (L ++ [(ci + 3, m)]) (nwF F L.length (dfl ci)) A) := by
  rw [sin_at hd]; subst hn; simp [sop, hq, and_assoc]
theorem n_iast {x i : Int32} {a : Nat} (hd : decode b pc = .ok (.iastore, 1)) (hn : pc + 1 = n) : sin M b o k Q pc ls (.int x :: .int i :: .ref a :: st) c z L F A = ((a < 1000 ∧ (L.getD a (0, 0)).1 = 1 ∧ vp_in i (L.getD a (0, 0)).2) ∧ k n ls st c z L F (upA A a (upd (A a) i.toNatClampNeg x))) := by
  rw [sin_at hd]; subst hn; simp [sop, pIIR, and_assoc]
theorem n_iald {i : Int32} {a : Nat} (hd : decode b pc = .ok (.iaload, 1)) (hn : pc + 1 = n) (ha : a < 1000) : sin M b o k Q pc ls (.int i :: .ref a :: st) c z L F A = (((L.getD a (0, 0)).1 = 1 ∧ vp_in i (L.getD a (0, 0)).2) ∧ k n ls (.int (A a i.toNatClampNeg) :: st) c z L F A) := by
  rw [sin_at hd]; subst hn; simp only [sop, pIR, ald, if_pos ha, true_and]
  by_cases h : (L.getD a (0, 0)).1 = 1
  · rw [if_pos h]; simp only [rdA, h, true_and]
  · rw [if_neg h]; simp only [rdA, h, false_and]
theorem n_oini {i a : Nat} (hd : decode b pc = .ok (.invokespecial i, 3)) (hn : pc + 3 = n) (hq : cpB o i = some 3) (hv : 1 ≤ mV M) (hr : st.length ≤ 4) : sin M b o k Q pc ls (.ref a :: st) c z L F A = k n ls st c z L F A := by
  rw [sin_at hd]; subst hn; simp [sop, hq, hv, hr, pR]
theorem n_fill {i : Nat} {T : xM} {a0 a1 : Value} (hd : decode b pc = .ok (.invokestatic i, 3)) (hn : pc + 3 = n) (hq : cpM o i = some (1, 2, T)) (hb : cpB o i = none) (hl : mV T + 1 ≤ mV M ∧ mC T = 0 ∧ mS T = 0) (hr : st.length ≤ 4) : sin M b o k Q pc ls (a1 :: a0 :: st) c z L F A = ((c ≤ mC M ∧ z ≤ mS M) ∧ CallOk T [a0, a1] L F A fun v L F A => k n ls (v.toList ++ st) c z L F A) := by
  rw [sin_at hd]; subst hn; simp [sop, hb, hq, sCl, hl, stN, hr, and_assoc]
theorem n_ctor0 {i kk a : Nat} {T : xM} (hd : decode b pc = .ok (.invokespecial i, 3)) (hn : pc + 3 = n) (hq : cpM o i = some (kk, 0, T)) (hk : kk = 2 ∨ kk = 5) (hb : cpB o i = none) (hl : mV T + 1 ≤ mV M) (ht : mT T = none) (hr : st.length ≤ 4) : sin M b o k Q pc ls (.ref a :: st) c z L F A = ((c + mC T ≤ mC M ∧ z + mS T ≤ mS M) ∧ CallOk T [.ref a] L F A fun v L F A => k n ls (v.toList ++ st) (c + mC T) (z + mS T) L F A) := by
  rw [sin_at hd]; subst hn; rcases hk with rfl | rfl <;> simp [sop, hb, hq, sCl, hl, ht, stN, hr, and_assoc]
theorem n_ctor1 {i kk a : Nat} {T : xM} {a0 : Value} (hd : decode b pc = .ok (.invokespecial i, 3)) (hn : pc + 3 = n) (hq : cpM o i = some (kk, 1, T)) (hk : kk = 2 ∨ kk = 5) (hb : cpB o i = none) (hl : mV T + 1 ≤ mV M) (ht : mT T = none) (hr : st.length ≤ 4) : sin M b o k Q pc ls (a0 :: .ref a :: st) c z L F A = ((c + mC T ≤ mC M ∧ z + mS T ≤ mS M) ∧ CallOk T [.ref a, a0] L F A fun v L F A => k n ls (v.toList ++ st) (c + mC T) (z + mS T) L F A) := by
  rw [sin_at hd]; subst hn; rcases hk with rfl | rfl <;> simp [sop, hb, hq, sCl, hl, ht, stN, hr, and_assoc]
theorem n_ctor2 {i kk a : Nat} {T : xM} {a0 a1 : Value} (hd : decode b pc = .ok (.invokespecial i, 3)) (hn : pc + 3 = n) (hq : cpM o i = some (kk, 2, T)) (hk : kk = 2 ∨ kk = 5) (hb : cpB o i = none) (hl : mV T + 1 ≤ mV M) (ht : mT T = none) (hr : st.length ≤ 4) : sin M b o k Q pc ls (a1 :: a0 :: .ref a :: st) c z L F A = ((c + mC T ≤ mC M ∧ z + mS T ≤ mS M) ∧ CallOk T [.ref a, a0, a1] L F A fun v L F A => k n ls (v.toList ++ st) (c + mC T) (z + mS T) L F A) := by
  rw [sin_at hd]; subst hn; rcases hk with rfl | rfl <;> simp [sop, hb, hq, sCl, hl, ht, stN, hr, and_assoc]
theorem n_ctor3 {i kk a : Nat} {T : xM} {a0 a1 a2 : Value} (hd : decode b pc = .ok (.invokespecial i, 3)) (hn : pc + 3 = n) (hq : cpM o i = some (kk, 3, T)) (hk : kk = 2 ∨ kk = 5) (hb : cpB o i = none) (hl : mV T + 1 ≤ mV M) (ht : mT T = none) (hr : st.length ≤ 4) : sin M b o k Q pc ls (a2 :: a1 :: a0 :: .ref a :: st) c z L F A = ((c + mC T ≤ mC M ∧ z + mS T ≤ mS M) ∧ CallOk T [.ref a, a0, a1, a2] L F A fun v L F A => k n ls (v.toList ++ st) (c + mC T) (z + mS T) L F A) := by
  rw [sin_at hd]; subst hn; rcases hk with rfl | rfl <;> simp [sop, hb, hq, sCl, hl, ht, stN, hr, and_assoc]
theorem n_ctor4 {i kk a : Nat} {T : xM} {a0 a1 a2 a3 : Value} (hd : decode b pc = .ok (.invokespecial i, 3)) (hn : pc + 3 = n) (hq : cpM o i = some (kk, 4, T)) (hk : kk = 2 ∨ kk = 5) (hb : cpB o i = none) (hl : mV T + 1 ≤ mV M) (ht : mT T = none) (hr : st.length ≤ 4) : sin M b o k Q pc ls (a3 :: a2 :: a1 :: a0 :: .ref a :: st) c z L F A = ((c + mC T ≤ mC M ∧ z + mS T ≤ mS M) ∧ CallOk T [.ref a, a0, a1, a2, a3] L F A fun v L F A => k n ls (v.toList ++ st) (c + mC T) (z + mS T) L F A) := by
  rw [sin_at hd]; subst hn; rcases hk with rfl | rfl <;> simp [sop, hb, hq, sCl, hl, ht, stN, hr, and_assoc]
theorem n_ctor5 {i kk a : Nat} {T : xM} {a0 a1 a2 a3 a4 : Value} (hd : decode b pc = .ok (.invokespecial i, 3)) (hn : pc + 3 = n) (hq : cpM o i = some (kk, 5, T)) (hk : kk = 2 ∨ kk = 5) (hb : cpB o i = none) (hl : mV T + 1 ≤ mV M) (ht : mT T = none) (hr : st.length ≤ 4) : sin M b o k Q pc ls (a4 :: a3 :: a2 :: a1 :: a0 :: .ref a :: st) c z L F A = ((c + mC T ≤ mC M ∧ z + mS T ≤ mS M) ∧ CallOk T [.ref a, a0, a1, a2, a3, a4] L F A fun v L F A => k n ls (v.toList ++ st) (c + mC T) (z + mS T) L F A) := by
  rw [sin_at hd]; subst hn; rcases hk with rfl | rfl <;> simp [sop, hb, hq, sCl, hl, ht, stN, hr, and_assoc]
theorem n_virt0 {i kk a : Nat} {T : xM} (hd : decode b pc = .ok (.invokevirtual i, 3)) (hn : pc + 3 = n) (hq : cpM o i = some (kk, 0, T)) (hk : kk = 0 ∨ kk = 3) (hl : mV T + 1 ≤ mV M ∧ mC T = 0 ∧ mS T = 0) (ha : a < 1000) (hr : st.length ≤ 4) : sin M b o k Q pc ls (.ref a :: st) c z L F A = ((c ≤ mC M ∧ z ≤ mS M ∧ (L.getD a (0, 0)).1 = mO T + 3) ∧ CallOk T [.ref a] L F A fun v L F A => k n ls (v.toList ++ st) c z L F A) := by
  rw [sin_at hd]; subst hn; rcases hk with rfl | rfl <;> simp [sop, hq, sCl, hl, stN, hr, ha, and_assoc]
theorem n_cpy {i a b2 : Nat} {s d m : Int32} (hd : decode b pc = .ok (.invokestatic i, 3)) (hn : pc + 3 = n) (hq : cpB o i = some 4) (hv : 1 ≤ mV M) (ha : a < 1000) (hr : st.length ≤ 1) : sin M b o k Q pc ls (.int m :: .int d :: .ref b2 :: .int s :: .ref a :: st) c z L F A = ((c ≤ mC M ∧ z ≤ mS M ∧ ¬ s < 0 ∧ ¬ d < 0 ∧ ¬ m < 0 ∧ b2 < 1000 ∧ (L.getD b2 (0, 0)).1 = 1 ∧ d.toNatClampNeg + m.toNatClampNeg ≤ (L.getD b2 (0, 0)).2 ∧ (L.getD a (0, 0)).1 = 1 ∧ s.toNatClampNeg + m.toNatClampNeg ≤ (L.getD a (0, 0)).2) ∧ k n ls st c z L F (upA A b2 (va_cpy (A a) (A b2) s.toNatClampNeg d.toNatClampNeg m.toNatClampNeg))) := by
  rw [sin_at hd]; subst hn; simp only [sop, hq, hv, pCpy, ald, if_pos ha, true_and]
  have h13 : a ≠ 1300 := by omega
  by_cases h : (L.getD a (0, 0)).1 = 1
  · rw [if_pos h]; simp only [h, hr, h13, ne_eq, not_false_eq_true, true_and, and_assoc]
  · rw [if_neg h]; simp only [h, false_and, and_false]
theorem n_ireti {x : Int32} (hd : decode b pc = .ok (.ireturn, 1)) (hn : pc + 1 = n) : sin M b o k Q pc ls [.int x] c z L F A = (c ≤ mC M ∧ z ≤ mS M ∧ rOk M x ∧ Q (some (.int x)) L F A) := by
  rw [sin_at hd]; subst hn; simp [sop, pI]
theorem n_ret (hd : decode b pc = .ok (.return_, 1)) (hn : pc + 1 = n) (hT : mT M = none) : sin M b o k Q pc ls [] c z L F A = (c ≤ mC M ∧ z ≤ mS M ∧ Q none L F A) := by
  rw [sin_at hd]; subst hn; simp [sop, hT]
end E1
