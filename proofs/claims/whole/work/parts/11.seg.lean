-- contracts and the walk of a method as one proposition
def mW (M : xM) : List Cond := .code (mY M) (mB M) (mN M) (mT M) :: lw_g
def mR (M : xM) : Room := { frames := mV M, cells := mC M, slots := mS M, locals := 37 * mV M }
def mQ (g : xG) (Q : xQ) : Array Value → State → Outcome → State → Prop := fun _ st o t => (∃ (r : Option Value) (L : xL) (F : xF) (A : xA), o = .returned (r.map (gV g)) ∧ Q r L F A ∧ gH g L F A t.heap) ∧ va_F (gR g) st t
def mP (g : xG) (as : List Value) (L : xL) (F : xF) (A : xA) : Array Value → State → Prop := fun v U => v = (as.map (gV g)).toArray ∧ gH g L F A U.heap ∧ va_K g.1 vwCl (gT g) U ∧ gK g U U.heap
def CallOk (M : xM) (as : List Value) (L : xL) (F : xF) (A : xA) (Q : xQ) : Prop := ∀ (l : Launch) (g : xG), Met l (mY M) (mW M) (mR M) (mP g as L F A) (mQ g Q) (mC M) (mS M) (gR g)
def Cx (M : xM) (p : Program) (s : State) (m : MethodId) (args : Array Value) (meth : Method) (cd : Code) (g : xG) : Prop :=
  p.tables.exec = Jvm.exec ∧ cd.code = mB M ∧ cd.maxLocals = mN M ∧ s.vm.findClass (xO (mO M)) = some m.cls ∧ (∀ w ∈ lw_ok, w.before args s = true) ∧ meth.sig.returnType = mT M ∧ meth.locks = false ∧ meth.name = (mY M).name ∧ va_K g.1 vwCl (gT g) s ∧ gK g s s.heap ∧ g.2.2.2.1 ≤ s.heap.size ∧
  (∀ n f, mX M = some (n, f) → va_X (gA g 1300) n f s s.heap ∧ gA g 1300 < s.heap.size ∧ ¬ gR g (gA g 1300))
def rOk (M : xM) (v : Int32) : Prop := ∃ ty, mT M = some ty ∧ narrow ty (.int v) = .int v
def Rt (M : xM) (p : Program) (l : Launch) (e : Env) (s : State) (m : MethodId) (args : Array Value) (below : List Frame) (meth : Method) (cd : Code) (g : xG) (QS : State → Prop) (Q : xQ) : Prop :=
  ∀ (pc : Nat) (sl : Array Slot) (r : Option Value) (L : xL) (F : xF) (A : xA) (H : Heap) (locs : List Loc), Q r L F A → gH g L F A H → va_S (gR g) s.heap H locs →
    ((∃ v, r = some (.int v) ∧ decode (mB M) pc = .ok (.ireturn, 1) ∧ rOk M v) ∨ (r = none ∧ decode (mB M) pc = .ok (.return_, 1) ∧ mT M = none)) →
    W p l e (mR M) s m args below meth cd H locs (mC M) (mS M) QS (F0 m pc sl ((r.map (gV g)).toList))
def lR (g : xG) (n : Nat) (sl : Array Slot) (ls : xS) : Prop := sl.size = n ∧ lv_wf sl ∧ ls.length ≤ n ∧ ∀ (i : Nat) (v : Value), ls[i]? = some (some v) → sl[i]? = some (.val (gV g v))
def Ok (M : xM) (pc : Nat) (ls : xS) (st : List Value) (c z : Nat) (L : xL) (F : xF) (A : xA) (Q : xQ) : Prop :=
  ∀ (p : Program) (l : Launch) (e : Env) (s : State) (m : MethodId) (args : Array Value) (below : List Frame) (meth : Method) (cd : Code) (g : xG) (QS : State → Prop) (H : Heap) (locs : List Loc) (sl : Array Slot),
    Cx M p s m args meth cd g → Rt M p l e s m args below meth cd g QS Q → gH g L F A H → va_S (gR g) s.heap H locs → lR g (mN M) sl ls →
    W p l e (mR M) s m args below meth cd H locs c z QS (F0 m pc sl (st.map (gV g)))
-- the top of the stack
def pI (st : List Value) (f : Int32 → List Value → Prop) : Prop := match st with
  | .int x :: r => f x r
  | _ => False
def pII (st : List Value) (f : Int32 → Int32 → List Value → Prop) : Prop := match st with
  | .int y :: .int x :: r => f x y r
  | _ => False
def pJ (st : List Value) (f : Int64 → List Value → Prop) : Prop := match st with
  | .long x :: r => f x r
  | _ => False
def pJJ (st : List Value) (f : Int64 → Int64 → List Value → Prop) : Prop := match st with
  | .long y :: .long x :: r => f x y r
  | _ => False
def pIJ (st : List Value) (f : Int64 → Int32 → List Value → Prop) : Prop := match st with
  | .int y :: .long x :: r => f x y r
  | _ => False
def pR (st : List Value) (f : Nat → List Value → Prop) : Prop := match st with
  | .ref a :: r => f a r
  | _ => False
def pIR (st : List Value) (f : Int32 → Nat → List Value → Prop) : Prop := match st with
  | .int i :: .ref a :: r => f i a r
  | _ => False
def pIIR (st : List Value) (f : Int32 → Int32 → Nat → List Value → Prop) : Prop := match st with
  | .int x :: .int i :: .ref a :: r => f x i a r
  | _ => False
def pVR (st : List Value) (f : Value → Nat → List Value → Prop) : Prop := match st with
  | v :: .ref a :: r => f v a r
  | _ => False
def pV (st : List Value) (f : Value → List Value → Prop) : Prop := match st with
  | v :: r => f v r
  | _ => False
def pVV (st : List Value) (f : Value → Value → List Value → Prop) : Prop := match st with
  | v :: w :: r => f v w r
  | _ => False
def pCpy (st : List Value) (f : Nat → Int32 → Nat → Int32 → Int32 → List Value → Prop) : Prop := match st with
  | .int n :: .int d :: .ref b :: .int s :: .ref a :: r => f a s b d n r
  | _ => False
theorem pI_ok {st : List Value} {f : Int32 → List Value → Prop} (h : pI st f) : ∃ x r, st = .int x :: r ∧ f x r := by
  unfold pI at h; split at h
  · exact ⟨_, _, rfl, h⟩
  · exact h.elim
theorem pII_ok {st : List Value} {f : Int32 → Int32 → List Value → Prop} (h : pII st f) : ∃ x y r, st = .int y :: .int x :: r ∧ f x y r := by
  unfold pII at h; split at h
  · exact ⟨_, _, _, rfl, h⟩
  · exact h.elim
theorem pJ_ok {st : List Value} {f : Int64 → List Value → Prop} (h : pJ st f) : ∃ x r, st = .long x :: r ∧ f x r := by
  unfold pJ at h; split at h
  · exact ⟨_, _, rfl, h⟩
  · exact h.elim
theorem pJJ_ok {st : List Value} {f : Int64 → Int64 → List Value → Prop} (h : pJJ st f) : ∃ x y r, st = .long y :: .long x :: r ∧ f x y r := by
  unfold pJJ at h; split at h
  · exact ⟨_, _, _, rfl, h⟩
  · exact h.elim
theorem pIJ_ok {st : List Value} {f : Int64 → Int32 → List Value → Prop} (h : pIJ st f) : ∃ x y r, st = .int y :: .long x :: r ∧ f x y r := by
  unfold pIJ at h; split at h
  · exact ⟨_, _, _, rfl, h⟩
  · exact h.elim
theorem pR_ok {st : List Value} {f : Nat → List Value → Prop} (h : pR st f) : ∃ (a : Nat) (r : List Value), st = .ref a :: r ∧ f a r := by
  unfold pR at h; split at h
  · exact ⟨_, _, rfl, h⟩
  · exact h.elim
theorem pIR_ok {st : List Value} {f : Int32 → Nat → List Value → Prop} (h : pIR st f) : ∃ (i : Int32) (a : Nat) (r : List Value), st = .int i :: .ref a :: r ∧ f i a r := by
  unfold pIR at h; split at h
  · exact ⟨_, _, _, rfl, h⟩
  · exact h.elim
theorem pIIR_ok {st : List Value} {f : Int32 → Int32 → Nat → List Value → Prop} (h : pIIR st f) : ∃ (x i : Int32) (a : Nat) (r : List Value), st = .int x :: .int i :: .ref a :: r ∧ f x i a r := by
  unfold pIIR at h; split at h
  · exact ⟨_, _, _, _, rfl, h⟩
  · exact h.elim
theorem pVR_ok {st : List Value} {f : Value → Nat → List Value → Prop} (h : pVR st f) : ∃ (v : Value) (a : Nat) (r : List Value), st = v :: .ref a :: r ∧ f v a r := by
  unfold pVR at h; split at h
  · exact ⟨_, _, _, rfl, h⟩
  · exact h.elim
theorem pV_ok {st : List Value} {f : Value → List Value → Prop} (h : pV st f) : ∃ v r, st = v :: r ∧ f v r := by
  unfold pV at h; split at h
  · exact ⟨_, _, rfl, h⟩
  · exact h.elim
theorem pVV_ok {st : List Value} {f : Value → Value → List Value → Prop} (h : pVV st f) : ∃ v w r, st = v :: w :: r ∧ f v w r := by
  unfold pVV at h; split at h
  · exact ⟨_, _, _, rfl, h⟩
  · exact h.elim
theorem pCpy_ok {st : List Value} {f : Nat → Int32 → Nat → Int32 → Int32 → List Value → Prop} (h : pCpy st f) : ∃ (a : Nat) (s : Int32) (b : Nat) (d n : Int32) (r : List Value), st = .int n :: .int d :: .ref b :: .int s :: .ref a :: r ∧ f a s b d n r := by
  unfold pCpy at h; split at h
  · exact ⟨_, _, _, _, _, _, rfl, h⟩
  · exact h.elim
-- the locals
def lI (ls : xS) (i : Nat) (f : Int32 → Prop) : Prop := match ls[i]? with
  | some (some (.int x)) => f x
  | _ => False
def lJ (ls : xS) (i : Nat) (f : Int64 → Prop) : Prop := match ls[i]? with
  | some (some (.long x)) => f x
  | _ => False
def lA (ls : xS) (i : Nat) (f : Nat → Prop) : Prop := match ls[i]? with
  | some (some (.ref x)) => f x
  | _ => False
theorem lI_ok {ls : xS} {i : Nat} {f : Int32 → Prop} (h : lI ls i f) : ∃ x, ls[i]? = some (some (.int x)) ∧ f x := by
  unfold lI at h; split at h
  · exact ⟨_, by assumption, h⟩
  · exact h.elim
theorem lJ_ok {ls : xS} {i : Nat} {f : Int64 → Prop} (h : lJ ls i f) : ∃ x, ls[i]? = some (some (.long x)) ∧ f x := by
  unfold lJ at h; split at h
  · exact ⟨_, by assumption, h⟩
  · exact h.elim
theorem lA_ok {ls : xS} {i : Nat} {f : Nat → Prop} (h : lA ls i f) : ∃ x, ls[i]? = some (some (.ref x)) ∧ f x := by
  unfold lA at h; split at h
  · exact ⟨_, by assumption, h⟩
  · exact h.elim
def lB (ls : xS) (i : Nat) : Bool := match i with
  | 0 => true
  | j + 1 => match ls[j]? with
    | some (some (.long _)) => false
    | some (some (.double _)) => false
    | _ => true
def lS (ls : xS) (i : Nat) (v : Value) (f : xS → Prop) : Prop := i < ls.length ∧ lB ls i = true ∧ f (ls.set i (some v))
def lD (ls : xS) (i : Nat) (v : Value) (f : xS → Prop) : Prop := i + 1 < ls.length ∧ lB ls i = true ∧ f ((ls.set i (some v)).set (i + 1) none)
-- jumps
def tg (pc : Nat) (off : Int) : Nat := ((pc : Int) + off).toNat
def jp (pc : Nat) (off : Int) (f : Nat → Prop) : Prop := 0 ≤ (pc : Int) + off ∧ f (tg pc off)
def xif (cn : ClassFile.Cond) (x y : Int32) (a b : Prop) : Prop := match cn with
  | .eq => if x = y then a else b
  | .ne => if x = y then b else a
  | .lt => if x < y then a else b
  | .ge => if x < y then b else a
  | .gt => if y < x then a else b
  | .le => if y < x then b else a
def swt (x : Int32) (pc : Nat) (f : Nat → Prop) (d : Int) : List Int → Int → Prop
  | [], _ => jp pc d f
  | o :: r, lo => if x = Int32.ofInt lo then jp pc o f else swt x pc f d r (lo + 1)
-- rows of ints that may be read
def ald (M : xM) (L : xL) (A : xA) (a t : Nat) : Option (Nat × (Nat → Int32)) :=
  if a < 1000 then (if (L.getD a (0, 0)).1 = t then some ((L.getD a (0, 0)).2, A a) else none)
  else if t = 1 then (if a = 1300 then mX M else if 1200 ≤ a ∧ a < 1203 then some ((kX (a - 1200)).length, fun j => (kX (a - 1200)).getD j 0) else none)
  else if t = 3 then (if 1100 ≤ a ∧ a < 1113 then some (kLen.getD (a - 1100) 0, fun j => (kByt.getD (a - 1100) []).getD j 0) else none) else none
def rdA (q : Option (Nat × (Nat → Int32))) (i : Int32) (f : Int32 → Prop) : Prop := match q with
  | some (n, h) => vp_in i n ∧ f (h i.toNatClampNeg)
  | none => False
def lnA (q : Option (Nat × (Nat → Int32))) (f : Int32 → Prop) : Prop := match q with
  | some (n, _) => f (Int32.ofNat n)
  | none => False
def tyV (rf : Bool) (v : Value) : Prop := match v with
  | .int _ => rf = false
  | .ref _ => rf = true
  | _ => False
def stN (n : Nat) (st : List Value) (f : List Value → List Value → Prop) : Prop := n ≤ st.length ∧ ((st.drop n).length ≤ 4 ∨ ((st.drop n).length ≤ 8 ∧ ∀ v ∈ st.drop n, v.category = 1)) ∧ f (st.take n).reverse (st.drop n)
def sCl (M : xM) (k : xK) (sp : Nat) (pc : Nat) (ls : xS) (st : List Value) (c z : Nat) (L : xL) (F : xF) (A : xA) (q : Option (Nat × Nat × xM)) : Prop := match q with
  | some (kd, n, T) => mV T + 1 ≤ mV M ∧ c + mC T ≤ mC M ∧ z + mS T ≤ mS M ∧ (match kd with
    | 0 => sp = 0 ∧ stN (n + 1) st fun as r => (∃ b, as.head? = some (.ref b) ∧ b < 1000 ∧ (L.getD b (0, 0)).1 = mO T + 3) ∧ CallOk T as L F A fun v L F A => k (pc + 3) ls (v.toList ++ r) (c + mC T) (z + mS T) L F A
    | 1 => sp = 1 ∧ stN n st fun as r => CallOk T as L F A fun v L F A => k (pc + 3) ls (v.toList ++ r) (c + mC T) (z + mS T) L F A
    | 2 => sp = 2 ∧ stN (n + 1) st fun as r => mT T = none ∧ (∃ b, as.head? = some (.ref b)) ∧ CallOk T as L F A fun v L F A => k (pc + 3) ls (v.toList ++ r) (c + mC T) (z + mS T) L F A
    | 3 => sp = 0 ∧ stN (n + 1) st fun as r => (∃ b, as.head? = some (.ref b) ∧ b < 1000 ∧ (L.getD b (0, 0)).1 = mO T + 3) ∧ CallOk T as L F A fun v L F A => k (pc + 3) ls (v.toList ++ r) (c + mC T) (z + mS T) L F A
    | 4 => sp = 1 ∧ stN n st fun as r => CallOk T as L F A fun v L F A => k (pc + 3) ls (v.toList ++ r) (c + mC T) (z + mS T) L F A
    | 5 => sp = 2 ∧ stN (n + 1) st fun as r => mT T = none ∧ (∃ b, as.head? = some (.ref b)) ∧ CallOk T as L F A fun v L F A => k (pc + 3) ls (v.toList ++ r) (c + mC T) (z + mS T) L F A
    | 6 => sp = 0 ∧ stN (n + 1) st fun as r => (∃ b, as.head? = some (.ref b) ∧ 1000 ≤ b ∧ b < 1013) ∧ CallOk T as L F A fun v L F A => k (pc + 3) ls (v.toList ++ r) (c + mC T) (z + mS T) L F A
    | _ => False)
  | none => False
def sop (M : xM) (o : Nat) (k : xK) (Q : xQ) (ins : Instr) (len pc : Nat) (ls : xS) (st : List Value) (c z : Nat) (L : xL) (F : xF) (A : xA) : Prop := match ins with
  | .iconst n => len = 1 ∧ k (pc + 1) ls (.int (Int32.ofInt n) :: st) c z L F A
  | .bipush n => len = 2 ∧ k (pc + 2) ls (.int (Int8.ofInt n).toInt32 :: st) c z L F A
  | .sipush n => len = 3 ∧ k (pc + 3) ls (.int (Int16.ofInt n).toInt32 :: st) c z L F A
  | .lconst n => len = 1 ∧ k (pc + 1) ls (.long (Int64.ofNat n.val) :: st) c z L F A
  | .ldc i => len = 2 ∧ (match cpI o i with
    | some v => k (pc + 2) ls (.int v :: st) c z L F A
    | none => match cpT o i with
      | some j => k (pc + 2) ls (.ref (1000 + j) :: st) c z L F A
      | none => False)
  | .ldc_w i => len = 3 ∧ (match cpI o i with
    | some v => k (pc + 3) ls (.int v :: st) c z L F A
    | none => False)
  | .ldc2_w i => len = 3 ∧ (match cpJ o i with
    | some v => k (pc + 3) ls (.long v :: st) c z L F A
    | none => False)
  | .iload i => len = 2 ∧ lI ls i fun x => k (pc + 2) ls (.int x :: st) c z L F A
  | .iload_n i => len = 1 ∧ lI ls i.val fun x => k (pc + 1) ls (.int x :: st) c z L F A
  | .lload i => len = 2 ∧ lJ ls i fun x => k (pc + 2) ls (.long x :: st) c z L F A
  | .lload_n i => len = 1 ∧ lJ ls i.val fun x => k (pc + 1) ls (.long x :: st) c z L F A
  | .aload i => len = 2 ∧ lA ls i fun x => k (pc + 2) ls (.ref x :: st) c z L F A
  | .aload_n i => len = 1 ∧ lA ls i.val fun x => k (pc + 1) ls (.ref x :: st) c z L F A
  | .istore i => len = 2 ∧ pI st fun x st => lS ls i (.int x) fun ls => k (pc + 2) ls st c z L F A
  | .istore_n i => len = 1 ∧ pI st fun x st => lS ls i.val (.int x) fun ls => k (pc + 1) ls st c z L F A
  | .lstore i => len = 2 ∧ pJ st fun x st => lD ls i (.long x) fun ls => k (pc + 2) ls st c z L F A
  | .lstore_n i => len = 1 ∧ pJ st fun x st => lD ls i.val (.long x) fun ls => k (pc + 1) ls st c z L F A
  | .astore i => len = 2 ∧ pR st fun x st => lS ls i (.ref x) fun ls => k (pc + 2) ls st c z L F A
  | .astore_n i => len = 1 ∧ pR st fun x st => lS ls i.val (.ref x) fun ls => k (pc + 1) ls st c z L F A
  | .iinc i n => len = 3 ∧ lI ls i fun x => lS ls i (.int (x + Int32.ofInt n)) fun ls => k (pc + 3) ls st c z L F A
  | .iadd => len = 1 ∧ pII st fun x y st => k (pc + 1) ls (.int (x + y) :: st) c z L F A
  | .isub => len = 1 ∧ pII st fun x y st => k (pc + 1) ls (.int (x - y) :: st) c z L F A
  | .imul => len = 1 ∧ pII st fun x y st => k (pc + 1) ls (.int (x * y) :: st) c z L F A
  | .iand => len = 1 ∧ pII st fun x y st => k (pc + 1) ls (.int (x &&& y) :: st) c z L F A
  | .ior => len = 1 ∧ pII st fun x y st => k (pc + 1) ls (.int (x ||| y) :: st) c z L F A
  | .ixor => len = 1 ∧ pII st fun x y st => k (pc + 1) ls (.int (x ^^^ y) :: st) c z L F A
  | .ishl => len = 1 ∧ pII st fun x y st => k (pc + 1) ls (.int (x <<< (y &&& 31)) :: st) c z L F A
  | .ishr => len = 1 ∧ pII st fun x y st => k (pc + 1) ls (.int (x >>> (y &&& 31)) :: st) c z L F A
  | .idiv => len = 1 ∧ pII st fun x y st => ¬ y = 0 ∧ k (pc + 1) ls (.int (x / y) :: st) c z L F A
  | .irem => len = 1 ∧ pII st fun x y st => ¬ y = 0 ∧ k (pc + 1) ls (.int (x - x / y * y) :: st) c z L F A
  | .ladd => len = 1 ∧ pJJ st fun x y st => k (pc + 1) ls (.long (x + y) :: st) c z L F A
  | .lmul => len = 1 ∧ pJJ st fun x y st => k (pc + 1) ls (.long (x * y) :: st) c z L F A
  | .land => len = 1 ∧ pJJ st fun x y st => k (pc + 1) ls (.long (x &&& y) :: st) c z L F A
  | .lor => len = 1 ∧ pJJ st fun x y st => k (pc + 1) ls (.long (x ||| y) :: st) c z L F A
  | .ldiv => len = 1 ∧ pJJ st fun x y st => ¬ y = 0 ∧ k (pc + 1) ls (.long (x / y) :: st) c z L F A
  | .lcmp => len = 1 ∧ pJJ st fun x y st => k (pc + 1) ls (.int (lg_cmp x y) :: st) c z L F A
  | .lshl => len = 1 ∧ pIJ st fun x y st => k (pc + 1) ls (.long (x <<< (y.toInt64 &&& 63)) :: st) c z L F A
  | .lshr => len = 1 ∧ pIJ st fun x y st => k (pc + 1) ls (.long (x >>> (y.toInt64 &&& 63)) :: st) c z L F A
  | .i2l => len = 1 ∧ pI st fun x st => k (pc + 1) ls (.long x.toInt64 :: st) c z L F A
  | .l2i => len = 1 ∧ pJ st fun x st => k (pc + 1) ls (.int x.toInt32 :: st) c z L F A
  | .i2c => len = 1 ∧ pI st fun x st => k (pc + 1) ls (.int (x.toUInt32 % 65536).toInt32 :: st) c z L F A
  | .dup => len = 1 ∧ pV st fun v st => v.category = 1 ∧ k (pc + 1) ls (v :: v :: st) c z L F A
  | .pop => len = 1 ∧ pV st fun v st => v.category = 1 ∧ k (pc + 1) ls st c z L F A
  | .dup_x1 => len = 1 ∧ pVV st fun v w st => v.category = 1 ∧ w.category = 1 ∧ k (pc + 1) ls (v :: w :: v :: st) c z L F A
  | .dup2 => len = 1 ∧ pVV st fun v w st => v.category = 1 ∧ w.category = 1 ∧ k (pc + 1) ls (v :: w :: v :: w :: st) c z L F A
  | .ifCond cn off => (len = 3 ∧ 0 ≤ (pc : Int) + off) ∧ pI st fun x st => xif cn x 0 (k (tg pc off) ls st c z L F A) (k (pc + 3) ls st c z L F A)
  | .if_icmp cn off => (len = 3 ∧ 0 ≤ (pc : Int) + off) ∧ pII st fun x y st => xif cn x y (k (tg pc off) ls st c z L F A) (k (pc + 3) ls st c z L F A)
  | .goto off => len = 3 ∧ jp pc off fun t => k t ls st c z L F A
  | .tableswitch d lo hi offs => pI st fun x st => (-2147483648 ≤ lo ∧ hi ≤ 2147483647 ∧ (offs.toList.length : Int) = hi - lo + 1) ∧ swt x pc (fun t => k t ls st c z L F A) d offs.toList lo
  | .getfield i => len = 3 ∧ pR st fun a st => (match cpF o i with
    | some (ci, j, n, _, _, _) => a < 1000 ∧ L.getD a (0, 0) = (ci + 3, n) ∧ k (pc + 3) ls (F a j :: st) c z L F A
    | none => match cpU o i with
      | some u => 1000 ≤ a ∧ a < 1013 ∧ k (pc + 3) ls ((if u = 0 then .ref (a + 100) else .int 0) :: st) c z L F A
      | none => False)
  | .putfield i => len = 3 ∧ pVR st fun v a st => (match cpF o i with
    | some (ci, j, n, ns, rf, fi) => a < 1000 ∧ L.getD a (0, 0) = (ci + 3, n) ∧ tyV rf v ∧ (fi = false ∨ (ns = false ∧ o = ci ∧ (mY M).name = "<init>")) ∧ k (pc + 3) ls st c z L (upF F a j v) A
    | none => False)
  | .getstatic i => len = 3 ∧ (match cpG o i with
    | some (u, _) => k (pc + 3) ls ((if u = 9 then .int 1 else .ref (1200 + u)) :: st) c z L F A
    | none => False)
  | .iaload => len = 1 ∧ pIR st fun i a st => rdA (ald M L A a 1) i fun x => k (pc + 1) ls (.int x :: st) c z L F A
  | .baload => len = 1 ∧ pIR st fun i a st => rdA (ald M L A a (if a < 1000 then 2 else 3)) i fun x => k (pc + 1) ls (.int x :: st) c z L F A
  | .iastore => len = 1 ∧ pIIR st fun x i a st => a < 1000 ∧ (L.getD a (0, 0)).1 = 1 ∧ vp_in i (L.getD a (0, 0)).2 ∧ k (pc + 1) ls st c z L F (upA A a (upd (A a) i.toNatClampNeg x))
  | .bastore => len = 1 ∧ pIIR st fun x i a st => a < 1000 ∧ (L.getD a (0, 0)).1 = 2 ∧ vp_in i (L.getD a (0, 0)).2 ∧ k (pc + 1) ls st c z L F (upA A a (upd (A a) i.toNatClampNeg (vp_nar .boolean x)))
  | .arraylength => len = 1 ∧ pR st fun a st => lnA (ald M L A a (if a < 1000 then 1 else if a < 1200 then 3 else 1)) fun x => k (pc + 1) ls (.int x :: st) c z L F A
  | .newarray t => len = 2 ∧ pI st fun n st => L.length < 1000 ∧ ¬ n < 0 ∧ n.toNatClampNeg ≤ 100000 ∧ c + 1 ≤ mC M ∧ z + n.toNatClampNeg ≤ mS M ∧ (t = .int ∨ t = .boolean) ∧
      k (pc + 2) ls (.ref L.length :: st) (c + 1) (z + n.toNatClampNeg) (L ++ [(if t = .int then 1 else 2, n.toNatClampNeg)]) F (upA A L.length fun _ => 0)
  | .new i => len = 3 ∧ (match cpC o i with
    | some (ci, n) => L.length < 1000 ∧ c + 1 ≤ mC M ∧ z + n ≤ mS M ∧ k (pc + 3) ls (.ref L.length :: st) (c + 1) (z + n) (L ++ [(ci + 3, n)]) (nwF F L.length (dfl ci)) A
    | none => False)
  | .invokevirtual i => len = 3 ∧ sCl M k 0 pc ls st c z L F A (cpM o i)
  | .invokestatic i => len = 3 ∧ (match cpB o i with
    | some u => (1 ≤ mV M ∧ c ≤ mC M ∧ z ≤ mS M) ∧ (match u with
      | 0 => pII st fun x y r => r.length ≤ 4 ∧ k (pc + 3) ls (.int (if y < x then y else x) :: r) c z L F A
      | 1 => pII st fun x y r => r.length ≤ 4 ∧ k (pc + 3) ls (.int (if x < y then y else x) :: r) c z L F A
      | 2 => pI st fun x r => r.length ≤ 4 ∧ k (pc + 3) ls (.int (if 0 ≤ x then x else 0 - x) :: r) c z L F A
      | 4 => pCpy st fun a s b d n r => r.length ≤ 1 ∧ ¬ s < 0 ∧ ¬ d < 0 ∧ ¬ n < 0 ∧ b < 1000 ∧ (L.getD b (0, 0)).1 = 1 ∧ d.toNatClampNeg + n.toNatClampNeg ≤ (L.getD b (0, 0)).2 ∧ (match ald M L A a 1 with
        | some (m, h) => a ≠ 1300 ∧ s.toNatClampNeg + n.toNatClampNeg ≤ m ∧ k (pc + 3) ls r c z L F (upA A b (va_cpy h (A b) s.toNatClampNeg d.toNatClampNeg n.toNatClampNeg))
        | none => False)
      | _ => False)
    | none => sCl M k 1 pc ls st c z L F A (cpM o i))
  | .invokespecial i => len = 3 ∧ (match cpB o i with
    | some u => u = 3 ∧ 1 ≤ mV M ∧ pR st fun _ r => r.length ≤ 4 ∧ k (pc + 3) ls r c z L F A
    | none => sCl M k 2 pc ls st c z L F A (cpM o i))
  | .ireturn => len = 1 ∧ pI st fun v r => r = [] ∧ c ≤ mC M ∧ z ≤ mS M ∧ rOk M v ∧ Q (some (.int v)) L F A
  | .return_ => len = 1 ∧ st = [] ∧ c ≤ mC M ∧ z ≤ mS M ∧ mT M = none ∧ Q none L F A
  | _ => False
def sin (M : xM) (b : ByteArray) (o : Nat) (k : xK) (Q : xQ) (pc : Nat) (ls : xS) (st : List Value) (c z : Nat) (L : xL) (F : xF) (A : xA) : Prop := match decode b pc with
  | .ok (ins, len) => sop M o k Q ins len pc ls st c z L F A
  | .error _ => False
def seg (M : xM) (b : ByteArray) (o : Nat) (K : Nat → Option xC) (Q : xQ) : Nat → xK
  | 0 => fun _ _ _ _ _ _ _ _ => False
  | n + 1 => fun pc ls st c z L F A => match K pc with
    | some P => P ls st c z L F A
    | none => sin M b o (seg M b o K Q n) Q pc ls st c z L F A
