-- the second walk: behind the constructors, one state S (rows by their cells' numbers, int fields by cell and slot)
abbrev xP : Type := Int32 → xA → Prop
abbrev xW : Type := Nat → xS → List Value → xA → Prop
def Sr (F : xF) (A S : xA) : Prop := (∀ a, 3 ≤ (Ld a).1 → F a = Fc S a) ∧ ∀ a, (Ld a).1 ≤ 2 → A a = S a
def QI (f : xP) : xQ := fun v L F A => ∃ (x : Int32) (S : xA), v = some (.int x) ∧ L = L0 ∧ Sr F A S ∧ f x S
def QV (f : xA → Prop) : xQ := fun v L F A => ∃ (S : xA), v = none ∧ L = L0 ∧ Sr F A S ∧ f S
def CI (T : xM) (as : List Value) (S : xA) (f : xP) : Prop := CallOk T as L0 (Fc S) S (QI f)
def CV (T : xM) (as : List Value) (S : xA) (f : xA → Prop) : Prop := CallOk T as L0 (Fc S) S (QV f)
def Qm (M : xM) (fi : xP) (fv : xA → Prop) : xQ := match mT M with
  | some _ => QI fi
  | none => QV fv
def Ok2 (M : xM) (pc : Nat) (ls : xS) (st : List Value) (S : xA) (fi : xP) (fv : xA → Prop) : Prop := ∀ (F : xF) (A : xA), Sr F A S → Ok M pc ls st 0 0 L0 F A (Qm M fi fv)
def sC2 (M : xM) (k : xW) (sp pc : Nat) (ls : xS) (st : List Value) (S : xA) (q : Option (Nat × Nat × xM)) : Prop := match q with
  | some (kd, n, T) => (mV T + 1 ≤ mV M ∧ mC T = 0 ∧ mS T = 0) ∧ (match kd with
    | 0 => sp = 0 ∧ stN (n + 1) st fun as r => (∃ b, as.head? = some (.ref b) ∧ b < 1000 ∧ (Ld b).1 = mO T + 3) ∧ (match mT T with
      | some _ => CI T as S fun x S => k (pc + 3) ls (.int x :: r) S
      | none => CV T as S fun S => k (pc + 3) ls r S)
    | 1 => sp = 1 ∧ stN n st fun as r => (match mT T with
      | some _ => CI T as S fun x S => k (pc + 3) ls (.int x :: r) S
      | none => CV T as S fun S => k (pc + 3) ls r S)
    | 3 => sp = 0 ∧ stN (n + 1) st fun as r => (∃ b, as.head? = some (.ref b) ∧ b < 1000 ∧ (Ld b).1 = mO T + 3) ∧ (match mT T with
      | some _ => CI T as S fun x S => k (pc + 3) ls (.int x :: r) S
      | none => CV T as S fun S => k (pc + 3) ls r S)
    | 4 => sp = 1 ∧ stN n st fun as r => (match mT T with
      | some _ => CI T as S fun x S => k (pc + 3) ls (.int x :: r) S
      | none => CV T as S fun S => k (pc + 3) ls r S)
    | 6 => sp = 0 ∧ stN (n + 1) st fun as r => (∃ b, as.head? = some (.ref b) ∧ 1000 ≤ b ∧ b < 1013) ∧ (match mT T with
      | some _ => CI T as S fun x S => k (pc + 3) ls (.int x :: r) S
      | none => CV T as S fun S => k (pc + 3) ls r S)
    | _ => False)
  | none => False
def s2 (M : xM) (o : Nat) (k : xW) (fi : xP) (fv : xA → Prop) (ins : Instr) (len pc : Nat) (ls : xS) (st : List Value) (S : xA) : Prop := match ins with
  | .iconst n => len = 1 ∧ k (pc + 1) ls (.int (Int32.ofInt n) :: st) S
  | .bipush n => len = 2 ∧ k (pc + 2) ls (.int (Int8.ofInt n).toInt32 :: st) S
  | .sipush n => len = 3 ∧ k (pc + 3) ls (.int (Int16.ofInt n).toInt32 :: st) S
  | .lconst n => len = 1 ∧ k (pc + 1) ls (.long (Int64.ofNat n.val) :: st) S
  | .ldc i => len = 2 ∧ (match cpI o i with
    | some v => k (pc + 2) ls (.int v :: st) S
    | none => match cpT o i with
      | some j => k (pc + 2) ls (.ref (1000 + j) :: st) S
      | none => False)
  | .ldc_w i => len = 3 ∧ (match cpI o i with
    | some v => k (pc + 3) ls (.int v :: st) S
    | none => False)
  | .ldc2_w i => len = 3 ∧ (match cpJ o i with
    | some v => k (pc + 3) ls (.long v :: st) S
    | none => False)
  | .iload i => len = 2 ∧ lI ls i fun x => k (pc + 2) ls (.int x :: st) S
  | .iload_n i => len = 1 ∧ lI ls i.val fun x => k (pc + 1) ls (.int x :: st) S
  | .lload i => len = 2 ∧ lJ ls i fun x => k (pc + 2) ls (.long x :: st) S
  | .lload_n i => len = 1 ∧ lJ ls i.val fun x => k (pc + 1) ls (.long x :: st) S
  | .aload i => len = 2 ∧ lA ls i fun x => k (pc + 2) ls (.ref x :: st) S
  | .aload_n i => len = 1 ∧ lA ls i.val fun x => k (pc + 1) ls (.ref x :: st) S
  | .istore i => len = 2 ∧ pI st fun x st => lS ls i (.int x) fun ls => k (pc + 2) ls st S
  | .istore_n i => len = 1 ∧ pI st fun x st => lS ls i.val (.int x) fun ls => k (pc + 1) ls st S
  | .lstore i => len = 2 ∧ pJ st fun x st => lD ls i (.long x) fun ls => k (pc + 2) ls st S
  | .lstore_n i => len = 1 ∧ pJ st fun x st => lD ls i.val (.long x) fun ls => k (pc + 1) ls st S
  | .astore i => len = 2 ∧ pR st fun x st => lS ls i (.ref x) fun ls => k (pc + 2) ls st S
  | .astore_n i => len = 1 ∧ pR st fun x st => lS ls i.val (.ref x) fun ls => k (pc + 1) ls st S
  | .iinc i n => len = 3 ∧ lI ls i fun x => lS ls i (.int (x + Int32.ofInt n)) fun ls => k (pc + 3) ls st S
  | .iadd => len = 1 ∧ pII st fun x y st => k (pc + 1) ls (.int (x + y) :: st) S
  | .isub => len = 1 ∧ pII st fun x y st => k (pc + 1) ls (.int (x - y) :: st) S
  | .imul => len = 1 ∧ pII st fun x y st => k (pc + 1) ls (.int (x * y) :: st) S
  | .iand => len = 1 ∧ pII st fun x y st => k (pc + 1) ls (.int (x &&& y) :: st) S
  | .ior => len = 1 ∧ pII st fun x y st => k (pc + 1) ls (.int (x ||| y) :: st) S
  | .ixor => len = 1 ∧ pII st fun x y st => k (pc + 1) ls (.int (x ^^^ y) :: st) S
  | .ishl => len = 1 ∧ pII st fun x y st => k (pc + 1) ls (.int (x <<< (y &&& 31)) :: st) S
  | .ishr => len = 1 ∧ pII st fun x y st => k (pc + 1) ls (.int (x >>> (y &&& 31)) :: st) S
  | .idiv => len = 1 ∧ pII st fun x y st => ¬ y = 0 ∧ k (pc + 1) ls (.int (x / y) :: st) S
  | .irem => len = 1 ∧ pII st fun x y st => ¬ y = 0 ∧ k (pc + 1) ls (.int (x - x / y * y) :: st) S
  | .ladd => len = 1 ∧ pJJ st fun x y st => k (pc + 1) ls (.long (x + y) :: st) S
  | .lmul => len = 1 ∧ pJJ st fun x y st => k (pc + 1) ls (.long (x * y) :: st) S
  | .land => len = 1 ∧ pJJ st fun x y st => k (pc + 1) ls (.long (x &&& y) :: st) S
  | .lor => len = 1 ∧ pJJ st fun x y st => k (pc + 1) ls (.long (x ||| y) :: st) S
  | .ldiv => len = 1 ∧ pJJ st fun x y st => ¬ y = 0 ∧ k (pc + 1) ls (.long (x / y) :: st) S
  | .lcmp => len = 1 ∧ pJJ st fun x y st => k (pc + 1) ls (.int (lg_cmp x y) :: st) S
  | .lshl => len = 1 ∧ pIJ st fun x y st => k (pc + 1) ls (.long (x <<< (y.toInt64 &&& 63)) :: st) S
  | .lshr => len = 1 ∧ pIJ st fun x y st => k (pc + 1) ls (.long (x >>> (y.toInt64 &&& 63)) :: st) S
  | .i2l => len = 1 ∧ pI st fun x st => k (pc + 1) ls (.long x.toInt64 :: st) S
  | .l2i => len = 1 ∧ pJ st fun x st => k (pc + 1) ls (.int x.toInt32 :: st) S
  | .i2c => len = 1 ∧ pI st fun x st => k (pc + 1) ls (.int (x.toUInt32 % 65536).toInt32 :: st) S
  | .dup => len = 1 ∧ pV st fun v st => v.category = 1 ∧ k (pc + 1) ls (v :: v :: st) S
  | .pop => len = 1 ∧ pV st fun v st => v.category = 1 ∧ k (pc + 1) ls st S
  | .dup_x1 => len = 1 ∧ pVV st fun v w st => v.category = 1 ∧ w.category = 1 ∧ k (pc + 1) ls (v :: w :: v :: st) S
  | .dup2 => len = 1 ∧ pVV st fun v w st => v.category = 1 ∧ w.category = 1 ∧ k (pc + 1) ls (v :: w :: v :: w :: st) S
  | .ifCond cn off => (len = 3 ∧ 0 ≤ (pc : Int) + off) ∧ pI st fun x st => xif cn x 0 (k (tg pc off) ls st S) (k (pc + 3) ls st S)
  | .if_icmp cn off => (len = 3 ∧ 0 ≤ (pc : Int) + off) ∧ pII st fun x y st => xif cn x y (k (tg pc off) ls st S) (k (pc + 3) ls st S)
  | .goto off => len = 3 ∧ jp pc off fun t => k t ls st S
  | .tableswitch d lo hi offs => pI st fun x st => (-2147483648 ≤ lo ∧ hi ≤ 2147483647 ∧ (offs.toList.length : Int) = hi - lo + 1) ∧ swt x pc (fun t => k t ls st S) d offs.toList lo
  | .getstatic i => len = 3 ∧ (match cpG o i with
    | some (u, _) => k (pc + 3) ls ((if u = 9 then .int 1 else .ref (1200 + u)) :: st) S
    | none => False)
  | .getfield i => len = 3 ∧ pR st fun a st => (match cpF o i with
    | some (ci, j, n, _, _, _) => (a < 1000 ∧ Ld a = (ci + 3, n)) ∧ k (pc + 3) ls (Fc S a j :: st) S
    | none => match cpU o i with
      | some u => (1000 ≤ a ∧ a < 1013) ∧ k (pc + 3) ls ((if u = 0 then .ref (a + 100) else .int 0) :: st) S
      | none => False)
  | .putfield i => len = 3 ∧ pVR st fun v a st => (match cpF o i with
    | some (ci, j, n, _, rf, fi) => (a < 1000 ∧ Ld a = (ci + 3, n) ∧ fi = false) ∧ (match v with
      | .int x => (rf = false ∧ oD a j = false ∧ rT.lookup (a, j) = none) ∧ k (pc + 3) ls st (upA S a (upd (S a) j x))
      | .ref b => (rf = true ∧ oD a j = true ∧ b < 1000) ∧ k (pc + 3) ls st (upA S a (upd (S a) j (nI b)))
      | _ => False)
    | none => False)
  | .iaload => len = 1 ∧ pIR st fun i a st => rdA (ald M L0 S a 1) i fun x => k (pc + 1) ls (.int x :: st) S
  | .baload => len = 1 ∧ pIR st fun i a st => rdA (ald M L0 S a (if a < 1000 then 2 else 3)) i fun x => k (pc + 1) ls (.int x :: st) S
  | .iastore => len = 1 ∧ pIIR st fun x i a st => (a < 1000 ∧ (Ld a).1 = 1) ∧ vp_in i (Ld a).2 ∧ k (pc + 1) ls st (upA S a (upd (S a) i.toNatClampNeg x))
  | .bastore => len = 1 ∧ pIIR st fun x i a st => (a < 1000 ∧ (Ld a).1 = 2) ∧ vp_in i (Ld a).2 ∧ k (pc + 1) ls st (upA S a (upd (S a) i.toNatClampNeg (vp_nar .boolean x)))
  | .arraylength => len = 1 ∧ pR st fun a st => lnA (ald M L0 S a (if a < 1000 then 1 else if a < 1200 then 3 else 1)) fun x => k (pc + 1) ls (.int x :: st) S
  | .invokevirtual i => len = 3 ∧ sC2 M k 0 pc ls st S (cpM o i)
  | .invokestatic i => len = 3 ∧ (match cpB o i with
    | some u => 1 ≤ mV M ∧ (match u with
      | 0 => pII st fun x y r => r.length ≤ 4 ∧ k (pc + 3) ls (.int (if y < x then y else x) :: r) S
      | 1 => pII st fun x y r => r.length ≤ 4 ∧ k (pc + 3) ls (.int (if x < y then y else x) :: r) S
      | 2 => pI st fun x r => r.length ≤ 4 ∧ k (pc + 3) ls (.int (if 0 ≤ x then x else 0 - x) :: r) S
      | 4 => pCpy st fun a s b d n r => r.length ≤ 1 ∧ ¬ s < 0 ∧ ¬ d < 0 ∧ ¬ n < 0 ∧ b < 1000 ∧ (Ld b).1 = 1 ∧ d.toNatClampNeg + n.toNatClampNeg ≤ (Ld b).2 ∧ (match ald M L0 S a 1 with
        | some (m, h) => a ≠ 1300 ∧ s.toNatClampNeg + n.toNatClampNeg ≤ m ∧ k (pc + 3) ls r (upA S b (va_cpy h (S b) s.toNatClampNeg d.toNatClampNeg n.toNatClampNeg))
        | none => False)
      | _ => False)
    | none => sC2 M k 1 pc ls st S (cpM o i))
  | .ireturn => len = 1 ∧ pI st fun v r => r = [] ∧ rOk M v ∧ fi v S
  | .return_ => len = 1 ∧ st = [] ∧ mT M = none ∧ fv S
  | _ => False
def sn2 (M : xM) (b : ByteArray) (o : Nat) (k : xW) (fi : xP) (fv : xA → Prop) (pc : Nat) (ls : xS) (st : List Value) (S : xA) : Prop := match decode b pc with
  | .ok (ins, len) => s2 M o k fi fv ins len pc ls st S
  | .error _ => False
def sg2 (M : xM) (b : ByteArray) (o : Nat) (K : Nat → Option (xS → List Value → xA → Prop)) (fi : xP) (fv : xA → Prop) : Nat → xW
  | 0 => fun _ _ _ _ => False
  | n + 1 => fun pc ls st S => match K pc with
    | some P => P ls st S
    | none => sn2 M b o (sg2 M b o K fi fv n) fi fv pc ls st S
def k1 (k : xW) : xK := fun pc ls st c z L F A => c = 0 ∧ z = 0 ∧ L = L0 ∧ ∃ S, Sr F A S ∧ k pc ls st S
theorem gW_sr {F : xF} {A S : xA} (h : Sr F A S) (g : xG) : gW g L0 F A = gW g L0 (Fc S) S := by
  unfold gW
  apply List.map_congr_left
  intro i hi
  congr 1
  have e : L0.getD i (0, 0) = Ld i := rfl
  rw [e]
  have h1 := h.1 i
  have h2 := h.2 i
  generalize Ld i = d at h1 h2
  obtain ⟨d1, d2⟩ := d
  match d1 with
  | 0 => rw [h2 (by simp)]; rfl
  | 1 => rw [h2 (by simp)]; rfl
  | 2 => rw [h2 (by simp)]; rfl
  | q + 3 => rw [h1 (by simp)]; rfl
theorem gH_sr {F : xF} {A S : xA} (h : Sr F A S) (g : xG) (H : Heap) : gH g L0 F A H = gH g L0 (Fc S) S H := by
  unfold gH
  rw [gW_sr h]
theorem Call_sr {T : xM} {as : List Value} {F : xF} {A S : xA} {Q : xQ} (h : Sr F A S) (hc : CallOk T as L0 (Fc S) S Q) : CallOk T as L0 F A Q := by
  intro l g
  have e : mP g as L0 F A = mP g as L0 (Fc S) S := by
    unfold mP
    funext v U
    rw [gH_sr h]
  rw [e]
  exact hc l g
section S2
variable {M : xM} {o : Nat} {k : xW} {fi : xP} {fv : xA → Prop} {pc len : Nat} {ls : xS} {st : List Value} {S A : xA} {F : xF}
theorem k1_i (hs : Sr F A S) (h : k pc ls st S) : k1 k pc ls st 0 0 L0 F A := ⟨rfl, rfl, rfl, S, hs, h⟩
theorem Sr_rf (S : xA) : Sr (Fc S) S S := ⟨fun _ _ => rfl, fun _ _ => rfl⟩
theorem Sr_ar {a : Nat} {f : Nat → Int32} (hs : Sr F A S) (h : (Ld a).1 ≤ 2) : Sr F (upA A a f) (upA S a f) := by
  refine ⟨fun b hb => ?_, fun b hb => ?_⟩
  · rw [hs.1 b hb]
    funext j
    have : b ≠ a := fun e => by subst e; omega
    unfold Fc upA
    simp [this]
  · unfold upA
    split
    · rfl
    · exact hs.2 b hb
theorem Sr_ob {a j : Nat} {v : Value} {w : Int32} (hs : Sr F A S) (h : 3 ≤ (Ld a).1) (hv : Fc (upA S a (upd (S a) j w)) a j = v) : Sr (upF F a j v) A (upA S a (upd (S a) j w)) := by
  refine ⟨fun b hb => ?_, fun b hb => ?_⟩
  · funext i
    unfold upF
    by_cases hba : b = a
    · subst hba
      by_cases hij : i = j
      · subst hij
        simp [hv]
      · simp only [hij, and_false, if_false]
        rw [hs.1 b hb]
        unfold Fc upA
        simp [upd, hij]
    · simp only [hba, false_and, if_false]
      rw [hs.1 b hb]
      unfold Fc upA
      simp [hba]
  · have : b ≠ a := fun e => by subst e; omega
    unfold upA
    rw [if_neg this]
    exact hs.2 b hb
theorem lI_mk {ls : xS} {i : Nat} {f : Int32 → Prop} {x : Int32} (hx : ls[i]? = some (some (.int x))) (h : f x) : lI ls i f := by unfold lI; rw [hx]; exact h
theorem lJ_mk {ls : xS} {i : Nat} {f : Int64 → Prop} {x : Int64} (hx : ls[i]? = some (some (.long x))) (h : f x) : lJ ls i f := by unfold lJ; rw [hx]; exact h
theorem lA_mk {ls : xS} {i : Nat} {f : Nat → Prop} {x : Nat} (hx : ls[i]? = some (some (.ref x))) (h : f x) : lA ls i f := by unfold lA; rw [hx]; exact h
theorem xif_mono {cn : ClassFile.Cond} {x y : Int32} {a b a' b' : Prop} (ha : a → a') (hb : b → b') (h : xif cn x y a b) : xif cn x y a' b' := by
  cases cn <;> simp only [xif] at h ⊢ <;> split at h <;> rename_i hc <;> first | (rw [if_pos hc]; first | exact ha h | exact hb h) | (rw [if_neg hc]; first | exact ha h | exact hb h)
theorem swt_mono {x : Int32} {pc : Nat} {f f' : Nat → Prop} {d : Int} (hf : ∀ t, f t → f' t) : ∀ (offs : List Int) (lo : Int), swt x pc f d offs lo → swt x pc f' d offs lo
  | [], _, h => ⟨h.1, hf _ h.2⟩
  | a :: r, lo, h => by
    unfold swt at h ⊢
    split at h
    · next hx => rw [if_pos hx]; exact ⟨h.1, hf _ h.2⟩
    · next hx => rw [if_neg hx]; exact swt_mono hf r _ h
theorem stN_mk {as r : List Value} {f : List Value → List Value → Prop} (hr : r.length ≤ 4) (h : f as r) : stN as.length (as.reverse ++ r) f := by
  refine ⟨by simp, Or.inl (by simpa using hr), ?_⟩
  have e1 : (as.reverse ++ r).take as.length = as.reverse := by rw [← List.length_reverse (as := as)]; exact List.take_left
  have e2 : (as.reverse ++ r).drop as.length = r := by rw [← List.length_reverse (as := as)]; exact List.drop_left
  rw [e1, e2, List.reverse_reverse]
  exact h
theorem call_mono {T : xM} {as : List Value} {F : xF} {A S : xA} {Q Q' : xQ} (hs : Sr F A S) (hQ : ∀ v L F A, Q v L F A → Q' v L F A) (hc : CallOk T as L0 (Fc S) S Q) : CallOk T as L0 F A Q' := by
  intro l g
  have h := Call_sr hs hc l g
  intro p e ha hc2 hk s m args below hf happ hP hK
  obtain ⟨n, o, h1, h2, h3, ⟨⟨r, L', F', A', e1, e2, e3⟩, h5⟩, h6⟩ := h p e ha hc2 hk s m args below hf happ hP hK
  exact ⟨n, o, h1, h2, h3, ⟨⟨r, L', F', A', e1, hQ _ _ _ _ e2, e3⟩, h5⟩, h6⟩
theorem sC2_ok {sp : Nat} {q : Option (Nat × Nat × xM)} (hs : Sr F A S) (h : sC2 M k sp pc ls st S q) : sCl M (k1 k) sp pc ls st 0 0 L0 F A q := by
  unfold sC2 at h
  split at h
  · next kd n T =>
    obtain ⟨⟨h1, h2, h3⟩, h⟩ := h
    have key : ∀ (as r : List Value), (match mT T with
      | some _ => CI T as S fun x S => k (pc + 3) ls (.int x :: r) S
      | none => CV T as S fun S => k (pc + 3) ls r S) → CallOk T as L0 F A fun v L F A => k1 k (pc + 3) ls (v.toList ++ r) (0 + mC T) (0 + mS T) L F A := by
      intro as r hq
      rw [h2, h3]
      split at hq
      · refine call_mono hs ?_ hq
        rintro v L F A ⟨x, S', rfl, rfl, hs', hk⟩
        exact k1_i hs' hk
      · refine call_mono hs ?_ hq
        rintro v L F A ⟨S', rfl, rfl, hs', hk⟩
        exact k1_i hs' hk
    refine ⟨h1, by rw [h2]; exact Nat.zero_le _, by rw [h3]; exact Nat.zero_le _, ?_⟩
    match kd, h with
    | 0, h' =>
      obtain ⟨e0, g2⟩ := h'
      obtain ⟨g3, g4, g5, g6⟩ := g2
      exact ⟨e0, g3, g4, g5, key _ _ g6⟩
    | 1, h' =>
      obtain ⟨e0, g2⟩ := h'
      obtain ⟨g3, g4, g6⟩ := g2
      exact ⟨e0, g3, g4, key _ _ g6⟩
    | 2, h' => exact h'.elim
    | 3, h' =>
      obtain ⟨e0, g2⟩ := h'
      obtain ⟨g3, g4, g5, g6⟩ := g2
      exact ⟨e0, g3, g4, g5, key _ _ g6⟩
    | 4, h' =>
      obtain ⟨e0, g2⟩ := h'
      obtain ⟨g3, g4, g6⟩ := g2
      exact ⟨e0, g3, g4, key _ _ g6⟩
    | 5, h' => exact h'.elim
    | 6, h' =>
      obtain ⟨e0, g2⟩ := h'
      obtain ⟨g3, g4, g5, g6⟩ := g2
      exact ⟨e0, g3, g4, g5, key _ _ g6⟩
    | q + 7, h' => exact h'.elim
  · exact h.elim
theorem ald_sr {a t : Nat} (hs : Sr F A S) (ht : t ≤ 2) : ald M L0 A a t = ald M L0 S a t := by
  unfold ald
  by_cases ha : a < 1000
  · rw [if_pos ha, if_pos ha]
    by_cases h1 : (L0.getD a (0, 0)).1 = t
    · rw [if_pos h1, if_pos h1, hs.2 a (by unfold Ld; omega)]
    · rw [if_neg h1, if_neg h1]
  · rw [if_neg ha, if_neg ha]
theorem ald_s3 {a : Nat} (h : ¬ a < 1000) (t : Nat) : ald M L0 A a t = ald M L0 S a t := by
  unfold ald
  rw [if_neg h, if_neg h]
theorem z_iadd (hs : Sr F A S) (h : s2 M o k fi fv (.iadd) len pc ls st S) : sop M o (k1 k) (Qm M fi fv) (.iadd) len pc ls st 0 0 L0 F A := by
  obtain ⟨rfl, h⟩ := h
  obtain ⟨x, y, r, rfl, h⟩ := pII_ok h
  exact ⟨rfl, k1_i hs h⟩
theorem z_isub (hs : Sr F A S) (h : s2 M o k fi fv (.isub) len pc ls st S) : sop M o (k1 k) (Qm M fi fv) (.isub) len pc ls st 0 0 L0 F A := by
  obtain ⟨rfl, h⟩ := h
  obtain ⟨x, y, r, rfl, h⟩ := pII_ok h
  exact ⟨rfl, k1_i hs h⟩
theorem z_imul (hs : Sr F A S) (h : s2 M o k fi fv (.imul) len pc ls st S) : sop M o (k1 k) (Qm M fi fv) (.imul) len pc ls st 0 0 L0 F A := by
  obtain ⟨rfl, h⟩ := h
  obtain ⟨x, y, r, rfl, h⟩ := pII_ok h
  exact ⟨rfl, k1_i hs h⟩
theorem z_iand (hs : Sr F A S) (h : s2 M o k fi fv (.iand) len pc ls st S) : sop M o (k1 k) (Qm M fi fv) (.iand) len pc ls st 0 0 L0 F A := by
  obtain ⟨rfl, h⟩ := h
  obtain ⟨x, y, r, rfl, h⟩ := pII_ok h
  exact ⟨rfl, k1_i hs h⟩
theorem z_ior (hs : Sr F A S) (h : s2 M o k fi fv (.ior) len pc ls st S) : sop M o (k1 k) (Qm M fi fv) (.ior) len pc ls st 0 0 L0 F A := by
  obtain ⟨rfl, h⟩ := h
  obtain ⟨x, y, r, rfl, h⟩ := pII_ok h
  exact ⟨rfl, k1_i hs h⟩
theorem z_ixor (hs : Sr F A S) (h : s2 M o k fi fv (.ixor) len pc ls st S) : sop M o (k1 k) (Qm M fi fv) (.ixor) len pc ls st 0 0 L0 F A := by
  obtain ⟨rfl, h⟩ := h
  obtain ⟨x, y, r, rfl, h⟩ := pII_ok h
  exact ⟨rfl, k1_i hs h⟩
theorem z_ishl (hs : Sr F A S) (h : s2 M o k fi fv (.ishl) len pc ls st S) : sop M o (k1 k) (Qm M fi fv) (.ishl) len pc ls st 0 0 L0 F A := by
  obtain ⟨rfl, h⟩ := h
  obtain ⟨x, y, r, rfl, h⟩ := pII_ok h
  exact ⟨rfl, k1_i hs h⟩
theorem z_ishr (hs : Sr F A S) (h : s2 M o k fi fv (.ishr) len pc ls st S) : sop M o (k1 k) (Qm M fi fv) (.ishr) len pc ls st 0 0 L0 F A := by
  obtain ⟨rfl, h⟩ := h
  obtain ⟨x, y, r, rfl, h⟩ := pII_ok h
  exact ⟨rfl, k1_i hs h⟩
theorem z_idiv (hs : Sr F A S) (h : s2 M o k fi fv (.idiv) len pc ls st S) : sop M o (k1 k) (Qm M fi fv) (.idiv) len pc ls st 0 0 L0 F A := by
  obtain ⟨rfl, h⟩ := h
  obtain ⟨x, y, r, rfl, h⟩ := pII_ok h
  exact ⟨rfl, h.1, k1_i hs h.2⟩
theorem z_irem (hs : Sr F A S) (h : s2 M o k fi fv (.irem) len pc ls st S) : sop M o (k1 k) (Qm M fi fv) (.irem) len pc ls st 0 0 L0 F A := by
  obtain ⟨rfl, h⟩ := h
  obtain ⟨x, y, r, rfl, h⟩ := pII_ok h
  exact ⟨rfl, h.1, k1_i hs h.2⟩
theorem z_ladd (hs : Sr F A S) (h : s2 M o k fi fv (.ladd) len pc ls st S) : sop M o (k1 k) (Qm M fi fv) (.ladd) len pc ls st 0 0 L0 F A := by
  obtain ⟨rfl, h⟩ := h
  obtain ⟨x, y, r, rfl, h⟩ := pJJ_ok h
  exact ⟨rfl, k1_i hs h⟩
theorem z_lmul (hs : Sr F A S) (h : s2 M o k fi fv (.lmul) len pc ls st S) : sop M o (k1 k) (Qm M fi fv) (.lmul) len pc ls st 0 0 L0 F A := by
  obtain ⟨rfl, h⟩ := h
  obtain ⟨x, y, r, rfl, h⟩ := pJJ_ok h
  exact ⟨rfl, k1_i hs h⟩
theorem z_land (hs : Sr F A S) (h : s2 M o k fi fv (.land) len pc ls st S) : sop M o (k1 k) (Qm M fi fv) (.land) len pc ls st 0 0 L0 F A := by
  obtain ⟨rfl, h⟩ := h
  obtain ⟨x, y, r, rfl, h⟩ := pJJ_ok h
  exact ⟨rfl, k1_i hs h⟩
theorem z_lor (hs : Sr F A S) (h : s2 M o k fi fv (.lor) len pc ls st S) : sop M o (k1 k) (Qm M fi fv) (.lor) len pc ls st 0 0 L0 F A := by
  obtain ⟨rfl, h⟩ := h
  obtain ⟨x, y, r, rfl, h⟩ := pJJ_ok h
  exact ⟨rfl, k1_i hs h⟩
theorem z_lcmp (hs : Sr F A S) (h : s2 M o k fi fv (.lcmp) len pc ls st S) : sop M o (k1 k) (Qm M fi fv) (.lcmp) len pc ls st 0 0 L0 F A := by
  obtain ⟨rfl, h⟩ := h
  obtain ⟨x, y, r, rfl, h⟩ := pJJ_ok h
  exact ⟨rfl, k1_i hs h⟩
theorem z_ldiv (hs : Sr F A S) (h : s2 M o k fi fv (.ldiv) len pc ls st S) : sop M o (k1 k) (Qm M fi fv) (.ldiv) len pc ls st 0 0 L0 F A := by
  obtain ⟨rfl, h⟩ := h
  obtain ⟨x, y, r, rfl, h⟩ := pJJ_ok h
  exact ⟨rfl, h.1, k1_i hs h.2⟩
theorem z_lshl (hs : Sr F A S) (h : s2 M o k fi fv (.lshl) len pc ls st S) : sop M o (k1 k) (Qm M fi fv) (.lshl) len pc ls st 0 0 L0 F A := by
  obtain ⟨rfl, h⟩ := h
  obtain ⟨x, y, r, rfl, h⟩ := pIJ_ok h
  exact ⟨rfl, k1_i hs h⟩
theorem z_lshr (hs : Sr F A S) (h : s2 M o k fi fv (.lshr) len pc ls st S) : sop M o (k1 k) (Qm M fi fv) (.lshr) len pc ls st 0 0 L0 F A := by
  obtain ⟨rfl, h⟩ := h
  obtain ⟨x, y, r, rfl, h⟩ := pIJ_ok h
  exact ⟨rfl, k1_i hs h⟩
theorem z_i2l (hs : Sr F A S) (h : s2 M o k fi fv (.i2l) len pc ls st S) : sop M o (k1 k) (Qm M fi fv) (.i2l) len pc ls st 0 0 L0 F A := by
  obtain ⟨rfl, h⟩ := h
  obtain ⟨x, r, rfl, h⟩ := pI_ok h
  exact ⟨rfl, k1_i hs h⟩
theorem z_i2c (hs : Sr F A S) (h : s2 M o k fi fv (.i2c) len pc ls st S) : sop M o (k1 k) (Qm M fi fv) (.i2c) len pc ls st 0 0 L0 F A := by
  obtain ⟨rfl, h⟩ := h
  obtain ⟨x, r, rfl, h⟩ := pI_ok h
  exact ⟨rfl, k1_i hs h⟩
theorem z_l2i (hs : Sr F A S) (h : s2 M o k fi fv (.l2i) len pc ls st S) : sop M o (k1 k) (Qm M fi fv) (.l2i) len pc ls st 0 0 L0 F A := by
  obtain ⟨rfl, h⟩ := h
  obtain ⟨x, r, rfl, h⟩ := pJ_ok h
  exact ⟨rfl, k1_i hs h⟩
theorem z_dup (hs : Sr F A S) (h : s2 M o k fi fv (.dup) len pc ls st S) : sop M o (k1 k) (Qm M fi fv) (.dup) len pc ls st 0 0 L0 F A := by
  obtain ⟨rfl, h⟩ := h
  obtain ⟨v, r, rfl, h⟩ := pV_ok h
  exact ⟨rfl, h.1, k1_i hs h.2⟩
theorem z_pop (hs : Sr F A S) (h : s2 M o k fi fv (.pop) len pc ls st S) : sop M o (k1 k) (Qm M fi fv) (.pop) len pc ls st 0 0 L0 F A := by
  obtain ⟨rfl, h⟩ := h
  obtain ⟨v, r, rfl, h⟩ := pV_ok h
  exact ⟨rfl, h.1, k1_i hs h.2⟩
theorem z_dup_x1 (hs : Sr F A S) (h : s2 M o k fi fv (.dup_x1) len pc ls st S) : sop M o (k1 k) (Qm M fi fv) (.dup_x1) len pc ls st 0 0 L0 F A := by
  obtain ⟨rfl, h⟩ := h
  obtain ⟨v, w, r, rfl, h⟩ := pVV_ok h
  exact ⟨rfl, h.1, h.2.1, k1_i hs h.2.2⟩
theorem z_dup2 (hs : Sr F A S) (h : s2 M o k fi fv (.dup2) len pc ls st S) : sop M o (k1 k) (Qm M fi fv) (.dup2) len pc ls st 0 0 L0 F A := by
  obtain ⟨rfl, h⟩ := h
  obtain ⟨v, w, r, rfl, h⟩ := pVV_ok h
  exact ⟨rfl, h.1, h.2.1, k1_i hs h.2.2⟩
theorem z_iconst {n : Int} (hs : Sr F A S) (h : s2 M o k fi fv (.iconst n) len pc ls st S) : sop M o (k1 k) (Qm M fi fv) (.iconst n) len pc ls st 0 0 L0 F A := by
  exact ⟨h.1, k1_i hs h.2⟩
theorem z_bipush {n : Int} (hs : Sr F A S) (h : s2 M o k fi fv (.bipush n) len pc ls st S) : sop M o (k1 k) (Qm M fi fv) (.bipush n) len pc ls st 0 0 L0 F A := by
  exact ⟨h.1, k1_i hs h.2⟩
theorem z_sipush {n : Int} (hs : Sr F A S) (h : s2 M o k fi fv (.sipush n) len pc ls st S) : sop M o (k1 k) (Qm M fi fv) (.sipush n) len pc ls st 0 0 L0 F A := by
  exact ⟨h.1, k1_i hs h.2⟩
theorem z_lconst {n : Fin 2} (hs : Sr F A S) (h : s2 M o k fi fv (.lconst n) len pc ls st S) : sop M o (k1 k) (Qm M fi fv) (.lconst n) len pc ls st 0 0 L0 F A := by
  exact ⟨h.1, k1_i hs h.2⟩
theorem z_iload {i : Nat} (hs : Sr F A S) (h : s2 M o k fi fv (.iload i) len pc ls st S) : sop M o (k1 k) (Qm M fi fv) (.iload i) len pc ls st 0 0 L0 F A := by
  obtain ⟨rfl, h⟩ := h
  obtain ⟨x, hx, h⟩ := lI_ok h
  exact ⟨rfl, lI_mk hx (k1_i hs h)⟩
theorem z_iload_n {i : Fin 4} (hs : Sr F A S) (h : s2 M o k fi fv (.iload_n i) len pc ls st S) : sop M o (k1 k) (Qm M fi fv) (.iload_n i) len pc ls st 0 0 L0 F A := by
  obtain ⟨rfl, h⟩ := h
  obtain ⟨x, hx, h⟩ := lI_ok h
  exact ⟨rfl, lI_mk hx (k1_i hs h)⟩
theorem z_lload {i : Nat} (hs : Sr F A S) (h : s2 M o k fi fv (.lload i) len pc ls st S) : sop M o (k1 k) (Qm M fi fv) (.lload i) len pc ls st 0 0 L0 F A := by
  obtain ⟨rfl, h⟩ := h
  obtain ⟨x, hx, h⟩ := lJ_ok h
  exact ⟨rfl, lJ_mk hx (k1_i hs h)⟩
theorem z_lload_n {i : Fin 4} (hs : Sr F A S) (h : s2 M o k fi fv (.lload_n i) len pc ls st S) : sop M o (k1 k) (Qm M fi fv) (.lload_n i) len pc ls st 0 0 L0 F A := by
  obtain ⟨rfl, h⟩ := h
  obtain ⟨x, hx, h⟩ := lJ_ok h
  exact ⟨rfl, lJ_mk hx (k1_i hs h)⟩
theorem z_aload {i : Nat} (hs : Sr F A S) (h : s2 M o k fi fv (.aload i) len pc ls st S) : sop M o (k1 k) (Qm M fi fv) (.aload i) len pc ls st 0 0 L0 F A := by
  obtain ⟨rfl, h⟩ := h
  obtain ⟨x, hx, h⟩ := lA_ok h
  exact ⟨rfl, lA_mk hx (k1_i hs h)⟩
theorem z_aload_n {i : Fin 4} (hs : Sr F A S) (h : s2 M o k fi fv (.aload_n i) len pc ls st S) : sop M o (k1 k) (Qm M fi fv) (.aload_n i) len pc ls st 0 0 L0 F A := by
  obtain ⟨rfl, h⟩ := h
  obtain ⟨x, hx, h⟩ := lA_ok h
  exact ⟨rfl, lA_mk hx (k1_i hs h)⟩
theorem z_istore {i : Nat} (hs : Sr F A S) (h : s2 M o k fi fv (.istore i) len pc ls st S) : sop M o (k1 k) (Qm M fi fv) (.istore i) len pc ls st 0 0 L0 F A := by
  obtain ⟨rfl, h⟩ := h
  obtain ⟨x, r, rfl, h⟩ := pI_ok h
  exact ⟨rfl, h.1, h.2.1, k1_i hs h.2.2⟩
theorem z_istore_n {i : Fin 4} (hs : Sr F A S) (h : s2 M o k fi fv (.istore_n i) len pc ls st S) : sop M o (k1 k) (Qm M fi fv) (.istore_n i) len pc ls st 0 0 L0 F A := by
  obtain ⟨rfl, h⟩ := h
  obtain ⟨x, r, rfl, h⟩ := pI_ok h
  exact ⟨rfl, h.1, h.2.1, k1_i hs h.2.2⟩
theorem z_lstore {i : Nat} (hs : Sr F A S) (h : s2 M o k fi fv (.lstore i) len pc ls st S) : sop M o (k1 k) (Qm M fi fv) (.lstore i) len pc ls st 0 0 L0 F A := by
  obtain ⟨rfl, h⟩ := h
  obtain ⟨x, r, rfl, h⟩ := pJ_ok h
  exact ⟨rfl, h.1, h.2.1, k1_i hs h.2.2⟩
theorem z_lstore_n {i : Fin 4} (hs : Sr F A S) (h : s2 M o k fi fv (.lstore_n i) len pc ls st S) : sop M o (k1 k) (Qm M fi fv) (.lstore_n i) len pc ls st 0 0 L0 F A := by
  obtain ⟨rfl, h⟩ := h
  obtain ⟨x, r, rfl, h⟩ := pJ_ok h
  exact ⟨rfl, h.1, h.2.1, k1_i hs h.2.2⟩
theorem z_astore {i : Nat} (hs : Sr F A S) (h : s2 M o k fi fv (.astore i) len pc ls st S) : sop M o (k1 k) (Qm M fi fv) (.astore i) len pc ls st 0 0 L0 F A := by
  obtain ⟨rfl, h⟩ := h
  obtain ⟨x, r, rfl, h⟩ := pR_ok h
  exact ⟨rfl, h.1, h.2.1, k1_i hs h.2.2⟩
theorem z_astore_n {i : Fin 4} (hs : Sr F A S) (h : s2 M o k fi fv (.astore_n i) len pc ls st S) : sop M o (k1 k) (Qm M fi fv) (.astore_n i) len pc ls st 0 0 L0 F A := by
  obtain ⟨rfl, h⟩ := h
  obtain ⟨x, r, rfl, h⟩ := pR_ok h
  exact ⟨rfl, h.1, h.2.1, k1_i hs h.2.2⟩
theorem z_iinc {i : Nat} {n : Int} (hs : Sr F A S) (h : s2 M o k fi fv (.iinc i n) len pc ls st S) : sop M o (k1 k) (Qm M fi fv) (.iinc i n) len pc ls st 0 0 L0 F A := by
  obtain ⟨rfl, h⟩ := h
  obtain ⟨x, hx, h⟩ := lI_ok h
  exact ⟨rfl, lI_mk hx ⟨h.1, h.2.1, k1_i hs h.2.2⟩⟩
theorem z_ifCond {cn : ClassFile.Cond} {off : Int} (hs : Sr F A S) (h : s2 M o k fi fv (.ifCond cn off) len pc ls st S) : sop M o (k1 k) (Qm M fi fv) (.ifCond cn off) len pc ls st 0 0 L0 F A := by
  obtain ⟨h0, h⟩ := h
  obtain ⟨x, r, rfl, h⟩ := pI_ok h
  exact ⟨h0, xif_mono (k1_i hs) (k1_i hs) h⟩
theorem z_if_icmp {cn : ClassFile.Cond} {off : Int} (hs : Sr F A S) (h : s2 M o k fi fv (.if_icmp cn off) len pc ls st S) : sop M o (k1 k) (Qm M fi fv) (.if_icmp cn off) len pc ls st 0 0 L0 F A := by
  obtain ⟨h0, h⟩ := h
  obtain ⟨x, y, r, rfl, h⟩ := pII_ok h
  exact ⟨h0, xif_mono (k1_i hs) (k1_i hs) h⟩
theorem z_goto {off : Int} (hs : Sr F A S) (h : s2 M o k fi fv (.goto off) len pc ls st S) : sop M o (k1 k) (Qm M fi fv) (.goto off) len pc ls st 0 0 L0 F A := by
  exact ⟨h.1, h.2.1, k1_i hs h.2.2⟩
theorem z_tableswitch {d lo hi : Int} {offs : Array Int} (hs : Sr F A S) (h : s2 M o k fi fv (.tableswitch d lo hi offs) len pc ls st S) : sop M o (k1 k) (Qm M fi fv) (.tableswitch d lo hi offs) len pc ls st 0 0 L0 F A := by
  obtain ⟨x, r, rfl, h⟩ := pI_ok h
  exact ⟨h.1, swt_mono (fun _ q => k1_i hs q) _ _ h.2⟩
theorem z_ldc_w {i : Nat} (hs : Sr F A S) (h : s2 M o k fi fv (.ldc_w i) len pc ls st S) : sop M o (k1 k) (Qm M fi fv) (.ldc_w i) len pc ls st 0 0 L0 F A := by
  obtain ⟨rfl, h⟩ := h
  split at h
  · next v hv => exact ⟨rfl, by rw [hv]; exact k1_i hs h⟩
  · exact h.elim
theorem z_ldc2_w {i : Nat} (hs : Sr F A S) (h : s2 M o k fi fv (.ldc2_w i) len pc ls st S) : sop M o (k1 k) (Qm M fi fv) (.ldc2_w i) len pc ls st 0 0 L0 F A := by
  obtain ⟨rfl, h⟩ := h
  split at h
  · next v hv => exact ⟨rfl, by rw [hv]; exact k1_i hs h⟩
  · exact h.elim
theorem z_ldc {i : Nat} (hs : Sr F A S) (h : s2 M o k fi fv (.ldc i) len pc ls st S) : sop M o (k1 k) (Qm M fi fv) (.ldc i) len pc ls st 0 0 L0 F A := by
  obtain ⟨rfl, h⟩ := h
  split at h
  · next v hv => exact ⟨rfl, by rw [hv]; exact k1_i hs h⟩
  · next hv =>
    split at h
    · next j hj => exact ⟨rfl, by rw [hv, hj]; exact k1_i hs h⟩
    · exact h.elim
theorem z_getstatic {i : Nat} (hs : Sr F A S) (h : s2 M o k fi fv (.getstatic i) len pc ls st S) : sop M o (k1 k) (Qm M fi fv) (.getstatic i) len pc ls st 0 0 L0 F A := by
  obtain ⟨rfl, h⟩ := h
  split at h
  · next u q hv => exact ⟨rfl, by rw [hv]; exact k1_i hs h⟩
  · exact h.elim
theorem z_getfield {i : Nat} (hs : Sr F A S) (h : s2 M o k fi fv (.getfield i) len pc ls st S) : sop M o (k1 k) (Qm M fi fv) (.getfield i) len pc ls st 0 0 L0 F A := by
  obtain ⟨rfl, h⟩ := h
  obtain ⟨a, r, rfl, h⟩ := pR_ok h
  split at h
  · next ci j n ns rf fin hc =>
    obtain ⟨⟨h1, h2⟩, h3⟩ := h
    refine ⟨rfl, ?_⟩
    show (match cpF o i with | some (ci, j, n, _, _, _) => _ | none => _)
    rw [hc]
    refine ⟨h1, h2, ?_⟩
    rw [hs.1 a (by rw [h2]; simp)]
    exact k1_i hs h3
  · next hc =>
    split at h
    · next u hu =>
      obtain ⟨⟨h1, h2⟩, h3⟩ := h
      refine ⟨rfl, ?_⟩
      show (match cpF o i with | some (ci, j, n, _, _, _) => _ | none => _)
      rw [hc, hu]
      exact ⟨h1, h2, k1_i hs h3⟩
    · exact h.elim
theorem z_putfield {i : Nat} (hs : Sr F A S) (h : s2 M o k fi fv (.putfield i) len pc ls st S) : sop M o (k1 k) (Qm M fi fv) (.putfield i) len pc ls st 0 0 L0 F A := by
  obtain ⟨rfl, h⟩ := h
  obtain ⟨v, a, r, rfl, h⟩ := pVR_ok h
  split at h
  · next ci j n ns rf fin hc =>
    obtain ⟨⟨h1, h2, h3⟩, h4⟩ := h
    refine ⟨rfl, ?_⟩
    show (match cpF o i with | some (ci, j, n, ns, rf, fi) => _ | none => _)
    rw [hc]
    refine ⟨h1, h2, ?_⟩
    cases v with
    | int x =>
      obtain ⟨⟨g1, g2, g3⟩, g4⟩ := h4
      refine ⟨g1, Or.inl h3, k1_i (Sr_ob hs (by rw [h2]; simp) ?_) g4⟩
      unfold Fc
      rw [if_neg (by rw [g2]; decide), g3]
      simp [upA, upd]
    | ref b =>
      obtain ⟨⟨g1, g2, g3⟩, g4⟩ := h4
      refine ⟨g1, Or.inl h3, k1_i (Sr_ob hs (by rw [h2]; simp) ?_) g4⟩
      unfold Fc
      rw [if_pos g2]
      simp only [upA, upd, if_true]
      rw [nI_clamp (Nat.lt_trans g3 (by decide))]
    | _ => exact h4.elim
  · exact h.elim
theorem z_iaload (hs : Sr F A S) (h : s2 M o k fi fv (.iaload) len pc ls st S) : sop M o (k1 k) (Qm M fi fv) (.iaload) len pc ls st 0 0 L0 F A := by
  obtain ⟨rfl, h⟩ := h
  obtain ⟨i, a, r, rfl, h2⟩ := pIR_ok h
  obtain ⟨n, f, hq, hin, h3⟩ := rdA_ok h2
  refine ⟨rfl, ?_⟩
  show rdA (ald M L0 A a 1) i (fun x => k1 k (pc + 1) ls (Value.int x :: r) 0 0 L0 F A)
  rw [ald_sr hs (by omega), hq]
  exact ⟨hin, k1_i hs h3⟩
theorem z_baload (hs : Sr F A S) (h : s2 M o k fi fv (.baload) len pc ls st S) : sop M o (k1 k) (Qm M fi fv) (.baload) len pc ls st 0 0 L0 F A := by
  obtain ⟨rfl, h⟩ := h
  obtain ⟨i, a, r, rfl, h2⟩ := pIR_ok h
  obtain ⟨n, f, hq, hin, h3⟩ := rdA_ok h2
  refine ⟨rfl, ?_⟩
  show rdA (ald M L0 A a (if a < 1000 then 2 else 3)) i (fun x => k1 k (pc + 1) ls (Value.int x :: r) 0 0 L0 F A)
  have e : ald M L0 A a (if a < 1000 then 2 else 3) = ald M L0 S a (if a < 1000 then 2 else 3) := by
    by_cases ha : a < 1000
    · rw [if_pos ha]; exact ald_sr hs (by omega)
    · exact ald_s3 ha _
  rw [e, hq]
  exact ⟨hin, k1_i hs h3⟩
theorem z_arraylength (hs : Sr F A S) (h : s2 M o k fi fv (.arraylength) len pc ls st S) : sop M o (k1 k) (Qm M fi fv) (.arraylength) len pc ls st 0 0 L0 F A := by
  obtain ⟨rfl, h⟩ := h
  obtain ⟨a, r, rfl, h2⟩ := pR_ok h
  obtain ⟨n, f, hq, h3⟩ := lnA_ok h2
  refine ⟨rfl, ?_⟩
  show lnA (ald M L0 A a (if a < 1000 then 1 else if a < 1200 then 3 else 1)) (fun x => k1 k (pc + 1) ls (Value.int x :: r) 0 0 L0 F A)
  have e : ald M L0 A a (if a < 1000 then 1 else if a < 1200 then 3 else 1) = ald M L0 S a (if a < 1000 then 1 else if a < 1200 then 3 else 1) := by
    by_cases ha : a < 1000
    · rw [if_pos ha]; exact ald_sr hs (by omega)
    · exact ald_s3 ha _
  rw [e, hq]
  exact k1_i hs h3
theorem z_iastore (hs : Sr F A S) (h : s2 M o k fi fv (.iastore) len pc ls st S) : sop M o (k1 k) (Qm M fi fv) (.iastore) len pc ls st 0 0 L0 F A := by
  obtain ⟨rfl, h⟩ := h
  obtain ⟨x, i, a, r, rfl, h2⟩ := pIIR_ok h
  obtain ⟨⟨h1, h3⟩, h4, h5⟩ := h2
  refine ⟨rfl, h1, h3, h4, ?_⟩
  rw [hs.2 a (by rw [h3]; omega)]
  exact k1_i (Sr_ar hs (by rw [h3]; omega)) h5
theorem z_bastore (hs : Sr F A S) (h : s2 M o k fi fv (.bastore) len pc ls st S) : sop M o (k1 k) (Qm M fi fv) (.bastore) len pc ls st 0 0 L0 F A := by
  obtain ⟨rfl, h⟩ := h
  obtain ⟨x, i, a, r, rfl, h2⟩ := pIIR_ok h
  obtain ⟨⟨h1, h3⟩, h4, h5⟩ := h2
  refine ⟨rfl, h1, h3, h4, ?_⟩
  rw [hs.2 a (by rw [h3]; omega)]
  exact k1_i (Sr_ar hs (by rw [h3]; omega)) h5
theorem z_invokevirtual {i : Nat} (hs : Sr F A S) (h : s2 M o k fi fv (.invokevirtual i) len pc ls st S) : sop M o (k1 k) (Qm M fi fv) (.invokevirtual i) len pc ls st 0 0 L0 F A := by
  exact ⟨h.1, sC2_ok hs h.2⟩
theorem z_invokestatic {i : Nat} (hs : Sr F A S) (h : s2 M o k fi fv (.invokestatic i) len pc ls st S) : sop M o (k1 k) (Qm M fi fv) (.invokestatic i) len pc ls st 0 0 L0 F A := by
  obtain ⟨rfl, h⟩ := h
  split at h
  · next u hu =>
    obtain ⟨h1, h⟩ := h
    refine ⟨rfl, ?_⟩
    show (match cpB o i with | some u => _ | none => _)
    rw [hu]
    refine ⟨⟨h1, Nat.zero_le _, Nat.zero_le _⟩, ?_⟩
    match u, h with
    | 0, h' =>
      obtain ⟨x, y, r, rfl, g1, g2⟩ := pII_ok h'
      exact ⟨g1, k1_i hs g2⟩
    | 1, h' =>
      obtain ⟨x, y, r, rfl, g1, g2⟩ := pII_ok h'
      exact ⟨g1, k1_i hs g2⟩
    | 2, h' =>
      obtain ⟨x, r, rfl, g1, g2⟩ := pI_ok h'
      exact ⟨g1, k1_i hs g2⟩
    | 3, h' => exact h'.elim
    | 4, h' =>
      obtain ⟨a, sp, b, dp, n, r, rfl, g1, g2, g3, g4, g5, g6, g7, g8⟩ := pCpy_ok h'
      refine ⟨g1, g2, g3, g4, g5, g6, g7, ?_⟩
      rw [ald_sr hs (by omega)]
      split at g8
      · next m f hq =>
        obtain ⟨q1, q2, q3⟩ := g8
        rw [hq]
        refine ⟨q1, q2, ?_⟩
        rw [hs.2 b (by rw [g6]; omega)]
        exact k1_i (Sr_ar hs (by rw [g6]; omega)) q3
      · exact g8.elim
    | q + 5, h' => exact h'.elim
  · next hu =>
    refine ⟨rfl, ?_⟩
    show (match cpB o i with | some u => _ | none => _)
    rw [hu]
    exact sC2_ok hs h
theorem z_ireturn (hs : Sr F A S) (h : s2 M o k fi fv (.ireturn) len pc ls st S) : sop M o (k1 k) (Qm M fi fv) (.ireturn) len pc ls st 0 0 L0 F A := by
  obtain ⟨rfl, h⟩ := h
  obtain ⟨v, r, rfl, h1, h2, h3⟩ := pI_ok h
  refine ⟨rfl, h1, Nat.zero_le _, Nat.zero_le _, h2, ?_⟩
  obtain ⟨ty, e, -⟩ := h2
  unfold Qm
  rw [e]
  exact ⟨v, S, rfl, rfl, hs, h3⟩
theorem z_return (hs : Sr F A S) (h : s2 M o k fi fv (.return_) len pc ls st S) : sop M o (k1 k) (Qm M fi fv) (.return_) len pc ls st 0 0 L0 F A := by
  obtain ⟨h0, h1, h2, h3⟩ := h
  refine ⟨h0, h1, Nat.zero_le _, Nat.zero_le _, h2, ?_⟩
  unfold Qm
  rw [h2]
  exact ⟨S, rfl, rfl, hs, h3⟩
theorem s2_sop {ins : Instr} (hs : Sr F A S) (h : s2 M o k fi fv ins len pc ls st S) : sop M o (k1 k) (Qm M fi fv) ins len pc ls st 0 0 L0 F A := by
  cases ins with
  | iadd => exact z_iadd hs h
  | isub => exact z_isub hs h
  | imul => exact z_imul hs h
  | iand => exact z_iand hs h
  | ior => exact z_ior hs h
  | ixor => exact z_ixor hs h
  | ishl => exact z_ishl hs h
  | ishr => exact z_ishr hs h
  | idiv => exact z_idiv hs h
  | irem => exact z_irem hs h
  | ladd => exact z_ladd hs h
  | lmul => exact z_lmul hs h
  | land => exact z_land hs h
  | lor => exact z_lor hs h
  | lcmp => exact z_lcmp hs h
  | ldiv => exact z_ldiv hs h
  | lshl => exact z_lshl hs h
  | lshr => exact z_lshr hs h
  | i2l => exact z_i2l hs h
  | i2c => exact z_i2c hs h
  | l2i => exact z_l2i hs h
  | dup => exact z_dup hs h
  | pop => exact z_pop hs h
  | dup_x1 => exact z_dup_x1 hs h
  | dup2 => exact z_dup2 hs h
  | iconst => exact z_iconst hs h
  | bipush => exact z_bipush hs h
  | sipush => exact z_sipush hs h
  | lconst => exact z_lconst hs h
  | iload => exact z_iload hs h
  | iload_n => exact z_iload_n hs h
  | lload => exact z_lload hs h
  | lload_n => exact z_lload_n hs h
  | aload => exact z_aload hs h
  | aload_n => exact z_aload_n hs h
  | istore => exact z_istore hs h
  | istore_n => exact z_istore_n hs h
  | lstore => exact z_lstore hs h
  | lstore_n => exact z_lstore_n hs h
  | astore => exact z_astore hs h
  | astore_n => exact z_astore_n hs h
  | iinc => exact z_iinc hs h
  | ifCond => exact z_ifCond hs h
  | if_icmp => exact z_if_icmp hs h
  | goto => exact z_goto hs h
  | tableswitch => exact z_tableswitch hs h
  | ldc => exact z_ldc hs h
  | ldc_w => exact z_ldc_w hs h
  | ldc2_w => exact z_ldc2_w hs h
  | getstatic => exact z_getstatic hs h
  | getfield => exact z_getfield hs h
  | putfield => exact z_putfield hs h
  | iaload => exact z_iaload hs h
  | baload => exact z_baload hs h
  | iastore => exact z_iastore hs h
  | bastore => exact z_bastore hs h
  | arraylength => exact z_arraylength hs h
  | invokevirtual => exact z_invokevirtual hs h
  | invokestatic => exact z_invokestatic hs h
  | ireturn => exact z_ireturn hs h
  | return_ => exact z_return hs h
  | _ => exact h.elim
theorem sn2_ok {b : ByteArray} (hb : b = mB M) (ho : o = mO M) (hk : ∀ pc ls st S, k pc ls st S → Ok2 M pc ls st S fi fv) (h : sn2 M b o k fi fv pc ls st S) : Ok2 M pc ls st S fi fv := by
  intro F A hs
  subst hb
  unfold sn2 at h
  split at h
  · next ins len hd =>
    refine sop_ok ho ?_ hd (s2_sop hs h)
    rintro pc ls st c z L F A ⟨rfl, rfl, rfl, S, hs, hk2⟩
    exact hk pc ls st S hk2 F A hs
  · exact h.elim
abbrev xT : Type := Nat → Option (xS → List Value → xA → Prop)
theorem sg2_ok {b : ByteArray} {K : xT} (hb : b = mB M) (ho : o = mO M) (hK : ∀ pc P, K pc = some P → ∀ ls st S, P ls st S → Ok2 M pc ls st S fi fv) : ∀ n pc ls st S, sg2 M b o K fi fv n pc ls st S → Ok2 M pc ls st S fi fv
  | 0 => fun _ _ _ _ h => h.elim
  | n + 1 => fun pc ls st S h => by
    unfold sg2 at h
    split at h
    · next P hP => exact hK pc P hP ls st S h
    · exact sn2_ok hb ho (sg2_ok hb ho hK n) h
theorem ok2_seg (n : Nat) (K : xT) {b : ByteArray} (hb : b = mB M) (ho : o = mO M) (h : sn2 M b o (sg2 M b o K fi fv n) fi fv pc ls st S) (hK : ∀ pc P, K pc = some P → ∀ ls st S, P ls st S → Ok2 M pc ls st S fi fv) : Ok2 M pc ls st S fi fv :=
  sn2_ok hb ho (sg2_ok hb ho hK n) h
theorem ci_of {T : xM} {as : List Value} {S : xA} {f : xP} {fv : xA → Prop} {ls : xS} {ty : FieldType} (hls : lE as ++ List.replicate (mN T - (lE as).length) none = ls) (hln : (lE as).length ≤ mN T) (hpl : plainName (mY T).cls = true) (hown : xO (mO T) = (mY T).cls) (hx : mX T = none) (ht : mT T = some ty) (h : Ok2 T 0 ls [] S f fv) : CI T as S f := by
  have := call_of T as L0 (Fc S) S (Qm T f fv) hls hln hpl hown hx (h (Fc S) S (Sr_rf S))
  unfold Qm at this
  rw [ht] at this
  exact this
theorem cv_of {T : xM} {as : List Value} {S : xA} {f : xP} {fv : xA → Prop} {ls : xS} (hls : lE as ++ List.replicate (mN T - (lE as).length) none = ls) (hln : (lE as).length ≤ mN T) (hpl : plainName (mY T).cls = true) (hown : xO (mO T) = (mY T).cls) (hx : mX T = none) (ht : mT T = none) (h : Ok2 T 0 ls [] S f fv) : CV T as S fv := by
  have := call_of T as L0 (Fc S) S (Qm T f fv) hls hln hpl hown hx (h (Fc S) S (Sr_rf S))
  unfold Qm at this
  rw [ht] at this
  exact this
end S2
