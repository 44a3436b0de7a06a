-- what holds between the two objects, between calls
def EQ (n : Nat) (a b : Nat → Int32) : Prop := ∀ i, i < n → a i = b i
def RG (n : Nat) (m : Int) (a : Nat → Int32) : Prop := ∀ i, i < n → 0 ≤ (a i).toInt ∧ (a i).toInt ≤ m
def JA (n : Nat) (m : Int) (a b : Nat → Int32) : Prop := ∀ i, i < n → a i = b i ∧ 0 ≤ (a i).toInt ∧ (a i).toInt ≤ m
def JN (m : Int) (a b : Int32) : Prop := a = b ∧ 0 ≤ a.toInt ∧ a.toInt ≤ m
def tri (d : Nat → Nat → Nat) : Prop := (∀ i j k, i < 8 → j < 8 → k < 8 → d i k ≤ d i j + d j k) ∧ ∀ i, i < 8 → d i i = 0
def JR (r : Int32) (w : Nat → Int32) (w' : Nat → Int32) : Prop := ∃ d : Nat → Nat → Nat, tri d ∧ (∀ i j, i < 8 → j < 8 → d i j ≤ 1000000 ∧ (d i j = 1000000 ∨ d i j ≤ 30 * (2 ^ r.toNatClampNeg - 1)) ∧ w' (8 * i + j) = nI (d i j) ∧ w (8 * i + j) = if d i j = 1000000 then -1 else nI (d i j))
def JLk (a b : Nat → Int32) : Prop := ∀ i, i < 24 → a i = b i ∧ (a i = -1 ∨ 0 ≤ (a i).toInt)
/-- the clauses: the class's kind and value out of the reference's kind, first, second -/
def clR (kc vc km f1 f2 : Int32) (r : Nat) : Prop :=
  (km = 0 ∧ kc = f1 ∧ vc = f2 ∧ 0 ≤ f1.toInt ∧ f1.toInt ≤ 2 ∧ 0 ≤ f2.toInt ∧ f2.toInt ≤ 15) ∨ (km = 1 ∧ kc = 3 ∧ vc = f1 ∧ 0 ≤ f1.toInt ∧ f1.toInt ≤ 99) ∨ (km = 2 ∧ kc = 4 ∧ vc = f1 ∧ 0 ≤ f1.toInt ∧ f1.toInt ≤ 99) ∨ (km = 3 ∧ kc = 5 ∧ vc = f1 ∧ 0 ≤ f1.toInt ∧ f1.toInt ≤ 100) ∨ (km = 4 ∧ kc = 6 ∧ vc = f1 ∧ 1 ≤ f1.toInt ∧ f1.toInt ≤ 9) ∨ (km = 5 ∧ kc = 7 ∧ vc = f1 ∧ 0 ≤ f1.toInt ∧ f1.toInt < r)
/-- the numbers 0 .. c-1, each once, by hours, then numbers -/
def sorted (c : Nat) (hr by' : Nat → Int32) : Prop := (∀ i, i < c → ∃ r, r < c ∧ by' i = nI r) ∧ (∀ r, r < c → ∃ i, i < c ∧ by' i = nI r) ∧ ∀ i j, i < j → j < c → (hr (by' i).toNatClampNeg).toInt < (hr (by' j).toNatClampNeg).toInt ∨ (hr (by' i).toNatClampNeg = hr (by' j).toNatClampNeg ∧ (by' i).toInt < (by' j).toInt)
def JRu (c : Int32) (hr sz by' kd vl : Nat → Int32) (c' : Int32) (hr' sz' kd' f1 f2 : Nat → Int32) : Prop := JN 8 c c' ∧ JA c.toNatClampNeg 240 hr hr' ∧ JA c.toNatClampNeg 8 sz sz' ∧ sorted c.toNatClampNeg hr by' ∧ ∀ r q, r < c.toNatClampNeg → q < (sz r).toNatClampNeg → clR (kd (8 * r + q)) (vl (8 * r + q)) (kd' (8 * r + q)) (f1 (8 * r + q)) (f2 (8 * r + q)) r
def JTx (n : Int32) (b : Nat → Int32) (n' : Int32) (b' : Nat → Int32) : Prop := JN 160 n n' ∧ JA n.toNatClampNeg 255 b b'
def JLd (c : Int32) (g n f t h s : Nat → Int32) (st lf ar : Nat → Int32) (c' : Int32) (g' n' f' t' h' s' st' lf' ar' : Nat → Int32) : Prop := JN 40 c c' ∧ JA c.toNatClampNeg 2 g g' ∧ JA c.toNatClampNeg 999 n n' ∧ JA c.toNatClampNeg 7 f f' ∧ JA c.toNatClampNeg 7 t t' ∧ EQ c.toNatClampNeg h h' ∧ EQ c.toNatClampNeg s s' ∧ EQ c.toNatClampNeg st st' ∧ EQ c.toNatClampNeg lf lf' ∧ EQ c.toNatClampNeg ar ar' ∧ (∀ i, c.toNatClampNeg ≤ i → i < 40 → s i = 0 ∧ st i = 0 ∧ lf i = -1 ∧ ar i = -1)
def JOr (c : Int32) (k u t h : Nat → Int32) (c' : Int32) (k' u' t' h' : Nat → Int32) : Prop := JN 40 c c' ∧ JA c.toNatClampNeg 3 k k' ∧ JA c.toNatClampNeg 5 u u' ∧ JA c.toNatClampNeg 7 t t' ∧ JA c.toNatClampNeg 240 h h'
def JLv (c : Int32) (a b f t s : Nat → Int32) (c' : Int32) (a' b' f' t' s' : Nat → Int32) : Prop := JN 24 c c' ∧ JA c.toNatClampNeg 7 a a' ∧ JA c.toNatClampNeg 7 b b' ∧ EQ c.toNatClampNeg f f' ∧ EQ c.toNatClampNeg t t' ∧ JA c.toNatClampNeg 1 s s'
def JGm (w l : Int32) (t t' : Nat → Int32) : Prop := ((w = 67 ∧ l = 68) ∨ (w = 68 ∧ l = 67)) ∧ ∀ i, i < 9 → t i = t' i ∧ -99 ≤ (t i).toInt ∧ (t i).toInt ≤ 99
def Inv (S : xA) : Prop :=
  JN 240 (S 0 11) (S 70 0) ∧ JN 14 (S 1 1) (S 70 1) ∧ JR (S 1 1) (S 2) (S 71) ∧
  JA 24 9999 (S 34) (S 72) ∧ JA 24 9999 (S 4) (S 73) ∧ JA 24 99 (S 5) (S 74) ∧ EQ 24 (S 35) (S 75) ∧ JLk (S 36) (S 76) ∧
  JA 48 999 (S 6) (S 77) ∧ EQ 48 (S 37) (S 78) ∧ EQ 48 (S 38) (S 79) ∧ EQ 48 (S 39) (S 80) ∧ JA 6 99999 (S 40) (S 81) ∧ JA 6 99999 (S 8) (S 82) ∧ EQ 6 (S 7) (S 83) ∧
  JOr (S 9 7) (S 10) (S 11) (S 12) (S 13) (S 70 15) (S 84) (S 85) (S 86) (S 87) ∧ S 70 20 = -1 ∧
  JRu (S 16 5) (S 17) (S 18) (S 19) (S 20) (S 21) (S 70 21) (S 88) (S 89) (S 90) (S 91) (S 92) ∧
  JTx (S 22 3) (S 23) (S 70 28) (S 93) ∧ S 22 6 = S 70 31 ∧
  JLd (S 26 6) (S 27) (S 28) (S 29) (S 30) (S 31) (S 32) (S 41) (S 42) (S 43) (S 70 41) (S 97) (S 98) (S 99) (S 100) (S 101) (S 102) (S 103) (S 104) (S 105) ∧
  JLv (S 59 5) (S 60) (S 61) (S 62) (S 63) (S 64) (S 70 51) (S 106) (S 107) (S 108) (S 109) (S 110) ∧
  JGm (S 65 3) (S 65 4) (S 66) (S 111)
def g3 (r : Int32) : xP := fun r' S => r = r' ∧ Inv S
def g2 (T : xM) (as : List Value) : xP := fun r S => CI T (.ref (70 : Nat) :: as) S (g3 r)
theorem ite_i {c a b : Prop} [Decidable c] (h1 : c → a) (h2 : ¬ c → b) : if c then a else b := by
  split
  · exact h1 ‹_›
  · exact h2 ‹_›
theorem g3_rf {r : Int32} {S : xA} (h : Inv S) : g3 r r S := ⟨rfl, h⟩
def Both (Mc Mm : xM) (as : List Value) (S : xA) : Prop := CI Mc (.ref (0 : Nat) :: as) S (g2 Mm as)
-- indices
theorem cl_eq {x : Int32} (h : 0 ≤ x.toInt) : (x.toNatClampNeg : Int) = x.toInt := (x_nn (by rw [lt_I, ti_0]; omega)).symm
theorem vp_I {x : Int32} {n : Nat} (h0 : 0 ≤ x.toInt) (h1 : x.toInt < n) : vp_in x n := vp_in_iff.mpr ⟨h0, h1⟩
theorem add_I {x y : Int32} (h1 : -2147483648 ≤ x.toInt + y.toInt) (h2 : x.toInt + y.toInt < 2147483648) : (x + y).toInt = x.toInt + y.toInt := by
  rw [Int32.toInt_add]
  exact Int.bmod_eq_of_le (by omega) (by omega)
theorem sub_I {x y : Int32} (h1 : -2147483648 ≤ x.toInt - y.toInt) (h2 : x.toInt - y.toInt < 2147483648) : (x - y).toInt = x.toInt - y.toInt := by
  rw [Int32.toInt_sub]
  exact Int.bmod_eq_of_le (by omega) (by omega)
theorem mul_I {x y : Int32} (h1 : -2147483648 ≤ x.toInt * y.toInt) (h2 : x.toInt * y.toInt < 2147483648) : (x * y).toInt = x.toInt * y.toInt := by
  rw [Int32.toInt_mul]
  exact Int.bmod_eq_of_le (by omega) (by omega)
theorem upd_t {f : Nat → Int32} {k : Nat} {x : Int32} (j : Nat) : upd f k x j = if j = k then x else f j := rfl
theorem upd_n {f : Nat → Int32} {k j : Nat} {x : Int32} (h : ¬ j = k) : upd f k x j = f j := pk_un h
theorem JA_up {n : Nat} {m : Int} {a b : Nat → Int32} {k : Nat} {x : Int32} (h : JA n m a b) (h0 : 0 ≤ x.toInt) (h1 : x.toInt ≤ m) : JA n m (upd a k x) (upd b k x) := by
  intro i hi
  rw [upd_t, upd_t]
  split
  · exact ⟨rfl, h0, h1⟩
  · exact h i hi
theorem EQ_up {n : Nat} {a b : Nat → Int32} {k : Nat} {x y : Int32} (h : EQ n a b) (hxy : x = y) : EQ n (upd a k x) (upd b k y) := by
  intro i hi
  rw [upd_t, upd_t]
  split
  · exact hxy
  · exact h i hi
theorem mul_c {x y : Int32} {m n : Nat} (hx0 : 0 ≤ x.toInt) (hx1 : x.toInt < m) (hy0 : 0 ≤ y.toInt) (hy1 : y.toInt < n) (c : Nat) (k : Int32) (hk : k.toInt = c) (hc : m * c + n < 1000000) : (x * k + y).toInt = x.toInt * c + y.toInt := by
  have e1 : x.toInt * (c : Int) ≤ m * c := Int.mul_le_mul_of_nonneg_right (by omega) (by omega)
  have e2 : 0 ≤ x.toInt * (c : Int) := Int.mul_nonneg hx0 (by omega)
  have e3 : (m : Int) * c = ((m * c : Nat) : Int) := by simp
  have h1 : (x * k).toInt = x.toInt * c := by
    rw [mul_I] <;> rw [hk] <;> omega
  rw [add_I] <;> rw [h1] <;> omega
set_option maxHeartbeats 4000000 in
theorem t_fault (S : xA) (hI : Inv S) : Both mX9_fault mX10_fault [] S := by
  show CI mX9_fault _ _ _
  refine ci_of (T := mX9_fault) (fv := fun _ => True) (ls := [some (.ref (0 : Nat))]) rfl (Nat.le_of_ble_eq_true rfl) (by decide) rfl rfl rfl (ok2_0 cX9_fault 9 40 rfl rfl ?_)
  simp only [sw3_c, sw3_n, Nat.reduceEqDiff, not_false_eq_true, Nat.zero_le, Nat.reduceLeDiff, Nat.reduceLT, Nat.reduceAdd, sg_s, ↓kif_0, ↓kif_c, ↓reduceIte, nl_n, nl_i, nl_r, List.length_cons, List.length_nil, true_and, and_true, upA_s, upA_n, upA_u, Prod.mk.injEq, and_self, Fr_0_4, Fr_22_6, oL_0, oL_22, (j_aload_n_0 dX9_fault_0 (n := 1) rfl), (j_getf dX9_fault_1 (n := 4) rfl cF_9_42), (j_getf dX9_fault_4 (n := 7) rfl cF_9_208), (j_iret dX9_fault_7 (n := 8) rfl), rOk_i (M := mX9_fault) rfl]
  show CI mX10_fault _ _ _
  refine ci_of (T := mX10_fault) (fv := fun _ => True) (ls := [some (.ref (70 : Nat))]) rfl (Nat.le_of_ble_eq_true rfl) (by decide) rfl rfl rfl (ok2_0 cX10_fault 10 40 rfl rfl ?_)
  simp only [sw3_c, sw3_n, Nat.reduceEqDiff, not_false_eq_true, Nat.zero_le, Nat.reduceLeDiff, Nat.reduceLT, Nat.reduceAdd, sg_s, ↓kif_0, ↓kif_c, ↓reduceIte, nl_n, nl_i, nl_r, List.length_cons, List.length_nil, true_and, and_true, upA_s, upA_n, upA_u, Prod.mk.injEq, and_self, Fr_70_31, oL_70, (j_aload_n_0 dX10_fault_0 (n := 1) rfl), (j_getf dX10_fault_1 (n := 4) rfl cF_10_83), (j_iret dX10_fault_4 (n := 5) rfl), rOk_i (M := mX10_fault) rfl]
  exact ⟨hI.2.2.2.2.2.2.2.2.2.2.2.2.2.2.2.2.2.2.2.1, hI⟩
