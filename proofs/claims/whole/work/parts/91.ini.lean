-- the constructors: what they leave
def Tk (k : Nat) : xL := L0.take k
theorem L0_len : L0.length = 114 := rfl
theorem Tk_len (k : Nat) (h : k ≤ 114) : (Tk k).length = k := by
  unfold Tk
  rw [List.length_take, L0_len]
  omega
theorem Tk_get (k a : Nat) (h : a < k) : (Tk k).getD a (0, 0) = Ld a := by
  unfold Tk Ld
  rw [List.getD_eq_getElem?_getD, List.getD_eq_getElem?_getD, List.getElem?_take_of_lt h]
theorem Tk_app (k : Nat) (d : Nat × Nat) (h : k < 114) (hd : Ld k = d) : Tk k ++ [d] = Tk (k + 1) := by
  unfold Tk
  subst hd
  unfold Ld
  rw [List.take_add_one, List.getD_eq_getElem?_getD, List.getElem?_eq_getElem (by rw [L0_len]; exact h)]
  rfl
theorem Tk_all : Tk 114 = L0 := rfl
/-- the int fields behind the constructors -/
def ivI (a j : Nat) : Int32 := if a = 22 ∧ j = 6 then -1 else if a = 70 ∧ (j = 31 ∨ j = 20) then -1 else if a = 65 ∧ j = 5 then 1 else if a = 65 ∧ j = 3 then 67 else if a = 65 ∧ j = 4 then 68 else 0
def fT (a j : Nat) : Value := if oD a j = true then .ref (ivI a j).toNatClampNeg else match rT.lookup (a, j) with
  | some b => .ref b
  | none => .int (ivI a j)
/-- the rows behind them -/
def zI (c i : Nat) : Int32 := if c = 2 then (if i % 9 = 0 then 0 else -1) else if c = 71 then (if i / 8 = i % 8 then 0 else 1000000) else if c = 7 ∨ c = 38 ∨ c = 51 ∨ c = 83 ∨ c = 79 then 20 else if c = 36 ∨ c = 49 ∨ c = 42 ∨ c = 43 ∨ c = 55 ∨ c = 56 ∨ c = 76 then -1 else 0
/-- a constructor: the object a is done, rows k .. k'-1 are there, all else is as it was -/
def ctP (a k k' : Nat) (F : xF) (A : xA) (Q : xQ) : Prop := ∀ (F' : xF) (A' : xA), (∀ j, j < (Ld a).2 → F' a j = fT a j) → (∀ b, ¬ b = a → F' b = F b) → (∀ b, b < k → A' b = A b) → (∀ b, k ≤ b → b < k' → (Ld b).1 ≤ 2 → ∀ i, i < (Ld b).2 → A' b i = zI b i) → Q none (Tk k') F' A'
section LP
variable {M : xM} {Q : xQ}
theorem ok1_fp (b : ByteArray) (o n a N : Nat) (P : Nat → xC) (hb : b = mB M) (ho : o = mO M)
    (hs : ∀ k, k < N → ∀ ls st c z L F A, P k ls st c z L F A → ∀ R : xC, (∀ ls st c z L F A, P (k + 1) ls st c z L F A → R ls st c z L F A) → sin M b o (seg M b o (kd a R K1) Q n) Q a ls st c z L F A)
    (he : ∀ ls st c z L F A, P N ls st c z L F A → Ok M a ls st c z L F A Q) : ∀ k, k ≤ N → ∀ ls st c z L F A, P k ls st c z L F A → Ok M a ls st c z L F A Q := by
  intro k hk
  obtain ⟨d, hd⟩ : ∃ d, d = N - k := ⟨_, rfl⟩
  induction d generalizing k with
  | zero =>
    have : k = N := by omega
    subst this
    exact he
  | succ d ih =>
    intro ls st c z L F A hP
    refine ok1_1 b o n a (P (k + 1)) hb ho (ih (k + 1) (by omega) (by omega)) ?_
    intro R hR
    exact hs k (by omega) ls st c z L F A hP R hR
end LP
set_option maxHeartbeats 4000000 in
theorem k_fill (a n : Nat) (v : Int32) (L : xL) (F : xF) (A : xA) (Q : xQ) (ha : a < 1000) (hL : L.getD a (0, 0) = (1, n)) (hn : n ≤ 100000) (h : Q none L F (upA A a (fillR (A a) 0 n v))) : CallOk mJ7_fill_53178 [.ref a, .int v] L F A Q := by
  refine call_of mJ7_fill_53178 [.ref a, .int v] L F A Q (ls := [some (.ref a), some (.int v), none, none]) rfl (Nat.le_of_ble_eq_true rfl) (by decide) rfl rfl ?_
  refine ok1_1 cJ7_fill_53178 14 20 5 (fun ls st c z L' F' A' => ls = [some (.ref a), some (.int v), some (.int (nI 0)), some (.int (nI n))] ∧ st = [] ∧ c = 0 ∧ z = 0 ∧ L' = L ∧ F' = F ∧ A' = A) rfl rfl ?_ ?_
  · intro ls st c z L' F' A' hq
    refine ok1_fp cJ7_fill_53178 14 30 5 n (fun k ls st c z L' F' A' => ls = [some (.ref a), some (.int v), some (.int (nI k)), some (.int (nI n))] ∧ st = [] ∧ c = 0 ∧ z = 0 ∧ L' = L ∧ F' = F ∧ A' = upA A a (fillR (A a) 0 k v)) rfl rfl ?_ ?_ 0 (by omega) ls st c z L' F' A' (by rw [fillR_0, upA_i]; exact hq)
    · rintro k hk _ _ _ _ L2 F2 A2 ⟨rfl, rfl, rfl, rfl, e1, e2, e3⟩ R hR
      rw [e1, e2, e3]
      simp only [Nat.reduceEqDiff, not_false_eq_true, Nat.zero_le, Nat.reduceLeDiff, Nat.reduceLT, Nat.reduceAdd, sg1_s, ↓kig_0, ↓kig_c, ↓reduceIte, nl_n, nl_i, nl_r, List.length_cons, List.length_nil, true_and, and_true, and_self, (n_iconst dJ7_fill_53178_0 (n := 1) rfl ki_0), (n_istore_n_2 dJ7_fill_53178_1 (n := 2) rfl), (n_aload_n_0 dJ7_fill_53178_2 (n := 3) rfl), (n_istore_n_3 dJ7_fill_53178_4 (n := 5) rfl), (n_iload_n_2 dJ7_fill_53178_5 (n := 6) rfl), (n_iload_n_3 dJ7_fill_53178_6 (n := 7) rfl), (n_ic_ge dJ7_fill_53178_7 (n := 10) rfl br_7_13), (n_aload_n_0 dJ7_fill_53178_10 (n := 11) rfl), (n_iload_n_2 dJ7_fill_53178_11 (n := 12) rfl), (n_iload_n_1 dJ7_fill_53178_12 (n := 13) rfl), (n_iast dJ7_fill_53178_13 (n := 14) rfl), (n_iinc_2 dJ7_fill_53178_14 (n := 17) rfl ki_1), (n_goto dJ7_fill_53178_17 (n := 20) rfl br_17_m12), (n_ret (M := mJ7_fill_53178) dJ7_fill_53178_20 (n := 21) rfl rfl)]
      rw [if_pos (nI_lt hk (by omega)), nI_clamp (n := k) (by omega), hL]
      refine ⟨⟨ha, rfl, vp_in_nI hk (by omega)⟩, hR _ _ _ _ _ _ _ ⟨by rw [nI_1], rfl, rfl, rfl, rfl, rfl, ?_⟩⟩
      have e := fillR_s (A a) 0 k v
      rw [Nat.zero_add] at e
      rw [upA_s, upA_u, e]
    · rintro _ _ _ _ L2 F2 A2 ⟨rfl, rfl, rfl, rfl, e1, e2, e3⟩
      rw [e1, e2, e3]
      refine ok1_0 cJ7_fill_53178 14 10 rfl rfl ?_
      simp only [Nat.reduceEqDiff, not_false_eq_true, Nat.zero_le, Nat.reduceLeDiff, Nat.reduceLT, Nat.reduceAdd, sg1_s, ↓kig_0, ↓kig_c, ↓reduceIte, nl_n, nl_i, nl_r, List.length_cons, List.length_nil, true_and, and_true, and_self, (n_iconst dJ7_fill_53178_0 (n := 1) rfl ki_0), (n_istore_n_2 dJ7_fill_53178_1 (n := 2) rfl), (n_aload_n_0 dJ7_fill_53178_2 (n := 3) rfl), (n_istore_n_3 dJ7_fill_53178_4 (n := 5) rfl), (n_iload_n_2 dJ7_fill_53178_5 (n := 6) rfl), (n_iload_n_3 dJ7_fill_53178_6 (n := 7) rfl), (n_ic_ge dJ7_fill_53178_7 (n := 10) rfl br_7_13), (n_aload_n_0 dJ7_fill_53178_10 (n := 11) rfl), (n_iload_n_2 dJ7_fill_53178_11 (n := 12) rfl), (n_iload_n_1 dJ7_fill_53178_12 (n := 13) rfl), (n_iast dJ7_fill_53178_13 (n := 14) rfl), (n_iinc_2 dJ7_fill_53178_14 (n := 17) rfl ki_1), (n_goto dJ7_fill_53178_17 (n := 20) rfl br_17_m12), (n_ret (M := mJ7_fill_53178) dJ7_fill_53178_20 (n := 21) rfl rfl)]
      rw [if_neg (nI_nlt (Nat.le_refl _) (by omega))]
      exact h
  · intro R hR
    have hal : ald mJ7_fill_53178 L A a 1 = some (n, A a) := by
      unfold ald
      rw [if_pos ha, if_pos (by rw [hL]), hL]
    have al : ∀ (k : xK) (pc : Nat) (ls : xS) (st : List Value) (c z : Nat), decode cJ7_fill_53178 pc = .ok (.arraylength, 1) → sin mJ7_fill_53178 cJ7_fill_53178 14 k Q pc ls (.ref a :: st) c z L F A = k (pc + 1) ls (.int (nI n) :: st) c z L F A := by
      intro k pc ls st c z hd
      rw [sin_at hd]
      simp only [sop, pR, if_pos ha, hal, lnA, true_and]
      rfl
    simp only [Nat.reduceEqDiff, not_false_eq_true, Nat.zero_le, Nat.reduceLeDiff, Nat.reduceLT, Nat.reduceAdd, sg1_s, ↓kig_0, ↓kig_c, ↓reduceIte, nl_n, nl_i, nl_r, List.length_cons, List.length_nil, true_and, and_true, and_self, (n_iconst dJ7_fill_53178_0 (n := 1) rfl ki_0), (n_istore_n_2 dJ7_fill_53178_1 (n := 2) rfl), (n_aload_n_0 dJ7_fill_53178_2 (n := 3) rfl), (n_istore_n_3 dJ7_fill_53178_4 (n := 5) rfl), (n_iload_n_2 dJ7_fill_53178_5 (n := 6) rfl), (n_iload_n_3 dJ7_fill_53178_6 (n := 7) rfl), (n_ic_ge dJ7_fill_53178_7 (n := 10) rfl br_7_13), (n_aload_n_0 dJ7_fill_53178_10 (n := 11) rfl), (n_iload_n_2 dJ7_fill_53178_11 (n := 12) rfl), (n_iload_n_1 dJ7_fill_53178_12 (n := 13) rfl), (n_iast dJ7_fill_53178_13 (n := 14) rfl), (n_iinc_2 dJ7_fill_53178_14 (n := 17) rfl ki_1), (n_goto dJ7_fill_53178_17 (n := 20) rfl br_17_m12), (n_ret (M := mJ7_fill_53178) dJ7_fill_53178_20 (n := 21) rfl rfl), al _ _ _ _ _ _ dJ7_fill_53178_3]
    exact hR _ _ _ _ _ _ _ ⟨rfl, rfl, rfl, rfl, rfl, rfl, rfl⟩
