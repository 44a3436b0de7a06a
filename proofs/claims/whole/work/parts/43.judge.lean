-- judge
theorem nI_div {a b : Nat} (ha : a < 2147483648) (hb : b < 2147483648) : nI a / nI b = nI (a / b) := by
  have h1 : (nI a).toInt = a := nI_toInt ha
  have h2 : (nI b).toInt = b := nI_toInt hb
  have h3 : a / b ≤ a := Nat.div_le_self a b
  have e : (a : Int) / (b : Int) = ((a / b : Nat) : Int) := (Int.natCast_ediv a b).symm
  apply Int32.toInt_inj.mp
  rw [Int32.toInt_div, h1, h2, Int.tdiv_eq_ediv_of_nonneg (Int.natCast_nonneg a), e]
  generalize a / b = q at h3
  rw [nI_toInt (by omega)]
  exact Int.bmod_eq_of_le (by omega) (by omega)
theorem nI_mod {a b : Nat} (ha : a < 2147483648) (hb : b < 2147483648) : nI a - nI a / nI b * nI b = nI (a % b) := by
  rw [nI_div ha hb]
  have e := Nat.div_add_mod a b
  rw [Nat.mul_comm] at e
  have h1 : (nI a).toInt = a := nI_toInt ha
  have h2 : (nI b).toInt = b := nI_toInt hb
  have h3 : a / b ≤ a := Nat.div_le_self a b
  generalize a / b = q at *
  generalize a % b = m at *
  have h4 : (nI q).toInt = (q : Int) := nI_toInt (by omega)
  have h5 : (q : Int) * (b : Int) = ((q * b : Nat) : Int) := by simp
  generalize q * b = w at *
  have h6 : (nI q * nI b).toInt = (w : Int) := by
    rw [mul_I] <;> rw [h4, h2, h5] <;> omega
  apply Int32.toInt_inj.mp
  rw [sub_I] <;> rw [h1, h6]
  · rw [nI_toInt (by omega)]; omega
  · omega
  · omega
theorem nI_ml (a b : Nat) : nI a * nI b = nI (a * b) := (Int32.ofNat_mul a b).symm
def scF (tb : Nat → Int32) (e : Int) (r : Nat) : Nat → Int32
  | 0 => 0
  | k + 1 => if decide (-e < (scF tb e r k).toInt ∧ (scF tb e r k).toInt < e) = true then scF tb e r k + tb (r / 9 ^ k % 3 * 3 + r / 9 ^ k / 3 % 3) else scF tb e r k
theorem scF_b {tb : Nat → Int32} {e : Int} {r : Nat} (ht : ∀ i, i < 9 → -99 ≤ (tb i).toInt ∧ (tb i).toInt ≤ 99) : ∀ k : Nat, k ≤ 1000 → -(99 * (k : Int)) ≤ (scF tb e r k).toInt ∧ (scF tb e r k).toInt ≤ 99 * (k : Int)
  | 0, _ => by rw [scF, ti_0]; omega
  | k + 1, h => by
    have ih := scF_b (e := e) (r := r) ht k (by omega)
    rw [scF]
    split
    · have h1 := Nat.mod_lt (r / 9 ^ k) (y := 3) (by omega)
      have h2 := Nat.mod_lt (r / 9 ^ k / 3) (y := 3) (by omega)
      have := ht (r / 9 ^ k % 3 * 3 + r / 9 ^ k / 3 % 3) (by omega)
      rw [add_I] <;> omega
    · omega
theorem scF_eq {tb tb' : Nat → Int32} {e : Int} {r : Nat} (ht : ∀ i, i < 9 → tb i = tb' i) : ∀ k, scF tb e r k = scF tb' e r k
  | 0 => rfl
  | k + 1 => by
    have h1 := Nat.mod_lt (r / 9 ^ k) (y := 3) (by omega)
    have h2 := Nat.mod_lt (r / 9 ^ k / 3) (y := 3) (by omega)
    rw [scF, scF, scF_eq ht k, ht _ (by omega)]
theorem p9 (r k : Nat) : r / 9 ^ k / 3 / 3 = r / 9 ^ (k + 1) ∧ r / 9 ^ k / 9 = r / 9 ^ (k + 1) := by
  have e : 9 ^ k * (3 * 3) = 9 ^ (k + 1) := by rw [Nat.pow_succ]
  have e2 : 9 ^ k * 9 = 9 ^ (k + 1) := by rw [Nat.pow_succ]
  constructor
  · rw [Nat.div_div_eq_div_mul, Nat.div_div_eq_div_mul, e]
  · rw [Nat.div_div_eq_div_mul, e2]
theorem abs_lt {x e : Int32} (hx : -100000 ≤ x.toInt ∧ x.toInt ≤ 100000) : ((if 0 ≤ x then x else 0 - x) < e) = (-e.toInt < x.toInt ∧ x.toInt < e.toInt) := by
  apply propext
  rw [lt_I]
  by_cases h : 0 ≤ x
  · rw [if_pos h]
    rw [le_I, ti_0] at h
    omega
  · rw [if_neg h]
    rw [le_I, ti_0] at h
    rw [sub_I] <;> rw [ti_0] <;> omega
set_option maxHeartbeats 4000000 in
theorem c_rows (N : Nat) (S : xA) (f : xP) (hN : N ≤ 6) (h : f (nI (9 ^ N)) S) : CI mX1_rows [.int (nI N)] S f := by
  refine ci_of (T := mX1_rows) (fv := fun _ => True) (ls := [some (.int (nI N)), none, none]) rfl (Nat.le_of_ble_eq_true rfl) (by decide) rfl rfl rfl (ok_for cX1_rows 1 40 4 N (fun k ls S' => ls = [some (.int (nI N)), some (.int (nI (9 ^ k))), some (.int (nI k))] ∧ S = S') rfl rfl ?_ ?_ ?_)
  · intro R hR
    simp only [sw3_c, sw3_n, Nat.reduceEqDiff, not_false_eq_true, Nat.zero_le, Nat.reduceLeDiff, Nat.reduceLT, Nat.reduceAdd, sg_s, ↓kif_0, ↓kif_c, ↓reduceIte, nl_n, nl_i, nl_r, List.length_cons, List.length_nil, true_and, and_true, upA_s, upA_n, upA_u, Prod.mk.injEq, and_self, (j_iconst dX1_rows_0 (n := 1) rfl ki_1), (j_istore_n_1 dX1_rows_1 (n := 2) rfl), (j_iconst dX1_rows_2 (n := 3) rfl ki_0), (j_istore_n_2 dX1_rows_3 (n := 4) rfl), (j_iload_n_2 dX1_rows_4 (n := 5) rfl), (j_iload_n_0 dX1_rows_5 (n := 6) rfl), (j_ic_ge dX1_rows_6 (n := 9) rfl br_6_14), (j_iload_n_1 dX1_rows_9 (n := 10) rfl), (j_bipush dX1_rows_10 (n := 12) rfl kb_9), (j_imul dX1_rows_12 (n := 13) rfl), (j_istore_n_1 dX1_rows_13 (n := 14) rfl), (j_iinc_2 dX1_rows_14 (n := 17) rfl ki_1), (j_goto dX1_rows_17 (n := 20) rfl br_17_m13), (j_iload_n_1 dX1_rows_20 (n := 21) rfl), (j_iret dX1_rows_21 (n := 22) rfl), rOk_i (M := mX1_rows) rfl, nl_x, pk_us]
    exact hR _ _ ⟨rfl, rfl⟩
  · rintro k hk _ _ ⟨rfl, rfl⟩ R hR
    simp only [sw3_c, sw3_n, Nat.reduceEqDiff, not_false_eq_true, Nat.zero_le, Nat.reduceLeDiff, Nat.reduceLT, Nat.reduceAdd, sg_s, ↓kif_0, ↓kif_c, ↓reduceIte, nl_n, nl_i, nl_r, List.length_cons, List.length_nil, true_and, and_true, upA_s, upA_n, upA_u, Prod.mk.injEq, and_self, (j_iconst dX1_rows_0 (n := 1) rfl ki_1), (j_istore_n_1 dX1_rows_1 (n := 2) rfl), (j_iconst dX1_rows_2 (n := 3) rfl ki_0), (j_istore_n_2 dX1_rows_3 (n := 4) rfl), (j_iload_n_2 dX1_rows_4 (n := 5) rfl), (j_iload_n_0 dX1_rows_5 (n := 6) rfl), (j_ic_ge dX1_rows_6 (n := 9) rfl br_6_14), (j_iload_n_1 dX1_rows_9 (n := 10) rfl), (j_bipush dX1_rows_10 (n := 12) rfl kb_9), (j_imul dX1_rows_12 (n := 13) rfl), (j_istore_n_1 dX1_rows_13 (n := 14) rfl), (j_iinc_2 dX1_rows_14 (n := 17) rfl ki_1), (j_goto dX1_rows_17 (n := 20) rfl br_17_m13), (j_iload_n_1 dX1_rows_20 (n := 21) rfl), (j_iret dX1_rows_21 (n := 22) rfl), rOk_i (M := mX1_rows) rfl, nl_x, pk_us]
    rw [if_pos (nI_lt hk (by omega)), nI_1]
    refine hR _ _ ⟨?_, rfl⟩
    have hk2 : k ≤ 5 := by omega
    have e : nI (9 ^ k) * 9 = nI (9 ^ (k + 1)) := by
      clear hR hk h
      have : k = 0 ∨ k = 1 ∨ k = 2 ∨ k = 3 ∨ k = 4 ∨ k = 5 := by omega
      rcases this with rfl | rfl | rfl | rfl | rfl | rfl <;> rfl
    rw [e]
  · rintro _ _ ⟨rfl, rfl⟩ R
    simp only [sw3_c, sw3_n, Nat.reduceEqDiff, not_false_eq_true, Nat.zero_le, Nat.reduceLeDiff, Nat.reduceLT, Nat.reduceAdd, sg_s, ↓kif_0, ↓kif_c, ↓reduceIte, nl_n, nl_i, nl_r, List.length_cons, List.length_nil, true_and, and_true, upA_s, upA_n, upA_u, Prod.mk.injEq, and_self, (j_iconst dX1_rows_0 (n := 1) rfl ki_1), (j_istore_n_1 dX1_rows_1 (n := 2) rfl), (j_iconst dX1_rows_2 (n := 3) rfl ki_0), (j_istore_n_2 dX1_rows_3 (n := 4) rfl), (j_iload_n_2 dX1_rows_4 (n := 5) rfl), (j_iload_n_0 dX1_rows_5 (n := 6) rfl), (j_ic_ge dX1_rows_6 (n := 9) rfl br_6_14), (j_iload_n_1 dX1_rows_9 (n := 10) rfl), (j_bipush dX1_rows_10 (n := 12) rfl kb_9), (j_imul dX1_rows_12 (n := 13) rfl), (j_istore_n_1 dX1_rows_13 (n := 14) rfl), (j_iinc_2 dX1_rows_14 (n := 17) rfl ki_1), (j_goto dX1_rows_17 (n := 20) rfl br_17_m13), (j_iload_n_1 dX1_rows_20 (n := 21) rfl), (j_iret dX1_rows_21 (n := 22) rfl), rOk_i (M := mX1_rows) rfl, nl_x, pk_us]
    rw [if_neg (nI_nlt (a := N) (b := N) (Nat.le_refl _) (by omega))]
    exact h
set_option maxHeartbeats 4000000 in
theorem c_score (N r : Nat) (e : Int32) (S : xA) (f : xP) (hN : N ≤ 6) (hr : r < 2147483648) (ht : ∀ i, i < 9 → -99 ≤ (S 66 i).toInt ∧ (S 66 i).toInt ≤ 99) (h : f (scF (S 66) e.toInt r N) S) : CI mX1_score [.ref (65 : Nat), .int (nI N), .int e, .int (nI r)] S f := by
  refine ci_of (T := mX1_score) (fv := fun _ => True) (ls := [some (.ref (65 : Nat)), some (.int (nI N)), some (.int e), some (.int (nI r)), none, none, none, none, none]) rfl (Nat.le_of_ble_eq_true rfl) (by decide) rfl rfl rfl (ok_for cX1_score 1 60 9 N (fun k ls S' => (∃ x y, ls = [some (.ref (65 : Nat)), some (.int (nI N)), some (.int e), some (.int (nI r)), some (.int (scF (S 66) e.toInt r k)), some (.int (nI (r / 9 ^ k))), some (.int (nI k)), lx x, lx y]) ∧ S = S') rfl rfl ?_ ?_ ?_)
  · intro R hR
    simp only [sw3_c, sw3_n, Nat.reduceEqDiff, not_false_eq_true, Nat.zero_le, Nat.reduceLeDiff, Nat.reduceLT, Nat.reduceAdd, sg_s, ↓kif_0, ↓kif_c, ↓reduceIte, nl_n, nl_i, nl_r, List.length_cons, List.length_nil, true_and, and_true, upA_s, upA_n, upA_u, Prod.mk.injEq, and_self, Fr_65_0, Ld_66, oA_66, oL_65, (j_iconst dX1_score_0 (n := 1) rfl ki_0), (j_istore_4 dX1_score_1 (n := 3) rfl), (j_iload_n_3 dX1_score_3 (n := 4) rfl), (j_istore_5 dX1_score_4 (n := 6) rfl), (j_iconst dX1_score_6 (n := 7) rfl ki_0), (j_istore_6 dX1_score_7 (n := 9) rfl), (j_iload_6 dX1_score_9 (n := 11) rfl), (j_iload_n_1 dX1_score_11 (n := 12) rfl), (j_ic_ge dX1_score_12 (n := 15) rfl br_12_57), (j_iload_5 dX1_score_15 (n := 17) rfl), (j_iconst dX1_score_17 (n := 18) rfl ki_3), (j_irem dX1_score_18 (n := 19) rfl), (j_istore_7 dX1_score_19 (n := 21) rfl), (j_iload_5 dX1_score_21 (n := 23) rfl), (j_iconst dX1_score_23 (n := 24) rfl ki_3), (j_idiv dX1_score_24 (n := 25) rfl), (j_iconst dX1_score_25 (n := 26) rfl ki_3), (j_irem dX1_score_26 (n := 27) rfl), (j_istore_8 dX1_score_27 (n := 29) rfl), (j_iload_5 dX1_score_29 (n := 31) rfl), (j_iconst dX1_score_31 (n := 32) rfl ki_3), (j_idiv dX1_score_32 (n := 33) rfl), (j_iconst dX1_score_33 (n := 34) rfl ki_3), (j_idiv dX1_score_34 (n := 35) rfl), (j_istore_5 dX1_score_35 (n := 37) rfl), (j_iload_4 dX1_score_37 (n := 39) rfl), (j_abs (M := mX1_score) dX1_score_39 (n := 42) rfl cB_1_31 l1_X1_score), (j_iload_n_2 dX1_score_42 (n := 43) rfl), (j_ic_ge dX1_score_43 (n := 46) rfl br_43_20), (j_iload_4 dX1_score_46 (n := 48) rfl), (j_aload_n_0 dX1_score_48 (n := 49) rfl), (j_getf dX1_score_49 (n := 52) rfl cF_1_9), (j_iload_7 dX1_score_52 (n := 54) rfl), (j_iconst dX1_score_54 (n := 55) rfl ki_3), (j_imul dX1_score_55 (n := 56) rfl), (j_iload_8 dX1_score_56 (n := 58) rfl), (j_iadd dX1_score_58 (n := 59) rfl), (j_iald dX1_score_59 (n := 60) rfl), (j_iadd dX1_score_60 (n := 61) rfl), (j_istore_4 dX1_score_61 (n := 63) rfl), (j_iinc_6 dX1_score_63 (n := 66) rfl ki_1), (j_goto dX1_score_66 (n := 69) rfl br_66_m57), (j_iload_4 dX1_score_69 (n := 71) rfl), (j_iret dX1_score_71 (n := 72) rfl), rOk_i (M := mX1_score) rfl, nl_x, pk_us]
    exact hR _ _ ⟨⟨none, none, by rw [Nat.pow_zero, Nat.div_one]; rfl⟩, rfl⟩
  · rintro k hk _ _ ⟨⟨x, y, rfl⟩, rfl⟩ R hR
    have hd : r / 9 ^ k < 2147483648 := Nat.lt_of_le_of_lt (Nat.div_le_self _ _) hr
    have hd2 : r / 9 ^ k / 3 < 2147483648 := Nat.lt_of_le_of_lt (Nat.div_le_self _ _) hd
    have h1 := Nat.mod_lt (r / 9 ^ k) (y := 3) (by omega)
    have h2 := Nat.mod_lt (r / 9 ^ k / 3) (y := 3) (by omega)
    have hb := scF_b (e := e.toInt) (r := r) ht k (by omega)
    simp only [sw3_c, sw3_n, Nat.reduceEqDiff, not_false_eq_true, Nat.zero_le, Nat.reduceLeDiff, Nat.reduceLT, Nat.reduceAdd, sg_s, ↓kif_0, ↓kif_c, ↓reduceIte, nl_n, nl_i, nl_r, List.length_cons, List.length_nil, true_and, and_true, upA_s, upA_n, upA_u, Prod.mk.injEq, and_self, Fr_65_0, Ld_66, oA_66, oL_65, (j_iconst dX1_score_0 (n := 1) rfl ki_0), (j_istore_4 dX1_score_1 (n := 3) rfl), (j_iload_n_3 dX1_score_3 (n := 4) rfl), (j_istore_5 dX1_score_4 (n := 6) rfl), (j_iconst dX1_score_6 (n := 7) rfl ki_0), (j_istore_6 dX1_score_7 (n := 9) rfl), (j_iload_6 dX1_score_9 (n := 11) rfl), (j_iload_n_1 dX1_score_11 (n := 12) rfl), (j_ic_ge dX1_score_12 (n := 15) rfl br_12_57), (j_iload_5 dX1_score_15 (n := 17) rfl), (j_iconst dX1_score_17 (n := 18) rfl ki_3), (j_irem dX1_score_18 (n := 19) rfl), (j_istore_7 dX1_score_19 (n := 21) rfl), (j_iload_5 dX1_score_21 (n := 23) rfl), (j_iconst dX1_score_23 (n := 24) rfl ki_3), (j_idiv dX1_score_24 (n := 25) rfl), (j_iconst dX1_score_25 (n := 26) rfl ki_3), (j_irem dX1_score_26 (n := 27) rfl), (j_istore_8 dX1_score_27 (n := 29) rfl), (j_iload_5 dX1_score_29 (n := 31) rfl), (j_iconst dX1_score_31 (n := 32) rfl ki_3), (j_idiv dX1_score_32 (n := 33) rfl), (j_iconst dX1_score_33 (n := 34) rfl ki_3), (j_idiv dX1_score_34 (n := 35) rfl), (j_istore_5 dX1_score_35 (n := 37) rfl), (j_iload_4 dX1_score_37 (n := 39) rfl), (j_abs (M := mX1_score) dX1_score_39 (n := 42) rfl cB_1_31 l1_X1_score), (j_iload_n_2 dX1_score_42 (n := 43) rfl), (j_ic_ge dX1_score_43 (n := 46) rfl br_43_20), (j_iload_4 dX1_score_46 (n := 48) rfl), (j_aload_n_0 dX1_score_48 (n := 49) rfl), (j_getf dX1_score_49 (n := 52) rfl cF_1_9), (j_iload_7 dX1_score_52 (n := 54) rfl), (j_iconst dX1_score_54 (n := 55) rfl ki_3), (j_imul dX1_score_55 (n := 56) rfl), (j_iload_8 dX1_score_56 (n := 58) rfl), (j_iadd dX1_score_58 (n := 59) rfl), (j_iald dX1_score_59 (n := 60) rfl), (j_iadd dX1_score_60 (n := 61) rfl), (j_istore_4 dX1_score_61 (n := 63) rfl), (j_iinc_6 dX1_score_63 (n := 66) rfl ki_1), (j_goto dX1_score_66 (n := 69) rfl br_66_m57), (j_iload_4 dX1_score_69 (n := 71) rfl), (j_iret dX1_score_71 (n := 72) rfl), rOk_i (M := mX1_score) rfl, nl_x, pk_us]
    rw [if_pos (nI_lt hk (by omega))]
    have z3 : (3 : Int32) = nI 3 := rfl
    rw [z3, nI_mod hd (by omega), nI_div hd (by omega), nI_mod hd2 (by omega), nI_div hd2 (by omega), (p9 r k).1, nI_1, nI_ml, nI_add, nI_clamp (by omega)]
    refine ⟨by decide, by decide, by decide, by decide, by decide, ?_⟩
    refine ite_i (fun q => ⟨vp_in_nI (by omega) (by omega), ?_⟩) (fun q => ?_)
    · rw [abs_lt (by omega)] at q
      exact hR _ _ ⟨⟨some _, some _, by rw [scF, if_pos (decide_eq_true q)]; rfl⟩, rfl⟩
    · rw [abs_lt (by omega)] at q
      exact hR _ _ ⟨⟨some _, some _, by rw [scF, if_neg (by rw [decide_eq_true_eq]; exact q)]; rfl⟩, rfl⟩
  · rintro _ _ ⟨⟨x, y, rfl⟩, rfl⟩ R
    simp only [sw3_c, sw3_n, Nat.reduceEqDiff, not_false_eq_true, Nat.zero_le, Nat.reduceLeDiff, Nat.reduceLT, Nat.reduceAdd, sg_s, ↓kif_0, ↓kif_c, ↓reduceIte, nl_n, nl_i, nl_r, List.length_cons, List.length_nil, true_and, and_true, upA_s, upA_n, upA_u, Prod.mk.injEq, and_self, Fr_65_0, Ld_66, oA_66, oL_65, (j_iconst dX1_score_0 (n := 1) rfl ki_0), (j_istore_4 dX1_score_1 (n := 3) rfl), (j_iload_n_3 dX1_score_3 (n := 4) rfl), (j_istore_5 dX1_score_4 (n := 6) rfl), (j_iconst dX1_score_6 (n := 7) rfl ki_0), (j_istore_6 dX1_score_7 (n := 9) rfl), (j_iload_6 dX1_score_9 (n := 11) rfl), (j_iload_n_1 dX1_score_11 (n := 12) rfl), (j_ic_ge dX1_score_12 (n := 15) rfl br_12_57), (j_iload_5 dX1_score_15 (n := 17) rfl), (j_iconst dX1_score_17 (n := 18) rfl ki_3), (j_irem dX1_score_18 (n := 19) rfl), (j_istore_7 dX1_score_19 (n := 21) rfl), (j_iload_5 dX1_score_21 (n := 23) rfl), (j_iconst dX1_score_23 (n := 24) rfl ki_3), (j_idiv dX1_score_24 (n := 25) rfl), (j_iconst dX1_score_25 (n := 26) rfl ki_3), (j_irem dX1_score_26 (n := 27) rfl), (j_istore_8 dX1_score_27 (n := 29) rfl), (j_iload_5 dX1_score_29 (n := 31) rfl), (j_iconst dX1_score_31 (n := 32) rfl ki_3), (j_idiv dX1_score_32 (n := 33) rfl), (j_iconst dX1_score_33 (n := 34) rfl ki_3), (j_idiv dX1_score_34 (n := 35) rfl), (j_istore_5 dX1_score_35 (n := 37) rfl), (j_iload_4 dX1_score_37 (n := 39) rfl), (j_abs (M := mX1_score) dX1_score_39 (n := 42) rfl cB_1_31 l1_X1_score), (j_iload_n_2 dX1_score_42 (n := 43) rfl), (j_ic_ge dX1_score_43 (n := 46) rfl br_43_20), (j_iload_4 dX1_score_46 (n := 48) rfl), (j_aload_n_0 dX1_score_48 (n := 49) rfl), (j_getf dX1_score_49 (n := 52) rfl cF_1_9), (j_iload_7 dX1_score_52 (n := 54) rfl), (j_iconst dX1_score_54 (n := 55) rfl ki_3), (j_imul dX1_score_55 (n := 56) rfl), (j_iload_8 dX1_score_56 (n := 58) rfl), (j_iadd dX1_score_58 (n := 59) rfl), (j_iald dX1_score_59 (n := 60) rfl), (j_iadd dX1_score_60 (n := 61) rfl), (j_istore_4 dX1_score_61 (n := 63) rfl), (j_iinc_6 dX1_score_63 (n := 66) rfl ki_1), (j_goto dX1_score_66 (n := 69) rfl br_66_m57), (j_iload_4 dX1_score_69 (n := 71) rfl), (j_iret dX1_score_71 (n := 72) rfl), rOk_i (M := mX1_score) rfl, nl_x, pk_us]
    rw [if_neg (nI_nlt (a := N) (b := N) (Nat.le_refl _) (by omega))]
    exact h

set_option maxHeartbeats 4000000 in
theorem c_judge10 (n e m : Int32) (S : xA) (f : xP) (ht : ∀ i, i < 9 → -99 ≤ (S 111 i).toInt ∧ (S 111 i).toInt ≤ 99) (h1 : ¬ ((1 ≤ n.toInt ∧ n.toInt ≤ 6) ∧ (1 ≤ e.toInt ∧ e.toInt ≤ 999)) ∨ m.toInt < 0 → f (-1002) S)
    (h2 : ((1 ≤ n.toInt ∧ n.toInt ≤ 6) ∧ (1 ≤ e.toInt ∧ e.toInt ≤ 999)) → 0 ≤ m.toInt → 9 ^ n.toNatClampNeg ≤ m.toNatClampNeg → f (-1002) S)
    (h3 : ((1 ≤ n.toInt ∧ n.toInt ≤ 6) ∧ (1 ≤ e.toInt ∧ e.toInt ≤ 999)) → 0 ≤ m.toInt → m.toNatClampNeg < 9 ^ n.toNatClampNeg → f (scF (S 111) e.toInt m.toNatClampNeg n.toNatClampNeg) S) : CI mX10_judge [.ref (70 : Nat), .int n, .int e, .int m] S f := by
  refine ci_of (T := mX10_judge) (fv := fun _ => True) (ls := [some (.ref (70 : Nat)), some (.int n), some (.int e), some (.int m), none, none, none, none, none]) rfl (Nat.le_of_ble_eq_true rfl) (by decide) rfl rfl rfl (ok_for cX10_judge 10 80 25 n.toNatClampNeg (fun k ls S' => (((1 ≤ n.toInt ∧ n.toInt ≤ 6) ∧ (1 ≤ e.toInt ∧ e.toInt ≤ 999)) ∧ 0 ≤ m.toInt) ∧ (∃ x y, ls = [some (.ref (70 : Nat)), some (.int n), some (.int e), some (.int m), some (.int (scF (S 111) e.toInt m.toNatClampNeg k)), some (.int (nI (m.toNatClampNeg / 9 ^ k))), some (.int (nI k)), lx x, lx y]) ∧ S = S') rfl rfl ?_ ?_ ?_)
  · intro R hR
    simp only [sw3_c, sw3_n, Nat.reduceEqDiff, not_false_eq_true, Nat.zero_le, Nat.reduceLeDiff, Nat.reduceLT, Nat.reduceAdd, sg_s, ↓kif_0, ↓kif_c, ↓reduceIte, nl_n, nl_i, nl_r, List.length_cons, List.length_nil, true_and, and_true, upA_s, upA_n, upA_u, Prod.mk.injEq, and_self, Fr_70_57, Ld_111, oA_111, oL_70, (j_iload_n_1 dX10_judge_0 (n := 1) rfl), (j_iload_n_2 dX10_judge_1 (n := 2) rfl), (j_cs2i (M := mX10_judge) dX10_judge_2 (n := 5) rfl cM_10_369 (Or.inl rfl) (o := 10) rfl lv_X10_judge_X10_isGame rfl), (j_if_eq dX10_judge_5 (n := 8) rfl br_5_7), (j_iload_n_3 dX10_judge_8 (n := 9) rfl), (j_if_ge dX10_judge_9 (n := 12) rfl br_9_7), (j_sipush dX10_judge_12 (n := 15) rfl ks_m1002), (j_iret dX10_judge_15 (n := 16) rfl), (j_iconst dX10_judge_16 (n := 17) rfl ki_0), (j_istore_4 dX10_judge_17 (n := 19) rfl), (j_iload_n_3 dX10_judge_19 (n := 20) rfl), (j_istore_5 dX10_judge_20 (n := 22) rfl), (j_iconst dX10_judge_22 (n := 23) rfl ki_0), (j_istore_6 dX10_judge_23 (n := 25) rfl), (j_iload_6 dX10_judge_25 (n := 27) rfl), (j_iload_n_1 dX10_judge_27 (n := 28) rfl), (j_ic_ge dX10_judge_28 (n := 31) rfl br_28_68), (j_iload_5 dX10_judge_31 (n := 33) rfl), (j_iconst dX10_judge_33 (n := 34) rfl ki_3), (j_irem dX10_judge_34 (n := 35) rfl), (j_istore_7 dX10_judge_35 (n := 37) rfl), (j_iload_5 dX10_judge_37 (n := 39) rfl), (j_iconst dX10_judge_39 (n := 40) rfl ki_3), (j_idiv dX10_judge_40 (n := 41) rfl), (j_iconst dX10_judge_41 (n := 42) rfl ki_3), (j_irem dX10_judge_42 (n := 43) rfl), (j_istore_8 dX10_judge_43 (n := 45) rfl), (j_iload_5 dX10_judge_45 (n := 47) rfl), (j_bipush dX10_judge_47 (n := 49) rfl kb_9), (j_idiv dX10_judge_49 (n := 50) rfl), (j_istore_5 dX10_judge_50 (n := 52) rfl), (j_iload_4 dX10_judge_52 (n := 54) rfl), (j_iload_4 dX10_judge_54 (n := 56) rfl), (j_i2l dX10_judge_56 (n := 57) rfl), (j_iconst dX10_judge_57 (n := 58) rfl ki_1), (j_iload_n_2 dX10_judge_58 (n := 59) rfl), (j_isub dX10_judge_59 (n := 60) rfl), (j_i2l dX10_judge_60 (n := 61) rfl), (j_iload_n_2 dX10_judge_61 (n := 62) rfl), (j_iconst dX10_judge_62 (n := 63) rfl ki_1), (j_isub dX10_judge_63 (n := 64) rfl), (j_i2l dX10_judge_64 (n := 65) rfl), (j_cs3i (M := mX10_judge) dX10_judge_65 (n := 68) rfl cM_10_150 (Or.inl rfl) (o := 10) rfl lv_X10_judge_X10_in rfl), (j_if_eq dX10_judge_68 (n := 71) rfl br_68_18), (j_aload_n_0 dX10_judge_71 (n := 72) rfl), (j_getf dX10_judge_72 (n := 75) rfl cF_10_138), (j_iconst dX10_judge_75 (n := 76) rfl ki_3), (j_iload_7 dX10_judge_76 (n := 78) rfl), (j_imul dX10_judge_78 (n := 79) rfl), (j_iload_8 dX10_judge_79 (n := 81) rfl), (j_iadd dX10_judge_81 (n := 82) rfl), (j_iald dX10_judge_82 (n := 83) rfl), (j_goto dX10_judge_83 (n := 86) rfl br_83_4), (j_iconst dX10_judge_86 (n := 87) rfl ki_0), (j_iadd dX10_judge_87 (n := 88) rfl), (j_istore_4 dX10_judge_88 (n := 90) rfl), (j_iinc_6 dX10_judge_90 (n := 93) rfl ki_1), (j_goto dX10_judge_93 (n := 96) rfl br_93_m68), (j_iload_5 dX10_judge_96 (n := 98) rfl), (j_if_le dX10_judge_98 (n := 101) rfl br_98_9), (j_sipush dX10_judge_101 (n := 104) rfl ks_m1002), (j_goto dX10_judge_104 (n := 107) rfl br_104_5), (j_iload_4 dX10_judge_107 (n := 109) rfl), (j_iret dX10_judge_109 (n := 110) rfl), rOk_i (M := mX10_judge) rfl, nl_x, pk_us]
    refine c_isGame _ _ _ _ ?_
    simp only [bI_0, decide_eq_false_iff_not, lt_I, ti_0]
    refine ite_i (fun q => h1 (Or.inl q)) (fun q => ite_i (fun q2 => h1 (Or.inr q2)) (fun q2 => ?_))
    rw [Classical.not_not] at q
    exact hR _ _ ⟨⟨q, by omega⟩, ⟨none, none, by rw [Nat.pow_zero, Nat.div_one, nI_cl (by omega)]; rfl⟩, rfl⟩
  · rintro k hk _ _ ⟨⟨⟨g1, g2⟩, g3⟩, ⟨x, y, rfl⟩, rfl⟩ R hR
    have hN := cl_eq (x := n) (by omega)
    have hr : m.toNatClampNeg < 2147483648 := by
      have := cl_eq (x := m) g3
      have := m.toInt_lt
      omega
    have hd : m.toNatClampNeg / 9 ^ k < 2147483648 := Nat.lt_of_le_of_lt (Nat.div_le_self _ _) hr
    have hd2 : m.toNatClampNeg / 9 ^ k / 3 < 2147483648 := Nat.lt_of_le_of_lt (Nat.div_le_self _ _) hd
    have a1 := Nat.mod_lt (m.toNatClampNeg / 9 ^ k) (y := 3) (by omega)
    have a2 := Nat.mod_lt (m.toNatClampNeg / 9 ^ k / 3) (y := 3) (by omega)
    have hb := scF_b (e := e.toInt) (r := m.toNatClampNeg) ht k (by omega)
    simp only [sw3_c, sw3_n, Nat.reduceEqDiff, not_false_eq_true, Nat.zero_le, Nat.reduceLeDiff, Nat.reduceLT, Nat.reduceAdd, sg_s, ↓kif_0, ↓kif_c, ↓reduceIte, nl_n, nl_i, nl_r, List.length_cons, List.length_nil, true_and, and_true, upA_s, upA_n, upA_u, Prod.mk.injEq, and_self, Fr_70_57, Ld_111, oA_111, oL_70, (j_iload_n_1 dX10_judge_0 (n := 1) rfl), (j_iload_n_2 dX10_judge_1 (n := 2) rfl), (j_cs2i (M := mX10_judge) dX10_judge_2 (n := 5) rfl cM_10_369 (Or.inl rfl) (o := 10) rfl lv_X10_judge_X10_isGame rfl), (j_if_eq dX10_judge_5 (n := 8) rfl br_5_7), (j_iload_n_3 dX10_judge_8 (n := 9) rfl), (j_if_ge dX10_judge_9 (n := 12) rfl br_9_7), (j_sipush dX10_judge_12 (n := 15) rfl ks_m1002), (j_iret dX10_judge_15 (n := 16) rfl), (j_iconst dX10_judge_16 (n := 17) rfl ki_0), (j_istore_4 dX10_judge_17 (n := 19) rfl), (j_iload_n_3 dX10_judge_19 (n := 20) rfl), (j_istore_5 dX10_judge_20 (n := 22) rfl), (j_iconst dX10_judge_22 (n := 23) rfl ki_0), (j_istore_6 dX10_judge_23 (n := 25) rfl), (j_iload_6 dX10_judge_25 (n := 27) rfl), (j_iload_n_1 dX10_judge_27 (n := 28) rfl), (j_ic_ge dX10_judge_28 (n := 31) rfl br_28_68), (j_iload_5 dX10_judge_31 (n := 33) rfl), (j_iconst dX10_judge_33 (n := 34) rfl ki_3), (j_irem dX10_judge_34 (n := 35) rfl), (j_istore_7 dX10_judge_35 (n := 37) rfl), (j_iload_5 dX10_judge_37 (n := 39) rfl), (j_iconst dX10_judge_39 (n := 40) rfl ki_3), (j_idiv dX10_judge_40 (n := 41) rfl), (j_iconst dX10_judge_41 (n := 42) rfl ki_3), (j_irem dX10_judge_42 (n := 43) rfl), (j_istore_8 dX10_judge_43 (n := 45) rfl), (j_iload_5 dX10_judge_45 (n := 47) rfl), (j_bipush dX10_judge_47 (n := 49) rfl kb_9), (j_idiv dX10_judge_49 (n := 50) rfl), (j_istore_5 dX10_judge_50 (n := 52) rfl), (j_iload_4 dX10_judge_52 (n := 54) rfl), (j_iload_4 dX10_judge_54 (n := 56) rfl), (j_i2l dX10_judge_56 (n := 57) rfl), (j_iconst dX10_judge_57 (n := 58) rfl ki_1), (j_iload_n_2 dX10_judge_58 (n := 59) rfl), (j_isub dX10_judge_59 (n := 60) rfl), (j_i2l dX10_judge_60 (n := 61) rfl), (j_iload_n_2 dX10_judge_61 (n := 62) rfl), (j_iconst dX10_judge_62 (n := 63) rfl ki_1), (j_isub dX10_judge_63 (n := 64) rfl), (j_i2l dX10_judge_64 (n := 65) rfl), (j_cs3i (M := mX10_judge) dX10_judge_65 (n := 68) rfl cM_10_150 (Or.inl rfl) (o := 10) rfl lv_X10_judge_X10_in rfl), (j_if_eq dX10_judge_68 (n := 71) rfl br_68_18), (j_aload_n_0 dX10_judge_71 (n := 72) rfl), (j_getf dX10_judge_72 (n := 75) rfl cF_10_138), (j_iconst dX10_judge_75 (n := 76) rfl ki_3), (j_iload_7 dX10_judge_76 (n := 78) rfl), (j_imul dX10_judge_78 (n := 79) rfl), (j_iload_8 dX10_judge_79 (n := 81) rfl), (j_iadd dX10_judge_81 (n := 82) rfl), (j_iald dX10_judge_82 (n := 83) rfl), (j_goto dX10_judge_83 (n := 86) rfl br_83_4), (j_iconst dX10_judge_86 (n := 87) rfl ki_0), (j_iadd dX10_judge_87 (n := 88) rfl), (j_istore_4 dX10_judge_88 (n := 90) rfl), (j_iinc_6 dX10_judge_90 (n := 93) rfl ki_1), (j_goto dX10_judge_93 (n := 96) rfl br_93_m68), (j_iload_5 dX10_judge_96 (n := 98) rfl), (j_if_le dX10_judge_98 (n := 101) rfl br_98_9), (j_sipush dX10_judge_101 (n := 104) rfl ks_m1002), (j_goto dX10_judge_104 (n := 107) rfl br_104_5), (j_iload_4 dX10_judge_107 (n := 109) rfl), (j_iret dX10_judge_109 (n := 110) rfl), rOk_i (M := mX10_judge) rfl, nl_x, pk_us]
    rw [if_pos (by rw [lt_I, toInt_nI (by omega)]; omega)]
    have z3 : (3 : Int32) = nI 3 := rfl
    have z9 : (9 : Int32) = nI 9 := rfl
    rw [z3, z9, nI_mod hd (by omega), nI_div (b := 3) hd (by omega), nI_mod hd2 (by omega), nI_div (b := 9) hd (by omega), (p9 m.toNatClampNeg k).2, nI_1, nI_ml, nI_add, nI_clamp (by omega)]
    have e1 : (1 - e).toInt = 1 - e.toInt := by rw [sub_I] <;> rw [ti_1] <;> omega
    have e2 : (e - 1).toInt = e.toInt - 1 := by rw [sub_I] <;> rw [ti_1] <;> omega
    refine ⟨by decide, by decide, by decide, by decide, ?_⟩
    refine c_in _ _ _ _ _ ?_
    simp only [bI_0, decide_eq_false_iff_not, wid_I, e1, e2]
    refine ite_i (fun q => ?_) (fun q => ⟨vp_in_nI (by omega) (by omega), ?_⟩)
    · exact hR _ _ ⟨⟨⟨g1, g2⟩, g3⟩, ⟨some _, some _, by rw [scF, if_neg (by rw [decide_eq_true_eq]; omega), Int32.add_zero]; rfl⟩, rfl⟩
    · rw [Nat.mul_comm 3]
      exact hR _ _ ⟨⟨⟨g1, g2⟩, g3⟩, ⟨some _, some _, by rw [scF, if_pos (decide_eq_true (by omega))]; rfl⟩, rfl⟩
  · rintro _ _ ⟨⟨⟨g1, g2⟩, g3⟩, ⟨x, y, rfl⟩, rfl⟩ R
    have hN := cl_eq (x := n) (by omega)
    have hr : m.toNatClampNeg < 2147483648 := by
      have := cl_eq (x := m) g3
      have := m.toInt_lt
      omega
    have hd : m.toNatClampNeg / 9 ^ n.toNatClampNeg < 2147483648 := Nat.lt_of_le_of_lt (Nat.div_le_self _ _) hr
    simp only [sw3_c, sw3_n, Nat.reduceEqDiff, not_false_eq_true, Nat.zero_le, Nat.reduceLeDiff, Nat.reduceLT, Nat.reduceAdd, sg_s, ↓kif_0, ↓kif_c, ↓reduceIte, nl_n, nl_i, nl_r, List.length_cons, List.length_nil, true_and, and_true, upA_s, upA_n, upA_u, Prod.mk.injEq, and_self, Fr_70_57, Ld_111, oA_111, oL_70, (j_iload_n_1 dX10_judge_0 (n := 1) rfl), (j_iload_n_2 dX10_judge_1 (n := 2) rfl), (j_cs2i (M := mX10_judge) dX10_judge_2 (n := 5) rfl cM_10_369 (Or.inl rfl) (o := 10) rfl lv_X10_judge_X10_isGame rfl), (j_if_eq dX10_judge_5 (n := 8) rfl br_5_7), (j_iload_n_3 dX10_judge_8 (n := 9) rfl), (j_if_ge dX10_judge_9 (n := 12) rfl br_9_7), (j_sipush dX10_judge_12 (n := 15) rfl ks_m1002), (j_iret dX10_judge_15 (n := 16) rfl), (j_iconst dX10_judge_16 (n := 17) rfl ki_0), (j_istore_4 dX10_judge_17 (n := 19) rfl), (j_iload_n_3 dX10_judge_19 (n := 20) rfl), (j_istore_5 dX10_judge_20 (n := 22) rfl), (j_iconst dX10_judge_22 (n := 23) rfl ki_0), (j_istore_6 dX10_judge_23 (n := 25) rfl), (j_iload_6 dX10_judge_25 (n := 27) rfl), (j_iload_n_1 dX10_judge_27 (n := 28) rfl), (j_ic_ge dX10_judge_28 (n := 31) rfl br_28_68), (j_iload_5 dX10_judge_31 (n := 33) rfl), (j_iconst dX10_judge_33 (n := 34) rfl ki_3), (j_irem dX10_judge_34 (n := 35) rfl), (j_istore_7 dX10_judge_35 (n := 37) rfl), (j_iload_5 dX10_judge_37 (n := 39) rfl), (j_iconst dX10_judge_39 (n := 40) rfl ki_3), (j_idiv dX10_judge_40 (n := 41) rfl), (j_iconst dX10_judge_41 (n := 42) rfl ki_3), (j_irem dX10_judge_42 (n := 43) rfl), (j_istore_8 dX10_judge_43 (n := 45) rfl), (j_iload_5 dX10_judge_45 (n := 47) rfl), (j_bipush dX10_judge_47 (n := 49) rfl kb_9), (j_idiv dX10_judge_49 (n := 50) rfl), (j_istore_5 dX10_judge_50 (n := 52) rfl), (j_iload_4 dX10_judge_52 (n := 54) rfl), (j_iload_4 dX10_judge_54 (n := 56) rfl), (j_i2l dX10_judge_56 (n := 57) rfl), (j_iconst dX10_judge_57 (n := 58) rfl ki_1), (j_iload_n_2 dX10_judge_58 (n := 59) rfl), (j_isub dX10_judge_59 (n := 60) rfl), (j_i2l dX10_judge_60 (n := 61) rfl), (j_iload_n_2 dX10_judge_61 (n := 62) rfl), (j_iconst dX10_judge_62 (n := 63) rfl ki_1), (j_isub dX10_judge_63 (n := 64) rfl), (j_i2l dX10_judge_64 (n := 65) rfl), (j_cs3i (M := mX10_judge) dX10_judge_65 (n := 68) rfl cM_10_150 (Or.inl rfl) (o := 10) rfl lv_X10_judge_X10_in rfl), (j_if_eq dX10_judge_68 (n := 71) rfl br_68_18), (j_aload_n_0 dX10_judge_71 (n := 72) rfl), (j_getf dX10_judge_72 (n := 75) rfl cF_10_138), (j_iconst dX10_judge_75 (n := 76) rfl ki_3), (j_iload_7 dX10_judge_76 (n := 78) rfl), (j_imul dX10_judge_78 (n := 79) rfl), (j_iload_8 dX10_judge_79 (n := 81) rfl), (j_iadd dX10_judge_81 (n := 82) rfl), (j_iald dX10_judge_82 (n := 83) rfl), (j_goto dX10_judge_83 (n := 86) rfl br_83_4), (j_iconst dX10_judge_86 (n := 87) rfl ki_0), (j_iadd dX10_judge_87 (n := 88) rfl), (j_istore_4 dX10_judge_88 (n := 90) rfl), (j_iinc_6 dX10_judge_90 (n := 93) rfl ki_1), (j_goto dX10_judge_93 (n := 96) rfl br_93_m68), (j_iload_5 dX10_judge_96 (n := 98) rfl), (j_if_le dX10_judge_98 (n := 101) rfl br_98_9), (j_sipush dX10_judge_101 (n := 104) rfl ks_m1002), (j_goto dX10_judge_104 (n := 107) rfl br_104_5), (j_iload_4 dX10_judge_107 (n := 109) rfl), (j_iret dX10_judge_109 (n := 110) rfl), rOk_i (M := mX10_judge) rfl, nl_x, pk_us]
    rw [if_neg (by rw [lt_I, toInt_nI (by omega)]; omega)]
    have hp : 0 < 9 ^ n.toNatClampNeg := Nat.pow_pos (by omega)
    by_cases hq : m.toNatClampNeg < 9 ^ n.toNatClampNeg
    · rw [Nat.div_eq_of_lt hq, if_neg (by decide)]
      exact h3 ⟨g1, g2⟩ g3 hq
    · have : 0 < m.toNatClampNeg / 9 ^ n.toNatClampNeg := Nat.div_pos (by omega) hp
      rw [if_pos (by rw [lt_I, ti_0, nI_toInt hd]; omega)]
      exact h2 ⟨g1, g2⟩ g3 (by omega)
theorem p9_6 : ∀ N, N ≤ 6 → 9 ^ N < 1000000 := by decide
set_option maxHeartbeats 4000000 in
theorem t_judge (S : xA) (hI : Inv S) (n e m : Int32) : Both mX9_judge mX10_judge [.int n, .int e, .int m] S := by
  have i23 := hI.2.2.2.2.2.2.2.2.2.2.2.2.2.2.2.2.2.2.2.2.2.2.2
  have htm : ∀ i, i < 9 → -99 ≤ (S 111 i).toInt ∧ (S 111 i).toInt ≤ 99 := fun i hi => by rw [← (i23 i hi).1]; exact (i23 i hi).2
  show CI mX9_judge _ _ _
  refine ci_of (T := mX9_judge) (fv := fun _ => True) (ls := [some (.ref (0 : Nat)), some (.int n), some (.int e), some (.int m)]) rfl (Nat.le_of_ble_eq_true rfl) (by decide) rfl rfl rfl (ok2_0 cX9_judge 9 60 rfl rfl ?_)
  simp only [sw3_c, sw3_n, Nat.reduceEqDiff, not_false_eq_true, Nat.zero_le, Nat.reduceLeDiff, Nat.reduceLT, Nat.reduceAdd, sg_s, ↓kif_0, ↓kif_c, ↓reduceIte, nl_n, nl_i, nl_r, List.length_cons, List.length_nil, true_and, and_true, upA_s, upA_n, upA_u, Prod.mk.injEq, and_self, Fr_0_9, oC_65, oL_0, (j_iload_n_1 dX9_judge_0 (n := 1) rfl), (j_iconst dX9_judge_1 (n := 2) rfl ki_1), (j_bipush dX9_judge_2 (n := 4) rfl kb_6), (j_cs3i (M := mX9_judge) dX9_judge_4 (n := 7) rfl cM_9_91 (Or.inl rfl) (o := 9) rfl lv_X9_judge_X9_beyond rfl), (j_if_ne dX9_judge_7 (n := 10) rfl br_7_14), (j_iload_n_2 dX9_judge_10 (n := 11) rfl), (j_iconst dX9_judge_11 (n := 12) rfl ki_1), (j_sipush dX9_judge_12 (n := 15) rfl ks_999), (j_cs3i (M := mX9_judge) dX9_judge_15 (n := 18) rfl cM_9_91 (Or.inl rfl) (o := 9) rfl lv_X9_judge_X9_beyond rfl), (j_if_eq dX9_judge_18 (n := 21) rfl br_18_7), (j_sipush dX9_judge_21 (n := 24) rfl ks_m1002), (j_iret dX9_judge_24 (n := 25) rfl), (j_iload_n_3 dX9_judge_25 (n := 26) rfl), (j_iconst dX9_judge_26 (n := 27) rfl ki_0), (j_iload_n_1 dX9_judge_27 (n := 28) rfl), (j_cs1i (M := mX9_judge) dX9_judge_28 (n := 31) rfl cM_9_281 (Or.inl rfl) (o := 9) rfl lv_X9_judge_X1_rows rfl), (j_iconst dX9_judge_31 (n := 32) rfl ki_1), (j_isub dX9_judge_32 (n := 33) rfl), (j_cs3i (M := mX9_judge) dX9_judge_33 (n := 36) rfl cM_9_91 (Or.inl rfl) (o := 9) rfl lv_X9_judge_X9_beyond rfl), (j_if_eq dX9_judge_36 (n := 39) rfl br_36_7), (j_sipush dX9_judge_39 (n := 42) rfl ks_m1002), (j_iret dX9_judge_42 (n := 43) rfl), (j_aload_n_0 dX9_judge_43 (n := 44) rfl), (j_getf dX9_judge_44 (n := 47) rfl cF_9_75), (j_iload_n_1 dX9_judge_47 (n := 48) rfl), (j_iload_n_2 dX9_judge_48 (n := 49) rfl), (j_iload_n_3 dX9_judge_49 (n := 50) rfl), (j_cv3i (M := mX9_judge) dX9_judge_50 (n := 53) rfl cM_9_284 (Or.inl rfl) lv_X9_judge_X1_score rfl (oc := 1) rfl), (j_iret dX9_judge_53 (n := 54) rfl), rOk_i (M := mX9_judge) rfl]
  refine c_beyond _ _ _ _ _ ?_
  simp only [bI_0, decide_eq_false_iff_not, ti_1, ti_6]
  refine ite_i (fun h1 => ?_) (fun h1 => c_judge10 n e m S _ htm (fun _ => g3_rf hI) (fun q => absurd (by omega) h1) (fun q => absurd (by omega) h1))
  refine c_beyond _ _ _ _ _ ?_
  simp only [bI_0, decide_eq_false_iff_not, ti_1, ti_999]
  refine ite_i (fun h2 => ?_) (fun h2 => c_judge10 n e m S _ htm (fun _ => g3_rf hI) (fun q => absurd (by omega) h2) (fun q => absurd (by omega) h2))
  have hN := cl_eq (x := n) (by omega)
  have hp := p9_6 n.toNatClampNeg (by omega)
  have hp0 : 0 < 9 ^ n.toNatClampNeg := Nat.pow_pos (by omega)
  have en : n = nI n.toNatClampNeg := (nI_cl (by omega)).symm
  have ew : CI mX1_rows [.int n] S = CI mX1_rows [.int (nI n.toNatClampNeg)] S := by rw [← en]
  rw [ew]
  refine c_rows _ _ _ (by omega) ?_
  refine c_beyond _ _ _ _ _ ?_
  have e1 : (nI (9 ^ n.toNatClampNeg) - 1).toInt = (9 ^ n.toNatClampNeg : Nat) - 1 := by
    rw [sub_I] <;> rw [toInt_nI hp, ti_1] <;> omega
  simp only [bI_0, decide_eq_false_iff_not, ti_0, e1]
  refine ite_i (fun h3 => ?_) (fun h3 => ?_)
  · have em : m = nI m.toNatClampNeg := (nI_cl (by omega)).symm
    have hM := cl_eq (x := m) (by omega)
    have hml := m.toInt_lt
    have es : CI mX1_score [.ref (65 : Nat), .int n, .int e, .int m] S = CI mX1_score [.ref (65 : Nat), .int (nI n.toNatClampNeg), .int e, .int (nI m.toNatClampNeg)] S := by rw [← en, ← em]
    rw [es]
    refine c_score _ _ _ _ _ (by omega) (by omega) (fun i hi => (i23 i hi).2) ?_
    refine c_judge10 n e m S _ htm (fun q => absurd q (by omega)) (fun _ _ q => absurd q (by omega)) (fun _ _ _ => ?_)
    exact ⟨scF_eq (fun i hi => (i23 i hi).1) _, hI⟩
  · refine c_judge10 n e m S _ htm (fun _ => g3_rf hI) (fun _ _ _ => g3_rf hI) (fun _ q1 q2 => absurd ?_ h3)
    have hM := cl_eq (x := m) q1
    omega
