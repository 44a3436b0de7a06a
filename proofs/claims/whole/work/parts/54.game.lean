-- game: its values, and the class's way
def mnA (t : Nat → Int) (u : Int → Int) (a : Nat) (s : Int) : Nat → Int
  | 0 => u (s + t (3 * a))
  | j + 1 => if u (s + t (3 * a + (j + 1))) < mnA t u a s j then u (s + t (3 * a + (j + 1))) else mnA t u a s j
def mxA (t : Nat → Int) (u : Int → Int) (s : Int) : Nat → Int
  | 0 => mnA t u 0 s 2
  | j + 1 => if mxA t u s j < mnA t u (j + 1) s 2 then mnA t u (j + 1) s 2 else mxA t u s j
def bmA (t : Nat → Int) (u : Int → Int) (s : Int) : Nat → Nat
  | 0 => 0
  | j + 1 => if mxA t u s j < mnA t u (j + 1) s 2 then j + 1 else bmA t u s j
def UF (e : Int) (t : Nat → Int) : Nat → Int → Int
  | 0, s => s
  | k + 1, s => if (-e < s ∧ s < e) ∧ (-550 ≤ s ∧ s ≤ 550) then mxA t (UF e t k) s 2 else s
def gtB (t : Nat → Int) : Prop := ∀ i, i < 9 → -99 ≤ t i ∧ t i ≤ 99
theorem mnA_b {t : Nat → Int} {u : Int → Int} {s x y : Int} (h : ∀ i, i < 9 → x ≤ u (s + t i) ∧ u (s + t i) ≤ y) {a : Nat} (ha : a < 3) : ∀ j, j ≤ 2 → x ≤ mnA t u a s j ∧ mnA t u a s j ≤ y
  | 0, _ => by rw [mnA]; exact h _ (by omega)
  | j + 1, hj => by
    have ih := mnA_b h ha j (by omega)
    have := h (3 * a + (j + 1)) (by omega)
    rw [mnA]
    split
    · exact this
    · exact ih
theorem mxA_b {t : Nat → Int} {u : Int → Int} {s x y : Int} (h : ∀ i, i < 9 → x ≤ u (s + t i) ∧ u (s + t i) ≤ y) : ∀ j, j ≤ 2 → x ≤ mxA t u s j ∧ mxA t u s j ≤ y
  | 0, _ => by rw [mxA]; exact mnA_b h (by omega) 2 (by omega)
  | j + 1, hj => by
    have ih := mxA_b h j (by omega)
    have := mnA_b h (a := j + 1) (by omega) 2 (by omega)
    rw [mxA]
    split
    · exact this
    · exact ih
theorem UF_b {e : Int} {t : Nat → Int} (ht : gtB t) : ∀ (k : Nat) (s m : Int), -m ≤ s → s ≤ m → -(m + 99 * (k : Int)) ≤ UF e t k s ∧ UF e t k s ≤ m + 99 * (k : Int)
  | 0, s, m, h1, h2 => by rw [UF]; omega
  | k + 1, s, m, h1, h2 => by
    rw [UF]
    split
    · have := mxA_b (t := t) (u := UF e t k) (s := s) (x := -(m + 99 * ((k + 1 : Nat) : Int))) (y := m + 99 * ((k + 1 : Nat) : Int)) (fun i hi => by
        have a := ht i hi
        have := UF_b ht (e := e) k (s + t i) (m + 99) (by omega) (by omega)
        omega) 2 (by omega)
      exact this
    · omega
theorem UF_out {e : Int} {t : Nat → Int} {k : Nat} {s : Int} (h : ¬ (-e < s ∧ s < e)) : UF e t k s = s := by
  cases k with
  | zero => rfl
  | succ k => rw [UF, if_neg (fun q => h q.1)]
theorem UF_in {e : Int} {t : Nat → Int} {k : Nat} {s : Int} (h : -e < s ∧ s < e) (h2 : -550 ≤ s ∧ s ≤ 550) : UF e t (k + 1) s = mxA t (UF e t k) s 2 := by rw [UF, if_pos ⟨h, h2⟩]
theorem n67 : (nI 67).toNatClampNeg = 67 := rfl
theorem n68 : (nI 68).toNatClampNeg = 68 := rfl
theorem ix495 {s : Int32} (h1 : -495 ≤ s.toInt) (h2 : s.toInt ≤ 495) : vp_in (495 + s) 991 ∧ (495 + s).toNatClampNeg = (495 + s.toInt).toNat := by
  have e : (495 + s).toInt = 495 + s.toInt := by rw [add_I] <;> rw [ti_495] <;> omega
  have e2 := cl_eq (x := 495 + s) (by omega)
  exact ⟨vp_I (by omega) (by omega), by omega⟩
set_option maxHeartbeats 4000000 in
theorem c_outcome (s last e : Int32) (L : Nat) (S : xA) (f : xP) (u : Int → Int) (h5 : S 65 5 = e) (h4 : S 65 4 = nI L) (hL : L = 67 ∨ L = 68) (hs : -594 ≤ s.toInt ∧ s.toInt ≤ 594) (h1 : ¬ last = 0 → u s.toInt = s.toInt) (h2 : ¬ (-e.toInt < s.toInt ∧ s.toInt < e.toInt) → u s.toInt = s.toInt)
    (h3 : last = 0 → (-e.toInt < s.toInt ∧ s.toInt < e.toInt) → -495 ≤ s.toInt ∧ s.toInt ≤ 495 ∧ (S L (495 + s.toInt).toNat).toInt = u s.toInt) (h : ∀ r : Int32, r.toInt = u s.toInt → f r S) : CI mX1_outcome [.ref (65 : Nat), .int s, .int last] S f := by
  refine ci_of (T := mX1_outcome) (fv := fun _ => True) (ls := [some (.ref (65 : Nat)), some (.int s), some (.int last)]) rfl (Nat.le_of_ble_eq_true rfl) (by decide) rfl rfl rfl (ok2_0 cX1_outcome 1 40 rfl rfl ?_)
  rcases hL with rfl | rfl
  · simp only [sw3_c, sw3_n, Nat.reduceEqDiff, not_false_eq_true, Nat.zero_le, Nat.reduceLeDiff, Nat.reduceLT, Nat.reduceAdd, sg_s, ↓kif_0, ↓kif_c, ↓reduceIte, nl_n, nl_i, nl_r, List.length_cons, List.length_nil, true_and, and_true, upA_s, upA_n, upA_u, Prod.mk.injEq, and_self, Fr_65_4, Fr_65_5, Ld_67, Ld_68, oA_67, oA_68, oL_65, (j_iload_n_2 dX1_outcome_0 (n := 1) rfl), (j_if_ne dX1_outcome_1 (n := 4) rfl br_1_14), (j_iload_n_1 dX1_outcome_4 (n := 5) rfl), (j_abs (M := mX1_outcome) dX1_outcome_5 (n := 8) rfl cB_1_31 l1_X1_outcome), (j_aload_n_0 dX1_outcome_8 (n := 9) rfl), (j_getf dX1_outcome_9 (n := 12) rfl cF_1_28), (j_ic_lt dX1_outcome_12 (n := 15) rfl br_12_7), (j_iload_n_1 dX1_outcome_15 (n := 16) rfl), (j_goto dX1_outcome_16 (n := 19) rfl br_16_13), (j_aload_n_0 dX1_outcome_19 (n := 20) rfl), (j_getf dX1_outcome_20 (n := 23) rfl cF_1_25), (j_sipush dX1_outcome_23 (n := 26) rfl ks_495), (j_iload_n_1 dX1_outcome_26 (n := 27) rfl), (j_iadd dX1_outcome_27 (n := 28) rfl), (j_iald dX1_outcome_28 (n := 29) rfl), (j_iret dX1_outcome_29 (n := 30) rfl), rOk_i (M := mX1_outcome) rfl, nl_x, pk_us, h4, h5, n67]
    refine ite_i (fun q => ite_i (fun w => ?_) (fun w => ?_)) (fun q => h _ (h1 q).symm)
    · rw [abs_lt (by omega)] at w
      obtain ⟨a1, a2, a3⟩ := h3 q w
      obtain ⟨e1, e2⟩ := ix495 a1 a2
      refine ⟨e1, ?_⟩
      rw [e2]
      exact h _ a3
    · rw [abs_lt (by omega)] at w
      exact h _ (h2 w).symm
  · simp only [sw3_c, sw3_n, Nat.reduceEqDiff, not_false_eq_true, Nat.zero_le, Nat.reduceLeDiff, Nat.reduceLT, Nat.reduceAdd, sg_s, ↓kif_0, ↓kif_c, ↓reduceIte, nl_n, nl_i, nl_r, List.length_cons, List.length_nil, true_and, and_true, upA_s, upA_n, upA_u, Prod.mk.injEq, and_self, Fr_65_4, Fr_65_5, Ld_67, Ld_68, oA_67, oA_68, oL_65, (j_iload_n_2 dX1_outcome_0 (n := 1) rfl), (j_if_ne dX1_outcome_1 (n := 4) rfl br_1_14), (j_iload_n_1 dX1_outcome_4 (n := 5) rfl), (j_abs (M := mX1_outcome) dX1_outcome_5 (n := 8) rfl cB_1_31 l1_X1_outcome), (j_aload_n_0 dX1_outcome_8 (n := 9) rfl), (j_getf dX1_outcome_9 (n := 12) rfl cF_1_28), (j_ic_lt dX1_outcome_12 (n := 15) rfl br_12_7), (j_iload_n_1 dX1_outcome_15 (n := 16) rfl), (j_goto dX1_outcome_16 (n := 19) rfl br_16_13), (j_aload_n_0 dX1_outcome_19 (n := 20) rfl), (j_getf dX1_outcome_20 (n := 23) rfl cF_1_25), (j_sipush dX1_outcome_23 (n := 26) rfl ks_495), (j_iload_n_1 dX1_outcome_26 (n := 27) rfl), (j_iadd dX1_outcome_27 (n := 28) rfl), (j_iald dX1_outcome_28 (n := 29) rfl), (j_iret dX1_outcome_29 (n := 30) rfl), rOk_i (M := mX1_outcome) rfl, nl_x, pk_us, h4, h5, n68]
    refine ite_i (fun q => ite_i (fun w => ?_) (fun w => ?_)) (fun q => h _ (h1 q).symm)
    · rw [abs_lt (by omega)] at w
      obtain ⟨a1, a2, a3⟩ := h3 q w
      obtain ⟨e1, e2⟩ := ix495 a1 a2
      refine ⟨e1, ?_⟩
      rw [e2]
      exact h _ a3
    · rw [abs_lt (by omega)] at w
      exact h _ (h2 w).symm
def ocO (S : xA) (s last : Int32) (t : Nat → Int) (u : Int → Int) : Prop := ∀ (x : Int32) (f : xP), (∃ i, i < 9 ∧ x.toInt = s.toInt + t i) → (∀ r : Int32, r.toInt = u x.toInt → f r S) → CI mX1_outcome [.ref (65 : Nat), .int x, .int last] S f
theorem ml3 (r : Nat) : nI r * 3 = nI (3 * r) := by rw [show (3 : Int32) = nI 3 from rfl, nI_ml, Nat.mul_comm]
theorem ml3' (r : Nat) : 3 * nI r = nI (3 * r) := by rw [show (3 : Int32) = nI 3 from rfl, nI_ml]
theorem nI_3 {k : Nat} (h : k < 3) : nI k < 3 := by
  rw [lt_I, toInt_nI (by omega), ti_3]
  omega
set_option maxHeartbeats 4000000 in
theorem c_answer (s last : Int32) (a : Nat) (S : xA) (f : xP) (t : Nat → Int) (u : Int → Int) (ha : a < 3) (ht : ∀ i, i < 9 → (S 66 i).toInt = t i) (hb : gtB t) (hs : -495 ≤ s.toInt ∧ s.toInt ≤ 495) (hO : ocO S s last t u) (h : ∀ r : Int32, r.toInt = mnA t u a s.toInt 2 → f r S) : CI mX1_answer [.ref (65 : Nat), .int s, .int (nI a), .int last] S f := by
  have hx : ∀ i, i < 9 → (s + S 66 i).toInt = s.toInt + t i := by
    intro i hi
    have := hb i hi
    have := ht i hi
    rw [add_I] <;> omega
  refine ci_of (T := mX1_answer) (fv := fun _ => True) (ls := [some (.ref (65 : Nat)), some (.int s), some (.int (nI a)), some (.int last), none, none]) rfl (Nat.le_of_ble_eq_true rfl) (by decide) rfl rfl rfl (ok_for cX1_answer 1 60 20 2 (fun j ls S' => (∃ r : Int32, ls = [some (.ref (65 : Nat)), some (.int s), some (.int (nI a)), some (.int last), some (.int r), some (.int (nI (j + 1)))] ∧ r.toInt = mnA t u a s.toInt j) ∧ S = S') rfl rfl ?_ ?_ ?_)
  · intro R hK
    simp only [sw3_c, sw3_n, Nat.reduceEqDiff, not_false_eq_true, Nat.zero_le, Nat.reduceLeDiff, Nat.reduceLT, Nat.reduceAdd, sg_s, ↓kif_0, ↓kif_c, ↓reduceIte, nl_n, nl_i, nl_r, List.length_cons, List.length_nil, true_and, and_true, upA_s, upA_n, upA_u, Prod.mk.injEq, and_self, Fr_65_0, Ld_66, oA_66, oC_65, oL_65, (j_aload_n_0 dX1_answer_0 (n := 1) rfl), (j_iload_n_1 dX1_answer_1 (n := 2) rfl), (j_aload_n_0 dX1_answer_2 (n := 3) rfl), (j_getf dX1_answer_3 (n := 6) rfl cF_1_9), (j_iload_n_2 dX1_answer_6 (n := 7) rfl), (j_iconst dX1_answer_7 (n := 8) rfl ki_3), (j_imul dX1_answer_8 (n := 9) rfl), (j_iald dX1_answer_9 (n := 10) rfl), (j_iadd dX1_answer_10 (n := 11) rfl), (j_iload_n_3 dX1_answer_11 (n := 12) rfl), (j_cv2i (M := mX1_answer) dX1_answer_12 (n := 15) rfl cM_1_52 (Or.inl rfl) lv_X1_answer_X1_outcome rfl (oc := 1) rfl), (j_istore_4 dX1_answer_15 (n := 17) rfl), (j_iconst dX1_answer_17 (n := 18) rfl ki_1), (j_istore_5 dX1_answer_18 (n := 20) rfl), (j_iload_5 dX1_answer_20 (n := 22) rfl), (j_iconst dX1_answer_22 (n := 23) rfl ki_3), (j_ic_ge dX1_answer_23 (n := 26) rfl br_23_34), (j_iload_4 dX1_answer_26 (n := 28) rfl), (j_aload_n_0 dX1_answer_28 (n := 29) rfl), (j_iload_n_1 dX1_answer_29 (n := 30) rfl), (j_aload_n_0 dX1_answer_30 (n := 31) rfl), (j_getf dX1_answer_31 (n := 34) rfl cF_1_9), (j_iload_n_2 dX1_answer_34 (n := 35) rfl), (j_iconst dX1_answer_35 (n := 36) rfl ki_3), (j_imul dX1_answer_36 (n := 37) rfl), (j_iload_5 dX1_answer_37 (n := 39) rfl), (j_iadd dX1_answer_39 (n := 40) rfl), (j_iald dX1_answer_40 (n := 41) rfl), (j_iadd dX1_answer_41 (n := 42) rfl), (j_iload_n_3 dX1_answer_42 (n := 43) rfl), (j_cv2i (M := mX1_answer) dX1_answer_43 (n := 46) rfl cM_1_52 (Or.inl rfl) lv_X1_answer_X1_outcome rfl (oc := 1) rfl), (j_min (M := mX1_answer) dX1_answer_46 (n := 49) rfl cB_1_37 l1_X1_answer), (j_istore_4 dX1_answer_49 (n := 51) rfl), (j_iinc_5 dX1_answer_51 (n := 54) rfl ki_1), (j_goto dX1_answer_54 (n := 57) rfl br_54_m34), (j_iload_4 dX1_answer_57 (n := 59) rfl), (j_iret dX1_answer_59 (n := 60) rfl), rOk_i (M := mX1_answer) rfl, nl_x, pk_us]
    rw [ml3, nI_clamp (n := 3 * a) (by omega)]
    refine ⟨vp_in_nI (by omega) (by omega), hO _ _ ⟨3 * a, by omega, hx _ (by omega)⟩ (fun r hr => ?_)⟩
    rw [hx _ (by omega)] at hr
    exact hK _ _ ⟨⟨r, rfl, hr⟩, rfl⟩
  · rintro j hj _ _ ⟨⟨r, rfl, hr⟩, rfl⟩ R hK
    simp only [sw3_c, sw3_n, Nat.reduceEqDiff, not_false_eq_true, Nat.zero_le, Nat.reduceLeDiff, Nat.reduceLT, Nat.reduceAdd, sg_s, ↓kif_0, ↓kif_c, ↓reduceIte, nl_n, nl_i, nl_r, List.length_cons, List.length_nil, true_and, and_true, upA_s, upA_n, upA_u, Prod.mk.injEq, and_self, Fr_65_0, Ld_66, oA_66, oC_65, oL_65, (j_aload_n_0 dX1_answer_0 (n := 1) rfl), (j_iload_n_1 dX1_answer_1 (n := 2) rfl), (j_aload_n_0 dX1_answer_2 (n := 3) rfl), (j_getf dX1_answer_3 (n := 6) rfl cF_1_9), (j_iload_n_2 dX1_answer_6 (n := 7) rfl), (j_iconst dX1_answer_7 (n := 8) rfl ki_3), (j_imul dX1_answer_8 (n := 9) rfl), (j_iald dX1_answer_9 (n := 10) rfl), (j_iadd dX1_answer_10 (n := 11) rfl), (j_iload_n_3 dX1_answer_11 (n := 12) rfl), (j_cv2i (M := mX1_answer) dX1_answer_12 (n := 15) rfl cM_1_52 (Or.inl rfl) lv_X1_answer_X1_outcome rfl (oc := 1) rfl), (j_istore_4 dX1_answer_15 (n := 17) rfl), (j_iconst dX1_answer_17 (n := 18) rfl ki_1), (j_istore_5 dX1_answer_18 (n := 20) rfl), (j_iload_5 dX1_answer_20 (n := 22) rfl), (j_iconst dX1_answer_22 (n := 23) rfl ki_3), (j_ic_ge dX1_answer_23 (n := 26) rfl br_23_34), (j_iload_4 dX1_answer_26 (n := 28) rfl), (j_aload_n_0 dX1_answer_28 (n := 29) rfl), (j_iload_n_1 dX1_answer_29 (n := 30) rfl), (j_aload_n_0 dX1_answer_30 (n := 31) rfl), (j_getf dX1_answer_31 (n := 34) rfl cF_1_9), (j_iload_n_2 dX1_answer_34 (n := 35) rfl), (j_iconst dX1_answer_35 (n := 36) rfl ki_3), (j_imul dX1_answer_36 (n := 37) rfl), (j_iload_5 dX1_answer_37 (n := 39) rfl), (j_iadd dX1_answer_39 (n := 40) rfl), (j_iald dX1_answer_40 (n := 41) rfl), (j_iadd dX1_answer_41 (n := 42) rfl), (j_iload_n_3 dX1_answer_42 (n := 43) rfl), (j_cv2i (M := mX1_answer) dX1_answer_43 (n := 46) rfl cM_1_52 (Or.inl rfl) lv_X1_answer_X1_outcome rfl (oc := 1) rfl), (j_min (M := mX1_answer) dX1_answer_46 (n := 49) rfl cB_1_37 l1_X1_answer), (j_istore_4 dX1_answer_49 (n := 51) rfl), (j_iinc_5 dX1_answer_51 (n := 54) rfl ki_1), (j_goto dX1_answer_54 (n := 57) rfl br_54_m34), (j_iload_4 dX1_answer_57 (n := 59) rfl), (j_iret dX1_answer_59 (n := 60) rfl), rOk_i (M := mX1_answer) rfl, nl_x, pk_us]
    rw [if_pos (nI_3 (by omega)), ml3, nI_add, nI_clamp (n := 3 * a + (j + 1)) (by omega), nI_1]
    refine ⟨vp_in_nI (by omega) (by omega), hO _ _ ⟨3 * a + (j + 1), by omega, hx _ (by omega)⟩ (fun r2 hr2 => ?_)⟩
    rw [hx _ (by omega)] at hr2
    refine hK _ _ ⟨⟨_, rfl, ?_⟩, rfl⟩
    rw [mnA, ← hr, ← hr2]
    by_cases w : r2 < r
    · rw [if_pos w]
      rw [lt_I] at w
      rw [if_pos w]
    · rw [if_neg w]
      rw [lt_I] at w
      rw [if_neg w]
  · rintro _ _ ⟨⟨r, rfl, hr⟩, rfl⟩ R
    simp only [sw3_c, sw3_n, Nat.reduceEqDiff, not_false_eq_true, Nat.zero_le, Nat.reduceLeDiff, Nat.reduceLT, Nat.reduceAdd, sg_s, ↓kif_0, ↓kif_c, ↓reduceIte, nl_n, nl_i, nl_r, List.length_cons, List.length_nil, true_and, and_true, upA_s, upA_n, upA_u, Prod.mk.injEq, and_self, Fr_65_0, Ld_66, oA_66, oC_65, oL_65, (j_aload_n_0 dX1_answer_0 (n := 1) rfl), (j_iload_n_1 dX1_answer_1 (n := 2) rfl), (j_aload_n_0 dX1_answer_2 (n := 3) rfl), (j_getf dX1_answer_3 (n := 6) rfl cF_1_9), (j_iload_n_2 dX1_answer_6 (n := 7) rfl), (j_iconst dX1_answer_7 (n := 8) rfl ki_3), (j_imul dX1_answer_8 (n := 9) rfl), (j_iald dX1_answer_9 (n := 10) rfl), (j_iadd dX1_answer_10 (n := 11) rfl), (j_iload_n_3 dX1_answer_11 (n := 12) rfl), (j_cv2i (M := mX1_answer) dX1_answer_12 (n := 15) rfl cM_1_52 (Or.inl rfl) lv_X1_answer_X1_outcome rfl (oc := 1) rfl), (j_istore_4 dX1_answer_15 (n := 17) rfl), (j_iconst dX1_answer_17 (n := 18) rfl ki_1), (j_istore_5 dX1_answer_18 (n := 20) rfl), (j_iload_5 dX1_answer_20 (n := 22) rfl), (j_iconst dX1_answer_22 (n := 23) rfl ki_3), (j_ic_ge dX1_answer_23 (n := 26) rfl br_23_34), (j_iload_4 dX1_answer_26 (n := 28) rfl), (j_aload_n_0 dX1_answer_28 (n := 29) rfl), (j_iload_n_1 dX1_answer_29 (n := 30) rfl), (j_aload_n_0 dX1_answer_30 (n := 31) rfl), (j_getf dX1_answer_31 (n := 34) rfl cF_1_9), (j_iload_n_2 dX1_answer_34 (n := 35) rfl), (j_iconst dX1_answer_35 (n := 36) rfl ki_3), (j_imul dX1_answer_36 (n := 37) rfl), (j_iload_5 dX1_answer_37 (n := 39) rfl), (j_iadd dX1_answer_39 (n := 40) rfl), (j_iald dX1_answer_40 (n := 41) rfl), (j_iadd dX1_answer_41 (n := 42) rfl), (j_iload_n_3 dX1_answer_42 (n := 43) rfl), (j_cv2i (M := mX1_answer) dX1_answer_43 (n := 46) rfl cM_1_52 (Or.inl rfl) lv_X1_answer_X1_outcome rfl (oc := 1) rfl), (j_min (M := mX1_answer) dX1_answer_46 (n := 49) rfl cB_1_37 l1_X1_answer), (j_istore_4 dX1_answer_49 (n := 51) rfl), (j_iinc_5 dX1_answer_51 (n := 54) rfl ki_1), (j_goto dX1_answer_54 (n := 57) rfl br_54_m34), (j_iload_4 dX1_answer_57 (n := 59) rfl), (j_iret dX1_answer_59 (n := 60) rfl), rOk_i (M := mX1_answer) rfl, nl_x, pk_us]
    rw [if_neg (by decide)]
    exact h r hr
