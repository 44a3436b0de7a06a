set_option maxRecDepth 16384 in
set_option maxHeartbeats 4000000 in
theorem c_game10 (n e w : Int32) (S : xA) (f : xP) (t : Nat → Int) (ht : ∀ i, i < 9 → (S 111 i).toInt = t i) (hb : gtB t) (h1 : ¬ (((1 ≤ n.toInt ∧ n.toInt ≤ 6) ∧ (1 ≤ e.toInt ∧ e.toInt ≤ 999)) ∧ (0 ≤ w.toInt ∧ w.toInt ≤ 1)) → f (-1002) S)
    (h2 : ((1 ≤ n.toInt ∧ n.toInt ≤ 6) ∧ (1 ≤ e.toInt ∧ e.toInt ≤ 999)) → (0 ≤ w.toInt ∧ w.toInt ≤ 1) → ∀ (g : Nat → Int32) (r : Int32), r.toInt = mxA t (UF e.toInt t (n.toNatClampNeg - 1)) 0 2 → f (if w = 0 then r else nI (bmA t (UF e.toInt t (n.toNatClampNeg - 1)) 0 2)) (upA S 112 g)) : CI mX10_game [.ref (70 : Nat), .int n, .int e, .int w] S f := by
  refine ci_of (T := mX10_game) (fv := fun _ => True) (ls := [some (.ref (70 : Nat)), some (.int n), some (.int e), some (.int w), none, none, none, none]) rfl (Nat.le_of_ble_eq_true rfl) (by decide) rfl rfl rfl ?_
  refine ok2_to cX10_game 10 60 39 (fun ls S' => (((1 ≤ n.toInt ∧ n.toInt ≤ 6) ∧ (1 ≤ e.toInt ∧ e.toInt ≤ 999)) ∧ (0 ≤ w.toInt ∧ w.toInt ≤ 1)) ∧ ls = [some (.ref (70 : Nat)), some (.int n), some (.int e), some (.int w), some (.int 0), some (.int (-1000000)), some (.int (nI 0)), lx none] ∧ ∃ g, S' = upA S 112 g ∧ lvO e.toInt t g n.toNatClampNeg) rfl rfl ?_ ?_
  · rintro _ _ ⟨⟨⟨hn, he⟩, hw⟩, rfl, g, rfl, hg⟩
    have nc := cl_eq (x := n) (by omega)
    have en : n - 1 = nI (n.toNatClampNeg - 1) := by
      have : n = nI (n.toNatClampNeg - 1 + 1) := by rw [show n.toNatClampNeg - 1 + 1 = n.toNatClampNeg by omega]; exact (nI_cl (by omega)).symm
      rw [this, nI_pred, nI_clamp (by omega)]
      rfl
    refine ok2_fp cX10_game 10 60 39 3 (fun a ls S' => (∃ (r : Int32) (bst : Nat) (x : Option Int32), ls = [some (.ref (70 : Nat)), some (.int n), some (.int e), some (.int w), some (.int (nI bst)), some (.int r), some (.int (nI a)), lx x] ∧ (a = 0 → r = -1000000 ∧ bst = 0) ∧ ∀ j, a = j + 1 → r.toInt = mxA t (UF e.toInt t (n.toNatClampNeg - 1)) 0 j ∧ bst = bmA t (UF e.toInt t (n.toNatClampNeg - 1)) 0 j) ∧ S' = upA S 112 g) rfl rfl ?_ ?_ 0 (by omega) _ _ ⟨⟨-1000000, 0, none, rfl, fun _ => ⟨rfl, rfl⟩, fun j q => by omega⟩, rfl⟩
    · rintro a ha _ _ ⟨⟨r, bst, x, rfl, q0, q1⟩, rfl⟩ R hK
      simp only [sw3_c, sw3_n, Nat.reduceEqDiff, not_false_eq_true, Nat.zero_le, Nat.reduceLeDiff, Nat.reduceLT, Nat.reduceAdd, sg_s, ↓kif_0, ↓kif_c, ↓reduceIte, nl_n, nl_i, nl_r, List.length_cons, List.length_nil, true_and, and_true, upA_s, upA_n, upA_u, Prod.mk.injEq, and_self, oC_70, (j_iload_n_1 dX10_game_0 (n := 1) rfl), (j_iload_n_2 dX10_game_1 (n := 2) rfl), (j_cs2i (M := mX10_game) dX10_game_2 (n := 5) rfl cM_10_369 (Or.inl rfl) (o := 10) rfl lv_X10_game_X10_isGame rfl), (j_if_eq dX10_game_5 (n := 8) rfl br_5_13), (j_iload_n_3 dX10_game_8 (n := 9) rfl), (j_i2l dX10_game_9 (n := 10) rfl), (j_lconst dX10_game_10 (n := 11) rfl (v := 0) (by decide)), (j_lconst dX10_game_11 (n := 12) rfl (v := 1) (by decide)), (j_cs3i (M := mX10_game) dX10_game_12 (n := 15) rfl cM_10_150 (Or.inl rfl) (o := 10) rfl lv_X10_game_X10_in rfl), (j_if_ne dX10_game_15 (n := 18) rfl br_15_7), (j_sipush dX10_game_18 (n := 21) rfl ks_m1002), (j_iret dX10_game_21 (n := 22) rfl), (j_aload_n_0 dX10_game_22 (n := 23) rfl), (j_iload_n_1 dX10_game_23 (n := 24) rfl), (j_iload_n_2 dX10_game_24 (n := 25) rfl), (j_cv2v (M := mX10_game) dX10_game_25 (n := 28) rfl cM_10_373 (Or.inl rfl) lv_X10_game_X10_findWorths rfl (oc := 10) rfl), (j_iconst dX10_game_28 (n := 29) rfl ki_0), (j_istore_4 dX10_game_29 (n := 31) rfl), (j_ldc_w dX10_game_31 (n := 34) rfl cI_10_364), (j_istore_5 dX10_game_34 (n := 36) rfl), (j_iconst dX10_game_36 (n := 37) rfl ki_0), (j_istore_6 dX10_game_37 (n := 39) rfl), (j_iload_6 dX10_game_39 (n := 41) rfl), (j_iconst dX10_game_41 (n := 42) rfl ki_3), (j_ic_ge dX10_game_42 (n := 45) rfl br_42_36), (j_aload_n_0 dX10_game_45 (n := 46) rfl), (j_iload_6 dX10_game_46 (n := 48) rfl), (j_iload_n_1 dX10_game_48 (n := 49) rfl), (j_iconst dX10_game_49 (n := 50) rfl ki_1), (j_isub dX10_game_50 (n := 51) rfl), (j_iconst dX10_game_51 (n := 52) rfl ki_0), (j_cv3i (M := mX10_game) dX10_game_52 (n := 55) rfl cM_10_365 (Or.inl rfl) lv_X10_game_X10_worthOf rfl (oc := 10) rfl), (j_istore_7 dX10_game_55 (n := 57) rfl), (j_iload_7 dX10_game_57 (n := 59) rfl), (j_iload_5 dX10_game_59 (n := 61) rfl), (j_ic_le dX10_game_61 (n := 64) rfl br_61_11), (j_iload_6 dX10_game_64 (n := 66) rfl), (j_istore_4 dX10_game_66 (n := 68) rfl), (j_iload_7 dX10_game_68 (n := 70) rfl), (j_istore_5 dX10_game_70 (n := 72) rfl), (j_iinc_6 dX10_game_72 (n := 75) rfl ki_1), (j_goto dX10_game_75 (n := 78) rfl br_75_m36), (j_iload_n_3 dX10_game_78 (n := 79) rfl), (j_if_ne dX10_game_79 (n := 82) rfl br_79_8), (j_iload_5 dX10_game_82 (n := 84) rfl), (j_goto dX10_game_84 (n := 87) rfl br_84_5), (j_iload_4 dX10_game_87 (n := 89) rfl), (j_iret dX10_game_89 (n := 90) rfl), rOk_i (M := mX10_game) rfl, nl_x, pk_us, en]
      rw [if_pos (nI_3 ha), nI_1]
      refine c_worthOf a (n.toNatClampNeg - 1) 0 _ _ t (UF e.toInt t (n.toNatClampNeg - 1)) ha (by omega) (by rw [ti_0]; omega) (by rw [upA_n _ _ (by decide)]; exact ht) hb (by rw [upA_s]; exact hg _ (by omega)) (fun i hi => ?_) (fun v hv => ?_)
      · have := UF_b (e := e.toInt) hb (n.toNatClampNeg - 1) ((i : Int) - 650) 650 (by omega) (by omega)
        omega
      rw [ti_0] at hv
      have vb : -1000000 < v.toInt := by
        rw [hv]
        have := mnA_b (t := t) (u := UF e.toInt t (n.toNatClampNeg - 1)) (s := 0) (x := -999999) (y := 999999) (fun k hk => by
          have tk := hb k hk
          have := UF_b (e := e.toInt) hb (n.toNatClampNeg - 1) (0 + t k) 99 (by omega) (by omega)
          omega) ha 2 (by omega)
        omega
      refine ite_i (fun q => ?_) (fun q => ?_)
      · refine hK _ _ ⟨⟨v, a, some v, rfl, fun q => by omega, fun j q2 => ?_⟩, rfl⟩
        have ja : j = a := by omega
        subst ja
        cases j with
        | zero => exact ⟨by rw [mxA]; exact hv, rfl⟩
        | succ j =>
          obtain ⟨q3, q4⟩ := q1 j rfl
          rw [lt_I, q3, hv] at q
          rw [mxA, bmA, if_pos q, if_pos q]
          exact ⟨hv, rfl⟩
      · refine hK _ _ ⟨⟨r, bst, some v, rfl, fun q => by omega, fun j q2 => ?_⟩, rfl⟩
        have ja : j = a := by omega
        subst ja
        cases j with
        | zero =>
          rw [(q0 rfl).1, lt_I, ti_m1000000] at q
          omega
        | succ j =>
          obtain ⟨q3, q4⟩ := q1 j rfl
          rw [lt_I, q3, hv] at q
          rw [mxA, bmA, if_neg q, if_neg q]
          exact ⟨q3, q4⟩
    · rintro _ _ ⟨⟨r, bst, x, rfl, q0, q1⟩, rfl⟩
      obtain ⟨q3, q4⟩ := q1 2 rfl
      refine ok2_0 cX10_game 10 20 rfl rfl ?_
      simp only [sw3_c, sw3_n, Nat.reduceEqDiff, not_false_eq_true, Nat.zero_le, Nat.reduceLeDiff, Nat.reduceLT, Nat.reduceAdd, sg_s, ↓kif_0, ↓kif_c, ↓reduceIte, nl_n, nl_i, nl_r, List.length_cons, List.length_nil, true_and, and_true, upA_s, upA_n, upA_u, Prod.mk.injEq, and_self, oC_70, (j_iload_n_1 dX10_game_0 (n := 1) rfl), (j_iload_n_2 dX10_game_1 (n := 2) rfl), (j_cs2i (M := mX10_game) dX10_game_2 (n := 5) rfl cM_10_369 (Or.inl rfl) (o := 10) rfl lv_X10_game_X10_isGame rfl), (j_if_eq dX10_game_5 (n := 8) rfl br_5_13), (j_iload_n_3 dX10_game_8 (n := 9) rfl), (j_i2l dX10_game_9 (n := 10) rfl), (j_lconst dX10_game_10 (n := 11) rfl (v := 0) (by decide)), (j_lconst dX10_game_11 (n := 12) rfl (v := 1) (by decide)), (j_cs3i (M := mX10_game) dX10_game_12 (n := 15) rfl cM_10_150 (Or.inl rfl) (o := 10) rfl lv_X10_game_X10_in rfl), (j_if_ne dX10_game_15 (n := 18) rfl br_15_7), (j_sipush dX10_game_18 (n := 21) rfl ks_m1002), (j_iret dX10_game_21 (n := 22) rfl), (j_aload_n_0 dX10_game_22 (n := 23) rfl), (j_iload_n_1 dX10_game_23 (n := 24) rfl), (j_iload_n_2 dX10_game_24 (n := 25) rfl), (j_cv2v (M := mX10_game) dX10_game_25 (n := 28) rfl cM_10_373 (Or.inl rfl) lv_X10_game_X10_findWorths rfl (oc := 10) rfl), (j_iconst dX10_game_28 (n := 29) rfl ki_0), (j_istore_4 dX10_game_29 (n := 31) rfl), (j_ldc_w dX10_game_31 (n := 34) rfl cI_10_364), (j_istore_5 dX10_game_34 (n := 36) rfl), (j_iconst dX10_game_36 (n := 37) rfl ki_0), (j_istore_6 dX10_game_37 (n := 39) rfl), (j_iload_6 dX10_game_39 (n := 41) rfl), (j_iconst dX10_game_41 (n := 42) rfl ki_3), (j_ic_ge dX10_game_42 (n := 45) rfl br_42_36), (j_aload_n_0 dX10_game_45 (n := 46) rfl), (j_iload_6 dX10_game_46 (n := 48) rfl), (j_iload_n_1 dX10_game_48 (n := 49) rfl), (j_iconst dX10_game_49 (n := 50) rfl ki_1), (j_isub dX10_game_50 (n := 51) rfl), (j_iconst dX10_game_51 (n := 52) rfl ki_0), (j_cv3i (M := mX10_game) dX10_game_52 (n := 55) rfl cM_10_365 (Or.inl rfl) lv_X10_game_X10_worthOf rfl (oc := 10) rfl), (j_istore_7 dX10_game_55 (n := 57) rfl), (j_iload_7 dX10_game_57 (n := 59) rfl), (j_iload_5 dX10_game_59 (n := 61) rfl), (j_ic_le dX10_game_61 (n := 64) rfl br_61_11), (j_iload_6 dX10_game_64 (n := 66) rfl), (j_istore_4 dX10_game_66 (n := 68) rfl), (j_iload_7 dX10_game_68 (n := 70) rfl), (j_istore_5 dX10_game_70 (n := 72) rfl), (j_iinc_6 dX10_game_72 (n := 75) rfl ki_1), (j_goto dX10_game_75 (n := 78) rfl br_75_m36), (j_iload_n_3 dX10_game_78 (n := 79) rfl), (j_if_ne dX10_game_79 (n := 82) rfl br_79_8), (j_iload_5 dX10_game_82 (n := 84) rfl), (j_goto dX10_game_84 (n := 87) rfl br_84_5), (j_iload_4 dX10_game_87 (n := 89) rfl), (j_iret dX10_game_89 (n := 90) rfl), rOk_i (M := mX10_game) rfl, nl_x, pk_us]
      rw [if_neg (by decide)]
      have hh := h2 ⟨hn, he⟩ hw g r q3
      rw [← q4] at hh
      refine ite_i (fun q => ?_) (fun q => ?_)
      · rw [if_pos q] at hh; exact hh
      · rw [if_neg q] at hh; exact hh
  · intro R hK
    simp only [sw3_c, sw3_n, Nat.reduceEqDiff, not_false_eq_true, Nat.zero_le, Nat.reduceLeDiff, Nat.reduceLT, Nat.reduceAdd, sg_s, ↓kif_0, ↓kif_c, ↓reduceIte, nl_n, nl_i, nl_r, List.length_cons, List.length_nil, true_and, and_true, upA_s, upA_n, upA_u, Prod.mk.injEq, and_self, oC_70, (j_iload_n_1 dX10_game_0 (n := 1) rfl), (j_iload_n_2 dX10_game_1 (n := 2) rfl), (j_cs2i (M := mX10_game) dX10_game_2 (n := 5) rfl cM_10_369 (Or.inl rfl) (o := 10) rfl lv_X10_game_X10_isGame rfl), (j_if_eq dX10_game_5 (n := 8) rfl br_5_13), (j_iload_n_3 dX10_game_8 (n := 9) rfl), (j_i2l dX10_game_9 (n := 10) rfl), (j_lconst dX10_game_10 (n := 11) rfl (v := 0) (by decide)), (j_lconst dX10_game_11 (n := 12) rfl (v := 1) (by decide)), (j_cs3i (M := mX10_game) dX10_game_12 (n := 15) rfl cM_10_150 (Or.inl rfl) (o := 10) rfl lv_X10_game_X10_in rfl), (j_if_ne dX10_game_15 (n := 18) rfl br_15_7), (j_sipush dX10_game_18 (n := 21) rfl ks_m1002), (j_iret dX10_game_21 (n := 22) rfl), (j_aload_n_0 dX10_game_22 (n := 23) rfl), (j_iload_n_1 dX10_game_23 (n := 24) rfl), (j_iload_n_2 dX10_game_24 (n := 25) rfl), (j_cv2v (M := mX10_game) dX10_game_25 (n := 28) rfl cM_10_373 (Or.inl rfl) lv_X10_game_X10_findWorths rfl (oc := 10) rfl), (j_iconst dX10_game_28 (n := 29) rfl ki_0), (j_istore_4 dX10_game_29 (n := 31) rfl), (j_ldc_w dX10_game_31 (n := 34) rfl cI_10_364), (j_istore_5 dX10_game_34 (n := 36) rfl), (j_iconst dX10_game_36 (n := 37) rfl ki_0), (j_istore_6 dX10_game_37 (n := 39) rfl), (j_iload_6 dX10_game_39 (n := 41) rfl), (j_iconst dX10_game_41 (n := 42) rfl ki_3), (j_ic_ge dX10_game_42 (n := 45) rfl br_42_36), (j_aload_n_0 dX10_game_45 (n := 46) rfl), (j_iload_6 dX10_game_46 (n := 48) rfl), (j_iload_n_1 dX10_game_48 (n := 49) rfl), (j_iconst dX10_game_49 (n := 50) rfl ki_1), (j_isub dX10_game_50 (n := 51) rfl), (j_iconst dX10_game_51 (n := 52) rfl ki_0), (j_cv3i (M := mX10_game) dX10_game_52 (n := 55) rfl cM_10_365 (Or.inl rfl) lv_X10_game_X10_worthOf rfl (oc := 10) rfl), (j_istore_7 dX10_game_55 (n := 57) rfl), (j_iload_7 dX10_game_57 (n := 59) rfl), (j_iload_5 dX10_game_59 (n := 61) rfl), (j_ic_le dX10_game_61 (n := 64) rfl br_61_11), (j_iload_6 dX10_game_64 (n := 66) rfl), (j_istore_4 dX10_game_66 (n := 68) rfl), (j_iload_7 dX10_game_68 (n := 70) rfl), (j_istore_5 dX10_game_70 (n := 72) rfl), (j_iinc_6 dX10_game_72 (n := 75) rfl ki_1), (j_goto dX10_game_75 (n := 78) rfl br_75_m36), (j_iload_n_3 dX10_game_78 (n := 79) rfl), (j_if_ne dX10_game_79 (n := 82) rfl br_79_8), (j_iload_5 dX10_game_82 (n := 84) rfl), (j_goto dX10_game_84 (n := 87) rfl br_84_5), (j_iload_4 dX10_game_87 (n := 89) rfl), (j_iret dX10_game_89 (n := 90) rfl), rOk_i (M := mX10_game) rfl, nl_x, pk_us]
    refine c_isGame _ _ _ _ ?_
    simp only [bI_0, decide_eq_false_iff_not]
    refine ite_i (fun q => h1 (fun z => q z.1)) (fun q => c_in _ _ _ _ _ ?_)
    simp only [bI_0, decide_eq_false_iff_not, wid_I, tj_0, tj_1]
    refine ite_i (fun q2 => h1 (fun z => q2 z.2)) (fun q2 => ?_)
    rw [Classical.not_not] at q q2
    have nc := cl_eq (x := n) (by omega)
    have en : CV mX10_findWorths [.ref (70 : Nat), .int n, .int e] S = CV mX10_findWorths [.ref (70 : Nat), .int (nI n.toNatClampNeg), .int e] S := by rw [nI_cl (by omega)]
    rw [en]
    exact c_findWorths _ _ _ _ t (by omega) q.2 ht hb (fun g hg => hK _ _ ⟨⟨q, q2⟩, rfl, g, rfl, hg⟩)
theorem Inv_gm {S S' : xA} (hI : Inv S) (f1 : frm [65, 67, 68] S S') (hp : (S' 65 3 = 67 ∧ S' 65 4 = 68) ∨ (S' 65 3 = 68 ∧ S' 65 4 = 67)) : Inv S' := by
  have e : ∀ c, c ∉ [65, 67, 68] → S' c = S c := f1
  obtain ⟨i1, i2, i3, i4, i5, i6, i7, i8, i9, i10, i11, i12, i13, i14, i15, i16, i17, i18, i19, i20, i21, i22, i23⟩ := hI
  unfold Inv
  rw [e 0 (by decide), e 1 (by decide), e 2 (by decide), e 4 (by decide), e 5 (by decide), e 6 (by decide), e 7 (by decide), e 8 (by decide), e 9 (by decide), e 10 (by decide), e 11 (by decide), e 12 (by decide), e 13 (by decide), e 16 (by decide), e 17 (by decide), e 18 (by decide), e 19 (by decide), e 20 (by decide), e 21 (by decide), e 22 (by decide), e 23 (by decide), e 26 (by decide), e 27 (by decide), e 28 (by decide), e 29 (by decide), e 30 (by decide), e 31 (by decide), e 32 (by decide), e 34 (by decide), e 35 (by decide), e 36 (by decide), e 37 (by decide), e 38 (by decide), e 39 (by decide), e 40 (by decide), e 41 (by decide), e 42 (by decide), e 43 (by decide), e 59 (by decide), e 60 (by decide), e 61 (by decide), e 62 (by decide), e 63 (by decide), e 64 (by decide), e 66 (by decide), e 70 (by decide), e 71 (by decide), e 72 (by decide), e 73 (by decide), e 74 (by decide), e 75 (by decide), e 76 (by decide), e 77 (by decide), e 78 (by decide), e 79 (by decide), e 80 (by decide), e 81 (by decide), e 82 (by decide), e 83 (by decide), e 84 (by decide), e 85 (by decide), e 86 (by decide), e 87 (by decide), e 88 (by decide), e 89 (by decide), e 90 (by decide), e 91 (by decide), e 92 (by decide), e 93 (by decide), e 97 (by decide), e 98 (by decide), e 99 (by decide), e 100 (by decide), e 101 (by decide), e 102 (by decide), e 103 (by decide), e 104 (by decide), e 105 (by decide), e 106 (by decide), e 107 (by decide), e 108 (by decide), e 109 (by decide), e 110 (by decide), e 111 (by decide)]
  exact ⟨i1, i2, i3, i4, i5, i6, i7, i8, i9, i10, i11, i12, i13, i14, i15, i16, i17, i18, i19, i20, i21, i22, ⟨hp, i23.2⟩⟩
theorem Inv_112 {S : xA} (hI : Inv S) (g : Nat → Int32) : Inv (upA S 112 g) := Inv_frm (frm_up (frm_rf [112] S) (by decide)) (by decide) (fun _ _ => by rw [upA_n _ _ (by decide)]) hI
set_option maxHeartbeats 4000000 in
theorem t_game (S : xA) (hI : Inv S) (n e w : Int32) : Both mX9_game mX10_game [.int n, .int e, .int w] S := by
  have i23 := hI.2.2.2.2.2.2.2.2.2.2.2.2.2.2.2.2.2.2.2.2.2.2
  have ht : ∀ i, i < 9 → (S 66 i).toInt = (fun i => (S 66 i).toInt) i := fun i _ => rfl
  have hb : gtB (fun i => (S 66 i).toInt) := fun i hi => (i23.2 i hi).2
  have ht2 : ∀ i, i < 9 → (S 111 i).toInt = (fun i => (S 66 i).toInt) i := fun i hi => by rw [← (i23.2 i hi).1]
  generalize (fun i => (S 66 i).toInt) = t at *
  show CI mX9_game _ _ _
  refine ci_of (T := mX9_game) (fv := fun _ => True) (ls := [some (.ref (0 : Nat)), some (.int n), some (.int e), some (.int w)]) rfl (Nat.le_of_ble_eq_true rfl) (by decide) rfl rfl rfl (ok2_0 cX9_game 9 60 rfl rfl ?_)
  simp only [sw3_c, sw3_n, Nat.reduceEqDiff, not_false_eq_true, Nat.zero_le, Nat.reduceLeDiff, Nat.reduceLT, Nat.reduceAdd, sg_s, ↓kif_0, ↓kif_c, ↓reduceIte, nl_n, nl_i, nl_r, List.length_cons, List.length_nil, true_and, and_true, upA_s, upA_n, upA_u, Prod.mk.injEq, and_self, Fr_0_9, Fr_65_1, Fr_65_2, oC_65, oL_0, oL_65, (j_iload_n_1 dX9_game_0 (n := 1) rfl), (j_iconst dX9_game_1 (n := 2) rfl ki_1), (j_bipush dX9_game_2 (n := 4) rfl kb_6), (j_cs3i (M := mX9_game) dX9_game_4 (n := 7) rfl cM_9_91 (Or.inl rfl) (o := 9) rfl lv_X9_game_X9_beyond rfl), (j_if_ne dX9_game_7 (n := 10) rfl br_7_23), (j_iload_n_2 dX9_game_10 (n := 11) rfl), (j_iconst dX9_game_11 (n := 12) rfl ki_1), (j_sipush dX9_game_12 (n := 15) rfl ks_999), (j_cs3i (M := mX9_game) dX9_game_15 (n := 18) rfl cM_9_91 (Or.inl rfl) (o := 9) rfl lv_X9_game_X9_beyond rfl), (j_if_ne dX9_game_18 (n := 21) rfl br_18_12), (j_iload_n_3 dX9_game_21 (n := 22) rfl), (j_iconst dX9_game_22 (n := 23) rfl ki_0), (j_iconst dX9_game_23 (n := 24) rfl ki_1), (j_cs3i (M := mX9_game) dX9_game_24 (n := 27) rfl cM_9_91 (Or.inl rfl) (o := 9) rfl lv_X9_game_X9_beyond rfl), (j_if_eq dX9_game_27 (n := 30) rfl br_27_7), (j_sipush dX9_game_30 (n := 33) rfl ks_m1002), (j_iret dX9_game_33 (n := 34) rfl), (j_aload_n_0 dX9_game_34 (n := 35) rfl), (j_getf dX9_game_35 (n := 38) rfl cF_9_75), (j_iload_n_1 dX9_game_38 (n := 39) rfl), (j_iload_n_2 dX9_game_39 (n := 40) rfl), (j_cv2v (M := mX9_game) dX9_game_40 (n := 43) rfl cM_9_271 (Or.inl rfl) lv_X9_game_X1_solve rfl (oc := 1) rfl), (j_iload_n_3 dX9_game_43 (n := 44) rfl), (j_if_ne dX9_game_44 (n := 47) rfl br_44_13), (j_aload_n_0 dX9_game_47 (n := 48) rfl), (j_getf dX9_game_48 (n := 51) rfl cF_9_75), (j_getf dX9_game_51 (n := 54) rfl cF_9_275), (j_goto dX9_game_54 (n := 57) rfl br_54_10), (j_aload_n_0 dX9_game_57 (n := 58) rfl), (j_getf dX9_game_58 (n := 61) rfl cF_9_75), (j_getf dX9_game_61 (n := 64) rfl cF_9_278), (j_iret dX9_game_64 (n := 65) rfl), rOk_i (M := mX9_game) rfl]
  refine c_beyond _ _ _ _ _ ?_
  simp only [bI_0, decide_eq_false_iff_not, ti_1, ti_6]
  refine ite_i (fun h1 => ?_) (fun h1 => c_game10 n e w S _ t ht2 hb (fun _ => g3_rf hI) (fun q => absurd (by omega) h1))
  refine c_beyond _ _ _ _ _ ?_
  simp only [bI_0, decide_eq_false_iff_not, ti_1, ti_999]
  refine ite_i (fun h2 => ?_) (fun h2 => c_game10 n e w S _ t ht2 hb (fun _ => g3_rf hI) (fun q => absurd (by omega) h2))
  refine c_beyond _ _ _ _ _ ?_
  simp only [bI_0, decide_eq_false_iff_not, ti_0, ti_1]
  refine ite_i (fun h3 => ?_) (fun h3 => c_game10 n e w S _ t ht2 hb (fun _ => g3_rf hI) (fun _ q => absurd (by omega) h3))
  have nc := cl_eq (x := n) (by omega)
  have en : CV mX1_solve [.ref (65 : Nat), .int n, .int e] S = CV mX1_solve [.ref (65 : Nat), .int (nI n.toNatClampNeg), .int e] S := by rw [nI_cl (by omega)]
  rw [en]
  refine c_solve _ e S _ t (by omega) (by omega) i23.1 ht hb (fun S' f1 hp v1 v2 => ?_)
  have hI' := Inv_gm hI f1 hp
  have key : ∀ r : Int32, r = (if w = 0 then S' 65 1 else S' 65 2) → g2 mX10_game [.int n, .int e, .int w] r S' := by
    intro r hr
    refine c_game10 n e w S' _ t (by rw [f1 111 (by decide)]; exact ht2) hb (fun q => absurd ⟨⟨by omega, by omega⟩, by omega⟩ q) (fun _ _ g r2 hr2 => ⟨?_, Inv_112 hI' g⟩)
    have : r2 = S' 65 1 := Int32.toInt_inj.mp (hr2.trans v1.symm)
    rw [hr, v2, this]
  refine ite_i (fun q => key _ ?_) (fun q => key _ ?_)
  · rw [if_pos q]
  · rw [if_neg q]
