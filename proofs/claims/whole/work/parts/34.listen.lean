-- the class's spread
def spC (cm : Nat → Int32) (hour : Int32) (hd : Nat → Int32) (row k : Nat) : Prop := ¬ cm k = -1 ∧ ¬ hour < cm k ∧ ¬ cm k < hd (row + k)
def spA (cm : Nat → Int32) (hour : Int32) (hd : Nat → Int32) (row n : Nat) (v a : Nat → Int32) : Nat → Int32 := fun j => if decide (row ≤ j ∧ j < row + n ∧ ¬ cm (j - row) = -1 ∧ ¬ hour < cm (j - row) ∧ ¬ cm (j - row) < hd j) = true then v (j - row) else a j
theorem spA_0 (cm : Nat → Int32) (hour : Int32) (hd : Nat → Int32) (row : Nat) (v a : Nat → Int32) : spA cm hour hd row 0 v a = a := by
  funext j
  unfold spA
  rw [if_neg (by rw [decide_eq_true_eq]; intro q; omega)]
theorem spA_y {cm : Nat → Int32} {hour : Int32} {hd : Nat → Int32} {row k : Nat} {v a : Nat → Int32} (h : spC cm hour hd row k) : upd (spA cm hour hd row k v a) (row + k) (v k) = spA cm hour hd row (k + 1) v a := by
  funext j
  rw [upd_t]
  unfold spA
  by_cases hj : j = row + k
  · subst hj
    rw [if_pos rfl, if_pos (by rw [decide_eq_true_eq, Nat.add_sub_cancel_left]; exact ⟨by omega, by omega, h⟩), Nat.add_sub_cancel_left]
  · rw [if_neg hj]
    congr 2
    apply decide_eq_decide.mpr
    constructor
    · rintro ⟨q1, q2, q3⟩; exact ⟨q1, by omega, q3⟩
    · rintro ⟨q1, q2, q3⟩; exact ⟨q1, by omega, q3⟩
theorem spA_n {cm : Nat → Int32} {hour : Int32} {hd : Nat → Int32} {row k : Nat} {v a : Nat → Int32} (h : ¬ spC cm hour hd row k) : spA cm hour hd row (k + 1) v a = spA cm hour hd row k v a := by
  funext j
  unfold spA
  by_cases hj : j = row + k
  · subst hj
    rw [if_neg (by rw [decide_eq_true_eq, Nat.add_sub_cancel_left]; exact fun q => h q.2.2), if_neg (by rw [decide_eq_true_eq]; intro q; omega)]
  · congr 2
    apply decide_eq_decide.mpr
    constructor
    · rintro ⟨q1, q2, q3⟩; exact ⟨q1, by omega, q3⟩
    · rintro ⟨q1, q2, q3⟩; exact ⟨q1, by omega, q3⟩
theorem spA_at {cm : Nat → Int32} {hour : Int32} {hd : Nat → Int32} {row k : Nat} {v a : Nat → Int32} : spA cm hour hd row k v a (row + k) = a (row + k) := by
  unfold spA
  rw [if_neg (by rw [decide_eq_true_eq]; intro q; omega)]
def rl6 (cm : Nat → Int32) (k : Nat) : Option Value := match k with
  | 0 => none
  | k + 1 => some (.int (cm k))
theorem cmC_up {S : xA} {f g : Nat → Int32} {o : Nat} {t h : Int32} : cmC (upA (upA S 15 f) 14 g) o t h = cmC S o t h := by
  unfold cmC
  simp only [upA_s, upA_n, upA_u, Nat.reduceEqDiff, not_false_eq_true, pk_us, upd_n]
set_option maxHeartbeats 4000000 in
theorem c_spread (o row : Nat) (given hour : Int32) (S : xA) (f : xA → Prop) (ho : o < 40) (hk : 0 ≤ (S 10 o).toInt ∧ (S 10 o).toInt ≤ 3) (hrow : S 10 o / 2 * 48 + S 11 o * 8 = nI row) (hr : row + 8 ≤ 96) (hT : ¬ ((S 12 o).toInt < 0 ∨ 8 ≤ (S 12 o).toInt))
    (h : f (upA (upA S 15 (spA (fun k => cmC S o (nI k) given) hour (S 15) row 8 (fun k => cmC S o (nI k) given) (S 15))) 14 (spA (fun k => cmC S o (nI k) given) hour (S 15) row 8 (fun _ => nI o) (S 14)))) : CV mX6_spread [.ref (9 : Nat), .int (nI o), .int given, .int hour] S f := by
  have hov : vp_in (nI o) 40 := vp_in_nI ho (by omega)
  have hoc : (nI o).toNatClampNeg = o := nI_clamp (by omega)
  refine cv_of (T := mX6_spread) (f := fun _ _ => True) (ls := [some (.ref (9 : Nat)), some (.int (nI o)), some (.int given), some (.int hour), none, none, none]) rfl (Nat.le_of_ble_eq_true rfl) (by decide) rfl rfl rfl (ok2_1 cX6_spread 6 80 26 (fun ls st S' => ls = [some (.ref (9 : Nat)), some (.int (nI o)), some (.int given), some (.int hour), some (.int (nI row)), some (.int 0), none] ∧ st = [] ∧ S' = S) rfl rfl ?_ ?_)
  · rintro ls st S' ⟨rfl, rfl, rfl⟩
    have key := ok2_for (M := mX6_spread) (fi := fun _ _ => True) (fv := f) cX6_spread 6 60 26 8 (fun k => [some (.ref (9 : Nat)), some (.int (nI o)), some (.int given), some (.int hour), some (.int (nI row)), some (.int (nI k)), rl6 (fun k => cmC S' o (nI k) given) k]) (fun k => upA (upA S' 15 (spA (fun k => cmC S' o (nI k) given) hour (S' 15) row k (fun k => cmC S' o (nI k) given) (S' 15))) 14 (spA (fun k => cmC S' o (nI k) given) hour (S' 15) row k (fun _ => nI o) (S' 14))) [] rfl rfl ?_ ?_ 0 (by omega)
    · rw [spA_0, spA_0, upA_i, upA_i] at key
      exact key
    · intro k hk R hR
      have e1 : (nI row + nI k).toNatClampNeg = row + k := by rw [nI_add, nI_clamp (by omega)]
      have e2 : vp_in (nI row + nI k) 96 := by rw [nI_add]; exact vp_in_nI (by omega) (by omega)
      simp only [sw3_c, sw3_n, Nat.reduceEqDiff, not_false_eq_true, Nat.zero_le, Nat.reduceLeDiff, Nat.reduceLT, Nat.reduceAdd, sg_s, ↓kif_0, ↓kif_c, ↓reduceIte, nl_n, nl_i, nl_r, List.length_cons, List.length_nil, true_and, and_true, upA_s, upA_n, upA_u, Prod.mk.injEq, and_self, Fr_9_1, Fr_9_2, Fr_9_5, Fr_9_6, Ld_10, Ld_11, Ld_14, Ld_15, oA_10, oA_11, oA_14, oA_15, oC_9, oL_9, (j_aload_n_0 dX6_spread_0 (n := 1) rfl), (j_getf dX6_spread_1 (n := 4) rfl cF_6_9), (j_iload_n_1 dX6_spread_4 (n := 5) rfl), (j_iald dX6_spread_5 (n := 6) rfl), (j_iconst dX6_spread_6 (n := 7) rfl ki_2), (j_idiv dX6_spread_7 (n := 8) rfl), (j_bipush dX6_spread_8 (n := 10) rfl kb_48), (j_imul dX6_spread_10 (n := 11) rfl), (j_aload_n_0 dX6_spread_11 (n := 12) rfl), (j_getf dX6_spread_12 (n := 15) rfl cF_6_15), (j_iload_n_1 dX6_spread_15 (n := 16) rfl), (j_iald dX6_spread_16 (n := 17) rfl), (j_bipush dX6_spread_17 (n := 19) rfl kb_8), (j_imul dX6_spread_19 (n := 20) rfl), (j_iadd dX6_spread_20 (n := 21) rfl), (j_istore_4 dX6_spread_21 (n := 23) rfl), (j_iconst dX6_spread_23 (n := 24) rfl ki_0), (j_istore_5 dX6_spread_24 (n := 26) rfl), (j_iload_5 dX6_spread_26 (n := 28) rfl), (j_bipush dX6_spread_28 (n := 30) rfl kb_8), (j_ic_ge dX6_spread_30 (n := 33) rfl br_30_72), (j_aload_n_0 dX6_spread_33 (n := 34) rfl), (j_iload_n_1 dX6_spread_34 (n := 35) rfl), (j_iload_5 dX6_spread_35 (n := 37) rfl), (j_iload_n_2 dX6_spread_37 (n := 38) rfl), (j_cv3i (M := mX6_spread) dX6_spread_38 (n := 41) rfl cM_6_44 (Or.inl rfl) lv_X6_spread_X6_comes rfl (oc := 6) rfl), (j_istore_6 dX6_spread_41 (n := 43) rfl), (j_iload_6 dX6_spread_43 (n := 45) rfl), (j_iconst dX6_spread_45 (n := 46) rfl ki_m1), (j_ic_eq dX6_spread_46 (n := 49) rfl br_46_50), (j_iload_6 dX6_spread_49 (n := 51) rfl), (j_iload_n_3 dX6_spread_51 (n := 52) rfl), (j_ic_gt dX6_spread_52 (n := 55) rfl br_52_44), (j_iload_6 dX6_spread_55 (n := 57) rfl), (j_aload_n_0 dX6_spread_57 (n := 58) rfl), (j_getf dX6_spread_58 (n := 61) rfl cF_6_27), (j_iload_4 dX6_spread_61 (n := 63) rfl), (j_iload_5 dX6_spread_63 (n := 65) rfl), (j_iadd dX6_spread_65 (n := 66) rfl), (j_iald dX6_spread_66 (n := 67) rfl), (j_ic_ge dX6_spread_67 (n := 70) rfl br_67_6), (j_goto dX6_spread_70 (n := 73) rfl br_70_26), (j_aload_n_0 dX6_spread_73 (n := 74) rfl), (j_getf dX6_spread_74 (n := 77) rfl cF_6_27), (j_iload_4 dX6_spread_77 (n := 79) rfl), (j_iload_5 dX6_spread_79 (n := 81) rfl), (j_iadd dX6_spread_81 (n := 82) rfl), (j_iload_6 dX6_spread_82 (n := 84) rfl), (j_iast dX6_spread_84 (n := 85) rfl), (j_aload_n_0 dX6_spread_85 (n := 86) rfl), (j_getf dX6_spread_86 (n := 89) rfl cF_6_24), (j_iload_4 dX6_spread_89 (n := 91) rfl), (j_iload_5 dX6_spread_91 (n := 93) rfl), (j_iadd dX6_spread_93 (n := 94) rfl), (j_iload_n_1 dX6_spread_94 (n := 95) rfl), (j_iast dX6_spread_95 (n := 96) rfl), (j_iinc_5 dX6_spread_96 (n := 99) rfl ki_1), (j_goto dX6_spread_99 (n := 102) rfl br_99_m73), (j_ret (M := mX6_spread) dX6_spread_102 (n := 103) rfl rfl), rl6]
      simp only [rl6] at hR
      rw [if_pos (nI_8 hk)]
      have hkt : ¬ ((nI k).toInt < 0 ∨ 8 ≤ (nI k).toInt) := by rw [toInt_nI (by omega)]; omega
      refine c_comes6 _ _ _ _ _ hov (by simp only [upA_s, upA_n, upA_u, Nat.reduceEqDiff, not_false_eq_true, pk_us, upd_n]; rw [hoc]; exact ix88v hT hkt) ?_
      rw [hoc, cmC_up, nI_1]
      have hno : ¬ spC (fun k => cmC S' o (nI k) given) hour (S' 15) row k → R [some (.ref (9 : Nat)), some (.int (nI o)), some (.int given), some (.int hour), some (.int (nI row)), some (.int (nI (k + 1))), some (.int (cmC S' o (nI k) given))] [] (upA (upA S' 15 (spA (fun k => cmC S' o (nI k) given) hour (S' 15) row k (fun k => cmC S' o (nI k) given) (S' 15))) 14 (spA (fun k => cmC S' o (nI k) given) hour (S' 15) row k (fun _ => nI o) (S' 14))) := by
        intro q
        rw [spA_n q, spA_n q] at hR
        exact hR
      refine ite_i (fun h1 => hno (fun q => q.1 h1)) (fun h1 => ?_)
      refine ite_i (fun h2 => hno (fun q => q.2.1 h2)) (fun h2 => ?_)
      refine ⟨e2, ?_⟩
      rw [e1]
      simp only [upA_s, upA_n, upA_u, Nat.reduceEqDiff, not_false_eq_true, pk_us, upd_n]
      rw [spA_at]
      refine ite_i (fun h3 => hno (fun q => q.2.2 h3)) (fun h3 => ?_)
      refine ⟨e2, e2, ?_⟩
      have hy : spC (fun k => cmC S' o (nI k) given) hour (S' 15) row k := ⟨h1, h2, h3⟩
      rw [upA_4 _ (by decide)]
      rw [← spA_y (v := fun k => cmC S' o (nI k) given) hy, ← spA_y (v := fun _ => nI o) hy] at hR
      exact hR
    · refine ok2_0 cX6_spread 6 8 rfl rfl ?_
      simp only [sw3_c, sw3_n, Nat.reduceEqDiff, not_false_eq_true, Nat.zero_le, Nat.reduceLeDiff, Nat.reduceLT, Nat.reduceAdd, sg_s, ↓kif_0, ↓kif_c, ↓reduceIte, nl_n, nl_i, nl_r, List.length_cons, List.length_nil, true_and, and_true, upA_s, upA_n, upA_u, Prod.mk.injEq, and_self, Fr_9_1, Fr_9_2, Fr_9_5, Fr_9_6, Ld_10, Ld_11, Ld_14, Ld_15, oA_10, oA_11, oA_14, oA_15, oC_9, oL_9, (j_aload_n_0 dX6_spread_0 (n := 1) rfl), (j_getf dX6_spread_1 (n := 4) rfl cF_6_9), (j_iload_n_1 dX6_spread_4 (n := 5) rfl), (j_iald dX6_spread_5 (n := 6) rfl), (j_iconst dX6_spread_6 (n := 7) rfl ki_2), (j_idiv dX6_spread_7 (n := 8) rfl), (j_bipush dX6_spread_8 (n := 10) rfl kb_48), (j_imul dX6_spread_10 (n := 11) rfl), (j_aload_n_0 dX6_spread_11 (n := 12) rfl), (j_getf dX6_spread_12 (n := 15) rfl cF_6_15), (j_iload_n_1 dX6_spread_15 (n := 16) rfl), (j_iald dX6_spread_16 (n := 17) rfl), (j_bipush dX6_spread_17 (n := 19) rfl kb_8), (j_imul dX6_spread_19 (n := 20) rfl), (j_iadd dX6_spread_20 (n := 21) rfl), (j_istore_4 dX6_spread_21 (n := 23) rfl), (j_iconst dX6_spread_23 (n := 24) rfl ki_0), (j_istore_5 dX6_spread_24 (n := 26) rfl), (j_iload_5 dX6_spread_26 (n := 28) rfl), (j_bipush dX6_spread_28 (n := 30) rfl kb_8), (j_ic_ge dX6_spread_30 (n := 33) rfl br_30_72), (j_aload_n_0 dX6_spread_33 (n := 34) rfl), (j_iload_n_1 dX6_spread_34 (n := 35) rfl), (j_iload_5 dX6_spread_35 (n := 37) rfl), (j_iload_n_2 dX6_spread_37 (n := 38) rfl), (j_cv3i (M := mX6_spread) dX6_spread_38 (n := 41) rfl cM_6_44 (Or.inl rfl) lv_X6_spread_X6_comes rfl (oc := 6) rfl), (j_istore_6 dX6_spread_41 (n := 43) rfl), (j_iload_6 dX6_spread_43 (n := 45) rfl), (j_iconst dX6_spread_45 (n := 46) rfl ki_m1), (j_ic_eq dX6_spread_46 (n := 49) rfl br_46_50), (j_iload_6 dX6_spread_49 (n := 51) rfl), (j_iload_n_3 dX6_spread_51 (n := 52) rfl), (j_ic_gt dX6_spread_52 (n := 55) rfl br_52_44), (j_iload_6 dX6_spread_55 (n := 57) rfl), (j_aload_n_0 dX6_spread_57 (n := 58) rfl), (j_getf dX6_spread_58 (n := 61) rfl cF_6_27), (j_iload_4 dX6_spread_61 (n := 63) rfl), (j_iload_5 dX6_spread_63 (n := 65) rfl), (j_iadd dX6_spread_65 (n := 66) rfl), (j_iald dX6_spread_66 (n := 67) rfl), (j_ic_ge dX6_spread_67 (n := 70) rfl br_67_6), (j_goto dX6_spread_70 (n := 73) rfl br_70_26), (j_aload_n_0 dX6_spread_73 (n := 74) rfl), (j_getf dX6_spread_74 (n := 77) rfl cF_6_27), (j_iload_4 dX6_spread_77 (n := 79) rfl), (j_iload_5 dX6_spread_79 (n := 81) rfl), (j_iadd dX6_spread_81 (n := 82) rfl), (j_iload_6 dX6_spread_82 (n := 84) rfl), (j_iast dX6_spread_84 (n := 85) rfl), (j_aload_n_0 dX6_spread_85 (n := 86) rfl), (j_getf dX6_spread_86 (n := 89) rfl cF_6_24), (j_iload_4 dX6_spread_89 (n := 91) rfl), (j_iload_5 dX6_spread_91 (n := 93) rfl), (j_iadd dX6_spread_93 (n := 94) rfl), (j_iload_n_1 dX6_spread_94 (n := 95) rfl), (j_iast dX6_spread_95 (n := 96) rfl), (j_iinc_5 dX6_spread_96 (n := 99) rfl ki_1), (j_goto dX6_spread_99 (n := 102) rfl br_99_m73), (j_ret (M := mX6_spread) dX6_spread_102 (n := 103) rfl rfl)]
      rw [if_neg (by decide)]
      exact h
  · intro R hR
    simp only [sw3_c, sw3_n, Nat.reduceEqDiff, not_false_eq_true, Nat.zero_le, Nat.reduceLeDiff, Nat.reduceLT, Nat.reduceAdd, sg_s, ↓kif_0, ↓kif_c, ↓reduceIte, nl_n, nl_i, nl_r, List.length_cons, List.length_nil, true_and, and_true, upA_s, upA_n, upA_u, Prod.mk.injEq, and_self, Fr_9_1, Fr_9_2, Fr_9_5, Fr_9_6, Ld_10, Ld_11, Ld_14, Ld_15, oA_10, oA_11, oA_14, oA_15, oC_9, oL_9, (j_aload_n_0 dX6_spread_0 (n := 1) rfl), (j_getf dX6_spread_1 (n := 4) rfl cF_6_9), (j_iload_n_1 dX6_spread_4 (n := 5) rfl), (j_iald dX6_spread_5 (n := 6) rfl), (j_iconst dX6_spread_6 (n := 7) rfl ki_2), (j_idiv dX6_spread_7 (n := 8) rfl), (j_bipush dX6_spread_8 (n := 10) rfl kb_48), (j_imul dX6_spread_10 (n := 11) rfl), (j_aload_n_0 dX6_spread_11 (n := 12) rfl), (j_getf dX6_spread_12 (n := 15) rfl cF_6_15), (j_iload_n_1 dX6_spread_15 (n := 16) rfl), (j_iald dX6_spread_16 (n := 17) rfl), (j_bipush dX6_spread_17 (n := 19) rfl kb_8), (j_imul dX6_spread_19 (n := 20) rfl), (j_iadd dX6_spread_20 (n := 21) rfl), (j_istore_4 dX6_spread_21 (n := 23) rfl), (j_iconst dX6_spread_23 (n := 24) rfl ki_0), (j_istore_5 dX6_spread_24 (n := 26) rfl), (j_iload_5 dX6_spread_26 (n := 28) rfl), (j_bipush dX6_spread_28 (n := 30) rfl kb_8), (j_ic_ge dX6_spread_30 (n := 33) rfl br_30_72), (j_aload_n_0 dX6_spread_33 (n := 34) rfl), (j_iload_n_1 dX6_spread_34 (n := 35) rfl), (j_iload_5 dX6_spread_35 (n := 37) rfl), (j_iload_n_2 dX6_spread_37 (n := 38) rfl), (j_cv3i (M := mX6_spread) dX6_spread_38 (n := 41) rfl cM_6_44 (Or.inl rfl) lv_X6_spread_X6_comes rfl (oc := 6) rfl), (j_istore_6 dX6_spread_41 (n := 43) rfl), (j_iload_6 dX6_spread_43 (n := 45) rfl), (j_iconst dX6_spread_45 (n := 46) rfl ki_m1), (j_ic_eq dX6_spread_46 (n := 49) rfl br_46_50), (j_iload_6 dX6_spread_49 (n := 51) rfl), (j_iload_n_3 dX6_spread_51 (n := 52) rfl), (j_ic_gt dX6_spread_52 (n := 55) rfl br_52_44), (j_iload_6 dX6_spread_55 (n := 57) rfl), (j_aload_n_0 dX6_spread_57 (n := 58) rfl), (j_getf dX6_spread_58 (n := 61) rfl cF_6_27), (j_iload_4 dX6_spread_61 (n := 63) rfl), (j_iload_5 dX6_spread_63 (n := 65) rfl), (j_iadd dX6_spread_65 (n := 66) rfl), (j_iald dX6_spread_66 (n := 67) rfl), (j_ic_ge dX6_spread_67 (n := 70) rfl br_67_6), (j_goto dX6_spread_70 (n := 73) rfl br_70_26), (j_aload_n_0 dX6_spread_73 (n := 74) rfl), (j_getf dX6_spread_74 (n := 77) rfl cF_6_27), (j_iload_4 dX6_spread_77 (n := 79) rfl), (j_iload_5 dX6_spread_79 (n := 81) rfl), (j_iadd dX6_spread_81 (n := 82) rfl), (j_iload_6 dX6_spread_82 (n := 84) rfl), (j_iast dX6_spread_84 (n := 85) rfl), (j_aload_n_0 dX6_spread_85 (n := 86) rfl), (j_getf dX6_spread_86 (n := 89) rfl cF_6_24), (j_iload_4 dX6_spread_89 (n := 91) rfl), (j_iload_5 dX6_spread_91 (n := 93) rfl), (j_iadd dX6_spread_93 (n := 94) rfl), (j_iload_n_1 dX6_spread_94 (n := 95) rfl), (j_iast dX6_spread_95 (n := 96) rfl), (j_iinc_5 dX6_spread_96 (n := 99) rfl ki_1), (j_goto dX6_spread_99 (n := 102) rfl br_99_m73), (j_ret (M := mX6_spread) dX6_spread_102 (n := 103) rfl rfl)]
    rw [hoc, hrow]
    exact ⟨hov, by decide, hov, hR _ _ _ ⟨rfl, rfl, rfl⟩⟩
