-- ways: away, reach
theorem ix88 {a b : Int32} (h1 : ¬ (a.toInt < 0 ∨ 8 ≤ a.toInt)) (h2 : ¬ (b.toInt < 0 ∨ 8 ≤ b.toInt)) : (a * 8 + b).toInt = a.toInt * 8 + b.toInt := mul_c (m := 8) (n := 8) (by omega) (by omega) (by omega) (by omega) 8 8 (by decide) (by omega)
theorem ix88v {a b : Int32} (h1 : ¬ (a.toInt < 0 ∨ 8 ≤ a.toInt)) (h2 : ¬ (b.toInt < 0 ∨ 8 ≤ b.toInt)) : vp_in (a * 8 + b) 64 := vp_I (by rw [ix88 h1 h2]; omega) (by rw [ix88 h1 h2]; omega)
theorem ix88c {a b : Int32} (h1 : ¬ (a.toInt < 0 ∨ 8 ≤ a.toInt)) (h2 : ¬ (b.toInt < 0 ∨ 8 ≤ b.toInt)) : (a * 8 + b).toNatClampNeg = 8 * a.toNatClampNeg + b.toNatClampNeg ∧ a.toNatClampNeg < 8 ∧ b.toNatClampNeg < 8 := by
  have e1 := ix88 h1 h2
  have e2 := cl_eq (x := a) (by omega)
  have e3 := cl_eq (x := b) (by omega)
  have e4 := cl_eq (x := a * 8 + b) (by omega)
  refine ⟨?_, ?_, ?_⟩ <;> omega
set_option maxHeartbeats 4000000 in
theorem c_way3 (a b : Int32) (S : xA) (f : xP) (hv : vp_in (a * 8 + b) 64) (h : f (S 2 (a * 8 + b).toNatClampNeg) S) : CI mX3_way [.ref (1 : Nat), .int a, .int b] S f := by
  show CI mX3_way _ _ _
  refine ci_of (T := mX3_way) (fv := fun _ => True) (ls := [some (.ref (1 : Nat)), some (.int a), some (.int b)]) rfl (Nat.le_of_ble_eq_true rfl) (by decide) rfl rfl rfl (ok2_0 cX3_way 3 40 rfl rfl ?_)
  simp only [sw3_c, sw3_n, Nat.reduceEqDiff, not_false_eq_true, Nat.zero_le, Nat.reduceLeDiff, Nat.reduceLT, Nat.reduceAdd, sg_s, ↓kif_0, ↓kif_c, ↓reduceIte, nl_n, nl_i, nl_r, List.length_cons, List.length_nil, true_and, and_true, upA_s, upA_n, upA_u, Prod.mk.injEq, and_self, Fr_1_0, Ld_2, oA_2, oL_1, (j_aload_n_0 dX3_way_0 (n := 1) rfl), (j_getf dX3_way_1 (n := 4) rfl cF_3_9), (j_iload_n_1 dX3_way_4 (n := 5) rfl), (j_bipush dX3_way_5 (n := 7) rfl kb_8), (j_imul dX3_way_7 (n := 8) rfl), (j_iload_n_2 dX3_way_8 (n := 9) rfl), (j_iadd dX3_way_9 (n := 10) rfl), (j_iald dX3_way_10 (n := 11) rfl), (j_iret dX3_way_11 (n := 12) rfl), rOk_i (M := mX3_way) rfl]
  exact ⟨hv, h⟩
set_option maxHeartbeats 4000000 in
theorem c_awayOf (a b : Int32) (S : xA) (f : xP) (hv : vp_in (a * 8 + b) 64) (h : f (if S 71 (a * 8 + b).toNatClampNeg < 1000000 then S 71 (a * 8 + b).toNatClampNeg else -1) S) : CI mX10_awayOf [.ref (70 : Nat), .int a, .int b] S f := by
  show CI mX10_awayOf _ _ _
  refine ci_of (T := mX10_awayOf) (fv := fun _ => True) (ls := [some (.ref (70 : Nat)), some (.int a), some (.int b)]) rfl (Nat.le_of_ble_eq_true rfl) (by decide) rfl rfl rfl (ok2_0 cX10_awayOf 10 60 rfl rfl ?_)
  simp only [sw3_c, sw3_n, Nat.reduceEqDiff, not_false_eq_true, Nat.zero_le, Nat.reduceLeDiff, Nat.reduceLT, Nat.reduceAdd, sg_s, ↓kif_0, ↓kif_c, ↓reduceIte, nl_n, nl_i, nl_r, List.length_cons, List.length_nil, true_and, and_true, upA_s, upA_n, upA_u, Prod.mk.injEq, and_self, Fr_70_2, Ld_71, oA_71, oL_70, (j_aload_n_0 dX10_awayOf_0 (n := 1) rfl), (j_getf dX10_awayOf_1 (n := 4) rfl cF_10_7), (j_bipush dX10_awayOf_4 (n := 6) rfl kb_8), (j_iload_n_1 dX10_awayOf_6 (n := 7) rfl), (j_imul dX10_awayOf_7 (n := 8) rfl), (j_iload_n_2 dX10_awayOf_8 (n := 9) rfl), (j_iadd dX10_awayOf_9 (n := 10) rfl), (j_iald dX10_awayOf_10 (n := 11) rfl), (j_ldc_i dX10_awayOf_11 (n := 13) rfl cI_10_147), (j_ic_ge dX10_awayOf_13 (n := 16) rfl br_13_17), (j_aload_n_0 dX10_awayOf_16 (n := 17) rfl), (j_getf dX10_awayOf_17 (n := 20) rfl cF_10_7), (j_bipush dX10_awayOf_20 (n := 22) rfl kb_8), (j_iload_n_1 dX10_awayOf_22 (n := 23) rfl), (j_imul dX10_awayOf_23 (n := 24) rfl), (j_iload_n_2 dX10_awayOf_24 (n := 25) rfl), (j_iadd dX10_awayOf_25 (n := 26) rfl), (j_iald dX10_awayOf_26 (n := 27) rfl), (j_goto dX10_awayOf_27 (n := 30) rfl br_27_4), (j_iconst dX10_awayOf_30 (n := 31) rfl ki_m1), (j_iret dX10_awayOf_31 (n := 32) rfl), rOk_i (M := mX10_awayOf) rfl]
  rw [Int32.mul_comm 8 a]
  refine ⟨hv, ?_⟩
  split
  · next h1 => rw [if_pos h1] at h; exact ⟨hv, h⟩
  · next h1 => rw [if_neg h1] at h; exact h
theorem pow14 {r : Nat} (h : r ≤ 14) : 30 * (2 ^ r - 1) ≤ 491490 := by
  have : 2 ^ r ≤ 2 ^ 14 := Nat.pow_le_pow_right (by omega) h
  omega
theorem JR_at {r : Int32} {w w' : Nat → Int32} (H : JR r w w') (hr : 0 ≤ r.toInt ∧ r.toInt ≤ 14) {i j : Nat} (hi : i < 8) (hj : j < 8) : (if w' (8 * i + j) < 1000000 then w' (8 * i + j) else -1) = w (8 * i + j) ∧ (w (8 * i + j) = -1 ∨ (0 ≤ (w (8 * i + j)).toInt ∧ (w (8 * i + j)).toInt ≤ 491490)) := by
  obtain ⟨d, -, hd⟩ := H
  obtain ⟨h1, h2, h3, h4⟩ := hd i j hi hj
  have hc := cl_eq (x := r) hr.1
  have hp := pow14 (r := r.toNatClampNeg) (by omega)
  rw [h3, h4]
  have e : (nI (d i j)).toInt = d i j := nI_toInt (by omega)
  by_cases hq : d i j = 1000000
  · rw [if_pos hq, if_neg (by rw [lt_I, e, ti_1000000]; omega)]
    exact ⟨rfl, Or.inl rfl⟩
  · rw [if_neg hq, if_pos (by rw [lt_I, e, ti_1000000]; omega)]
    exact ⟨rfl, Or.inr (by rw [e]; omega)⟩
theorem JR_ab {S : xA} (hI : Inv S) {a b : Int32} (h1 : ¬ (a.toInt < 0 ∨ 8 ≤ a.toInt)) (h2 : ¬ (b.toInt < 0 ∨ 8 ≤ b.toInt)) : (if S 71 (a * 8 + b).toNatClampNeg < 1000000 then S 71 (a * 8 + b).toNatClampNeg else -1) = S 2 (a * 8 + b).toNatClampNeg ∧ (S 2 (a * 8 + b).toNatClampNeg = -1 ∨ (0 ≤ (S 2 (a * 8 + b).toNatClampNeg).toInt ∧ (S 2 (a * 8 + b).toNatClampNeg).toInt ≤ 491490)) := by
  obtain ⟨e, h3, h4⟩ := ix88c h1 h2
  rw [e]
  exact JR_at hI.2.2.1 hI.2.1.2 h3 h4
set_option maxHeartbeats 4000000 in
theorem t_away (S : xA) (hI : Inv S) (a b : Int32) : Both mX9_away mX10_away [.int a, .int b] S := by
  show CI mX9_away _ _ _
  refine ci_of (T := mX9_away) (fv := fun _ => True) (ls := [some (.ref (0 : Nat)), some (.int a), some (.int b)]) rfl (Nat.le_of_ble_eq_true rfl) (by decide) rfl rfl rfl (ok2_0 cX9_away 9 60 rfl rfl ?_)
  simp only [sw3_c, sw3_n, Nat.reduceEqDiff, not_false_eq_true, Nat.zero_le, Nat.reduceLeDiff, Nat.reduceLT, Nat.reduceAdd, sg_s, ↓kif_0, ↓kif_c, ↓reduceIte, nl_n, nl_i, nl_r, List.length_cons, List.length_nil, true_and, and_true, upA_s, upA_n, upA_u, Prod.mk.injEq, and_self, Fr_0_0, oC_1, oL_0, (j_iload_n_1 dX9_away_0 (n := 1) rfl), (j_cs1i (M := mX9_away) dX9_away_1 (n := 4) rfl cM_9_87 (Or.inl rfl) (o := 9) rfl lv_X9_away_X9_noTown rfl), (j_if_ne dX9_away_4 (n := 7) rfl br_4_10), (j_iload_n_2 dX9_away_7 (n := 8) rfl), (j_cs1i (M := mX9_away) dX9_away_8 (n := 11) rfl cM_9_87 (Or.inl rfl) (o := 9) rfl lv_X9_away_X9_noTown rfl), (j_if_eq dX9_away_11 (n := 14) rfl br_11_7), (j_sipush dX9_away_14 (n := 17) rfl ks_m1001), (j_iret dX9_away_17 (n := 18) rfl), (j_aload_n_0 dX9_away_18 (n := 19) rfl), (j_getf dX9_away_19 (n := 22) rfl cF_9_12), (j_iload_n_1 dX9_away_22 (n := 23) rfl), (j_iload_n_2 dX9_away_23 (n := 24) rfl), (j_cv2i (M := mX9_away) dX9_away_24 (n := 27) rfl cM_9_102 (Or.inl rfl) lv_X9_away_X3_way rfl (oc := 3) rfl), (j_iret dX9_away_27 (n := 28) rfl), rOk_i (M := mX9_away) rfl]
  repeat' (first | (with_reducible refine c_way3 _ _ _ _ ?_ ?_) | (first | (with_reducible refine c_noTown _ _ _ ?_) | (with_reducible refine c_noUnion _ _ _ ?_) | (with_reducible refine c_noGood _ _ _ ?_) | (with_reducible refine c_beyond _ _ _ _ _ ?_) | (with_reducible refine c_noNumber _ _ _ _ ?_) | (with_reducible refine c_has _ _ _ _ ?_) | (with_reducible refine ite_i (fun _ => ?_) (fun _ => ?_)) | (with_reducible refine And.intro ?_ ?_)))
  all_goals ((try simp only [bI_0, bI_t, bI_f, decide_eq_false_iff_not, Classical.not_not] at *); (try simp only [wid_I, eq_I, lt_I, le_I, Classical.not_not, ti_m1000000, ti_m1004, ti_m1003, ti_m1002, ti_m1001, ti_m650, ti_m99, ti_m10, ti_m1, ti_0, ti_1, ti_2, ti_3, ti_4, ti_5, ti_6, ti_7, ti_8, ti_9, ti_10, ti_12, ti_14, ti_15, ti_20, ti_24, ti_30, ti_31, ti_32, ti_40, ti_44, ti_48, ti_57, ti_59, ti_63, ti_64, ti_72, ti_96, ti_97, ti_98, ti_99, ti_100, ti_101, ti_102, ti_105, ti_107, ti_108, ti_109, ti_110, ti_111, ti_112, ti_114, ti_115, ti_116, ti_117, ti_119, ti_120, ti_121, ti_122, ti_160, ti_168, ti_216, ti_222, ti_240, ti_255, ti_262, ti_302, ti_400, ti_495, ti_650, ti_991, ti_999, ti_1300, ti_9100, ti_9999, ti_99999, ti_1000000, tj_m550, tj_m99, tj_0, tj_1, tj_2, tj_3, tj_5, tj_6, tj_7, tj_8, tj_30, tj_48, tj_57, tj_63, tj_97, tj_99, tj_100, tj_122, tj_240, tj_255, tj_550, tj_999, tj_9999, tj_99999, tj_4294967295] at *))
  all_goals first | (with_reducible exact ix88v (by omega) (by omega)) | skip
  all_goals
    show CI mX10_away _ _ _
    refine ci_of (T := mX10_away) (fv := fun _ => True) (ls := [some (.ref (70 : Nat)), some (.int a), some (.int b)]) rfl (Nat.le_of_ble_eq_true rfl) (by decide) rfl rfl rfl (ok2_0 cX10_away 10 60 rfl rfl ?_)
    simp only [sw3_c, sw3_n, Nat.reduceEqDiff, not_false_eq_true, Nat.zero_le, Nat.reduceLeDiff, Nat.reduceLT, Nat.reduceAdd, sg_s, ↓kif_0, ↓kif_c, ↓reduceIte, nl_n, nl_i, nl_r, List.length_cons, List.length_nil, true_and, and_true, upA_s, upA_n, upA_u, Prod.mk.injEq, and_self, oC_70, (j_iload_n_1 dX10_away_0 (n := 1) rfl), (j_cs1i (M := mX10_away) dX10_away_1 (n := 4) rfl cM_10_158 (Or.inl rfl) (o := 10) rfl lv_X10_away_X10_isTown rfl), (j_if_eq dX10_away_4 (n := 7) rfl br_4_19), (j_iload_n_2 dX10_away_7 (n := 8) rfl), (j_cs1i (M := mX10_away) dX10_away_8 (n := 11) rfl cM_10_158 (Or.inl rfl) (o := 10) rfl lv_X10_away_X10_isTown rfl), (j_if_eq dX10_away_11 (n := 14) rfl br_11_12), (j_aload_n_0 dX10_away_14 (n := 15) rfl), (j_iload_n_1 dX10_away_15 (n := 16) rfl), (j_iload_n_2 dX10_away_16 (n := 17) rfl), (j_cv2i (M := mX10_away) dX10_away_17 (n := 20) rfl cM_10_171 (Or.inl rfl) lv_X10_away_X10_awayOf rfl (oc := 10) rfl), (j_goto dX10_away_20 (n := 23) rfl br_20_6), (j_sipush dX10_away_23 (n := 26) rfl ks_m1001), (j_iret dX10_away_26 (n := 27) rfl), rOk_i (M := mX10_away) rfl]
    repeat' (first | (with_reducible refine c_awayOf _ _ _ _ ?_ ?_) | (first | (with_reducible refine c_isTown _ _ _ ?_) | (with_reducible refine c_isUnion _ _ _ ?_) | (with_reducible refine c_isGood _ _ _ ?_) | (with_reducible refine c_isHour _ _ _ ?_) | (with_reducible refine c_in _ _ _ _ _ ?_) | (with_reducible refine c_one _ _ _ ?_) | (with_reducible refine c_least _ _ _ _ ?_) | (with_reducible refine c_isGame _ _ _ _ ?_) | (with_reducible refine ite_i (fun _ => ?_) (fun _ => ?_)) | (with_reducible refine And.intro ?_ ?_)))
    all_goals ((try simp only [bI_0, bI_t, bI_f, decide_eq_false_iff_not, Classical.not_not] at *); (try simp only [wid_I, eq_I, lt_I, le_I, Classical.not_not, ti_m1000000, ti_m1004, ti_m1003, ti_m1002, ti_m1001, ti_m650, ti_m99, ti_m10, ti_m1, ti_0, ti_1, ti_2, ti_3, ti_4, ti_5, ti_6, ti_7, ti_8, ti_9, ti_10, ti_12, ti_14, ti_15, ti_20, ti_24, ti_30, ti_31, ti_32, ti_40, ti_44, ti_48, ti_57, ti_59, ti_63, ti_64, ti_72, ti_96, ti_97, ti_98, ti_99, ti_100, ti_101, ti_102, ti_105, ti_107, ti_108, ti_109, ti_110, ti_111, ti_112, ti_114, ti_115, ti_116, ti_117, ti_119, ti_120, ti_121, ti_122, ti_160, ti_168, ti_216, ti_222, ti_240, ti_255, ti_262, ti_302, ti_400, ti_495, ti_650, ti_991, ti_999, ti_1300, ti_9100, ti_9999, ti_99999, ti_1000000, tj_m550, tj_m99, tj_0, tj_1, tj_2, tj_3, tj_5, tj_6, tj_7, tj_8, tj_30, tj_48, tj_57, tj_63, tj_97, tj_99, tj_100, tj_122, tj_240, tj_255, tj_550, tj_999, tj_9999, tj_99999, tj_4294967295] at *))
    all_goals first | (exfalso; omega) | (with_reducible exact ix88v (by omega) (by omega)) | (with_reducible exact g3_rf hI) | skip
  have := (JR_ab hI (a := a) (b := b) (by omega) (by omega)).1
  simp only [lt_I, ti_1000000] at this
  rw [this]
  exact g3_rf hI
/-- the hour of an order as the reference has it -/
def hrO (S : xA) (o : Nat) : Int32 := if S 70 20 < 0 then S 87 o else if S 84 o = 0 then S 70 20 else S 87 o
set_option maxHeartbeats 4000000 in
theorem c_hourOf (o : Int32) (S : xA) (f : xP) (hv : vp_in o 40) (h : f (hrO S o.toNatClampNeg) S) : CI mX10_hourOf [.ref (70 : Nat), .int o] S f := by
  show CI mX10_hourOf _ _ _
  refine ci_of (T := mX10_hourOf) (fv := fun _ => True) (ls := [some (.ref (70 : Nat)), some (.int o)]) rfl (Nat.le_of_ble_eq_true rfl) (by decide) rfl rfl rfl (ok2_0 cX10_hourOf 10 60 rfl rfl ?_)
  simp only [sw3_c, sw3_n, Nat.reduceEqDiff, not_false_eq_true, Nat.zero_le, Nat.reduceLeDiff, Nat.reduceLT, Nat.reduceAdd, sg_s, ↓kif_0, ↓kif_c, ↓reduceIte, nl_n, nl_i, nl_r, List.length_cons, List.length_nil, true_and, and_true, upA_s, upA_n, upA_u, Prod.mk.injEq, and_self, Fr_70_16, Fr_70_19, Fr_70_20, Ld_84, Ld_87, oA_84, oA_87, oL_70, (j_aload_n_0 dX10_hourOf_0 (n := 1) rfl), (j_getf dX10_hourOf_1 (n := 4) rfl cF_10_61), (j_if_lt dX10_hourOf_4 (n := 7) rfl br_4_19), (j_aload_n_0 dX10_hourOf_7 (n := 8) rfl), (j_getf dX10_hourOf_8 (n := 11) rfl cF_10_49), (j_iload_n_1 dX10_hourOf_11 (n := 12) rfl), (j_iald dX10_hourOf_12 (n := 13) rfl), (j_if_ne dX10_hourOf_13 (n := 16) rfl br_13_10), (j_aload_n_0 dX10_hourOf_16 (n := 17) rfl), (j_getf dX10_hourOf_17 (n := 20) rfl cF_10_61), (j_goto dX10_hourOf_20 (n := 23) rfl br_20_9), (j_aload_n_0 dX10_hourOf_23 (n := 24) rfl), (j_getf dX10_hourOf_24 (n := 27) rfl cF_10_58), (j_iload_n_1 dX10_hourOf_27 (n := 28) rfl), (j_iald dX10_hourOf_28 (n := 29) rfl), (j_iret dX10_hourOf_29 (n := 30) rfl), rOk_i (M := mX10_hourOf) rfl]
  unfold hrO at h
  split
  · next h1 => rw [if_pos h1] at h; exact ⟨hv, h⟩
  · next h1 =>
    rw [if_neg h1] at h
    refine ⟨hv, ?_⟩
    split
    · next h2 => rw [if_pos h2] at h; exact h
    · next h2 => rw [if_neg h2] at h; exact ⟨hv, h⟩
