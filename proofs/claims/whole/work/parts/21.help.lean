-- the small helpers of both
set_option maxHeartbeats 4000000 in
theorem c_noNumber (v n : Int32) (S : xA) (f : xP) (h : f (bI (decide (v.toInt < 0 ∨ n.toInt ≤ v.toInt))) S) : CI mX9_noNumber [.int v, .int n] S f := by
  refine ci_of (fv := fun _ => True) (ls := [some (.int v), some (.int n)]) rfl (Nat.le_of_ble_eq_true rfl) (by decide) rfl rfl rfl (ok2_0 cX9_noNumber 9 40 rfl rfl ?_)
  simp only [Nat.reduceEqDiff, not_false_eq_true, Nat.zero_le, Nat.reduceLeDiff, Nat.reduceLT, Nat.reduceAdd, sg_s, ↓kif_0, ↓kif_c, ↓reduceIte, nl_n, nl_i, nl_r, List.length_cons, List.length_nil, true_and, and_true, upA_s, upA_n, upA_u, Prod.mk.injEq, and_self, (j_iload_n_0 dX9_noNumber_0 (n := 1) rfl), (j_if_lt dX9_noNumber_1 (n := 4) rfl br_1_8), (j_iload_n_0 dX9_noNumber_4 (n := 5) rfl), (j_iload_n_1 dX9_noNumber_5 (n := 6) rfl), (j_ic_lt dX9_noNumber_6 (n := 9) rfl br_6_7), (j_iconst dX9_noNumber_9 (n := 10) rfl ki_1), (j_goto dX9_noNumber_10 (n := 13) rfl br_10_4), (j_iconst dX9_noNumber_13 (n := 14) rfl ki_0), (j_iret dX9_noNumber_14 (n := 15) rfl)]
  simp only [lt_I, ti_m1000000, ti_m1004, ti_m1003, ti_m1002, ti_m1001, ti_m650, ti_m99, ti_m10, ti_m1, ti_0, ti_1, ti_2, ti_3, ti_4, ti_5, ti_6, ti_7, ti_8, ti_9, ti_10, ti_12, ti_14, ti_15, ti_20, ti_24, ti_30, ti_31, ti_32, ti_40, ti_44, ti_48, ti_57, ti_59, ti_63, ti_64, ti_72, ti_96, ti_97, ti_98, ti_99, ti_100, ti_101, ti_102, ti_105, ti_107, ti_108, ti_109, ti_110, ti_111, ti_112, ti_114, ti_115, ti_116, ti_117, ti_119, ti_120, ti_121, ti_122, ti_160, ti_168, ti_216, ti_222, ti_240, ti_255, ti_262, ti_302, ti_400, ti_495, ti_650, ti_991, ti_999, ti_1300, ti_9100, ti_9999, ti_99999, ti_1000000, tj_m550, tj_m99, tj_0, tj_1, tj_2, tj_3, tj_5, tj_6, tj_7, tj_8, tj_30, tj_48, tj_57, tj_63, tj_97, tj_99, tj_100, tj_122, tj_240, tj_255, tj_550, tj_999, tj_9999, tj_99999, tj_4294967295] at *
  split
  · next h1 => rw [decide_eq_true (Or.inl h1)] at h; exact ⟨rOk_z rfl (Or.inr rfl), h⟩
  · next h1 =>
    split
    · next h2 => rw [decide_eq_false (by simp at h1 ⊢; omega)] at h; exact ⟨rOk_z rfl (Or.inl rfl), h⟩
    · next h2 => rw [decide_eq_true (Or.inr (by omega))] at h; exact ⟨rOk_z rfl (Or.inr rfl), h⟩
set_option maxHeartbeats 4000000 in
theorem c_noTown (v : Int32) (S : xA) (f : xP) (h : f (bI (decide (v.toInt < 0 ∨ 8 ≤ v.toInt))) S) : CI mX9_noTown [.int v] S f := by
  refine ci_of (fv := fun _ => True) (ls := [some (.int v)]) rfl (Nat.le_of_ble_eq_true rfl) (by decide) rfl rfl rfl (ok2_0 cX9_noTown 9 40 rfl rfl ?_)
  simp only [Nat.reduceEqDiff, not_false_eq_true, Nat.zero_le, Nat.reduceLeDiff, Nat.reduceLT, Nat.reduceAdd, sg_s, ↓kif_0, ↓kif_c, ↓reduceIte, nl_n, nl_i, nl_r, List.length_cons, List.length_nil, true_and, and_true, upA_s, upA_n, upA_u, Prod.mk.injEq, and_self, (j_iload_n_0 dX9_noTown_0 (n := 1) rfl), (j_bipush dX9_noTown_1 (n := 3) rfl kb_8), (j_cs2i (M := mX9_noTown) dX9_noTown_3 (n := 6) rfl cM_9_169 (Or.inl rfl) (o := 9) rfl lv_X9_noTown_X9_noNumber rfl), (j_iret dX9_noTown_6 (n := 7) rfl)]
  refine c_noNumber _ _ _ _ ?_
  exact ⟨rOk_z rfl (bI_01 _), h⟩
set_option maxHeartbeats 4000000 in
theorem c_noUnion (v : Int32) (S : xA) (f : xP) (h : f (bI (decide (v.toInt < 0 ∨ 6 ≤ v.toInt))) S) : CI mX9_noUnion [.int v] S f := by
  refine ci_of (fv := fun _ => True) (ls := [some (.int v)]) rfl (Nat.le_of_ble_eq_true rfl) (by decide) rfl rfl rfl (ok2_0 cX9_noUnion 9 40 rfl rfl ?_)
  simp only [Nat.reduceEqDiff, not_false_eq_true, Nat.zero_le, Nat.reduceLeDiff, Nat.reduceLT, Nat.reduceAdd, sg_s, ↓kif_0, ↓kif_c, ↓reduceIte, nl_n, nl_i, nl_r, List.length_cons, List.length_nil, true_and, and_true, upA_s, upA_n, upA_u, Prod.mk.injEq, and_self, (j_iload_n_0 dX9_noUnion_0 (n := 1) rfl), (j_bipush dX9_noUnion_1 (n := 3) rfl kb_6), (j_cs2i (M := mX9_noUnion) dX9_noUnion_3 (n := 6) rfl cM_9_169 (Or.inl rfl) (o := 9) rfl lv_X9_noUnion_X9_noNumber rfl), (j_iret dX9_noUnion_6 (n := 7) rfl)]
  refine c_noNumber _ _ _ _ ?_
  exact ⟨rOk_z rfl (bI_01 _), h⟩
set_option maxHeartbeats 4000000 in
theorem c_noGood (v : Int32) (S : xA) (f : xP) (h : f (bI (decide (v.toInt < 0 ∨ 3 ≤ v.toInt))) S) : CI mX9_noGood [.int v] S f := by
  refine ci_of (fv := fun _ => True) (ls := [some (.int v)]) rfl (Nat.le_of_ble_eq_true rfl) (by decide) rfl rfl rfl (ok2_0 cX9_noGood 9 40 rfl rfl ?_)
  simp only [Nat.reduceEqDiff, not_false_eq_true, Nat.zero_le, Nat.reduceLeDiff, Nat.reduceLT, Nat.reduceAdd, sg_s, ↓kif_0, ↓kif_c, ↓reduceIte, nl_n, nl_i, nl_r, List.length_cons, List.length_nil, true_and, and_true, upA_s, upA_n, upA_u, Prod.mk.injEq, and_self, (j_iload_n_0 dX9_noGood_0 (n := 1) rfl), (j_iconst dX9_noGood_1 (n := 2) rfl ki_3), (j_cs2i (M := mX9_noGood) dX9_noGood_2 (n := 5) rfl cM_9_169 (Or.inl rfl) (o := 9) rfl lv_X9_noGood_X9_noNumber rfl), (j_iret dX9_noGood_5 (n := 6) rfl)]
  refine c_noNumber _ _ _ _ ?_
  exact ⟨rOk_z rfl (bI_01 _), h⟩
set_option maxHeartbeats 4000000 in
theorem c_beyond (v a b : Int32) (S : xA) (f : xP) (h : f (bI (decide (v.toInt < a.toInt ∨ b.toInt < v.toInt))) S) : CI mX9_beyond [.int v, .int a, .int b] S f := by
  refine ci_of (fv := fun _ => True) (ls := [some (.int v), some (.int a), some (.int b)]) rfl (Nat.le_of_ble_eq_true rfl) (by decide) rfl rfl rfl (ok2_0 cX9_beyond 9 40 rfl rfl ?_)
  simp only [Nat.reduceEqDiff, not_false_eq_true, Nat.zero_le, Nat.reduceLeDiff, Nat.reduceLT, Nat.reduceAdd, sg_s, ↓kif_0, ↓kif_c, ↓reduceIte, nl_n, nl_i, nl_r, List.length_cons, List.length_nil, true_and, and_true, upA_s, upA_n, upA_u, Prod.mk.injEq, and_self, (j_iload_n_0 dX9_beyond_0 (n := 1) rfl), (j_iload_n_1 dX9_beyond_1 (n := 2) rfl), (j_ic_lt dX9_beyond_2 (n := 5) rfl br_2_8), (j_iload_n_0 dX9_beyond_5 (n := 6) rfl), (j_iload_n_2 dX9_beyond_6 (n := 7) rfl), (j_ic_le dX9_beyond_7 (n := 10) rfl br_7_7), (j_iconst dX9_beyond_10 (n := 11) rfl ki_1), (j_goto dX9_beyond_11 (n := 14) rfl br_11_4), (j_iconst dX9_beyond_14 (n := 15) rfl ki_0), (j_iret dX9_beyond_15 (n := 16) rfl)]
  simp only [lt_I, ti_m1000000, ti_m1004, ti_m1003, ti_m1002, ti_m1001, ti_m650, ti_m99, ti_m10, ti_m1, ti_0, ti_1, ti_2, ti_3, ti_4, ti_5, ti_6, ti_7, ti_8, ti_9, ti_10, ti_12, ti_14, ti_15, ti_20, ti_24, ti_30, ti_31, ti_32, ti_40, ti_44, ti_48, ti_57, ti_59, ti_63, ti_64, ti_72, ti_96, ti_97, ti_98, ti_99, ti_100, ti_101, ti_102, ti_105, ti_107, ti_108, ti_109, ti_110, ti_111, ti_112, ti_114, ti_115, ti_116, ti_117, ti_119, ti_120, ti_121, ti_122, ti_160, ti_168, ti_216, ti_222, ti_240, ti_255, ti_262, ti_302, ti_400, ti_495, ti_650, ti_991, ti_999, ti_1300, ti_9100, ti_9999, ti_99999, ti_1000000, tj_m550, tj_m99, tj_0, tj_1, tj_2, tj_3, tj_5, tj_6, tj_7, tj_8, tj_30, tj_48, tj_57, tj_63, tj_97, tj_99, tj_100, tj_122, tj_240, tj_255, tj_550, tj_999, tj_9999, tj_99999, tj_4294967295] at *
  split
  · next h1 => rw [decide_eq_true (Or.inl h1)] at h; exact ⟨rOk_z rfl (Or.inr rfl), h⟩
  · next h1 =>
    split
    · next h2 => rw [decide_eq_true (Or.inr h2)] at h; exact ⟨rOk_z rfl (Or.inr rfl), h⟩
    · next h2 => rw [decide_eq_false (by omega)] at h; exact ⟨rOk_z rfl (Or.inl rfl), h⟩
set_option maxHeartbeats 4000000 in
theorem c_has (s k : Int32) (S : xA) (f : xP) (h : f (bI (decide ((s >>> (k &&& 31)) &&& 1 = 1))) S) : CI mX9_has [.int s, .int k] S f := by
  refine ci_of (fv := fun _ => True) (ls := [some (.int s), some (.int k)]) rfl (Nat.le_of_ble_eq_true rfl) (by decide) rfl rfl rfl (ok2_0 cX9_has 9 40 rfl rfl ?_)
  simp only [Nat.reduceEqDiff, not_false_eq_true, Nat.zero_le, Nat.reduceLeDiff, Nat.reduceLT, Nat.reduceAdd, sg_s, ↓kif_0, ↓kif_c, ↓reduceIte, nl_n, nl_i, nl_r, List.length_cons, List.length_nil, true_and, and_true, upA_s, upA_n, upA_u, Prod.mk.injEq, and_self, (j_iload_n_0 dX9_has_0 (n := 1) rfl), (j_iload_n_1 dX9_has_1 (n := 2) rfl), (j_ishr dX9_has_2 (n := 3) rfl), (j_iconst dX9_has_3 (n := 4) rfl ki_1), (j_iand dX9_has_4 (n := 5) rfl), (j_iconst dX9_has_5 (n := 6) rfl ki_1), (j_ic_ne dX9_has_6 (n := 9) rfl br_6_7), (j_iconst dX9_has_9 (n := 10) rfl ki_1), (j_goto dX9_has_10 (n := 13) rfl br_10_4), (j_iconst dX9_has_13 (n := 14) rfl ki_0), (j_iret dX9_has_14 (n := 15) rfl)]
  split
  · next h2 => rw [decide_eq_true h2] at h; exact ⟨rOk_z rfl (Or.inr rfl), h⟩
  · next h2 => rw [decide_eq_false h2] at h; exact ⟨rOk_z rfl (Or.inl rfl), h⟩
-- the reference's
set_option maxHeartbeats 4000000 in
theorem c_in (v a b : Int64) (S : xA) (f : xP) (h : f (bI (decide (a.toInt ≤ v.toInt ∧ v.toInt ≤ b.toInt))) S) : CI mX10_in [.long v, .long a, .long b] S f := by
  refine ci_of (fv := fun _ => True) (ls := [some (.long v), none, some (.long a), none, some (.long b), none]) rfl (Nat.le_of_ble_eq_true rfl) (by decide) rfl rfl rfl (ok2_0 cX10_in 10 40 rfl rfl ?_)
  simp only [Nat.reduceEqDiff, not_false_eq_true, Nat.zero_le, Nat.reduceLeDiff, Nat.reduceLT, Nat.reduceAdd, sg_s, ↓kif_0, ↓kif_c, ↓reduceIte, nl_n, nl_i, nl_r, List.length_cons, List.length_nil, true_and, and_true, upA_s, upA_n, upA_u, Prod.mk.injEq, and_self, (j_lload_n_0 dX10_in_0 (n := 1) rfl), (j_lload_n_2 dX10_in_1 (n := 2) rfl), (j_lcmp dX10_in_2 (n := 3) rfl), (j_if_lt dX10_in_3 (n := 6) rfl br_3_14), (j_lload_n_0 dX10_in_6 (n := 7) rfl), (j_lload_4 dX10_in_7 (n := 9) rfl), (j_lcmp dX10_in_9 (n := 10) rfl), (j_if_gt dX10_in_10 (n := 13) rfl br_10_7), (j_iconst dX10_in_13 (n := 14) rfl ki_1), (j_goto dX10_in_14 (n := 17) rfl br_14_4), (j_iconst dX10_in_17 (n := 18) rfl ki_0), (j_iret dX10_in_18 (n := 19) rfl)]
  simp only [lg_0l, lg_0g, lt_J, ti_m1000000, ti_m1004, ti_m1003, ti_m1002, ti_m1001, ti_m650, ti_m99, ti_m10, ti_m1, ti_0, ti_1, ti_2, ti_3, ti_4, ti_5, ti_6, ti_7, ti_8, ti_9, ti_10, ti_12, ti_14, ti_15, ti_20, ti_24, ti_30, ti_31, ti_32, ti_40, ti_44, ti_48, ti_57, ti_59, ti_63, ti_64, ti_72, ti_96, ti_97, ti_98, ti_99, ti_100, ti_101, ti_102, ti_105, ti_107, ti_108, ti_109, ti_110, ti_111, ti_112, ti_114, ti_115, ti_116, ti_117, ti_119, ti_120, ti_121, ti_122, ti_160, ti_168, ti_216, ti_222, ti_240, ti_255, ti_262, ti_302, ti_400, ti_495, ti_650, ti_991, ti_999, ti_1300, ti_9100, ti_9999, ti_99999, ti_1000000, tj_m550, tj_m99, tj_0, tj_1, tj_2, tj_3, tj_5, tj_6, tj_7, tj_8, tj_30, tj_48, tj_57, tj_63, tj_97, tj_99, tj_100, tj_122, tj_240, tj_255, tj_550, tj_999, tj_9999, tj_99999, tj_4294967295] at *
  split
  · next h1 => rw [decide_eq_false (by omega)] at h; exact ⟨rOk_z rfl (Or.inl rfl), h⟩
  · next h1 =>
    split
    · next h2 => rw [decide_eq_false (by omega)] at h; exact ⟨rOk_z rfl (Or.inl rfl), h⟩
    · next h2 => rw [decide_eq_true (by omega)] at h; exact ⟨rOk_z rfl (Or.inr rfl), h⟩
set_option maxHeartbeats 4000000 in
theorem c_one (v : Int32) (S : xA) (f : xP) (h : f (if v = 0 then 0 else 1) S) : CI mX10_one [.int v] S f := by
  refine ci_of (fv := fun _ => True) (ls := [some (.int v)]) rfl (Nat.le_of_ble_eq_true rfl) (by decide) rfl rfl rfl (ok2_0 cX10_one 10 40 rfl rfl ?_)
  simp only [Nat.reduceEqDiff, not_false_eq_true, Nat.zero_le, Nat.reduceLeDiff, Nat.reduceLT, Nat.reduceAdd, sg_s, ↓kif_0, ↓kif_c, ↓reduceIte, nl_n, nl_i, nl_r, List.length_cons, List.length_nil, true_and, and_true, upA_s, upA_n, upA_u, Prod.mk.injEq, and_self, (j_iload_n_0 dX10_one_0 (n := 1) rfl), (j_if_eq dX10_one_1 (n := 4) rfl br_1_7), (j_iconst dX10_one_4 (n := 5) rfl ki_1), (j_goto dX10_one_5 (n := 8) rfl br_5_4), (j_iconst dX10_one_8 (n := 9) rfl ki_0), (j_iret dX10_one_9 (n := 10) rfl), rOk_i (M := mX10_one) rfl]
  split <;> simp_all
set_option maxHeartbeats 4000000 in
theorem c_least (a b : Int32) (S : xA) (f : xP) (h : f (if a < b then a else b) S) : CI mX10_least [.int a, .int b] S f := by
  refine ci_of (fv := fun _ => True) (ls := [some (.int a), some (.int b)]) rfl (Nat.le_of_ble_eq_true rfl) (by decide) rfl rfl rfl (ok2_0 cX10_least 10 40 rfl rfl ?_)
  simp only [Nat.reduceEqDiff, not_false_eq_true, Nat.zero_le, Nat.reduceLeDiff, Nat.reduceLT, Nat.reduceAdd, sg_s, ↓kif_0, ↓kif_c, ↓reduceIte, nl_n, nl_i, nl_r, List.length_cons, List.length_nil, true_and, and_true, upA_s, upA_n, upA_u, Prod.mk.injEq, and_self, (j_iload_n_0 dX10_least_0 (n := 1) rfl), (j_iload_n_1 dX10_least_1 (n := 2) rfl), (j_ic_ge dX10_least_2 (n := 5) rfl br_2_7), (j_iload_n_0 dX10_least_5 (n := 6) rfl), (j_goto dX10_least_6 (n := 9) rfl br_6_4), (j_iload_n_1 dX10_least_9 (n := 10) rfl), (j_iret dX10_least_10 (n := 11) rfl), rOk_i (M := mX10_least) rfl]
  split <;> simp_all
set_option maxHeartbeats 4000000 in
theorem c_isTown (v : Int32) (S : xA) (f : xP) (h : f (bI (decide (0 ≤ v.toInt ∧ v.toInt ≤ 7))) S) : CI mX10_isTown [.int v] S f := by
  refine ci_of (fv := fun _ => True) (ls := [some (.int v)]) rfl (Nat.le_of_ble_eq_true rfl) (by decide) rfl rfl rfl (ok2_0 cX10_isTown 10 40 rfl rfl ?_)
  simp only [Nat.reduceEqDiff, not_false_eq_true, Nat.zero_le, Nat.reduceLeDiff, Nat.reduceLT, Nat.reduceAdd, sg_s, ↓kif_0, ↓kif_c, ↓reduceIte, nl_n, nl_i, nl_r, List.length_cons, List.length_nil, true_and, and_true, upA_s, upA_n, upA_u, Prod.mk.injEq, and_self, (j_iload_n_0 dX10_isTown_0 (n := 1) rfl), (j_i2l dX10_isTown_1 (n := 2) rfl), (j_lconst dX10_isTown_2 (n := 3) rfl (v := 0) (by decide)), (j_ldc2 dX10_isTown_3 (n := 6) rfl cJ_10_148), (j_cs3i (M := mX10_isTown) dX10_isTown_6 (n := 9) rfl cM_10_150 (Or.inl rfl) (o := 10) rfl lv_X10_isTown_X10_in rfl), (j_iret dX10_isTown_9 (n := 10) rfl)]
  refine c_in _ _ _ _ _ ?_
  refine ⟨rOk_z rfl (bI_01 _), ?_⟩
  rw [wid_I]
  exact h
set_option maxHeartbeats 4000000 in
theorem c_isUnion (v : Int32) (S : xA) (f : xP) (h : f (bI (decide (0 ≤ v.toInt ∧ v.toInt ≤ 5))) S) : CI mX10_isUnion [.int v] S f := by
  refine ci_of (fv := fun _ => True) (ls := [some (.int v)]) rfl (Nat.le_of_ble_eq_true rfl) (by decide) rfl rfl rfl (ok2_0 cX10_isUnion 10 40 rfl rfl ?_)
  simp only [Nat.reduceEqDiff, not_false_eq_true, Nat.zero_le, Nat.reduceLeDiff, Nat.reduceLT, Nat.reduceAdd, sg_s, ↓kif_0, ↓kif_c, ↓reduceIte, nl_n, nl_i, nl_r, List.length_cons, List.length_nil, true_and, and_true, upA_s, upA_n, upA_u, Prod.mk.injEq, and_self, (j_iload_n_0 dX10_isUnion_0 (n := 1) rfl), (j_i2l dX10_isUnion_1 (n := 2) rfl), (j_lconst dX10_isUnion_2 (n := 3) rfl (v := 0) (by decide)), (j_ldc2 dX10_isUnion_3 (n := 6) rfl cJ_10_154), (j_cs3i (M := mX10_isUnion) dX10_isUnion_6 (n := 9) rfl cM_10_150 (Or.inl rfl) (o := 10) rfl lv_X10_isUnion_X10_in rfl), (j_iret dX10_isUnion_9 (n := 10) rfl)]
  refine c_in _ _ _ _ _ ?_
  refine ⟨rOk_z rfl (bI_01 _), ?_⟩
  rw [wid_I]
  exact h
set_option maxHeartbeats 4000000 in
theorem c_isHour (v : Int32) (S : xA) (f : xP) (h : f (bI (decide (0 ≤ v.toInt ∧ v.toInt ≤ 240))) S) : CI mX10_isHour [.int v] S f := by
  refine ci_of (fv := fun _ => True) (ls := [some (.int v)]) rfl (Nat.le_of_ble_eq_true rfl) (by decide) rfl rfl rfl (ok2_0 cX10_isHour 10 40 rfl rfl ?_)
  simp only [Nat.reduceEqDiff, not_false_eq_true, Nat.zero_le, Nat.reduceLeDiff, Nat.reduceLT, Nat.reduceAdd, sg_s, ↓kif_0, ↓kif_c, ↓reduceIte, nl_n, nl_i, nl_r, List.length_cons, List.length_nil, true_and, and_true, upA_s, upA_n, upA_u, Prod.mk.injEq, and_self, (j_iload_n_0 dX10_isHour_0 (n := 1) rfl), (j_i2l dX10_isHour_1 (n := 2) rfl), (j_lconst dX10_isHour_2 (n := 3) rfl (v := 0) (by decide)), (j_ldc2 dX10_isHour_3 (n := 6) rfl cJ_10_156), (j_cs3i (M := mX10_isHour) dX10_isHour_6 (n := 9) rfl cM_10_150 (Or.inl rfl) (o := 10) rfl lv_X10_isHour_X10_in rfl), (j_iret dX10_isHour_9 (n := 10) rfl)]
  refine c_in _ _ _ _ _ ?_
  refine ⟨rOk_z rfl (bI_01 _), ?_⟩
  rw [wid_I]
  exact h
set_option maxHeartbeats 4000000 in
theorem c_isGood (v : Int32) (S : xA) (f : xP) (h : f (bI (decide (0 ≤ v.toInt ∧ v.toInt ≤ 2))) S) : CI mX10_isGood [.int v] S f := by
  refine ci_of (fv := fun _ => True) (ls := [some (.int v)]) rfl (Nat.le_of_ble_eq_true rfl) (by decide) rfl rfl rfl (ok2_0 cX10_isGood 10 40 rfl rfl ?_)
  simp only [Nat.reduceEqDiff, not_false_eq_true, Nat.zero_le, Nat.reduceLeDiff, Nat.reduceLT, Nat.reduceAdd, sg_s, ↓kif_0, ↓kif_c, ↓reduceIte, nl_n, nl_i, nl_r, List.length_cons, List.length_nil, true_and, and_true, upA_s, upA_n, upA_u, Prod.mk.injEq, and_self, (j_iload_n_0 dX10_isGood_0 (n := 1) rfl), (j_i2l dX10_isGood_1 (n := 2) rfl), (j_lconst dX10_isGood_2 (n := 3) rfl (v := 0) (by decide)), (j_ldc2 dX10_isGood_3 (n := 6) rfl cJ_10_174), (j_cs3i (M := mX10_isGood) dX10_isGood_6 (n := 9) rfl cM_10_150 (Or.inl rfl) (o := 10) rfl lv_X10_isGood_X10_in rfl), (j_iret dX10_isGood_9 (n := 10) rfl)]
  refine c_in _ _ _ _ _ ?_
  refine ⟨rOk_z rfl (bI_01 _), ?_⟩
  rw [wid_I]
  exact h
set_option maxHeartbeats 4000000 in
theorem c_isGame (n e : Int32) (S : xA) (f : xP) (h : f (bI (decide ((1 ≤ n.toInt ∧ n.toInt ≤ 6) ∧ (1 ≤ e.toInt ∧ e.toInt ≤ 999)))) S) : CI mX10_isGame [.int n, .int e] S f := by
  refine ci_of (fv := fun _ => True) (ls := [some (.int n), some (.int e)]) rfl (Nat.le_of_ble_eq_true rfl) (by decide) rfl rfl rfl (ok2_0 cX10_isGame 10 40 rfl rfl ?_)
  simp only [Nat.reduceEqDiff, not_false_eq_true, Nat.zero_le, Nat.reduceLeDiff, Nat.reduceLT, Nat.reduceAdd, sg_s, ↓kif_0, ↓kif_c, ↓reduceIte, nl_n, nl_i, nl_r, List.length_cons, List.length_nil, true_and, and_true, upA_s, upA_n, upA_u, Prod.mk.injEq, and_self, (j_iload_n_0 dX10_isGame_0 (n := 1) rfl), (j_i2l dX10_isGame_1 (n := 2) rfl), (j_lconst dX10_isGame_2 (n := 3) rfl (v := 1) (by decide)), (j_ldc2 dX10_isGame_3 (n := 6) rfl cJ_10_303), (j_cs3i (M := mX10_isGame) dX10_isGame_6 (n := 9) rfl cM_10_150 (Or.inl rfl) (o := 10) rfl lv_X10_isGame_X10_in rfl), (j_if_eq dX10_isGame_9 (n := 12) rfl br_9_19), (j_iload_n_1 dX10_isGame_12 (n := 13) rfl), (j_i2l dX10_isGame_13 (n := 14) rfl), (j_lconst dX10_isGame_14 (n := 15) rfl (v := 1) (by decide)), (j_ldc2 dX10_isGame_15 (n := 18) rfl cJ_10_186), (j_cs3i (M := mX10_isGame) dX10_isGame_18 (n := 21) rfl cM_10_150 (Or.inl rfl) (o := 10) rfl lv_X10_isGame_X10_in rfl), (j_if_eq dX10_isGame_21 (n := 24) rfl br_21_7), (j_iconst dX10_isGame_24 (n := 25) rfl ki_1), (j_goto dX10_isGame_25 (n := 28) rfl br_25_4), (j_iconst dX10_isGame_28 (n := 29) rfl ki_0), (j_iret dX10_isGame_29 (n := 30) rfl)]
  refine c_in _ _ _ _ _ ?_
  simp only [bI_0, decide_eq_false_iff_not, wid_I, ti_m1000000, ti_m1004, ti_m1003, ti_m1002, ti_m1001, ti_m650, ti_m99, ti_m10, ti_m1, ti_0, ti_1, ti_2, ti_3, ti_4, ti_5, ti_6, ti_7, ti_8, ti_9, ti_10, ti_12, ti_14, ti_15, ti_20, ti_24, ti_30, ti_31, ti_32, ti_40, ti_44, ti_48, ti_57, ti_59, ti_63, ti_64, ti_72, ti_96, ti_97, ti_98, ti_99, ti_100, ti_101, ti_102, ti_105, ti_107, ti_108, ti_109, ti_110, ti_111, ti_112, ti_114, ti_115, ti_116, ti_117, ti_119, ti_120, ti_121, ti_122, ti_160, ti_168, ti_216, ti_222, ti_240, ti_255, ti_262, ti_302, ti_400, ti_495, ti_650, ti_991, ti_999, ti_1300, ti_9100, ti_9999, ti_99999, ti_1000000, tj_m550, tj_m99, tj_0, tj_1, tj_2, tj_3, tj_5, tj_6, tj_7, tj_8, tj_30, tj_48, tj_57, tj_63, tj_97, tj_99, tj_100, tj_122, tj_240, tj_255, tj_550, tj_999, tj_9999, tj_99999, tj_4294967295]
  split
  · next h1 => rw [decide_eq_false (fun q => h1 q.1)] at h; exact ⟨rOk_z rfl (Or.inl rfl), h⟩
  · next h1 =>
    refine c_in _ _ _ _ _ ?_
    simp only [bI_0, decide_eq_false_iff_not, wid_I, ti_m1000000, ti_m1004, ti_m1003, ti_m1002, ti_m1001, ti_m650, ti_m99, ti_m10, ti_m1, ti_0, ti_1, ti_2, ti_3, ti_4, ti_5, ti_6, ti_7, ti_8, ti_9, ti_10, ti_12, ti_14, ti_15, ti_20, ti_24, ti_30, ti_31, ti_32, ti_40, ti_44, ti_48, ti_57, ti_59, ti_63, ti_64, ti_72, ti_96, ti_97, ti_98, ti_99, ti_100, ti_101, ti_102, ti_105, ti_107, ti_108, ti_109, ti_110, ti_111, ti_112, ti_114, ti_115, ti_116, ti_117, ti_119, ti_120, ti_121, ti_122, ti_160, ti_168, ti_216, ti_222, ti_240, ti_255, ti_262, ti_302, ti_400, ti_495, ti_650, ti_991, ti_999, ti_1300, ti_9100, ti_9999, ti_99999, ti_1000000, tj_m550, tj_m99, tj_0, tj_1, tj_2, tj_3, tj_5, tj_6, tj_7, tj_8, tj_30, tj_48, tj_57, tj_63, tj_97, tj_99, tj_100, tj_122, tj_240, tj_255, tj_550, tj_999, tj_9999, tj_99999, tj_4294967295]
    split
    · next h2 => rw [decide_eq_false (fun q => h2 q.2)] at h; exact ⟨rOk_z rfl (Or.inl rfl), h⟩
    · next h2 => rw [decide_eq_true ⟨Classical.not_not.mp h1, Classical.not_not.mp h2⟩] at h; exact ⟨rOk_z rfl (Or.inr rfl), h⟩
