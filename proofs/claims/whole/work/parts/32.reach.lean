-- reach
/-- what the class's Orders.comes answers, what the reference's reachOf -/
def cmC (S : xA) (o : Nat) (t hour : Int32) : Int32 := if S 2 (S 12 o * 8 + t).toNatClampNeg = -1 then -1 else hour + S 2 (S 12 o * 8 + t).toNatClampNeg
def awM (S : xA) (a b : Int32) : Int32 := if S 71 (a * 8 + b).toNatClampNeg < 1000000 then S 71 (a * 8 + b).toNatClampNeg else -1
def rcM (S : xA) (o : Nat) (t : Int32) : Int32 := if awM S (S 86 o) t < 0 then -1 else hrO S o + awM S (S 86 o) t
set_option maxHeartbeats 4000000 in
theorem c_comes6 (o t hour : Int32) (S : xA) (f : xP) (ho : vp_in o 40) (hv : vp_in (S 12 o.toNatClampNeg * 8 + t) 64) (h : f (cmC S o.toNatClampNeg t hour) S) : CI mX6_comes [.ref (9 : Nat), .int o, .int t, .int hour] S f := by
  show CI mX6_comes _ _ _
  refine ci_of (T := mX6_comes) (fv := fun _ => True) (ls := [some (.ref (9 : Nat)), some (.int o), some (.int t), some (.int hour), none]) rfl (Nat.le_of_ble_eq_true rfl) (by decide) rfl rfl rfl (ok2_0 cX6_comes 6 60 rfl rfl ?_)
  simp only [sw3_c, sw3_n, Nat.reduceEqDiff, not_false_eq_true, Nat.zero_le, Nat.reduceLeDiff, Nat.reduceLT, Nat.reduceAdd, sg_s, ↓kif_0, ↓kif_c, ↓reduceIte, nl_n, nl_i, nl_r, List.length_cons, List.length_nil, true_and, and_true, upA_s, upA_n, upA_u, Prod.mk.injEq, and_self, Fr_9_0, Fr_9_3, Ld_12, oA_12, oC_1, oL_9, (j_aload_n_0 dX6_comes_0 (n := 1) rfl), (j_getf dX6_comes_1 (n := 4) rfl cF_6_34), (j_aload_n_0 dX6_comes_4 (n := 5) rfl), (j_getf dX6_comes_5 (n := 8) rfl cF_6_18), (j_iload_n_1 dX6_comes_8 (n := 9) rfl), (j_iald dX6_comes_9 (n := 10) rfl), (j_iload_n_2 dX6_comes_10 (n := 11) rfl), (j_cv2i (M := mX6_comes) dX6_comes_11 (n := 14) rfl cM_6_38 (Or.inl rfl) lv_X6_comes_X3_way rfl (oc := 3) rfl), (j_istore_4 dX6_comes_14 (n := 16) rfl), (j_iload_4 dX6_comes_16 (n := 18) rfl), (j_iconst dX6_comes_18 (n := 19) rfl ki_m1), (j_ic_ne dX6_comes_19 (n := 22) rfl br_19_7), (j_iconst dX6_comes_22 (n := 23) rfl ki_m1), (j_goto dX6_comes_23 (n := 26) rfl br_23_7), (j_iload_n_3 dX6_comes_26 (n := 27) rfl), (j_iload_4 dX6_comes_27 (n := 29) rfl), (j_iadd dX6_comes_29 (n := 30) rfl), (j_iret dX6_comes_30 (n := 31) rfl), rOk_i (M := mX6_comes) rfl]
  refine ⟨ho, c_way3 _ _ _ _ hv ?_⟩
  unfold cmC at h
  split
  · next h1 => rw [if_pos h1] at h; exact h
  · next h1 => rw [if_neg h1] at h; exact h
set_option maxHeartbeats 4000000 in
theorem c_reachOf (o t : Int32) (S : xA) (f : xP) (ho : vp_in o 40) (hv : vp_in (S 86 o.toNatClampNeg * 8 + t) 64) (h : f (rcM S o.toNatClampNeg t) S) : CI mX10_reachOf [.ref (70 : Nat), .int o, .int t] S f := by
  show CI mX10_reachOf _ _ _
  refine ci_of (T := mX10_reachOf) (fv := fun _ => True) (ls := [some (.ref (70 : Nat)), some (.int o), some (.int t), none]) rfl (Nat.le_of_ble_eq_true rfl) (by decide) rfl rfl rfl (ok2_0 cX10_reachOf 10 60 rfl rfl ?_)
  simp only [sw3_c, sw3_n, Nat.reduceEqDiff, not_false_eq_true, Nat.zero_le, Nat.reduceLeDiff, Nat.reduceLT, Nat.reduceAdd, sg_s, ↓kif_0, ↓kif_c, ↓reduceIte, nl_n, nl_i, nl_r, List.length_cons, List.length_nil, true_and, and_true, upA_s, upA_n, upA_u, Prod.mk.injEq, and_self, Fr_70_18, Ld_86, oA_86, oC_70, oL_70, (j_aload_n_0 dX10_reachOf_0 (n := 1) rfl), (j_aload_n_0 dX10_reachOf_1 (n := 2) rfl), (j_getf dX10_reachOf_2 (n := 5) rfl cF_10_55), (j_iload_n_1 dX10_reachOf_5 (n := 6) rfl), (j_iald dX10_reachOf_6 (n := 7) rfl), (j_iload_n_2 dX10_reachOf_7 (n := 8) rfl), (j_cv2i (M := mX10_reachOf) dX10_reachOf_8 (n := 11) rfl cM_10_171 (Or.inl rfl) lv_X10_reachOf_X10_awayOf rfl (oc := 10) rfl), (j_istore_n_3 dX10_reachOf_11 (n := 12) rfl), (j_iload_n_3 dX10_reachOf_12 (n := 13) rfl), (j_if_ge dX10_reachOf_13 (n := 16) rfl br_13_7), (j_iconst dX10_reachOf_16 (n := 17) rfl ki_m1), (j_goto dX10_reachOf_17 (n := 20) rfl br_17_10), (j_aload_n_0 dX10_reachOf_20 (n := 21) rfl), (j_iload_n_1 dX10_reachOf_21 (n := 22) rfl), (j_cv1i (M := mX10_reachOf) dX10_reachOf_22 (n := 25) rfl cM_10_200 (Or.inl rfl) lv_X10_reachOf_X10_hourOf rfl (oc := 10) rfl), (j_iload_n_3 dX10_reachOf_25 (n := 26) rfl), (j_iadd dX10_reachOf_26 (n := 27) rfl), (j_iret dX10_reachOf_27 (n := 28) rfl), rOk_i (M := mX10_reachOf) rfl]
  refine ⟨ho, c_awayOf _ _ _ _ hv ?_⟩
  unfold rcM awM at h
  refine ite_i (fun h1 => ?_) (fun h1 => ?_)
  · rw [if_pos h1] at h
    exact h
  · rw [if_neg h1] at h
    refine c_hourOf _ _ _ ho ?_
    exact h
theorem ordT {S : xA} (hI : Inv S) {o : Nat} (ho : o < (S 9 7).toNatClampNeg) : (S 12 o = S 86 o ∧ ¬ ((S 12 o).toInt < 0 ∨ 8 ≤ (S 12 o).toInt)) ∧ (S 10 o = S 84 o ∧ 0 ≤ (S 10 o).toInt ∧ (S 10 o).toInt ≤ 3) ∧ (S 11 o = S 85 o ∧ 0 ≤ (S 11 o).toInt ∧ (S 11 o).toInt ≤ 5) ∧ (S 13 o = S 87 o ∧ 0 ≤ (S 13 o).toInt ∧ (S 13 o).toInt ≤ 240) := by
  obtain ⟨-, a1, a2, a3, a4⟩ := hI.2.2.2.2.2.2.2.2.2.2.2.2.2.2.2.1
  exact ⟨⟨(a3 o ho).1, by have := (a3 o ho).2; omega⟩, a1 o ho, a2 o ho, a4 o ho⟩
/-- both reach alike, whatever hour is meant -/
theorem rc_eq {S : xA} (hI : Inv S) {o : Nat} (ho : o < (S 9 7).toNatClampNeg) {t : Int32} (ht : ¬ (t.toInt < 0 ∨ 8 ≤ t.toInt)) (hour : Int32) (hh : hrO S o = hour) : rcM S o t = cmC S o t hour ∧ (S 2 (S 12 o * 8 + t).toNatClampNeg = -1 ∨ (0 ≤ (S 2 (S 12 o * 8 + t).toNatClampNeg).toInt ∧ (S 2 (S 12 o * 8 + t).toNatClampNeg).toInt ≤ 491490)) := by
  obtain ⟨⟨e1, e2⟩, -⟩ := ordT hI ho
  obtain ⟨h1, h2⟩ := JR_ab hI e2 ht
  refine ⟨?_, h2⟩
  unfold rcM cmC
  have e3 : awM S (S 86 o) t = S 2 (S 12 o * 8 + t).toNatClampNeg := by
    unfold awM
    rw [← e1]
    exact h1
  rw [e3, hh]
  rcases h2 with q | ⟨q1, q2⟩
  · rw [q, if_pos (by decide), if_pos rfl]
  · rw [if_neg (by rw [lt_I, ti_0]; omega), if_neg (by rw [eq_I, ti_m1]; omega)]
theorem hrO_1 {S : xA} (h : S 70 20 = -1) (o : Nat) : hrO S o = S 87 o := by
  unfold hrO
  rw [h, if_pos (by decide)]
set_option maxHeartbeats 4000000 in
theorem t_reach (S : xA) (hI : Inv S) (o t : Int32) : Both mX9_reach mX10_reach [.int o, .int t] S := by
  obtain ⟨o1, o2, o3⟩ := id hI.2.2.2.2.2.2.2.2.2.2.2.2.2.2.2.1.1
  rw [eq_I] at o1
  have o4 : (S 70 15 - 1).toInt = (S 70 15).toInt - 1 := by rw [sub_I] <;> rw [ti_1] <;> omega
  have hT : ∀ (h0 : 0 ≤ o.toInt) (h1 : o.toInt < (S 9 7).toInt), o.toNatClampNeg < (S 9 7).toNatClampNeg := fun h0 h1 => cl_lt2 h0 h1
  show CI mX9_reach _ _ _
  refine ci_of (T := mX9_reach) (fv := fun _ => True) (ls := [some (.ref (0 : Nat)), some (.int o), some (.int t)]) rfl (Nat.le_of_ble_eq_true rfl) (by decide) rfl rfl rfl (ok2_0 cX9_reach 9 60 rfl rfl ?_)
  simp only [sw3_c, sw3_n, Nat.reduceEqDiff, not_false_eq_true, Nat.zero_le, Nat.reduceLeDiff, Nat.reduceLT, Nat.reduceAdd, sg_s, ↓kif_0, ↓kif_c, ↓reduceIte, nl_n, nl_i, nl_r, List.length_cons, List.length_nil, true_and, and_true, upA_s, upA_n, upA_u, Prod.mk.injEq, and_self, Fr_0_2, Fr_9_4, Fr_9_7, Ld_13, oA_13, oC_9, oL_0, oL_9, (j_iload_n_1 dX9_reach_0 (n := 1) rfl), (j_aload_n_0 dX9_reach_1 (n := 2) rfl), (j_getf dX9_reach_2 (n := 5) rfl cF_9_28), (j_getf dX9_reach_5 (n := 8) rfl cF_9_148), (j_cs2i (M := mX9_reach) dX9_reach_8 (n := 11) rfl cM_9_169 (Or.inl rfl) (o := 9) rfl lv_X9_reach_X9_noNumber rfl), (j_if_ne dX9_reach_11 (n := 14) rfl br_11_10), (j_iload_n_2 dX9_reach_14 (n := 15) rfl), (j_cs1i (M := mX9_reach) dX9_reach_15 (n := 18) rfl cM_9_87 (Or.inl rfl) (o := 9) rfl lv_X9_reach_X9_noTown rfl), (j_if_eq dX9_reach_18 (n := 21) rfl br_18_7), (j_sipush dX9_reach_21 (n := 24) rfl ks_m1001), (j_iret dX9_reach_24 (n := 25) rfl), (j_aload_n_0 dX9_reach_25 (n := 26) rfl), (j_getf dX9_reach_26 (n := 29) rfl cF_9_28), (j_iload_n_1 dX9_reach_29 (n := 30) rfl), (j_iload_n_2 dX9_reach_30 (n := 31) rfl), (j_aload_n_0 dX9_reach_31 (n := 32) rfl), (j_getf dX9_reach_32 (n := 35) rfl cF_9_28), (j_getf dX9_reach_35 (n := 38) rfl cF_9_173), (j_iload_n_1 dX9_reach_38 (n := 39) rfl), (j_iald dX9_reach_39 (n := 40) rfl), (j_cv3i (M := mX9_reach) dX9_reach_40 (n := 43) rfl cM_9_176 (Or.inl rfl) lv_X9_reach_X6_comes rfl (oc := 6) rfl), (j_iret dX9_reach_43 (n := 44) rfl), rOk_i (M := mX9_reach) rfl]
  refine c_noNumber _ _ _ _ ?_
  simp only [bI_0, decide_eq_false_iff_not, ti_m1000000, ti_m1004, ti_m1003, ti_m1002, ti_m1001, ti_m650, ti_m99, ti_m10, ti_m1, ti_0, ti_1, ti_2, ti_3, ti_4, ti_5, ti_6, ti_7, ti_8, ti_9, ti_10, ti_12, ti_14, ti_15, ti_20, ti_24, ti_30, ti_31, ti_32, ti_40, ti_44, ti_48, ti_57, ti_59, ti_63, ti_64, ti_72, ti_96, ti_97, ti_98, ti_99, ti_100, ti_101, ti_102, ti_105, ti_107, ti_108, ti_109, ti_110, ti_111, ti_112, ti_114, ti_115, ti_116, ti_117, ti_119, ti_120, ti_121, ti_122, ti_160, ti_168, ti_216, ti_222, ti_240, ti_255, ti_262, ti_302, ti_400, ti_495, ti_650, ti_991, ti_999, ti_1300, ti_9100, ti_9999, ti_99999, ti_1000000, tj_m550, tj_m99, tj_0, tj_1, tj_2, tj_3, tj_5, tj_6, tj_7, tj_8, tj_30, tj_48, tj_57, tj_63, tj_97, tj_99, tj_100, tj_122, tj_240, tj_255, tj_550, tj_999, tj_9999, tj_99999, tj_4294967295]
  have hm : ∀ (P : o.toInt < 0 ∨ (S 9 7).toInt ≤ o.toInt ∨ t.toInt < 0 ∨ 8 ≤ t.toInt), g2 mX10_reach [.int o, .int t] (-1001) S := by
    intro P
    show CI mX10_reach _ _ _
    refine ci_of (T := mX10_reach) (fv := fun _ => True) (ls := [some (.ref (70 : Nat)), some (.int o), some (.int t)]) rfl (Nat.le_of_ble_eq_true rfl) (by decide) rfl rfl rfl (ok2_0 cX10_reach 10 60 rfl rfl ?_)
    simp only [sw3_c, sw3_n, Nat.reduceEqDiff, not_false_eq_true, Nat.zero_le, Nat.reduceLeDiff, Nat.reduceLT, Nat.reduceAdd, sg_s, ↓kif_0, ↓kif_c, ↓reduceIte, nl_n, nl_i, nl_r, List.length_cons, List.length_nil, true_and, and_true, upA_s, upA_n, upA_u, Prod.mk.injEq, and_self, oC_70, (j_aload_n_0 dX10_reach_0 (n := 1) rfl), (j_iload_n_1 dX10_reach_1 (n := 2) rfl), (j_cv1i (M := mX10_reach) dX10_reach_2 (n := 5) rfl cM_10_204 (Or.inl rfl) lv_X10_reach_X10_noOrder rfl (oc := 10) rfl), (j_if_ne dX10_reach_5 (n := 8) rfl br_5_10), (j_iload_n_2 dX10_reach_8 (n := 9) rfl), (j_cs1i (M := mX10_reach) dX10_reach_9 (n := 12) rfl cM_10_158 (Or.inl rfl) (o := 10) rfl lv_X10_reach_X10_isTown rfl), (j_if_ne dX10_reach_12 (n := 15) rfl br_12_9), (j_sipush dX10_reach_15 (n := 18) rfl ks_m1001), (j_goto dX10_reach_18 (n := 21) rfl br_18_9), (j_aload_n_0 dX10_reach_21 (n := 22) rfl), (j_iload_n_1 dX10_reach_22 (n := 23) rfl), (j_iload_n_2 dX10_reach_23 (n := 24) rfl), (j_cv2i (M := mX10_reach) dX10_reach_24 (n := 27) rfl cM_10_207 (Or.inl rfl) lv_X10_reach_X10_reachOf rfl (oc := 10) rfl), (j_iret dX10_reach_27 (n := 28) rfl), rOk_i (M := mX10_reach) rfl]
    refine c_noOrder _ _ _ ?_
    simp only [bI_0, decide_eq_false_iff_not, Classical.not_not, ti_m1000000, ti_m1004, ti_m1003, ti_m1002, ti_m1001, ti_m650, ti_m99, ti_m10, ti_m1, ti_0, ti_1, ti_2, ti_3, ti_4, ti_5, ti_6, ti_7, ti_8, ti_9, ti_10, ti_12, ti_14, ti_15, ti_20, ti_24, ti_30, ti_31, ti_32, ti_40, ti_44, ti_48, ti_57, ti_59, ti_63, ti_64, ti_72, ti_96, ti_97, ti_98, ti_99, ti_100, ti_101, ti_102, ti_105, ti_107, ti_108, ti_109, ti_110, ti_111, ti_112, ti_114, ti_115, ti_116, ti_117, ti_119, ti_120, ti_121, ti_122, ti_160, ti_168, ti_216, ti_222, ti_240, ti_255, ti_262, ti_302, ti_400, ti_495, ti_650, ti_991, ti_999, ti_1300, ti_9100, ti_9999, ti_99999, ti_1000000, tj_m550, tj_m99, tj_0, tj_1, tj_2, tj_3, tj_5, tj_6, tj_7, tj_8, tj_30, tj_48, tj_57, tj_63, tj_97, tj_99, tj_100, tj_122, tj_240, tj_255, tj_550, tj_999, tj_9999, tj_99999, tj_4294967295]
    refine ite_i (fun h1 => ?_) (fun h1 => g3_rf hI)
    refine c_isTown _ _ _ ?_
    simp only [bI_0, decide_eq_false_iff_not, ti_m1000000, ti_m1004, ti_m1003, ti_m1002, ti_m1001, ti_m650, ti_m99, ti_m10, ti_m1, ti_0, ti_1, ti_2, ti_3, ti_4, ti_5, ti_6, ti_7, ti_8, ti_9, ti_10, ti_12, ti_14, ti_15, ti_20, ti_24, ti_30, ti_31, ti_32, ti_40, ti_44, ti_48, ti_57, ti_59, ti_63, ti_64, ti_72, ti_96, ti_97, ti_98, ti_99, ti_100, ti_101, ti_102, ti_105, ti_107, ti_108, ti_109, ti_110, ti_111, ti_112, ti_114, ti_115, ti_116, ti_117, ti_119, ti_120, ti_121, ti_122, ti_160, ti_168, ti_216, ti_222, ti_240, ti_255, ti_262, ti_302, ti_400, ti_495, ti_650, ti_991, ti_999, ti_1300, ti_9100, ti_9999, ti_99999, ti_1000000, tj_m550, tj_m99, tj_0, tj_1, tj_2, tj_3, tj_5, tj_6, tj_7, tj_8, tj_30, tj_48, tj_57, tj_63, tj_97, tj_99, tj_100, tj_122, tj_240, tj_255, tj_550, tj_999, tj_9999, tj_99999, tj_4294967295]
    refine ite_i (fun h2 => g3_rf hI) (fun h2 => ?_)
    exfalso
    omega
  refine ite_i (fun h1 => ?_) (fun h1 => hm (by omega))
  refine c_noTown _ _ _ ?_
  simp only [bI_0, decide_eq_false_iff_not, ti_m1000000, ti_m1004, ti_m1003, ti_m1002, ti_m1001, ti_m650, ti_m99, ti_m10, ti_m1, ti_0, ti_1, ti_2, ti_3, ti_4, ti_5, ti_6, ti_7, ti_8, ti_9, ti_10, ti_12, ti_14, ti_15, ti_20, ti_24, ti_30, ti_31, ti_32, ti_40, ti_44, ti_48, ti_57, ti_59, ti_63, ti_64, ti_72, ti_96, ti_97, ti_98, ti_99, ti_100, ti_101, ti_102, ti_105, ti_107, ti_108, ti_109, ti_110, ti_111, ti_112, ti_114, ti_115, ti_116, ti_117, ti_119, ti_120, ti_121, ti_122, ti_160, ti_168, ti_216, ti_222, ti_240, ti_255, ti_262, ti_302, ti_400, ti_495, ti_650, ti_991, ti_999, ti_1300, ti_9100, ti_9999, ti_99999, ti_1000000, tj_m550, tj_m99, tj_0, tj_1, tj_2, tj_3, tj_5, tj_6, tj_7, tj_8, tj_30, tj_48, tj_57, tj_63, tj_97, tj_99, tj_100, tj_122, tj_240, tj_255, tj_550, tj_999, tj_9999, tj_99999, tj_4294967295]
  refine ite_i (fun h2 => ?_) (fun h2 => hm (by omega))
  have hon := hT (by omega) (by omega)
  have hov : vp_in o 40 := vp_I (by omega) (by omega)
  obtain ⟨⟨e1, e2⟩, -, -, e3, e4, e5⟩ := ordT hI hon
  refine ⟨hov, c_comes6 _ _ _ _ _ hov (ix88v e2 h2) ?_⟩
  show CI mX10_reach _ _ _
  refine ci_of (T := mX10_reach) (fv := fun _ => True) (ls := [some (.ref (70 : Nat)), some (.int o), some (.int t)]) rfl (Nat.le_of_ble_eq_true rfl) (by decide) rfl rfl rfl (ok2_0 cX10_reach 10 60 rfl rfl ?_)
  simp only [sw3_c, sw3_n, Nat.reduceEqDiff, not_false_eq_true, Nat.zero_le, Nat.reduceLeDiff, Nat.reduceLT, Nat.reduceAdd, sg_s, ↓kif_0, ↓kif_c, ↓reduceIte, nl_n, nl_i, nl_r, List.length_cons, List.length_nil, true_and, and_true, upA_s, upA_n, upA_u, Prod.mk.injEq, and_self, oC_70, (j_aload_n_0 dX10_reach_0 (n := 1) rfl), (j_iload_n_1 dX10_reach_1 (n := 2) rfl), (j_cv1i (M := mX10_reach) dX10_reach_2 (n := 5) rfl cM_10_204 (Or.inl rfl) lv_X10_reach_X10_noOrder rfl (oc := 10) rfl), (j_if_ne dX10_reach_5 (n := 8) rfl br_5_10), (j_iload_n_2 dX10_reach_8 (n := 9) rfl), (j_cs1i (M := mX10_reach) dX10_reach_9 (n := 12) rfl cM_10_158 (Or.inl rfl) (o := 10) rfl lv_X10_reach_X10_isTown rfl), (j_if_ne dX10_reach_12 (n := 15) rfl br_12_9), (j_sipush dX10_reach_15 (n := 18) rfl ks_m1001), (j_goto dX10_reach_18 (n := 21) rfl br_18_9), (j_aload_n_0 dX10_reach_21 (n := 22) rfl), (j_iload_n_1 dX10_reach_22 (n := 23) rfl), (j_iload_n_2 dX10_reach_23 (n := 24) rfl), (j_cv2i (M := mX10_reach) dX10_reach_24 (n := 27) rfl cM_10_207 (Or.inl rfl) lv_X10_reach_X10_reachOf rfl (oc := 10) rfl), (j_iret dX10_reach_27 (n := 28) rfl), rOk_i (M := mX10_reach) rfl]
  refine c_noOrder _ _ _ ?_
  simp only [bI_0, decide_eq_false_iff_not, Classical.not_not, ti_m1000000, ti_m1004, ti_m1003, ti_m1002, ti_m1001, ti_m650, ti_m99, ti_m10, ti_m1, ti_0, ti_1, ti_2, ti_3, ti_4, ti_5, ti_6, ti_7, ti_8, ti_9, ti_10, ti_12, ti_14, ti_15, ti_20, ti_24, ti_30, ti_31, ti_32, ti_40, ti_44, ti_48, ti_57, ti_59, ti_63, ti_64, ti_72, ti_96, ti_97, ti_98, ti_99, ti_100, ti_101, ti_102, ti_105, ti_107, ti_108, ti_109, ti_110, ti_111, ti_112, ti_114, ti_115, ti_116, ti_117, ti_119, ti_120, ti_121, ti_122, ti_160, ti_168, ti_216, ti_222, ti_240, ti_255, ti_262, ti_302, ti_400, ti_495, ti_650, ti_991, ti_999, ti_1300, ti_9100, ti_9999, ti_99999, ti_1000000, tj_m550, tj_m99, tj_0, tj_1, tj_2, tj_3, tj_5, tj_6, tj_7, tj_8, tj_30, tj_48, tj_57, tj_63, tj_97, tj_99, tj_100, tj_122, tj_240, tj_255, tj_550, tj_999, tj_9999, tj_99999, tj_4294967295]
  refine ite_i (fun h3 => ?_) (fun h3 => absurd (by omega) h3)
  refine c_isTown _ _ _ ?_
  simp only [bI_0, decide_eq_false_iff_not, ti_m1000000, ti_m1004, ti_m1003, ti_m1002, ti_m1001, ti_m650, ti_m99, ti_m10, ti_m1, ti_0, ti_1, ti_2, ti_3, ti_4, ti_5, ti_6, ti_7, ti_8, ti_9, ti_10, ti_12, ti_14, ti_15, ti_20, ti_24, ti_30, ti_31, ti_32, ti_40, ti_44, ti_48, ti_57, ti_59, ti_63, ti_64, ti_72, ti_96, ti_97, ti_98, ti_99, ti_100, ti_101, ti_102, ti_105, ti_107, ti_108, ti_109, ti_110, ti_111, ti_112, ti_114, ti_115, ti_116, ti_117, ti_119, ti_120, ti_121, ti_122, ti_160, ti_168, ti_216, ti_222, ti_240, ti_255, ti_262, ti_302, ti_400, ti_495, ti_650, ti_991, ti_999, ti_1300, ti_9100, ti_9999, ti_99999, ti_1000000, tj_m550, tj_m99, tj_0, tj_1, tj_2, tj_3, tj_5, tj_6, tj_7, tj_8, tj_30, tj_48, tj_57, tj_63, tj_97, tj_99, tj_100, tj_122, tj_240, tj_255, tj_550, tj_999, tj_9999, tj_99999, tj_4294967295]
  refine ite_i (fun h4 => absurd (by omega) h4) (fun h4 => ?_)
  refine c_reachOf _ _ _ _ hov (by rw [← e1]; exact ix88v e2 h2) ?_
  refine ⟨?_, hI⟩
  exact ((rc_eq hI hon h2 _ ((hrO_1 hI.2.2.2.2.2.2.2.2.2.2.2.2.2.2.2.2.1 _).trans e3.symm)).1).symm
