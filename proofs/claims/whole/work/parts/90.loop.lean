-- the law from its loop's head on
set_option maxRecDepth 10000 in
set_option maxHeartbeats 8000000 in
theorem law_loop {n : Nat} {xs : Nat → Int32} (hn : n ≤ 3072) : ∀ (m j : Nat) (S : xA), m = 3100 - j → j ≤ 3080 → Inv S → Ok3 (mL_law n xs) 18 [some (.ref (1300 : Nat)), some (.ref (0 : Nat)), some (.ref (70 : Nat)), some (.int (nI j))] [] S lfi lfv := by
  intro m
  induction m using Nat.strongRecOn with
  | ind m ih =>
    intro j S hm hj hI
    refine ok3_h code 11 20 34 rfl rfl ?_
    intro P hP
    simp only [sw3_c, sw3_n, Nat.reduceEqDiff, not_false_eq_true, Nat.zero_le, Nat.reduceLeDiff, Nat.reduceLT, Nat.reduceAdd, sg_s, ↓kif_0, ↓kif_c, ↓reduceIte, nl_n, nl_i, nl_r, List.length_cons, List.length_nil, true_and, and_true, upA_s, upA_n, upA_u, Prod.mk.injEq, and_self, ↓kif_h, (j_iload_n_3 dL_law_18 (n := 19) rfl), (j_aload_n_0 dL_law_19 (n := 20) rfl), (j_alen dL_law_20 (n := 21) rfl), (j_alen_s (M := mL_law n xs) dL_law_20 (n := 21) rfl (hx := rfl)), (j_bipush dL_law_21 (n := 23) rfl kb_6), (j_isub dL_law_23 (n := 24) rfl), (j_ic_gt dL_law_24 (n := 27) rfl br_24_1393), (j_aload_n_0 dL_law_27 (n := 28) rfl), (j_iload_n_3 dL_law_28 (n := 29) rfl), (j_iald dL_law_29 (n := 30) rfl), (j_iald_s (M := mL_law n xs) dL_law_29 (n := 30) rfl (hx := rfl)), (j_bipush dL_law_30 (n := 32) rfl kb_63), (j_iand dL_law_32 (n := 33) rfl), (j_tsw dL_law_33 (dt := 1411) (q := [(0, 180), (1, 223), (2, 256), (3, 299), (4, 342), (5, 385), (6, 418), (7, 451), (8, 494), (9, 527), (10, 550), (11, 603), (12, 636), (13, 659), (14, 702), (15, 755), (16, 818), (17, 841), (18, 854), (19, 887), (20, 950), (21, 983), (22, 1016), (23, 1039), (24, 1052), (25, 1075), (26, 1154), (27, 1197), (28, 1220), (29, 1243), (30, 1286), (31, 1329), (32, 1372)]) (by decide))]
    have en : Int32.ofNat n = nI n := rfl
    have e6 : (nI n - 6).toInt = (n : Int) - 6 := by rw [sub_I] <;> rw [toInt_nI (by omega), ti_6] <;> omega
    rw [en]
    refine ite_i (fun q => hP _ _ _ _ ?_) (fun q => ?_)
    · refine ok3_0 code 11 10 rfl rfl ?_
      simp only [sw3_c, sw3_n, Nat.reduceEqDiff, not_false_eq_true, Nat.zero_le, Nat.reduceLeDiff, Nat.reduceLT, Nat.reduceAdd, sg_s, ↓kif_0, ↓kif_c, ↓reduceIte, nl_n, nl_i, nl_r, List.length_cons, List.length_nil, true_and, and_true, upA_s, upA_n, upA_u, Prod.mk.injEq, and_self, (j_iconst dL_law_1417 (n := 1418) rfl ki_1), (j_iret dL_law_1418 (n := 1419) rfl)]
      exact ⟨rOk_z rfl (Or.inr rfl), rfl⟩
    · rw [lt_I, e6, toInt_nI (by omega)] at q
      have hj6 : j + 6 ≤ n := by omega
      have next : ∀ S', Inv S' → Ok3 (mL_law n xs) 1411 [some (.ref (1300 : Nat)), some (.ref (0 : Nat)), some (.ref (70 : Nat)), some (.int (nI j))] [] S' lfi lfv := by
        intro S' hI'
        refine ok3_1 code 11 10 18 (fun ls st S2 => ls = [some (.ref (1300 : Nat)), some (.ref (0 : Nat)), some (.ref (70 : Nat)), some (.int (nI (j + 6)))] ∧ st = [] ∧ S' = S2) rfl rfl ?_ ?_
        · rintro ls st S2 ⟨rfl, rfl, rfl⟩
          exact ih (3100 - (j + 6)) (by omega) (j + 6) S' rfl (by omega) hI'
        · intro R hK
          simp only [sw3_c, sw3_n, Nat.reduceEqDiff, not_false_eq_true, Nat.zero_le, Nat.reduceLeDiff, Nat.reduceLT, Nat.reduceAdd, sg_s, ↓kif_0, ↓kif_c, ↓reduceIte, nl_n, nl_i, nl_r, List.length_cons, List.length_nil, true_and, and_true, upA_s, upA_n, upA_u, Prod.mk.injEq, and_self, (j_iinc_3 dL_law_1411 (n := 1414) rfl ki_6), (j_goto dL_law_1414 (n := 1417) rfl br_1414_m1396)]
          exact hK _ _ _ ⟨by rw [show (6 : Int32) = nI 6 from rfl, nI_add], rfl, rfl⟩
      refine ⟨vp_in_nI (by omega) (by omega), ?_⟩
      refine ite_i (fun _ => hP _ _ _ _ (lk_road j hj6 hn S hI next)) (fun _ => ?_)
      refine ite_i (fun _ => hP _ _ _ _ (lk_away j hj6 hn S hI next)) (fun _ => ?_)
      refine ite_i (fun _ => hP _ _ _ _ (lk_store j hj6 hn S hI next)) (fun _ => ?_)
      refine ite_i (fun _ => hP _ _ _ _ (lk_need j hj6 hn S hI next)) (fun _ => ?_)
      refine ite_i (fun _ => hP _ _ _ _ (lk_members j hj6 hn S hI next)) (fun _ => ?_)
      refine ite_i (fun _ => hP _ _ _ _ (lk_purse j hj6 hn S hI next)) (fun _ => ?_)
      refine ite_i (fun _ => hP _ _ _ _ (lk_fund j hj6 hn S hI next)) (fun _ => ?_)
      refine ite_i (fun _ => hP _ _ _ _ (lk_out j hj6 hn S hI next)) (fun _ => ?_)
      refine ite_i (fun _ => hP _ _ _ _ (lk_town j hj6 hn S hI next)) (fun _ => ?_)
      refine ite_i (fun _ => hP _ _ _ _ (lk_count j hj6 hn S hI next)) (fun _ => ?_)
      refine ite_i (fun _ => hP _ _ _ _ (lk_order j hj6 hn S hI next)) (fun _ => ?_)
      refine ite_i (fun _ => hP _ _ _ _ (lk_reach j hj6 hn S hI next)) (fun _ => ?_)
      refine ite_i (fun _ => hP _ _ _ _ (lk_late j hj6 hn S hI next)) (fun _ => ?_)
      refine ite_i (fun _ => hP _ _ _ _ (lk_called j hj6 hn S hI next)) (fun _ => ?_)
      refine ite_i (fun _ => hP _ _ _ _ (lk_holds j hj6 hn S hI next)) (fun _ => ?_)
      refine ite_i (fun _ => hP _ _ _ _ (lk_feed j hj6 hn S hI next)) (fun _ => ?_)
      refine ite_i (fun _ => hP _ _ _ _ (lk_rule j hj6 hn S hI next)) (fun _ => ?_)
      refine ite_i (fun _ => hP _ _ _ _ (lk_fault j hj6 hn S hI next)) (fun _ => ?_)
      refine ite_i (fun _ => hP _ _ _ _ (lk_force j hj6 hn S hI next)) (fun _ => ?_)
      refine ite_i (fun _ => hP _ _ _ _ (lk_load j hj6 hn S hI next)) (fun _ => ?_)
      refine ite_i (fun _ => hP _ _ _ _ (lk_stamp j hj6 hn S hI next)) (fun _ => ?_)
      refine ite_i (fun _ => hP _ _ _ _ (lk_told j hj6 hn S hI next)) (fun _ => ?_)
      refine ite_i (fun _ => hP _ _ _ _ (lk_clash j hj6 hn S hI next)) (fun _ => ?_)
      refine ite_i (fun _ => hP _ _ _ _ (lk_words j hj6 hn S hI next)) (fun _ => ?_)
      refine ite_i (fun _ => hP _ _ _ _ (lk_go j hj6 hn S hI next)) (fun _ => ?_)
      refine ite_i (fun _ => hP _ _ _ _ (lk_leave j hj6 hn S hI next)) (fun _ => ?_)
      refine ite_i (fun _ => hP _ _ _ _ (lk_binds j hj6 hn S hI next)) (fun _ => ?_)
      refine ite_i (fun _ => hP _ _ _ _ (lk_last j hj6 hn S hI next)) (fun _ => ?_)
      refine ite_i (fun _ => hP _ _ _ _ (lk_lending j hj6 hn S hI next)) (fun _ => ?_)
      refine ite_i (fun _ => hP _ _ _ _ (lk_table j hj6 hn S hI next)) (fun _ => ?_)
      refine ite_i (fun _ => hP _ _ _ _ (lk_game j hj6 hn S hI next)) (fun _ => ?_)
      refine ite_i (fun _ => hP _ _ _ _ (lk_judge j hj6 hn S hI next)) (fun _ => ?_)
      refine ite_i (fun _ => hP _ _ _ _ (lk_beside j hj6 hn S hI next)) (fun _ => ?_)
      exact hP _ _ _ _ (next S hI)
