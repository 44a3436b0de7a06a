-- beside
set_option maxHeartbeats 4000000 in
theorem c_anew46 (S : xA) (f : xA → Prop) (h : ∀ S', frm [47, 48, 49, 50, 51, 52, 53, 54, 55, 56] S S' → (∀ i, i < 24 → S' 47 i = S 4 i) → (∀ i, i < 48 → S' 50 i = 0) → (∀ i, i < 48 → S' 51 i = S 7 (i / 8)) → (∀ i, i < 6 → S' 53 i = S 8 i) → (∀ i, i < 40 → S' 54 i = 0 ∧ S' 55 i = -1 ∧ S' 56 i = -1) → f S') : CV mX0_beginAnew [.ref (46 : Nat)] S f := by
  refine cv_of (T := mX0_beginAnew) (f := fun _ _ => True) (ls := [some (.ref (46 : Nat)), none]) rfl (Nat.le_of_ble_eq_true rfl) (by decide) rfl rfl rfl (ok_for cX0_beginAnew 0 60 38 48 (fun p ls S' => ls = [some (.ref (46 : Nat)), some (.int (nI p))] ∧ frm [47, 51, 53] S S' ∧ (∀ i, i < 24 → S' 47 i = S 4 i) ∧ (∀ i, i < 6 → S' 53 i = S 8 i) ∧ (∀ i, i < p → S' 51 i = S 7 (i / 8))) rfl rfl ?_ ?_ ?_)
  · intro K hK
    simp only [sw3_c, sw3_n, Nat.reduceEqDiff, not_false_eq_true, Nat.zero_le, Nat.reduceLeDiff, Nat.reduceLT, Nat.reduceAdd, sg_s, ↓kif_0, ↓kif_c, ↓reduceIte, nl_n, nl_i, nl_r, List.length_cons, List.length_nil, true_and, and_true, upA_s, upA_n, upA_u, Prod.mk.injEq, and_self, Fr_33_1, Fr_33_10, Fr_33_11, Fr_33_12, Fr_33_13, Fr_33_14, Fr_33_5, Fr_33_6, Fr_33_7, Fr_33_8, Fr_33_9, Fr_3_0, Fr_3_3, Fr_3_4, Fr_46_1, Fr_46_10, Fr_46_11, Fr_46_12, Fr_46_13, Fr_46_14, Fr_46_5, Fr_46_6, Fr_46_7, Fr_46_8, Fr_46_9, Ld_34, Ld_35, Ld_36, Ld_37, Ld_38, Ld_39, Ld_4, Ld_40, Ld_41, Ld_42, Ld_43, Ld_47, Ld_48, Ld_49, Ld_50, Ld_51, Ld_52, Ld_53, Ld_54, Ld_55, Ld_56, Ld_7, Ld_8, oA_34, oA_35, oA_36, oA_37, oA_38, oA_39, oA_4, oA_40, oA_41, oA_42, oA_43, oA_47, oA_48, oA_49, oA_50, oA_51, oA_52, oA_53, oA_54, oA_55, oA_56, oA_7, oA_8, oL_3, oL_33, oL_46, (j_aload_n_0 dX0_beginAnew_0 (n := 1) rfl), (j_getf dX0_beginAnew_1 (n := 4) rfl cF_0_53), (j_getf dX0_beginAnew_4 (n := 7) rfl cF_0_72), (j_iconst dX0_beginAnew_7 (n := 8) rfl ki_0), (j_aload_n_0 dX0_beginAnew_8 (n := 9) rfl), (j_getf dX0_beginAnew_9 (n := 12) rfl cF_0_9), (j_iconst dX0_beginAnew_12 (n := 13) rfl ki_0), (j_bipush dX0_beginAnew_13 (n := 15) rfl kb_24), (j_cpy (M := mX0_beginAnew) dX0_beginAnew_15 (n := 18) rfl cB_0_75 l1_X0_beginAnew), (j_aload_n_0 dX0_beginAnew_18 (n := 19) rfl), (j_getf dX0_beginAnew_19 (n := 22) rfl cF_0_53), (j_getf dX0_beginAnew_22 (n := 25) rfl cF_0_81), (j_iconst dX0_beginAnew_25 (n := 26) rfl ki_0), (j_aload_n_0 dX0_beginAnew_26 (n := 27) rfl), (j_getf dX0_beginAnew_27 (n := 30) rfl cF_0_30), (j_iconst dX0_beginAnew_30 (n := 31) rfl ki_0), (j_bipush dX0_beginAnew_31 (n := 33) rfl kb_6), (j_cpy (M := mX0_beginAnew) dX0_beginAnew_33 (n := 36) rfl cB_0_75 l1_X0_beginAnew), (j_iconst dX0_beginAnew_36 (n := 37) rfl ki_0), (j_istore_n_1 dX0_beginAnew_37 (n := 38) rfl), (j_iload_n_1 dX0_beginAnew_38 (n := 39) rfl), (j_bipush dX0_beginAnew_39 (n := 41) rfl kb_48), (j_ic_ge dX0_beginAnew_41 (n := 44) rfl br_41_27), (j_aload_n_0 dX0_beginAnew_44 (n := 45) rfl), (j_getf dX0_beginAnew_45 (n := 48) rfl cF_0_24), (j_iload_n_1 dX0_beginAnew_48 (n := 49) rfl), (j_aload_n_0 dX0_beginAnew_49 (n := 50) rfl), (j_getf dX0_beginAnew_50 (n := 53) rfl cF_0_53), (j_getf dX0_beginAnew_53 (n := 56) rfl cF_0_82), (j_iload_n_1 dX0_beginAnew_56 (n := 57) rfl), (j_bipush dX0_beginAnew_57 (n := 59) rfl kb_8), (j_idiv dX0_beginAnew_59 (n := 60) rfl), (j_iald dX0_beginAnew_60 (n := 61) rfl), (j_iast dX0_beginAnew_61 (n := 62) rfl), (j_iinc_1 dX0_beginAnew_62 (n := 65) rfl ki_1), (j_goto dX0_beginAnew_65 (n := 68) rfl br_65_m27), (j_aload_n_0 dX0_beginAnew_68 (n := 69) rfl), (j_getf dX0_beginAnew_69 (n := 72) rfl cF_0_15), (j_iconst dX0_beginAnew_72 (n := 73) rfl ki_0), (j_cs2v (M := mX0_beginAnew) dX0_beginAnew_73 (n := 76) rfl cM_0_83 (Or.inl rfl) (o := 0) rfl lv_X0_beginAnew_J7_fill_53178 rfl), (j_aload_n_0 dX0_beginAnew_76 (n := 77) rfl), (j_getf dX0_beginAnew_77 (n := 80) rfl cF_0_18), (j_iconst dX0_beginAnew_80 (n := 81) rfl ki_m1), (j_cs2v (M := mX0_beginAnew) dX0_beginAnew_81 (n := 84) rfl cM_0_83 (Or.inl rfl) (o := 0) rfl lv_X0_beginAnew_J7_fill_53178 rfl), (j_aload_n_0 dX0_beginAnew_84 (n := 85) rfl), (j_getf dX0_beginAnew_85 (n := 88) rfl cF_0_21), (j_iconst dX0_beginAnew_88 (n := 89) rfl ki_0), (j_cs2v (M := mX0_beginAnew) dX0_beginAnew_89 (n := 92) rfl cM_0_83 (Or.inl rfl) (o := 0) rfl lv_X0_beginAnew_J7_fill_53178 rfl), (j_aload_n_0 dX0_beginAnew_92 (n := 93) rfl), (j_getf dX0_beginAnew_93 (n := 96) rfl cF_0_27), (j_iconst dX0_beginAnew_96 (n := 97) rfl ki_0), (j_cs2v (M := mX0_beginAnew) dX0_beginAnew_97 (n := 100) rfl cM_0_83 (Or.inl rfl) (o := 0) rfl lv_X0_beginAnew_J7_fill_53178 rfl), (j_aload_n_0 dX0_beginAnew_100 (n := 101) rfl), (j_getf dX0_beginAnew_101 (n := 104) rfl cF_0_33), (j_iconst dX0_beginAnew_104 (n := 105) rfl ki_0), (j_cs2v (M := mX0_beginAnew) dX0_beginAnew_105 (n := 108) rfl cM_0_83 (Or.inl rfl) (o := 0) rfl lv_X0_beginAnew_J7_fill_53178 rfl), (j_aload_n_0 dX0_beginAnew_108 (n := 109) rfl), (j_getf dX0_beginAnew_109 (n := 112) rfl cF_0_36), (j_iconst dX0_beginAnew_112 (n := 113) rfl ki_m1), (j_cs2v (M := mX0_beginAnew) dX0_beginAnew_113 (n := 116) rfl cM_0_83 (Or.inl rfl) (o := 0) rfl lv_X0_beginAnew_J7_fill_53178 rfl), (j_aload_n_0 dX0_beginAnew_116 (n := 117) rfl), (j_getf dX0_beginAnew_117 (n := 120) rfl cF_0_39), (j_iconst dX0_beginAnew_120 (n := 121) rfl ki_m1), (j_cs2v (M := mX0_beginAnew) dX0_beginAnew_121 (n := 124) rfl cM_0_83 (Or.inl rfl) (o := 0) rfl lv_X0_beginAnew_J7_fill_53178 rfl), (j_ret (M := mX0_beginAnew) dX0_beginAnew_124 (n := 125) rfl rfl), nl_x, pk_us]
    have cp : ∀ (a b : Nat → Int32) (n i : Nat), i < n → va_cpy a b 0 0 n i = a i := fun a b n i hi => by unfold va_cpy; rw [if_pos (by omega), Nat.zero_add, Nat.sub_zero]
    refine ⟨by decide, by decide, hK _ _ ⟨rfl, frm_up (frm_up (frm_rf _ _) (by decide)) (by decide), ?_, ?_, fun i hi => by omega⟩⟩
    · simp only [upA_s, upA_n, upA_u, Nat.reduceEqDiff, not_false_eq_true, pk_us, upd_n]; exact fun i hi => cp _ _ 24 i hi
    · simp only [upA_s, upA_n, upA_u, Nat.reduceEqDiff, not_false_eq_true, pk_us, upd_n]; exact fun i hi => cp _ _ 6 i hi
  · rintro p hp _ S' ⟨rfl, f1, k47, k53, k51⟩ K hK
    have hv : vp_in (nI p) 48 := vp_in_nI (by omega) (by omega)
    have e8 : nI p / 8 = nI (p / 8) := nI_div (b := 8) (by omega) (by omega)
    simp only [sw3_c, sw3_n, Nat.reduceEqDiff, not_false_eq_true, Nat.zero_le, Nat.reduceLeDiff, Nat.reduceLT, Nat.reduceAdd, sg_s, ↓kif_0, ↓kif_c, ↓reduceIte, nl_n, nl_i, nl_r, List.length_cons, List.length_nil, true_and, and_true, upA_s, upA_n, upA_u, Prod.mk.injEq, and_self, Fr_33_1, Fr_33_10, Fr_33_11, Fr_33_12, Fr_33_13, Fr_33_14, Fr_33_5, Fr_33_6, Fr_33_7, Fr_33_8, Fr_33_9, Fr_3_0, Fr_3_3, Fr_3_4, Fr_46_1, Fr_46_10, Fr_46_11, Fr_46_12, Fr_46_13, Fr_46_14, Fr_46_5, Fr_46_6, Fr_46_7, Fr_46_8, Fr_46_9, Ld_34, Ld_35, Ld_36, Ld_37, Ld_38, Ld_39, Ld_4, Ld_40, Ld_41, Ld_42, Ld_43, Ld_47, Ld_48, Ld_49, Ld_50, Ld_51, Ld_52, Ld_53, Ld_54, Ld_55, Ld_56, Ld_7, Ld_8, oA_34, oA_35, oA_36, oA_37, oA_38, oA_39, oA_4, oA_40, oA_41, oA_42, oA_43, oA_47, oA_48, oA_49, oA_50, oA_51, oA_52, oA_53, oA_54, oA_55, oA_56, oA_7, oA_8, oL_3, oL_33, oL_46, (j_aload_n_0 dX0_beginAnew_0 (n := 1) rfl), (j_getf dX0_beginAnew_1 (n := 4) rfl cF_0_53), (j_getf dX0_beginAnew_4 (n := 7) rfl cF_0_72), (j_iconst dX0_beginAnew_7 (n := 8) rfl ki_0), (j_aload_n_0 dX0_beginAnew_8 (n := 9) rfl), (j_getf dX0_beginAnew_9 (n := 12) rfl cF_0_9), (j_iconst dX0_beginAnew_12 (n := 13) rfl ki_0), (j_bipush dX0_beginAnew_13 (n := 15) rfl kb_24), (j_cpy (M := mX0_beginAnew) dX0_beginAnew_15 (n := 18) rfl cB_0_75 l1_X0_beginAnew), (j_aload_n_0 dX0_beginAnew_18 (n := 19) rfl), (j_getf dX0_beginAnew_19 (n := 22) rfl cF_0_53), (j_getf dX0_beginAnew_22 (n := 25) rfl cF_0_81), (j_iconst dX0_beginAnew_25 (n := 26) rfl ki_0), (j_aload_n_0 dX0_beginAnew_26 (n := 27) rfl), (j_getf dX0_beginAnew_27 (n := 30) rfl cF_0_30), (j_iconst dX0_beginAnew_30 (n := 31) rfl ki_0), (j_bipush dX0_beginAnew_31 (n := 33) rfl kb_6), (j_cpy (M := mX0_beginAnew) dX0_beginAnew_33 (n := 36) rfl cB_0_75 l1_X0_beginAnew), (j_iconst dX0_beginAnew_36 (n := 37) rfl ki_0), (j_istore_n_1 dX0_beginAnew_37 (n := 38) rfl), (j_iload_n_1 dX0_beginAnew_38 (n := 39) rfl), (j_bipush dX0_beginAnew_39 (n := 41) rfl kb_48), (j_ic_ge dX0_beginAnew_41 (n := 44) rfl br_41_27), (j_aload_n_0 dX0_beginAnew_44 (n := 45) rfl), (j_getf dX0_beginAnew_45 (n := 48) rfl cF_0_24), (j_iload_n_1 dX0_beginAnew_48 (n := 49) rfl), (j_aload_n_0 dX0_beginAnew_49 (n := 50) rfl), (j_getf dX0_beginAnew_50 (n := 53) rfl cF_0_53), (j_getf dX0_beginAnew_53 (n := 56) rfl cF_0_82), (j_iload_n_1 dX0_beginAnew_56 (n := 57) rfl), (j_bipush dX0_beginAnew_57 (n := 59) rfl kb_8), (j_idiv dX0_beginAnew_59 (n := 60) rfl), (j_iald dX0_beginAnew_60 (n := 61) rfl), (j_iast dX0_beginAnew_61 (n := 62) rfl), (j_iinc_1 dX0_beginAnew_62 (n := 65) rfl ki_1), (j_goto dX0_beginAnew_65 (n := 68) rfl br_65_m27), (j_aload_n_0 dX0_beginAnew_68 (n := 69) rfl), (j_getf dX0_beginAnew_69 (n := 72) rfl cF_0_15), (j_iconst dX0_beginAnew_72 (n := 73) rfl ki_0), (j_cs2v (M := mX0_beginAnew) dX0_beginAnew_73 (n := 76) rfl cM_0_83 (Or.inl rfl) (o := 0) rfl lv_X0_beginAnew_J7_fill_53178 rfl), (j_aload_n_0 dX0_beginAnew_76 (n := 77) rfl), (j_getf dX0_beginAnew_77 (n := 80) rfl cF_0_18), (j_iconst dX0_beginAnew_80 (n := 81) rfl ki_m1), (j_cs2v (M := mX0_beginAnew) dX0_beginAnew_81 (n := 84) rfl cM_0_83 (Or.inl rfl) (o := 0) rfl lv_X0_beginAnew_J7_fill_53178 rfl), (j_aload_n_0 dX0_beginAnew_84 (n := 85) rfl), (j_getf dX0_beginAnew_85 (n := 88) rfl cF_0_21), (j_iconst dX0_beginAnew_88 (n := 89) rfl ki_0), (j_cs2v (M := mX0_beginAnew) dX0_beginAnew_89 (n := 92) rfl cM_0_83 (Or.inl rfl) (o := 0) rfl lv_X0_beginAnew_J7_fill_53178 rfl), (j_aload_n_0 dX0_beginAnew_92 (n := 93) rfl), (j_getf dX0_beginAnew_93 (n := 96) rfl cF_0_27), (j_iconst dX0_beginAnew_96 (n := 97) rfl ki_0), (j_cs2v (M := mX0_beginAnew) dX0_beginAnew_97 (n := 100) rfl cM_0_83 (Or.inl rfl) (o := 0) rfl lv_X0_beginAnew_J7_fill_53178 rfl), (j_aload_n_0 dX0_beginAnew_100 (n := 101) rfl), (j_getf dX0_beginAnew_101 (n := 104) rfl cF_0_33), (j_iconst dX0_beginAnew_104 (n := 105) rfl ki_0), (j_cs2v (M := mX0_beginAnew) dX0_beginAnew_105 (n := 108) rfl cM_0_83 (Or.inl rfl) (o := 0) rfl lv_X0_beginAnew_J7_fill_53178 rfl), (j_aload_n_0 dX0_beginAnew_108 (n := 109) rfl), (j_getf dX0_beginAnew_109 (n := 112) rfl cF_0_36), (j_iconst dX0_beginAnew_112 (n := 113) rfl ki_m1), (j_cs2v (M := mX0_beginAnew) dX0_beginAnew_113 (n := 116) rfl cM_0_83 (Or.inl rfl) (o := 0) rfl lv_X0_beginAnew_J7_fill_53178 rfl), (j_aload_n_0 dX0_beginAnew_116 (n := 117) rfl), (j_getf dX0_beginAnew_117 (n := 120) rfl cF_0_39), (j_iconst dX0_beginAnew_120 (n := 121) rfl ki_m1), (j_cs2v (M := mX0_beginAnew) dX0_beginAnew_121 (n := 124) rfl cM_0_83 (Or.inl rfl) (o := 0) rfl lv_X0_beginAnew_J7_fill_53178 rfl), (j_ret (M := mX0_beginAnew) dX0_beginAnew_124 (n := 125) rfl rfl), nl_x, pk_us, f1 7 (by decide)]
    rw [if_pos (nI_48 hp), e8, nI_clamp (n := p) (by omega), nI_clamp (n := p / 8) (by omega), nI_1]
    refine ⟨by decide, vp_in_nI (by omega) (by omega), hv, hK _ _ ⟨rfl, frm_up f1 (by decide), ?_, ?_, ?_⟩⟩
    · simp only [upA_s, upA_n, upA_u, Nat.reduceEqDiff, not_false_eq_true, pk_us, upd_n]; exact k47
    · simp only [upA_s, upA_n, upA_u, Nat.reduceEqDiff, not_false_eq_true, pk_us, upd_n]; exact k53
    · intro i hi
      rw [upA_s, upd_t]
      split
      · next e => rw [e]
      · exact k51 i (by omega)
  · rintro _ S' ⟨rfl, f1, k47, k53, k51⟩ K
    simp only [sw3_c, sw3_n, Nat.reduceEqDiff, not_false_eq_true, Nat.zero_le, Nat.reduceLeDiff, Nat.reduceLT, Nat.reduceAdd, sg_s, ↓kif_0, ↓kif_c, ↓reduceIte, nl_n, nl_i, nl_r, List.length_cons, List.length_nil, true_and, and_true, upA_s, upA_n, upA_u, Prod.mk.injEq, and_self, Fr_33_1, Fr_33_10, Fr_33_11, Fr_33_12, Fr_33_13, Fr_33_14, Fr_33_5, Fr_33_6, Fr_33_7, Fr_33_8, Fr_33_9, Fr_3_0, Fr_3_3, Fr_3_4, Fr_46_1, Fr_46_10, Fr_46_11, Fr_46_12, Fr_46_13, Fr_46_14, Fr_46_5, Fr_46_6, Fr_46_7, Fr_46_8, Fr_46_9, Ld_34, Ld_35, Ld_36, Ld_37, Ld_38, Ld_39, Ld_4, Ld_40, Ld_41, Ld_42, Ld_43, Ld_47, Ld_48, Ld_49, Ld_50, Ld_51, Ld_52, Ld_53, Ld_54, Ld_55, Ld_56, Ld_7, Ld_8, oA_34, oA_35, oA_36, oA_37, oA_38, oA_39, oA_4, oA_40, oA_41, oA_42, oA_43, oA_47, oA_48, oA_49, oA_50, oA_51, oA_52, oA_53, oA_54, oA_55, oA_56, oA_7, oA_8, oL_3, oL_33, oL_46, (j_aload_n_0 dX0_beginAnew_0 (n := 1) rfl), (j_getf dX0_beginAnew_1 (n := 4) rfl cF_0_53), (j_getf dX0_beginAnew_4 (n := 7) rfl cF_0_72), (j_iconst dX0_beginAnew_7 (n := 8) rfl ki_0), (j_aload_n_0 dX0_beginAnew_8 (n := 9) rfl), (j_getf dX0_beginAnew_9 (n := 12) rfl cF_0_9), (j_iconst dX0_beginAnew_12 (n := 13) rfl ki_0), (j_bipush dX0_beginAnew_13 (n := 15) rfl kb_24), (j_cpy (M := mX0_beginAnew) dX0_beginAnew_15 (n := 18) rfl cB_0_75 l1_X0_beginAnew), (j_aload_n_0 dX0_beginAnew_18 (n := 19) rfl), (j_getf dX0_beginAnew_19 (n := 22) rfl cF_0_53), (j_getf dX0_beginAnew_22 (n := 25) rfl cF_0_81), (j_iconst dX0_beginAnew_25 (n := 26) rfl ki_0), (j_aload_n_0 dX0_beginAnew_26 (n := 27) rfl), (j_getf dX0_beginAnew_27 (n := 30) rfl cF_0_30), (j_iconst dX0_beginAnew_30 (n := 31) rfl ki_0), (j_bipush dX0_beginAnew_31 (n := 33) rfl kb_6), (j_cpy (M := mX0_beginAnew) dX0_beginAnew_33 (n := 36) rfl cB_0_75 l1_X0_beginAnew), (j_iconst dX0_beginAnew_36 (n := 37) rfl ki_0), (j_istore_n_1 dX0_beginAnew_37 (n := 38) rfl), (j_iload_n_1 dX0_beginAnew_38 (n := 39) rfl), (j_bipush dX0_beginAnew_39 (n := 41) rfl kb_48), (j_ic_ge dX0_beginAnew_41 (n := 44) rfl br_41_27), (j_aload_n_0 dX0_beginAnew_44 (n := 45) rfl), (j_getf dX0_beginAnew_45 (n := 48) rfl cF_0_24), (j_iload_n_1 dX0_beginAnew_48 (n := 49) rfl), (j_aload_n_0 dX0_beginAnew_49 (n := 50) rfl), (j_getf dX0_beginAnew_50 (n := 53) rfl cF_0_53), (j_getf dX0_beginAnew_53 (n := 56) rfl cF_0_82), (j_iload_n_1 dX0_beginAnew_56 (n := 57) rfl), (j_bipush dX0_beginAnew_57 (n := 59) rfl kb_8), (j_idiv dX0_beginAnew_59 (n := 60) rfl), (j_iald dX0_beginAnew_60 (n := 61) rfl), (j_iast dX0_beginAnew_61 (n := 62) rfl), (j_iinc_1 dX0_beginAnew_62 (n := 65) rfl ki_1), (j_goto dX0_beginAnew_65 (n := 68) rfl br_65_m27), (j_aload_n_0 dX0_beginAnew_68 (n := 69) rfl), (j_getf dX0_beginAnew_69 (n := 72) rfl cF_0_15), (j_iconst dX0_beginAnew_72 (n := 73) rfl ki_0), (j_cs2v (M := mX0_beginAnew) dX0_beginAnew_73 (n := 76) rfl cM_0_83 (Or.inl rfl) (o := 0) rfl lv_X0_beginAnew_J7_fill_53178 rfl), (j_aload_n_0 dX0_beginAnew_76 (n := 77) rfl), (j_getf dX0_beginAnew_77 (n := 80) rfl cF_0_18), (j_iconst dX0_beginAnew_80 (n := 81) rfl ki_m1), (j_cs2v (M := mX0_beginAnew) dX0_beginAnew_81 (n := 84) rfl cM_0_83 (Or.inl rfl) (o := 0) rfl lv_X0_beginAnew_J7_fill_53178 rfl), (j_aload_n_0 dX0_beginAnew_84 (n := 85) rfl), (j_getf dX0_beginAnew_85 (n := 88) rfl cF_0_21), (j_iconst dX0_beginAnew_88 (n := 89) rfl ki_0), (j_cs2v (M := mX0_beginAnew) dX0_beginAnew_89 (n := 92) rfl cM_0_83 (Or.inl rfl) (o := 0) rfl lv_X0_beginAnew_J7_fill_53178 rfl), (j_aload_n_0 dX0_beginAnew_92 (n := 93) rfl), (j_getf dX0_beginAnew_93 (n := 96) rfl cF_0_27), (j_iconst dX0_beginAnew_96 (n := 97) rfl ki_0), (j_cs2v (M := mX0_beginAnew) dX0_beginAnew_97 (n := 100) rfl cM_0_83 (Or.inl rfl) (o := 0) rfl lv_X0_beginAnew_J7_fill_53178 rfl), (j_aload_n_0 dX0_beginAnew_100 (n := 101) rfl), (j_getf dX0_beginAnew_101 (n := 104) rfl cF_0_33), (j_iconst dX0_beginAnew_104 (n := 105) rfl ki_0), (j_cs2v (M := mX0_beginAnew) dX0_beginAnew_105 (n := 108) rfl cM_0_83 (Or.inl rfl) (o := 0) rfl lv_X0_beginAnew_J7_fill_53178 rfl), (j_aload_n_0 dX0_beginAnew_108 (n := 109) rfl), (j_getf dX0_beginAnew_109 (n := 112) rfl cF_0_36), (j_iconst dX0_beginAnew_112 (n := 113) rfl ki_m1), (j_cs2v (M := mX0_beginAnew) dX0_beginAnew_113 (n := 116) rfl cM_0_83 (Or.inl rfl) (o := 0) rfl lv_X0_beginAnew_J7_fill_53178 rfl), (j_aload_n_0 dX0_beginAnew_116 (n := 117) rfl), (j_getf dX0_beginAnew_117 (n := 120) rfl cF_0_39), (j_iconst dX0_beginAnew_120 (n := 121) rfl ki_m1), (j_cs2v (M := mX0_beginAnew) dX0_beginAnew_121 (n := 124) rfl cM_0_83 (Or.inl rfl) (o := 0) rfl lv_X0_beginAnew_J7_fill_53178 rfl), (j_ret (M := mX0_beginAnew) dX0_beginAnew_124 (n := 125) rfl rfl), nl_x, pk_us]
    rw [if_neg (by decide)]
    refine c_fill 48 _ _ _ (by decide) (by decide) ?_
    refine c_fill 49 _ _ _ (by decide) (by decide) ?_
    refine c_fill 50 _ _ _ (by decide) (by decide) ?_
    refine c_fill 52 _ _ _ (by decide) (by decide) ?_
    refine c_fill 54 _ _ _ (by decide) (by decide) ?_
    refine c_fill 55 _ _ _ (by decide) (by decide) ?_
    refine c_fill 56 _ _ _ (by decide) (by decide) ?_
    have fl : ∀ (a : Nat → Int32) (n i : Nat) (v : Int32), i < n → fillR a 0 n v i = v := fun a n i v hi => by unfold fillR; rw [if_pos (by omega)]
    refine h _ ?_ ?_ ?_ ?_ ?_ ?_
    · exact frm_up (frm_up (frm_up (frm_up (frm_up (frm_up (frm_up (frm_w f1 (by decide)) (by decide)) (by decide)) (by decide)) (by decide)) (by decide)) (by decide)) (by decide)
    · simp only [upA_s, upA_n, upA_u, Nat.reduceEqDiff, not_false_eq_true, pk_us, upd_n]; exact k47
    · simp only [upA_s, upA_n, upA_u, Nat.reduceEqDiff, not_false_eq_true, pk_us, upd_n]; exact fun i hi => fl _ _ _ _ hi
    · simp only [upA_s, upA_n, upA_u, Nat.reduceEqDiff, not_false_eq_true, pk_us, upd_n]; exact k51
    · simp only [upA_s, upA_n, upA_u, Nat.reduceEqDiff, not_false_eq_true, pk_us, upd_n]; exact k53
    · simp only [upA_s, upA_n, upA_u, Nat.reduceEqDiff, not_false_eq_true, pk_us, upd_n]; exact fun i hi => ⟨fl _ _ _ _ hi, fl _ _ _ _ hi, fl _ _ _ _ hi⟩
/-- the hour of the first call, as the reference finds it -/
def clH (S : xA) : Nat → Int32
  | 0 => -1
  | k + 1 => if S 84 k = 0 then (if clH S k < 0 then S 87 k else if S 87 k < clH S k then S 87 k else clH S k) else clH S k
theorem clH_fch {S : xA} (hI : Ord S) : ∀ n, n ≤ (S 9 7).toNatClampNeg → (clH S n = -1 ∧ (∀ o, o < n → ¬ S 84 o = 0) ∧ fch S n = 240) ∨ (0 ≤ (clH S n).toInt ∧ (clH S n).toInt ≤ 240 ∧ clH S n = fch S n)
  | 0, _ => Or.inl ⟨rfl, fun o ho => by omega, rfl⟩
  | n + 1, hn => by
    have ih := clH_fch hI n (by omega)
    have o1 := ordO hI (o := n) (by omega)
    have e10 := o1.2.1.1
    have e13 := o1.2.2.2.1
    have b0 := o1.2.2.2.2.1
    have b1 := o1.2.2.2.2.2
    rw [clH, fch, e10, e13]
    rw [e13] at b0 b1
    by_cases q : S 84 n = 0
    · rw [if_pos q, if_pos q]
      right
      rcases ih with ⟨a1, a2, a3⟩ | ⟨a1, a2, a3⟩
      · rw [a1, a3, if_pos (by decide)]
        refine ⟨b0, b1, ?_⟩
        split
        · rfl
        · next w => rw [lt_I, ti_240] at w; exact Int32.toInt_inj.mp (by rw [ti_240]; omega)
      · rw [if_neg (by rw [lt_I, ti_0]; omega), a3]
        rw [a3] at a1 a2
        split
        · exact ⟨b0, b1, rfl⟩
        · exact ⟨a1, a2, rfl⟩
    · rw [if_neg q, if_neg q]
      rcases ih with ⟨a1, a2, a3⟩ | ih
      · left
        refine ⟨a1, fun o ho => ?_, a3⟩
        by_cases e : o = n
        · rw [e]; exact q
        · exact a2 o (by omega)
      · exact Or.inr ih
def caB (S : xA) (b : Int32) : Int32 := if b = 0 then -1 else clH S (S 9 7).toNatClampNeg
theorem Hg_b {S : xA} (hI : Inv S) (b : Int32) : Hg S b (caB S b) := by
  unfold caB
  by_cases q : b = 0
  · subst q
    rw [if_pos rfl]
    exact Hg_0 hI
  · rw [if_neg q]
    intro o ho
    have o1 := ordO (Inv_Ord hI) ho
    have e10 := o1.2.1.1
    have e13 := o1.2.2.2.1
    have b01 := o1.2.2.2.2
    rw [hrO_cAt]
    unfold gvn
    rw [if_neg q, e10, e13]
    rw [e13] at b01
    rcases clH_fch (Inv_Ord hI) _ (Nat.le_refl _) with ⟨a1, a2, a3⟩ | ⟨a1, a2, a3⟩
    · rw [if_neg (a2 o ho), a1, if_pos (by decide)]
      exact ⟨rfl, b01⟩
    · rw [if_neg (show ¬ clH S (S 9 7).toNatClampNeg < 0 by rw [lt_I, ti_0]; omega), ← a3]
      split
      · exact ⟨rfl, a1, a2⟩
      · exact ⟨rfl, b01⟩
theorem caB_c {S S' : xA} (h9 : S' 9 = S 9) (h84 : S' 84 = S 84) (h87 : S' 87 = S 87) (b : Int32) : caB S' b = caB S b := by
  have e : ∀ n, clH S' n = clH S n := by
    intro n
    induction n with
    | zero => rfl
    | succ n ih => rw [clH, clH, ih, h84, h87]
  unfold caB
  rw [e, h9]
