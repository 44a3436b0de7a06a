-- reading: the reference's clause
/-- what of a clause the reference keeps -/
def mxC (kd : Nat) (E : Nat × Nat × Int32 × Int32 × Nat) (x1 x2 : Int32) : Prop := (kd = 0 → x1 = E.2.2.1 ∧ x2 = E.2.2.2.1) ∧ (¬ kd = 0 → x1 = E.2.2.2.1)
section RM
variable {R0 R : xA} {n p fr lt : Nat} {KD F1 F2 : Nat → Int32}
set_option maxRecDepth 10000 in
set_option maxHeartbeats 8000000 in
theorem y_clause (hn : n ≤ 160) (kd ix rules : Nat) (hkd : kd ≤ 5) (hx : ix < 64) (hr : rules ≤ 8) (hru : R0 70 21 = nI rules) (h : rdM R0 R n p fr lt none KD F1 F2) (E : Nat × Nat × Int32 × Int32 × Nat) (hE : E = if kd = 0 then neE (R0 93) n p else nuE (R0 93) n rules kd p) (f : xA → Prop)
    (k1 : E.1 = 0 → ∀ R' fr' lt' x1 x2, mxC kd E x1 x2 → rdM R0 R' n E.2.2.2.2 fr' lt' none (upd KD ix (nI kd)) (upd F1 ix x1) (upd F2 ix x2) → f R')
    (k2 : ¬ E.1 = 0 → ∀ R' p' fr' lt' x1 x2, rdM R0 R' n p' fr' lt' (some (E.1, E.2.1)) (upd KD ix (nI kd)) (upd F1 ix x1) (upd F2 ix x2) → f R') : CV mX10_readClause [.ref (70 : Nat), .int (nI kd), .int (nI ix)] R f := by
  have hv : vp_in (nI ix) 64 := vp_in_nI (by omega) (by omega)
  refine cv_of (T := mX10_readClause) (f := fun _ _ => True) (ls := [some (.ref (70 : Nat)), some (.int (nI kd)), some (.int (nI ix)), none]) rfl (Nat.le_of_ble_eq_true rfl) (by decide) rfl rfl rfl ?_
  have tail : ∀ R1 q fr' lt' o' x1 x2 x, rdM R0 R1 n q fr' lt' o' (upd KD ix (nI kd)) (upd F1 ix x1) (upd F2 ix x2) → ((o' = some (E.1, E.2.1) ∧ ¬ E.1 = 0) ∨ (∃ kc vc, o' = none ∧ E = clE (R0 93) n q kc vc ∧ (kd = 0 → x1 = kc ∧ x2 = vc) ∧ (¬ kd = 0 → x1 = vc))) → Ok2 mX10_readClause 111 [some (.ref (70 : Nat)), some (.int (nI kd)), some (.int (nI ix)), lx x] [] R1 (fun _ _ => True) f := by
    intro R1 q fr' lt' o' x1 x2 x h1 hcase
    have e30 := fltM_0 h1.2.2.2.2.2.2.2.1
    refine ok2_0 cX10_readClause 10 40 rfl rfl ?_
    simp only [sw3_c, sw3_n, Nat.reduceEqDiff, not_false_eq_true, Nat.zero_le, Nat.reduceLeDiff, Nat.reduceLT, Nat.reduceAdd, sg_s, ↓kif_0, ↓kif_c, ↓reduceIte, nl_n, nl_i, nl_r, List.length_cons, List.length_nil, true_and, and_true, upA_s, upA_n, upA_u, Prod.mk.injEq, and_self, Fr_70_21, Fr_70_24, Fr_70_25, Fr_70_29, Fr_70_30, Fr_70_32, Ld_90, Ld_91, oA_90, oA_91, oC_70, oI_70_29, oL_70, (j_aload_n_0 dX10_readClause_0 (n := 1) rfl), (j_getf dX10_readClause_1 (n := 4) rfl cF_10_71), (j_iload_n_2 dX10_readClause_4 (n := 5) rfl), (j_iload_n_1 dX10_readClause_5 (n := 6) rfl), (j_iast dX10_readClause_6 (n := 7) rfl), (j_iload_n_1 dX10_readClause_7 (n := 8) rfl), (j_if_ne dX10_readClause_8 (n := 11) rfl br_8_11), (j_aload_n_0 dX10_readClause_11 (n := 12) rfl), (j_iload_n_2 dX10_readClause_12 (n := 13) rfl), (j_cv1v (M := mX10_readClause) dX10_readClause_13 (n := 16) rfl cM_10_271 (Or.inl rfl) lv_X10_readClause_X10_readNeed rfl (oc := 10) rfl), (j_goto dX10_readClause_16 (n := 19) rfl br_16_95), (j_iload_n_1 dX10_readClause_19 (n := 20) rfl), (j_iconst dX10_readClause_20 (n := 21) rfl ki_5), (j_ic_ne dX10_readClause_21 (n := 24) rfl br_21_48), (j_aload_n_0 dX10_readClause_24 (n := 25) rfl), (j_getf dX10_readClause_25 (n := 28) rfl cF_10_74), (j_iload_n_2 dX10_readClause_28 (n := 29) rfl), (j_aload_n_0 dX10_readClause_29 (n := 30) rfl), (j_iconst dX10_readClause_30 (n := 31) rfl ki_0), (j_sipush dX10_readClause_31 (n := 34) rfl ks_999), (j_cv2i (M := mX10_readClause) dX10_readClause_34 (n := 37) rfl cM_10_275 (Or.inl rfl) lv_X10_readClause_X10_takeNumber rfl (oc := 10) rfl), (j_iast dX10_readClause_37 (n := 38) rfl), (j_aload_n_0 dX10_readClause_38 (n := 39) rfl), (j_aload_n_0 dX10_readClause_39 (n := 40) rfl), (j_getf dX10_readClause_40 (n := 43) rfl cF_10_74), (j_iload_n_2 dX10_readClause_43 (n := 44) rfl), (j_iald dX10_readClause_44 (n := 45) rfl), (j_aload_n_0 dX10_readClause_45 (n := 46) rfl), (j_getf dX10_readClause_46 (n := 49) rfl cF_10_278), (j_ic_ge dX10_readClause_49 (n := 52) rfl br_49_7), (j_iconst dX10_readClause_52 (n := 53) rfl ki_1), (j_goto dX10_readClause_53 (n := 56) rfl br_53_4), (j_iconst dX10_readClause_56 (n := 57) rfl ki_0), (j_iconst dX10_readClause_57 (n := 58) rfl ki_3), (j_aload_n_0 dX10_readClause_58 (n := 59) rfl), (j_getf dX10_readClause_59 (n := 62) rfl cF_10_240), (j_cv3i (M := mX10_readClause) dX10_readClause_62 (n := 65) rfl cM_10_254 (Or.inl rfl) lv_X10_readClause_X10_want rfl (oc := 10) rfl), (j_istore_n_3 dX10_readClause_65 (n := 66) rfl), (j_goto dX10_readClause_66 (n := 69) rfl br_66_45), (j_aload_n_0 dX10_readClause_69 (n := 70) rfl), (j_getf dX10_readClause_70 (n := 73) rfl cF_10_74), (j_iload_n_2 dX10_readClause_73 (n := 74) rfl), (j_aload_n_0 dX10_readClause_74 (n := 75) rfl), (j_iload_n_1 dX10_readClause_75 (n := 76) rfl), (j_iconst dX10_readClause_76 (n := 77) rfl ki_4), (j_ic_ne dX10_readClause_77 (n := 80) rfl br_77_7), (j_iconst dX10_readClause_80 (n := 81) rfl ki_1), (j_goto dX10_readClause_81 (n := 84) rfl br_81_4), (j_iconst dX10_readClause_84 (n := 85) rfl ki_0), (j_iload_n_1 dX10_readClause_85 (n := 86) rfl), (j_iconst dX10_readClause_86 (n := 87) rfl ki_4), (j_ic_ne dX10_readClause_87 (n := 90) rfl br_87_8), (j_bipush dX10_readClause_90 (n := 92) rfl kb_9), (j_goto dX10_readClause_92 (n := 95) rfl br_92_15), (j_iload_n_1 dX10_readClause_95 (n := 96) rfl), (j_iconst dX10_readClause_96 (n := 97) rfl ki_3), (j_ic_ne dX10_readClause_97 (n := 100) rfl br_97_8), (j_bipush dX10_readClause_100 (n := 102) rfl kb_100), (j_goto dX10_readClause_102 (n := 105) rfl br_102_5), (j_bipush dX10_readClause_105 (n := 107) rfl kb_99), (j_cv2i (M := mX10_readClause) dX10_readClause_107 (n := 110) rfl cM_10_275 (Or.inl rfl) lv_X10_readClause_X10_takeNumber rfl (oc := 10) rfl), (j_iast dX10_readClause_110 (n := 111) rfl), (j_aload_n_0 dX10_readClause_111 (n := 112) rfl), (j_getf dX10_readClause_112 (n := 115) rfl cF_10_233), (j_if_ne dX10_readClause_115 (n := 118) rfl br_115_40), (j_aload_n_0 dX10_readClause_118 (n := 119) rfl), (j_cv0i (M := mX10_readClause) dX10_readClause_119 (n := 122) rfl cM_10_236 (Or.inl rfl) lv_X10_readClause_X10_here rfl (oc := 10) rfl), (j_istore_n_3 dX10_readClause_122 (n := 123) rfl), (j_aload_n_0 dX10_readClause_123 (n := 124) rfl), (j_dup_i dX10_readClause_124 (n := 125) rfl), (j_dup_r dX10_readClause_124 (n := 125) rfl), (j_getf dX10_readClause_125 (n := 128) rfl cF_10_230), (j_aload_n_0 dX10_readClause_128 (n := 129) rfl), (j_iload_n_3 dX10_readClause_129 (n := 130) rfl), (j_bipush dX10_readClause_130 (n := 132) rfl kb_59), (j_ic_ne dX10_readClause_132 (n := 135) rfl br_132_7), (j_iconst dX10_readClause_135 (n := 136) rfl ki_1), (j_goto dX10_readClause_136 (n := 139) rfl br_136_4), (j_iconst dX10_readClause_139 (n := 140) rfl ki_0), (j_iconst dX10_readClause_140 (n := 141) rfl ki_1), (j_aload_n_0 dX10_readClause_141 (n := 142) rfl), (j_getf dX10_readClause_142 (n := 145) rfl cF_10_230), (j_cv3i (M := mX10_readClause) dX10_readClause_145 (n := 148) rfl cM_10_254 (Or.inl rfl) lv_X10_readClause_X10_want rfl (oc := 10) rfl), (j_cs1i (M := mX10_readClause) dX10_readClause_148 (n := 151) rfl cM_10_210 (Or.inl rfl) (o := 10) rfl lv_X10_readClause_X10_one rfl), (j_iadd dX10_readClause_151 (n := 152) rfl), (j_putf dX10_readClause_152 (n := 155) rfl cF_10_230), (j_ret (M := mX10_readClause) dX10_readClause_155 (n := 156) rfl rfl), nl_x, pk_us]
    rcases hcase with ⟨ho, hne⟩ | ⟨kc, vc, ho, he, e1, e2⟩
    · rw [if_neg (by rw [e30, ho]; exact fun w => by cases w)]
      rw [ho] at h1
      exact k2 hne _ _ _ _ _ _ h1
    · subst ho
      rw [if_pos (e30.symm ▸ rfl)]
      refine y_here hn h1 _ (fun R2 h2 => ?_)
      have hq := h2.2.2.2.2.1
      simp only [hrV_eq (show ¬ (59 : Int32) = -1 by decide), h2.2.2.2.1]
      unfold clE at he
      refine ite_i (fun z => ?_) (fun z => ?_)
      · rw [if_pos z] at he
        subst he
        refine y_want true 1 _ (by omega) h2 _ (fun _ => c_one _ _ _ ?_) (fun z => by cases z)
        rw [decide_eq_true rfl, if_neg (show ¬ bI true = 0 by decide), nI_1]
        refine k1 rfl _ _ _ x1 x2 ⟨e1, e2⟩ (rdM_u h2 (fun j j1 _ _ => upd_n j1) pk_us (show sk (R0 93) n q + 1 ≤ n by have := z.1; omega) (by rw [upd_n (by decide)]; exact h2.2.2.2.2.2.1) (by rw [upd_n (by decide)]; exact h2.2.2.2.2.2.2.1))
      · rw [if_neg z] at he
        subst he
        refine y_want false 1 _ (by omega) h2 _ (fun z => by cases z) (fun _ R3 h3 => c_one _ _ _ ?_)
        rw [if_pos rfl, Int32.add_zero]
        refine k2 Nat.one_ne_zero _ _ _ _ x1 x2 (rdM_u h3 (fun j j1 _ _ => upd_n j1) pk_us hq (by rw [upd_n (by decide)]; exact h3.2.2.2.2.2.1) (by rw [upd_n (by decide)]; exact h3.2.2.2.2.2.2.1))
  refine ok2_to cX10_readClause 10 60 111 (fun ls R1 => ∃ q fr' lt' o' x1 x2 x, ls = [some (.ref (70 : Nat)), some (.int (nI kd)), some (.int (nI ix)), lx x] ∧ rdM R0 R1 n q fr' lt' o' (upd KD ix (nI kd)) (upd F1 ix x1) (upd F2 ix x2) ∧ ((o' = some (E.1, E.2.1) ∧ ¬ E.1 = 0) ∨ (∃ kc vc, o' = none ∧ E = clE (R0 93) n q kc vc ∧ (kd = 0 → x1 = kc ∧ x2 = vc) ∧ (¬ kd = 0 → x1 = vc)))) rfl rfl ?_ ?_
  · rintro ls R1 ⟨q, fr', lt', o', x1, x2, x, rfl, h1, hcase⟩
    exact tail R1 q fr' lt' o' x1 x2 x h1 hcase
  · intro X hX
    simp only [sw3_c, sw3_n, Nat.reduceEqDiff, not_false_eq_true, Nat.zero_le, Nat.reduceLeDiff, Nat.reduceLT, Nat.reduceAdd, sg_s, ↓kif_0, ↓kif_c, ↓reduceIte, nl_n, nl_i, nl_r, List.length_cons, List.length_nil, true_and, and_true, upA_s, upA_n, upA_u, Prod.mk.injEq, and_self, Fr_70_21, Fr_70_24, Fr_70_25, Fr_70_29, Fr_70_30, Fr_70_32, Ld_90, Ld_91, oA_90, oA_91, oC_70, oI_70_29, oL_70, (j_aload_n_0 dX10_readClause_0 (n := 1) rfl), (j_getf dX10_readClause_1 (n := 4) rfl cF_10_71), (j_iload_n_2 dX10_readClause_4 (n := 5) rfl), (j_iload_n_1 dX10_readClause_5 (n := 6) rfl), (j_iast dX10_readClause_6 (n := 7) rfl), (j_iload_n_1 dX10_readClause_7 (n := 8) rfl), (j_if_ne dX10_readClause_8 (n := 11) rfl br_8_11), (j_aload_n_0 dX10_readClause_11 (n := 12) rfl), (j_iload_n_2 dX10_readClause_12 (n := 13) rfl), (j_cv1v (M := mX10_readClause) dX10_readClause_13 (n := 16) rfl cM_10_271 (Or.inl rfl) lv_X10_readClause_X10_readNeed rfl (oc := 10) rfl), (j_goto dX10_readClause_16 (n := 19) rfl br_16_95), (j_iload_n_1 dX10_readClause_19 (n := 20) rfl), (j_iconst dX10_readClause_20 (n := 21) rfl ki_5), (j_ic_ne dX10_readClause_21 (n := 24) rfl br_21_48), (j_aload_n_0 dX10_readClause_24 (n := 25) rfl), (j_getf dX10_readClause_25 (n := 28) rfl cF_10_74), (j_iload_n_2 dX10_readClause_28 (n := 29) rfl), (j_aload_n_0 dX10_readClause_29 (n := 30) rfl), (j_iconst dX10_readClause_30 (n := 31) rfl ki_0), (j_sipush dX10_readClause_31 (n := 34) rfl ks_999), (j_cv2i (M := mX10_readClause) dX10_readClause_34 (n := 37) rfl cM_10_275 (Or.inl rfl) lv_X10_readClause_X10_takeNumber rfl (oc := 10) rfl), (j_iast dX10_readClause_37 (n := 38) rfl), (j_aload_n_0 dX10_readClause_38 (n := 39) rfl), (j_aload_n_0 dX10_readClause_39 (n := 40) rfl), (j_getf dX10_readClause_40 (n := 43) rfl cF_10_74), (j_iload_n_2 dX10_readClause_43 (n := 44) rfl), (j_iald dX10_readClause_44 (n := 45) rfl), (j_aload_n_0 dX10_readClause_45 (n := 46) rfl), (j_getf dX10_readClause_46 (n := 49) rfl cF_10_278), (j_ic_ge dX10_readClause_49 (n := 52) rfl br_49_7), (j_iconst dX10_readClause_52 (n := 53) rfl ki_1), (j_goto dX10_readClause_53 (n := 56) rfl br_53_4), (j_iconst dX10_readClause_56 (n := 57) rfl ki_0), (j_iconst dX10_readClause_57 (n := 58) rfl ki_3), (j_aload_n_0 dX10_readClause_58 (n := 59) rfl), (j_getf dX10_readClause_59 (n := 62) rfl cF_10_240), (j_cv3i (M := mX10_readClause) dX10_readClause_62 (n := 65) rfl cM_10_254 (Or.inl rfl) lv_X10_readClause_X10_want rfl (oc := 10) rfl), (j_istore_n_3 dX10_readClause_65 (n := 66) rfl), (j_goto dX10_readClause_66 (n := 69) rfl br_66_45), (j_aload_n_0 dX10_readClause_69 (n := 70) rfl), (j_getf dX10_readClause_70 (n := 73) rfl cF_10_74), (j_iload_n_2 dX10_readClause_73 (n := 74) rfl), (j_aload_n_0 dX10_readClause_74 (n := 75) rfl), (j_iload_n_1 dX10_readClause_75 (n := 76) rfl), (j_iconst dX10_readClause_76 (n := 77) rfl ki_4), (j_ic_ne dX10_readClause_77 (n := 80) rfl br_77_7), (j_iconst dX10_readClause_80 (n := 81) rfl ki_1), (j_goto dX10_readClause_81 (n := 84) rfl br_81_4), (j_iconst dX10_readClause_84 (n := 85) rfl ki_0), (j_iload_n_1 dX10_readClause_85 (n := 86) rfl), (j_iconst dX10_readClause_86 (n := 87) rfl ki_4), (j_ic_ne dX10_readClause_87 (n := 90) rfl br_87_8), (j_bipush dX10_readClause_90 (n := 92) rfl kb_9), (j_goto dX10_readClause_92 (n := 95) rfl br_92_15), (j_iload_n_1 dX10_readClause_95 (n := 96) rfl), (j_iconst dX10_readClause_96 (n := 97) rfl ki_3), (j_ic_ne dX10_readClause_97 (n := 100) rfl br_97_8), (j_bipush dX10_readClause_100 (n := 102) rfl kb_100), (j_goto dX10_readClause_102 (n := 105) rfl br_102_5), (j_bipush dX10_readClause_105 (n := 107) rfl kb_99), (j_cv2i (M := mX10_readClause) dX10_readClause_107 (n := 110) rfl cM_10_275 (Or.inl rfl) lv_X10_readClause_X10_takeNumber rfl (oc := 10) rfl), (j_iast dX10_readClause_110 (n := 111) rfl), (j_aload_n_0 dX10_readClause_111 (n := 112) rfl), (j_getf dX10_readClause_112 (n := 115) rfl cF_10_233), (j_if_ne dX10_readClause_115 (n := 118) rfl br_115_40), (j_aload_n_0 dX10_readClause_118 (n := 119) rfl), (j_cv0i (M := mX10_readClause) dX10_readClause_119 (n := 122) rfl cM_10_236 (Or.inl rfl) lv_X10_readClause_X10_here rfl (oc := 10) rfl), (j_istore_n_3 dX10_readClause_122 (n := 123) rfl), (j_aload_n_0 dX10_readClause_123 (n := 124) rfl), (j_dup_i dX10_readClause_124 (n := 125) rfl), (j_dup_r dX10_readClause_124 (n := 125) rfl), (j_getf dX10_readClause_125 (n := 128) rfl cF_10_230), (j_aload_n_0 dX10_readClause_128 (n := 129) rfl), (j_iload_n_3 dX10_readClause_129 (n := 130) rfl), (j_bipush dX10_readClause_130 (n := 132) rfl kb_59), (j_ic_ne dX10_readClause_132 (n := 135) rfl br_132_7), (j_iconst dX10_readClause_135 (n := 136) rfl ki_1), (j_goto dX10_readClause_136 (n := 139) rfl br_136_4), (j_iconst dX10_readClause_139 (n := 140) rfl ki_0), (j_iconst dX10_readClause_140 (n := 141) rfl ki_1), (j_aload_n_0 dX10_readClause_141 (n := 142) rfl), (j_getf dX10_readClause_142 (n := 145) rfl cF_10_230), (j_cv3i (M := mX10_readClause) dX10_readClause_145 (n := 148) rfl cM_10_254 (Or.inl rfl) lv_X10_readClause_X10_want rfl (oc := 10) rfl), (j_cs1i (M := mX10_readClause) dX10_readClause_148 (n := 151) rfl cM_10_210 (Or.inl rfl) (o := 10) rfl lv_X10_readClause_X10_one rfl), (j_iadd dX10_readClause_151 (n := 152) rfl), (j_putf dX10_readClause_152 (n := 155) rfl cF_10_230), (j_ret (M := mX10_readClause) dX10_readClause_155 (n := 156) rfl rfl), nl_x, pk_us]
    rw [nI_clamp (n := ix) (by omega)]
    refine ⟨hv, ?_⟩
    have h0 := rdM_r 90 (upd (R 90) ix (nI kd)) (Or.inl rfl) h
    rw [h.2.2.2.2.2.2.2.2.1] at h0 ⊢
    simp only [show ¬ (90 : Nat) = 91 by decide, show ¬ (90 : Nat) = 92 by decide, if_true, if_false] at h0
    by_cases hk0 : kd = 0
    · subst hk0
      rw [if_pos rfl] at hE
      rw [if_pos (show nI 0 = 0 from rfl)]
      unfold neE at hE
      refine y_need hn ix hx h0 _ (fun o' hcase R1 p' fr' lt' x y h1 => ?_) (fun gg hg hs R1 fr' lt' h1 => ?_)
      · refine hX _ _ ⟨_, _, _, _, _, _, none, rfl, h1, Or.inl ?_⟩
        rcases hcase with ⟨hg, ho⟩ | ⟨gg, hg, hs, ho⟩
        · rw [hg] at hE
          rw [hE]
          exact ⟨ho, Nat.one_ne_zero⟩
        · rw [hg] at hE
          simp only at hE
          rw [if_neg hs] at hE
          rw [hE]
          exact ⟨ho, hs⟩
      · rw [hg] at hE
        simp only at hE
        rw [if_pos hs] at hE
        exact hX _ _ ⟨_, _, _, _, _, _, none, rfl, h1, Or.inr ⟨nI gg, _, rfl, hE, fun _ => ⟨rfl, rfl⟩, fun w => absurd rfl w⟩⟩
    · rw [if_neg hk0] at hE
      have e0 : ¬ nI kd = 0 := nI_ne0 (by omega) (by omega)
      rw [if_neg e0]
      unfold nuE at hE
      generalize hd0 : sk (R0 93) n p = d0 at hE
      generalize hd1 : dg (R0 93) n d0 = d1 at hE
      generalize hvv : nmV (R0 93) d0 (d1 - d0) = v at hE
      have row : ∀ {R1 : xA} {q fr' lt' : Nat} {o' : Option (Nat × Nat)} (x1 : Int32), rdM R0 R1 n q fr' lt' o' (upd KD ix (nI kd)) F1 F2 → rdM R0 (upA R1 91 (upd (R1 91) ix x1)) n q fr' lt' o' (upd KD ix (nI kd)) (upd F1 ix x1) (upd F2 ix (F2 ix)) := by
        intro R1 q fr' lt' o' x1 h1
        have := rdM_r 91 (upd (R1 91) ix x1) (Or.inr (Or.inl rfl)) h1
        rw [h1.2.2.2.2.2.2.2.2.2.1] at this ⊢
        rw [upd_i]
        exact this
      -- the numbers but strike's
      have num : ∀ (lo hi : Int32), lo.toInt = loK kd → hi.toInt = hiK kd → ¬ kd = 5 → CI mX10_takeNumber [.ref (70 : Nat), .int lo, .int hi] (upA R 90 (upd KD ix (nI kd))) (fun x S => vp_in (nI ix) 64 ∧ X [some (.ref (70 : Nat)), some (.int (nI kd)), some (.int (nI ix)), none] [] (upA S 91 (upd (S 91) ix x))) := by
        intro lo hi hlo hhi h5
        refine y_tnum hn lo hi h0 _ (fun c1 R1 h1 => ⟨hv, ?_⟩) (fun c1 c2 R1 v' h1 => ⟨hv, ?_⟩) (fun c1 c2 R1 h1 => ⟨hv, ?_⟩)
        · rw [hd0, hd1] at c1
          rw [if_pos c1] at hE
          rw [hd0] at h1
          exact hX _ _ ⟨_, _, _, _, _, _, none, rfl, row _ h1, Or.inl (by rw [hE]; exact ⟨rfl, Nat.one_ne_zero⟩)⟩
        · rw [hd0, hd1] at c1
          rw [hd0, hd1, hvv, hlo, hhi] at c2
          rw [if_neg c1, if_pos c2] at hE
          rw [hd0] at h1
          exact hX _ _ ⟨_, _, _, _, _, _, none, rfl, row _ h1, Or.inl (by rw [hE]; exact ⟨rfl, (show ¬ (2 : Nat) = 0 by decide)⟩)⟩
        · rw [hd0, hd1] at c1
          rw [hd0, hd1, hvv, hlo, hhi] at c2
          rw [if_neg c1, if_neg c2, if_neg (fun w => h5 w.1)] at hE
          rw [hd0, hd1] at h1
          rw [hd0, hd1, hvv]
          exact hX _ _ ⟨_, _, _, _, _, _, none, rfl, row _ h1, Or.inr ⟨_, _, rfl, hE, fun w => absurd w hk0, fun _ => rfl⟩⟩
      by_cases hk5 : kd = 5
      · subst hk5
        rw [if_pos (show nI 5 = 5 from rfl)]
        have str : ∀ {R1 : xA} {q lt' : Nat} {o' : Option (Nat × Nat)} (x1 : Int32), rdM R0 R1 n q d0 lt' o' (upd KD ix (nI 5)) F1 F2 → (∀ o2, o2 = (if x1 < nI rules then o' else bl o' 3 d0) → ∀ R2, rdM R0 R2 n q d0 lt' o2 (upd KD ix (nI 5)) (upd F1 ix x1) (upd F2 ix (F2 ix)) → ∀ z, X [some (.ref (70 : Nat)), some (.int (nI 5)), some (.int (nI ix)), some (.int z)] [] R2) → vp_in (nI ix) 64 ∧ vp_in (nI ix) 64 ∧ (if x1 < R1 70 21 then CI mX10_want [.ref (70 : Nat), .int 1, .int 3, .int (R1 70 32)] (upA R1 91 (upd (R1 91) ix x1)) (fun x S => X [some (.ref (70 : Nat)), some (.int (nI 5)), some (.int (nI ix)), some (.int x)] [] S) else CI mX10_want [.ref (70 : Nat), .int 0, .int 3, .int (R1 70 32)] (upA R1 91 (upd (R1 91) ix x1)) (fun x S => X [some (.ref (70 : Nat)), some (.int (nI 5)), some (.int (nI ix)), some (.int x)] [] S)) := by
          intro R1 q lt' o' x1 h1 kk
          have h2 := row x1 h1
          refine ⟨hv, hv, ?_⟩
          rw [h1.2.1 21 (by decide), hru, h1.2.2.2.2.2.1]
          refine ite_i (fun w => ?_) (fun w => ?_)
          · exact y_want true 3 d0 (by omega) h2 _ (fun _ => kk _ (by rw [if_pos w]) _ h2 _) (fun z => by cases z)
          · exact y_want false 3 d0 (by omega) h2 _ (fun z => by cases z) (fun _ R3 h3 => kk _ (by rw [if_neg w]) _ h3 _)
        have er : ∀ x : Int32, (x < nI rules) = (x.toInt < (rules : Int)) := fun x => by rw [lt_I, toInt_nI (by omega)]
        refine y_tnum hn 0 999 h0 _ (fun c1 R1 h1 => ?_) (fun c1 c2 R1 v' h1 => ?_) (fun c1 c2 R1 h1 => ?_)
        · rw [hd0, hd1] at c1
          rw [if_pos c1] at hE
          rw [hd0] at h1
          refine str 0 h1 (fun o2 ho R2 h2 z => hX _ _ ⟨_, _, _, _, _, _, some z, rfl, h2, Or.inl ?_⟩)
          rw [hE, ho]
          refine ⟨?_, Nat.one_ne_zero⟩
          split <;> rfl
        · rw [hd0, hd1] at c1
          rw [hd0, hd1, hvv, show (0 : Int32).toInt = loK 5 from rfl, show (999 : Int32).toInt = hiK 5 from rfl] at c2
          rw [if_neg c1, if_pos c2] at hE
          rw [hd0] at h1
          refine str v' h1 (fun o2 ho R2 h2 z => hX _ _ ⟨_, _, _, _, _, _, some z, rfl, h2, Or.inl ?_⟩)
          rw [hE, ho]
          refine ⟨?_, (show ¬ (2 : Nat) = 0 by decide)⟩
          split <;> rfl
        · rw [hd0, hd1] at c1
          rw [hd0, hd1, hvv, show (0 : Int32).toInt = loK 5 from rfl, show (999 : Int32).toInt = hiK 5 from rfl] at c2
          rw [if_neg c1, if_neg c2] at hE
          rw [hd0, hd1] at h1
          rw [hd0, hd1, hvv]
          refine str v h1 (fun o2 ho R2 h2 z => hX _ _ ⟨_, _, _, _, _, _, some z, rfl, h2, ?_⟩)
          by_cases c3 : (rules : Int) ≤ v.toInt
          · rw [if_neg (by rw [er]; omega)] at ho
            rw [if_pos ⟨rfl, c3⟩] at hE
            exact Or.inl (by rw [hE, ho]; exact ⟨rfl, (show ¬ (3 : Nat) = 0 by decide)⟩)
          · rw [if_pos (by rw [er]; omega)] at ho
            rw [if_neg (fun w => c3 w.2)] at hE
            exact Or.inr ⟨_, _, ho, hE, fun w => absurd w hk0, fun _ => rfl⟩
      · have e5 : ¬ nI kd = 5 := by
          rw [show (5 : Int32) = nI 5 from rfl, nI_eq (by omega) (by omega)]
          exact hk5
        rw [if_neg e5]
        have hk4 : kd = 1 ∨ kd = 2 ∨ kd = 3 ∨ kd = 4 := by omega
        rcases hk4 with rfl | rfl | rfl | rfl
        · rw [if_neg (by decide), if_neg (by decide), if_neg (by decide)]
          exact num 0 99 rfl rfl (by omega)
        · rw [if_neg (by decide), if_neg (by decide), if_neg (by decide)]
          exact num 0 99 rfl rfl (by omega)
        · rw [if_neg (by decide), if_neg (by decide), if_pos (by decide)]
          exact num 0 100 rfl rfl (by omega)
        · rw [if_pos (by decide)]
          exact num 1 9 rfl rfl (by omega)
end RM
