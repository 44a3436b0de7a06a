-- rule of both: the end
set_option maxRecDepth 10000 in
set_option maxHeartbeats 4000000 in
theorem Inv_ru {S R : xA} (hI : Inv S) (h70 : ∀ j, j ∈ [0, 1, 15, 20, 41, 51] → R 70 j = S 70 j) (hf : ∀ q, q ∈ iC → q ∉ [16, 17, 18, 19, 20, 21, 22, 88, 89, 90, 91, 92] → R q = S q) (h18 : RuO R) (h19 : JTx (R 22 3) (R 23) (R 70 28) (R 93)) (h20 : R 22 6 = R 70 31) : Inv R := by
  obtain ⟨i1, i2, i3, i4, i5, i6, i7, i8, i9, i10, i11, i12, i13, i14, i15, i16, i17, i18, i19, i20, i21, i22, i23⟩ := hI
  have e : ∀ q, (decide (q ∈ iC) && !decide (q ∈ [16, 17, 18, 19, 20, 21, 22, 88, 89, 90, 91, 92])) = true → R q = S q := fun q hq => by
    rw [Bool.and_eq_true, Bool.not_eq_true', decide_eq_true_eq, decide_eq_false_iff_not] at hq
    exact hf q hq.1 hq.2
  refine ⟨?_, ?_, ?_, ?_, ?_, ?_, ?_, ?_, ?_, ?_, ?_, ?_, ?_, ?_, ?_, ?_, ?_, h18, h19, h20, ?_, ?_, ?_⟩
  · rw [e 0 (by decide), h70 0 (by decide)]; exact i1
  · rw [e 1 (by decide), h70 1 (by decide)]; exact i2
  · rw [e 1 (by decide), e 2 (by decide), e 71 (by decide)]; exact i3
  · rw [e 34 (by decide), e 72 (by decide)]; exact i4
  · rw [e 4 (by decide), e 73 (by decide)]; exact i5
  · rw [e 5 (by decide), e 74 (by decide)]; exact i6
  · rw [e 35 (by decide), e 75 (by decide)]; exact i7
  · rw [e 36 (by decide), e 76 (by decide)]; exact i8
  · rw [e 6 (by decide), e 77 (by decide)]; exact i9
  · rw [e 37 (by decide), e 78 (by decide)]; exact i10
  · rw [e 38 (by decide), e 79 (by decide)]; exact i11
  · rw [e 39 (by decide), e 80 (by decide)]; exact i12
  · rw [e 40 (by decide), e 81 (by decide)]; exact i13
  · rw [e 8 (by decide), e 82 (by decide)]; exact i14
  · rw [e 7 (by decide), e 83 (by decide)]; exact i15
  · rw [e 9 (by decide), e 10 (by decide), e 11 (by decide), e 12 (by decide), e 13 (by decide), h70 15 (by decide), e 84 (by decide), e 85 (by decide), e 86 (by decide), e 87 (by decide)]; exact i16
  · rw [h70 20 (by decide)]; exact i17
  · rw [e 26 (by decide), e 27 (by decide), e 28 (by decide), e 29 (by decide), e 30 (by decide), e 31 (by decide), e 32 (by decide), e 41 (by decide), e 42 (by decide), e 43 (by decide), h70 41 (by decide), e 97 (by decide), e 98 (by decide), e 99 (by decide), e 100 (by decide), e 101 (by decide), e 102 (by decide), e 103 (by decide), e 104 (by decide), e 105 (by decide)]; exact i21
  · rw [e 59 (by decide), e 60 (by decide), e 61 (by decide), e 62 (by decide), e 63 (by decide), e 64 (by decide), h70 51 (by decide), e 106 (by decide), e 107 (by decide), e 108 (by decide), e 109 (by decide), e 110 (by decide)]; exact i22
  · rw [e 65 (by decide), e 66 (by decide), e 111 (by decide)]; exact i23
set_option maxHeartbeats 4000000 in
theorem m_rule0 (hour : Int32) (S : xA) (f : xP) (h1 : ¬ (0 ≤ hour.toInt ∧ hour.toInt ≤ 240) → f (-1002) S) (h2 : (0 ≤ hour.toInt ∧ hour.toInt ≤ 240) → S 70 21 = 8 → f (-1004) S) (h3 : ¬ ((0 ≤ hour.toInt ∧ hour.toInt ≤ 240) ∧ ¬ S 70 21 = 8)) : CI mX10_rule [.ref (70 : Nat), .int hour] S f := by
  refine ci_of (T := mX10_rule) (fv := fun _ => True) (ls := [some (.ref (70 : Nat)), some (.int hour), none, none]) rfl (Nat.le_of_ble_eq_true rfl) (by decide) rfl rfl rfl (ok2_to cX10_rule 10 60 41 (fun _ _ => False) rfl rfl (fun _ _ h => h.elim) ?_)
  intro K hK
  simp only [sw3_c, sw3_n, Nat.reduceEqDiff, not_false_eq_true, Nat.zero_le, Nat.reduceLeDiff, Nat.reduceLT, Nat.reduceAdd, sg_s, ↓kif_0, ↓kif_c, ↓reduceIte, nl_n, nl_i, nl_r, List.length_cons, List.length_nil, true_and, and_true, upA_s, upA_n, upA_u, Prod.mk.injEq, and_self, Fr_70_21, Fr_70_22, Fr_70_23, Fr_70_30, Fr_70_32, Ld_88, Ld_89, oA_88, oA_89, oC_70, oI_70_21, oI_70_28, oI_70_29, oI_70_30, oI_70_31, oL_70, (j_iload_n_1 dX10_rule_0 (n := 1) rfl), (j_cs1i (M := mX10_rule) dX10_rule_1 (n := 4) rfl cM_10_218 (Or.inl rfl) (o := 10) rfl lv_X10_rule_X10_isHour rfl), (j_if_ne dX10_rule_4 (n := 7) rfl br_4_7), (j_sipush dX10_rule_7 (n := 10) rfl ks_m1002), (j_iret dX10_rule_10 (n := 11) rfl), (j_aload_n_0 dX10_rule_11 (n := 12) rfl), (j_getf dX10_rule_12 (n := 15) rfl cF_10_278), (j_bipush dX10_rule_15 (n := 17) rfl kb_8), (j_ic_ne dX10_rule_17 (n := 20) rfl br_17_7), (j_sipush dX10_rule_20 (n := 23) rfl ks_m1004), (j_iret dX10_rule_23 (n := 24) rfl), (j_aload_n_0 dX10_rule_24 (n := 25) rfl), (j_iconst dX10_rule_25 (n := 26) rfl ki_0), (j_putf dX10_rule_26 (n := 29) rfl cF_10_230), (j_aload_n_0 dX10_rule_29 (n := 30) rfl), (j_iconst dX10_rule_30 (n := 31) rfl ki_0), (j_putf dX10_rule_31 (n := 34) rfl cF_10_233), (j_aload_n_0 dX10_rule_34 (n := 35) rfl), (j_iconst dX10_rule_35 (n := 36) rfl ki_m1), (j_putf dX10_rule_36 (n := 39) rfl cF_10_83), (j_iconst dX10_rule_39 (n := 40) rfl ki_0), (j_istore_n_2 dX10_rule_40 (n := 41) rfl), (j_aload_n_0 dX10_rule_41 (n := 42) rfl), (j_getf dX10_rule_42 (n := 45) rfl cF_10_233), (j_if_ne dX10_rule_45 (n := 48) rfl br_45_83), (j_aload_n_0 dX10_rule_48 (n := 49) rfl), (j_cv0i (M := mX10_rule) dX10_rule_49 (n := 52) rfl cM_10_236 (Or.inl rfl) lv_X10_rule_X10_here rfl (oc := 10) rfl), (j_if_lt dX10_rule_52 (n := 55) rfl br_52_76), (j_aload_n_0 dX10_rule_55 (n := 56) rfl), (j_cv0v (M := mX10_rule) dX10_rule_56 (n := 59) rfl cM_10_262 (Or.inl rfl) lv_X10_rule_X10_takeWord rfl (oc := 10) rfl), (j_aload_n_0 dX10_rule_59 (n := 60) rfl), (j_cv0i (M := mX10_rule) dX10_rule_60 (n := 63) rfl cM_10_281 (Or.inl rfl) lv_X10_rule_X10_clauseOf rfl (oc := 10) rfl), (j_istore_n_3 dX10_rule_63 (n := 64) rfl), (j_aload_n_0 dX10_rule_64 (n := 65) rfl), (j_iload_n_3 dX10_rule_65 (n := 66) rfl), (j_if_lt dX10_rule_66 (n := 69) rfl br_66_7), (j_iconst dX10_rule_69 (n := 70) rfl ki_1), (j_goto dX10_rule_70 (n := 73) rfl br_70_4), (j_iconst dX10_rule_73 (n := 74) rfl ki_0), (j_iconst dX10_rule_74 (n := 75) rfl ki_1), (j_aload_n_0 dX10_rule_75 (n := 76) rfl), (j_getf dX10_rule_76 (n := 79) rfl cF_10_240), (j_cv3i (M := mX10_rule) dX10_rule_79 (n := 82) rfl cM_10_254 (Or.inl rfl) lv_X10_rule_X10_want rfl (oc := 10) rfl), (j_if_eq dX10_rule_82 (n := 85) rfl br_82_43), (j_aload_n_0 dX10_rule_85 (n := 86) rfl), (j_iload_n_2 dX10_rule_86 (n := 87) rfl), (j_bipush dX10_rule_87 (n := 89) rfl kb_8), (j_ic_ge dX10_rule_89 (n := 92) rfl br_89_7), (j_iconst dX10_rule_92 (n := 93) rfl ki_1), (j_goto dX10_rule_93 (n := 96) rfl br_93_4), (j_iconst dX10_rule_96 (n := 97) rfl ki_0), (j_iconst dX10_rule_97 (n := 98) rfl ki_5), (j_aload_n_0 dX10_rule_98 (n := 99) rfl), (j_getf dX10_rule_99 (n := 102) rfl cF_10_240), (j_cv3i (M := mX10_rule) dX10_rule_102 (n := 105) rfl cM_10_254 (Or.inl rfl) lv_X10_rule_X10_want rfl (oc := 10) rfl), (j_if_eq dX10_rule_105 (n := 108) rfl br_105_20), (j_aload_n_0 dX10_rule_108 (n := 109) rfl), (j_iload_n_3 dX10_rule_109 (n := 110) rfl), (j_bipush dX10_rule_110 (n := 112) rfl kb_8), (j_aload_n_0 dX10_rule_112 (n := 113) rfl), (j_getf dX10_rule_113 (n := 116) rfl cF_10_278), (j_imul dX10_rule_116 (n := 117) rfl), (j_iload_n_2 dX10_rule_117 (n := 118) rfl), (j_iadd dX10_rule_118 (n := 119) rfl), (j_cv2v (M := mX10_rule) dX10_rule_119 (n := 122) rfl cM_10_284 (Or.inl rfl) lv_X10_rule_X10_readClause rfl (oc := 10) rfl), (j_iinc_2 dX10_rule_122 (n := 125) rfl ki_1), (j_goto dX10_rule_125 (n := 128) rfl br_125_m84), (j_aload_n_0 dX10_rule_128 (n := 129) rfl), (j_iconst dX10_rule_129 (n := 130) rfl ki_0), (j_putf dX10_rule_130 (n := 133) rfl cF_10_225), (j_aload_n_0 dX10_rule_133 (n := 134) rfl), (j_getf dX10_rule_134 (n := 137) rfl cF_10_233), (j_if_le dX10_rule_137 (n := 140) rfl br_137_11), (j_bipush dX10_rule_140 (n := 142) rfl kb_m10), (j_aload_n_0 dX10_rule_142 (n := 143) rfl), (j_getf dX10_rule_143 (n := 146) rfl cF_10_233), (j_isub dX10_rule_146 (n := 147) rfl), (j_iret dX10_rule_147 (n := 148) rfl), (j_aload_n_0 dX10_rule_148 (n := 149) rfl), (j_getf dX10_rule_149 (n := 152) rfl cF_10_68), (j_aload_n_0 dX10_rule_152 (n := 153) rfl), (j_getf dX10_rule_153 (n := 156) rfl cF_10_278), (j_iload_n_2 dX10_rule_156 (n := 157) rfl), (j_iast dX10_rule_157 (n := 158) rfl), (j_aload_n_0 dX10_rule_158 (n := 159) rfl), (j_getf dX10_rule_159 (n := 162) rfl cF_10_65), (j_aload_n_0 dX10_rule_162 (n := 163) rfl), (j_getf dX10_rule_163 (n := 166) rfl cF_10_278), (j_iload_n_1 dX10_rule_166 (n := 167) rfl), (j_iast dX10_rule_167 (n := 168) rfl), (j_aload_n_0 dX10_rule_168 (n := 169) rfl), (j_dup_i dX10_rule_169 (n := 170) rfl), (j_dup_r dX10_rule_169 (n := 170) rfl), (j_getf dX10_rule_170 (n := 173) rfl cF_10_278), (j_iconst dX10_rule_173 (n := 174) rfl ki_1), (j_iadd dX10_rule_174 (n := 175) rfl), (j_putf dX10_rule_175 (n := 178) rfl cF_10_278), (j_aload_n_0 dX10_rule_178 (n := 179) rfl), (j_getf dX10_rule_179 (n := 182) rfl cF_10_278), (j_iconst dX10_rule_182 (n := 183) rfl ki_1), (j_isub dX10_rule_183 (n := 184) rfl), (j_iret dX10_rule_184 (n := 185) rfl), rOk_i (M := mX10_rule) rfl, nl_x, pk_us]
  refine c_isHour _ _ _ ?_
  refine ite_b (fun q => h1 (decide_eq_false_iff_not.mp q)) (fun q => ?_)
  rw [decide_eq_true_eq] at q
  refine ite_i (fun q2 => h2 q q2) (fun q2 => absurd ⟨q, q2⟩ h3)
theorem JTx_0 {b b' : Nat → Int32} : JTx 0 b 0 b' := ⟨⟨rfl, by rw [ti_0]; omega, by rw [ti_0]; omega⟩, fun i hi => absurd hi (Nat.not_lt_zero i)⟩
set_option maxRecDepth 10000 in
set_option maxHeartbeats 4000000 in
theorem t_rule (S : xA) (hI : Inv S) (hour : Int32) : Both mX9_rule mX10_rule [.int hour] S := by
  have hR := Inv_Ru hI
  obtain ⟨r1, r2, r3, r4, r5, r6⟩ := RuO_c hR
  have h19 := hI.2.2.2.2.2.2.2.2.2.2.2.2.2.2.2.2.2.2.1
  obtain ⟨t1, t2, t3⟩ := JN_c h19.1
  have t4 := h19.2
  have j18 := hR
  generalize hr : (S 16 5).toNatClampNeg = r at r1 r2 r3 r4 r5 r6
  generalize hn : (S 22 3).toNatClampNeg = n at t1 t2 t3 t4
  have hn160 : n ≤ 160 := by omega
  show CI mX9_rule _ _ _
  refine ci_of (T := mX9_rule) (fv := fun _ => True) (ls := [some (.ref (0 : Nat)), some (.int hour)]) rfl (Nat.le_of_ble_eq_true rfl) (by decide) rfl rfl rfl (ok2_0 cX9_rule 9 60 rfl rfl ?_)
  simp only [sw3_c, sw3_n, Nat.reduceEqDiff, not_false_eq_true, Nat.zero_le, Nat.reduceLeDiff, Nat.reduceLT, Nat.reduceAdd, sg_s, ↓kif_0, ↓kif_c, ↓reduceIte, nl_n, nl_i, nl_r, List.length_cons, List.length_nil, true_and, and_true, upA_s, upA_n, upA_u, Prod.mk.injEq, and_self, Fr_0_3, Fr_0_4, Fr_16_5, Fr_22_5, oC_16, oC_22, oL_0, oL_16, oL_22, (j_iload_n_1 dX9_rule_0 (n := 1) rfl), (j_iconst dX9_rule_1 (n := 2) rfl ki_0), (j_sipush dX9_rule_2 (n := 5) rfl ks_240), (j_cs3i (M := mX9_rule) dX9_rule_5 (n := 8) rfl cM_9_91 (Or.inl rfl) (o := 9) rfl lv_X9_rule_X9_beyond rfl), (j_if_eq dX9_rule_8 (n := 11) rfl br_8_7), (j_sipush dX9_rule_11 (n := 14) rfl ks_m1002), (j_iret dX9_rule_14 (n := 15) rfl), (j_aload_n_0 dX9_rule_15 (n := 16) rfl), (j_getf dX9_rule_16 (n := 19) rfl cF_9_35), (j_getf dX9_rule_19 (n := 22) rfl cF_9_156), (j_bipush dX9_rule_22 (n := 24) rfl kb_8), (j_ic_lt dX9_rule_24 (n := 27) rfl br_24_7), (j_sipush dX9_rule_27 (n := 30) rfl ks_m1004), (j_iret dX9_rule_30 (n := 31) rfl), (j_aload_n_0 dX9_rule_31 (n := 32) rfl), (j_getf dX9_rule_32 (n := 35) rfl cF_9_42), (j_aload_n_0 dX9_rule_35 (n := 36) rfl), (j_getf dX9_rule_36 (n := 39) rfl cF_9_35), (j_getf dX9_rule_39 (n := 42) rfl cF_9_156), (j_cv1v (M := mX9_rule) dX9_rule_42 (n := 45) rfl cM_9_197 (Or.inl rfl) lv_X9_rule_X7_read rfl (oc := 7) rfl), (j_aload_n_0 dX9_rule_45 (n := 46) rfl), (j_getf dX9_rule_46 (n := 49) rfl cF_9_42), (j_getf dX9_rule_49 (n := 52) rfl cF_9_201), (j_if_ne dX9_rule_52 (n := 55) rfl br_52_18), (j_aload_n_0 dX9_rule_55 (n := 56) rfl), (j_getf dX9_rule_56 (n := 59) rfl cF_9_35), (j_iload_n_1 dX9_rule_59 (n := 60) rfl), (j_aload_n_0 dX9_rule_60 (n := 61) rfl), (j_getf dX9_rule_61 (n := 64) rfl cF_9_42), (j_cv2i (M := mX9_rule) dX9_rule_64 (n := 67) rfl cM_9_204 (Or.inl rfl) lv_X9_rule_X8_enact rfl (oc := 8) rfl), (j_goto dX9_rule_67 (n := 70) rfl br_67_13), (j_bipush dX9_rule_70 (n := 72) rfl kb_m10), (j_aload_n_0 dX9_rule_72 (n := 73) rfl), (j_getf dX9_rule_73 (n := 76) rfl cF_9_42), (j_getf dX9_rule_76 (n := 79) rfl cF_9_201), (j_isub dX9_rule_79 (n := 80) rfl), (j_iret dX9_rule_80 (n := 81) rfl), rOk_i (M := mX9_rule) rfl]
  refine c_beyond _ _ _ _ _ ?_
  simp only [ti_0, ti_240]
  refine ite_b (fun h1 => ?_) (fun h1 => ?_)
  · rw [decide_eq_false_iff_not] at h1
    have hh : 0 ≤ hour.toInt ∧ hour.toInt ≤ 240 := by omega
    rw [r1]
    refine ite_i (fun h2 => ?_) (fun h2 => ?_)
    · have hr8 : r < 8 := by
        rw [show (8 : Int32) = nI 8 from rfl, nI_ltN (by omega) (by omega)] at h2
        exact h2
      refine x_read n r S _ hn160 (by omega) t1 (fun S1 c hP => ?_)
      obtain ⟨ht, hc8, f1, e3, hok, hfl⟩ := hP
      have eqb : ∀ i, i < n → S 23 i = S 93 i := fun i hi => (t4 i hi).1
      have hb : ∀ {R : xA}, R 93 = S 93 → ∀ i, i < n → 0 ≤ (R 93 i).toInt := fun e i hi => by rw [e, ← eqb i hi]; exact (t4 i hi).2.1
      by_cases hen : enE (S 23) n r c
      · obtain ⟨hf0, e4, hKV⟩ := hok hen
        simp only [hf0.1]
        rw [if_pos trivial]
        refine x_enact hour r c S1 _ hr8 hc8 (by rw [f1 16 (by decide)]; exact r1) e4 (by rw [f1 17 (by decide), f1 19 (by decide)]; exact r5) (fun S2 g1 g5 g17 g18 g20 g21 gs => ?_)
        have eS : ∀ q, q ∉ [16, 17, 18, 19, 20, 21, 22, 24, 25] → S2 q = S q := fun q hq => by rw [g1 q (fun w => hq (by revert w; clear hq; revert q; decide)), f1 q (fun w => hq (by revert w; clear hq; revert q; decide))]
        refine y_rule hour n r S2 _ hn160 hr8 hh (by rw [eS 70 (by decide)]; exact r2) (by rw [eS 70 (by decide)]; exact t2) (hb (eS 93 (by decide))) (fun R' c' rr hQ => ?_)
        obtain ⟨u1, u2, u3, u4, u5, u6, u7, u8⟩ := hQ
        rw [eS 93 (by decide)] at u1 u7 u8
        have ec : c = c' := toE_u (toE_c eqb ht) u1
        subst ec
        have hen' : enE (S 93) n r c := enE_c eqb c ▸ hen
        obtain ⟨v1, v2, v3, v4, v5, v6⟩ := u7 hen'
        refine ⟨v1.symm, ?_⟩
        have cR : ∀ q, q ∉ [70, 88, 89, 90, 91, 92] → R' q = S2 q := fun q hq => u3 q hq
        refine Inv_ru hI (fun j hj => ?_) (fun q q1 q2 => ?_) ?_ ?_ ?_
        · rw [u4 j (by revert hj; revert j; decide), eS 70 (by decide)]
        · rw [cR q (fun w => q2 (by revert w q1; clear q2; revert q; decide)), eS q (fun w => q2 (by revert w q1; clear q2; revert q; decide))]
        · have e5 : R' 16 5 = nI (r + 1) := by rw [cR 16 (by decide)]; exact g5
          have ecl : (R' 16 5).toNatClampNeg = r + 1 := by rw [e5, nI_clamp (by omega)]
          refine ⟨⟨by rw [e5, v3], by rw [e5, toInt_nI (by omega)]; omega, by rw [e5, toInt_nI (by omega)]; omega⟩, ?_, ?_, ?_, ?_⟩
          · rw [ecl, cR 17 (by decide), g17, f1 17 (by decide), v4, eS 88 (by decide)]
            intro i hi
            rw [upd_t, upd_t]
            by_cases z : i = r
            · rw [if_pos z, if_pos z]; exact ⟨rfl, hh⟩
            · rw [if_neg z, if_neg z]; exact j18.2.1 i (by rw [hr]; omega)
          · rw [ecl, cR 18 (by decide), g18, f1 18 (by decide), v5, eS 89 (by decide)]
            intro i hi
            rw [upd_t, upd_t]
            by_cases z : i = r
            · rw [if_pos z, if_pos z]; exact ⟨rfl, by rw [toInt_nI (by omega)]; omega, by rw [toInt_nI (by omega)]; omega⟩
            · rw [if_neg z, if_neg z]; exact j18.2.2.1 i (by rw [hr]; omega)
          · rw [ecl, cR 17 (by decide), cR 19 (by decide)]
            exact gs
          · rw [ecl, cR 18 (by decide), g18, f1 18 (by decide), cR 20 (by decide), cR 21 (by decide)]
            intro i q hi hq
            rw [upd_t] at hq
            by_cases z : i = r
            · rw [if_pos z, nI_clamp (by omega)] at hq
              subst z
              rw [g20, g21, if_pos (by omega), if_pos (by omega), Nat.add_sub_cancel_left, (hKV q hq).1, (hKV q hq).2, rsE_c eqb]
              exact v6 q hq
            · rw [if_neg z] at hq
              have sz := r6 i (by omega)
              have sc := cl_eq sz.1
              obtain ⟨w1, w2, w3⟩ := u6 (8 * i + q) (by omega)
              rw [g20, g21, if_neg (by omega), if_neg (by omega), f1 20 (by decide), f1 21 (by decide), w1, w2, w3, eS 90 (by decide), eS 91 (by decide), eS 92 (by decide)]
              exact r4 i q (by omega) hq
        · rw [cR 22 (by decide), u5, g1 22 (by decide), e3]
          exact JTx_0
        · rw [cR 22 (by decide), g1 22 (by decide), v2]
          exact hf0.2
      · have hff := hfl hen
        have b5 : S1 22 5 = nI (rsE (S 23) n r c).1 := hff.1
        have b6 : S1 22 6 = nI (rsE (S 23) n r c).2.1 := hff.2.1
        have bl1 : 1 ≤ (rsE (S 23) n r c).1 := hff.2.2.1
        have bl2 : (rsE (S 23) n r c).1 ≤ 5 := hff.2.2.2
        simp only [b5]
        rw [if_neg (nI_ne0 (by omega) (by omega))]
        refine y_rule hour n r S1 _ hn160 hr8 hh (by rw [f1 70 (by decide)]; exact r2) (by rw [f1 70 (by decide)]; exact t2) (hb (f1 93 (by decide))) (fun R' c' rr hQ => ?_)
        obtain ⟨u1, u2, u3, u4, u5, u6, u7, u8⟩ := hQ
        rw [f1 93 (by decide)] at u1 u7 u8
        have ec : c = c' := toE_u (toE_c eqb ht) u1
        subst ec
        have hen' : ¬ enE (S 93) n r c := enE_c eqb c ▸ hen
        obtain ⟨v1, v2, v3, v4, v5⟩ := u8 hen'
        refine ⟨by rw [v1, rsE_c eqb], ?_⟩
        have cR : ∀ q, q ∉ [70, 88, 89, 90, 91, 92] → R' q = S1 q := fun q hq => u3 q hq
        refine Inv_ru hI (fun j hj => ?_) (fun q q1 q2 => ?_) ?_ ?_ ?_
        · rw [u4 j (by revert hj; revert j; decide), f1 70 (by decide)]
        · rw [cR q (fun w => q2 (by revert w q1; clear q2; revert q; decide)), f1 q (fun w => q2 (by revert w q1; clear q2; revert q; decide))]
        · have e5 : R' 16 = S 16 := by rw [cR 16 (by decide), f1 16 (by decide)]
          unfold RuO
          rw [e5, v3, v4, v5, cR 17 (by decide), cR 18 (by decide), cR 19 (by decide), cR 20 (by decide), cR 21 (by decide), f1 17 (by decide), f1 18 (by decide), f1 19 (by decide), f1 20 (by decide), f1 21 (by decide), f1 70 (by decide), f1 88 (by decide), f1 89 (by decide)]
          refine ⟨j18.1, j18.2.1, j18.2.2.1, j18.2.2.2.1, ?_⟩
          intro i q hi hq
          rw [hr] at hi
          have sz := r6 i hi
          have sc := cl_eq sz.1
          obtain ⟨w1, w2, w3⟩ := u6 (8 * i + q) (by omega)
          rw [w1, w2, w3, f1 90 (by decide), f1 91 (by decide), f1 92 (by decide)]
          exact r4 i q hi hq
        · rw [cR 22 (by decide), u5, e3]
          exact JTx_0
        · rw [cR 22 (by decide), v2, b6, rsE_c eqb]
    · have h8 : r = 8 := by
        rw [show (8 : Int32) = nI 8 from rfl, nI_ltN (by omega) (by omega)] at h2
        omega
      refine m_rule0 hour S _ (fun q => absurd hh q) (fun _ _ => g3_rf hI) (fun q => q.2 (by rw [r2, h8]; rfl))
  · rw [decide_eq_true_eq] at h1
    refine m_rule0 hour S _ (fun _ => g3_rf hI) (fun q => absurd q (by omega)) (fun q => by have := q.1; omega)
