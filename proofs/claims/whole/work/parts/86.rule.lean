-- rule of both
/-- what the reference's rule leaves, by the number c of its clauses (or of the faulty one) -/
def ruP (R R' : xA) (n rules c : Nat) (hour : Int32) (r : Int32) : Prop := toE (R 93) n rules c ∧ c ≤ 8 ∧ frm [70, 88, 89, 90, 91, 92] R R' ∧ (∀ j, j ∉ [21, 28, 29, 30, 31, 32, 33] → R' 70 j = R 70 j) ∧ R' 70 28 = 0 ∧ (∀ i, i < 8 * rules → R' 90 i = R 90 i ∧ R' 91 i = R 91 i ∧ R' 92 i = R 92 i) ∧
  (enE (R 93) n rules c → r = nI rules ∧ R' 70 31 = -1 ∧ R' 70 21 = nI (rules + 1) ∧ R' 88 = upd (R 88) rules hour ∧ R' 89 = upd (R 89) rules (nI c) ∧ ∀ i, i < c → clR (rsE (R 93) n rules i).2.2.1 (rsE (R 93) n rules i).2.2.2.1 (R' 90 (8 * rules + i)) (R' 91 (8 * rules + i)) (R' 92 (8 * rules + i)) rules) ∧
  (¬ enE (R 93) n rules c → r = -10 - nI (rsE (R 93) n rules c).1 ∧ R' 70 31 = nI (rsE (R 93) n rules c).2.1 ∧ R' 70 21 = R 70 21 ∧ R' 88 = R 88 ∧ R' 89 = R 89)
set_option maxRecDepth 10000 in
set_option maxHeartbeats 8000000 in
theorem y_rule (hour : Int32) (n rules : Nat) (R : xA) (f : xP) (hn : n ≤ 160) (hr : rules < 8) (hh : 0 ≤ hour.toInt ∧ hour.toInt ≤ 240) (h21 : R 70 21 = nI rules) (h28 : R 70 28 = nI n) (hb : ∀ i, i < n → 0 ≤ (R 93 i).toInt) (h : ∀ R' c r, ruP R R' n rules c hour r → f r R') : CI mX10_rule [.ref (70 : Nat), .int hour] R f := by
  have k8 : (8 : Int32) = nI 8 := rfl
  have hv : vp_in (nI rules) 8 := vp_in_nI (by omega) (by omega)
  refine ci_of (T := mX10_rule) (fv := fun _ => True) (ls := [some (.ref (70 : Nat)), some (.int hour), none, none]) rfl (Nat.le_of_ble_eq_true rfl) (by decide) rfl rfl rfl ?_
  refine ok2_to cX10_rule 10 60 41 (fun ls R1 => ls = [some (.ref (70 : Nat)), some (.int hour), some (.int (nI 0)), lx none] ∧ ∃ fr lt, rdM R R1 n 0 fr lt none (R 90) (R 91) (R 92)) rfl rfl ?_ ?_
  · rintro ls R1 ⟨hls, fr0, lt0, h0⟩
    refine ok2_inv cX10_rule 10 90 41 (fun m ls R' => ∃ (c : Nat) (x : Option Int32) (p fr lt : Nat) (o : Option (Nat × Nat)) (KD F1 F2 : Nat → Int32), ls = [some (.ref (70 : Nat)), some (.int hour), some (.int (nI c)), lx x] ∧ rdM R R' n p fr lt o KD F1 F2 ∧ (∀ i, i < 8 * rules → KD i = R 90 i ∧ F1 i = R 91 i ∧ F2 i = R 92 i) ∧ ((c ≤ 8 ∧ m = 10 - c ∧ o = none ∧ p = psE (R 93) n rules c ∧ (∀ i, i < c → ¬ enE (R 93) n rules i ∧ (rsE (R 93) n rules i).1 = 0) ∧ ∀ i, i < c → clR (rsE (R 93) n rules i).2.2.1 (rsE (R 93) n rules i).2.2.2.1 (KD (8 * rules + i)) (F1 (8 * rules + i)) (F2 (8 * rules + i)) rules) ∨ (m = 0 ∧ ∃ c0, c0 ≤ 8 ∧ toE (R 93) n rules c0 ∧ ¬ enE (R 93) n rules c0 ∧ ¬ (rsE (R 93) n rules c0).1 = 0 ∧ o = some ((rsE (R 93) n rules c0).1, (rsE (R 93) n rules c0).2.1)))) rfl rfl ?_ 10 ls R1 ⟨0, none, 0, fr0, lt0, none, _, _, _, hls, h0, fun i hi => ⟨rfl, rfl, rfl⟩, Or.inl ⟨by omega, rfl, rfl, rfl, fun i hi => by omega, fun i hi => by omega⟩⟩
    rintro m _ R2 ⟨c, x, p, fr, lt, o, KD, F1, F2, rfl, h2, hrow, hcase⟩ X hX
    have e30 := fltM_0 h2.2.2.2.2.2.2.2.1
    simp only [sw3_c, sw3_n, Nat.reduceEqDiff, not_false_eq_true, Nat.zero_le, Nat.reduceLeDiff, Nat.reduceLT, Nat.reduceAdd, sg_s, ↓kif_0, ↓kif_c, ↓reduceIte, nl_n, nl_i, nl_r, List.length_cons, List.length_nil, true_and, and_true, upA_s, upA_n, upA_u, Prod.mk.injEq, and_self, Fr_70_21, Fr_70_22, Fr_70_23, Fr_70_30, Fr_70_32, Ld_88, Ld_89, oA_88, oA_89, oC_70, oI_70_21, oI_70_28, oI_70_29, oI_70_30, oI_70_31, oL_70, (j_iload_n_1 dX10_rule_0 (n := 1) rfl), (j_cs1i (M := mX10_rule) dX10_rule_1 (n := 4) rfl cM_10_218 (Or.inl rfl) (o := 10) rfl lv_X10_rule_X10_isHour rfl), (j_if_ne dX10_rule_4 (n := 7) rfl br_4_7), (j_sipush dX10_rule_7 (n := 10) rfl ks_m1002), (j_iret dX10_rule_10 (n := 11) rfl), (j_aload_n_0 dX10_rule_11 (n := 12) rfl), (j_getf dX10_rule_12 (n := 15) rfl cF_10_278), (j_bipush dX10_rule_15 (n := 17) rfl kb_8), (j_ic_ne dX10_rule_17 (n := 20) rfl br_17_7), (j_sipush dX10_rule_20 (n := 23) rfl ks_m1004), (j_iret dX10_rule_23 (n := 24) rfl), (j_aload_n_0 dX10_rule_24 (n := 25) rfl), (j_iconst dX10_rule_25 (n := 26) rfl ki_0), (j_putf dX10_rule_26 (n := 29) rfl cF_10_230), (j_aload_n_0 dX10_rule_29 (n := 30) rfl), (j_iconst dX10_rule_30 (n := 31) rfl ki_0), (j_putf dX10_rule_31 (n := 34) rfl cF_10_233), (j_aload_n_0 dX10_rule_34 (n := 35) rfl), (j_iconst dX10_rule_35 (n := 36) rfl ki_m1), (j_putf dX10_rule_36 (n := 39) rfl cF_10_83), (j_iconst dX10_rule_39 (n := 40) rfl ki_0), (j_istore_n_2 dX10_rule_40 (n := 41) rfl), (j_aload_n_0 dX10_rule_41 (n := 42) rfl), (j_getf dX10_rule_42 (n := 45) rfl cF_10_233), (j_if_ne dX10_rule_45 (n := 48) rfl br_45_83), (j_aload_n_0 dX10_rule_48 (n := 49) rfl), (j_cv0i (M := mX10_rule) dX10_rule_49 (n := 52) rfl cM_10_236 (Or.inl rfl) lv_X10_rule_X10_here rfl (oc := 10) rfl), (j_if_lt dX10_rule_52 (n := 55) rfl br_52_76), (j_aload_n_0 dX10_rule_55 (n := 56) rfl), (j_cv0v (M := mX10_rule) dX10_rule_56 (n := 59) rfl cM_10_262 (Or.inl rfl) lv_X10_rule_X10_takeWord rfl (oc := 10) rfl), (j_aload_n_0 dX10_rule_59 (n := 60) rfl), (j_cv0i (M := mX10_rule) dX10_rule_60 (n := 63) rfl cM_10_281 (Or.inl rfl) lv_X10_rule_X10_clauseOf rfl (oc := 10) rfl), (j_istore_n_3 dX10_rule_63 (n := 64) rfl), (j_aload_n_0 dX10_rule_64 (n := 65) rfl), (j_iload_n_3 dX10_rule_65 (n := 66) rfl), (j_if_lt dX10_rule_66 (n := 69) rfl br_66_7), (j_iconst dX10_rule_69 (n := 70) rfl ki_1), (j_goto dX10_rule_70 (n := 73) rfl br_70_4), (j_iconst dX10_rule_73 (n := 74) rfl ki_0), (j_iconst dX10_rule_74 (n := 75) rfl ki_1), (j_aload_n_0 dX10_rule_75 (n := 76) rfl), (j_getf dX10_rule_76 (n := 79) rfl cF_10_240), (j_cv3i (M := mX10_rule) dX10_rule_79 (n := 82) rfl cM_10_254 (Or.inl rfl) lv_X10_rule_X10_want rfl (oc := 10) rfl), (j_if_eq dX10_rule_82 (n := 85) rfl br_82_43), (j_aload_n_0 dX10_rule_85 (n := 86) rfl), (j_iload_n_2 dX10_rule_86 (n := 87) rfl), (j_bipush dX10_rule_87 (n := 89) rfl kb_8), (j_ic_ge dX10_rule_89 (n := 92) rfl br_89_7), (j_iconst dX10_rule_92 (n := 93) rfl ki_1), (j_goto dX10_rule_93 (n := 96) rfl br_93_4), (j_iconst dX10_rule_96 (n := 97) rfl ki_0), (j_iconst dX10_rule_97 (n := 98) rfl ki_5), (j_aload_n_0 dX10_rule_98 (n := 99) rfl), (j_getf dX10_rule_99 (n := 102) rfl cF_10_240), (j_cv3i (M := mX10_rule) dX10_rule_102 (n := 105) rfl cM_10_254 (Or.inl rfl) lv_X10_rule_X10_want rfl (oc := 10) rfl), (j_if_eq dX10_rule_105 (n := 108) rfl br_105_20), (j_aload_n_0 dX10_rule_108 (n := 109) rfl), (j_iload_n_3 dX10_rule_109 (n := 110) rfl), (j_bipush dX10_rule_110 (n := 112) rfl kb_8), (j_aload_n_0 dX10_rule_112 (n := 113) rfl), (j_getf dX10_rule_113 (n := 116) rfl cF_10_278), (j_imul dX10_rule_116 (n := 117) rfl), (j_iload_n_2 dX10_rule_117 (n := 118) rfl), (j_iadd dX10_rule_118 (n := 119) rfl), (j_cv2v (M := mX10_rule) dX10_rule_119 (n := 122) rfl cM_10_284 (Or.inl rfl) lv_X10_rule_X10_readClause rfl (oc := 10) rfl), (j_iinc_2 dX10_rule_122 (n := 125) rfl ki_1), (j_goto dX10_rule_125 (n := 128) rfl br_125_m84), (j_aload_n_0 dX10_rule_128 (n := 129) rfl), (j_iconst dX10_rule_129 (n := 130) rfl ki_0), (j_putf dX10_rule_130 (n := 133) rfl cF_10_225), (j_aload_n_0 dX10_rule_133 (n := 134) rfl), (j_getf dX10_rule_134 (n := 137) rfl cF_10_233), (j_if_le dX10_rule_137 (n := 140) rfl br_137_11), (j_bipush dX10_rule_140 (n := 142) rfl kb_m10), (j_aload_n_0 dX10_rule_142 (n := 143) rfl), (j_getf dX10_rule_143 (n := 146) rfl cF_10_233), (j_isub dX10_rule_146 (n := 147) rfl), (j_iret dX10_rule_147 (n := 148) rfl), (j_aload_n_0 dX10_rule_148 (n := 149) rfl), (j_getf dX10_rule_149 (n := 152) rfl cF_10_68), (j_aload_n_0 dX10_rule_152 (n := 153) rfl), (j_getf dX10_rule_153 (n := 156) rfl cF_10_278), (j_iload_n_2 dX10_rule_156 (n := 157) rfl), (j_iast dX10_rule_157 (n := 158) rfl), (j_aload_n_0 dX10_rule_158 (n := 159) rfl), (j_getf dX10_rule_159 (n := 162) rfl cF_10_65), (j_aload_n_0 dX10_rule_162 (n := 163) rfl), (j_getf dX10_rule_163 (n := 166) rfl cF_10_278), (j_iload_n_1 dX10_rule_166 (n := 167) rfl), (j_iast dX10_rule_167 (n := 168) rfl), (j_aload_n_0 dX10_rule_168 (n := 169) rfl), (j_dup_i dX10_rule_169 (n := 170) rfl), (j_dup_r dX10_rule_169 (n := 170) rfl), (j_getf dX10_rule_170 (n := 173) rfl cF_10_278), (j_iconst dX10_rule_173 (n := 174) rfl ki_1), (j_iadd dX10_rule_174 (n := 175) rfl), (j_putf dX10_rule_175 (n := 178) rfl cF_10_278), (j_aload_n_0 dX10_rule_178 (n := 179) rfl), (j_getf dX10_rule_179 (n := 182) rfl cF_10_278), (j_iconst dX10_rule_182 (n := 183) rfl ki_1), (j_isub dX10_rule_183 (n := 184) rfl), (j_iret dX10_rule_184 (n := 185) rfl), rOk_i (M := mX10_rule) rfl, nl_x, pk_us]
    rcases hcase with ⟨hc8, rfl, rfl, rfl, hok, hcl⟩ | ⟨rfl, c0, hc0, ht, hne, hf, rfl⟩
    · have l0 := psE_p (b := R 93) (n := n) (rules := rules) c
      have l1 := sk_le (b := R 93) l0
      have l2 := wd_le (b := R 93) l1.2
      rw [if_pos (e30.symm ▸ rfl)]
      refine y_here hn h2 _ (fun R3 h3 => ?_)
      by_cases hen : sk (R 93) n (psE (R 93) n rules c) < n
      · have hne : ¬ enE (R 93) n rules c := fun w => w hen
        rw [if_neg (by unfold hrV; rw [if_pos hen, lt_I, ti_0]; have := hb _ hen; omega)]
        refine y_tword hn h3 _ (fun R4 h4 => y_clOf hn h4 (by rw [sk_sk l0]; omega) _ ?_)
        rw [sk_sk l0] at h4 ⊢
        rw [show sk (R 93) n (psE (R 93) n rules c) + (wd (R 93) n (sk (R 93) n (psE (R 93) n rules c)) - sk (R 93) n (psE (R 93) n rules c)) = wd (R 93) n (sk (R 93) n (psE (R 93) n rules c)) by omega, h4.2.2.2.2.2.1]
        have eE : rsE (R 93) n rules c = cuE (R 93) n rules c (psE (R 93) n rules c) := rfl
        have dead : ∀ {R5 : xA} {p' fr' lt' : Nat} {x y : Nat} {KD' F1' F2' : Nat → Int32}, rdM R R5 n p' fr' lt' (some (x, y)) KD' F1' F2' → (∀ i, i < 8 * rules → KD' i = R 90 i ∧ F1' i = R 91 i ∧ F2' i = R 92 i) → (rsE (R 93) n rules c).1 = x → (rsE (R 93) n rules c).2.1 = y → ¬ x = 0 → ∀ c' z, X [some (.ref (70 : Nat)), some (.int hour), some (.int (nI c')), some (.int z)] [] R5 := by
          intro R5 p' fr' lt' x y KD' F1' F2' h5 hr5 ex ey hx0 c' z
          refine hX 0 _ _ (by omega) ⟨c', some z, p', fr', lt', _, KD', F1', F2', rfl, h5, hr5, Or.inr ⟨rfl, c, hc8, ⟨hok, Or.inr (by rw [ex]; exact hx0)⟩, hne, by rw [ex]; exact hx0, by rw [ex, ey]⟩⟩
        cases hk : kwO (R 93) (sk (R 93) n (psE (R 93) n rules c)) (wd (R 93) n (sk (R 93) n (psE (R 93) n rules c))) with
        | none =>
          have eE2 : rsE (R 93) n rules c = (1, sk (R 93) n (psE (R 93) n rules c), 0, 0, 0) := by
            rw [eE]
            unfold cuE
            rw [hk]
          rw [oN_n, if_pos (by decide)]
          refine y_want false 1 _ (by omega) h4 _ (fun z => by cases z) (fun _ R5 h5 => ?_)
          rw [if_pos rfl]
          exact dead h5 hrow (by rw [eE2]) (by rw [eE2]) (by decide) _ _
        | some kd =>
          have k5 := kwO_lt hk
          rw [oN_s, if_neg (show ¬ nI kd < 0 from nI_pos (by omega))]
          refine y_want true 1 _ (by omega) h4 _ (fun _ => ?_) (fun z => by cases z)
          rw [decide_eq_true rfl, if_neg (show ¬ bI true = 0 by decide)]
          have e8 : (nI c < (8 : Int32)) = (c < 8) := by rw [k8, nI_ltN (by omega) (by omega)]
          simp only [e8, h4.2.2.2.2.2.1]
          refine ite_i (fun q8 => ?_) (fun q8 => ?_)
          · refine y_want true 5 _ (by omega) h4 _ (fun _ => ?_) (fun z => by cases z)
            rw [decide_eq_true rfl, if_neg (show ¬ bI true = 0 by decide), h4.2.1 21 (by decide), h21]
            have ei : 8 * nI rules + nI c = nI (8 * rules + c) := by rw [k8, nI_ml, nI_add]
            rw [ei, nI_1]
            have eE3 : rsE (R 93) n rules c = if kd = 0 then neE (R 93) n (wd (R 93) n (sk (R 93) n (psE (R 93) n rules c))) else nuE (R 93) n rules kd (wd (R 93) n (sk (R 93) n (psE (R 93) n rules c))) := by
              rw [eE]
              unfold cuE
              rw [hk]
              simp only
              rw [if_neg (by omega)]
            have keep : ∀ (a1 a2 a3 : Int32), ∀ i, i < 8 * rules → upd KD (8 * rules + c) a1 i = R 90 i ∧ upd F1 (8 * rules + c) a2 i = R 91 i ∧ upd F2 (8 * rules + c) a3 i = R 92 i := by
              intro a1 a2 a3 i hi
              rw [upd_n (by omega), upd_n (by omega), upd_n (by omega)]
              exact hrow i hi
            refine y_clause hn kd (8 * rules + c) rules k5 (by omega) (by omega) h21 h4 (rsE (R 93) n rules c) eE3 _ (fun e0 R5 fr' lt' x1 x2 hm h5 => ?_) (fun e0 R5 p' fr' lt' x1 x2 h5 => ?_)
            · refine hX (10 - (c + 1)) _ _ (by omega) ⟨c + 1, some _, _, fr', lt', none, _, _, _, rfl, h5, keep _ _ _, Or.inl ⟨by omega, rfl, rfl, rfl, fun i hi => ?_, fun i hi => ?_⟩⟩
              · by_cases z : i = c
                · rw [z]; exact ⟨hne, e0⟩
                · exact hok i (by omega)
              · by_cases z : i = c
                · rw [z, pk_us, pk_us, pk_us]
                  exact cl_ok e0 hk hm
                · rw [upd_n (by omega), upd_n (by omega), upd_n (by omega)]
                  exact hcl i (by omega)
            · exact dead h5 (keep _ _ _) rfl rfl e0 _ _
          · have eE2 : rsE (R 93) n rules c = (5, sk (R 93) n (psE (R 93) n rules c), 0, 0, 0) := by
              rw [eE]
              unfold cuE
              rw [hk]
              simp only
              rw [if_pos (by omega)]
            refine y_want false 5 _ (by omega) h4 _ (fun z => by cases z) (fun _ R5 h5 => ?_)
            rw [if_pos rfl]
            exact dead h5 hrow (by rw [eE2]) (by rw [eE2]) (by decide) _ _
      · have hE : enE (R 93) n rules c := hen
        rw [if_pos (by unfold hrV; rw [if_neg hen]; decide)]
        obtain ⟨a1, a2, a3, a4, a5, a6, a7, a8, a9, a10, a11⟩ := h3
        rw [upd_n (show ¬ 30 = 28 by decide), a8.1, if_neg (by decide), upd_n (show ¬ 21 = 28 by decide), a2 21 (by decide), h21, nI_clamp (n := rules) (by omega), nI_1, nI_pred]
        refine ⟨hv, hv, h _ c _ ⟨⟨hok, Or.inl hE⟩, hc8, fun q hq => ?_, fun j hj => ?_, ?_, fun i hi => ?_, fun _ => ⟨rfl, ?_, ?_, ?_, ?_, fun i hi => ?_⟩, fun w => absurd hE w⟩⟩
        · rw [upA_n _ _ (fun e => hq (by rw [e]; decide)), upA_n _ _ (fun e => hq (by rw [e]; decide)), upA_n _ _ (fun e => hq (by rw [e]; decide)), upA_n _ _ (fun e => hq (by rw [e]; decide))]
          exact a1 q (fun w => hq (by revert w; clear hq; revert q; decide))
        · rw [upA_s, upd_n (fun e => hj (by rw [e]; decide)), upd_n (fun e => hj (by rw [e]; decide))]
          exact a2 j (fun w => hj (by revert w; clear hj; revert j; decide))
        · simp only [upA_s, upA_n, upA_u, Nat.reduceEqDiff, not_false_eq_true, pk_us, upd_n]
        · simp only [upA_s, upA_n, upA_u, Nat.reduceEqDiff, not_false_eq_true, pk_us, upd_n]; rw [a9, a10, a11]; exact hrow i hi
        · simp only [upA_s, upA_n, upA_u, Nat.reduceEqDiff, not_false_eq_true, pk_us, upd_n]; exact a8.2
        · simp only [upA_s, upA_n, upA_u, Nat.reduceEqDiff, not_false_eq_true, pk_us, upd_n]
        · simp only [upA_s, upA_n, upA_u, Nat.reduceEqDiff, not_false_eq_true, pk_us, upd_n]; rw [a1 88 (by decide)]
        · simp only [upA_s, upA_n, upA_u, Nat.reduceEqDiff, not_false_eq_true, pk_us, upd_n]; rw [a1 89 (by decide)]
        · simp only [upA_s, upA_n, upA_u, Nat.reduceEqDiff, not_false_eq_true, pk_us, upd_n]; rw [a9, a10, a11]; exact hcl i hi
    · rw [if_neg (by rw [e30]; exact fun w => by cases w)]
      obtain ⟨a1, a2, a3, a4, a5, a6, a7, a8, a9, a10, a11⟩ := h2
      have b1 := a8.1
      have b2 := a8.2.1
      have b3 := a8.2.2.1
      have b4 := a8.2.2.2
      rw [upd_n (show ¬ 30 = 28 by decide), b1, if_pos (by rw [lt_I, ti_0, toInt_nI (by omega)]; omega)]
      refine h _ c0 _ ⟨ht, hc0, fun q hq => ?_, fun j hj => ?_, ?_, fun i hi => ?_, fun w => absurd w hne, fun _ => ⟨rfl, ?_, ?_, ?_, ?_⟩⟩
      · rw [upA_n _ _ (fun e => hq (by rw [e]; decide))]
        exact a1 q (fun w => hq (by revert w; clear hq; revert q; decide))
      · rw [upA_s, upd_n (fun e => hj (by rw [e]; decide))]
        exact a2 j (fun w => hj (by revert w; clear hj; revert j; decide))
      · simp only [upA_s, upA_n, upA_u, Nat.reduceEqDiff, not_false_eq_true, pk_us, upd_n]
      · simp only [upA_s, upA_n, upA_u, Nat.reduceEqDiff, not_false_eq_true, pk_us, upd_n]; rw [a9, a10, a11]; exact hrow i hi
      · simp only [upA_s, upA_n, upA_u, Nat.reduceEqDiff, not_false_eq_true, pk_us, upd_n]; exact b2
      · simp only [upA_s, upA_n, upA_u, Nat.reduceEqDiff, not_false_eq_true, pk_us, upd_n]; exact a2 21 (by decide)
      · simp only [upA_s, upA_n, upA_u, Nat.reduceEqDiff, not_false_eq_true, pk_us, upd_n]; exact a1 88 (by decide)
      · simp only [upA_s, upA_n, upA_u, Nat.reduceEqDiff, not_false_eq_true, pk_us, upd_n]; exact a1 89 (by decide)
  · intro X hX
    simp only [sw3_c, sw3_n, Nat.reduceEqDiff, not_false_eq_true, Nat.zero_le, Nat.reduceLeDiff, Nat.reduceLT, Nat.reduceAdd, sg_s, ↓kif_0, ↓kif_c, ↓reduceIte, nl_n, nl_i, nl_r, List.length_cons, List.length_nil, true_and, and_true, upA_s, upA_n, upA_u, Prod.mk.injEq, and_self, Fr_70_21, Fr_70_22, Fr_70_23, Fr_70_30, Fr_70_32, Ld_88, Ld_89, oA_88, oA_89, oC_70, oI_70_21, oI_70_28, oI_70_29, oI_70_30, oI_70_31, oL_70, (j_iload_n_1 dX10_rule_0 (n := 1) rfl), (j_cs1i (M := mX10_rule) dX10_rule_1 (n := 4) rfl cM_10_218 (Or.inl rfl) (o := 10) rfl lv_X10_rule_X10_isHour rfl), (j_if_ne dX10_rule_4 (n := 7) rfl br_4_7), (j_sipush dX10_rule_7 (n := 10) rfl ks_m1002), (j_iret dX10_rule_10 (n := 11) rfl), (j_aload_n_0 dX10_rule_11 (n := 12) rfl), (j_getf dX10_rule_12 (n := 15) rfl cF_10_278), (j_bipush dX10_rule_15 (n := 17) rfl kb_8), (j_ic_ne dX10_rule_17 (n := 20) rfl br_17_7), (j_sipush dX10_rule_20 (n := 23) rfl ks_m1004), (j_iret dX10_rule_23 (n := 24) rfl), (j_aload_n_0 dX10_rule_24 (n := 25) rfl), (j_iconst dX10_rule_25 (n := 26) rfl ki_0), (j_putf dX10_rule_26 (n := 29) rfl cF_10_230), (j_aload_n_0 dX10_rule_29 (n := 30) rfl), (j_iconst dX10_rule_30 (n := 31) rfl ki_0), (j_putf dX10_rule_31 (n := 34) rfl cF_10_233), (j_aload_n_0 dX10_rule_34 (n := 35) rfl), (j_iconst dX10_rule_35 (n := 36) rfl ki_m1), (j_putf dX10_rule_36 (n := 39) rfl cF_10_83), (j_iconst dX10_rule_39 (n := 40) rfl ki_0), (j_istore_n_2 dX10_rule_40 (n := 41) rfl), (j_aload_n_0 dX10_rule_41 (n := 42) rfl), (j_getf dX10_rule_42 (n := 45) rfl cF_10_233), (j_if_ne dX10_rule_45 (n := 48) rfl br_45_83), (j_aload_n_0 dX10_rule_48 (n := 49) rfl), (j_cv0i (M := mX10_rule) dX10_rule_49 (n := 52) rfl cM_10_236 (Or.inl rfl) lv_X10_rule_X10_here rfl (oc := 10) rfl), (j_if_lt dX10_rule_52 (n := 55) rfl br_52_76), (j_aload_n_0 dX10_rule_55 (n := 56) rfl), (j_cv0v (M := mX10_rule) dX10_rule_56 (n := 59) rfl cM_10_262 (Or.inl rfl) lv_X10_rule_X10_takeWord rfl (oc := 10) rfl), (j_aload_n_0 dX10_rule_59 (n := 60) rfl), (j_cv0i (M := mX10_rule) dX10_rule_60 (n := 63) rfl cM_10_281 (Or.inl rfl) lv_X10_rule_X10_clauseOf rfl (oc := 10) rfl), (j_istore_n_3 dX10_rule_63 (n := 64) rfl), (j_aload_n_0 dX10_rule_64 (n := 65) rfl), (j_iload_n_3 dX10_rule_65 (n := 66) rfl), (j_if_lt dX10_rule_66 (n := 69) rfl br_66_7), (j_iconst dX10_rule_69 (n := 70) rfl ki_1), (j_goto dX10_rule_70 (n := 73) rfl br_70_4), (j_iconst dX10_rule_73 (n := 74) rfl ki_0), (j_iconst dX10_rule_74 (n := 75) rfl ki_1), (j_aload_n_0 dX10_rule_75 (n := 76) rfl), (j_getf dX10_rule_76 (n := 79) rfl cF_10_240), (j_cv3i (M := mX10_rule) dX10_rule_79 (n := 82) rfl cM_10_254 (Or.inl rfl) lv_X10_rule_X10_want rfl (oc := 10) rfl), (j_if_eq dX10_rule_82 (n := 85) rfl br_82_43), (j_aload_n_0 dX10_rule_85 (n := 86) rfl), (j_iload_n_2 dX10_rule_86 (n := 87) rfl), (j_bipush dX10_rule_87 (n := 89) rfl kb_8), (j_ic_ge dX10_rule_89 (n := 92) rfl br_89_7), (j_iconst dX10_rule_92 (n := 93) rfl ki_1), (j_goto dX10_rule_93 (n := 96) rfl br_93_4), (j_iconst dX10_rule_96 (n := 97) rfl ki_0), (j_iconst dX10_rule_97 (n := 98) rfl ki_5), (j_aload_n_0 dX10_rule_98 (n := 99) rfl), (j_getf dX10_rule_99 (n := 102) rfl cF_10_240), (j_cv3i (M := mX10_rule) dX10_rule_102 (n := 105) rfl cM_10_254 (Or.inl rfl) lv_X10_rule_X10_want rfl (oc := 10) rfl), (j_if_eq dX10_rule_105 (n := 108) rfl br_105_20), (j_aload_n_0 dX10_rule_108 (n := 109) rfl), (j_iload_n_3 dX10_rule_109 (n := 110) rfl), (j_bipush dX10_rule_110 (n := 112) rfl kb_8), (j_aload_n_0 dX10_rule_112 (n := 113) rfl), (j_getf dX10_rule_113 (n := 116) rfl cF_10_278), (j_imul dX10_rule_116 (n := 117) rfl), (j_iload_n_2 dX10_rule_117 (n := 118) rfl), (j_iadd dX10_rule_118 (n := 119) rfl), (j_cv2v (M := mX10_rule) dX10_rule_119 (n := 122) rfl cM_10_284 (Or.inl rfl) lv_X10_rule_X10_readClause rfl (oc := 10) rfl), (j_iinc_2 dX10_rule_122 (n := 125) rfl ki_1), (j_goto dX10_rule_125 (n := 128) rfl br_125_m84), (j_aload_n_0 dX10_rule_128 (n := 129) rfl), (j_iconst dX10_rule_129 (n := 130) rfl ki_0), (j_putf dX10_rule_130 (n := 133) rfl cF_10_225), (j_aload_n_0 dX10_rule_133 (n := 134) rfl), (j_getf dX10_rule_134 (n := 137) rfl cF_10_233), (j_if_le dX10_rule_137 (n := 140) rfl br_137_11), (j_bipush dX10_rule_140 (n := 142) rfl kb_m10), (j_aload_n_0 dX10_rule_142 (n := 143) rfl), (j_getf dX10_rule_143 (n := 146) rfl cF_10_233), (j_isub dX10_rule_146 (n := 147) rfl), (j_iret dX10_rule_147 (n := 148) rfl), (j_aload_n_0 dX10_rule_148 (n := 149) rfl), (j_getf dX10_rule_149 (n := 152) rfl cF_10_68), (j_aload_n_0 dX10_rule_152 (n := 153) rfl), (j_getf dX10_rule_153 (n := 156) rfl cF_10_278), (j_iload_n_2 dX10_rule_156 (n := 157) rfl), (j_iast dX10_rule_157 (n := 158) rfl), (j_aload_n_0 dX10_rule_158 (n := 159) rfl), (j_getf dX10_rule_159 (n := 162) rfl cF_10_65), (j_aload_n_0 dX10_rule_162 (n := 163) rfl), (j_getf dX10_rule_163 (n := 166) rfl cF_10_278), (j_iload_n_1 dX10_rule_166 (n := 167) rfl), (j_iast dX10_rule_167 (n := 168) rfl), (j_aload_n_0 dX10_rule_168 (n := 169) rfl), (j_dup_i dX10_rule_169 (n := 170) rfl), (j_dup_r dX10_rule_169 (n := 170) rfl), (j_getf dX10_rule_170 (n := 173) rfl cF_10_278), (j_iconst dX10_rule_173 (n := 174) rfl ki_1), (j_iadd dX10_rule_174 (n := 175) rfl), (j_putf dX10_rule_175 (n := 178) rfl cF_10_278), (j_aload_n_0 dX10_rule_178 (n := 179) rfl), (j_getf dX10_rule_179 (n := 182) rfl cF_10_278), (j_iconst dX10_rule_182 (n := 183) rfl ki_1), (j_isub dX10_rule_183 (n := 184) rfl), (j_iret dX10_rule_184 (n := 185) rfl), rOk_i (M := mX10_rule) rfl, nl_x, pk_us]
    refine c_isHour _ _ _ ?_
    rw [decide_eq_true hh, if_neg (show ¬ bI true = 0 by decide), h21, if_neg (by rw [k8, nI_eq (by omega) (by omega)]; omega)]
    obtain ⟨fr0, hfr0⟩ := any_nI (R 70 32)
    obtain ⟨lt0, hlt0⟩ := any_nI (R 70 33)
    refine hX _ _ ⟨rfl, fr0, lt0, ⟨fun c hc => ?_, fun j hj => ?_, ?_, ?_, Nat.zero_le _, ?_, ?_, ⟨?_, ?_⟩, ?_, ?_, ?_⟩⟩
    · rw [upA_n _ _ (fun e => hc (by rw [e]; decide))]
    · rw [upA_s, upd_n (fun e => hj (by rw [e]; decide)), upd_n (fun e => hj (by rw [e]; decide)), upd_n (fun e => hj (by rw [e]; decide))]
    · simp only [upA_s, upA_n, upA_u, Nat.reduceEqDiff, not_false_eq_true, pk_us, upd_n]; exact h28
    · simp only [upA_s, upA_n, upA_u, Nat.reduceEqDiff, not_false_eq_true, pk_us, upd_n]; rfl
    · simp only [upA_s, upA_n, upA_u, Nat.reduceEqDiff, not_false_eq_true, pk_us, upd_n]; exact hfr0
    · simp only [upA_s, upA_n, upA_u, Nat.reduceEqDiff, not_false_eq_true, pk_us, upd_n]; exact hlt0
    · simp only [upA_s, upA_n, upA_u, Nat.reduceEqDiff, not_false_eq_true, pk_us, upd_n]
    · simp only [upA_s, upA_n, upA_u, Nat.reduceEqDiff, not_false_eq_true, pk_us, upd_n]
    · simp only [upA_s, upA_n, upA_u, Nat.reduceEqDiff, not_false_eq_true, pk_us, upd_n]
    · simp only [upA_s, upA_n, upA_u, Nat.reduceEqDiff, not_false_eq_true, pk_us, upd_n]
    · simp only [upA_s, upA_n, upA_u, Nat.reduceEqDiff, not_false_eq_true, pk_us, upd_n]
