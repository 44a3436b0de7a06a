-- enact
theorem sorted_N {c : Nat} {hr by' : Nat → Int32} (hs : sorted c hr by') (hc : c ≤ 8) : ∀ i j, i < j → j < c → lo hr (byN by' i) (byN by' j) := by
  intro i j hij hj
  obtain ⟨a1, a2⟩ := byN_ok hs hc (i := i) (by omega)
  obtain ⟨b1, b2⟩ := byN_ok hs hc (i := j) hj
  have := hs.2.2 i j hij hj
  rw [a2, b2, toInt_nI (by omega), toInt_nI (by omega), nI_clamp (by omega), nI_clamp (by omega)] at this
  rcases this with q | ⟨q, q'⟩
  · exact Or.inl q
  · exact Or.inr ⟨q, by omega⟩
theorem sorted_of {c : Nat} {hr by' : Nat → Int32} {R : Nat → Nat} (hc : c ≤ 8) (he : ∀ i, i < c → by' i = nI (R i) ∧ R i < c) (hm : ∀ r, r < c → ∃ i, i < c ∧ R i = r) (hl : ∀ i j, i < j → j < c → lo hr (R i) (R j)) : sorted c hr by' := by
  refine ⟨fun i hi => ⟨R i, (he i hi).2, (he i hi).1⟩, fun r hr => ?_, fun i j hij hj => ?_⟩
  · obtain ⟨i, h1, h2⟩ := hm r hr
    exact ⟨i, h1, by rw [(he i h1).1, h2]⟩
  · obtain ⟨a1, a2⟩ := he i (by omega)
    obtain ⟨b1, b2⟩ := he j hj
    rw [a1, b1, nI_clamp (by omega), nI_clamp (by omega), toInt_nI (by omega), toInt_nI (by omega)]
    rcases hl i j hij hj with q | ⟨q, q'⟩
    · exact Or.inl q
    · exact Or.inr ⟨q, by omega⟩
theorem lo_upd {hr : Nat → Int32} {r : Nat} {v : Int32} {a b : Nat} (ha : a < r) (hb : b < r) (h : lo hr a b) : lo (upd hr r v) a b := by
  unfold lo
  rw [upd_n (by omega), upd_n (by omega)]
  exact h
/-- the row while the new rule's place s is looked for -/
def shR (by' B : Nat → Int32) (r s : Nat) : Prop := (∀ i, i < s → B i = by' i) ∧ ∀ i, s < i → i ≤ r → B i = by' (i - 1)
set_option maxHeartbeats 4000000 in
theorem x_enact (hour : Int32) (r m : Nat) (S : xA) (f : xP) (hr : r < 8) (hm : m ≤ 8) (hc : S 16 5 = nI r) (hk : S 22 4 = nI m) (hs : sorted r (S 17) (S 19)) (h : ∀ S', frm [16, 17, 18, 19, 20, 21] S S' → S' 16 5 = nI (r + 1) → S' 17 = upd (S 17) r hour → S' 18 = upd (S 18) r (nI m) → (∀ i, S' 20 i = if 8 * r ≤ i ∧ i < 8 * r + m then S 24 (i - 8 * r) else S 20 i) → (∀ i, S' 21 i = if 8 * r ≤ i ∧ i < 8 * r + m then S 25 (i - 8 * r) else S 21 i) → sorted (r + 1) (S' 17) (S' 19) → f (nI r) S') : CI mX8_enact [.ref (16 : Nat), .int hour, .ref (22 : Nat)] S f := by
  have hv : vp_in (nI r) 8 := vp_in_nI (by omega) (by omega)
  have e8 : nI r * 8 = nI (8 * r) := ml8' r
  have hN := sorted_N hs (by omega)
  refine ci_of (T := mX8_enact) (fv := fun _ => True) (ls := [some (.ref (16 : Nat)), some (.int hour), some (.ref (22 : Nat)), none]) rfl (Nat.le_of_ble_eq_true rfl) (by decide) rfl rfl rfl ?_
  refine ok_inv cX8_enact 8 90 74 (fun s ls S' => ls = [some (.ref (16 : Nat)), some (.int hour), some (.ref (22 : Nat)), some (.int (nI s))] ∧ s ≤ r ∧ frm [17, 18, 19, 20, 21] S S' ∧ S' 17 = upd (S 17) r hour ∧ S' 18 = upd (S 18) r (nI m) ∧ (∀ i, S' 20 i = if 8 * r ≤ i ∧ i < 8 * r + m then S 24 (i - 8 * r) else S 20 i) ∧ (∀ i, S' 21 i = if 8 * r ≤ i ∧ i < 8 * r + m then S 25 (i - 8 * r) else S 21 i) ∧ shR (S 19) (S' 19) r s ∧ ∀ i, s ≤ i → i < r → hour.toInt < (S 17 (byN (S 19) i)).toInt) rfl rfl ?_ ?_
  · intro X hX
    simp only [sw3_c, sw3_n, Nat.reduceEqDiff, not_false_eq_true, Nat.zero_le, Nat.reduceLeDiff, Nat.reduceLT, Nat.reduceAdd, sg_s, ↓kif_0, ↓kif_c, ↓reduceIte, nl_n, nl_i, nl_r, List.length_cons, List.length_nil, true_and, and_true, upA_s, upA_n, upA_u, Prod.mk.injEq, and_self, Fr_16_0, Fr_16_1, Fr_16_2, Fr_16_3, Fr_16_4, Fr_16_5, Fr_22_1, Fr_22_2, Fr_22_4, Ld_17, Ld_18, Ld_19, Ld_20, Ld_21, Ld_24, Ld_25, oA_17, oA_18, oA_19, oA_20, oA_21, oA_24, oA_25, oI_16_5, oL_16, oL_22, (j_aload_n_0 dX8_enact_0 (n := 1) rfl), (j_getf dX8_enact_1 (n := 4) rfl cF_8_9), (j_aload_n_0 dX8_enact_4 (n := 5) rfl), (j_getf dX8_enact_5 (n := 8) rfl cF_8_27), (j_iload_n_1 dX8_enact_8 (n := 9) rfl), (j_iast dX8_enact_9 (n := 10) rfl), (j_aload_n_0 dX8_enact_10 (n := 11) rfl), (j_getf dX8_enact_11 (n := 14) rfl cF_8_15), (j_aload_n_0 dX8_enact_14 (n := 15) rfl), (j_getf dX8_enact_15 (n := 18) rfl cF_8_27), (j_aload_n_2 dX8_enact_18 (n := 19) rfl), (j_getf dX8_enact_19 (n := 22) rfl cF_8_31), (j_iast dX8_enact_22 (n := 23) rfl), (j_aload_n_2 dX8_enact_23 (n := 24) rfl), (j_getf dX8_enact_24 (n := 27) rfl cF_8_36), (j_iconst dX8_enact_27 (n := 28) rfl ki_0), (j_aload_n_0 dX8_enact_28 (n := 29) rfl), (j_getf dX8_enact_29 (n := 32) rfl cF_8_21), (j_aload_n_0 dX8_enact_32 (n := 33) rfl), (j_getf dX8_enact_33 (n := 36) rfl cF_8_27), (j_bipush dX8_enact_36 (n := 38) rfl kb_8), (j_imul dX8_enact_38 (n := 39) rfl), (j_aload_n_2 dX8_enact_39 (n := 40) rfl), (j_getf dX8_enact_40 (n := 43) rfl cF_8_31), (j_cpy (M := mX8_enact) dX8_enact_43 (n := 46) rfl cB_8_37 l1_X8_enact), (j_aload_n_2 dX8_enact_46 (n := 47) rfl), (j_getf dX8_enact_47 (n := 50) rfl cF_8_43), (j_iconst dX8_enact_50 (n := 51) rfl ki_0), (j_aload_n_0 dX8_enact_51 (n := 52) rfl), (j_getf dX8_enact_52 (n := 55) rfl cF_8_24), (j_aload_n_0 dX8_enact_55 (n := 56) rfl), (j_getf dX8_enact_56 (n := 59) rfl cF_8_27), (j_bipush dX8_enact_59 (n := 61) rfl kb_8), (j_imul dX8_enact_61 (n := 62) rfl), (j_aload_n_2 dX8_enact_62 (n := 63) rfl), (j_getf dX8_enact_63 (n := 66) rfl cF_8_31), (j_cpy (M := mX8_enact) dX8_enact_66 (n := 69) rfl cB_8_37 l1_X8_enact), (j_aload_n_0 dX8_enact_69 (n := 70) rfl), (j_getf dX8_enact_70 (n := 73) rfl cF_8_27), (j_istore_n_3 dX8_enact_73 (n := 74) rfl), (j_iload_n_3 dX8_enact_74 (n := 75) rfl), (j_if_le dX8_enact_75 (n := 78) rfl br_75_40), (j_aload_n_0 dX8_enact_78 (n := 79) rfl), (j_getf dX8_enact_79 (n := 82) rfl cF_8_9), (j_aload_n_0 dX8_enact_82 (n := 83) rfl), (j_getf dX8_enact_83 (n := 86) rfl cF_8_18), (j_iload_n_3 dX8_enact_86 (n := 87) rfl), (j_iconst dX8_enact_87 (n := 88) rfl ki_1), (j_isub dX8_enact_88 (n := 89) rfl), (j_iald dX8_enact_89 (n := 90) rfl), (j_iald dX8_enact_90 (n := 91) rfl), (j_iload_n_1 dX8_enact_91 (n := 92) rfl), (j_ic_le dX8_enact_92 (n := 95) rfl br_92_23), (j_aload_n_0 dX8_enact_95 (n := 96) rfl), (j_getf dX8_enact_96 (n := 99) rfl cF_8_18), (j_iload_n_3 dX8_enact_99 (n := 100) rfl), (j_aload_n_0 dX8_enact_100 (n := 101) rfl), (j_getf dX8_enact_101 (n := 104) rfl cF_8_18), (j_iload_n_3 dX8_enact_104 (n := 105) rfl), (j_iconst dX8_enact_105 (n := 106) rfl ki_1), (j_isub dX8_enact_106 (n := 107) rfl), (j_iald dX8_enact_107 (n := 108) rfl), (j_iast dX8_enact_108 (n := 109) rfl), (j_iinc_3 dX8_enact_109 (n := 112) rfl ki_m1), (j_goto dX8_enact_112 (n := 115) rfl br_112_m38), (j_aload_n_0 dX8_enact_115 (n := 116) rfl), (j_getf dX8_enact_116 (n := 119) rfl cF_8_18), (j_iload_n_3 dX8_enact_119 (n := 120) rfl), (j_aload_n_0 dX8_enact_120 (n := 121) rfl), (j_getf dX8_enact_121 (n := 124) rfl cF_8_27), (j_iast dX8_enact_124 (n := 125) rfl), (j_aload_n_0 dX8_enact_125 (n := 126) rfl), (j_dup_i dX8_enact_126 (n := 127) rfl), (j_dup_r dX8_enact_126 (n := 127) rfl), (j_getf dX8_enact_127 (n := 130) rfl cF_8_27), (j_dup_x1_ir dX8_enact_130 (n := 131) rfl), (j_dup_x1_ii dX8_enact_130 (n := 131) rfl), (j_iconst dX8_enact_131 (n := 132) rfl ki_1), (j_iadd dX8_enact_132 (n := 133) rfl), (j_putf dX8_enact_133 (n := 136) rfl cF_8_27), (j_iret dX8_enact_136 (n := 137) rfl), rOk_i (M := mX8_enact) rfl, nl_x, pk_us, hc, hk, e8]
    rw [nI_clamp (n := r) (by omega)]
    have z0 : (0 : Int32).toNatClampNeg = 0 := rfl
    rw [nI_clamp (n := 8 * r) (by omega), nI_clamp (n := m) (by omega), z0]
    have cp : ∀ (a b : Nat → Int32) (i : Nat), va_cpy a b 0 (8 * r) m i = if 8 * r ≤ i ∧ i < 8 * r + m then a (i - 8 * r) else b i := by
      intro a b i
      unfold va_cpy
      by_cases q : 8 * r ≤ i ∧ i < 8 * r + m
      · rw [if_pos q, if_pos q, Nat.zero_add]
      · rw [if_neg q, if_neg q]
    refine ⟨hv, hv, ⟨by decide, nI_pos (by omega), nI_pos (by omega), by omega⟩, ⟨by decide, nI_pos (by omega), nI_pos (by omega), by omega⟩, hX r _ _ ⟨rfl, Nat.le_refl _, frm_up (frm_up (frm_up (frm_up (frm_rf _ _) (by decide)) (by decide)) (by decide)) (by decide), ?_, ?_, ?_, ?_, ?_, fun i h1 h2 => by omega⟩⟩
    · simp only [upA_s, upA_n, upA_u, Nat.reduceEqDiff, not_false_eq_true, pk_us, upd_n]
    · simp only [upA_s, upA_n, upA_u, Nat.reduceEqDiff, not_false_eq_true, pk_us, upd_n]
    · simp only [upA_s, upA_n, upA_u, Nat.reduceEqDiff, not_false_eq_true, pk_us, upd_n]; exact cp _ _
    · simp only [upA_s, upA_n, upA_u, Nat.reduceEqDiff, not_false_eq_true, pk_us, upd_n]; exact cp _ _
    · simp only [upA_s, upA_n, upA_u, Nat.reduceEqDiff, not_false_eq_true, pk_us, upd_n]; exact ⟨fun i hi => rfl, fun i h1 h2 => by omega⟩
  · rintro s _ S' ⟨rfl, hsr, f1, k17, k18, k20, k21, kb, kh⟩ X hX
    simp only [sw3_c, sw3_n, Nat.reduceEqDiff, not_false_eq_true, Nat.zero_le, Nat.reduceLeDiff, Nat.reduceLT, Nat.reduceAdd, sg_s, ↓kif_0, ↓kif_c, ↓reduceIte, nl_n, nl_i, nl_r, List.length_cons, List.length_nil, true_and, and_true, upA_s, upA_n, upA_u, Prod.mk.injEq, and_self, Fr_16_0, Fr_16_1, Fr_16_2, Fr_16_3, Fr_16_4, Fr_16_5, Fr_22_1, Fr_22_2, Fr_22_4, Ld_17, Ld_18, Ld_19, Ld_20, Ld_21, Ld_24, Ld_25, oA_17, oA_18, oA_19, oA_20, oA_21, oA_24, oA_25, oI_16_5, oL_16, oL_22, (j_aload_n_0 dX8_enact_0 (n := 1) rfl), (j_getf dX8_enact_1 (n := 4) rfl cF_8_9), (j_aload_n_0 dX8_enact_4 (n := 5) rfl), (j_getf dX8_enact_5 (n := 8) rfl cF_8_27), (j_iload_n_1 dX8_enact_8 (n := 9) rfl), (j_iast dX8_enact_9 (n := 10) rfl), (j_aload_n_0 dX8_enact_10 (n := 11) rfl), (j_getf dX8_enact_11 (n := 14) rfl cF_8_15), (j_aload_n_0 dX8_enact_14 (n := 15) rfl), (j_getf dX8_enact_15 (n := 18) rfl cF_8_27), (j_aload_n_2 dX8_enact_18 (n := 19) rfl), (j_getf dX8_enact_19 (n := 22) rfl cF_8_31), (j_iast dX8_enact_22 (n := 23) rfl), (j_aload_n_2 dX8_enact_23 (n := 24) rfl), (j_getf dX8_enact_24 (n := 27) rfl cF_8_36), (j_iconst dX8_enact_27 (n := 28) rfl ki_0), (j_aload_n_0 dX8_enact_28 (n := 29) rfl), (j_getf dX8_enact_29 (n := 32) rfl cF_8_21), (j_aload_n_0 dX8_enact_32 (n := 33) rfl), (j_getf dX8_enact_33 (n := 36) rfl cF_8_27), (j_bipush dX8_enact_36 (n := 38) rfl kb_8), (j_imul dX8_enact_38 (n := 39) rfl), (j_aload_n_2 dX8_enact_39 (n := 40) rfl), (j_getf dX8_enact_40 (n := 43) rfl cF_8_31), (j_cpy (M := mX8_enact) dX8_enact_43 (n := 46) rfl cB_8_37 l1_X8_enact), (j_aload_n_2 dX8_enact_46 (n := 47) rfl), (j_getf dX8_enact_47 (n := 50) rfl cF_8_43), (j_iconst dX8_enact_50 (n := 51) rfl ki_0), (j_aload_n_0 dX8_enact_51 (n := 52) rfl), (j_getf dX8_enact_52 (n := 55) rfl cF_8_24), (j_aload_n_0 dX8_enact_55 (n := 56) rfl), (j_getf dX8_enact_56 (n := 59) rfl cF_8_27), (j_bipush dX8_enact_59 (n := 61) rfl kb_8), (j_imul dX8_enact_61 (n := 62) rfl), (j_aload_n_2 dX8_enact_62 (n := 63) rfl), (j_getf dX8_enact_63 (n := 66) rfl cF_8_31), (j_cpy (M := mX8_enact) dX8_enact_66 (n := 69) rfl cB_8_37 l1_X8_enact), (j_aload_n_0 dX8_enact_69 (n := 70) rfl), (j_getf dX8_enact_70 (n := 73) rfl cF_8_27), (j_istore_n_3 dX8_enact_73 (n := 74) rfl), (j_iload_n_3 dX8_enact_74 (n := 75) rfl), (j_if_le dX8_enact_75 (n := 78) rfl br_75_40), (j_aload_n_0 dX8_enact_78 (n := 79) rfl), (j_getf dX8_enact_79 (n := 82) rfl cF_8_9), (j_aload_n_0 dX8_enact_82 (n := 83) rfl), (j_getf dX8_enact_83 (n := 86) rfl cF_8_18), (j_iload_n_3 dX8_enact_86 (n := 87) rfl), (j_iconst dX8_enact_87 (n := 88) rfl ki_1), (j_isub dX8_enact_88 (n := 89) rfl), (j_iald dX8_enact_89 (n := 90) rfl), (j_iald dX8_enact_90 (n := 91) rfl), (j_iload_n_1 dX8_enact_91 (n := 92) rfl), (j_ic_le dX8_enact_92 (n := 95) rfl br_92_23), (j_aload_n_0 dX8_enact_95 (n := 96) rfl), (j_getf dX8_enact_96 (n := 99) rfl cF_8_18), (j_iload_n_3 dX8_enact_99 (n := 100) rfl), (j_aload_n_0 dX8_enact_100 (n := 101) rfl), (j_getf dX8_enact_101 (n := 104) rfl cF_8_18), (j_iload_n_3 dX8_enact_104 (n := 105) rfl), (j_iconst dX8_enact_105 (n := 106) rfl ki_1), (j_isub dX8_enact_106 (n := 107) rfl), (j_iald dX8_enact_107 (n := 108) rfl), (j_iast dX8_enact_108 (n := 109) rfl), (j_iinc_3 dX8_enact_109 (n := 112) rfl ki_m1), (j_goto dX8_enact_112 (n := 115) rfl br_112_m38), (j_aload_n_0 dX8_enact_115 (n := 116) rfl), (j_getf dX8_enact_116 (n := 119) rfl cF_8_18), (j_iload_n_3 dX8_enact_119 (n := 120) rfl), (j_aload_n_0 dX8_enact_120 (n := 121) rfl), (j_getf dX8_enact_121 (n := 124) rfl cF_8_27), (j_iast dX8_enact_124 (n := 125) rfl), (j_aload_n_0 dX8_enact_125 (n := 126) rfl), (j_dup_i dX8_enact_126 (n := 127) rfl), (j_dup_r dX8_enact_126 (n := 127) rfl), (j_getf dX8_enact_127 (n := 130) rfl cF_8_27), (j_dup_x1_ir dX8_enact_130 (n := 131) rfl), (j_dup_x1_ii dX8_enact_130 (n := 131) rfl), (j_iconst dX8_enact_131 (n := 132) rfl ki_1), (j_iadd dX8_enact_132 (n := 133) rfl), (j_putf dX8_enact_133 (n := 136) rfl cF_8_27), (j_iret dX8_enact_136 (n := 137) rfl), rOk_i (M := mX8_enact) rfl, nl_x, pk_us, f1 16 (by decide), hc]
    have vs : vp_in (nI s) 8 := vp_in_nI (by omega) (by omega)
    have fin : (s = 0 ∨ (S 17 (byN (S 19) (s - 1))).toInt ≤ hour.toInt) → f (nI r) (upA (upA S' 19 (upd (S' 19) s (nI r))) 16 (upd (S 16) 5 (nI r + 1))) := by
      intro hs0
      rw [nI_1]
      have hR : ∀ i, i < r → byN (S 19) i < r ∧ S 19 i = nI (byN (S 19) i) := fun i hi => byN_ok hs (by omega) hi
      refine h _ (frm_up (frm_up (frm_w f1 (by decide)) (by decide)) (by decide)) (by rw [upA_s, pk_us]) ?_ ?_ ?_ ?_ ?_
      · simp only [upA_s, upA_n, upA_u, Nat.reduceEqDiff, not_false_eq_true, pk_us, upd_n]; exact k17
      · simp only [upA_s, upA_n, upA_u, Nat.reduceEqDiff, not_false_eq_true, pk_us, upd_n]; exact k18
      · simp only [upA_s, upA_n, upA_u, Nat.reduceEqDiff, not_false_eq_true, pk_us, upd_n]; exact k20
      · simp only [upA_s, upA_n, upA_u, Nat.reduceEqDiff, not_false_eq_true, pk_us, upd_n]; exact k21
      · simp only [upA_s, upA_n, upA_u, Nat.reduceEqDiff, not_false_eq_true, pk_us, upd_n]
        rw [k17]
        refine sorted_of (R := insR (byN (S 19)) s r) (by omega) (fun i hi => ?_) (fun q hq => ?_) ?_
        · rw [upd_t]
          unfold insR
          by_cases q1 : i < s
          · rw [if_neg (by omega), if_pos q1, kb.1 i q1]
            exact ⟨(hR i (by omega)).2, by have := (hR i (by omega)).1; omega⟩
          · rw [if_neg q1]
            by_cases q2 : i = s
            · rw [if_pos q2, if_pos q2]; exact ⟨rfl, by omega⟩
            · rw [if_neg q2, if_neg q2, kb.2 i (by omega) (by omega)]
              exact ⟨(hR (i - 1) (by omega)).2, by have := (hR (i - 1) (by omega)).1; omega⟩
        · rw [insR_mem (by omega)]
          by_cases q1 : q = r
          · exact Or.inr q1.symm
          · left
            obtain ⟨i, h1, h2⟩ := hs.2.1 q (by omega)
            exact ⟨i, h1, by unfold byN; rw [h2, nI_clamp (by omega)]⟩
        · refine insR_lo (by omega) (fun i j hij hj => lo_upd (hR i (by omega)).1 (hR j hj).1 (hN i j hij hj)) (fun i hi => (hR i hi).1) ?_ ?_
          · rcases hs0 with q | q
            · exact Or.inl q
            · by_cases q0 : s = 0
              · exact Or.inl q0
              · right
                rw [pk_us, upd_n (by have := (hR (s - 1) (by omega)).1; omega)]
                exact q
          · intro i h1 h2
            rw [pk_us, upd_n (by have := (hR i h2).1; omega)]
            exact kh i h1 h2
    rw [nI_clamp (n := s) (by omega)]
    refine ite_i (fun q => ?_) (fun q => ⟨vs, fin (Or.inl ?_)⟩)
    · rw [lt_I, ti_0, toInt_nI (by omega)] at q
      have e1 : nI s - 1 = nI (s - 1) := by
        have := nI_pred (s - 1)
        rw [show s - 1 + 1 = s by omega] at this
        exact this
      have hb := byN_ok hs (by omega) (i := s - 1) (by omega)
      rw [e1, nI_clamp (n := s - 1) (by omega), kb.1 (s - 1) (by omega), hb.2, nI_clamp (n := byN (S 19) (s - 1)) (by omega), k17, upd_n (by omega)]
      refine ⟨vp_in_nI (by omega) (by omega), vp_in_nI (by omega) (by omega), ite_i (fun q2 => ⟨vp_in_nI (by omega) (by omega), vs, ?_⟩) (fun q2 => ⟨vs, fin (Or.inr ?_)⟩)⟩
      · rw [lt_I] at q2
        refine hX (s - 1) _ _ (by omega) ⟨?_, by omega, frm_up f1 (by decide), ?_, ?_, ?_, ?_, ?_, fun i h1 h2 => ?_⟩
        · rw [← e1, Int32.sub_eq_add_neg]
        · simp only [upA_s, upA_n, upA_u, Nat.reduceEqDiff, not_false_eq_true, pk_us, upd_n]; exact k17
        · simp only [upA_s, upA_n, upA_u, Nat.reduceEqDiff, not_false_eq_true, pk_us, upd_n]; exact k18
        · simp only [upA_s, upA_n, upA_u, Nat.reduceEqDiff, not_false_eq_true, pk_us, upd_n]; exact k20
        · simp only [upA_s, upA_n, upA_u, Nat.reduceEqDiff, not_false_eq_true, pk_us, upd_n]; exact k21
        · rw [upA_s]
          refine ⟨fun i hi => ?_, fun i h1 h2 => ?_⟩
          · rw [upd_n (by omega)]; exact kb.1 i (by omega)
          · rw [upd_t]
            by_cases z : i = s
            · rw [if_pos z, z, hb.2]
            · rw [if_neg z]; exact kb.2 i (by omega) h2
        · by_cases z : i = s - 1
          · rw [z]; exact q2
          · exact kh i (by omega) h2
      · rw [lt_I] at q2; omega
    · rw [lt_I, ti_0, toInt_nI (by omega)] at q
      omega
