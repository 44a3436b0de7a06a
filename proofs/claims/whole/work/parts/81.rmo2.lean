-- reading: the reference's words and numbers
theorem spB_m {b : Nat → Int32} {p : Nat} {w : List Int32} {j : Nat} : ∀ {m : Nat}, j ≤ m → spB b p w m = true → spB b p w j = true
  | 0, hj, h => by rw [show j = 0 by omega]; rfl
  | m + 1, hj, h => by
    by_cases e : j = m + 1
    · rw [e]; exact h
    · rw [spB, Bool.and_eq_true] at h
      exact spB_m (m := m) (by omega) h.1
theorem spB_e {b : Nat → Int32} {p : Nat} {w w' : List Int32} : ∀ m, (∀ k, k < m → w.getD k 0 = w'.getD k 0) → spB b p w m = spB b p w' m
  | 0, _ => rfl
  | m + 1, h => by rw [spB, spB, spB_e m (fun k hk => h k (by omega)), h m (by omega)]
theorem spl_6 {b : Nat → Int32} {fr lt : Nat} {w w6 : List Int32} (hl : w.length ≤ 6) (he : ∀ k, k < w.length → w6.getD k 0 = w.getD k 0) : (decide (lt = w.length) && spB b fr w6 (min w.length 6)) = spl b fr (fr + lt) w := by
  unfold spl
  rw [Nat.add_sub_cancel_left, Nat.min_eq_left hl, spB_e _ he]
section RM
variable {R0 R : xA} {n p fr lt : Nat} {o : Option (Nat × Nat)} {KD F1 F2 : Nat → Int32}
set_option maxRecDepth 10000 in
set_option maxHeartbeats 8000000 in
theorem y_isW (hn : n ≤ 160) (m : Nat) (hm : m ≤ 7) (a0 a1 a2 a3 a4 a5 : Int32) (h : rdM R0 R n p fr lt o KD F1 F2) (hfl : fr + lt ≤ n) (f : xP) (k : f (bI (decide (lt = m) && spB (R0 93) fr [a0, a1, a2, a3, a4, a5] (min m 6))) R) : CI mX10_isWord [.ref (70 : Nat), .int (nI m), .int a0, .int a1, .int a2, .int a3, .int a4, .int a5] R f := by
  have k6 : (6 : Int32) = nI 6 := rfl
  refine ci_of (T := mX10_isWord) (fv := fun _ => True) (ls := [some (.ref (70 : Nat)), some (.int (nI m)), some (.int a0), some (.int a1), some (.int a2), some (.int a3), some (.int a4), some (.int a5), none, none]) rfl (Nat.le_of_ble_eq_true rfl) (by decide) rfl rfl rfl ?_
  refine ok2_to cX10_isWord 10 30 18 (fun ls R' => ls = [some (.ref (70 : Nat)), some (.int (nI m)), some (.int a0), some (.int a1), some (.int a2), some (.int a3), some (.int a4), some (.int a5), some (.int (bI (decide (lt = m)))), some (.int (nI 0))] ∧ R = R') rfl rfl ?_ ?_
  · rintro ls R' ⟨hls, e⟩
    refine ok2_inv cX10_isWord 10 60 18 (fun μ ls R' => ∃ j, j ≤ min m 6 ∧ μ = 7 - j ∧ ls = [some (.ref (70 : Nat)), some (.int (nI m)), some (.int a0), some (.int a1), some (.int a2), some (.int a3), some (.int a4), some (.int a5), some (.int (bI (decide (lt = m) && spB (R0 93) fr [a0, a1, a2, a3, a4, a5] j))), some (.int (nI j))] ∧ R = R') rfl rfl ?_ 7 ls R' ⟨0, Nat.zero_le _, rfl, by rw [hls, spB, Bool.and_true], e⟩
    rintro μ _ _ ⟨j, hj, rfl, rfl, rfl⟩ X hX
    have e6 : (nI j < (6 : Int32)) = (j < 6) := by rw [k6, nI_ltN (by omega) (by omega)]
    simp only [sw3_c, sw3_n, Nat.reduceEqDiff, not_false_eq_true, Nat.zero_le, Nat.reduceLeDiff, Nat.reduceLT, Nat.reduceAdd, sg_s, ↓kif_0, ↓kif_c, ↓reduceIte, nl_n, nl_i, nl_r, List.length_cons, List.length_nil, true_and, and_true, upA_s, upA_n, upA_u, Prod.mk.injEq, and_self, Fr_70_27, Fr_70_32, Fr_70_33, Ld_93, oA_93, oL_70, (j_aload_n_0 dX10_isWord_0 (n := 1) rfl), (j_getf dX10_isWord_1 (n := 4) rfl cF_10_247), (j_iload_n_1 dX10_isWord_4 (n := 5) rfl), (j_ic_ne dX10_isWord_5 (n := 8) rfl br_5_7), (j_iconst dX10_isWord_8 (n := 9) rfl ki_1), (j_goto dX10_isWord_9 (n := 12) rfl br_9_4), (j_iconst dX10_isWord_12 (n := 13) rfl ki_0), (j_istore_8 dX10_isWord_13 (n := 15) rfl), (j_iconst dX10_isWord_15 (n := 16) rfl ki_0), (j_istore_9 dX10_isWord_16 (n := 18) rfl), (j_iload_9 dX10_isWord_18 (n := 20) rfl), (j_iload_n_1 dX10_isWord_20 (n := 21) rfl), (j_ic_ge dX10_isWord_21 (n := 24) rfl br_21_97), (j_iload_8 dX10_isWord_24 (n := 26) rfl), (j_if_eq dX10_isWord_26 (n := 29) rfl br_26_92), (j_iload_9 dX10_isWord_29 (n := 31) rfl), (j_bipush dX10_isWord_31 (n := 33) rfl kb_6), (j_ic_ge dX10_isWord_33 (n := 36) rfl br_33_85), (j_aload_n_0 dX10_isWord_36 (n := 37) rfl), (j_getf dX10_isWord_37 (n := 40) rfl cF_10_80), (j_aload_n_0 dX10_isWord_40 (n := 41) rfl), (j_getf dX10_isWord_41 (n := 44) rfl cF_10_240), (j_iload_9 dX10_isWord_44 (n := 46) rfl), (j_iadd dX10_isWord_46 (n := 47) rfl), (j_iald dX10_isWord_47 (n := 48) rfl), (j_iload_9 dX10_isWord_48 (n := 50) rfl), (j_if_ne dX10_isWord_50 (n := 53) rfl br_50_7), (j_iload_n_2 dX10_isWord_53 (n := 54) rfl), (j_goto dX10_isWord_54 (n := 57) rfl br_54_48), (j_iload_9 dX10_isWord_57 (n := 59) rfl), (j_iconst dX10_isWord_59 (n := 60) rfl ki_1), (j_ic_ne dX10_isWord_60 (n := 63) rfl br_60_7), (j_iload_n_3 dX10_isWord_63 (n := 64) rfl), (j_goto dX10_isWord_64 (n := 67) rfl br_64_38), (j_iload_9 dX10_isWord_67 (n := 69) rfl), (j_iconst dX10_isWord_69 (n := 70) rfl ki_2), (j_ic_ne dX10_isWord_70 (n := 73) rfl br_70_8), (j_iload_4 dX10_isWord_73 (n := 75) rfl), (j_goto dX10_isWord_75 (n := 78) rfl br_75_27), (j_iload_9 dX10_isWord_78 (n := 80) rfl), (j_iconst dX10_isWord_80 (n := 81) rfl ki_3), (j_ic_ne dX10_isWord_81 (n := 84) rfl br_81_8), (j_iload_5 dX10_isWord_84 (n := 86) rfl), (j_goto dX10_isWord_86 (n := 89) rfl br_86_16), (j_iload_9 dX10_isWord_89 (n := 91) rfl), (j_iconst dX10_isWord_91 (n := 92) rfl ki_4), (j_ic_ne dX10_isWord_92 (n := 95) rfl br_92_8), (j_iload_6 dX10_isWord_95 (n := 97) rfl), (j_goto dX10_isWord_97 (n := 100) rfl br_97_5), (j_iload_7 dX10_isWord_100 (n := 102) rfl), (j_ic_ne dX10_isWord_102 (n := 105) rfl br_102_7), (j_iconst dX10_isWord_105 (n := 106) rfl ki_1), (j_goto dX10_isWord_106 (n := 109) rfl br_106_4), (j_iconst dX10_isWord_109 (n := 110) rfl ki_0), (j_istore_8 dX10_isWord_110 (n := 112) rfl), (j_iinc_9 dX10_isWord_112 (n := 115) rfl ki_1), (j_goto dX10_isWord_115 (n := 118) rfl br_115_m97), (j_iload_8 dX10_isWord_118 (n := 120) rfl), (j_iret dX10_isWord_120 (n := 121) rfl), nl_x, pk_us, h.2.2.2.2.2.1, rdM_93 h, nI_add, e6, nI_ltN (show j < 1000000 by omega) (show m < 1000000 by omega), nI_1]
    have out : j = min m 6 → rOk mX10_isWord (bI (decide (lt = m) && spB (R0 93) fr [a0, a1, a2, a3, a4, a5] j)) ∧ f (bI (decide (lt = m) && spB (R0 93) fr [a0, a1, a2, a3, a4, a5] j)) R := fun e => ⟨rOk_z rfl (bI_01 _), by rw [e]; exact k⟩
    refine ite_i (fun z1 => ite_b (fun z2 => ⟨rOk_z rfl (bI_01 _), ?_⟩) (fun z2 => ite_i (fun z3 => ?_) (fun z3 => out (by omega)))) (fun z1 => out (by omega))
    · have : (decide (lt = m) && spB (R0 93) fr [a0, a1, a2, a3, a4, a5] (min m 6)) = false := by
        cases e : (decide (lt = m) && spB (R0 93) fr [a0, a1, a2, a3, a4, a5] (min m 6)) with
        | false => rfl
        | true =>
          rw [Bool.and_eq_true] at e
          rw [e.1, spB_m hj e.2] at z2
          cases z2
      rw [this] at k
      rw [z2]
      exact k
    · rw [Bool.and_eq_true, decide_eq_true_eq] at z2
      rw [nI_clamp (n := fr + j) (by omega)]
      have nx : ∀ (v : Int32) (t : Bool), v = bI t → (decide (R0 93 (fr + j) = [a0, a1, a2, a3, a4, a5].getD j 0)) = t → X [some (.ref (70 : Nat)), some (.int (nI m)), some (.int a0), some (.int a1), some (.int a2), some (.int a3), some (.int a4), some (.int a5), some (.int v), some (.int (nI (j + 1)))] [] R := by
        intro v t hv ht
        refine hX (7 - (j + 1)) _ _ (by omega) ⟨j + 1, by omega, rfl, ?_, rfl⟩
        rw [spB, z2.2, decide_eq_true z2.1, ht, hv]
        rfl
      refine ⟨vp_in_nI (by omega) (by omega), ?_⟩
      have hj6 : j = 0 ∨ j = 1 ∨ j = 2 ∨ j = 3 ∨ j = 4 ∨ j = 5 := by omega
      rcases hj6 with rfl | rfl | rfl | rfl | rfl | rfl
      · rw [if_pos (by decide)]
        exact ite_i (fun q => nx 1 true rfl (decide_eq_true q)) (fun q => nx 0 false rfl (decide_eq_false q))
      · rw [if_neg (by decide), if_pos (by decide)]
        exact ite_i (fun q => nx 1 true rfl (decide_eq_true q)) (fun q => nx 0 false rfl (decide_eq_false q))
      · rw [if_neg (by decide), if_neg (by decide), if_pos (by decide)]
        exact ite_i (fun q => nx 1 true rfl (decide_eq_true q)) (fun q => nx 0 false rfl (decide_eq_false q))
      · rw [if_neg (by decide), if_neg (by decide), if_neg (by decide), if_pos (by decide)]
        exact ite_i (fun q => nx 1 true rfl (decide_eq_true q)) (fun q => nx 0 false rfl (decide_eq_false q))
      · rw [if_neg (by decide), if_neg (by decide), if_neg (by decide), if_neg (by decide), if_pos (by decide)]
        exact ite_i (fun q => nx 1 true rfl (decide_eq_true q)) (fun q => nx 0 false rfl (decide_eq_false q))
      · rw [if_neg (by decide), if_neg (by decide), if_neg (by decide), if_neg (by decide), if_neg (by decide)]
        exact ite_i (fun q => nx 1 true rfl (decide_eq_true q)) (fun q => nx 0 false rfl (decide_eq_false q))
  · intro X hX
    simp only [sw3_c, sw3_n, Nat.reduceEqDiff, not_false_eq_true, Nat.zero_le, Nat.reduceLeDiff, Nat.reduceLT, Nat.reduceAdd, sg_s, ↓kif_0, ↓kif_c, ↓reduceIte, nl_n, nl_i, nl_r, List.length_cons, List.length_nil, true_and, and_true, upA_s, upA_n, upA_u, Prod.mk.injEq, and_self, Fr_70_27, Fr_70_32, Fr_70_33, Ld_93, oA_93, oL_70, (j_aload_n_0 dX10_isWord_0 (n := 1) rfl), (j_getf dX10_isWord_1 (n := 4) rfl cF_10_247), (j_iload_n_1 dX10_isWord_4 (n := 5) rfl), (j_ic_ne dX10_isWord_5 (n := 8) rfl br_5_7), (j_iconst dX10_isWord_8 (n := 9) rfl ki_1), (j_goto dX10_isWord_9 (n := 12) rfl br_9_4), (j_iconst dX10_isWord_12 (n := 13) rfl ki_0), (j_istore_8 dX10_isWord_13 (n := 15) rfl), (j_iconst dX10_isWord_15 (n := 16) rfl ki_0), (j_istore_9 dX10_isWord_16 (n := 18) rfl), (j_iload_9 dX10_isWord_18 (n := 20) rfl), (j_iload_n_1 dX10_isWord_20 (n := 21) rfl), (j_ic_ge dX10_isWord_21 (n := 24) rfl br_21_97), (j_iload_8 dX10_isWord_24 (n := 26) rfl), (j_if_eq dX10_isWord_26 (n := 29) rfl br_26_92), (j_iload_9 dX10_isWord_29 (n := 31) rfl), (j_bipush dX10_isWord_31 (n := 33) rfl kb_6), (j_ic_ge dX10_isWord_33 (n := 36) rfl br_33_85), (j_aload_n_0 dX10_isWord_36 (n := 37) rfl), (j_getf dX10_isWord_37 (n := 40) rfl cF_10_80), (j_aload_n_0 dX10_isWord_40 (n := 41) rfl), (j_getf dX10_isWord_41 (n := 44) rfl cF_10_240), (j_iload_9 dX10_isWord_44 (n := 46) rfl), (j_iadd dX10_isWord_46 (n := 47) rfl), (j_iald dX10_isWord_47 (n := 48) rfl), (j_iload_9 dX10_isWord_48 (n := 50) rfl), (j_if_ne dX10_isWord_50 (n := 53) rfl br_50_7), (j_iload_n_2 dX10_isWord_53 (n := 54) rfl), (j_goto dX10_isWord_54 (n := 57) rfl br_54_48), (j_iload_9 dX10_isWord_57 (n := 59) rfl), (j_iconst dX10_isWord_59 (n := 60) rfl ki_1), (j_ic_ne dX10_isWord_60 (n := 63) rfl br_60_7), (j_iload_n_3 dX10_isWord_63 (n := 64) rfl), (j_goto dX10_isWord_64 (n := 67) rfl br_64_38), (j_iload_9 dX10_isWord_67 (n := 69) rfl), (j_iconst dX10_isWord_69 (n := 70) rfl ki_2), (j_ic_ne dX10_isWord_70 (n := 73) rfl br_70_8), (j_iload_4 dX10_isWord_73 (n := 75) rfl), (j_goto dX10_isWord_75 (n := 78) rfl br_75_27), (j_iload_9 dX10_isWord_78 (n := 80) rfl), (j_iconst dX10_isWord_80 (n := 81) rfl ki_3), (j_ic_ne dX10_isWord_81 (n := 84) rfl br_81_8), (j_iload_5 dX10_isWord_84 (n := 86) rfl), (j_goto dX10_isWord_86 (n := 89) rfl br_86_16), (j_iload_9 dX10_isWord_89 (n := 91) rfl), (j_iconst dX10_isWord_91 (n := 92) rfl ki_4), (j_ic_ne dX10_isWord_92 (n := 95) rfl br_92_8), (j_iload_6 dX10_isWord_95 (n := 97) rfl), (j_goto dX10_isWord_97 (n := 100) rfl br_97_5), (j_iload_7 dX10_isWord_100 (n := 102) rfl), (j_ic_ne dX10_isWord_102 (n := 105) rfl br_102_7), (j_iconst dX10_isWord_105 (n := 106) rfl ki_1), (j_goto dX10_isWord_106 (n := 109) rfl br_106_4), (j_iconst dX10_isWord_109 (n := 110) rfl ki_0), (j_istore_8 dX10_isWord_110 (n := 112) rfl), (j_iinc_9 dX10_isWord_112 (n := 115) rfl ki_1), (j_goto dX10_isWord_115 (n := 118) rfl br_115_m97), (j_iload_8 dX10_isWord_118 (n := 120) rfl), (j_iret dX10_isWord_120 (n := 121) rfl), nl_x, pk_us, h.2.2.2.2.2.2.1]
    have el : (nI lt = nI m) = (lt = m) := propext (nI_eq (a := lt) (b := m) (by omega) (by omega))
    refine ite_i (fun q => ?_) (fun q => ?_) <;> rw [el] at q
    · have := hX _ _ ⟨rfl, rfl⟩
      rw [decide_eq_true q] at this
      exact this
    · have := hX _ _ ⟨rfl, rfl⟩
      rw [decide_eq_false q] at this
      exact this
theorem y_w (hn : n ≤ 160) (w : List Int32) (v a0 a1 a2 a3 a4 a5 : Int32) (hv : v = nI w.length) (hl : w.length ≤ 6) (he : ∀ k, k < w.length → [a0, a1, a2, a3, a4, a5].getD k 0 = w.getD k 0) (h : rdM R0 R n p fr lt o KD F1 F2) (hfl : fr + lt ≤ n) (f : xP) (k : f (bI (spl (R0 93) fr (fr + lt) w)) R) : CI mX10_isWord [.ref (70 : Nat), .int v, .int a0, .int a1, .int a2, .int a3, .int a4, .int a5] R f := by
  subst hv
  refine y_isW hn w.length (by omega) a0 a1 a2 a3 a4 a5 h hfl f ?_
  rw [spl_6 hl he]
  exact k
set_option maxHeartbeats 4000000 in
theorem y_clOf (hn : n ≤ 160) (h : rdM R0 R n p fr lt o KD F1 F2) (hfl : fr + lt ≤ n) (f : xP) (k : f (oN (kwO (R0 93) fr (fr + lt))) R) : CI mX10_clauseOf [.ref (70 : Nat)] R f := by
  unfold kwO at k
  show CI mX10_clauseOf _ _ _
  refine ci_of (T := mX10_clauseOf) (fv := fun _ => True) (ls := [some (.ref (70 : Nat))]) rfl (Nat.le_of_ble_eq_true rfl) (by decide) rfl rfl rfl (ok2_0 cX10_clauseOf 10 90 rfl rfl ?_)
  simp only [sw3_c, sw3_n, Nat.reduceEqDiff, not_false_eq_true, Nat.zero_le, Nat.reduceLeDiff, Nat.reduceLT, Nat.reduceAdd, sg_s, ↓kif_0, ↓kif_c, ↓reduceIte, nl_n, nl_i, nl_r, List.length_cons, List.length_nil, true_and, and_true, upA_s, upA_n, upA_u, Prod.mk.injEq, and_self, oC_70, (j_aload_n_0 dX10_clauseOf_0 (n := 1) rfl), (j_iconst dX10_clauseOf_1 (n := 2) rfl ki_4), (j_bipush dX10_clauseOf_2 (n := 4) rfl kb_110), (j_bipush dX10_clauseOf_4 (n := 6) rfl kb_101), (j_bipush dX10_clauseOf_6 (n := 8) rfl kb_101), (j_bipush dX10_clauseOf_8 (n := 10) rfl kb_100), (j_iconst dX10_clauseOf_10 (n := 11) rfl ki_0), (j_iconst dX10_clauseOf_11 (n := 12) rfl ki_0), (j_cv7i (M := mX10_clauseOf) dX10_clauseOf_12 (n := 15) rfl cM_10_258 (Or.inl rfl) lv_X10_clauseOf_X10_isWord rfl (oc := 10) rfl), (j_if_eq dX10_clauseOf_15 (n := 18) rfl br_15_5), (j_iconst dX10_clauseOf_18 (n := 19) rfl ki_0), (j_iret dX10_clauseOf_19 (n := 20) rfl), (j_aload_n_0 dX10_clauseOf_20 (n := 21) rfl), (j_iconst dX10_clauseOf_21 (n := 22) rfl ki_3), (j_bipush dX10_clauseOf_22 (n := 24) rfl kb_112), (j_bipush dX10_clauseOf_24 (n := 26) rfl kb_97), (j_bipush dX10_clauseOf_26 (n := 28) rfl kb_121), (j_iconst dX10_clauseOf_28 (n := 29) rfl ki_0), (j_iconst dX10_clauseOf_29 (n := 30) rfl ki_0), (j_iconst dX10_clauseOf_30 (n := 31) rfl ki_0), (j_cv7i (M := mX10_clauseOf) dX10_clauseOf_31 (n := 34) rfl cM_10_258 (Or.inl rfl) lv_X10_clauseOf_X10_isWord rfl (oc := 10) rfl), (j_if_eq dX10_clauseOf_34 (n := 37) rfl br_34_5), (j_iconst dX10_clauseOf_37 (n := 38) rfl ki_1), (j_iret dX10_clauseOf_38 (n := 39) rfl), (j_aload_n_0 dX10_clauseOf_39 (n := 40) rfl), (j_iconst dX10_clauseOf_40 (n := 41) rfl ki_4), (j_bipush dX10_clauseOf_41 (n := 43) rfl kb_99), (j_bipush dX10_clauseOf_43 (n := 45) rfl kb_111), (j_bipush dX10_clauseOf_45 (n := 47) rfl kb_115), (j_bipush dX10_clauseOf_47 (n := 49) rfl kb_116), (j_iconst dX10_clauseOf_49 (n := 50) rfl ki_0), (j_iconst dX10_clauseOf_50 (n := 51) rfl ki_0), (j_cv7i (M := mX10_clauseOf) dX10_clauseOf_51 (n := 54) rfl cM_10_258 (Or.inl rfl) lv_X10_clauseOf_X10_isWord rfl (oc := 10) rfl), (j_if_eq dX10_clauseOf_54 (n := 57) rfl br_54_5), (j_iconst dX10_clauseOf_57 (n := 58) rfl ki_2), (j_iret dX10_clauseOf_58 (n := 59) rfl), (j_aload_n_0 dX10_clauseOf_59 (n := 60) rfl), (j_iconst dX10_clauseOf_60 (n := 61) rfl ki_4), (j_bipush dX10_clauseOf_61 (n := 63) rfl kb_102), (j_bipush dX10_clauseOf_63 (n := 65) rfl kb_101), (j_bipush dX10_clauseOf_65 (n := 67) rfl kb_97), (j_bipush dX10_clauseOf_67 (n := 69) rfl kb_114), (j_iconst dX10_clauseOf_69 (n := 70) rfl ki_0), (j_iconst dX10_clauseOf_70 (n := 71) rfl ki_0), (j_cv7i (M := mX10_clauseOf) dX10_clauseOf_71 (n := 74) rfl cM_10_258 (Or.inl rfl) lv_X10_clauseOf_X10_isWord rfl (oc := 10) rfl), (j_if_eq dX10_clauseOf_74 (n := 77) rfl br_74_5), (j_iconst dX10_clauseOf_77 (n := 78) rfl ki_3), (j_iret dX10_clauseOf_78 (n := 79) rfl), (j_aload_n_0 dX10_clauseOf_79 (n := 80) rfl), (j_iconst dX10_clauseOf_80 (n := 81) rfl ki_4), (j_bipush dX10_clauseOf_81 (n := 83) rfl kb_115), (j_bipush dX10_clauseOf_83 (n := 85) rfl kb_108), (j_bipush dX10_clauseOf_85 (n := 87) rfl kb_111), (j_bipush dX10_clauseOf_87 (n := 89) rfl kb_119), (j_iconst dX10_clauseOf_89 (n := 90) rfl ki_0), (j_iconst dX10_clauseOf_90 (n := 91) rfl ki_0), (j_cv7i (M := mX10_clauseOf) dX10_clauseOf_91 (n := 94) rfl cM_10_258 (Or.inl rfl) lv_X10_clauseOf_X10_isWord rfl (oc := 10) rfl), (j_if_eq dX10_clauseOf_94 (n := 97) rfl br_94_5), (j_iconst dX10_clauseOf_97 (n := 98) rfl ki_4), (j_iret dX10_clauseOf_98 (n := 99) rfl), (j_aload_n_0 dX10_clauseOf_99 (n := 100) rfl), (j_bipush dX10_clauseOf_100 (n := 102) rfl kb_6), (j_bipush dX10_clauseOf_102 (n := 104) rfl kb_115), (j_bipush dX10_clauseOf_104 (n := 106) rfl kb_116), (j_bipush dX10_clauseOf_106 (n := 108) rfl kb_114), (j_bipush dX10_clauseOf_108 (n := 110) rfl kb_105), (j_bipush dX10_clauseOf_110 (n := 112) rfl kb_107), (j_bipush dX10_clauseOf_112 (n := 114) rfl kb_101), (j_cv7i (M := mX10_clauseOf) dX10_clauseOf_114 (n := 117) rfl cM_10_258 (Or.inl rfl) lv_X10_clauseOf_X10_isWord rfl (oc := 10) rfl), (j_if_eq dX10_clauseOf_117 (n := 120) rfl br_117_7), (j_iconst dX10_clauseOf_120 (n := 121) rfl ki_5), (j_goto dX10_clauseOf_121 (n := 124) rfl br_121_4), (j_iconst dX10_clauseOf_124 (n := 125) rfl ki_m1), (j_iret dX10_clauseOf_125 (n := 126) rfl), rOk_i (M := mX10_clauseOf) rfl]
  refine y_w hn wNeed _ _ _ _ _ _ _ rfl (by decide) (by decide) h hfl _ ?_
  refine ite_b (fun q => ?_) (fun q => by rw [if_pos q] at k; exact k)
  rw [q, if_neg Bool.false_ne_true] at k
  refine y_w hn wPay _ _ _ _ _ _ _ rfl (by decide) (by decide) h hfl _ ?_
  refine ite_b (fun q => ?_) (fun q => by rw [if_pos q] at k; exact k)
  rw [q, if_neg Bool.false_ne_true] at k
  refine y_w hn wCost _ _ _ _ _ _ _ rfl (by decide) (by decide) h hfl _ ?_
  refine ite_b (fun q => ?_) (fun q => by rw [if_pos q] at k; exact k)
  rw [q, if_neg Bool.false_ne_true] at k
  refine y_w hn wFear _ _ _ _ _ _ _ rfl (by decide) (by decide) h hfl _ ?_
  refine ite_b (fun q => ?_) (fun q => by rw [if_pos q] at k; exact k)
  rw [q, if_neg Bool.false_ne_true] at k
  refine y_w hn wSlow _ _ _ _ _ _ _ rfl (by decide) (by decide) h hfl _ ?_
  refine ite_b (fun q => ?_) (fun q => by rw [if_pos q] at k; exact k)
  rw [q, if_neg Bool.false_ne_true] at k
  refine y_w hn wStrike _ _ _ _ _ _ _ rfl (by decide) (by decide) h hfl _ ?_
  refine ite_b (fun q => ?_) (fun q => by rw [if_pos q] at k; exact k)
  rw [q, if_neg Bool.false_ne_true] at k
  exact k
set_option maxHeartbeats 4000000 in
theorem y_gdOf (hn : n ≤ 160) (h : rdM R0 R n p fr lt o KD F1 F2) (hfl : fr + lt ≤ n) (f : xP) (k : f (oN (gdO (R0 93) fr (fr + lt))) R) : CI mX10_goodOf [.ref (70 : Nat)] R f := by
  unfold gdO at k
  show CI mX10_goodOf _ _ _
  refine ci_of (T := mX10_goodOf) (fv := fun _ => True) (ls := [some (.ref (70 : Nat))]) rfl (Nat.le_of_ble_eq_true rfl) (by decide) rfl rfl rfl (ok2_0 cX10_goodOf 10 90 rfl rfl ?_)
  simp only [sw3_c, sw3_n, Nat.reduceEqDiff, not_false_eq_true, Nat.zero_le, Nat.reduceLeDiff, Nat.reduceLT, Nat.reduceAdd, sg_s, ↓kif_0, ↓kif_c, ↓reduceIte, nl_n, nl_i, nl_r, List.length_cons, List.length_nil, true_and, and_true, upA_s, upA_n, upA_u, Prod.mk.injEq, and_self, oC_70, (j_aload_n_0 dX10_goodOf_0 (n := 1) rfl), (j_iconst dX10_goodOf_1 (n := 2) rfl ki_5), (j_bipush dX10_goodOf_2 (n := 4) rfl kb_98), (j_bipush dX10_goodOf_4 (n := 6) rfl kb_114), (j_bipush dX10_goodOf_6 (n := 8) rfl kb_101), (j_bipush dX10_goodOf_8 (n := 10) rfl kb_97), (j_bipush dX10_goodOf_10 (n := 12) rfl kb_100), (j_iconst dX10_goodOf_12 (n := 13) rfl ki_0), (j_cv7i (M := mX10_goodOf) dX10_goodOf_13 (n := 16) rfl cM_10_258 (Or.inl rfl) lv_X10_goodOf_X10_isWord rfl (oc := 10) rfl), (j_if_eq dX10_goodOf_16 (n := 19) rfl br_16_5), (j_iconst dX10_goodOf_19 (n := 20) rfl ki_0), (j_iret dX10_goodOf_20 (n := 21) rfl), (j_aload_n_0 dX10_goodOf_21 (n := 22) rfl), (j_iconst dX10_goodOf_22 (n := 23) rfl ki_4), (j_bipush dX10_goodOf_23 (n := 25) rfl kb_109), (j_bipush dX10_goodOf_25 (n := 27) rfl kb_105), (j_bipush dX10_goodOf_27 (n := 29) rfl kb_108), (j_bipush dX10_goodOf_29 (n := 31) rfl kb_107), (j_iconst dX10_goodOf_31 (n := 32) rfl ki_0), (j_iconst dX10_goodOf_32 (n := 33) rfl ki_0), (j_cv7i (M := mX10_goodOf) dX10_goodOf_33 (n := 36) rfl cM_10_258 (Or.inl rfl) lv_X10_goodOf_X10_isWord rfl (oc := 10) rfl), (j_if_eq dX10_goodOf_36 (n := 39) rfl br_36_5), (j_iconst dX10_goodOf_39 (n := 40) rfl ki_1), (j_iret dX10_goodOf_40 (n := 41) rfl), (j_aload_n_0 dX10_goodOf_41 (n := 42) rfl), (j_iconst dX10_goodOf_42 (n := 43) rfl ki_4), (j_bipush dX10_goodOf_43 (n := 45) rfl kb_99), (j_bipush dX10_goodOf_45 (n := 47) rfl kb_111), (j_bipush dX10_goodOf_47 (n := 49) rfl kb_97), (j_bipush dX10_goodOf_49 (n := 51) rfl kb_108), (j_iconst dX10_goodOf_51 (n := 52) rfl ki_0), (j_iconst dX10_goodOf_52 (n := 53) rfl ki_0), (j_cv7i (M := mX10_goodOf) dX10_goodOf_53 (n := 56) rfl cM_10_258 (Or.inl rfl) lv_X10_goodOf_X10_isWord rfl (oc := 10) rfl), (j_if_eq dX10_goodOf_56 (n := 59) rfl br_56_7), (j_iconst dX10_goodOf_59 (n := 60) rfl ki_2), (j_goto dX10_goodOf_60 (n := 63) rfl br_60_4), (j_iconst dX10_goodOf_63 (n := 64) rfl ki_m1), (j_iret dX10_goodOf_64 (n := 65) rfl), rOk_i (M := mX10_goodOf) rfl]
  refine y_w hn wBread _ _ _ _ _ _ _ rfl (by decide) (by decide) h hfl _ ?_
  refine ite_b (fun q => ?_) (fun q => by rw [if_pos q] at k; exact k)
  rw [q, if_neg Bool.false_ne_true] at k
  refine y_w hn wMilk _ _ _ _ _ _ _ rfl (by decide) (by decide) h hfl _ ?_
  refine ite_b (fun q => ?_) (fun q => by rw [if_pos q] at k; exact k)
  rw [q, if_neg Bool.false_ne_true] at k
  refine y_w hn wCoal _ _ _ _ _ _ _ rfl (by decide) (by decide) h hfl _ ?_
  refine ite_b (fun q => ?_) (fun q => by rw [if_pos q] at k; exact k)
  rw [q, if_neg Bool.false_ne_true] at k
  exact k
set_option maxHeartbeats 4000000 in
theorem y_stOf (hn : n ≤ 160) (h : rdM R0 R n p fr lt o KD F1 F2) (hfl : fr + lt ≤ n) (f : xP) (k : f (oN (cmO (R0 93) fr (fr + lt))) R) : CI mX10_stampOf [.ref (70 : Nat)] R f := by
  unfold cmO at k
  show CI mX10_stampOf _ _ _
  refine ci_of (T := mX10_stampOf) (fv := fun _ => True) (ls := [some (.ref (70 : Nat))]) rfl (Nat.le_of_ble_eq_true rfl) (by decide) rfl rfl rfl (ok2_0 cX10_stampOf 10 90 rfl rfl ?_)
  simp only [sw3_c, sw3_n, Nat.reduceEqDiff, not_false_eq_true, Nat.zero_le, Nat.reduceLeDiff, Nat.reduceLT, Nat.reduceAdd, sg_s, ↓kif_0, ↓kif_c, ↓reduceIte, nl_n, nl_i, nl_r, List.length_cons, List.length_nil, true_and, and_true, upA_s, upA_n, upA_u, Prod.mk.injEq, and_self, Fr_70_27, Fr_70_32, Ld_93, oA_93, oC_70, oL_70, (j_aload_n_0 dX10_stampOf_0 (n := 1) rfl), (j_bipush dX10_stampOf_1 (n := 3) rfl kb_6), (j_bipush dX10_stampOf_3 (n := 5) rfl kb_111), (j_bipush dX10_stampOf_5 (n := 7) rfl kb_119), (j_bipush dX10_stampOf_7 (n := 9) rfl kb_110), (j_bipush dX10_stampOf_9 (n := 11) rfl kb_101), (j_bipush dX10_stampOf_11 (n := 13) rfl kb_114), (j_bipush dX10_stampOf_13 (n := 15) rfl kb_115), (j_cv7i (M := mX10_stampOf) dX10_stampOf_15 (n := 18) rfl cM_10_258 (Or.inl rfl) lv_X10_stampOf_X10_isWord rfl (oc := 10) rfl), (j_if_eq dX10_stampOf_18 (n := 21) rfl br_18_5), (j_iconst dX10_stampOf_21 (n := 22) rfl ki_0), (j_iret dX10_stampOf_22 (n := 23) rfl), (j_aload_n_0 dX10_stampOf_23 (n := 24) rfl), (j_bipush dX10_stampOf_24 (n := 26) rfl kb_7), (j_bipush dX10_stampOf_26 (n := 28) rfl kb_99), (j_bipush dX10_stampOf_28 (n := 30) rfl kb_111), (j_bipush dX10_stampOf_30 (n := 32) rfl kb_117), (j_bipush dX10_stampOf_32 (n := 34) rfl kb_110), (j_bipush dX10_stampOf_34 (n := 36) rfl kb_99), (j_bipush dX10_stampOf_36 (n := 38) rfl kb_105), (j_cv7i (M := mX10_stampOf) dX10_stampOf_38 (n := 41) rfl cM_10_258 (Or.inl rfl) lv_X10_stampOf_X10_isWord rfl (oc := 10) rfl), (j_if_eq dX10_stampOf_41 (n := 44) rfl br_41_22), (j_aload_n_0 dX10_stampOf_44 (n := 45) rfl), (j_getf dX10_stampOf_45 (n := 48) rfl cF_10_80), (j_aload_n_0 dX10_stampOf_48 (n := 49) rfl), (j_getf dX10_stampOf_49 (n := 52) rfl cF_10_240), (j_bipush dX10_stampOf_52 (n := 54) rfl kb_6), (j_iadd dX10_stampOf_54 (n := 55) rfl), (j_iald dX10_stampOf_55 (n := 56) rfl), (j_bipush dX10_stampOf_56 (n := 58) rfl kb_108), (j_ic_ne dX10_stampOf_58 (n := 61) rfl br_58_5), (j_iconst dX10_stampOf_61 (n := 62) rfl ki_1), (j_iret dX10_stampOf_62 (n := 63) rfl), (j_aload_n_0 dX10_stampOf_63 (n := 64) rfl), (j_iconst dX10_stampOf_64 (n := 65) rfl ki_5), (j_bipush dX10_stampOf_65 (n := 67) rfl kb_117), (j_bipush dX10_stampOf_67 (n := 69) rfl kb_110), (j_bipush dX10_stampOf_69 (n := 71) rfl kb_105), (j_bipush dX10_stampOf_71 (n := 73) rfl kb_111), (j_bipush dX10_stampOf_73 (n := 75) rfl kb_110), (j_iconst dX10_stampOf_75 (n := 76) rfl ki_0), (j_cv7i (M := mX10_stampOf) dX10_stampOf_76 (n := 79) rfl cM_10_258 (Or.inl rfl) lv_X10_stampOf_X10_isWord rfl (oc := 10) rfl), (j_if_eq dX10_stampOf_79 (n := 82) rfl br_79_5), (j_iconst dX10_stampOf_82 (n := 83) rfl ki_2), (j_iret dX10_stampOf_83 (n := 84) rfl), (j_aload_n_0 dX10_stampOf_84 (n := 85) rfl), (j_iconst dX10_stampOf_85 (n := 86) rfl ki_5), (j_bipush dX10_stampOf_86 (n := 88) rfl kb_115), (j_bipush dX10_stampOf_88 (n := 90) rfl kb_116), (j_bipush dX10_stampOf_90 (n := 92) rfl kb_97), (j_bipush dX10_stampOf_92 (n := 94) rfl kb_116), (j_bipush dX10_stampOf_94 (n := 96) rfl kb_101), (j_iconst dX10_stampOf_96 (n := 97) rfl ki_0), (j_cv7i (M := mX10_stampOf) dX10_stampOf_97 (n := 100) rfl cM_10_258 (Or.inl rfl) lv_X10_stampOf_X10_isWord rfl (oc := 10) rfl), (j_if_eq dX10_stampOf_100 (n := 103) rfl br_100_7), (j_iconst dX10_stampOf_103 (n := 104) rfl ki_3), (j_goto dX10_stampOf_104 (n := 107) rfl br_104_4), (j_iconst dX10_stampOf_107 (n := 108) rfl ki_m1), (j_iret dX10_stampOf_108 (n := 109) rfl), rOk_i (M := mX10_stampOf) rfl]
  refine y_w hn wOwners _ _ _ _ _ _ _ rfl (by decide) (by decide) h hfl _ ?_
  refine ite_b (fun q => ?_) (fun q => by rw [if_pos q] at k; exact k)
  rw [q, if_neg Bool.false_ne_true] at k
  refine y_isW hn 7 (by omega) _ _ _ _ _ _ h hfl _ ?_
  have e7 : spl (R0 93) fr (fr + lt) wCouncil = (decide (lt = 7) && spB (R0 93) fr [99, 111, 117, 110, 99, 105] (min 7 6) && decide (R0 93 (fr + 6) = 108)) := by
    unfold spl
    rw [Nat.add_sub_cancel_left, show wCouncil.length = 7 from rfl, spB, show min 7 6 = 6 from rfl, spB_e (w' := [99, 111, 117, 110, 99, 105]) 6 (by decide), Bool.and_assoc]
    rfl
  have go : spl (R0 93) fr (fr + lt) wCouncil = false → CI mX10_isWord [.ref (70 : Nat), .int 5, .int 117, .int 110, .int 105, .int 111, .int 110, .int 0] R (fun x S => if x = 0 then CI mX10_isWord [.ref (70 : Nat), .int 5, .int 115, .int 116, .int 97, .int 116, .int 101, .int 0] S (fun x S => if x = 0 then f (-1) S else f 3 S) else f 2 S) := by
    intro q
    rw [q, if_neg Bool.false_ne_true] at k
    refine y_w hn wUnion _ _ _ _ _ _ _ rfl (by decide) (by decide) h hfl _ ?_
    refine ite_b (fun q => ?_) (fun q => by rw [if_pos q] at k; exact k)
    rw [q, if_neg Bool.false_ne_true] at k
    refine y_w hn wState _ _ _ _ _ _ _ rfl (by decide) (by decide) h hfl _ ?_
    refine ite_b (fun q => ?_) (fun q => by rw [if_pos q] at k; exact k)
    rw [q, if_neg Bool.false_ne_true] at k
    exact k
  refine ite_b (fun q => go (by rw [e7, q, Bool.false_and])) (fun q => ?_)
  have ql : lt = 7 := by rw [Bool.and_eq_true, decide_eq_true_eq] at q; exact q.1
  simp only [h.2.2.2.2.2.1, rdM_93 h, show (6 : Int32) = nI 6 from rfl, nI_add]
  rw [nI_clamp (n := fr + 6) (by omega)]
  refine ⟨vp_in_nI (by omega) (by omega), ite_i (fun q2 => ?_) (fun q2 => go (by rw [e7, decide_eq_false q2, Bool.and_false]))⟩
  rw [if_pos (by rw [e7, q, decide_eq_true q2]; rfl)] at k
  exact k
end RM
