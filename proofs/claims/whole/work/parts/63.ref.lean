-- hours: the reference's way (arrive, callOut, payOut)
def Ev (c : Nat) (Z R : xA) : Prop := ∀ l, l < c → (Z 27 l = R 97 l ∧ 0 ≤ (Z 27 l).toInt ∧ (Z 27 l).toInt ≤ 2) ∧ (Z 28 l = R 98 l ∧ 0 ≤ (Z 28 l).toInt ∧ (Z 28 l).toInt ≤ 999) ∧ (Z 29 l = R 99 l ∧ 0 ≤ (Z 29 l).toInt ∧ (Z 29 l).toInt ≤ 7) ∧ (Z 30 l = R 100 l ∧ 0 ≤ (Z 30 l).toInt ∧ (Z 30 l).toInt ≤ 7) ∧ Z 31 l = R 101 l ∧ Z 32 l = R 102 l
theorem arS_1 (D : Nat) (hour : Int32) (S : xA) (l : Nat) : arS D hour S l (D + 1) = if decide (S (D + 8) l = 1 ∧ S (D + 10) l = hour) = true then upd (S (D + 1)) (shF (S 30) (S 27) l) (mn9 (S (D + 1) (shF (S 30) (S 27) l) + S 28 l)) else S (D + 1) := by
  unfold arS
  split
  · rw [upA_n _ _ (by omega), upA_s]
  · rfl
theorem arS_8 (D : Nat) (hour : Int32) (S : xA) (l : Nat) : arS D hour S l (D + 8) = if decide (S (D + 8) l = 1 ∧ S (D + 10) l = hour) = true then upd (S (D + 8)) l 2 else S (D + 8) := by
  unfold arS
  split
  · rw [upA_s]
  · rfl
theorem mn9_b {v : Int32} (h : 0 ≤ v.toInt) : 0 ≤ (mn9 v).toInt ∧ (mn9 v).toInt ≤ 9999 := by
  unfold mn9
  split
  · next q => rw [lt_I, ti_9999] at q; omega
  · rw [ti_9999]; omega
set_option maxHeartbeats 4000000 in
theorem m_arr (D : Nat) (hD : 32 < D) (hour : Int32) (Z R0 : xA) (f : xA → Prop) (c : Nat) (hc : R0 70 41 = nI c) (hc40 : c ≤ 40) (hE : Ev c Z R0) (h1 : JA 24 9999 (Z (D + 1)) (R0 72)) (h8 : EQ c (Z (D + 8)) (R0 103)) (h10 : EQ c (Z (D + 10)) (R0 105)) (h : ∀ R', frm [72, 103] R0 R' → JA 24 9999 (itZ (arS D hour) Z c (D + 1)) (R' 72) → EQ c (itZ (arS D hour) Z c (D + 8)) (R' 103) → f R') : CV mX10_arrive [.ref (70 : Nat), .int hour] R0 f := by
  refine cv_of (T := mX10_arrive) (f := fun _ _ => True) (ls := [some (.ref (70 : Nat)), some (.int hour), none, none]) rfl (Nat.le_of_ble_eq_true rfl) (by decide) rfl rfl rfl (ok_for cX10_arrive 10 60 2 c (fun l ls R' => (∃ x, ls = [some (.ref (70 : Nat)), some (.int hour), some (.int (nI l)), lx x]) ∧ frm [72, 103] R0 R' ∧ JA 24 9999 (itZ (arS D hour) Z l (D + 1)) (R' 72) ∧ EQ c (itZ (arS D hour) Z l (D + 8)) (R' 103)) rfl rfl ?_ ?_ ?_)
  · intro R hK
    simp only [sw3_c, sw3_n, Nat.reduceEqDiff, not_false_eq_true, Nat.zero_le, Nat.reduceLeDiff, Nat.reduceLT, Nat.reduceAdd, sg_s, ↓kif_0, ↓kif_c, ↓reduceIte, nl_n, nl_i, nl_r, List.length_cons, List.length_nil, true_and, and_true, upA_s, upA_n, upA_u, Prod.mk.injEq, and_self, Fr_70_3, Fr_70_41, Fr_70_42, Fr_70_43, Fr_70_45, Fr_70_48, Fr_70_50, Ld_100, Ld_103, Ld_105, Ld_72, Ld_97, Ld_98, oA_100, oA_103, oA_105, oA_72, oA_97, oA_98, oL_70, (j_iconst dX10_arrive_0 (n := 1) rfl ki_0), (j_istore_n_2 dX10_arrive_1 (n := 2) rfl), (j_iload_n_2 dX10_arrive_2 (n := 3) rfl), (j_aload_n_0 dX10_arrive_3 (n := 4) rfl), (j_getf dX10_arrive_4 (n := 7) rfl cF_10_308), (j_ic_ge dX10_arrive_7 (n := 10) rfl br_7_77), (j_aload_n_0 dX10_arrive_10 (n := 11) rfl), (j_getf dX10_arrive_11 (n := 14) rfl cF_10_114), (j_iload_n_2 dX10_arrive_14 (n := 15) rfl), (j_iald dX10_arrive_15 (n := 16) rfl), (j_iconst dX10_arrive_16 (n := 17) rfl ki_1), (j_ic_ne dX10_arrive_17 (n := 20) rfl br_17_61), (j_aload_n_0 dX10_arrive_20 (n := 21) rfl), (j_getf dX10_arrive_21 (n := 24) rfl cF_10_120), (j_iload_n_2 dX10_arrive_24 (n := 25) rfl), (j_iald dX10_arrive_25 (n := 26) rfl), (j_iload_n_1 dX10_arrive_26 (n := 27) rfl), (j_ic_ne dX10_arrive_27 (n := 30) rfl br_27_51), (j_aload_n_0 dX10_arrive_30 (n := 31) rfl), (j_getf dX10_arrive_31 (n := 34) rfl cF_10_114), (j_iload_n_2 dX10_arrive_34 (n := 35) rfl), (j_iconst dX10_arrive_35 (n := 36) rfl ki_2), (j_iast dX10_arrive_36 (n := 37) rfl), (j_iconst dX10_arrive_37 (n := 38) rfl ki_3), (j_aload_n_0 dX10_arrive_38 (n := 39) rfl), (j_getf dX10_arrive_39 (n := 42) rfl cF_10_105), (j_iload_n_2 dX10_arrive_42 (n := 43) rfl), (j_iald dX10_arrive_43 (n := 44) rfl), (j_imul dX10_arrive_44 (n := 45) rfl), (j_aload_n_0 dX10_arrive_45 (n := 46) rfl), (j_getf dX10_arrive_46 (n := 49) rfl cF_10_96), (j_iload_n_2 dX10_arrive_49 (n := 50) rfl), (j_iald dX10_arrive_50 (n := 51) rfl), (j_iadd dX10_arrive_51 (n := 52) rfl), (j_istore_n_3 dX10_arrive_52 (n := 53) rfl), (j_aload_n_0 dX10_arrive_53 (n := 54) rfl), (j_getf dX10_arrive_54 (n := 57) rfl cF_10_13), (j_iload_n_3 dX10_arrive_57 (n := 58) rfl), (j_sipush dX10_arrive_58 (n := 61) rfl ks_9999), (j_aload_n_0 dX10_arrive_61 (n := 62) rfl), (j_getf dX10_arrive_62 (n := 65) rfl cF_10_13), (j_iload_n_3 dX10_arrive_65 (n := 66) rfl), (j_iald dX10_arrive_66 (n := 67) rfl), (j_aload_n_0 dX10_arrive_67 (n := 68) rfl), (j_getf dX10_arrive_68 (n := 71) rfl cF_10_99), (j_iload_n_2 dX10_arrive_71 (n := 72) rfl), (j_iald dX10_arrive_72 (n := 73) rfl), (j_iadd dX10_arrive_73 (n := 74) rfl), (j_cs2i (M := mX10_arrive) dX10_arrive_74 (n := 77) rfl cM_10_167 (Or.inl rfl) (o := 10) rfl lv_X10_arrive_X10_least rfl), (j_iast dX10_arrive_77 (n := 78) rfl), (j_iinc_2 dX10_arrive_78 (n := 81) rfl ki_1), (j_goto dX10_arrive_81 (n := 84) rfl br_81_m79), (j_ret (M := mX10_arrive) dX10_arrive_84 (n := 85) rfl rfl), nl_x, pk_us]
    exact hK _ _ ⟨⟨none, rfl⟩, frm_rf _ _, h1, h8⟩
  · rintro l hl _ R' ⟨⟨x, rfl⟩, f1, k1, k8⟩ R hK
    obtain ⟨⟨a1, a2, a3⟩, ⟨b1, b2, b3⟩, -, ⟨d1, d2, d3⟩, -⟩ := hE l hl
    have f2 := itZ_f (arS_f D hour) Z l
    have z27 := f2 27 (by simp; omega)
    have z28 := f2 28 (by simp; omega)
    have z30 := f2 30 (by simp; omega)
    have z10 := f2 (D + 10) (by simp)
    have r1 := arS_1 D hour (itZ (arS D hour) Z l) l
    have r8 := arS_8 D hour (itZ (arS D hour) Z l) l
    rw [z27, z28, z30, z10] at r1
    rw [z10] at r8
    have q8 := k8 l hl
    have q10 := h10 l hl
    have hv : vp_in (nI l) 40 := vp_in_nI (by omega) (by omega)
    obtain ⟨v1, v2⟩ := ix3s ⟨d2, d3⟩ ⟨a2, a3⟩
    rw [a1, d1] at v1
    simp only [sw3_c, sw3_n, Nat.reduceEqDiff, not_false_eq_true, Nat.zero_le, Nat.reduceLeDiff, Nat.reduceLT, Nat.reduceAdd, sg_s, ↓kif_0, ↓kif_c, ↓reduceIte, nl_n, nl_i, nl_r, List.length_cons, List.length_nil, true_and, and_true, upA_s, upA_n, upA_u, Prod.mk.injEq, and_self, Fr_70_3, Fr_70_41, Fr_70_42, Fr_70_43, Fr_70_45, Fr_70_48, Fr_70_50, Ld_100, Ld_103, Ld_105, Ld_72, Ld_97, Ld_98, oA_100, oA_103, oA_105, oA_72, oA_97, oA_98, oL_70, (j_iconst dX10_arrive_0 (n := 1) rfl ki_0), (j_istore_n_2 dX10_arrive_1 (n := 2) rfl), (j_iload_n_2 dX10_arrive_2 (n := 3) rfl), (j_aload_n_0 dX10_arrive_3 (n := 4) rfl), (j_getf dX10_arrive_4 (n := 7) rfl cF_10_308), (j_ic_ge dX10_arrive_7 (n := 10) rfl br_7_77), (j_aload_n_0 dX10_arrive_10 (n := 11) rfl), (j_getf dX10_arrive_11 (n := 14) rfl cF_10_114), (j_iload_n_2 dX10_arrive_14 (n := 15) rfl), (j_iald dX10_arrive_15 (n := 16) rfl), (j_iconst dX10_arrive_16 (n := 17) rfl ki_1), (j_ic_ne dX10_arrive_17 (n := 20) rfl br_17_61), (j_aload_n_0 dX10_arrive_20 (n := 21) rfl), (j_getf dX10_arrive_21 (n := 24) rfl cF_10_120), (j_iload_n_2 dX10_arrive_24 (n := 25) rfl), (j_iald dX10_arrive_25 (n := 26) rfl), (j_iload_n_1 dX10_arrive_26 (n := 27) rfl), (j_ic_ne dX10_arrive_27 (n := 30) rfl br_27_51), (j_aload_n_0 dX10_arrive_30 (n := 31) rfl), (j_getf dX10_arrive_31 (n := 34) rfl cF_10_114), (j_iload_n_2 dX10_arrive_34 (n := 35) rfl), (j_iconst dX10_arrive_35 (n := 36) rfl ki_2), (j_iast dX10_arrive_36 (n := 37) rfl), (j_iconst dX10_arrive_37 (n := 38) rfl ki_3), (j_aload_n_0 dX10_arrive_38 (n := 39) rfl), (j_getf dX10_arrive_39 (n := 42) rfl cF_10_105), (j_iload_n_2 dX10_arrive_42 (n := 43) rfl), (j_iald dX10_arrive_43 (n := 44) rfl), (j_imul dX10_arrive_44 (n := 45) rfl), (j_aload_n_0 dX10_arrive_45 (n := 46) rfl), (j_getf dX10_arrive_46 (n := 49) rfl cF_10_96), (j_iload_n_2 dX10_arrive_49 (n := 50) rfl), (j_iald dX10_arrive_50 (n := 51) rfl), (j_iadd dX10_arrive_51 (n := 52) rfl), (j_istore_n_3 dX10_arrive_52 (n := 53) rfl), (j_aload_n_0 dX10_arrive_53 (n := 54) rfl), (j_getf dX10_arrive_54 (n := 57) rfl cF_10_13), (j_iload_n_3 dX10_arrive_57 (n := 58) rfl), (j_sipush dX10_arrive_58 (n := 61) rfl ks_9999), (j_aload_n_0 dX10_arrive_61 (n := 62) rfl), (j_getf dX10_arrive_62 (n := 65) rfl cF_10_13), (j_iload_n_3 dX10_arrive_65 (n := 66) rfl), (j_iald dX10_arrive_66 (n := 67) rfl), (j_aload_n_0 dX10_arrive_67 (n := 68) rfl), (j_getf dX10_arrive_68 (n := 71) rfl cF_10_99), (j_iload_n_2 dX10_arrive_71 (n := 72) rfl), (j_iald dX10_arrive_72 (n := 73) rfl), (j_iadd dX10_arrive_73 (n := 74) rfl), (j_cs2i (M := mX10_arrive) dX10_arrive_74 (n := 77) rfl cM_10_167 (Or.inl rfl) (o := 10) rfl lv_X10_arrive_X10_least rfl), (j_iast dX10_arrive_77 (n := 78) rfl), (j_iinc_2 dX10_arrive_78 (n := 81) rfl ki_1), (j_goto dX10_arrive_81 (n := 84) rfl br_81_m79), (j_ret (M := mX10_arrive) dX10_arrive_84 (n := 85) rfl rfl), nl_x, pk_us, f1 70 (by decide), f1 97 (by decide), f1 98 (by decide), f1 100 (by decide), f1 105 (by decide), hc]
    rw [if_pos (nI_lt hl (by omega)), nI_clamp (n := l) (by omega), nI_1, Int32.mul_comm 3]
    have no : ¬ (R' 103 l = 1 ∧ R0 105 l = hour) → ∀ x, R [some (.ref (70 : Nat)), some (.int hour), some (.int (nI (l + 1))), lx x] [] R' := fun q x => hK _ _ ⟨⟨x, rfl⟩, f1, by rw [itZ, r1, if_neg (by rw [decide_eq_true_eq, q8, q10]; exact q)]; exact k1, by rw [itZ, r8, if_neg (by rw [decide_eq_true_eq, q8, q10]; exact q)]; exact k8⟩
    refine ⟨hv, ite_i (fun q => ⟨hv, ite_i (fun q2 => ⟨hv, hv, hv, v1, hv, ?_⟩) (fun q2 => no (fun w => q2 w.2) x)⟩) (fun q => no (fun w => q w.1) x)⟩
    refine c_least _ _ _ _ ⟨v1, ?_⟩
    have hy : decide (itZ (arS D hour) Z l (D + 8) l = 1 ∧ Z (D + 10) l = hour) = true := by rw [decide_eq_true_eq, q8, q10]; exact ⟨q, q2⟩
    obtain ⟨e1, e2, e3⟩ := k1 _ v2
    refine hK _ _ ⟨⟨some _, rfl⟩, frm_up (frm_up f1 (by decide)) (by decide), ?_, ?_⟩
    · rw [itZ, r1, if_pos hy, upA_s, mn9_m, ← a1, ← d1, ← b1]
      unfold shF
      rw [← e1]
      have hs : 0 ≤ (itZ (arS D hour) Z l (D + 1) (Z 30 l * 3 + Z 27 l).toNatClampNeg + Z 28 l).toInt := by rw [add_I] <;> omega
      exact JA_up k1 (mn9_b hs).1 (mn9_b hs).2
    · rw [itZ, r8, if_pos hy, upA_n _ _ (by decide), upA_s]
      exact EQ_up k8 rfl
  · rintro _ R' ⟨⟨x, rfl⟩, f1, k1, k8⟩ R
    simp only [sw3_c, sw3_n, Nat.reduceEqDiff, not_false_eq_true, Nat.zero_le, Nat.reduceLeDiff, Nat.reduceLT, Nat.reduceAdd, sg_s, ↓kif_0, ↓kif_c, ↓reduceIte, nl_n, nl_i, nl_r, List.length_cons, List.length_nil, true_and, and_true, upA_s, upA_n, upA_u, Prod.mk.injEq, and_self, Fr_70_3, Fr_70_41, Fr_70_42, Fr_70_43, Fr_70_45, Fr_70_48, Fr_70_50, Ld_100, Ld_103, Ld_105, Ld_72, Ld_97, Ld_98, oA_100, oA_103, oA_105, oA_72, oA_97, oA_98, oL_70, (j_iconst dX10_arrive_0 (n := 1) rfl ki_0), (j_istore_n_2 dX10_arrive_1 (n := 2) rfl), (j_iload_n_2 dX10_arrive_2 (n := 3) rfl), (j_aload_n_0 dX10_arrive_3 (n := 4) rfl), (j_getf dX10_arrive_4 (n := 7) rfl cF_10_308), (j_ic_ge dX10_arrive_7 (n := 10) rfl br_7_77), (j_aload_n_0 dX10_arrive_10 (n := 11) rfl), (j_getf dX10_arrive_11 (n := 14) rfl cF_10_114), (j_iload_n_2 dX10_arrive_14 (n := 15) rfl), (j_iald dX10_arrive_15 (n := 16) rfl), (j_iconst dX10_arrive_16 (n := 17) rfl ki_1), (j_ic_ne dX10_arrive_17 (n := 20) rfl br_17_61), (j_aload_n_0 dX10_arrive_20 (n := 21) rfl), (j_getf dX10_arrive_21 (n := 24) rfl cF_10_120), (j_iload_n_2 dX10_arrive_24 (n := 25) rfl), (j_iald dX10_arrive_25 (n := 26) rfl), (j_iload_n_1 dX10_arrive_26 (n := 27) rfl), (j_ic_ne dX10_arrive_27 (n := 30) rfl br_27_51), (j_aload_n_0 dX10_arrive_30 (n := 31) rfl), (j_getf dX10_arrive_31 (n := 34) rfl cF_10_114), (j_iload_n_2 dX10_arrive_34 (n := 35) rfl), (j_iconst dX10_arrive_35 (n := 36) rfl ki_2), (j_iast dX10_arrive_36 (n := 37) rfl), (j_iconst dX10_arrive_37 (n := 38) rfl ki_3), (j_aload_n_0 dX10_arrive_38 (n := 39) rfl), (j_getf dX10_arrive_39 (n := 42) rfl cF_10_105), (j_iload_n_2 dX10_arrive_42 (n := 43) rfl), (j_iald dX10_arrive_43 (n := 44) rfl), (j_imul dX10_arrive_44 (n := 45) rfl), (j_aload_n_0 dX10_arrive_45 (n := 46) rfl), (j_getf dX10_arrive_46 (n := 49) rfl cF_10_96), (j_iload_n_2 dX10_arrive_49 (n := 50) rfl), (j_iald dX10_arrive_50 (n := 51) rfl), (j_iadd dX10_arrive_51 (n := 52) rfl), (j_istore_n_3 dX10_arrive_52 (n := 53) rfl), (j_aload_n_0 dX10_arrive_53 (n := 54) rfl), (j_getf dX10_arrive_54 (n := 57) rfl cF_10_13), (j_iload_n_3 dX10_arrive_57 (n := 58) rfl), (j_sipush dX10_arrive_58 (n := 61) rfl ks_9999), (j_aload_n_0 dX10_arrive_61 (n := 62) rfl), (j_getf dX10_arrive_62 (n := 65) rfl cF_10_13), (j_iload_n_3 dX10_arrive_65 (n := 66) rfl), (j_iald dX10_arrive_66 (n := 67) rfl), (j_aload_n_0 dX10_arrive_67 (n := 68) rfl), (j_getf dX10_arrive_68 (n := 71) rfl cF_10_99), (j_iload_n_2 dX10_arrive_71 (n := 72) rfl), (j_iald dX10_arrive_72 (n := 73) rfl), (j_iadd dX10_arrive_73 (n := 74) rfl), (j_cs2i (M := mX10_arrive) dX10_arrive_74 (n := 77) rfl cM_10_167 (Or.inl rfl) (o := 10) rfl lv_X10_arrive_X10_least rfl), (j_iast dX10_arrive_77 (n := 78) rfl), (j_iinc_2 dX10_arrive_78 (n := 81) rfl ki_1), (j_goto dX10_arrive_81 (n := 84) rfl br_81_m79), (j_ret (M := mX10_arrive) dX10_arrive_84 (n := 85) rfl rfl), nl_x, pk_us, f1 70 (by decide), hc]
    rw [if_neg (nI_nlt (Nat.le_refl _) (by omega))]
    exact h R' f1 k1 k8
theorem i10 : ((1 : Int32) = 0) = False := by decide
theorem coS_4 (D : Nat) (cl : Nat → Bool) (S : xA) (p : Nat) : coS D cl S p (D + 4) = if cl p = true then (if S (D + 11) p = 0 then upd (S (D + 4)) p (S 6 p) else S (D + 4)) else upd (S (D + 4)) p 0 := by
  unfold coS
  rw [upA_n _ _ (by omega)]
  split
  · split
    · rw [upA_s]
    · rfl
  · rw [upA_s]
theorem coS_11 (D : Nat) (cl : Nat → Bool) (S : xA) (p : Nat) : coS D cl S p (D + 11) = upd (S (D + 11)) p (bI (cl p)) := by
  unfold coS
  rw [upA_s]
theorem itZ_11 (D : Nat) (cl : Nat → Bool) (S : xA) : ∀ n, (∀ p, n ≤ p → itZ (coS D cl) S n (D + 11) p = S (D + 11) p) ∧ (∀ p, p < n → itZ (coS D cl) S n (D + 11) p = bI (cl p))
  | 0 => ⟨fun _ _ => rfl, fun p hp => by omega⟩
  | n + 1 => by
    obtain ⟨a, b⟩ := itZ_11 D cl S n
    refine ⟨fun p hp => ?_, fun p hp => ?_⟩
    · rw [itZ, coS_11, upd_n (by omega)]
      exact a p (by omega)
    · rw [itZ, coS_11, upd_t]
      split
      · next e => rw [e]
      · exact b p (by omega)
theorem EQ_r {n : Nat} {a b : Nat → Int32} {k : Nat} (h : EQ n a b) {y : Int32} (hk : k < n → y = a k) : EQ n a (upd b k y) := by
  intro i hi
  rw [upd_t]
  split
  · next e => subst e; exact (hk hi).symm
  · exact h i hi
set_option maxHeartbeats 4000000 in
theorem m_cao (D : Nat) (hD : 32 < D) (hour : Int32) (cl : Nat → Bool) (Z R0 : xA) (f : xA → Prop) (hO : Ord R0) (hm : EQ 48 (Z 6) (R0 77)) (hcl : ∀ p, p < 48 → cl p = cldO R0 (nI (p / 8)) (nI (p % 8)) hour) (hw : ∀ p, p < 48 → Z (D + 11) p = bI (decide (0 < hour) && cldO R0 (nI (p / 8)) (nI (p % 8)) (hour - 1))) (h4 : EQ 48 (Z (D + 4)) (R0 78)) (h : ∀ R', frm [78] R0 R' → EQ 48 (itZ (coS D cl) Z 48 (D + 4)) (R' 78) → f R') : CV mX10_callOut [.ref (70 : Nat), .int hour] R0 f := by
  refine cv_of (T := mX10_callOut) (f := fun _ _ => True) (ls := [some (.ref (70 : Nat)), some (.int hour), none, none, none, none, none]) rfl (Nat.le_of_ble_eq_true rfl) (by decide) rfl rfl rfl (ok_f2 cX10_callOut 10 80 2 10 6 (fun u ls R' => (∃ x y z w, ls = [some (.ref (70 : Nat)), some (.int hour), some (.int (nI u)), lx x, lx y, lx z, lx w]) ∧ frm [78] R0 R' ∧ EQ 48 (itZ (coS D cl) Z (8 * u) (D + 4)) (R' 78)) (fun _ => 8) (fun u t ls R' => (∃ y z w, ls = [some (.ref (70 : Nat)), some (.int hour), some (.int (nI u)), some (.int (nI t)), lx y, lx z, lx w]) ∧ frm [78] R0 R' ∧ EQ 48 (itZ (coS D cl) Z (8 * u + t) (D + 4)) (R' 78)) rfl rfl ?_ ?_ ?_ ?_ ?_)
  · intro R hK
    simp only [sw3_c, sw3_n, Nat.reduceEqDiff, not_false_eq_true, Nat.zero_le, Nat.reduceLeDiff, Nat.reduceLT, Nat.reduceAdd, sg_s, ↓kif_0, ↓kif_c, ↓reduceIte, nl_n, nl_i, nl_r, List.length_cons, List.length_nil, true_and, and_true, upA_s, upA_n, upA_u, Prod.mk.injEq, and_self, Fr_70_8, Fr_70_9, Ld_77, Ld_78, oA_77, oA_78, oC_70, oL_70, (j_iconst dX10_callOut_0 (n := 1) rfl ki_0), (j_istore_n_2 dX10_callOut_1 (n := 2) rfl), (j_iload_n_2 dX10_callOut_2 (n := 3) rfl), (j_bipush dX10_callOut_3 (n := 5) rfl kb_6), (j_ic_ge dX10_callOut_5 (n := 8) rfl br_5_101), (j_iconst dX10_callOut_8 (n := 9) rfl ki_0), (j_istore_n_3 dX10_callOut_9 (n := 10) rfl), (j_iload_n_3 dX10_callOut_10 (n := 11) rfl), (j_bipush dX10_callOut_11 (n := 13) rfl kb_8), (j_ic_ge dX10_callOut_13 (n := 16) rfl br_13_87), (j_bipush dX10_callOut_16 (n := 18) rfl kb_8), (j_iload_n_2 dX10_callOut_18 (n := 19) rfl), (j_imul dX10_callOut_19 (n := 20) rfl), (j_iload_n_3 dX10_callOut_20 (n := 21) rfl), (j_iadd dX10_callOut_21 (n := 22) rfl), (j_istore_4 dX10_callOut_22 (n := 24) rfl), (j_aload_n_0 dX10_callOut_24 (n := 25) rfl), (j_iload_n_2 dX10_callOut_25 (n := 26) rfl), (j_iload_n_3 dX10_callOut_26 (n := 27) rfl), (j_iload_n_1 dX10_callOut_27 (n := 28) rfl), (j_cv3i (M := mX10_callOut) dX10_callOut_28 (n := 31) rfl cM_10_221 (Or.inl rfl) lv_X10_callOut_X10_isCalled rfl (oc := 10) rfl), (j_istore_5 dX10_callOut_31 (n := 33) rfl), (j_iload_n_1 dX10_callOut_33 (n := 34) rfl), (j_if_le dX10_callOut_34 (n := 37) rfl br_34_19), (j_aload_n_0 dX10_callOut_37 (n := 38) rfl), (j_iload_n_2 dX10_callOut_38 (n := 39) rfl), (j_iload_n_3 dX10_callOut_39 (n := 40) rfl), (j_iload_n_1 dX10_callOut_40 (n := 41) rfl), (j_iconst dX10_callOut_41 (n := 42) rfl ki_1), (j_isub dX10_callOut_42 (n := 43) rfl), (j_cv3i (M := mX10_callOut) dX10_callOut_43 (n := 46) rfl cM_10_221 (Or.inl rfl) lv_X10_callOut_X10_isCalled rfl (oc := 10) rfl), (j_if_eq dX10_callOut_46 (n := 49) rfl br_46_7), (j_iconst dX10_callOut_49 (n := 50) rfl ki_1), (j_goto dX10_callOut_50 (n := 53) rfl br_50_4), (j_iconst dX10_callOut_53 (n := 54) rfl ki_0), (j_istore_6 dX10_callOut_54 (n := 56) rfl), (j_aload_n_0 dX10_callOut_56 (n := 57) rfl), (j_getf dX10_callOut_57 (n := 60) rfl cF_10_31), (j_iload_4 dX10_callOut_60 (n := 62) rfl), (j_iload_5 dX10_callOut_62 (n := 64) rfl), (j_if_ne dX10_callOut_64 (n := 67) rfl br_64_7), (j_iconst dX10_callOut_67 (n := 68) rfl ki_0), (j_goto dX10_callOut_68 (n := 71) rfl br_68_25), (j_iload_6 dX10_callOut_71 (n := 73) rfl), (j_if_eq dX10_callOut_73 (n := 76) rfl br_73_13), (j_aload_n_0 dX10_callOut_76 (n := 77) rfl), (j_getf dX10_callOut_77 (n := 80) rfl cF_10_31), (j_iload_4 dX10_callOut_80 (n := 82) rfl), (j_iald dX10_callOut_82 (n := 83) rfl), (j_goto dX10_callOut_83 (n := 86) rfl br_83_10), (j_aload_n_0 dX10_callOut_86 (n := 87) rfl), (j_getf dX10_callOut_87 (n := 90) rfl cF_10_28), (j_iload_4 dX10_callOut_90 (n := 92) rfl), (j_iald dX10_callOut_92 (n := 93) rfl), (j_iast dX10_callOut_93 (n := 94) rfl), (j_iinc_3 dX10_callOut_94 (n := 97) rfl ki_1), (j_goto dX10_callOut_97 (n := 100) rfl br_97_m87), (j_iinc_2 dX10_callOut_100 (n := 103) rfl ki_1), (j_goto dX10_callOut_103 (n := 106) rfl br_103_m101), (j_ret (M := mX10_callOut) dX10_callOut_106 (n := 107) rfl rfl), nl_x, pk_us]
    exact hK _ _ ⟨⟨none, none, none, none, rfl⟩, frm_rf _ _, h4⟩
  · rintro u hu _ R' ⟨⟨x, y, z, w, rfl⟩, f1, k4⟩ R R2 hK hK2
    simp only [sw3_c, sw3_n, Nat.reduceEqDiff, not_false_eq_true, Nat.zero_le, Nat.reduceLeDiff, Nat.reduceLT, Nat.reduceAdd, sg_s, ↓kif_0, ↓kif_c, ↓reduceIte, nl_n, nl_i, nl_r, List.length_cons, List.length_nil, true_and, and_true, upA_s, upA_n, upA_u, Prod.mk.injEq, and_self, Fr_70_8, Fr_70_9, Ld_77, Ld_78, oA_77, oA_78, oC_70, oL_70, (j_iconst dX10_callOut_0 (n := 1) rfl ki_0), (j_istore_n_2 dX10_callOut_1 (n := 2) rfl), (j_iload_n_2 dX10_callOut_2 (n := 3) rfl), (j_bipush dX10_callOut_3 (n := 5) rfl kb_6), (j_ic_ge dX10_callOut_5 (n := 8) rfl br_5_101), (j_iconst dX10_callOut_8 (n := 9) rfl ki_0), (j_istore_n_3 dX10_callOut_9 (n := 10) rfl), (j_iload_n_3 dX10_callOut_10 (n := 11) rfl), (j_bipush dX10_callOut_11 (n := 13) rfl kb_8), (j_ic_ge dX10_callOut_13 (n := 16) rfl br_13_87), (j_bipush dX10_callOut_16 (n := 18) rfl kb_8), (j_iload_n_2 dX10_callOut_18 (n := 19) rfl), (j_imul dX10_callOut_19 (n := 20) rfl), (j_iload_n_3 dX10_callOut_20 (n := 21) rfl), (j_iadd dX10_callOut_21 (n := 22) rfl), (j_istore_4 dX10_callOut_22 (n := 24) rfl), (j_aload_n_0 dX10_callOut_24 (n := 25) rfl), (j_iload_n_2 dX10_callOut_25 (n := 26) rfl), (j_iload_n_3 dX10_callOut_26 (n := 27) rfl), (j_iload_n_1 dX10_callOut_27 (n := 28) rfl), (j_cv3i (M := mX10_callOut) dX10_callOut_28 (n := 31) rfl cM_10_221 (Or.inl rfl) lv_X10_callOut_X10_isCalled rfl (oc := 10) rfl), (j_istore_5 dX10_callOut_31 (n := 33) rfl), (j_iload_n_1 dX10_callOut_33 (n := 34) rfl), (j_if_le dX10_callOut_34 (n := 37) rfl br_34_19), (j_aload_n_0 dX10_callOut_37 (n := 38) rfl), (j_iload_n_2 dX10_callOut_38 (n := 39) rfl), (j_iload_n_3 dX10_callOut_39 (n := 40) rfl), (j_iload_n_1 dX10_callOut_40 (n := 41) rfl), (j_iconst dX10_callOut_41 (n := 42) rfl ki_1), (j_isub dX10_callOut_42 (n := 43) rfl), (j_cv3i (M := mX10_callOut) dX10_callOut_43 (n := 46) rfl cM_10_221 (Or.inl rfl) lv_X10_callOut_X10_isCalled rfl (oc := 10) rfl), (j_if_eq dX10_callOut_46 (n := 49) rfl br_46_7), (j_iconst dX10_callOut_49 (n := 50) rfl ki_1), (j_goto dX10_callOut_50 (n := 53) rfl br_50_4), (j_iconst dX10_callOut_53 (n := 54) rfl ki_0), (j_istore_6 dX10_callOut_54 (n := 56) rfl), (j_aload_n_0 dX10_callOut_56 (n := 57) rfl), (j_getf dX10_callOut_57 (n := 60) rfl cF_10_31), (j_iload_4 dX10_callOut_60 (n := 62) rfl), (j_iload_5 dX10_callOut_62 (n := 64) rfl), (j_if_ne dX10_callOut_64 (n := 67) rfl br_64_7), (j_iconst dX10_callOut_67 (n := 68) rfl ki_0), (j_goto dX10_callOut_68 (n := 71) rfl br_68_25), (j_iload_6 dX10_callOut_71 (n := 73) rfl), (j_if_eq dX10_callOut_73 (n := 76) rfl br_73_13), (j_aload_n_0 dX10_callOut_76 (n := 77) rfl), (j_getf dX10_callOut_77 (n := 80) rfl cF_10_31), (j_iload_4 dX10_callOut_80 (n := 82) rfl), (j_iald dX10_callOut_82 (n := 83) rfl), (j_goto dX10_callOut_83 (n := 86) rfl br_83_10), (j_aload_n_0 dX10_callOut_86 (n := 87) rfl), (j_getf dX10_callOut_87 (n := 90) rfl cF_10_28), (j_iload_4 dX10_callOut_90 (n := 92) rfl), (j_iald dX10_callOut_92 (n := 93) rfl), (j_iast dX10_callOut_93 (n := 94) rfl), (j_iinc_3 dX10_callOut_94 (n := 97) rfl ki_1), (j_goto dX10_callOut_97 (n := 100) rfl br_97_m87), (j_iinc_2 dX10_callOut_100 (n := 103) rfl ki_1), (j_goto dX10_callOut_103 (n := 106) rfl br_103_m101), (j_ret (M := mX10_callOut) dX10_callOut_106 (n := 107) rfl rfl), nl_x, pk_us]
    rw [if_pos (nI_6 hu)]
    exact hK _ _ ⟨⟨y, z, w, rfl⟩, f1, k4⟩
  · rintro u hu t ht _ R' ⟨⟨y, z, w, rfl⟩, f1, k4⟩ R R2 hK hK2
    have f2 := itZ_f (coS_f D cl) Z (8 * u + t)
    have hp : 8 * u + t < 48 := by omega
    have ed : (8 * u + t) / 8 = u := by omega
    have em : (8 * u + t) % 8 = t := by omega
    have r4 := coS_4 D cl (itZ (coS D cl) Z (8 * u + t)) (8 * u + t)
    rw [(itZ_11 D cl Z (8 * u + t)).1 _ (Nat.le_refl _), hw _ hp, f2 6 (by simp; omega), hm _ hp, ed, em, hcl _ hp, ed, em] at r4
    have e8 : 8 * nI u + nI t = nI (8 * u + t) := by rw [show (8 : Int32) = nI 8 from rfl, nI_ml, nI_add]
    have hv : vp_in (nI (8 * u + t)) 48 := vp_in_nI (by omega) (by omega)
    have htt : ¬ ((nI t).toInt < 0 ∨ 8 ≤ (nI t).toInt) := by rw [toInt_nI (by omega)]; omega
    have hc : ∀ S', (∀ q, ¬ q = 78 → S' q = R0 q) → ∀ hr, cldO S' (nI u) (nI t) hr = cldO R0 (nI u) (nI t) hr := fun S' e hr => cldO_c (fun q hq => e q (fun w => by revert hq; rw [w]; decide)) _ _ _
    have f1' : ∀ q, ¬ q = 78 → R' q = R0 q := fun q hq => f1 q (by simp; exact hq)
    have hO' : Ord R' := Ord_c (fun q hq => f1' q (fun w => by revert hq; rw [w]; decide)) hO
    simp only [sw3_c, sw3_n, Nat.reduceEqDiff, not_false_eq_true, Nat.zero_le, Nat.reduceLeDiff, Nat.reduceLT, Nat.reduceAdd, sg_s, ↓kif_0, ↓kif_c, ↓reduceIte, nl_n, nl_i, nl_r, List.length_cons, List.length_nil, true_and, and_true, upA_s, upA_n, upA_u, Prod.mk.injEq, and_self, Fr_70_8, Fr_70_9, Ld_77, Ld_78, oA_77, oA_78, oC_70, oL_70, (j_iconst dX10_callOut_0 (n := 1) rfl ki_0), (j_istore_n_2 dX10_callOut_1 (n := 2) rfl), (j_iload_n_2 dX10_callOut_2 (n := 3) rfl), (j_bipush dX10_callOut_3 (n := 5) rfl kb_6), (j_ic_ge dX10_callOut_5 (n := 8) rfl br_5_101), (j_iconst dX10_callOut_8 (n := 9) rfl ki_0), (j_istore_n_3 dX10_callOut_9 (n := 10) rfl), (j_iload_n_3 dX10_callOut_10 (n := 11) rfl), (j_bipush dX10_callOut_11 (n := 13) rfl kb_8), (j_ic_ge dX10_callOut_13 (n := 16) rfl br_13_87), (j_bipush dX10_callOut_16 (n := 18) rfl kb_8), (j_iload_n_2 dX10_callOut_18 (n := 19) rfl), (j_imul dX10_callOut_19 (n := 20) rfl), (j_iload_n_3 dX10_callOut_20 (n := 21) rfl), (j_iadd dX10_callOut_21 (n := 22) rfl), (j_istore_4 dX10_callOut_22 (n := 24) rfl), (j_aload_n_0 dX10_callOut_24 (n := 25) rfl), (j_iload_n_2 dX10_callOut_25 (n := 26) rfl), (j_iload_n_3 dX10_callOut_26 (n := 27) rfl), (j_iload_n_1 dX10_callOut_27 (n := 28) rfl), (j_cv3i (M := mX10_callOut) dX10_callOut_28 (n := 31) rfl cM_10_221 (Or.inl rfl) lv_X10_callOut_X10_isCalled rfl (oc := 10) rfl), (j_istore_5 dX10_callOut_31 (n := 33) rfl), (j_iload_n_1 dX10_callOut_33 (n := 34) rfl), (j_if_le dX10_callOut_34 (n := 37) rfl br_34_19), (j_aload_n_0 dX10_callOut_37 (n := 38) rfl), (j_iload_n_2 dX10_callOut_38 (n := 39) rfl), (j_iload_n_3 dX10_callOut_39 (n := 40) rfl), (j_iload_n_1 dX10_callOut_40 (n := 41) rfl), (j_iconst dX10_callOut_41 (n := 42) rfl ki_1), (j_isub dX10_callOut_42 (n := 43) rfl), (j_cv3i (M := mX10_callOut) dX10_callOut_43 (n := 46) rfl cM_10_221 (Or.inl rfl) lv_X10_callOut_X10_isCalled rfl (oc := 10) rfl), (j_if_eq dX10_callOut_46 (n := 49) rfl br_46_7), (j_iconst dX10_callOut_49 (n := 50) rfl ki_1), (j_goto dX10_callOut_50 (n := 53) rfl br_50_4), (j_iconst dX10_callOut_53 (n := 54) rfl ki_0), (j_istore_6 dX10_callOut_54 (n := 56) rfl), (j_aload_n_0 dX10_callOut_56 (n := 57) rfl), (j_getf dX10_callOut_57 (n := 60) rfl cF_10_31), (j_iload_4 dX10_callOut_60 (n := 62) rfl), (j_iload_5 dX10_callOut_62 (n := 64) rfl), (j_if_ne dX10_callOut_64 (n := 67) rfl br_64_7), (j_iconst dX10_callOut_67 (n := 68) rfl ki_0), (j_goto dX10_callOut_68 (n := 71) rfl br_68_25), (j_iload_6 dX10_callOut_71 (n := 73) rfl), (j_if_eq dX10_callOut_73 (n := 76) rfl br_73_13), (j_aload_n_0 dX10_callOut_76 (n := 77) rfl), (j_getf dX10_callOut_77 (n := 80) rfl cF_10_31), (j_iload_4 dX10_callOut_80 (n := 82) rfl), (j_iald dX10_callOut_82 (n := 83) rfl), (j_goto dX10_callOut_83 (n := 86) rfl br_83_10), (j_aload_n_0 dX10_callOut_86 (n := 87) rfl), (j_getf dX10_callOut_87 (n := 90) rfl cF_10_28), (j_iload_4 dX10_callOut_90 (n := 92) rfl), (j_iald dX10_callOut_92 (n := 93) rfl), (j_iast dX10_callOut_93 (n := 94) rfl), (j_iinc_3 dX10_callOut_94 (n := 97) rfl ki_1), (j_goto dX10_callOut_97 (n := 100) rfl br_97_m87), (j_iinc_2 dX10_callOut_100 (n := 103) rfl ki_1), (j_goto dX10_callOut_103 (n := 106) rfl br_103_m101), (j_ret (M := mX10_callOut) dX10_callOut_106 (n := 107) rfl rfl), nl_x, pk_us, f1' 77 (by decide)]
    rw [if_pos (nI_8 ht), e8, nI_1, nI_clamp (n := 8 * u + t) (by omega)]
    refine c_isC hO' _ _ _ _ htt ?_
    have fin : ∀ (v : Int32) (y z w : Option Int32), (itZ (coS D cl) Z (8 * u + t + 1) (D + 4) (8 * u + t) = v) → (∀ i, i < 48 → ¬ i = 8 * u + t → itZ (coS D cl) Z (8 * u + t + 1) (D + 4) i = itZ (coS D cl) Z (8 * u + t) (D + 4) i) → R [some (.ref (70 : Nat)), some (.int hour), some (.int (nI u)), some (.int (nI (t + 1))), lx y, lx z, lx w] [] (upA R' 78 (upd (R' 78) (8 * u + t) v)) := by
      intro v y z w e1 e2
      refine hK _ _ ⟨⟨y, z, w, rfl⟩, frm_up f1 (by decide), ?_⟩
      rw [upA_s]
      intro i hi
      rw [upd_t]
      split
      · next e => rw [e]; exact e1
      · next e => rw [show 8 * u + (t + 1) = 8 * u + t + 1 by omega, e2 i hi e]; exact k4 i hi
    have hcc : clD (R' 84) (hld R' (nI u) (nI t) hour 0 (R' 9 7).toNatClampNeg).1 (hld R' (nI u) (nI t) hour 1 (R' 9 7).toNatClampNeg).1 = cldO R0 (nI u) (nI t) hour := hc R' f1' hour
    have hcm : clD (R' 84) (hld R' (nI u) (nI t) (hour - 1) 0 (R' 9 7).toNatClampNeg).1 (hld R' (nI u) (nI t) (hour - 1) 1 (R' 9 7).toNatClampNeg).1 = cldO R0 (nI u) (nI t) (hour - 1) := hc R' f1' (hour - 1)
    rw [hcc]
    have kp := k4 _ hp
    generalize cldO R0 (nI u) (nI t) hour = A at r4 ⊢
    generalize cldO R0 (nI u) (nI t) (hour - 1) = B at r4 hcm
    have up : ∀ v, coS D cl (itZ (coS D cl) Z (8 * u + t)) (8 * u + t) (D + 4) = upd (itZ (coS D cl) Z (8 * u + t) (D + 4)) (8 * u + t) v → ∀ y z w, R [some (.ref (70 : Nat)), some (.int hour), some (.int (nI u)), some (.int (nI (t + 1))), lx y, lx z, lx w] [] (upA R' 78 (upd (R' 78) (8 * u + t) v)) := fun v e y z w => fin v y z w (by rw [itZ, e, pk_us]) (fun i _ hne => by rw [itZ, e, upd_n hne])
    have same : coS D cl (itZ (coS D cl) Z (8 * u + t)) (8 * u + t) (D + 4) = itZ (coS D cl) Z (8 * u + t) (D + 4) → ∀ y z w, R [some (.ref (70 : Nat)), some (.int hour), some (.int (nI u)), some (.int (nI (t + 1))), lx y, lx z, lx w] [] (upA R' 78 (upd (R' 78) (8 * u + t) (R' 78 (8 * u + t)))) := fun e y z w => fin _ y z w (by rw [itZ, e, kp]) (fun i _ hne => by rw [itZ, e])
    refine ite_i (fun hp0 => c_isC hO' _ _ _ _ htt ?_) (fun hp0 => ?_)
    · rw [hcm]
      simp only [f1' 77 (by decide)]
      rw [decide_eq_true hp0, Bool.true_and] at r4
      cases A <;> cases B <;> simp only [bI_f, bI_t, i10, Bool.false_eq_true, if_true, if_false] at r4 ⊢
      · exact ⟨hv, up _ r4 (some _) (some _) (some _)⟩
      · exact ⟨hv, up _ r4 (some _) (some _) (some _)⟩
      · exact ⟨hv, hv, up _ r4 (some _) (some _) (some _)⟩
      · exact ⟨hv, hv, same r4 (some _) (some _) (some _)⟩
    · simp only [f1' 77 (by decide)]
      rw [decide_eq_false hp0, Bool.false_and] at r4
      cases A <;> simp only [bI_f, bI_t, i10, Bool.false_eq_true, if_true, if_false] at r4 ⊢
      · exact ⟨hv, up _ r4 (some _) (some _) (some _)⟩
      · exact ⟨hv, hv, up _ r4 (some _) (some _) (some _)⟩
  · rintro u hu _ R' ⟨⟨y, z, w, rfl⟩, f1, k4⟩ R R2 hK2
    simp only [sw3_c, sw3_n, Nat.reduceEqDiff, not_false_eq_true, Nat.zero_le, Nat.reduceLeDiff, Nat.reduceLT, Nat.reduceAdd, sg_s, ↓kif_0, ↓kif_c, ↓reduceIte, nl_n, nl_i, nl_r, List.length_cons, List.length_nil, true_and, and_true, upA_s, upA_n, upA_u, Prod.mk.injEq, and_self, Fr_70_8, Fr_70_9, Ld_77, Ld_78, oA_77, oA_78, oC_70, oL_70, (j_iconst dX10_callOut_0 (n := 1) rfl ki_0), (j_istore_n_2 dX10_callOut_1 (n := 2) rfl), (j_iload_n_2 dX10_callOut_2 (n := 3) rfl), (j_bipush dX10_callOut_3 (n := 5) rfl kb_6), (j_ic_ge dX10_callOut_5 (n := 8) rfl br_5_101), (j_iconst dX10_callOut_8 (n := 9) rfl ki_0), (j_istore_n_3 dX10_callOut_9 (n := 10) rfl), (j_iload_n_3 dX10_callOut_10 (n := 11) rfl), (j_bipush dX10_callOut_11 (n := 13) rfl kb_8), (j_ic_ge dX10_callOut_13 (n := 16) rfl br_13_87), (j_bipush dX10_callOut_16 (n := 18) rfl kb_8), (j_iload_n_2 dX10_callOut_18 (n := 19) rfl), (j_imul dX10_callOut_19 (n := 20) rfl), (j_iload_n_3 dX10_callOut_20 (n := 21) rfl), (j_iadd dX10_callOut_21 (n := 22) rfl), (j_istore_4 dX10_callOut_22 (n := 24) rfl), (j_aload_n_0 dX10_callOut_24 (n := 25) rfl), (j_iload_n_2 dX10_callOut_25 (n := 26) rfl), (j_iload_n_3 dX10_callOut_26 (n := 27) rfl), (j_iload_n_1 dX10_callOut_27 (n := 28) rfl), (j_cv3i (M := mX10_callOut) dX10_callOut_28 (n := 31) rfl cM_10_221 (Or.inl rfl) lv_X10_callOut_X10_isCalled rfl (oc := 10) rfl), (j_istore_5 dX10_callOut_31 (n := 33) rfl), (j_iload_n_1 dX10_callOut_33 (n := 34) rfl), (j_if_le dX10_callOut_34 (n := 37) rfl br_34_19), (j_aload_n_0 dX10_callOut_37 (n := 38) rfl), (j_iload_n_2 dX10_callOut_38 (n := 39) rfl), (j_iload_n_3 dX10_callOut_39 (n := 40) rfl), (j_iload_n_1 dX10_callOut_40 (n := 41) rfl), (j_iconst dX10_callOut_41 (n := 42) rfl ki_1), (j_isub dX10_callOut_42 (n := 43) rfl), (j_cv3i (M := mX10_callOut) dX10_callOut_43 (n := 46) rfl cM_10_221 (Or.inl rfl) lv_X10_callOut_X10_isCalled rfl (oc := 10) rfl), (j_if_eq dX10_callOut_46 (n := 49) rfl br_46_7), (j_iconst dX10_callOut_49 (n := 50) rfl ki_1), (j_goto dX10_callOut_50 (n := 53) rfl br_50_4), (j_iconst dX10_callOut_53 (n := 54) rfl ki_0), (j_istore_6 dX10_callOut_54 (n := 56) rfl), (j_aload_n_0 dX10_callOut_56 (n := 57) rfl), (j_getf dX10_callOut_57 (n := 60) rfl cF_10_31), (j_iload_4 dX10_callOut_60 (n := 62) rfl), (j_iload_5 dX10_callOut_62 (n := 64) rfl), (j_if_ne dX10_callOut_64 (n := 67) rfl br_64_7), (j_iconst dX10_callOut_67 (n := 68) rfl ki_0), (j_goto dX10_callOut_68 (n := 71) rfl br_68_25), (j_iload_6 dX10_callOut_71 (n := 73) rfl), (j_if_eq dX10_callOut_73 (n := 76) rfl br_73_13), (j_aload_n_0 dX10_callOut_76 (n := 77) rfl), (j_getf dX10_callOut_77 (n := 80) rfl cF_10_31), (j_iload_4 dX10_callOut_80 (n := 82) rfl), (j_iald dX10_callOut_82 (n := 83) rfl), (j_goto dX10_callOut_83 (n := 86) rfl br_83_10), (j_aload_n_0 dX10_callOut_86 (n := 87) rfl), (j_getf dX10_callOut_87 (n := 90) rfl cF_10_28), (j_iload_4 dX10_callOut_90 (n := 92) rfl), (j_iald dX10_callOut_92 (n := 93) rfl), (j_iast dX10_callOut_93 (n := 94) rfl), (j_iinc_3 dX10_callOut_94 (n := 97) rfl ki_1), (j_goto dX10_callOut_97 (n := 100) rfl br_97_m87), (j_iinc_2 dX10_callOut_100 (n := 103) rfl ki_1), (j_goto dX10_callOut_103 (n := 106) rfl br_103_m101), (j_ret (M := mX10_callOut) dX10_callOut_106 (n := 107) rfl rfl), nl_x, pk_us]
    rw [if_neg (by decide), nI_1]
    exact hK2 _ _ ⟨⟨some _, y, z, w, rfl⟩, f1, by rw [show 8 * (u + 1) = 8 * u + 8 by omega]; exact k4⟩
  · rintro _ R' ⟨⟨x, y, z, w, rfl⟩, f1, k4⟩ R R2
    simp only [sw3_c, sw3_n, Nat.reduceEqDiff, not_false_eq_true, Nat.zero_le, Nat.reduceLeDiff, Nat.reduceLT, Nat.reduceAdd, sg_s, ↓kif_0, ↓kif_c, ↓reduceIte, nl_n, nl_i, nl_r, List.length_cons, List.length_nil, true_and, and_true, upA_s, upA_n, upA_u, Prod.mk.injEq, and_self, Fr_70_8, Fr_70_9, Ld_77, Ld_78, oA_77, oA_78, oC_70, oL_70, (j_iconst dX10_callOut_0 (n := 1) rfl ki_0), (j_istore_n_2 dX10_callOut_1 (n := 2) rfl), (j_iload_n_2 dX10_callOut_2 (n := 3) rfl), (j_bipush dX10_callOut_3 (n := 5) rfl kb_6), (j_ic_ge dX10_callOut_5 (n := 8) rfl br_5_101), (j_iconst dX10_callOut_8 (n := 9) rfl ki_0), (j_istore_n_3 dX10_callOut_9 (n := 10) rfl), (j_iload_n_3 dX10_callOut_10 (n := 11) rfl), (j_bipush dX10_callOut_11 (n := 13) rfl kb_8), (j_ic_ge dX10_callOut_13 (n := 16) rfl br_13_87), (j_bipush dX10_callOut_16 (n := 18) rfl kb_8), (j_iload_n_2 dX10_callOut_18 (n := 19) rfl), (j_imul dX10_callOut_19 (n := 20) rfl), (j_iload_n_3 dX10_callOut_20 (n := 21) rfl), (j_iadd dX10_callOut_21 (n := 22) rfl), (j_istore_4 dX10_callOut_22 (n := 24) rfl), (j_aload_n_0 dX10_callOut_24 (n := 25) rfl), (j_iload_n_2 dX10_callOut_25 (n := 26) rfl), (j_iload_n_3 dX10_callOut_26 (n := 27) rfl), (j_iload_n_1 dX10_callOut_27 (n := 28) rfl), (j_cv3i (M := mX10_callOut) dX10_callOut_28 (n := 31) rfl cM_10_221 (Or.inl rfl) lv_X10_callOut_X10_isCalled rfl (oc := 10) rfl), (j_istore_5 dX10_callOut_31 (n := 33) rfl), (j_iload_n_1 dX10_callOut_33 (n := 34) rfl), (j_if_le dX10_callOut_34 (n := 37) rfl br_34_19), (j_aload_n_0 dX10_callOut_37 (n := 38) rfl), (j_iload_n_2 dX10_callOut_38 (n := 39) rfl), (j_iload_n_3 dX10_callOut_39 (n := 40) rfl), (j_iload_n_1 dX10_callOut_40 (n := 41) rfl), (j_iconst dX10_callOut_41 (n := 42) rfl ki_1), (j_isub dX10_callOut_42 (n := 43) rfl), (j_cv3i (M := mX10_callOut) dX10_callOut_43 (n := 46) rfl cM_10_221 (Or.inl rfl) lv_X10_callOut_X10_isCalled rfl (oc := 10) rfl), (j_if_eq dX10_callOut_46 (n := 49) rfl br_46_7), (j_iconst dX10_callOut_49 (n := 50) rfl ki_1), (j_goto dX10_callOut_50 (n := 53) rfl br_50_4), (j_iconst dX10_callOut_53 (n := 54) rfl ki_0), (j_istore_6 dX10_callOut_54 (n := 56) rfl), (j_aload_n_0 dX10_callOut_56 (n := 57) rfl), (j_getf dX10_callOut_57 (n := 60) rfl cF_10_31), (j_iload_4 dX10_callOut_60 (n := 62) rfl), (j_iload_5 dX10_callOut_62 (n := 64) rfl), (j_if_ne dX10_callOut_64 (n := 67) rfl br_64_7), (j_iconst dX10_callOut_67 (n := 68) rfl ki_0), (j_goto dX10_callOut_68 (n := 71) rfl br_68_25), (j_iload_6 dX10_callOut_71 (n := 73) rfl), (j_if_eq dX10_callOut_73 (n := 76) rfl br_73_13), (j_aload_n_0 dX10_callOut_76 (n := 77) rfl), (j_getf dX10_callOut_77 (n := 80) rfl cF_10_31), (j_iload_4 dX10_callOut_80 (n := 82) rfl), (j_iald dX10_callOut_82 (n := 83) rfl), (j_goto dX10_callOut_83 (n := 86) rfl br_83_10), (j_aload_n_0 dX10_callOut_86 (n := 87) rfl), (j_getf dX10_callOut_87 (n := 90) rfl cF_10_28), (j_iload_4 dX10_callOut_90 (n := 92) rfl), (j_iald dX10_callOut_92 (n := 93) rfl), (j_iast dX10_callOut_93 (n := 94) rfl), (j_iinc_3 dX10_callOut_94 (n := 97) rfl ki_1), (j_goto dX10_callOut_97 (n := 100) rfl br_97_m87), (j_iinc_2 dX10_callOut_100 (n := 103) rfl ki_1), (j_goto dX10_callOut_103 (n := 106) rfl br_103_m101), (j_ret (M := mX10_callOut) dX10_callOut_106 (n := 107) rfl rfl), nl_x, pk_us]
    rw [if_neg (by decide)]
    exact h R' f1 k4
-- payOut
theorem py_4 (D : Nat) (S : xA) (p : Nat) : pdS D S p (D + 4) = if pdU (pdA (S (D + 12) 3) (S (D + 4) p) (S (D + 7) (p / 8))) (S (D + 4) p) (S (D + 12) 3) (S (D + 12) 4) (S (D + 5) p) < 0 then upd (S (D + 4)) p (S (D + 4) p - pdG (S (D + 4) p) (S (D + 12) 5)) else S (D + 4) := by
  unfold pdS
  split
  · rw [upA_n _ _ (by omega), upA_s]
  · rw [upA_n _ _ (by omega), upA_n _ _ (by omega)]
theorem py_5 (D : Nat) (S : xA) (p : Nat) : pdS D S p (D + 5) = if pdU (pdA (S (D + 12) 3) (S (D + 4) p) (S (D + 7) (p / 8))) (S (D + 4) p) (S (D + 12) 3) (S (D + 12) 4) (S (D + 5) p) < 0 then upd (S (D + 5)) p 0 else upd (S (D + 5)) p (pdU (pdA (S (D + 12) 3) (S (D + 4) p) (S (D + 7) (p / 8))) (S (D + 4) p) (S (D + 12) 3) (S (D + 12) 4) (S (D + 5) p)) := by
  unfold pdS
  split
  · rw [upA_n _ _ (by omega), upA_n _ _ (by omega), upA_s]
  · rw [upA_s]
theorem py_6 (D : Nat) (S : xA) (p : Nat) : pdS D S p (D + 6) = if pdU (pdA (S (D + 12) 3) (S (D + 4) p) (S (D + 7) (p / 8))) (S (D + 4) p) (S (D + 12) 3) (S (D + 12) 4) (S (D + 5) p) < 0 then upd (S (D + 6)) p (S (D + 6) p + pdG (S (D + 4) p) (S (D + 12) 5)) else S (D + 6) := by
  unfold pdS
  split
  · rw [upA_s]
  · rw [upA_n _ _ (by omega), upA_n _ _ (by omega)]
theorem py_7 (D : Nat) (S : xA) (p : Nat) : pdS D S p (D + 7) = upd (S (D + 7)) (p / 8) (S (D + 7) (p / 8) - pdA (S (D + 12) 3) (S (D + 4) p) (S (D + 7) (p / 8)) * S (D + 12) 3) := by
  unfold pdS
  split
  · rw [upA_n _ _ (by omega), upA_n _ _ (by omega), upA_n _ _ (by omega), upA_s]
  · rw [upA_n _ _ (by omega), upA_s]
theorem pdA_b {pay heads fu : Int32} (hp : 0 ≤ pay.toInt ∧ pay.toInt ≤ 99) (hh : 0 < heads.toInt) (hf : 0 ≤ fu.toInt ∧ fu.toInt ≤ 99999) : 0 ≤ (fu - pdA pay heads fu * pay).toInt ∧ (fu - pdA pay heads fu * pay).toInt ≤ 99999 := by
  unfold pdA
  by_cases e : pay = 0
  · subst e
    rw [if_pos rfl, Int32.mul_zero, Int32.sub_zero]
    exact hf
  · rw [if_neg e]
    have e0 : ¬ pay.toInt = 0 := fun w => e (Int32.toInt_inj.mp (by rw [w, ti_0]))
    have d1 : (fu / pay).toInt = fu.toInt / pay.toInt := by
      rw [Int32.toInt_div, Int.tdiv_eq_ediv_of_nonneg hf.1]
      have := Int.ediv_le_self pay.toInt hf.1
      have := Int.ediv_nonneg hf.1 hp.1
      exact Int.bmod_eq_of_le (by omega) (by omega)
    have d2 : fu.toInt / pay.toInt * pay.toInt ≤ fu.toInt := Int.ediv_mul_le _ e0
    have d3 : 0 ≤ fu.toInt / pay.toInt := Int.ediv_nonneg hf.1 hp.1
    have key : ∀ x : Int32, 0 ≤ x.toInt → x.toInt ≤ fu.toInt / pay.toInt → 0 ≤ (fu - x * pay).toInt ∧ (fu - x * pay).toInt ≤ 99999 := by
      intro x h0 h1
      have m1 : x.toInt * pay.toInt ≤ fu.toInt / pay.toInt * pay.toInt := Int.mul_le_mul_of_nonneg_right h1 hp.1
      have m2 : 0 ≤ x.toInt * pay.toInt := Int.mul_nonneg h0 hp.1
      have m3 : (x * pay).toInt = x.toInt * pay.toInt := by rw [mul_I] <;> omega
      rw [sub_I] <;> rw [m3] <;> omega
    split
    · exact key _ (by rw [d1]; exact d3) (by rw [d1]; omega)
    · next q =>
      rw [lt_I, d1] at q
      exact key _ (by omega) (by omega)
theorem pdA_l (pay heads fu : Int32) : pdA pay heads fu = if pay = 0 then heads else if heads < fu / pay then heads else fu / pay := by
  unfold pdA
  split
  · rfl
  · by_cases q : fu / pay < heads
    · rw [if_pos q, if_neg (by rw [lt_I] at q ⊢; omega)]
    · rw [if_neg q]
      split
      · rfl
      · next w =>
        rw [lt_I] at q w
        exact Int32.toInt_inj.mp (by omega)
theorem pdG_l (heads fear : Int32) : pdG heads fear = if heads * fear / 100 < 1 then 1 else heads * fear / 100 := by
  unfold pdG
  generalize heads * fear / 100 = v
  by_cases q : 1 < v
  · rw [if_pos q, if_neg (by rw [lt_I] at q ⊢; omega)]
  · rw [if_neg q]
    split
    · rfl
    · next w =>
      rw [lt_I] at q w
      exact Int32.toInt_inj.mp (by omega)
set_option maxHeartbeats 4000000 in
theorem m_pay1 (D u t : Nat) (x : Bool) (Z R : xA) (f : xA → Prop) (hu : u < 6) (ht : t < 8) (hf : ∀ i, i < 7 → vw R i = Z (D + 12) i) (hb : fB (Z (D + 12))) (hpos : 0 < Z (D + 4) (8 * u + t)) (h4 : EQ 48 (Z (D + 4)) (R 78)) (h5 : EQ 48 (Z (D + 5)) (R 79)) (h6 : x = true → EQ 48 (Z (D + 6)) (R 80)) (h7 : JA 6 99999 (Z (D + 7)) (R 81)) (h : ∀ R', frm [78, 79, 80, 81] R R' → EQ 48 (pdS D Z (8 * u + t) (D + 4)) (R' 78) → EQ 48 (pdS D Z (8 * u + t) (D + 5)) (R' 79) → (x = true → EQ 48 (pdS D Z (8 * u + t) (D + 6)) (R' 80)) → JA 6 99999 (pdS D Z (8 * u + t) (D + 7)) (R' 81) → f R') : CV mX10_payOut [.ref (70 : Nat), .int (nI u), .int (nI t)] R f := by
  have hp : 8 * u + t < 48 := by omega
  have ed : (8 * u + t) / 8 = u := by omega
  have e8 : 8 * nI u + nI t = nI (8 * u + t) := by rw [show (8 : Int32) = nI 8 from rfl, nI_ml, nI_add]
  have hv : vp_in (nI (8 * u + t)) 48 := vp_in_nI (by omega) (by omega)
  have hv6 : vp_in (nI u) 6 := vp_in_nI (by omega) (by omega)
  have p3 : R 70 37 = Z (D + 12) 3 := hf 3 (by omega)
  have p4 : R 70 38 = Z (D + 12) 4 := hf 4 (by omega)
  have p5 : R 70 39 = Z (D + 12) 5 := hf 5 (by omega)
  have b3 : 0 ≤ (Z (D + 12) 3).toInt ∧ (Z (D + 12) 3).toInt ≤ 99 := hb 3 (by omega)
  have r4 := py_4 D Z (8 * u + t)
  have r5 := py_5 D Z (8 * u + t)
  have r6 := py_6 D Z (8 * u + t)
  have r7 := py_7 D Z (8 * u + t)
  rw [ed] at r4 r5 r6 r7
  have q4 := h4 _ hp
  have q5 := h5 _ hp
  obtain ⟨q7, q7a, q7b⟩ := h7 u hu
  have j7 := pdA_b b3 (by rw [lt_I, ti_0] at hpos; exact hpos) ⟨q7a, q7b⟩
  have pl := pdA_l (Z (D + 12) 3) (Z (D + 4) (8 * u + t)) (Z (D + 7) u)
  generalize pdA (Z (D + 12) 3) (Z (D + 4) (8 * u + t)) (Z (D + 7) u) = P at r4 r5 r6 r7 j7 pl
  refine cv_of (T := mX10_payOut) (f := fun _ _ => True) (ls := [some (.ref (70 : Nat)), some (.int (nI u)), some (.int (nI t)), none, none, none, none]) rfl (Nat.le_of_ble_eq_true rfl) (by decide) rfl rfl rfl (ok2_to cX10_payOut 10 90 63 (fun ls S' => ls = [some (.ref (70 : Nat)), some (.int (nI u)), some (.int (nI t)), some (.int (nI (8 * u + t))), some (.int P), some (.int (bI (decide (P = Z (D + 4) (8 * u + t))))), none] ∧ R = S') rfl rfl ?_ ?_)
  · rintro _ _ ⟨rfl, rfl⟩
    refine ok2_0 cX10_payOut 10 90 rfl rfl ?_
    simp only [sw3_c, sw3_n, Nat.reduceEqDiff, not_false_eq_true, Nat.zero_le, Nat.reduceLeDiff, Nat.reduceLT, Nat.reduceAdd, sg_s, ↓kif_0, ↓kif_c, ↓reduceIte, nl_n, nl_i, nl_r, List.length_cons, List.length_nil, true_and, and_true, upA_s, upA_n, upA_u, Prod.mk.injEq, and_self, Fr_70_10, Fr_70_11, Fr_70_12, Fr_70_37, Fr_70_38, Fr_70_39, Fr_70_9, Ld_78, Ld_79, Ld_80, Ld_81, oA_78, oA_79, oA_80, oA_81, oL_70, (j_bipush dX10_payOut_0 (n := 2) rfl kb_8), (j_iload_n_1 dX10_payOut_2 (n := 3) rfl), (j_imul dX10_payOut_3 (n := 4) rfl), (j_iload_n_2 dX10_payOut_4 (n := 5) rfl), (j_iadd dX10_payOut_5 (n := 6) rfl), (j_istore_n_3 dX10_payOut_6 (n := 7) rfl), (j_aload_n_0 dX10_payOut_7 (n := 8) rfl), (j_getf dX10_payOut_8 (n := 11) rfl cF_10_288), (j_if_ne dX10_payOut_11 (n := 14) rfl br_11_12), (j_aload_n_0 dX10_payOut_14 (n := 15) rfl), (j_getf dX10_payOut_15 (n := 18) rfl cF_10_31), (j_iload_n_3 dX10_payOut_18 (n := 19) rfl), (j_iald dX10_payOut_19 (n := 20) rfl), (j_goto dX10_payOut_20 (n := 23) rfl br_20_23), (j_aload_n_0 dX10_payOut_23 (n := 24) rfl), (j_getf dX10_payOut_24 (n := 27) rfl cF_10_31), (j_iload_n_3 dX10_payOut_27 (n := 28) rfl), (j_iald dX10_payOut_28 (n := 29) rfl), (j_aload_n_0 dX10_payOut_29 (n := 30) rfl), (j_getf dX10_payOut_30 (n := 33) rfl cF_10_40), (j_iload_n_1 dX10_payOut_33 (n := 34) rfl), (j_iald dX10_payOut_34 (n := 35) rfl), (j_aload_n_0 dX10_payOut_35 (n := 36) rfl), (j_getf dX10_payOut_36 (n := 39) rfl cF_10_288), (j_idiv dX10_payOut_39 (n := 40) rfl), (j_cs2i (M := mX10_payOut) dX10_payOut_40 (n := 43) rfl cM_10_167 (Or.inl rfl) (o := 10) rfl lv_X10_payOut_X10_least rfl), (j_istore_4 dX10_payOut_43 (n := 45) rfl), (j_iload_4 dX10_payOut_45 (n := 47) rfl), (j_aload_n_0 dX10_payOut_47 (n := 48) rfl), (j_getf dX10_payOut_48 (n := 51) rfl cF_10_31), (j_iload_n_3 dX10_payOut_51 (n := 52) rfl), (j_iald dX10_payOut_52 (n := 53) rfl), (j_ic_ne dX10_payOut_53 (n := 56) rfl br_53_7), (j_iconst dX10_payOut_56 (n := 57) rfl ki_1), (j_goto dX10_payOut_57 (n := 60) rfl br_57_4), (j_iconst dX10_payOut_60 (n := 61) rfl ki_0), (j_istore_5 dX10_payOut_61 (n := 63) rfl), (j_aload_n_0 dX10_payOut_63 (n := 64) rfl), (j_getf dX10_payOut_64 (n := 67) rfl cF_10_40), (j_iload_n_1 dX10_payOut_67 (n := 68) rfl), (j_dup2_ir dX10_payOut_68 (n := 69) rfl), (j_iald dX10_payOut_69 (n := 70) rfl), (j_iload_4 dX10_payOut_70 (n := 72) rfl), (j_aload_n_0 dX10_payOut_72 (n := 73) rfl), (j_getf dX10_payOut_73 (n := 76) rfl cF_10_288), (j_imul dX10_payOut_76 (n := 77) rfl), (j_isub dX10_payOut_77 (n := 78) rfl), (j_iast dX10_payOut_78 (n := 79) rfl), (j_aload_n_0 dX10_payOut_79 (n := 80) rfl), (j_getf dX10_payOut_80 (n := 83) rfl cF_10_34), (j_iload_n_3 dX10_payOut_83 (n := 84) rfl), (j_dup2_ir dX10_payOut_84 (n := 85) rfl), (j_iald dX10_payOut_85 (n := 86) rfl), (j_iload_5 dX10_payOut_86 (n := 88) rfl), (j_if_eq dX10_payOut_88 (n := 91) rfl br_88_10), (j_aload_n_0 dX10_payOut_91 (n := 92) rfl), (j_getf dX10_payOut_92 (n := 95) rfl cF_10_288), (j_goto dX10_payOut_95 (n := 98) rfl br_95_4), (j_iconst dX10_payOut_98 (n := 99) rfl ki_0), (j_aload_n_0 dX10_payOut_99 (n := 100) rfl), (j_getf dX10_payOut_100 (n := 103) rfl cF_10_291), (j_isub dX10_payOut_103 (n := 104) rfl), (j_iadd dX10_payOut_104 (n := 105) rfl), (j_iast dX10_payOut_105 (n := 106) rfl), (j_aload_n_0 dX10_payOut_106 (n := 107) rfl), (j_getf dX10_payOut_107 (n := 110) rfl cF_10_34), (j_iload_n_3 dX10_payOut_110 (n := 111) rfl), (j_iald dX10_payOut_111 (n := 112) rfl), (j_if_ge dX10_payOut_112 (n := 115) rfl br_112_62), (j_aload_n_0 dX10_payOut_115 (n := 116) rfl), (j_getf dX10_payOut_116 (n := 119) rfl cF_10_34), (j_iload_n_3 dX10_payOut_119 (n := 120) rfl), (j_iconst dX10_payOut_120 (n := 121) rfl ki_0), (j_iast dX10_payOut_121 (n := 122) rfl), (j_aload_n_0 dX10_payOut_122 (n := 123) rfl), (j_getf dX10_payOut_123 (n := 126) rfl cF_10_31), (j_iload_n_3 dX10_payOut_126 (n := 127) rfl), (j_iald dX10_payOut_127 (n := 128) rfl), (j_aload_n_0 dX10_payOut_128 (n := 129) rfl), (j_getf dX10_payOut_129 (n := 132) rfl cF_10_294), (j_imul dX10_payOut_132 (n := 133) rfl), (j_bipush dX10_payOut_133 (n := 135) rfl kb_100), (j_idiv dX10_payOut_135 (n := 136) rfl), (j_istore_6 dX10_payOut_136 (n := 138) rfl), (j_iload_6 dX10_payOut_138 (n := 140) rfl), (j_iconst dX10_payOut_140 (n := 141) rfl ki_1), (j_ic_ge dX10_payOut_141 (n := 144) rfl br_141_7), (j_iconst dX10_payOut_144 (n := 145) rfl ki_1), (j_goto dX10_payOut_145 (n := 148) rfl br_145_5), (j_iload_6 dX10_payOut_148 (n := 150) rfl), (j_istore_6 dX10_payOut_150 (n := 152) rfl), (j_aload_n_0 dX10_payOut_152 (n := 153) rfl), (j_getf dX10_payOut_153 (n := 156) rfl cF_10_31), (j_iload_n_3 dX10_payOut_156 (n := 157) rfl), (j_dup2_ir dX10_payOut_157 (n := 158) rfl), (j_iald dX10_payOut_158 (n := 159) rfl), (j_iload_6 dX10_payOut_159 (n := 161) rfl), (j_isub dX10_payOut_161 (n := 162) rfl), (j_iast dX10_payOut_162 (n := 163) rfl), (j_aload_n_0 dX10_payOut_163 (n := 164) rfl), (j_getf dX10_payOut_164 (n := 167) rfl cF_10_37), (j_iload_n_3 dX10_payOut_167 (n := 168) rfl), (j_dup2_ir dX10_payOut_168 (n := 169) rfl), (j_iald dX10_payOut_169 (n := 170) rfl), (j_iload_6 dX10_payOut_170 (n := 172) rfl), (j_iadd dX10_payOut_172 (n := 173) rfl), (j_iast dX10_payOut_173 (n := 174) rfl), (j_ret (M := mX10_payOut) dX10_payOut_174 (n := 175) rfl rfl), nl_x, pk_us, upd_u, bI_0, decide_eq_false_iff_not]
    rw [nI_clamp (n := 8 * u + t) (by omega), nI_clamp (n := u) (by omega), p3, p4, p5, ← q4, ← q5, ← q7]
    have fin : ∀ pur, pdU P (Z (D + 4) (8 * u + t)) (Z (D + 12) 3) (Z (D + 12) 4) (Z (D + 5) (8 * u + t)) = pur → (if pur < 0 then f (upA (upA (upA (upA R 81 (upd (R 81) u (Z (D + 7) u - P * Z (D + 12) 3))) 79 (upd (R 79) (8 * u + t) 0)) 78 (upd (R 78) (8 * u + t) (Z (D + 4) (8 * u + t) - pdG (Z (D + 4) (8 * u + t)) (Z (D + 12) 5)))) 80 (upd (R 80) (8 * u + t) (R 80 (8 * u + t) + pdG (Z (D + 4) (8 * u + t)) (Z (D + 12) 5)))) else f (upA (upA R 81 (upd (R 81) u (Z (D + 7) u - P * Z (D + 12) 3))) 79 (upd (R 79) (8 * u + t) pur))) := by
      intro pur e
      rw [e] at r4 r5 r6
      refine ite_i (fun q => ?_) (fun q => ?_)
      · rw [if_pos q] at r4 r5 r6
        refine h _ (frm_up (frm_up (frm_up (frm_up (frm_rf _ _) (by decide)) (by decide)) (by decide)) (by decide)) ?_ ?_ (fun hx => ?_) ?_
        · rw [r4]; simp only [upA_s, upA_n, upA_u, Nat.reduceEqDiff, not_false_eq_true, pk_us, upd_n]; exact EQ_up h4 rfl
        · rw [r5]; simp only [upA_s, upA_n, upA_u, Nat.reduceEqDiff, not_false_eq_true, pk_us, upd_n]; exact EQ_up h5 rfl
        · rw [r6]; simp only [upA_s, upA_n, upA_u, Nat.reduceEqDiff, not_false_eq_true, pk_us, upd_n]; exact EQ_up (h6 hx) (by rw [h6 hx _ hp])
        · rw [r7]; simp only [upA_s, upA_n, upA_u, Nat.reduceEqDiff, not_false_eq_true, pk_us, upd_n]; exact JA_up h7 j7.1 j7.2
      · rw [if_neg q] at r4 r5 r6
        refine h _ (frm_up (frm_up (frm_rf _ _) (by decide)) (by decide)) ?_ ?_ (fun hx => ?_) ?_
        · rw [r4]; simp only [upA_s, upA_n, upA_u, Nat.reduceEqDiff, not_false_eq_true, pk_us, upd_n]; exact h4
        · rw [r5]; simp only [upA_s, upA_n, upA_u, Nat.reduceEqDiff, not_false_eq_true, pk_us, upd_n]; exact EQ_up h5 rfl
        · rw [r6]; simp only [upA_s, upA_n, upA_u, Nat.reduceEqDiff, not_false_eq_true, pk_us, upd_n]; exact h6 hx
        · rw [r7]; simp only [upA_s, upA_n, upA_u, Nat.reduceEqDiff, not_false_eq_true, pk_us, upd_n]; exact JA_up h7 j7.1 j7.2
    have gl := pdG_l (Z (D + 4) (8 * u + t)) (Z (D + 12) 5)
    generalize pdG (Z (D + 4) (8 * u + t)) (Z (D + 12) 5) = G at fin gl
    have h100 : ¬ (100 : Int32) = 0 := by decide
    refine ⟨hv6, hv6, hv, ite_i (fun q => ?_) (fun q => ?_)⟩
    · have key := fin _ (show _ = Z (D + 5) (8 * u + t) + (0 - Z (D + 12) 4) by unfold pdU; rw [if_neg q])
      refine ⟨hv, hv, ite_i (fun w => ⟨hv, hv, h100, ite_i (fun g => ?_) (fun g => ?_)⟩) (fun w => ?_)⟩
      · rw [if_pos g] at gl; rw [if_pos w, gl] at key; exact ⟨hv, hv, hv, hv, key⟩
      · rw [if_neg g] at gl; rw [if_pos w, gl] at key; exact ⟨hv, hv, hv, hv, key⟩
      · rw [if_neg w] at key; exact key
    · have key := fin _ (show _ = Z (D + 5) (8 * u + t) + (Z (D + 12) 3 - Z (D + 12) 4) by unfold pdU; rw [if_pos (Classical.not_not.mp q)])
      refine ⟨hv, hv, ite_i (fun w => ⟨hv, hv, h100, ite_i (fun g => ?_) (fun g => ?_)⟩) (fun w => ?_)⟩
      · rw [if_pos g] at gl; rw [if_pos w, gl] at key; exact ⟨hv, hv, hv, hv, key⟩
      · rw [if_neg g] at gl; rw [if_pos w, gl] at key; exact ⟨hv, hv, hv, hv, key⟩
      · rw [if_neg w] at key; exact key
  · intro K hK
    simp only [sw3_c, sw3_n, Nat.reduceEqDiff, not_false_eq_true, Nat.zero_le, Nat.reduceLeDiff, Nat.reduceLT, Nat.reduceAdd, sg_s, ↓kif_0, ↓kif_c, ↓reduceIte, nl_n, nl_i, nl_r, List.length_cons, List.length_nil, true_and, and_true, upA_s, upA_n, upA_u, Prod.mk.injEq, and_self, Fr_70_10, Fr_70_11, Fr_70_12, Fr_70_37, Fr_70_38, Fr_70_39, Fr_70_9, Ld_78, Ld_79, Ld_80, Ld_81, oA_78, oA_79, oA_80, oA_81, oL_70, (j_bipush dX10_payOut_0 (n := 2) rfl kb_8), (j_iload_n_1 dX10_payOut_2 (n := 3) rfl), (j_imul dX10_payOut_3 (n := 4) rfl), (j_iload_n_2 dX10_payOut_4 (n := 5) rfl), (j_iadd dX10_payOut_5 (n := 6) rfl), (j_istore_n_3 dX10_payOut_6 (n := 7) rfl), (j_aload_n_0 dX10_payOut_7 (n := 8) rfl), (j_getf dX10_payOut_8 (n := 11) rfl cF_10_288), (j_if_ne dX10_payOut_11 (n := 14) rfl br_11_12), (j_aload_n_0 dX10_payOut_14 (n := 15) rfl), (j_getf dX10_payOut_15 (n := 18) rfl cF_10_31), (j_iload_n_3 dX10_payOut_18 (n := 19) rfl), (j_iald dX10_payOut_19 (n := 20) rfl), (j_goto dX10_payOut_20 (n := 23) rfl br_20_23), (j_aload_n_0 dX10_payOut_23 (n := 24) rfl), (j_getf dX10_payOut_24 (n := 27) rfl cF_10_31), (j_iload_n_3 dX10_payOut_27 (n := 28) rfl), (j_iald dX10_payOut_28 (n := 29) rfl), (j_aload_n_0 dX10_payOut_29 (n := 30) rfl), (j_getf dX10_payOut_30 (n := 33) rfl cF_10_40), (j_iload_n_1 dX10_payOut_33 (n := 34) rfl), (j_iald dX10_payOut_34 (n := 35) rfl), (j_aload_n_0 dX10_payOut_35 (n := 36) rfl), (j_getf dX10_payOut_36 (n := 39) rfl cF_10_288), (j_idiv dX10_payOut_39 (n := 40) rfl), (j_cs2i (M := mX10_payOut) dX10_payOut_40 (n := 43) rfl cM_10_167 (Or.inl rfl) (o := 10) rfl lv_X10_payOut_X10_least rfl), (j_istore_4 dX10_payOut_43 (n := 45) rfl), (j_iload_4 dX10_payOut_45 (n := 47) rfl), (j_aload_n_0 dX10_payOut_47 (n := 48) rfl), (j_getf dX10_payOut_48 (n := 51) rfl cF_10_31), (j_iload_n_3 dX10_payOut_51 (n := 52) rfl), (j_iald dX10_payOut_52 (n := 53) rfl), (j_ic_ne dX10_payOut_53 (n := 56) rfl br_53_7), (j_iconst dX10_payOut_56 (n := 57) rfl ki_1), (j_goto dX10_payOut_57 (n := 60) rfl br_57_4), (j_iconst dX10_payOut_60 (n := 61) rfl ki_0), (j_istore_5 dX10_payOut_61 (n := 63) rfl), (j_aload_n_0 dX10_payOut_63 (n := 64) rfl), (j_getf dX10_payOut_64 (n := 67) rfl cF_10_40), (j_iload_n_1 dX10_payOut_67 (n := 68) rfl), (j_dup2_ir dX10_payOut_68 (n := 69) rfl), (j_iald dX10_payOut_69 (n := 70) rfl), (j_iload_4 dX10_payOut_70 (n := 72) rfl), (j_aload_n_0 dX10_payOut_72 (n := 73) rfl), (j_getf dX10_payOut_73 (n := 76) rfl cF_10_288), (j_imul dX10_payOut_76 (n := 77) rfl), (j_isub dX10_payOut_77 (n := 78) rfl), (j_iast dX10_payOut_78 (n := 79) rfl), (j_aload_n_0 dX10_payOut_79 (n := 80) rfl), (j_getf dX10_payOut_80 (n := 83) rfl cF_10_34), (j_iload_n_3 dX10_payOut_83 (n := 84) rfl), (j_dup2_ir dX10_payOut_84 (n := 85) rfl), (j_iald dX10_payOut_85 (n := 86) rfl), (j_iload_5 dX10_payOut_86 (n := 88) rfl), (j_if_eq dX10_payOut_88 (n := 91) rfl br_88_10), (j_aload_n_0 dX10_payOut_91 (n := 92) rfl), (j_getf dX10_payOut_92 (n := 95) rfl cF_10_288), (j_goto dX10_payOut_95 (n := 98) rfl br_95_4), (j_iconst dX10_payOut_98 (n := 99) rfl ki_0), (j_aload_n_0 dX10_payOut_99 (n := 100) rfl), (j_getf dX10_payOut_100 (n := 103) rfl cF_10_291), (j_isub dX10_payOut_103 (n := 104) rfl), (j_iadd dX10_payOut_104 (n := 105) rfl), (j_iast dX10_payOut_105 (n := 106) rfl), (j_aload_n_0 dX10_payOut_106 (n := 107) rfl), (j_getf dX10_payOut_107 (n := 110) rfl cF_10_34), (j_iload_n_3 dX10_payOut_110 (n := 111) rfl), (j_iald dX10_payOut_111 (n := 112) rfl), (j_if_ge dX10_payOut_112 (n := 115) rfl br_112_62), (j_aload_n_0 dX10_payOut_115 (n := 116) rfl), (j_getf dX10_payOut_116 (n := 119) rfl cF_10_34), (j_iload_n_3 dX10_payOut_119 (n := 120) rfl), (j_iconst dX10_payOut_120 (n := 121) rfl ki_0), (j_iast dX10_payOut_121 (n := 122) rfl), (j_aload_n_0 dX10_payOut_122 (n := 123) rfl), (j_getf dX10_payOut_123 (n := 126) rfl cF_10_31), (j_iload_n_3 dX10_payOut_126 (n := 127) rfl), (j_iald dX10_payOut_127 (n := 128) rfl), (j_aload_n_0 dX10_payOut_128 (n := 129) rfl), (j_getf dX10_payOut_129 (n := 132) rfl cF_10_294), (j_imul dX10_payOut_132 (n := 133) rfl), (j_bipush dX10_payOut_133 (n := 135) rfl kb_100), (j_idiv dX10_payOut_135 (n := 136) rfl), (j_istore_6 dX10_payOut_136 (n := 138) rfl), (j_iload_6 dX10_payOut_138 (n := 140) rfl), (j_iconst dX10_payOut_140 (n := 141) rfl ki_1), (j_ic_ge dX10_payOut_141 (n := 144) rfl br_141_7), (j_iconst dX10_payOut_144 (n := 145) rfl ki_1), (j_goto dX10_payOut_145 (n := 148) rfl br_145_5), (j_iload_6 dX10_payOut_148 (n := 150) rfl), (j_istore_6 dX10_payOut_150 (n := 152) rfl), (j_aload_n_0 dX10_payOut_152 (n := 153) rfl), (j_getf dX10_payOut_153 (n := 156) rfl cF_10_31), (j_iload_n_3 dX10_payOut_156 (n := 157) rfl), (j_dup2_ir dX10_payOut_157 (n := 158) rfl), (j_iald dX10_payOut_158 (n := 159) rfl), (j_iload_6 dX10_payOut_159 (n := 161) rfl), (j_isub dX10_payOut_161 (n := 162) rfl), (j_iast dX10_payOut_162 (n := 163) rfl), (j_aload_n_0 dX10_payOut_163 (n := 164) rfl), (j_getf dX10_payOut_164 (n := 167) rfl cF_10_37), (j_iload_n_3 dX10_payOut_167 (n := 168) rfl), (j_dup2_ir dX10_payOut_168 (n := 169) rfl), (j_iald dX10_payOut_169 (n := 170) rfl), (j_iload_6 dX10_payOut_170 (n := 172) rfl), (j_iadd dX10_payOut_172 (n := 173) rfl), (j_iast dX10_payOut_173 (n := 174) rfl), (j_ret (M := mX10_payOut) dX10_payOut_174 (n := 175) rfl rfl), nl_x, pk_us]
    rw [e8, nI_clamp (n := 8 * u + t) (by omega), nI_clamp (n := u) (by omega), p3, ← q4, ← q7]
    have go : ∀ v, v = P → (if v = Z (D + 4) (8 * u + t) then K [some (.ref (70 : Nat)), some (.int (nI u)), some (.int (nI t)), some (.int (nI (8 * u + t))), some (.int v), some (.int 1), none] [] R else K [some (.ref (70 : Nat)), some (.int (nI u)), some (.int (nI t)), some (.int (nI (8 * u + t))), some (.int v), some (.int 0), none] [] R) := by
      rintro v rfl
      refine ite_i (fun q => ?_) (fun q => ?_)
      · have := hK _ _ ⟨rfl, rfl⟩
        rw [decide_eq_true q] at this
        exact this
      · have := hK _ _ ⟨rfl, rfl⟩
        rw [decide_eq_false q] at this
        exact this
    refine ite_i (fun q => ?_) (fun q => ⟨hv, hv6, q, c_least _ _ _ _ ⟨hv, ?_⟩⟩)
    · rw [if_pos q] at pl
      have := go _ pl.symm
      rw [if_pos rfl] at this
      exact ⟨hv, hv, this⟩
    · rw [if_neg q] at pl
      rw [← q4]
      exact go _ pl.symm
