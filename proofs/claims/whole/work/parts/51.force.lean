-- force, clash, words
def iC : List Nat := [0, 1, 2, 4, 5, 6, 7, 8, 9, 10, 11, 12, 13, 16, 17, 18, 19, 20, 21, 22, 23, 26, 27, 28, 29, 30, 31, 32, 34, 35, 36, 37, 38, 39, 40, 41, 42, 43, 59, 60, 61, 62, 63, 64, 65, 66, 71, 72, 73, 74, 75, 76, 77, 78, 79, 80, 81, 82, 83, 84, 85, 86, 87, 88, 89, 90, 91, 92, 93, 97, 98, 99, 100, 101, 102, 103, 104, 105, 106, 107, 108, 109, 110, 111]
def iS : List Nat := [0, 1, 15, 20, 21, 28, 31, 41, 51]
theorem Inv_frm {l : List Nat} {S S' : xA} (hf : frm l S S') (hl : ∀ c, c ∈ iC → c ∉ l) (h70 : ∀ j, j ∈ iS → S' 70 j = S 70 j) (hI : Inv S) : Inv S' := by
  have e : ∀ c, c ∈ iC → S' c = S c := fun c hc => hf c (hl c hc)
  unfold Inv
  rw [e 2 (by decide), e 4 (by decide), e 5 (by decide), e 6 (by decide), e 7 (by decide), e 8 (by decide), e 10 (by decide), e 11 (by decide), e 12 (by decide), e 13 (by decide), e 17 (by decide), e 18 (by decide), e 19 (by decide), e 20 (by decide), e 21 (by decide), e 23 (by decide), e 27 (by decide), e 28 (by decide), e 29 (by decide), e 30 (by decide), e 31 (by decide), e 32 (by decide), e 34 (by decide), e 35 (by decide), e 36 (by decide), e 37 (by decide), e 38 (by decide), e 39 (by decide), e 40 (by decide), e 41 (by decide), e 42 (by decide), e 43 (by decide), e 60 (by decide), e 61 (by decide), e 62 (by decide), e 63 (by decide), e 64 (by decide), e 66 (by decide), e 71 (by decide), e 72 (by decide), e 73 (by decide), e 74 (by decide), e 75 (by decide), e 76 (by decide), e 77 (by decide), e 78 (by decide), e 79 (by decide), e 80 (by decide), e 81 (by decide), e 82 (by decide), e 83 (by decide), e 84 (by decide), e 85 (by decide), e 86 (by decide), e 87 (by decide), e 88 (by decide), e 89 (by decide), e 90 (by decide), e 91 (by decide), e 92 (by decide), e 93 (by decide), e 97 (by decide), e 98 (by decide), e 99 (by decide), e 100 (by decide), e 101 (by decide), e 102 (by decide), e 103 (by decide), e 104 (by decide), e 105 (by decide), e 106 (by decide), e 107 (by decide), e 108 (by decide), e 109 (by decide), e 110 (by decide), e 111 (by decide), e 0 (by decide), e 1 (by decide), e 9 (by decide), e 16 (by decide), e 22 (by decide), e 26 (by decide), e 59 (by decide), e 65 (by decide), h70 0 (by decide), h70 1 (by decide), h70 15 (by decide), h70 20 (by decide), h70 21 (by decide), h70 28 (by decide), h70 31 (by decide), h70 41 (by decide), h70 51 (by decide)]
  exact hI
theorem Inv_69 {S : xA} (hI : Inv S) (g : Nat → Int32) : Inv (upA S 69 g) := Inv_frm (frm_up (frm_rf [69] S) (by decide)) (by decide) (fun _ _ => by rw [upA_n _ _ (by decide)]) hI
theorem Inv_fr {S S' : xA} (hI : Inv S) (f1 : frm [94, 95, 96, 70] S S') (f2 : fx70 S S') : Inv S' := Inv_frm f1 (by decide) (fun j hj => f2 j (fun q => by revert hj; rcases (show j = 37 ∨ j = 38 ∨ j = 39 ∨ j = 40 by omega) with rfl | rfl | rfl | rfl <;> decide)) hI
theorem Inv_Ru {S : xA} (hI : Inv S) : RuO S := hI.2.2.2.2.2.2.2.2.2.2.2.2.2.2.2.2.2.1
theorem fc_69 {S : xA} {g : Nat → Int32} {hour : Int32} : fcS (upA S 69 g) hour = fcS S hour := by
  unfold fcS
  simp only [upA_n _ _ (show ¬ 16 = 69 by decide), upA_n _ _ (show ¬ 17 = 69 by decide), upA_n _ _ (show ¬ 18 = 69 by decide), upA_n _ _ (show ¬ 19 = 69 by decide), upA_n _ _ (show ¬ 20 = 69 by decide), upA_n _ _ (show ¬ 21 = 69 by decide)]
theorem vw_3 {S : xA} {i : Nat} (h : i < 3) : vw S i = S 96 i := if_pos h
set_option maxHeartbeats 4000000 in
theorem c_force10 (w hour : Int32) (S : xA) (f : xP) (hR : RuO S) (h1 : ¬ ((0 ≤ w.toInt ∧ w.toInt ≤ 6) ∧ (0 ≤ hour.toInt ∧ hour.toInt ≤ 240)) → f (-1002) S) (h2 : (0 ≤ w.toInt ∧ w.toInt ≤ 6) → (0 ≤ hour.toInt ∧ hour.toInt ≤ 240) → ∀ S', frm [94, 95, 96, 70] S S' → fx70 S S' → f (fcS S hour w.toNatClampNeg) S') : CI mX10_force [.ref (70 : Nat), .int w, .int hour] S f := by
  show CI mX10_force _ _ _
  refine ci_of (T := mX10_force) (fv := fun _ => True) (ls := [some (.ref (70 : Nat)), some (.int w), some (.int hour)]) rfl (Nat.le_of_ble_eq_true rfl) (by decide) rfl rfl rfl (ok2_0 cX10_force 10 60 rfl rfl ?_)
  simp only [sw3_c, sw3_n, Nat.reduceEqDiff, not_false_eq_true, Nat.zero_le, Nat.reduceLeDiff, Nat.reduceLT, Nat.reduceAdd, sg_s, ↓kif_0, ↓kif_c, ↓reduceIte, nl_n, nl_i, nl_r, List.length_cons, List.length_nil, true_and, and_true, upA_s, upA_n, upA_u, Prod.mk.injEq, and_self, Fr_70_36, Fr_70_37, Fr_70_38, Fr_70_39, Fr_70_40, Ld_96, oA_96, oC_70, oL_70, (j_iload_n_1 dX10_force_0 (n := 1) rfl), (j_i2l dX10_force_1 (n := 2) rfl), (j_lconst dX10_force_2 (n := 3) rfl (v := 0) (by decide)), (j_ldc2 dX10_force_3 (n := 6) rfl cJ_10_303), (j_cs3i (M := mX10_force) dX10_force_6 (n := 9) rfl cM_10_150 (Or.inl rfl) (o := 10) rfl lv_X10_force_X10_in rfl), (j_if_eq dX10_force_9 (n := 12) rfl br_9_10), (j_iload_n_2 dX10_force_12 (n := 13) rfl), (j_cs1i (M := mX10_force) dX10_force_13 (n := 16) rfl cM_10_218 (Or.inl rfl) (o := 10) rfl lv_X10_force_X10_isHour rfl), (j_if_ne dX10_force_16 (n := 19) rfl br_16_7), (j_sipush dX10_force_19 (n := 22) rfl ks_m1002), (j_iret dX10_force_22 (n := 23) rfl), (j_aload_n_0 dX10_force_23 (n := 24) rfl), (j_iload_n_2 dX10_force_24 (n := 25) rfl), (j_cv1v (M := mX10_force) dX10_force_25 (n := 28) rfl cM_10_305 (Or.inl rfl) lv_X10_force_X10_findRules rfl (oc := 10) rfl), (j_iload_n_1 dX10_force_28 (n := 29) rfl), (j_iconst dX10_force_29 (n := 30) rfl ki_3), (j_ic_ge dX10_force_30 (n := 33) rfl br_30_12), (j_aload_n_0 dX10_force_33 (n := 34) rfl), (j_getf dX10_force_34 (n := 37) rfl cF_10_93), (j_iload_n_1 dX10_force_37 (n := 38) rfl), (j_iald dX10_force_38 (n := 39) rfl), (j_goto dX10_force_39 (n := 42) rfl br_39_43), (j_iload_n_1 dX10_force_42 (n := 43) rfl), (j_iconst dX10_force_43 (n := 44) rfl ki_3), (j_ic_ne dX10_force_44 (n := 47) rfl br_44_10), (j_aload_n_0 dX10_force_47 (n := 48) rfl), (j_getf dX10_force_48 (n := 51) rfl cF_10_288), (j_goto dX10_force_51 (n := 54) rfl br_51_31), (j_iload_n_1 dX10_force_54 (n := 55) rfl), (j_iconst dX10_force_55 (n := 56) rfl ki_4), (j_ic_ne dX10_force_56 (n := 59) rfl br_56_10), (j_aload_n_0 dX10_force_59 (n := 60) rfl), (j_getf dX10_force_60 (n := 63) rfl cF_10_291), (j_goto dX10_force_63 (n := 66) rfl br_63_19), (j_iload_n_1 dX10_force_66 (n := 67) rfl), (j_iconst dX10_force_67 (n := 68) rfl ki_5), (j_ic_ne dX10_force_68 (n := 71) rfl br_68_10), (j_aload_n_0 dX10_force_71 (n := 72) rfl), (j_getf dX10_force_72 (n := 75) rfl cF_10_294), (j_goto dX10_force_75 (n := 78) rfl br_75_7), (j_aload_n_0 dX10_force_78 (n := 79) rfl), (j_getf dX10_force_79 (n := 82) rfl cF_10_297), (j_iret dX10_force_82 (n := 83) rfl), rOk_i (M := mX10_force) rfl]
  refine c_in _ _ _ _ _ ?_
  simp only [bI_0, decide_eq_false_iff_not, wid_I, tj_0, tj_6]
  refine ite_i (fun q => h1 (fun z => q z.1)) (fun q => c_isHour _ _ _ ?_)
  simp only [bI_0, decide_eq_false_iff_not]
  refine ite_i (fun q2 => h1 (fun z => q2 z.2)) (fun q2 => ?_)
  rw [Classical.not_not] at q q2
  refine c_findRules _ _ _ hR (fun S' f1 f2 f3 => ?_)
  have hw := cl_eq q.1
  have e := f3 w.toNatClampNeg (by omega)
  have hh := h2 q q2 S' f1 f2
  rw [← e] at hh
  unfold vw at hh
  refine ite_i (fun z => ⟨vp_I (by omega) (by rw [lt_I, ti_3] at z; omega), ?_⟩) (fun z => ite_i (fun z1 => ?_) (fun z1 => ite_i (fun z2 => ?_) (fun z2 => ite_i (fun z3 => ?_) (fun z3 => ?_))))
  · rw [lt_I, ti_3] at z
    rw [if_pos (by omega)] at hh
    exact hh
  · subst z1; exact hh
  · subst z2; exact hh
  · subst z3; exact hh
  · rw [eq_I, ti_3] at z1
    rw [eq_I, ti_4] at z2
    rw [eq_I, ti_5] at z3
    rw [lt_I, ti_3] at z
    rw [show w.toNatClampNeg = 6 by omega] at hh
    exact hh
set_option maxHeartbeats 4000000 in
theorem t_force (S : xA) (hI : Inv S) (w hour : Int32) : Both mX9_force mX10_force [.int w, .int hour] S := by
  have hR := Inv_Ru hI
  show CI mX9_force _ _ _
  refine ci_of (T := mX9_force) (fv := fun _ => True) (ls := [some (.ref (0 : Nat)), some (.int w), some (.int hour)]) rfl (Nat.le_of_ble_eq_true rfl) (by decide) rfl rfl rfl (ok2_0 cX9_force 9 60 rfl rfl ?_)
  simp only [sw3_c, sw3_n, Nat.reduceEqDiff, not_false_eq_true, Nat.zero_le, Nat.reduceLeDiff, Nat.reduceLT, Nat.reduceAdd, sg_s, ↓kif_0, ↓kif_c, ↓reduceIte, nl_n, nl_i, nl_r, List.length_cons, List.length_nil, true_and, and_true, upA_s, upA_n, upA_u, Prod.mk.injEq, and_self, Fr_0_10, Fr_0_3, Ld_69, oA_69, oC_16, oL_0, (j_iload_n_1 dX9_force_0 (n := 1) rfl), (j_iconst dX9_force_1 (n := 2) rfl ki_0), (j_bipush dX9_force_2 (n := 4) rfl kb_6), (j_cs3i (M := mX9_force) dX9_force_4 (n := 7) rfl cM_9_91 (Or.inl rfl) (o := 9) rfl lv_X9_force_X9_beyond rfl), (j_if_ne dX9_force_7 (n := 10) rfl br_7_14), (j_iload_n_2 dX9_force_10 (n := 11) rfl), (j_iconst dX9_force_11 (n := 12) rfl ki_0), (j_sipush dX9_force_12 (n := 15) rfl ks_240), (j_cs3i (M := mX9_force) dX9_force_15 (n := 18) rfl cM_9_91 (Or.inl rfl) (o := 9) rfl lv_X9_force_X9_beyond rfl), (j_if_eq dX9_force_18 (n := 21) rfl br_18_7), (j_sipush dX9_force_21 (n := 24) rfl ks_m1002), (j_iret dX9_force_24 (n := 25) rfl), (j_aload_n_0 dX9_force_25 (n := 26) rfl), (j_getf dX9_force_26 (n := 29) rfl cF_9_35), (j_iload_n_2 dX9_force_29 (n := 30) rfl), (j_aload_n_0 dX9_force_30 (n := 31) rfl), (j_getf dX9_force_31 (n := 34) rfl cF_9_79), (j_cv2v (M := mX9_force) dX9_force_34 (n := 37) rfl cM_9_211 (Or.inl rfl) lv_X9_force_X8_holdIn rfl (oc := 8) rfl), (j_aload_n_0 dX9_force_37 (n := 38) rfl), (j_getf dX9_force_38 (n := 41) rfl cF_9_79), (j_iload_n_1 dX9_force_41 (n := 42) rfl), (j_iald dX9_force_42 (n := 43) rfl), (j_iret dX9_force_43 (n := 44) rfl), rOk_i (M := mX9_force) rfl]
  refine c_beyond _ _ _ _ _ ?_
  simp only [bI_0, decide_eq_false_iff_not, ti_0, ti_6]
  refine ite_i (fun h1 => ?_) (fun h1 => c_force10 w hour S _ hR (fun _ => g3_rf hI) (fun q => absurd (by omega) h1))
  refine c_beyond _ _ _ _ _ ?_
  simp only [bI_0, decide_eq_false_iff_not, ti_0, ti_240]
  refine ite_i (fun h2 => ?_) (fun h2 => c_force10 w hour S _ hR (fun _ => g3_rf hI) (fun _ q => absurd (by omega) h2))
  refine c_holdIn _ _ _ _ (by decide) (by decide) (by decide) (by decide) hR (fun g hg => ?_)
  have hw := cl_eq (x := w) (by omega)
  refine ⟨vp_I (by omega) (by omega), ?_⟩
  rw [upA_s]
  refine c_force10 w hour _ _ (Inv_Ru (Inv_69 hI g)) (fun q => absurd ⟨by omega, by omega⟩ q) (fun q1 q2 S' f1 f2 => ⟨?_, Inv_fr (Inv_69 hI g) f1 f2⟩)
  rw [fc_69, hg _ (by omega)]
def cnP (p : Nat → Bool) : Nat → Int32
  | 0 => 0
  | k + 1 => if p k = true then cnP p k + 1 else cnP p k
def fdP (p : Nat → Bool) (i : Int32) : Nat → Option Int32
  | 0 => none
  | k + 1 => match fdP p i k with
    | some r => some r
    | none => if p k = true ∧ cnP p k = i then some (nI k) else none
theorem fdP_m {p : Nat → Bool} {i r : Int32} {k : Nat} (h : fdP p i k = some r) : ∀ n, k ≤ n → fdP p i n = some r := by
  intro n hn
  induction n with
  | zero => rw [show k = 0 by omega] at h; exact h
  | succ n ih =>
    by_cases e : k = n + 1
    · rw [← e]; exact h
    · rw [fdP, ih (by omega)]
theorem cnP_eq {p p' : Nat → Bool} : ∀ n, (∀ k, k < n → p k = p' k) → cnP p n = cnP p' n
  | 0, _ => rfl
  | n + 1, h => by rw [cnP, cnP, cnP_eq n (fun k hk => h k (by omega)), h n (by omega)]
theorem fdP_eq {p p' : Nat → Bool} {i : Int32} : ∀ n, (∀ k, k < n → p k = p' k) → fdP p i n = fdP p' i n
  | 0, _ => rfl
  | n + 1, h => by rw [fdP, fdP, fdP_eq n (fun k hk => h k (by omega)), h n (by omega), cnP_eq n (fun k hk => h k (by omega))]
theorem fdP_y {p : Nat → Bool} {i : Int32} {k : Nat} (h : fdP p i k = none) (h1 : p k = true) (h2 : cnP p k = i) : fdP p i (k + 1) = some (nI k) := by rw [fdP, h]; exact if_pos ⟨h1, h2⟩
theorem fdP_n {p : Nat → Bool} {i : Int32} {k : Nat} (h : fdP p i k = none) (h1 : ¬ (p k = true ∧ cnP p k = i)) : fdP p i (k + 1) = none := by rw [fdP, h]; exact if_neg h1
def clP (st gd sp fo : Nat → Int32) (k : Nat) : Bool := decide (st k = 0 ∧ ¬ fo (gd k).toNatClampNeg &&& sp k = 0 ∧ ¬ fo (gd k).toNatClampNeg &&& sp k = fo (gd k).toNatClampNeg)
def woF (st gd sp fo : Nat → Int32) : Nat → Int32
  | 0 => 0
  | k + 1 => woF st gd sp fo k ||| (if decide (st k = 0 ∨ st k = 3) = true then fo (gd k).toNatClampNeg &&& (sp k ^^^ (-1)) else 0)
theorem woF_eq {st gd sp fo st' gd' sp' fo' : Nat → Int32} : ∀ n, (∀ k, k < n → st k = st' k ∧ gd k = gd' k ∧ sp k = sp' k ∧ fo (gd k).toNatClampNeg = fo' (gd k).toNatClampNeg) → woF st gd sp fo n = woF st' gd' sp' fo' n
  | 0, _ => rfl
  | n + 1, h => by
    obtain ⟨h1, h2, h3, h4⟩ := h n (by omega)
    rw [woF, woF, woF_eq n (fun k hk => h k (by omega)), ← h2, h4, h3, h1]
set_option maxHeartbeats 4000000 in
theorem c_missing (l a : Nat) (S : xA) (f : xP) (hl : l < 40) (ha : oA a = true) (h7 : (Ld a).2 = 7) (hg : 0 ≤ (S 27 l).toInt ∧ (S 27 l).toInt ≤ 2) (h : f (S a (S 27 l).toNatClampNeg &&& (S 32 l ^^^ (-1))) S) : CI mX5_missing [.ref (26 : Nat), .int (nI l), .ref a] S f := by
  refine ci_of (T := mX5_missing) (fv := fun _ => True) (ls := [some (.ref (26 : Nat)), some (.int (nI l)), some (.ref a)]) rfl (Nat.le_of_ble_eq_true rfl) (by decide) rfl rfl rfl (ok2_0 cX5_missing 5 40 rfl rfl ?_)
  simp only [sw3_c, sw3_n, Nat.reduceEqDiff, not_false_eq_true, Nat.zero_le, Nat.reduceLeDiff, Nat.reduceLT, Nat.reduceAdd, sg_s, ↓kif_0, ↓kif_c, ↓reduceIte, nl_n, nl_i, nl_r, List.length_cons, List.length_nil, true_and, and_true, upA_s, upA_n, upA_u, Prod.mk.injEq, and_self, Fr_26_0, Fr_26_5, Ld_27, Ld_32, oA_27, oA_32, oL_26, (j_aload_n_2 dX5_missing_0 (n := 1) rfl), (j_aload_n_0 dX5_missing_1 (n := 2) rfl), (j_getf dX5_missing_2 (n := 5) rfl cF_5_9), (j_iload_n_1 dX5_missing_5 (n := 6) rfl), (j_iald dX5_missing_6 (n := 7) rfl), (j_iald dX5_missing_7 (n := 8) rfl), (j_aload_n_0 dX5_missing_8 (n := 9) rfl), (j_getf dX5_missing_9 (n := 12) rfl cF_5_27), (j_iload_n_1 dX5_missing_12 (n := 13) rfl), (j_iald dX5_missing_13 (n := 14) rfl), (j_iconst dX5_missing_14 (n := 15) rfl ki_m1), (j_ixor dX5_missing_15 (n := 16) rfl), (j_iand dX5_missing_16 (n := 17) rfl), (j_iret dX5_missing_17 (n := 18) rfl), rOk_i (M := mX5_missing) rfl, nl_x, pk_us, ha, h7]
  rw [nI_clamp (n := l) (by omega)]
  exact ⟨vp_in_nI hl (by omega), vp_I (by omega) (by omega), vp_in_nI hl (by omega), h⟩
set_option maxHeartbeats 4000000 in
theorem c_clashes (l a : Nat) (S : xA) (f : xP) (hl : l < 40) (ha : oA a = true) (h7 : (Ld a).2 = 7) (hg : 0 ≤ (S 27 l).toInt ∧ (S 27 l).toInt ≤ 2) (h : f (bI (decide (¬ S a (S 27 l).toNatClampNeg &&& S 32 l = 0 ∧ ¬ S a (S 27 l).toNatClampNeg &&& S 32 l = S a (S 27 l).toNatClampNeg))) S) : CI mX5_clashes [.ref (26 : Nat), .int (nI l), .ref a] S f := by
  refine ci_of (T := mX5_clashes) (fv := fun _ => True) (ls := [some (.ref (26 : Nat)), some (.int (nI l)), some (.ref a)]) rfl (Nat.le_of_ble_eq_true rfl) (by decide) rfl rfl rfl (ok2_0 cX5_clashes 5 40 rfl rfl ?_)
  simp only [sw3_c, sw3_n, Nat.reduceEqDiff, not_false_eq_true, Nat.zero_le, Nat.reduceLeDiff, Nat.reduceLT, Nat.reduceAdd, sg_s, ↓kif_0, ↓kif_c, ↓reduceIte, nl_n, nl_i, nl_r, List.length_cons, List.length_nil, true_and, and_true, upA_s, upA_n, upA_u, Prod.mk.injEq, and_self, Fr_26_0, Ld_27, oA_27, oC_26, oL_26, (j_aload_n_0 dX5_clashes_0 (n := 1) rfl), (j_iload_n_1 dX5_clashes_1 (n := 2) rfl), (j_aload_n_2 dX5_clashes_2 (n := 3) rfl), (j_cv2i (M := mX5_clashes) dX5_clashes_3 (n := 6) rfl cM_5_34 (Or.inl rfl) lv_X5_clashes_X5_missing rfl (oc := 5) rfl), (j_if_eq dX5_clashes_6 (n := 9) rfl br_6_24), (j_aload_n_0 dX5_clashes_9 (n := 10) rfl), (j_iload_n_1 dX5_clashes_10 (n := 11) rfl), (j_aload_n_2 dX5_clashes_11 (n := 12) rfl), (j_cv2i (M := mX5_clashes) dX5_clashes_12 (n := 15) rfl cM_5_34 (Or.inl rfl) lv_X5_clashes_X5_missing rfl (oc := 5) rfl), (j_aload_n_2 dX5_clashes_15 (n := 16) rfl), (j_aload_n_0 dX5_clashes_16 (n := 17) rfl), (j_getf dX5_clashes_17 (n := 20) rfl cF_5_9), (j_iload_n_1 dX5_clashes_20 (n := 21) rfl), (j_iald dX5_clashes_21 (n := 22) rfl), (j_iald dX5_clashes_22 (n := 23) rfl), (j_ic_eq dX5_clashes_23 (n := 26) rfl br_23_7), (j_iconst dX5_clashes_26 (n := 27) rfl ki_1), (j_goto dX5_clashes_27 (n := 30) rfl br_27_4), (j_iconst dX5_clashes_30 (n := 31) rfl ki_0), (j_iret dX5_clashes_31 (n := 32) rfl), nl_x, pk_us, ha, h7]
  refine c_missing _ _ _ _ hl ha h7 hg ?_
  refine ite_i (fun q => ?_) (fun q => c_missing _ _ _ _ hl ha h7 hg ?_)
  · rw [mis_0] at q
    rw [decide_eq_false (fun z => z.2 q)] at h
    exact ⟨rOk_z rfl (Or.inl rfl), h⟩
  · rw [mis_0] at q
    rw [nI_clamp (n := l) (by omega)]
    refine ⟨vp_in_nI hl (by omega), vp_I (by omega) (by omega), ite_i (fun q2 => ?_) (fun q2 => ?_)⟩
    · rw [mis_n] at q2
      rw [decide_eq_false (fun z => z.1 q2)] at h
      exact ⟨rOk_z rfl (Or.inl rfl), h⟩
    · rw [mis_n] at q2
      rw [decide_eq_true ⟨q2, q⟩] at h
      exact ⟨rOk_z rfl (Or.inr rfl), h⟩
set_option maxHeartbeats 4000000 in
theorem c_clash9 (i : Int32) (S : xA) (f : xP) (hR : RuO S) (c : Nat) (hc : S 26 6 = nI c) (hc40 : c ≤ 40) (hg : ∀ k, k < c → 0 ≤ (S 27 k).toInt ∧ (S 27 k).toInt ≤ 2) (h : ∀ g, f ((fdP (clP (S 41) (S 27) (S 32) (fcS S (S 0 11))) i c).getD (-1)) (upA S 69 g)) : CI mX9_clash [.ref (0 : Nat), .int i] S f := by
  refine ci_of (T := mX9_clash) (fv := fun _ => True) (ls := [some (.ref (0 : Nat)), some (.int i), none, none]) rfl (Nat.le_of_ble_eq_true rfl) (by decide) rfl rfl rfl (ok_for cX9_clash 9 60 19 c (fun k ls S' => ls = [some (.ref (0 : Nat)), some (.int i), some (.int (cnP (clP (S 41) (S 27) (S 32) (fcS S (S 0 11))) k)), some (.int (nI k))] ∧ fdP (clP (S 41) (S 27) (S 32) (fcS S (S 0 11))) i k = none ∧ ∃ g, S' = upA S 69 g ∧ ∀ i, i < 7 → g i = fcS S (S 0 11) i) rfl rfl ?_ ?_ ?_)
  · intro R hK
    simp only [sw3_c, sw3_n, Nat.reduceEqDiff, not_false_eq_true, Nat.zero_le, Nat.reduceLeDiff, Nat.reduceLT, Nat.reduceAdd, sg_s, ↓kif_0, ↓kif_c, ↓reduceIte, nl_n, nl_i, nl_r, List.length_cons, List.length_nil, true_and, and_true, upA_s, upA_n, upA_u, Prod.mk.injEq, and_self, Fr_0_10, Fr_0_11, Fr_0_3, Fr_0_5, Fr_0_6, Fr_26_6, Fr_33_12, Fr_46_12, Ld_41, Ld_54, Ld_69, oA_41, oA_54, oA_69, oC_16, oC_26, oL_0, oL_26, oL_33, oL_46, (j_aload_n_0 dX9_clash_0 (n := 1) rfl), (j_getf dX9_clash_1 (n := 4) rfl cF_9_35), (j_aload_n_0 dX9_clash_4 (n := 5) rfl), (j_getf dX9_clash_5 (n := 8) rfl cF_9_83), (j_aload_n_0 dX9_clash_8 (n := 9) rfl), (j_getf dX9_clash_9 (n := 12) rfl cF_9_79), (j_cv2v (M := mX9_clash) dX9_clash_12 (n := 15) rfl cM_9_211 (Or.inl rfl) lv_X9_clash_X8_holdIn rfl (oc := 8) rfl), (j_iconst dX9_clash_15 (n := 16) rfl ki_0), (j_istore_n_2 dX9_clash_16 (n := 17) rfl), (j_iconst dX9_clash_17 (n := 18) rfl ki_0), (j_istore_n_3 dX9_clash_18 (n := 19) rfl), (j_iload_n_3 dX9_clash_19 (n := 20) rfl), (j_aload_n_0 dX9_clash_20 (n := 21) rfl), (j_getf dX9_clash_21 (n := 24) rfl cF_9_49), (j_getf dX9_clash_24 (n := 27) rfl cF_9_151), (j_ic_ge dX9_clash_27 (n := 30) rfl br_27_49), (j_aload_n_0 dX9_clash_30 (n := 31) rfl), (j_getf dX9_clash_31 (n := 34) rfl cF_9_58), (j_getf dX9_clash_34 (n := 37) rfl cF_9_222), (j_iload_n_3 dX9_clash_37 (n := 38) rfl), (j_iald dX9_clash_38 (n := 39) rfl), (j_if_ne dX9_clash_39 (n := 42) rfl br_39_31), (j_aload_n_0 dX9_clash_42 (n := 43) rfl), (j_getf dX9_clash_43 (n := 46) rfl cF_9_49), (j_iload_n_3 dX9_clash_46 (n := 47) rfl), (j_aload_n_0 dX9_clash_47 (n := 48) rfl), (j_getf dX9_clash_48 (n := 51) rfl cF_9_79), (j_cv2i (M := mX9_clash) dX9_clash_51 (n := 54) rfl cM_9_244 (Or.inl rfl) lv_X9_clash_X5_clashes rfl (oc := 5) rfl), (j_if_ne dX9_clash_54 (n := 57) rfl br_54_6), (j_goto dX9_clash_57 (n := 60) rfl br_57_13), (j_iload_n_2 dX9_clash_60 (n := 61) rfl), (j_iload_n_1 dX9_clash_61 (n := 62) rfl), (j_ic_ne dX9_clash_62 (n := 65) rfl br_62_5), (j_iload_n_3 dX9_clash_65 (n := 66) rfl), (j_iret dX9_clash_66 (n := 67) rfl), (j_iinc_2 dX9_clash_67 (n := 70) rfl ki_1), (j_iinc_3 dX9_clash_70 (n := 73) rfl ki_1), (j_goto dX9_clash_73 (n := 76) rfl br_73_m54), (j_iconst dX9_clash_76 (n := 77) rfl ki_m1), (j_iret dX9_clash_77 (n := 78) rfl), rOk_i (M := mX9_clash) rfl, nl_x, pk_us]
    exact c_holdIn _ _ _ _ (by decide) (by decide) (by decide) (by decide) hR (fun g hg => hK _ _ ⟨rfl, rfl, g, rfl, hg⟩)
  · rintro k hk _ _ ⟨rfl, hn, g, rfl, hg7⟩ R hK
    have hgk := hg k hk
    have e1 : g (S 27 k).toNatClampNeg = fcS S (S 0 11) (S 27 k).toNatClampNeg := hg7 _ (by have := cl_eq hgk.1; omega)
    simp only [sw3_c, sw3_n, Nat.reduceEqDiff, not_false_eq_true, Nat.zero_le, Nat.reduceLeDiff, Nat.reduceLT, Nat.reduceAdd, sg_s, ↓kif_0, ↓kif_c, ↓reduceIte, nl_n, nl_i, nl_r, List.length_cons, List.length_nil, true_and, and_true, upA_s, upA_n, upA_u, Prod.mk.injEq, and_self, Fr_0_10, Fr_0_11, Fr_0_3, Fr_0_5, Fr_0_6, Fr_26_6, Fr_33_12, Fr_46_12, Ld_41, Ld_54, Ld_69, oA_41, oA_54, oA_69, oC_16, oC_26, oL_0, oL_26, oL_33, oL_46, (j_aload_n_0 dX9_clash_0 (n := 1) rfl), (j_getf dX9_clash_1 (n := 4) rfl cF_9_35), (j_aload_n_0 dX9_clash_4 (n := 5) rfl), (j_getf dX9_clash_5 (n := 8) rfl cF_9_83), (j_aload_n_0 dX9_clash_8 (n := 9) rfl), (j_getf dX9_clash_9 (n := 12) rfl cF_9_79), (j_cv2v (M := mX9_clash) dX9_clash_12 (n := 15) rfl cM_9_211 (Or.inl rfl) lv_X9_clash_X8_holdIn rfl (oc := 8) rfl), (j_iconst dX9_clash_15 (n := 16) rfl ki_0), (j_istore_n_2 dX9_clash_16 (n := 17) rfl), (j_iconst dX9_clash_17 (n := 18) rfl ki_0), (j_istore_n_3 dX9_clash_18 (n := 19) rfl), (j_iload_n_3 dX9_clash_19 (n := 20) rfl), (j_aload_n_0 dX9_clash_20 (n := 21) rfl), (j_getf dX9_clash_21 (n := 24) rfl cF_9_49), (j_getf dX9_clash_24 (n := 27) rfl cF_9_151), (j_ic_ge dX9_clash_27 (n := 30) rfl br_27_49), (j_aload_n_0 dX9_clash_30 (n := 31) rfl), (j_getf dX9_clash_31 (n := 34) rfl cF_9_58), (j_getf dX9_clash_34 (n := 37) rfl cF_9_222), (j_iload_n_3 dX9_clash_37 (n := 38) rfl), (j_iald dX9_clash_38 (n := 39) rfl), (j_if_ne dX9_clash_39 (n := 42) rfl br_39_31), (j_aload_n_0 dX9_clash_42 (n := 43) rfl), (j_getf dX9_clash_43 (n := 46) rfl cF_9_49), (j_iload_n_3 dX9_clash_46 (n := 47) rfl), (j_aload_n_0 dX9_clash_47 (n := 48) rfl), (j_getf dX9_clash_48 (n := 51) rfl cF_9_79), (j_cv2i (M := mX9_clash) dX9_clash_51 (n := 54) rfl cM_9_244 (Or.inl rfl) lv_X9_clash_X5_clashes rfl (oc := 5) rfl), (j_if_ne dX9_clash_54 (n := 57) rfl br_54_6), (j_goto dX9_clash_57 (n := 60) rfl br_57_13), (j_iload_n_2 dX9_clash_60 (n := 61) rfl), (j_iload_n_1 dX9_clash_61 (n := 62) rfl), (j_ic_ne dX9_clash_62 (n := 65) rfl br_62_5), (j_iload_n_3 dX9_clash_65 (n := 66) rfl), (j_iret dX9_clash_66 (n := 67) rfl), (j_iinc_2 dX9_clash_67 (n := 70) rfl ki_1), (j_iinc_3 dX9_clash_70 (n := 73) rfl ki_1), (j_goto dX9_clash_73 (n := 76) rfl br_73_m54), (j_iconst dX9_clash_76 (n := 77) rfl ki_m1), (j_iret dX9_clash_77 (n := 78) rfl), rOk_i (M := mX9_clash) rfl, nl_x, pk_us, hc]
    rw [if_pos (nI_lt hk (by omega)), nI_clamp (n := k) (by omega), nI_1]
    have no : ¬ clP (S 41) (S 27) (S 32) (fcS S (S 0 11)) k = true → R [some (.ref (0 : Nat)), some (.int i), some (.int (cnP (clP (S 41) (S 27) (S 32) (fcS S (S 0 11))) k)), some (.int (nI (k + 1)))] [] (upA S 69 g) := fun q => hK _ _ ⟨by rw [cnP, if_neg q], fdP_n hn (fun z => q z.1), g, rfl, hg7⟩
    refine ⟨vp_in_nI (by omega) (by omega), ite_i (fun q => c_clashes _ _ _ _ (by omega) (by decide) (by decide) (by rw [upA_n _ _ (by decide)]; exact hgk) ?_) (fun q => no ?_)⟩
    · simp only [bI_0, decide_eq_false_iff_not, upA_s, upA_n _ _ (show ¬ 27 = 69 by decide), upA_n _ _ (show ¬ 32 = 69 by decide), e1]
      refine ite_i (fun q2 => no ?_) (fun q2 => ?_)
      · unfold clP
        rw [decide_eq_true_eq]
        exact fun z => q2 z.2
      · rw [Classical.not_not] at q2
        have hy : clP (S 41) (S 27) (S 32) (fcS S (S 0 11)) k = true := decide_eq_true ⟨q, q2⟩
        refine ite_i (fun q3 => ?_) (fun q3 => hK _ _ ⟨by rw [cnP, if_pos hy], fdP_n hn (fun z => q3 z.2), g, rfl, hg7⟩)
        have := h g
        rw [fdP_m (fdP_y hn hy q3) c (by omega)] at this
        exact this
    · unfold clP
      rw [decide_eq_true_eq]
      exact fun z => q z.1
  · rintro _ _ ⟨rfl, hn, g, rfl, hg7⟩ R
    simp only [sw3_c, sw3_n, Nat.reduceEqDiff, not_false_eq_true, Nat.zero_le, Nat.reduceLeDiff, Nat.reduceLT, Nat.reduceAdd, sg_s, ↓kif_0, ↓kif_c, ↓reduceIte, nl_n, nl_i, nl_r, List.length_cons, List.length_nil, true_and, and_true, upA_s, upA_n, upA_u, Prod.mk.injEq, and_self, Fr_0_10, Fr_0_11, Fr_0_3, Fr_0_5, Fr_0_6, Fr_26_6, Fr_33_12, Fr_46_12, Ld_41, Ld_54, Ld_69, oA_41, oA_54, oA_69, oC_16, oC_26, oL_0, oL_26, oL_33, oL_46, (j_aload_n_0 dX9_clash_0 (n := 1) rfl), (j_getf dX9_clash_1 (n := 4) rfl cF_9_35), (j_aload_n_0 dX9_clash_4 (n := 5) rfl), (j_getf dX9_clash_5 (n := 8) rfl cF_9_83), (j_aload_n_0 dX9_clash_8 (n := 9) rfl), (j_getf dX9_clash_9 (n := 12) rfl cF_9_79), (j_cv2v (M := mX9_clash) dX9_clash_12 (n := 15) rfl cM_9_211 (Or.inl rfl) lv_X9_clash_X8_holdIn rfl (oc := 8) rfl), (j_iconst dX9_clash_15 (n := 16) rfl ki_0), (j_istore_n_2 dX9_clash_16 (n := 17) rfl), (j_iconst dX9_clash_17 (n := 18) rfl ki_0), (j_istore_n_3 dX9_clash_18 (n := 19) rfl), (j_iload_n_3 dX9_clash_19 (n := 20) rfl), (j_aload_n_0 dX9_clash_20 (n := 21) rfl), (j_getf dX9_clash_21 (n := 24) rfl cF_9_49), (j_getf dX9_clash_24 (n := 27) rfl cF_9_151), (j_ic_ge dX9_clash_27 (n := 30) rfl br_27_49), (j_aload_n_0 dX9_clash_30 (n := 31) rfl), (j_getf dX9_clash_31 (n := 34) rfl cF_9_58), (j_getf dX9_clash_34 (n := 37) rfl cF_9_222), (j_iload_n_3 dX9_clash_37 (n := 38) rfl), (j_iald dX9_clash_38 (n := 39) rfl), (j_if_ne dX9_clash_39 (n := 42) rfl br_39_31), (j_aload_n_0 dX9_clash_42 (n := 43) rfl), (j_getf dX9_clash_43 (n := 46) rfl cF_9_49), (j_iload_n_3 dX9_clash_46 (n := 47) rfl), (j_aload_n_0 dX9_clash_47 (n := 48) rfl), (j_getf dX9_clash_48 (n := 51) rfl cF_9_79), (j_cv2i (M := mX9_clash) dX9_clash_51 (n := 54) rfl cM_9_244 (Or.inl rfl) lv_X9_clash_X5_clashes rfl (oc := 5) rfl), (j_if_ne dX9_clash_54 (n := 57) rfl br_54_6), (j_goto dX9_clash_57 (n := 60) rfl br_57_13), (j_iload_n_2 dX9_clash_60 (n := 61) rfl), (j_iload_n_1 dX9_clash_61 (n := 62) rfl), (j_ic_ne dX9_clash_62 (n := 65) rfl br_62_5), (j_iload_n_3 dX9_clash_65 (n := 66) rfl), (j_iret dX9_clash_66 (n := 67) rfl), (j_iinc_2 dX9_clash_67 (n := 70) rfl ki_1), (j_iinc_3 dX9_clash_70 (n := 73) rfl ki_1), (j_goto dX9_clash_73 (n := 76) rfl br_73_m54), (j_iconst dX9_clash_76 (n := 77) rfl ki_m1), (j_iret dX9_clash_77 (n := 78) rfl), rOk_i (M := mX9_clash) rfl, nl_x, pk_us, hc]
    rw [if_neg (nI_nlt (a := c) (b := c) (Nat.le_refl _) (by omega))]
    have := h g
    rw [hn] at this
    exact this
