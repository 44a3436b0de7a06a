-- bits (rows pasted of the kit's laws/BITS, and more)
def bt (x : Int32) (i : Nat) : Bool := x.toBitVec.getLsbD i
theorem b_ext {x y : Int32} (h : ∀ i, i < 32 → bt x i = bt y i) : x = y := Int32.toBitVec_inj.mp (BitVec.eq_of_getLsbD_eq (fun i hi => h i hi))
theorem b_or (x y : Int32) (i : Nat) : bt (x ||| y) i = (bt x i || bt y i) := by unfold bt; rw [Int32.toBitVec_or, BitVec.getLsbD_or]
theorem b_and (x y : Int32) (i : Nat) : bt (x &&& y) i = (bt x i && bt y i) := by unfold bt; rw [Int32.toBitVec_and, BitVec.getLsbD_and]
theorem b_xor (x y : Int32) (i : Nat) : bt (x ^^^ y) i = (bt x i ^^ bt y i) := by unfold bt; rw [Int32.toBitVec_xor, BitVec.getLsbD_xor]
theorem b_big {x : Int32} {i : Nat} (h : 32 ≤ i) : bt x i = false := BitVec.getLsbD_of_ge _ _ h
theorem b_m1 : ∀ i, i < 32 → bt (-1) i = true := by decide +kernel
theorem b_0 (i : Nat) : bt 0 i = false := BitVec.getLsbD_zero
theorem s_l : ∀ n, n < 32 → ((nI n &&& 31).toBitVec.smod 32).toNat = n := by decide +kernel
theorem b_shl (n : Nat) (hn : n < 32) (x : Int32) {i : Nat} (hi : i < 32) : bt (x <<< (nI n &&& 31)) i = (decide (n ≤ i) && bt x (i - n)) := by
  unfold bt
  rw [Int32.toBitVec_shiftLeft]
  show (x.toBitVec <<< ((nI n &&& 31).toBitVec.smod 32).toNat).getLsbD i = _
  rw [s_l n hn, BitVec.getLsbD_shiftLeft]
  rcases Nat.lt_or_ge i n with h | h
  · simp [h, Nat.not_le.mpr h]
  · simp [hi, h, Nat.not_lt.mpr h]
theorem b_sshr (n : Nat) (hn : n < 32) (x : Int32) {i : Nat} (hi : i < 32) : bt (x >>> (nI n &&& 31)) i = if n + i < 32 then bt x (n + i) else bt x 31 := by
  unfold bt
  rw [Int32.toBitVec_shiftRight]
  show (x.toBitVec.sshiftRight ((nI n &&& 31).toBitVec.smod 32).toNat).getLsbD i = _
  rw [s_l n hn, BitVec.getLsbD_sshiftRight, BitVec.msb_eq_getLsbD_last]
  simp [hi]
theorem b_1 : ∀ i, i < 32 → bt 1 i = decide (i = 0) := by decide +kernel
theorem b_not {x : Int32} {i : Nat} (hi : i < 32) : bt (x ^^^ (-1)) i = !bt x i := by rw [b_xor, b_m1 i hi]; simp
theorem one_bt {k i : Nat} (hk : k < 32) (hi : i < 32) : bt (1 <<< (nI k &&& 31)) i = decide (i = k) := by
  rw [b_shl k hk 1 hi]
  by_cases h : k ≤ i
  · rw [b_1 (i - k) (by omega), decide_eq_true h, Bool.true_and]
    apply decide_eq_decide.mpr
    omega
  · rw [decide_eq_false h, Bool.false_and]
    exact (decide_eq_false (by omega)).symm
theorem has_bt {s : Int32} {k : Nat} (hk : k < 32) : ((s >>> (nI k &&& 31)) &&& 1 = 1) = (bt s k = true) := by
  apply propext
  have e : ∀ i, i < 32 → bt ((s >>> (nI k &&& 31)) &&& 1) i = (decide (i = 0) && bt s k) := by
    intro i hi
    rw [b_and, b_1 i hi, b_sshr k hk s hi]
    by_cases h0 : i = 0
    · subst h0; rw [if_pos (by omega)]; simp
    · simp [h0]
  constructor
  · intro h
    have := e 0 (by omega)
    rw [h, b_1 0 (by omega)] at this
    simpa using this.symm
  · intro h
    apply b_ext
    intro i hi
    rw [e i hi, h, b_1 i hi, Bool.and_true]
theorem and_one {s : Int32} {k : Nat} (hk : k < 32) : (s &&& (1 <<< (nI k &&& 31)) = 0) = (bt s k = false) := by
  apply propext
  constructor
  · intro h
    have e : bt (s &&& (1 <<< (nI k &&& 31))) k = bt s k := by rw [b_and, one_bt hk hk]; simp
    rw [← e, h, b_0]
  · intro h
    apply b_ext
    intro i hi
    rw [b_and, one_bt hk hi, b_0]
    by_cases q : i = k
    · subst q; rw [h]; rfl
    · simp [q]
theorem mis_0 {n s : Int32} : (n &&& (s ^^^ (-1)) = 0) = (n &&& s = n) := by
  apply propext
  constructor
  · intro h
    apply b_ext
    intro i hi
    have e : bt (n &&& (s ^^^ (-1))) i = false := by rw [h, b_0]
    rw [b_and, b_not hi] at e
    rw [b_and]
    cases a : bt n i <;> cases b : bt s i <;> simp_all
  · intro h
    apply b_ext
    intro i hi
    have e : bt (n &&& s) i = bt n i := by rw [h]
    rw [b_and] at e
    rw [b_and, b_not hi, b_0]
    cases a : bt n i <;> cases b : bt s i <;> simp_all
theorem mis_n {n s : Int32} : (n &&& (s ^^^ (-1)) = n) = (n &&& s = 0) := by
  apply propext
  constructor
  · intro h
    apply b_ext
    intro i hi
    have e : bt (n &&& (s ^^^ (-1))) i = bt n i := by rw [h]
    rw [b_and, b_not hi] at e
    rw [b_and, b_0]
    cases a : bt n i <;> cases b : bt s i <;> simp_all
  · intro h
    apply b_ext
    intro i hi
    have e : bt (n &&& s) i = false := by rw [h, b_0]
    rw [b_and] at e
    rw [b_and, b_not hi]
    cases a : bt n i <;> cases b : bt s i <;> simp_all
-- stamp
set_option maxHeartbeats 4000000 in
theorem c_stamp10 (l w : Int32) (S : xA) (f : xP) (h1 : ¬ (0 ≤ l.toInt ∧ l.toInt ≤ (S 70 41 - 1).toInt) → f (-1001) S) (h2 : (0 ≤ l.toInt ∧ l.toInt ≤ (S 70 41 - 1).toInt) → ¬ (0 ≤ w.toInt ∧ w.toInt ≤ 3) → f (-1002) S)
    (h3 : (0 ≤ l.toInt ∧ l.toInt ≤ (S 70 41 - 1).toInt) → (0 ≤ w.toInt ∧ w.toInt ≤ 3) → vp_in l 40 ∧ ((S 102 l.toNatClampNeg >>> (w &&& 31)) &&& 1 = 1 → f (-1003) S) ∧ (¬ (S 102 l.toNatClampNeg >>> (w &&& 31)) &&& 1 = 1 → ¬ S 103 l.toNatClampNeg = 0 → f (-1003) S) ∧ (¬ (S 102 l.toNatClampNeg >>> (w &&& 31)) &&& 1 = 1 → S 103 l.toNatClampNeg = 0 → f (S 102 l.toNatClampNeg ||| 1 <<< (w &&& 31)) (upA S 102 (upd (S 102) l.toNatClampNeg (S 102 l.toNatClampNeg ||| 1 <<< (w &&& 31)))))) : CI mX10_stamp [.ref (70 : Nat), .int l, .int w] S f := by
  show CI mX10_stamp _ _ _
  refine ci_of (T := mX10_stamp) (fv := fun _ => True) (ls := [some (.ref (70 : Nat)), some (.int l), some (.int w)]) rfl (Nat.le_of_ble_eq_true rfl) (by decide) rfl rfl rfl (ok2_0 cX10_stamp 10 90 rfl rfl ?_)
  simp only [sw3_c, sw3_n, Nat.reduceEqDiff, not_false_eq_true, Nat.zero_le, Nat.reduceLeDiff, Nat.reduceLT, Nat.reduceAdd, sg_s, ↓kif_0, ↓kif_c, ↓reduceIte, nl_n, nl_i, nl_r, List.length_cons, List.length_nil, true_and, and_true, upA_s, upA_n, upA_u, Prod.mk.injEq, and_self, Fr_70_47, Fr_70_48, Ld_102, Ld_103, oA_102, oA_103, oC_70, oL_70, (j_aload_n_0 dX10_stamp_0 (n := 1) rfl), (j_iload_n_1 dX10_stamp_1 (n := 2) rfl), (j_cv1i (M := mX10_stamp) dX10_stamp_2 (n := 5) rfl cM_10_314 (Or.inl rfl) lv_X10_stamp_X10_noLoad rfl (oc := 10) rfl), (j_if_eq dX10_stamp_5 (n := 8) rfl br_5_7), (j_sipush dX10_stamp_8 (n := 11) rfl ks_m1001), (j_iret dX10_stamp_11 (n := 12) rfl), (j_iload_n_2 dX10_stamp_12 (n := 13) rfl), (j_i2l dX10_stamp_13 (n := 14) rfl), (j_lconst dX10_stamp_14 (n := 15) rfl (v := 0) (by decide)), (j_ldc2 dX10_stamp_15 (n := 18) rfl cJ_10_195), (j_cs3i (M := mX10_stamp) dX10_stamp_18 (n := 21) rfl cM_10_150 (Or.inl rfl) (o := 10) rfl lv_X10_stamp_X10_in rfl), (j_if_ne dX10_stamp_21 (n := 24) rfl br_21_7), (j_sipush dX10_stamp_24 (n := 27) rfl ks_m1002), (j_iret dX10_stamp_27 (n := 28) rfl), (j_aload_n_0 dX10_stamp_28 (n := 29) rfl), (j_getf dX10_stamp_29 (n := 32) rfl cF_10_111), (j_iload_n_1 dX10_stamp_32 (n := 33) rfl), (j_iald dX10_stamp_33 (n := 34) rfl), (j_iload_n_2 dX10_stamp_34 (n := 35) rfl), (j_ishr dX10_stamp_35 (n := 36) rfl), (j_iconst dX10_stamp_36 (n := 37) rfl ki_1), (j_iand dX10_stamp_37 (n := 38) rfl), (j_iconst dX10_stamp_38 (n := 39) rfl ki_1), (j_ic_eq dX10_stamp_39 (n := 42) rfl br_39_12), (j_aload_n_0 dX10_stamp_42 (n := 43) rfl), (j_getf dX10_stamp_43 (n := 46) rfl cF_10_114), (j_iload_n_1 dX10_stamp_46 (n := 47) rfl), (j_iald dX10_stamp_47 (n := 48) rfl), (j_if_eq dX10_stamp_48 (n := 51) rfl br_48_7), (j_sipush dX10_stamp_51 (n := 54) rfl ks_m1003), (j_iret dX10_stamp_54 (n := 55) rfl), (j_aload_n_0 dX10_stamp_55 (n := 56) rfl), (j_getf dX10_stamp_56 (n := 59) rfl cF_10_111), (j_iload_n_1 dX10_stamp_59 (n := 60) rfl), (j_dup2_ir dX10_stamp_60 (n := 61) rfl), (j_iald dX10_stamp_61 (n := 62) rfl), (j_iconst dX10_stamp_62 (n := 63) rfl ki_1), (j_iload_n_2 dX10_stamp_63 (n := 64) rfl), (j_ishl dX10_stamp_64 (n := 65) rfl), (j_ior dX10_stamp_65 (n := 66) rfl), (j_iast dX10_stamp_66 (n := 67) rfl), (j_aload_n_0 dX10_stamp_67 (n := 68) rfl), (j_getf dX10_stamp_68 (n := 71) rfl cF_10_111), (j_iload_n_1 dX10_stamp_71 (n := 72) rfl), (j_iald dX10_stamp_72 (n := 73) rfl), (j_iret dX10_stamp_73 (n := 74) rfl), rOk_i (M := mX10_stamp) rfl]
  refine c_noLoad _ _ _ ?_
  simp only [bI_0, decide_eq_false_iff_not, Classical.not_not]
  refine ite_i (fun q1 => ?_) h1
  refine c_in _ _ _ _ _ ?_
  simp only [bI_0, decide_eq_false_iff_not, wid_I, tj_0, tj_3]
  refine ite_i (h2 q1) (fun q2 => ?_)
  rw [Classical.not_not] at q2
  obtain ⟨hv, a1, a2, a3⟩ := h3 q1 q2
  refine ⟨hv, ite_i a1 (fun q3 => ⟨hv, ite_i (fun q4 => ⟨hv, hv, hv, ?_⟩) (a2 q3)⟩)⟩
  simp only [pk_us]
  exact a3 q3 q4
set_option maxHeartbeats 4000000 in
theorem t_stamp (S : xA) (hI : Inv S) (l w : Int32) : Both mX9_stamp mX10_stamp [.int l, .int w] S := by
  obtain ⟨i1, i2, i3, i4, i5, i6, i7, i8, i9, i10, i11, i12, i13, i14, i15, i16, i17, i18, i19, i20, i21, i22, i23⟩ := id hI
  obtain ⟨⟨o1, o2, o3⟩, j1, j2, j3, j4, j5, j6, j7, j8, j9, j10⟩ := id i21
  have o4 : (S 70 41 - 1).toInt = (S 26 6).toInt - 1 := by rw [← o1, sub_I] <;> rw [ti_1] <;> omega
  have key : ∀ (h1 : ¬ (l.toInt < 0 ∨ (S 26 6).toInt ≤ l.toInt)) (h2 : ¬ (w.toInt < 0 ∨ 3 < w.toInt)), S 32 l.toNatClampNeg = S 102 l.toNatClampNeg ∧ S 41 l.toNatClampNeg = S 103 l.toNatClampNeg ∧ ((S 32 l.toNatClampNeg &&& (1 <<< (w &&& 31)) = 0) = (¬ (S 102 l.toNatClampNeg >>> (w &&& 31)) &&& 1 = 1)) ∧ vp_in l 40 ∧ l.toNatClampNeg < (S 26 6).toNatClampNeg := by
    intro h1 h2
    have hv := cl_lt2 (x := l) (c := S 26 6) (by omega) (by omega)
    have e : w = nI w.toNatClampNeg := (nI_cl (by omega)).symm
    have e2 := cl_eq (x := w) (by omega)
    refine ⟨j6 _ hv, j7 _ hv, ?_, vp_I (by omega) (by omega), hv⟩
    rw [e, and_one (by omega), has_bt (by omega), j6 _ hv, Bool.not_eq_true]
  show CI mX9_stamp _ _ _
  refine ci_of (T := mX9_stamp) (fv := fun _ => True) (ls := [some (.ref (0 : Nat)), some (.int l), some (.int w), none]) rfl (Nat.le_of_ble_eq_true rfl) (by decide) rfl rfl rfl (ok2_0 cX9_stamp 9 90 rfl rfl ?_)
  simp only [sw3_c, sw3_n, Nat.reduceEqDiff, not_false_eq_true, Nat.zero_le, Nat.reduceLeDiff, Nat.reduceLT, Nat.reduceAdd, sg_s, ↓kif_0, ↓kif_c, ↓reduceIte, nl_n, nl_i, nl_r, List.length_cons, List.length_nil, true_and, and_true, upA_s, upA_n, upA_u, Prod.mk.injEq, and_self, Fr_0_5, Fr_0_6, Fr_26_5, Fr_26_6, Fr_33_12, Fr_46_12, Ld_32, Ld_41, Ld_54, oA_32, oA_41, oA_54, oL_0, oL_26, oL_33, oL_46, (j_iload_n_1 dX9_stamp_0 (n := 1) rfl), (j_aload_n_0 dX9_stamp_1 (n := 2) rfl), (j_getf dX9_stamp_2 (n := 5) rfl cF_9_49), (j_getf dX9_stamp_5 (n := 8) rfl cF_9_151), (j_cs2i (M := mX9_stamp) dX9_stamp_8 (n := 11) rfl cM_9_169 (Or.inl rfl) (o := 9) rfl lv_X9_stamp_X9_noNumber rfl), (j_if_eq dX9_stamp_11 (n := 14) rfl br_11_7), (j_sipush dX9_stamp_14 (n := 17) rfl ks_m1001), (j_iret dX9_stamp_17 (n := 18) rfl), (j_iload_n_2 dX9_stamp_18 (n := 19) rfl), (j_iconst dX9_stamp_19 (n := 20) rfl ki_0), (j_iconst dX9_stamp_20 (n := 21) rfl ki_3), (j_cs3i (M := mX9_stamp) dX9_stamp_21 (n := 24) rfl cM_9_91 (Or.inl rfl) (o := 9) rfl lv_X9_stamp_X9_beyond rfl), (j_if_eq dX9_stamp_24 (n := 27) rfl br_24_7), (j_sipush dX9_stamp_27 (n := 30) rfl ks_m1002), (j_iret dX9_stamp_30 (n := 31) rfl), (j_iconst dX9_stamp_31 (n := 32) rfl ki_1), (j_iload_n_2 dX9_stamp_32 (n := 33) rfl), (j_ishl dX9_stamp_33 (n := 34) rfl), (j_istore_n_3 dX9_stamp_34 (n := 35) rfl), (j_aload_n_0 dX9_stamp_35 (n := 36) rfl), (j_getf dX9_stamp_36 (n := 39) rfl cF_9_49), (j_getf dX9_stamp_39 (n := 42) rfl cF_9_219), (j_iload_n_1 dX9_stamp_42 (n := 43) rfl), (j_iald dX9_stamp_43 (n := 44) rfl), (j_iload_n_3 dX9_stamp_44 (n := 45) rfl), (j_iand dX9_stamp_45 (n := 46) rfl), (j_if_ne dX9_stamp_46 (n := 49) rfl br_46_15), (j_aload_n_0 dX9_stamp_49 (n := 50) rfl), (j_getf dX9_stamp_50 (n := 53) rfl cF_9_58), (j_getf dX9_stamp_53 (n := 56) rfl cF_9_222), (j_iload_n_1 dX9_stamp_56 (n := 57) rfl), (j_iald dX9_stamp_57 (n := 58) rfl), (j_if_eq dX9_stamp_58 (n := 61) rfl br_58_7), (j_sipush dX9_stamp_61 (n := 64) rfl ks_m1003), (j_iret dX9_stamp_64 (n := 65) rfl), (j_aload_n_0 dX9_stamp_65 (n := 66) rfl), (j_getf dX9_stamp_66 (n := 69) rfl cF_9_49), (j_getf dX9_stamp_69 (n := 72) rfl cF_9_219), (j_iload_n_1 dX9_stamp_72 (n := 73) rfl), (j_dup2_ir dX9_stamp_73 (n := 74) rfl), (j_iald dX9_stamp_74 (n := 75) rfl), (j_iload_n_3 dX9_stamp_75 (n := 76) rfl), (j_ior dX9_stamp_76 (n := 77) rfl), (j_iast dX9_stamp_77 (n := 78) rfl), (j_aload_n_0 dX9_stamp_78 (n := 79) rfl), (j_getf dX9_stamp_79 (n := 82) rfl cF_9_49), (j_getf dX9_stamp_82 (n := 85) rfl cF_9_219), (j_iload_n_1 dX9_stamp_85 (n := 86) rfl), (j_iald dX9_stamp_86 (n := 87) rfl), (j_iret dX9_stamp_87 (n := 88) rfl), rOk_i (M := mX9_stamp) rfl]
  refine c_noNumber _ _ _ _ ?_
  simp only [bI_0, decide_eq_false_iff_not]
  refine ite_i (fun h1 => ?_) (fun h1 => c_stamp10 l w S _ (fun _ => g3_rf hI) (fun q => absurd (by omega) h1) (fun q => absurd (by omega) h1))
  refine c_beyond _ _ _ _ _ ?_
  simp only [bI_0, decide_eq_false_iff_not, ti_0, ti_3]
  refine ite_i (fun h2 => ?_) (fun h2 => c_stamp10 l w S _ (fun q => absurd (by omega) q) (fun _ _ => g3_rf hI) (fun _ q => absurd (by omega) h2))
  obtain ⟨k1, k2, k3, k4, k5⟩ := key h1 h2
  refine ⟨k4, ite_i (fun h3 => ⟨k4, ite_i (fun h4 => ⟨k4, k4, k4, ?_⟩) (fun h4 => ?_)⟩) (fun h3 => ?_)⟩
  · simp only [pk_us]
    rw [k2] at h4
    rw [k3] at h3
    refine c_stamp10 l w _ _ (fun q => absurd (by simp only [upA_s, upA_n, upA_u, Nat.reduceEqDiff, not_false_eq_true, pk_us, upd_n]; omega) q) (fun _ q => absurd (by omega) q) (fun _ _ => ⟨k4, ?_⟩)
    simp only [upA_s, upA_n, upA_u, Nat.reduceEqDiff, not_false_eq_true, pk_us, upd_n]
    refine ⟨fun q => absurd q h3, fun _ q => absurd h4 q, fun _ _ => ?_⟩
    refine ⟨by rw [k1], ?_⟩
    unfold Inv
    simp only [upA_s, upA_n, upA_u, Nat.reduceEqDiff, not_false_eq_true, pk_us, upd_n]
    refine ⟨i1, i2, i3, i4, i5, i6, i7, i8, i9, i10, i11, i12, i13, i14, i15, i16, i17, i18, i19, i20, ⟨⟨o1, o2, o3⟩, j1, j2, j3, j4, j5, EQ_up j6 (by rw [k1]), j7, j8, j9, ?_⟩, i22, i23⟩
    intro i hi hi2
    rw [upd_n (by omega)]
    exact j10 i hi hi2
  · rw [k2] at h4
    rw [k3] at h3
    exact c_stamp10 l w S _ (fun q => absurd (by omega) q) (fun _ q => absurd (by omega) q) (fun _ _ => ⟨k4, fun q => absurd q h3, fun _ _ => g3_rf hI, fun _ q => absurd q h4⟩)
  · rw [k3, Classical.not_not] at h3
    exact c_stamp10 l w S _ (fun q => absurd (by omega) q) (fun _ q => absurd (by omega) q) (fun _ _ => ⟨k4, fun _ => g3_rf hI, fun q => absurd h3 q, fun q => absurd h3 q⟩)
