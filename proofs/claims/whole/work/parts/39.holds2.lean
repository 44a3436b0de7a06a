-- holds, called
theorem nI_cl {x : Int32} (h : 0 ≤ x.toInt) : nI x.toNatClampNeg = x := by
  have e := cl_eq h
  have l := x.toInt_lt
  apply Int32.toInt_inj.mp
  rw [nI_toInt (by omega)]
  omega
def Ord (S : xA) : Prop := JN 14 (S 1 1) (S 70 1) ∧ JR (S 1 1) (S 2) (S 71) ∧ JOr (S 9 7) (S 10) (S 11) (S 12) (S 13) (S 70 15) (S 84) (S 85) (S 86) (S 87)
theorem Inv_Ord {S : xA} (h : Inv S) : Ord S := ⟨h.2.1, h.2.2.1, h.2.2.2.2.2.2.2.2.2.2.2.2.2.2.2.1⟩
theorem ordO {S : xA} (hI : Ord S) {o : Nat} (ho : o < (S 9 7).toNatClampNeg) : (S 12 o = S 86 o ∧ ¬ ((S 12 o).toInt < 0 ∨ 8 ≤ (S 12 o).toInt)) ∧ (S 10 o = S 84 o ∧ 0 ≤ (S 10 o).toInt ∧ (S 10 o).toInt ≤ 3) ∧ (S 11 o = S 85 o ∧ 0 ≤ (S 11 o).toInt ∧ (S 11 o).toInt ≤ 5) ∧ (S 13 o = S 87 o ∧ 0 ≤ (S 13 o).toInt ∧ (S 13 o).toInt ≤ 240) := by
  obtain ⟨-, a1, a2, a3, a4⟩ := hI.2.2
  exact ⟨⟨(a3 o ho).1, by have := (a3 o ho).2; omega⟩, a1 o ho, a2 o ho, a4 o ho⟩
theorem rc_eqO {S : xA} (hI : Ord S) {o : Nat} (ho : o < (S 9 7).toNatClampNeg) {t : Int32} (ht : ¬ (t.toInt < 0 ∨ 8 ≤ t.toInt)) (hour : Int32) (hh : hrO S o = hour) : rcM S o t = cmC S o t hour ∧ (S 2 (S 12 o * 8 + t).toNatClampNeg = -1 ∨ (0 ≤ (S 2 (S 12 o * 8 + t).toNatClampNeg).toInt ∧ (S 2 (S 12 o * 8 + t).toNatClampNeg).toInt ≤ 491490)) := by
  obtain ⟨⟨e1, e2⟩, -⟩ := ordO hI ho
  obtain ⟨e, g3, g4⟩ := ix88c e2 ht
  obtain ⟨h1, h2⟩ := JR_at hI.2.1 hI.1.2 g3 g4
  rw [← e] at h1 h2
  refine ⟨?_, h2⟩
  unfold rcM cmC
  have e3 : awM S (S 86 o) t = S 2 (S 12 o * 8 + t).toNatClampNeg := by
    unfold awM
    rw [← e1]
    exact h1
  rw [e3, hh]
  rcases h2 with q | ⟨q1, q2⟩
  · rw [q, if_pos (by decide), if_pos rfl]
  · rw [if_neg (by rw [lt_I, ti_0]; omega), if_neg (by rw [eq_I, ti_m1]; omega)]
theorem lsn_hld {S : xA} (hI : Ord S) {hour at' first : Int32} (hg : ∀ o, o < (S 9 7).toNatClampNeg → gvn S at' first o = hrO S o ∧ 0 ≤ (hrO S o).toInt ∧ (hrO S o).toInt ≤ 240) {u t p : Nat} (hu : u < 6) (ht : t < 8) (hp : p < 2) : (lsn S hour at' first (S 9 7).toNatClampNeg).1 (p * 48 + u * 8 + t) = (hld S (nI u) (nI t) hour (nI p) (S 9 7).toNatClampNeg).1 := by
  have htt : ¬ ((nI t).toInt < 0 ∨ 8 ≤ (nI t).toInt) := by rw [toInt_nI (by omega)]; omega
  rw [(lsn_hl S hour at' first hu ht hp _ ?_).1]
  · unfold hld
    rw [hlF_congr _ ?_]
    intro o ho
    obtain ⟨-, ⟨e1, -⟩, ⟨e2, -⟩, -⟩ := ordO hI ho
    refine ⟨e1, e2, ?_⟩
    exact ((rc_eqO hI ho htt _ (hg o ho).1.symm).1).symm
  · intro o ho
    obtain ⟨-, ⟨-, e1⟩, ⟨-, e2⟩, -⟩ := ordO hI ho
    refine ⟨e1, e2, ?_⟩
    obtain ⟨g1, g2, g3⟩ := hg o ho
    obtain ⟨-, h2⟩ := rc_eqO hI ho htt _ rfl
    rw [g1]
    unfold cmC
    rcases h2 with q | ⟨q1, q2⟩
    · rw [if_pos q]; exact Or.inl rfl
    · rw [if_neg (by rw [eq_I, ti_m1]; omega)]
      right
      rw [add_I] <;> omega
theorem gvn_0 {S : xA} (hI : Inv S) (first : Int32) : ∀ o, o < (S 9 7).toNatClampNeg → gvn S 0 first o = hrO S o ∧ 0 ≤ (hrO S o).toInt ∧ (hrO S o).toInt ≤ 240 := by
  intro o ho
  obtain ⟨-, -, -, e1, e2⟩ := ordO (Inv_Ord hI) ho
  rw [hrO_1 hI.2.2.2.2.2.2.2.2.2.2.2.2.2.2.2.2.1]
  unfold gvn
  rw [if_pos rfl]
  rw [← e1]
  exact ⟨rfl, e2⟩
theorem hld_up {S : xA} {f g : Nat → Int32} {u t hour pair : Int32} {n : Nat} : hld (upA (upA S 15 f) 14 g) u t hour pair n = hld S u t hour pair n := by
  unfold hld
  simp only [upA_s, upA_n, upA_u, Nat.reduceEqDiff, not_false_eq_true, pk_us, upd_n]
  rw [hlF_congr _ ?_]
  intro o ho
  refine ⟨rfl, rfl, ?_⟩
  unfold rcM awM hrO
  simp only [upA_s, upA_n, upA_u, Nat.reduceEqDiff, not_false_eq_true, pk_us, upd_n]
theorem Inv_up {S : xA} (hI : Inv S) (f g : Nat → Int32) : Inv (upA (upA S 15 f) 14 g) := by
  unfold Inv
  simp only [upA_s, upA_n, upA_u, Nat.reduceEqDiff, not_false_eq_true, pk_us, upd_n]
  exact hI
theorem ordC {S : xA} (hI : Ord S) : S 9 7 = nI (S 9 7).toNatClampNeg ∧ S 70 15 = nI (S 9 7).toNatClampNeg ∧ (S 9 7).toNatClampNeg ≤ 40 := by
  obtain ⟨⟨o1, o2, o3⟩, -⟩ := hI.2.2
  have e := nI_cl o2
  have e2 := cl_eq o2
  refine ⟨e.symm, by rw [← o1, e], by omega⟩
theorem c_lis {S : xA} (hI : Ord S) (hour at' : Int32) (f : xA → Prop) (h : f (upA (upA S 15 (lsn S hour at' (fch S (S 9 7).toNatClampNeg) (S 9 7).toNatClampNeg).2) 14 (lsn S hour at' (fch S (S 9 7).toNatClampNeg) (S 9 7).toNatClampNeg).1)) : CV mX6_listen [.ref (9 : Nat), .int hour, .int at'] S f := by
  obtain ⟨h1, h2, h3⟩ := ordC hI
  exact c_listen hour at' S f _ h1 h3 (fun o ho => (ordO hI ho).2.1.2) (fun o ho => (ordO hI ho).2.2.1.2) (fun o ho => (ordO hI ho).1.2) h
theorem c_hol {S : xA} (hI : Ord S) (u t hour pair : Int32) (f : xP) (ht : ¬ (t.toInt < 0 ∨ 8 ≤ t.toInt)) (h : f (hld S u t hour pair (S 9 7).toNatClampNeg).1 S) : CI mX10_holdsOf [.ref (70 : Nat), .int u, .int t, .int hour, .int pair] S f := by
  obtain ⟨h1, h2, h3⟩ := ordC hI
  exact c_holdsOf u t hour pair S f _ h2 h3 ht (fun o ho => by have q := (ordO hI ho).1; rw [← q.1]; exact q.2) h
theorem c_isC {S : xA} (hI : Ord S) (u t hour : Int32) (f : xP) (ht : ¬ (t.toInt < 0 ∨ 8 ≤ t.toInt)) (h : f (bI (clD (S 84) (hld S u t hour 0 (S 9 7).toNatClampNeg).1 (hld S u t hour 1 (S 9 7).toNatClampNeg).1)) S) : CI mX10_isCalled [.ref (70 : Nat), .int u, .int t, .int hour] S f := by
  obtain ⟨h1, h2, h3⟩ := ordC hI
  exact c_isCalled u t hour S f _ h2 h3 ht (fun o ho => by have q := (ordO hI ho).1; rw [← q.1]; exact q.2) h
theorem ixP {p u t : Int32} (h1 : ¬ (p.toInt < 0 ∨ 1 < p.toInt)) (h2 : ¬ (u.toInt < 0 ∨ 6 ≤ u.toInt)) (h3 : ¬ (t.toInt < 0 ∨ 8 ≤ t.toInt)) : vp_in (p * 48 + u * 8 + t) 96 ∧ (p * 48 + u * 8 + t).toNatClampNeg = p.toNatClampNeg * 48 + u.toNatClampNeg * 8 + t.toNatClampNeg := by
  have e1 : (p * 48).toInt = p.toInt * 48 := by rw [mul_I] <;> rw [ti_48] <;> omega
  have e2 : (u * 8).toInt = u.toInt * 8 := by rw [mul_I] <;> rw [ti_8] <;> omega
  have e3 : (p * 48 + u * 8).toInt = p.toInt * 48 + u.toInt * 8 := by rw [add_I] <;> rw [e1, e2] <;> omega
  have e4 : (p * 48 + u * 8 + t).toInt = p.toInt * 48 + u.toInt * 8 + t.toInt := by rw [add_I] <;> rw [e3] <;> omega
  have c1 := cl_eq (x := p) (by omega)
  have c2 := cl_eq (x := u) (by omega)
  have c3 := cl_eq (x := t) (by omega)
  have c4 := cl_eq (x := p * 48 + u * 8 + t) (by omega)
  exact ⟨vp_I (by omega) (by omega), by omega⟩
set_option maxHeartbeats 4000000 in
theorem t_holds (S : xA) (hI : Inv S) (u t hour pair : Int32) : Both mX9_holds mX10_holds [.int u, .int t, .int hour, .int pair] S := by
  show CI mX9_holds _ _ _
  refine ci_of (T := mX9_holds) (fv := fun _ => True) (ls := [some (.ref (0 : Nat)), some (.int u), some (.int t), some (.int hour), some (.int pair)]) rfl (Nat.le_of_ble_eq_true rfl) (by decide) rfl rfl rfl (ok2_0 cX9_holds 9 80 rfl rfl ?_)
  simp only [sw3_c, sw3_n, Nat.reduceEqDiff, not_false_eq_true, Nat.zero_le, Nat.reduceLeDiff, Nat.reduceLT, Nat.reduceAdd, sg_s, ↓kif_0, ↓kif_c, ↓reduceIte, nl_n, nl_i, nl_r, List.length_cons, List.length_nil, true_and, and_true, upA_s, upA_n, upA_u, Prod.mk.injEq, and_self, Fr_0_2, Fr_9_5, Ld_14, oA_14, oC_9, oL_0, oL_9, (j_iload_n_1 dX9_holds_0 (n := 1) rfl), (j_cs1i (M := mX9_holds) dX9_holds_1 (n := 4) rfl cM_9_116 (Or.inl rfl) (o := 9) rfl lv_X9_holds_X9_noUnion rfl), (j_if_ne dX9_holds_4 (n := 7) rfl br_4_10), (j_iload_n_2 dX9_holds_7 (n := 8) rfl), (j_cs1i (M := mX9_holds) dX9_holds_8 (n := 11) rfl cM_9_87 (Or.inl rfl) (o := 9) rfl lv_X9_holds_X9_noTown rfl), (j_if_eq dX9_holds_11 (n := 14) rfl br_11_7), (j_sipush dX9_holds_14 (n := 17) rfl ks_m1001), (j_iret dX9_holds_17 (n := 18) rfl), (j_iload_n_3 dX9_holds_18 (n := 19) rfl), (j_iconst dX9_holds_19 (n := 20) rfl ki_0), (j_sipush dX9_holds_20 (n := 23) rfl ks_240), (j_cs3i (M := mX9_holds) dX9_holds_23 (n := 26) rfl cM_9_91 (Or.inl rfl) (o := 9) rfl lv_X9_holds_X9_beyond rfl), (j_if_ne dX9_holds_26 (n := 29) rfl br_26_13), (j_iload_4 dX9_holds_29 (n := 31) rfl), (j_iconst dX9_holds_31 (n := 32) rfl ki_0), (j_iconst dX9_holds_32 (n := 33) rfl ki_1), (j_cs3i (M := mX9_holds) dX9_holds_33 (n := 36) rfl cM_9_91 (Or.inl rfl) (o := 9) rfl lv_X9_holds_X9_beyond rfl), (j_if_eq dX9_holds_36 (n := 39) rfl br_36_7), (j_sipush dX9_holds_39 (n := 42) rfl ks_m1002), (j_iret dX9_holds_42 (n := 43) rfl), (j_aload_n_0 dX9_holds_43 (n := 44) rfl), (j_getf dX9_holds_44 (n := 47) rfl cF_9_28), (j_iload_n_3 dX9_holds_47 (n := 48) rfl), (j_iconst dX9_holds_48 (n := 49) rfl ki_0), (j_cv2v (M := mX9_holds) dX9_holds_49 (n := 52) rfl cM_9_183 (Or.inl rfl) lv_X9_holds_X6_listen rfl (oc := 6) rfl), (j_aload_n_0 dX9_holds_52 (n := 53) rfl), (j_getf dX9_holds_53 (n := 56) rfl cF_9_28), (j_getf dX9_holds_56 (n := 59) rfl cF_9_190), (j_iload_4 dX9_holds_59 (n := 61) rfl), (j_bipush dX9_holds_61 (n := 63) rfl kb_48), (j_imul dX9_holds_63 (n := 64) rfl), (j_iload_n_1 dX9_holds_64 (n := 65) rfl), (j_bipush dX9_holds_65 (n := 67) rfl kb_8), (j_imul dX9_holds_67 (n := 68) rfl), (j_iadd dX9_holds_68 (n := 69) rfl), (j_iload_n_2 dX9_holds_69 (n := 70) rfl), (j_iadd dX9_holds_70 (n := 71) rfl), (j_iald dX9_holds_71 (n := 72) rfl), (j_iret dX9_holds_72 (n := 73) rfl), rOk_i (M := mX9_holds) rfl]
  repeat' (first | (with_reducible refine c_lis (Inv_Ord hI) _ _ _ ?_) | (first | (with_reducible refine c_noTown _ _ _ ?_) | (with_reducible refine c_noUnion _ _ _ ?_) | (with_reducible refine c_noGood _ _ _ ?_) | (with_reducible refine c_beyond _ _ _ _ _ ?_) | (with_reducible refine c_noNumber _ _ _ _ ?_) | (with_reducible refine c_has _ _ _ _ ?_) | (with_reducible refine ite_i (fun _ => ?_) (fun _ => ?_)) | (with_reducible refine And.intro ?_ ?_)))
  all_goals ((try simp only [bI_0, bI_t, bI_f, decide_eq_false_iff_not, Classical.not_not] at *); (try simp only [wid_I, eq_I, lt_I, le_I, Classical.not_not, ti_m1000000, ti_m1004, ti_m1003, ti_m1002, ti_m1001, ti_m650, ti_m99, ti_m10, ti_m1, ti_0, ti_1, ti_2, ti_3, ti_4, ti_5, ti_6, ti_7, ti_8, ti_9, ti_10, ti_12, ti_14, ti_15, ti_20, ti_24, ti_30, ti_31, ti_32, ti_40, ti_44, ti_48, ti_57, ti_59, ti_63, ti_64, ti_72, ti_96, ti_97, ti_98, ti_99, ti_100, ti_101, ti_102, ti_105, ti_107, ti_108, ti_109, ti_110, ti_111, ti_112, ti_114, ti_115, ti_116, ti_117, ti_119, ti_120, ti_121, ti_122, ti_160, ti_168, ti_216, ti_222, ti_240, ti_255, ti_262, ti_302, ti_400, ti_495, ti_650, ti_991, ti_999, ti_1300, ti_9100, ti_9999, ti_99999, ti_1000000, tj_m550, tj_m99, tj_0, tj_1, tj_2, tj_3, tj_5, tj_6, tj_7, tj_8, tj_30, tj_48, tj_57, tj_63, tj_97, tj_99, tj_100, tj_122, tj_240, tj_255, tj_550, tj_999, tj_9999, tj_99999, tj_4294967295] at *))
  all_goals first | (with_reducible exact (ixP (by omega) (by omega) (by omega)).1) | skip
  all_goals
    show CI mX10_holds _ _ _
    refine ci_of (T := mX10_holds) (fv := fun _ => True) (ls := [some (.ref (70 : Nat)), some (.int u), some (.int t), some (.int hour), some (.int pair)]) rfl (Nat.le_of_ble_eq_true rfl) (by decide) rfl rfl rfl (ok2_0 cX10_holds 10 80 rfl rfl ?_)
    simp only [sw3_c, sw3_n, Nat.reduceEqDiff, not_false_eq_true, Nat.zero_le, Nat.reduceLeDiff, Nat.reduceLT, Nat.reduceAdd, sg_s, ↓kif_0, ↓kif_c, ↓reduceIte, nl_n, nl_i, nl_r, List.length_cons, List.length_nil, true_and, and_true, upA_s, upA_n, upA_u, Prod.mk.injEq, and_self, oC_70, (j_iload_n_1 dX10_holds_0 (n := 1) rfl), (j_cs1i (M := mX10_holds) dX10_holds_1 (n := 4) rfl cM_10_183 (Or.inl rfl) (o := 10) rfl lv_X10_holds_X10_isUnion rfl), (j_if_eq dX10_holds_4 (n := 7) rfl br_4_10), (j_iload_n_2 dX10_holds_7 (n := 8) rfl), (j_cs1i (M := mX10_holds) dX10_holds_8 (n := 11) rfl cM_10_158 (Or.inl rfl) (o := 10) rfl lv_X10_holds_X10_isTown rfl), (j_if_ne dX10_holds_11 (n := 14) rfl br_11_7), (j_sipush dX10_holds_14 (n := 17) rfl ks_m1001), (j_iret dX10_holds_17 (n := 18) rfl), (j_iload_n_3 dX10_holds_18 (n := 19) rfl), (j_cs1i (M := mX10_holds) dX10_holds_19 (n := 22) rfl cM_10_218 (Or.inl rfl) (o := 10) rfl lv_X10_holds_X10_isHour rfl), (j_if_eq dX10_holds_22 (n := 25) rfl br_22_26), (j_iload_4 dX10_holds_25 (n := 27) rfl), (j_i2l dX10_holds_27 (n := 28) rfl), (j_lconst dX10_holds_28 (n := 29) rfl (v := 0) (by decide)), (j_lconst dX10_holds_29 (n := 30) rfl (v := 1) (by decide)), (j_cs3i (M := mX10_holds) dX10_holds_30 (n := 33) rfl cM_10_150 (Or.inl rfl) (o := 10) rfl lv_X10_holds_X10_in rfl), (j_if_eq dX10_holds_33 (n := 36) rfl br_33_15), (j_aload_n_0 dX10_holds_36 (n := 37) rfl), (j_iload_n_1 dX10_holds_37 (n := 38) rfl), (j_iload_n_2 dX10_holds_38 (n := 39) rfl), (j_iload_n_3 dX10_holds_39 (n := 40) rfl), (j_iload_4 dX10_holds_40 (n := 42) rfl), (j_cv4i (M := mX10_holds) dX10_holds_42 (n := 45) rfl cM_10_214 (Or.inl rfl) lv_X10_holds_X10_holdsOf rfl (oc := 10) rfl), (j_goto dX10_holds_45 (n := 48) rfl br_45_6), (j_sipush dX10_holds_48 (n := 51) rfl ks_m1002), (j_iret dX10_holds_51 (n := 52) rfl), rOk_i (M := mX10_holds) rfl]
    repeat' (first | (with_reducible refine c_hol (Inv_Ord (Inv_up hI _ _)) _ _ _ _ _ ?_ ?_) | (first | (with_reducible refine c_isTown _ _ _ ?_) | (with_reducible refine c_isUnion _ _ _ ?_) | (with_reducible refine c_isGood _ _ _ ?_) | (with_reducible refine c_isHour _ _ _ ?_) | (with_reducible refine c_in _ _ _ _ _ ?_) | (with_reducible refine c_one _ _ _ ?_) | (with_reducible refine c_least _ _ _ _ ?_) | (with_reducible refine c_isGame _ _ _ _ ?_) | (with_reducible refine ite_i (fun _ => ?_) (fun _ => ?_)) | (with_reducible refine And.intro ?_ ?_)))
    all_goals ((try simp only [bI_0, bI_t, bI_f, decide_eq_false_iff_not, Classical.not_not] at *); (try simp only [wid_I, eq_I, lt_I, le_I, Classical.not_not, ti_m1000000, ti_m1004, ti_m1003, ti_m1002, ti_m1001, ti_m650, ti_m99, ti_m10, ti_m1, ti_0, ti_1, ti_2, ti_3, ti_4, ti_5, ti_6, ti_7, ti_8, ti_9, ti_10, ti_12, ti_14, ti_15, ti_20, ti_24, ti_30, ti_31, ti_32, ti_40, ti_44, ti_48, ti_57, ti_59, ti_63, ti_64, ti_72, ti_96, ti_97, ti_98, ti_99, ti_100, ti_101, ti_102, ti_105, ti_107, ti_108, ti_109, ti_110, ti_111, ti_112, ti_114, ti_115, ti_116, ti_117, ti_119, ti_120, ti_121, ti_122, ti_160, ti_168, ti_216, ti_222, ti_240, ti_255, ti_262, ti_302, ti_400, ti_495, ti_650, ti_991, ti_999, ti_1300, ti_9100, ti_9999, ti_99999, ti_1000000, tj_m550, tj_m99, tj_0, tj_1, tj_2, tj_3, tj_5, tj_6, tj_7, tj_8, tj_30, tj_48, tj_57, tj_63, tj_97, tj_99, tj_100, tj_122, tj_240, tj_255, tj_550, tj_999, tj_9999, tj_99999, tj_4294967295] at *))
    all_goals first | (exfalso; omega) | (with_reducible exact g3_rf hI) | omega | skip
  refine ⟨?_, Inv_up hI _ _⟩
  rw [hld_up]
  simp only [upA_s, upA_n, upA_u, Nat.reduceEqDiff, not_false_eq_true, pk_us, upd_n]
  obtain ⟨-, e⟩ := ixP (p := pair) (u := u) (t := t) (by omega) (by omega) (by omega)
  have c1 := cl_eq (x := pair) (by omega)
  have c2 := cl_eq (x := u) (by omega)
  have c3 := cl_eq (x := t) (by omega)
  rw [e, lsn_hld (Inv_Ord hI) (gvn_0 hI _) (by omega) (by omega) (by omega), nI_cl (by omega), nI_cl (by omega), nI_cl (by omega)]
def cldO (S : xA) (u t hour : Int32) : Bool := clD (S 84) (hld S u t hour 0 (S 9 7).toNatClampNeg).1 (hld S u t hour 1 (S 9 7).toNatClampNeg).1
theorem clD_eq {K K' : Nat → Int32} {c : Nat} (hc : c ≤ 40) (hK : ∀ o, o < c → K o = K' o) {A B : Int32} (hA : A = -1 ∨ ∃ o, o < c ∧ A = nI o) (hB : B = -1 ∨ ∃ o, o < c ∧ B = nI o) : clD K A B = clD K' A B := by
  unfold clD
  have key : ∀ {A : Int32}, (A = -1 ∨ ∃ o, o < c ∧ A = nI o) → ¬ A = -1 → K A.toNatClampNeg = K' A.toNatClampNeg := by
    intro A hA hn
    rcases hA with q | ⟨o, h1, h2⟩
    · exact absurd q hn
    · rw [h2, nI_clamp (by omega)]; exact hK o h1
  apply decide_eq_decide.mpr
  constructor
  · rintro ⟨q1, q2, q3⟩
    refine ⟨q1, (key hA q1) ▸ q2, ?_⟩
    by_cases hb : B = -1
    · exact Or.inl hb
    · rcases q3 with q | q
      · exact Or.inl q
      · exact Or.inr ((key hB hb) ▸ q)
  · rintro ⟨q1, q2, q3⟩
    refine ⟨q1, (key hA q1).symm ▸ q2, ?_⟩
    by_cases hb : B = -1
    · exact Or.inl hb
    · rcases q3 with q | q
      · exact Or.inl q
      · exact Or.inr ((key hB hb).symm ▸ q)
theorem c_cal {S S' : xA} (hI : Ord S) {hour at' first : Int32} (hg : ∀ o, o < (S 9 7).toNatClampNeg → gvn S at' first o = hrO S o ∧ 0 ≤ (hrO S o).toInt ∧ (hrO S o).toInt ≤ 240) (h14 : S' 14 = (lsn S hour at' first (S 9 7).toNatClampNeg).1) (h10 : S' 10 = S 10) {u t : Nat} (hu : u < 6) (ht : t < 8) (p : Int32) (hp : p = nI (u * 8 + t)) (f : xP) (h : f (bI (cldO S (nI u) (nI t) hour)) S') : CI mX6_calls [.ref (9 : Nat), .int p] S' f := by
  obtain ⟨c1, c2, c3⟩ := ordC hI
  have e1 : p.toNatClampNeg = 0 * 48 + u * 8 + t := by rw [hp, nI_clamp (by omega)]; omega
  have e2 : (48 + p).toNatClampNeg = 1 * 48 + u * 8 + t := by
    rw [hp, show (48 : Int32) = nI 48 from rfl, nI_add, nI_clamp (by omega)]; omega
  have v2 : vp_in (48 + p) 96 := by
    rw [hp, show (48 : Int32) = nI 48 from rfl, nI_add]; exact vp_in_nI (by omega) (by omega)
  have a1 := lsn_hld hI (hour := hour) hg hu ht (p := 0) (by omega)
  have a2 := lsn_hld hI (hour := hour) hg hu ht (p := 1) (by omega)
  have z0 : nI 0 = 0 := rfl
  have z1 : nI 1 = 1 := rfl
  rw [z0] at a1
  rw [z1] at a2
  refine c_calls p S' f (by rw [hp]; exact vp_in_nI (by omega) (by omega)) v2 ?_ ?_ ?_
  · rw [h14, e1, a1]; exact isO_hl c3
  · rw [h14, e2, a2]; exact isO_hl c3
  · rw [h14, e1, e2, a1, a2, h10, clD_eq (K' := S 84) (A := (hld S (nI u) (nI t) hour 0 (S 9 7).toNatClampNeg).1) (B := (hld S (nI u) (nI t) hour 1 (S 9 7).toNatClampNeg).1) c3 (fun o ho => (ordO hI ho).2.1.1) (hlF_rg _) (hlF_rg _)]
    exact h
theorem bF_in (b : Bool) : (if b = false then (0 : Int32) else 1) = bI b := by cases b <;> rfl
theorem bI_in (b : Bool) : (if bI b = 0 then (0 : Int32) else 1) = bI b := by cases b <;> rfl
set_option maxHeartbeats 4000000 in
theorem t_called (S : xA) (hI : Inv S) (u t hour : Int32) : Both mX9_called mX10_called [.int u, .int t, .int hour] S := by
  show CI mX9_called _ _ _
  refine ci_of (T := mX9_called) (fv := fun _ => True) (ls := [some (.ref (0 : Nat)), some (.int u), some (.int t), some (.int hour)]) rfl (Nat.le_of_ble_eq_true rfl) (by decide) rfl rfl rfl (ok2_0 cX9_called 9 80 rfl rfl ?_)
  simp only [sw3_c, sw3_n, Nat.reduceEqDiff, not_false_eq_true, Nat.zero_le, Nat.reduceLeDiff, Nat.reduceLT, Nat.reduceAdd, sg_s, ↓kif_0, ↓kif_c, ↓reduceIte, nl_n, nl_i, nl_r, List.length_cons, List.length_nil, true_and, and_true, upA_s, upA_n, upA_u, Prod.mk.injEq, and_self, Fr_0_2, oC_9, oL_0, (j_iload_n_1 dX9_called_0 (n := 1) rfl), (j_cs1i (M := mX9_called) dX9_called_1 (n := 4) rfl cM_9_116 (Or.inl rfl) (o := 9) rfl lv_X9_called_X9_noUnion rfl), (j_if_ne dX9_called_4 (n := 7) rfl br_4_10), (j_iload_n_2 dX9_called_7 (n := 8) rfl), (j_cs1i (M := mX9_called) dX9_called_8 (n := 11) rfl cM_9_87 (Or.inl rfl) (o := 9) rfl lv_X9_called_X9_noTown rfl), (j_if_eq dX9_called_11 (n := 14) rfl br_11_7), (j_sipush dX9_called_14 (n := 17) rfl ks_m1001), (j_iret dX9_called_17 (n := 18) rfl), (j_iload_n_3 dX9_called_18 (n := 19) rfl), (j_iconst dX9_called_19 (n := 20) rfl ki_0), (j_sipush dX9_called_20 (n := 23) rfl ks_240), (j_cs3i (M := mX9_called) dX9_called_23 (n := 26) rfl cM_9_91 (Or.inl rfl) (o := 9) rfl lv_X9_called_X9_beyond rfl), (j_if_eq dX9_called_26 (n := 29) rfl br_26_7), (j_sipush dX9_called_29 (n := 32) rfl ks_m1002), (j_iret dX9_called_32 (n := 33) rfl), (j_aload_n_0 dX9_called_33 (n := 34) rfl), (j_getf dX9_called_34 (n := 37) rfl cF_9_28), (j_iload_n_3 dX9_called_37 (n := 38) rfl), (j_iconst dX9_called_38 (n := 39) rfl ki_0), (j_cv2v (M := mX9_called) dX9_called_39 (n := 42) rfl cM_9_183 (Or.inl rfl) lv_X9_called_X6_listen rfl (oc := 6) rfl), (j_aload_n_0 dX9_called_42 (n := 43) rfl), (j_getf dX9_called_43 (n := 46) rfl cF_9_28), (j_iload_n_1 dX9_called_46 (n := 47) rfl), (j_bipush dX9_called_47 (n := 49) rfl kb_8), (j_imul dX9_called_49 (n := 50) rfl), (j_iload_n_2 dX9_called_50 (n := 51) rfl), (j_iadd dX9_called_51 (n := 52) rfl), (j_cv1i (M := mX9_called) dX9_called_52 (n := 55) rfl cM_9_187 (Or.inl rfl) lv_X9_called_X6_calls rfl (oc := 6) rfl), (j_if_eq dX9_called_55 (n := 58) rfl br_55_7), (j_iconst dX9_called_58 (n := 59) rfl ki_1), (j_goto dX9_called_59 (n := 62) rfl br_59_4), (j_iconst dX9_called_62 (n := 63) rfl ki_0), (j_iret dX9_called_63 (n := 64) rfl), rOk_i (M := mX9_called) rfl]
  repeat' (first | (with_reducible refine c_lis (Inv_Ord hI) _ _ _ ?_) | (first | (with_reducible refine c_noTown _ _ _ ?_) | (with_reducible refine c_noUnion _ _ _ ?_) | (with_reducible refine c_noGood _ _ _ ?_) | (with_reducible refine c_beyond _ _ _ _ _ ?_) | (with_reducible refine c_noNumber _ _ _ _ ?_) | (with_reducible refine c_has _ _ _ _ ?_) | (with_reducible refine ite_i (fun _ => ?_) (fun _ => ?_)) | (with_reducible refine And.intro ?_ ?_)))
  all_goals ((try simp only [bI_0, bI_t, bI_f, decide_eq_false_iff_not, Classical.not_not] at *); (try simp only [wid_I, eq_I, lt_I, le_I, Classical.not_not, ti_m1000000, ti_m1004, ti_m1003, ti_m1002, ti_m1001, ti_m650, ti_m99, ti_m10, ti_m1, ti_0, ti_1, ti_2, ti_3, ti_4, ti_5, ti_6, ti_7, ti_8, ti_9, ti_10, ti_12, ti_14, ti_15, ti_20, ti_24, ti_30, ti_31, ti_32, ti_40, ti_44, ti_48, ti_57, ti_59, ti_63, ti_64, ti_72, ti_96, ti_97, ti_98, ti_99, ti_100, ti_101, ti_102, ti_105, ti_107, ti_108, ti_109, ti_110, ti_111, ti_112, ti_114, ti_115, ti_116, ti_117, ti_119, ti_120, ti_121, ti_122, ti_160, ti_168, ti_216, ti_222, ti_240, ti_255, ti_262, ti_302, ti_400, ti_495, ti_650, ti_991, ti_999, ti_1300, ti_9100, ti_9999, ti_99999, ti_1000000, tj_m550, tj_m99, tj_0, tj_1, tj_2, tj_3, tj_5, tj_6, tj_7, tj_8, tj_30, tj_48, tj_57, tj_63, tj_97, tj_99, tj_100, tj_122, tj_240, tj_255, tj_550, tj_999, tj_9999, tj_99999, tj_4294967295] at *))
  · have c2 : ¬ (u.toInt < 0 ∨ 6 ≤ u.toInt) → u = nI u.toNatClampNeg ∧ u.toNatClampNeg < 6 := fun q => ⟨(nI_cl (by omega)).symm, by have := cl_eq (x := u) (by omega); omega⟩
    have c3 : ¬ (t.toInt < 0 ∨ 8 ≤ t.toInt) → t = nI t.toNatClampNeg ∧ t.toNatClampNeg < 8 := fun q => ⟨(nI_cl (by omega)).symm, by have := cl_eq (x := t) (by omega); omega⟩
    have c4 : ∀ (a : ¬ (u.toInt < 0 ∨ 6 ≤ u.toInt)) (b : ¬ (t.toInt < 0 ∨ 8 ≤ t.toInt)), u * 8 + t = nI (u.toNatClampNeg * 8 + t.toNatClampNeg) := by
      intro a b
      apply Int32.toInt_inj.mp
      have e1 := cl_eq (x := u) (by omega)
      have e2 := cl_eq (x := t) (by omega)
      rw [ix8 a b, toInt_nI (by omega)]
      omega
    refine c_cal (hour := hour) (Inv_Ord hI) (gvn_0 hI (fch S (S 9 7).toNatClampNeg)) (by simp only [upA_s, upA_n, upA_u, Nat.reduceEqDiff, not_false_eq_true, pk_us, upd_n]) (by simp only [upA_s, upA_n, upA_u, Nat.reduceEqDiff, not_false_eq_true, pk_us, upd_n]) (c2 (by omega)).2 (c3 (by omega)).2 _ (c4 (by omega) (by omega)) _ ?_
    rw [← (c2 (by omega)).1, ← (c3 (by omega)).1]
    have fin : ∀ S', Inv S' → cldO S' u t hour = cldO S u t hour → g2 mX10_called [.int u, .int t, .int hour] (bI (cldO S u t hour)) S' := by
      intro S' hI' he
      show CI mX10_called _ _ _
      refine ci_of (T := mX10_called) (fv := fun _ => True) (ls := [some (.ref (70 : Nat)), some (.int u), some (.int t), some (.int hour)]) rfl (Nat.le_of_ble_eq_true rfl) (by decide) rfl rfl rfl (ok2_0 cX10_called 10 80 rfl rfl ?_)
      simp only [sw3_c, sw3_n, Nat.reduceEqDiff, not_false_eq_true, Nat.zero_le, Nat.reduceLeDiff, Nat.reduceLT, Nat.reduceAdd, sg_s, ↓kif_0, ↓kif_c, ↓reduceIte, nl_n, nl_i, nl_r, List.length_cons, List.length_nil, true_and, and_true, upA_s, upA_n, upA_u, Prod.mk.injEq, and_self, oC_70, (j_iload_n_1 dX10_called_0 (n := 1) rfl), (j_cs1i (M := mX10_called) dX10_called_1 (n := 4) rfl cM_10_183 (Or.inl rfl) (o := 10) rfl lv_X10_called_X10_isUnion rfl), (j_if_eq dX10_called_4 (n := 7) rfl br_4_10), (j_iload_n_2 dX10_called_7 (n := 8) rfl), (j_cs1i (M := mX10_called) dX10_called_8 (n := 11) rfl cM_10_158 (Or.inl rfl) (o := 10) rfl lv_X10_called_X10_isTown rfl), (j_if_ne dX10_called_11 (n := 14) rfl br_11_7), (j_sipush dX10_called_14 (n := 17) rfl ks_m1001), (j_iret dX10_called_17 (n := 18) rfl), (j_iload_n_3 dX10_called_18 (n := 19) rfl), (j_cs1i (M := mX10_called) dX10_called_19 (n := 22) rfl cM_10_218 (Or.inl rfl) (o := 10) rfl lv_X10_called_X10_isHour rfl), (j_if_eq dX10_called_22 (n := 25) rfl br_22_16), (j_aload_n_0 dX10_called_25 (n := 26) rfl), (j_iload_n_1 dX10_called_26 (n := 27) rfl), (j_iload_n_2 dX10_called_27 (n := 28) rfl), (j_iload_n_3 dX10_called_28 (n := 29) rfl), (j_cv3i (M := mX10_called) dX10_called_29 (n := 32) rfl cM_10_221 (Or.inl rfl) lv_X10_called_X10_isCalled rfl (oc := 10) rfl), (j_cs1i (M := mX10_called) dX10_called_32 (n := 35) rfl cM_10_210 (Or.inl rfl) (o := 10) rfl lv_X10_called_X10_one rfl), (j_goto dX10_called_35 (n := 38) rfl br_35_6), (j_sipush dX10_called_38 (n := 41) rfl ks_m1002), (j_iret dX10_called_41 (n := 42) rfl), rOk_i (M := mX10_called) rfl]
      repeat' (first | (with_reducible refine c_isC (Inv_Ord hI') _ _ _ _ ?_ ?_) | (first | (with_reducible refine c_isTown _ _ _ ?_) | (with_reducible refine c_isUnion _ _ _ ?_) | (with_reducible refine c_isGood _ _ _ ?_) | (with_reducible refine c_isHour _ _ _ ?_) | (with_reducible refine c_in _ _ _ _ _ ?_) | (with_reducible refine c_one _ _ _ ?_) | (with_reducible refine c_least _ _ _ _ ?_) | (with_reducible refine c_isGame _ _ _ _ ?_) | (with_reducible refine ite_i (fun _ => ?_) (fun _ => ?_)) | (with_reducible refine And.intro ?_ ?_)))
      all_goals try (simp only [bI_0, bI_t, bI_f, decide_eq_false_iff_not, Classical.not_not, bI_in] at *)
      all_goals try (simp only [ti_m1000000, ti_m1004, ti_m1003, ti_m1002, ti_m1001, ti_m650, ti_m99, ti_m10, ti_m1, ti_0, ti_1, ti_2, ti_3, ti_4, ti_5, ti_6, ti_7, ti_8, ti_9, ti_10, ti_12, ti_14, ti_15, ti_20, ti_24, ti_30, ti_31, ti_32, ti_40, ti_44, ti_48, ti_57, ti_59, ti_63, ti_64, ti_72, ti_96, ti_97, ti_98, ti_99, ti_100, ti_101, ti_102, ti_105, ti_107, ti_108, ti_109, ti_110, ti_111, ti_112, ti_114, ti_115, ti_116, ti_117, ti_119, ti_120, ti_121, ti_122, ti_160, ti_168, ti_216, ti_222, ti_240, ti_255, ti_262, ti_302, ti_400, ti_495, ti_650, ti_991, ti_999, ti_1300, ti_9100, ti_9999, ti_99999, ti_1000000, tj_m550, tj_m99, tj_0, tj_1, tj_2, tj_3, tj_5, tj_6, tj_7, tj_8, tj_30, tj_48, tj_57, tj_63, tj_97, tj_99, tj_100, tj_122, tj_240, tj_255, tj_550, tj_999, tj_9999, tj_99999, tj_4294967295] at *)
      all_goals first | (exfalso; omega) | omega | skip
      refine ⟨?_, hI'⟩
      rw [bF_in]
      exact congrArg bI he.symm
    refine ite_i (fun q => ?_) (fun q => ?_)
    · have q' : bI (cldO S u t hour) = 0 := Int32.toInt_inj.mp (by rw [q, ti_0])
      refine Eq.mp (congrArg (fun x => g2 mX10_called [.int u, .int t, .int hour] x _) q') (fin _ (Inv_up hI _ _) (by unfold cldO; rw [hld_up, hld_up]; simp only [upA_s, upA_n, upA_u, Nat.reduceEqDiff, not_false_eq_true, pk_us, upd_n]))
    · have q' : bI (cldO S u t hour) = 1 := by
        rcases bI_01 (cldO S u t hour) with z | z
        · rw [z, ti_0] at q; exact absurd rfl q
        · exact z
      refine Eq.mp (congrArg (fun x => g2 mX10_called [.int u, .int t, .int hour] x _) q') (fin _ (Inv_up hI _ _) (by unfold cldO; rw [hld_up, hld_up]; simp only [upA_s, upA_n, upA_u, Nat.reduceEqDiff, not_false_eq_true, pk_us, upd_n]))
  all_goals
    show CI mX10_called _ _ _
    refine ci_of (T := mX10_called) (fv := fun _ => True) (ls := [some (.ref (70 : Nat)), some (.int u), some (.int t), some (.int hour)]) rfl (Nat.le_of_ble_eq_true rfl) (by decide) rfl rfl rfl (ok2_0 cX10_called 10 80 rfl rfl ?_)
    simp only [sw3_c, sw3_n, Nat.reduceEqDiff, not_false_eq_true, Nat.zero_le, Nat.reduceLeDiff, Nat.reduceLT, Nat.reduceAdd, sg_s, ↓kif_0, ↓kif_c, ↓reduceIte, nl_n, nl_i, nl_r, List.length_cons, List.length_nil, true_and, and_true, upA_s, upA_n, upA_u, Prod.mk.injEq, and_self, oC_70, (j_iload_n_1 dX10_called_0 (n := 1) rfl), (j_cs1i (M := mX10_called) dX10_called_1 (n := 4) rfl cM_10_183 (Or.inl rfl) (o := 10) rfl lv_X10_called_X10_isUnion rfl), (j_if_eq dX10_called_4 (n := 7) rfl br_4_10), (j_iload_n_2 dX10_called_7 (n := 8) rfl), (j_cs1i (M := mX10_called) dX10_called_8 (n := 11) rfl cM_10_158 (Or.inl rfl) (o := 10) rfl lv_X10_called_X10_isTown rfl), (j_if_ne dX10_called_11 (n := 14) rfl br_11_7), (j_sipush dX10_called_14 (n := 17) rfl ks_m1001), (j_iret dX10_called_17 (n := 18) rfl), (j_iload_n_3 dX10_called_18 (n := 19) rfl), (j_cs1i (M := mX10_called) dX10_called_19 (n := 22) rfl cM_10_218 (Or.inl rfl) (o := 10) rfl lv_X10_called_X10_isHour rfl), (j_if_eq dX10_called_22 (n := 25) rfl br_22_16), (j_aload_n_0 dX10_called_25 (n := 26) rfl), (j_iload_n_1 dX10_called_26 (n := 27) rfl), (j_iload_n_2 dX10_called_27 (n := 28) rfl), (j_iload_n_3 dX10_called_28 (n := 29) rfl), (j_cv3i (M := mX10_called) dX10_called_29 (n := 32) rfl cM_10_221 (Or.inl rfl) lv_X10_called_X10_isCalled rfl (oc := 10) rfl), (j_cs1i (M := mX10_called) dX10_called_32 (n := 35) rfl cM_10_210 (Or.inl rfl) (o := 10) rfl lv_X10_called_X10_one rfl), (j_goto dX10_called_35 (n := 38) rfl br_35_6), (j_sipush dX10_called_38 (n := 41) rfl ks_m1002), (j_iret dX10_called_41 (n := 42) rfl), rOk_i (M := mX10_called) rfl]
    repeat' (first | (with_reducible refine c_isC (Inv_Ord hI) _ _ _ _ ?_ ?_) | (first | (with_reducible refine c_isTown _ _ _ ?_) | (with_reducible refine c_isUnion _ _ _ ?_) | (with_reducible refine c_isGood _ _ _ ?_) | (with_reducible refine c_isHour _ _ _ ?_) | (with_reducible refine c_in _ _ _ _ _ ?_) | (with_reducible refine c_one _ _ _ ?_) | (with_reducible refine c_least _ _ _ _ ?_) | (with_reducible refine c_isGame _ _ _ _ ?_) | (with_reducible refine ite_i (fun _ => ?_) (fun _ => ?_)) | (with_reducible refine And.intro ?_ ?_)))
    all_goals ((try simp only [bI_0, bI_t, bI_f, decide_eq_false_iff_not, Classical.not_not] at *); (try simp only [wid_I, eq_I, lt_I, le_I, Classical.not_not, ti_m1000000, ti_m1004, ti_m1003, ti_m1002, ti_m1001, ti_m650, ti_m99, ti_m10, ti_m1, ti_0, ti_1, ti_2, ti_3, ti_4, ti_5, ti_6, ti_7, ti_8, ti_9, ti_10, ti_12, ti_14, ti_15, ti_20, ti_24, ti_30, ti_31, ti_32, ti_40, ti_44, ti_48, ti_57, ti_59, ti_63, ti_64, ti_72, ti_96, ti_97, ti_98, ti_99, ti_100, ti_101, ti_102, ti_105, ti_107, ti_108, ti_109, ti_110, ti_111, ti_112, ti_114, ti_115, ti_116, ti_117, ti_119, ti_120, ti_121, ti_122, ti_160, ti_168, ti_216, ti_222, ti_240, ti_255, ti_262, ti_302, ti_400, ti_495, ti_650, ti_991, ti_999, ti_1300, ti_9100, ti_9999, ti_99999, ti_1000000, tj_m550, tj_m99, tj_0, tj_1, tj_2, tj_3, tj_5, tj_6, tj_7, tj_8, tj_30, tj_48, tj_57, tj_63, tj_97, tj_99, tj_100, tj_122, tj_240, tj_255, tj_550, tj_999, tj_9999, tj_99999, tj_4294967295] at *))
    all_goals first | (exfalso; omega) | (with_reducible exact g3_rf hI) | omega | skip
