-- go of both
def chZ (D : Nat) (S : xA) (ca : Int32) (a n c : Nat) (Zs : Nat → xA) (rs : Nat → Int32) : Prop := (∃ w1 w2, Zs 0 = itZ (laS D (clS S ca (nI a - 1))) (upA (upA S 15 w2) 14 w1) 48) ∧ ∀ k, k < n → hrR D (nI (a + k)) (clS S ca (nI (a + k))) c (Zs k) (Zs (k + 1)) (rs k)
theorem laS_11 (D : Nat) (cl : Nat → Bool) (S : xA) : ∀ n p, p < n → itZ (laS D cl) S n (D + 11) p = bI (cl p)
  | n + 1, p, hp => by
    rw [itZ, laS, upA_s, upd_t]
    split
    · next e => rw [e]
    · exact laS_11 D cl S n p (by omega)
theorem chZ_f {D : Nat} {S : xA} {ca : Int32} {a n c : Nat} {Zs : Nat → xA} {rs : Nat → Int32} (h : chZ D S ca a n c Zs rs) : ∀ k, k ≤ n → frm (LC D) S (Zs k)
  | 0, _ => by
    obtain ⟨⟨w1, w2, e⟩, -⟩ := h
    rw [e]
    exact frm_tr (frm_up (frm_up (frm_rf _ _) (by simp [LC])) (by simp [LC])) (itZ_f (laS_f D _) _ 48) (by simp [LC])
  | k + 1, hk => frm_tr (chZ_f h k (by omega)) (hrR_f (h.2 k (by omega))) (fun _ q => q)
theorem chZ_w {D : Nat} {S : xA} {ca : Int32} {a n c : Nat} {Zs : Nat → xA} {rs : Nat → Int32} (h : chZ D S ca a n c Zs rs) : ∀ k, k ≤ n → ∀ p, p < 48 → Zs k (D + 11) p = bI (clS S ca (nI (a + k) - 1) p)
  | 0, _, p, hp => by
    obtain ⟨⟨w1, w2, e⟩, -⟩ := h
    rw [e]
    exact laS_11 D _ _ 48 p hp
  | k + 1, hk, p, hp => by
    rw [hrR_11 (h.2 k (by omega)) p hp, show a + (k + 1) = a + k + 1 by omega, nI_pred]
theorem chZ_t {D : Nat} (hD : 32 < D) {S : xA} {ca : Int32} {a n c : Nat} {Zs : Nat → xA} {rs : Nat → Int32} (h : chZ D S ca a n c Zs rs) : ∀ k, k ≤ n → ∀ i, c ≤ i → Zs k (D + 8) i = S (D + 8) i ∧ Zs k (D + 9) i = S (D + 9) i ∧ Zs k (D + 10) i = S (D + 10) i
  | 0, _, i, hi => by
    obtain ⟨⟨w1, w2, e⟩, -⟩ := h
    have f := itZ_f (laS_f D (clS S ca (nI a - 1))) (upA (upA S 15 w2) 14 w1) 48
    rw [e, f (D + 8) (by simp), f (D + 9) (by simp), f (D + 10) (by simp), upA_n _ _ (by omega), upA_n _ _ (by omega), upA_n _ _ (by omega), upA_n _ _ (by omega), upA_n _ _ (by omega), upA_n _ _ (by omega)]
    exact ⟨rfl, rfl, rfl⟩
  | k + 1, hk, i, hi => by
    have q := hrR_t hD (h.2 k (by omega)) i hi
    have w := chZ_t hD h k (by omega) i hi
    exact ⟨q.1.trans w.1, q.2.1.trans w.2.1, q.2.2.trans w.2.2⟩
theorem chZ_0 {D : Nat} (hD : 32 < D) {S : xA} {ca : Int32} {a n c : Nat} {Zs : Nat → xA} {rs : Nat → Int32} (h : chZ D S ca a n c Zs rs) : ∀ k, 1 ≤ k → k ≤ 10 → Zs 0 (D + k) = S (D + k) := by
  obtain ⟨⟨w1, w2, e⟩, -⟩ := h
  intro k h1 h2
  rw [e, itZ_f (laS_f D _) _ 48 (D + k) (by simp; omega), upA_n _ _ (by omega), upA_n _ _ (by omega)]
theorem rel_e {D c : Nat} {x : Bool} {Z Z' R R' : xA} (h : rel D c x Z R) (hz : ∀ k, 1 ≤ k → k ≤ 10 → Z' (D + k) = Z (D + k)) (hr : ∀ q, q ∈ [72, 75, 76, 78, 79, 80, 81, 103, 104, 105] → R' q = R q) : rel D c x Z' R' := by
  unfold rel
  rw [hz 1 (by omega) (by omega), hz 2 (by omega) (by omega), hz 3 (by omega) (by omega), hz 4 (by omega) (by omega), hz 5 (by omega) (by omega), hz 6 (by omega) (by omega), hz 7 (by omega) (by omega), hz 8 (by omega) (by omega), hz 9 (by omega) (by omega), hz 10 (by omega) (by omega), hr 72 (by decide), hr 75 (by decide), hr 76 (by decide), hr 78 (by decide), hr 79 (by decide), hr 80 (by decide), hr 81 (by decide), hr 103 (by decide), hr 104 (by decide), hr 105 (by decide)]
  exact h
theorem hD33 : ∀ q, q ∈ [2, 5, 6, 16, 17, 18, 19, 20, 21, 27, 28, 29, 30, 31, 32] → q ∉ LC 33 := by decide
theorem hD46 : ∀ q, q ∈ [2, 5, 6, 16, 17, 18, 19, 20, 21, 27, 28, 29, 30, 31, 32] → q ∉ LC 46 := by decide
def fx0 (S S' : xA) : Prop := ∀ j, ¬ (37 ≤ j ∧ j ≤ 40) → ¬ j = 0 → S' 70 j = S 70 j
set_option maxRecDepth 10000 in
set_option maxHeartbeats 4000000 in
theorem m_go (S R0 : xA) (f : xP) (Zs : Nat → xA) (rs : Nat → Int32) (a n c : Nat) (hI : Inv S) (hc40 : c ≤ 40) (hc : S 70 41 = nI c) (hE : Ev c S S) (hn : n ≤ 100) (han : a + n ≤ 240) (hch : chZ 33 S (-1) a n c Zs rs) (ha : R0 70 0 = nI a) (hRs : Rs (-1) S R0) (hrel : rel 33 c true (Zs 0) R0) (h : ∀ R', frm LM R0 R' → fx0 R0 R' → R' 70 0 = nI (a + n) → rel 33 c true (Zs n) R' → f (sumF rs n) R') : CI mX10_go [.ref (70 : Nat), .int (nI n)] R0 f := by
  refine ci_of (T := mX10_go) (fv := fun _ => True) (ls := [some (.ref (70 : Nat)), some (.int (nI n)), none, none]) rfl (Nat.le_of_ble_eq_true rfl) (by decide) rfl rfl rfl (ok_for cX10_go 10 60 36 n (fun k ls R' => ls = [some (.ref (70 : Nat)), some (.int (nI n)), some (.int (sumF rs k)), some (.int (nI k))] ∧ frm LM R0 R' ∧ fx0 R0 R' ∧ R' 70 0 = nI (a + k) ∧ Rs (-1) S R' ∧ rel 33 c true (Zs k) R') rfl rfl ?_ ?_ ?_)
  · intro K hK
    simp only [sw3_c, sw3_n, Nat.reduceEqDiff, not_false_eq_true, Nat.zero_le, Nat.reduceLeDiff, Nat.reduceLT, Nat.reduceAdd, sg_s, ↓kif_0, ↓kif_c, ↓reduceIte, nl_n, nl_i, nl_r, List.length_cons, List.length_nil, true_and, and_true, upA_s, upA_n, upA_u, Prod.mk.injEq, and_self, Fr_70_0, oC_70, oI_70_0, oL_70, (j_iload_n_1 dX10_go_0 (n := 1) rfl), (j_i2l dX10_go_1 (n := 2) rfl), (j_lconst dX10_go_2 (n := 3) rfl (v := 0) (by decide)), (j_ldc2 dX10_go_3 (n := 6) rfl cJ_10_332), (j_cs3i (M := mX10_go) dX10_go_6 (n := 9) rfl cM_10_150 (Or.inl rfl) (o := 10) rfl lv_X10_go_X10_in rfl), (j_if_ne dX10_go_9 (n := 12) rfl br_9_7), (j_sipush dX10_go_12 (n := 15) rfl ks_m1002), (j_iret dX10_go_15 (n := 16) rfl), (j_aload_n_0 dX10_go_16 (n := 17) rfl), (j_getf dX10_go_17 (n := 20) rfl cF_10_197), (j_iload_n_1 dX10_go_20 (n := 21) rfl), (j_iadd dX10_go_21 (n := 22) rfl), (j_sipush dX10_go_22 (n := 25) rfl ks_240), (j_ic_le dX10_go_25 (n := 28) rfl br_25_7), (j_sipush dX10_go_28 (n := 31) rfl ks_m1003), (j_iret dX10_go_31 (n := 32) rfl), (j_iconst dX10_go_32 (n := 33) rfl ki_0), (j_istore_n_2 dX10_go_33 (n := 34) rfl), (j_iconst dX10_go_34 (n := 35) rfl ki_0), (j_istore_n_3 dX10_go_35 (n := 36) rfl), (j_iload_n_3 dX10_go_36 (n := 37) rfl), (j_iload_n_1 dX10_go_37 (n := 38) rfl), (j_ic_ge dX10_go_38 (n := 41) rfl br_38_30), (j_iload_n_2 dX10_go_41 (n := 42) rfl), (j_aload_n_0 dX10_go_42 (n := 43) rfl), (j_aload_n_0 dX10_go_43 (n := 44) rfl), (j_getf dX10_go_44 (n := 47) rfl cF_10_197), (j_cv1i (M := mX10_go) dX10_go_47 (n := 50) rfl cM_10_334 (Or.inl rfl) lv_X10_go_X10_doHour rfl (oc := 10) rfl), (j_iadd dX10_go_50 (n := 51) rfl), (j_istore_n_2 dX10_go_51 (n := 52) rfl), (j_aload_n_0 dX10_go_52 (n := 53) rfl), (j_dup_i dX10_go_53 (n := 54) rfl), (j_dup_r dX10_go_53 (n := 54) rfl), (j_getf dX10_go_54 (n := 57) rfl cF_10_197), (j_iconst dX10_go_57 (n := 58) rfl ki_1), (j_iadd dX10_go_58 (n := 59) rfl), (j_putf dX10_go_59 (n := 62) rfl cF_10_197), (j_iinc_3 dX10_go_62 (n := 65) rfl ki_1), (j_goto dX10_go_65 (n := 68) rfl br_65_m29), (j_iload_n_2 dX10_go_68 (n := 69) rfl), (j_iret dX10_go_69 (n := 70) rfl), rOk_i (M := mX10_go) rfl, nl_x, pk_us]
    refine c_in _ _ _ _ _ ?_
    simp only [bI_0, decide_eq_false_iff_not, wid_I, tj_0, tj_100, toInt_nI (show n < 1000000 by omega)]
    rw [if_neg (by omega), ha, nI_add, if_neg (by rw [lt_I, ti_240, toInt_nI (by omega)]; omega)]
    exact hK _ _ ⟨rfl, frm_rf _ _, fun _ _ _ => rfl, ha, hRs, hrel⟩
  · rintro k hk _ R' ⟨rfl, k1, k2, k3, k4, k5⟩ K hK
    simp only [sw3_c, sw3_n, Nat.reduceEqDiff, not_false_eq_true, Nat.zero_le, Nat.reduceLeDiff, Nat.reduceLT, Nat.reduceAdd, sg_s, ↓kif_0, ↓kif_c, ↓reduceIte, nl_n, nl_i, nl_r, List.length_cons, List.length_nil, true_and, and_true, upA_s, upA_n, upA_u, Prod.mk.injEq, and_self, Fr_70_0, oC_70, oI_70_0, oL_70, (j_iload_n_1 dX10_go_0 (n := 1) rfl), (j_i2l dX10_go_1 (n := 2) rfl), (j_lconst dX10_go_2 (n := 3) rfl (v := 0) (by decide)), (j_ldc2 dX10_go_3 (n := 6) rfl cJ_10_332), (j_cs3i (M := mX10_go) dX10_go_6 (n := 9) rfl cM_10_150 (Or.inl rfl) (o := 10) rfl lv_X10_go_X10_in rfl), (j_if_ne dX10_go_9 (n := 12) rfl br_9_7), (j_sipush dX10_go_12 (n := 15) rfl ks_m1002), (j_iret dX10_go_15 (n := 16) rfl), (j_aload_n_0 dX10_go_16 (n := 17) rfl), (j_getf dX10_go_17 (n := 20) rfl cF_10_197), (j_iload_n_1 dX10_go_20 (n := 21) rfl), (j_iadd dX10_go_21 (n := 22) rfl), (j_sipush dX10_go_22 (n := 25) rfl ks_240), (j_ic_le dX10_go_25 (n := 28) rfl br_25_7), (j_sipush dX10_go_28 (n := 31) rfl ks_m1003), (j_iret dX10_go_31 (n := 32) rfl), (j_iconst dX10_go_32 (n := 33) rfl ki_0), (j_istore_n_2 dX10_go_33 (n := 34) rfl), (j_iconst dX10_go_34 (n := 35) rfl ki_0), (j_istore_n_3 dX10_go_35 (n := 36) rfl), (j_iload_n_3 dX10_go_36 (n := 37) rfl), (j_iload_n_1 dX10_go_37 (n := 38) rfl), (j_ic_ge dX10_go_38 (n := 41) rfl br_38_30), (j_iload_n_2 dX10_go_41 (n := 42) rfl), (j_aload_n_0 dX10_go_42 (n := 43) rfl), (j_aload_n_0 dX10_go_43 (n := 44) rfl), (j_getf dX10_go_44 (n := 47) rfl cF_10_197), (j_cv1i (M := mX10_go) dX10_go_47 (n := 50) rfl cM_10_334 (Or.inl rfl) lv_X10_go_X10_doHour rfl (oc := 10) rfl), (j_iadd dX10_go_50 (n := 51) rfl), (j_istore_n_2 dX10_go_51 (n := 52) rfl), (j_aload_n_0 dX10_go_52 (n := 53) rfl), (j_dup_i dX10_go_53 (n := 54) rfl), (j_dup_r dX10_go_53 (n := 54) rfl), (j_getf dX10_go_54 (n := 57) rfl cF_10_197), (j_iconst dX10_go_57 (n := 58) rfl ki_1), (j_iadd dX10_go_58 (n := 59) rfl), (j_putf dX10_go_59 (n := 62) rfl cF_10_197), (j_iinc_3 dX10_go_62 (n := 65) rfl ki_1), (j_goto dX10_go_65 (n := 68) rfl br_65_m29), (j_iload_n_2 dX10_go_68 (n := 69) rfl), (j_iret dX10_go_69 (n := 70) rfl), rOk_i (M := mX10_go) rfl, nl_x, pk_us, k3]
    rw [if_pos (nI_lt hk (by omega)), nI_1]
    refine m_turn 33 (by omega) hD33 true (a + k) c (by omega) (-1) S (Zs k) (Zs (k + 1)) R' (rs k) _ hI hc40 hc hE k4 (chZ_f hch k (by omega)) (chZ_w hch k (by omega)) k5 (hch.2 k hk) (fun R2 j1 j2 j3 => ?_)
    have e0 : R2 70 0 = nI (a + k) := by rw [j2 0 (by omega)]; exact k3
    rw [e0, nI_1]
    refine hK _ _ ⟨rfl, frm_up (frm_tr k1 j1 (fun _ w => w)) (by decide), fun j q1 q2 => ?_, ?_, ?_, rel_e j3 (fun _ _ _ => rfl) (fun q hq => upA_n _ _ (fun w => by revert hq; rw [w]; decide))⟩
    · rw [upA_s, upd_n q2, j2 j q1, k2 j q1 q2]
    · rw [upA_s, pk_us]; rfl
    · have r2 := Rs_l k4 j1 j2
      refine ⟨fun q hq => ?_, fun j hj => ?_, ?_⟩
      · rw [upA_n _ _ (fun w => by revert hq; rw [w]; decide)]; exact r2.1 q hq
      · rw [upA_s, upd_n (fun w => by revert hj; rw [w]; decide)]; exact r2.2.1 j hj
      · rw [upA_s, upd_n (by decide)]; exact r2.2.2
  · rintro _ R' ⟨rfl, k1, k2, k3, k4, k5⟩ K
    simp only [sw3_c, sw3_n, Nat.reduceEqDiff, not_false_eq_true, Nat.zero_le, Nat.reduceLeDiff, Nat.reduceLT, Nat.reduceAdd, sg_s, ↓kif_0, ↓kif_c, ↓reduceIte, nl_n, nl_i, nl_r, List.length_cons, List.length_nil, true_and, and_true, upA_s, upA_n, upA_u, Prod.mk.injEq, and_self, Fr_70_0, oC_70, oI_70_0, oL_70, (j_iload_n_1 dX10_go_0 (n := 1) rfl), (j_i2l dX10_go_1 (n := 2) rfl), (j_lconst dX10_go_2 (n := 3) rfl (v := 0) (by decide)), (j_ldc2 dX10_go_3 (n := 6) rfl cJ_10_332), (j_cs3i (M := mX10_go) dX10_go_6 (n := 9) rfl cM_10_150 (Or.inl rfl) (o := 10) rfl lv_X10_go_X10_in rfl), (j_if_ne dX10_go_9 (n := 12) rfl br_9_7), (j_sipush dX10_go_12 (n := 15) rfl ks_m1002), (j_iret dX10_go_15 (n := 16) rfl), (j_aload_n_0 dX10_go_16 (n := 17) rfl), (j_getf dX10_go_17 (n := 20) rfl cF_10_197), (j_iload_n_1 dX10_go_20 (n := 21) rfl), (j_iadd dX10_go_21 (n := 22) rfl), (j_sipush dX10_go_22 (n := 25) rfl ks_240), (j_ic_le dX10_go_25 (n := 28) rfl br_25_7), (j_sipush dX10_go_28 (n := 31) rfl ks_m1003), (j_iret dX10_go_31 (n := 32) rfl), (j_iconst dX10_go_32 (n := 33) rfl ki_0), (j_istore_n_2 dX10_go_33 (n := 34) rfl), (j_iconst dX10_go_34 (n := 35) rfl ki_0), (j_istore_n_3 dX10_go_35 (n := 36) rfl), (j_iload_n_3 dX10_go_36 (n := 37) rfl), (j_iload_n_1 dX10_go_37 (n := 38) rfl), (j_ic_ge dX10_go_38 (n := 41) rfl br_38_30), (j_iload_n_2 dX10_go_41 (n := 42) rfl), (j_aload_n_0 dX10_go_42 (n := 43) rfl), (j_aload_n_0 dX10_go_43 (n := 44) rfl), (j_getf dX10_go_44 (n := 47) rfl cF_10_197), (j_cv1i (M := mX10_go) dX10_go_47 (n := 50) rfl cM_10_334 (Or.inl rfl) lv_X10_go_X10_doHour rfl (oc := 10) rfl), (j_iadd dX10_go_50 (n := 51) rfl), (j_istore_n_2 dX10_go_51 (n := 52) rfl), (j_aload_n_0 dX10_go_52 (n := 53) rfl), (j_dup_i dX10_go_53 (n := 54) rfl), (j_dup_r dX10_go_53 (n := 54) rfl), (j_getf dX10_go_54 (n := 57) rfl cF_10_197), (j_iconst dX10_go_57 (n := 58) rfl ki_1), (j_iadd dX10_go_58 (n := 59) rfl), (j_putf dX10_go_59 (n := 62) rfl cF_10_197), (j_iinc_3 dX10_go_62 (n := 65) rfl ki_1), (j_goto dX10_go_65 (n := 68) rfl br_65_m29), (j_iload_n_2 dX10_go_68 (n := 69) rfl), (j_iret dX10_go_69 (n := 70) rfl), rOk_i (M := mX10_go) rfl, nl_x, pk_us]
    rw [if_neg (nI_nlt (Nat.le_refl _) (by omega))]
    exact h R' k1 k2 k3 k5
set_option maxHeartbeats 4000000 in
theorem m_go0 (n : Int32) (S : xA) (f : xP) (h1 : ¬ (0 ≤ n.toInt ∧ n.toInt ≤ 100) → f (-1002) S) (h2 : (0 ≤ n.toInt ∧ n.toInt ≤ 100) → 240 < S 70 0 + n → f (-1003) S) (h3 : ¬ ((0 ≤ n.toInt ∧ n.toInt ≤ 100) ∧ ¬ 240 < S 70 0 + n)) : CI mX10_go [.ref (70 : Nat), .int n] S f := by
  refine ci_of (T := mX10_go) (fv := fun _ => True) (ls := [some (.ref (70 : Nat)), some (.int n), none, none]) rfl (Nat.le_of_ble_eq_true rfl) (by decide) rfl rfl rfl (ok2_to cX10_go 10 60 36 (fun _ _ => False) rfl rfl (fun _ _ h => h.elim) ?_)
  intro K hK
  simp only [sw3_c, sw3_n, Nat.reduceEqDiff, not_false_eq_true, Nat.zero_le, Nat.reduceLeDiff, Nat.reduceLT, Nat.reduceAdd, sg_s, ↓kif_0, ↓kif_c, ↓reduceIte, nl_n, nl_i, nl_r, List.length_cons, List.length_nil, true_and, and_true, upA_s, upA_n, upA_u, Prod.mk.injEq, and_self, Fr_70_0, oC_70, oI_70_0, oL_70, (j_iload_n_1 dX10_go_0 (n := 1) rfl), (j_i2l dX10_go_1 (n := 2) rfl), (j_lconst dX10_go_2 (n := 3) rfl (v := 0) (by decide)), (j_ldc2 dX10_go_3 (n := 6) rfl cJ_10_332), (j_cs3i (M := mX10_go) dX10_go_6 (n := 9) rfl cM_10_150 (Or.inl rfl) (o := 10) rfl lv_X10_go_X10_in rfl), (j_if_ne dX10_go_9 (n := 12) rfl br_9_7), (j_sipush dX10_go_12 (n := 15) rfl ks_m1002), (j_iret dX10_go_15 (n := 16) rfl), (j_aload_n_0 dX10_go_16 (n := 17) rfl), (j_getf dX10_go_17 (n := 20) rfl cF_10_197), (j_iload_n_1 dX10_go_20 (n := 21) rfl), (j_iadd dX10_go_21 (n := 22) rfl), (j_sipush dX10_go_22 (n := 25) rfl ks_240), (j_ic_le dX10_go_25 (n := 28) rfl br_25_7), (j_sipush dX10_go_28 (n := 31) rfl ks_m1003), (j_iret dX10_go_31 (n := 32) rfl), (j_iconst dX10_go_32 (n := 33) rfl ki_0), (j_istore_n_2 dX10_go_33 (n := 34) rfl), (j_iconst dX10_go_34 (n := 35) rfl ki_0), (j_istore_n_3 dX10_go_35 (n := 36) rfl), (j_iload_n_3 dX10_go_36 (n := 37) rfl), (j_iload_n_1 dX10_go_37 (n := 38) rfl), (j_ic_ge dX10_go_38 (n := 41) rfl br_38_30), (j_iload_n_2 dX10_go_41 (n := 42) rfl), (j_aload_n_0 dX10_go_42 (n := 43) rfl), (j_aload_n_0 dX10_go_43 (n := 44) rfl), (j_getf dX10_go_44 (n := 47) rfl cF_10_197), (j_cv1i (M := mX10_go) dX10_go_47 (n := 50) rfl cM_10_334 (Or.inl rfl) lv_X10_go_X10_doHour rfl (oc := 10) rfl), (j_iadd dX10_go_50 (n := 51) rfl), (j_istore_n_2 dX10_go_51 (n := 52) rfl), (j_aload_n_0 dX10_go_52 (n := 53) rfl), (j_dup_i dX10_go_53 (n := 54) rfl), (j_dup_r dX10_go_53 (n := 54) rfl), (j_getf dX10_go_54 (n := 57) rfl cF_10_197), (j_iconst dX10_go_57 (n := 58) rfl ki_1), (j_iadd dX10_go_58 (n := 59) rfl), (j_putf dX10_go_59 (n := 62) rfl cF_10_197), (j_iinc_3 dX10_go_62 (n := 65) rfl ki_1), (j_goto dX10_go_65 (n := 68) rfl br_65_m29), (j_iload_n_2 dX10_go_68 (n := 69) rfl), (j_iret dX10_go_69 (n := 70) rfl), rOk_i (M := mX10_go) rfl, nl_x, pk_us]
  refine c_in _ _ _ _ _ ?_
  simp only [bI_0, decide_eq_false_iff_not, wid_I, tj_0, tj_100]
  refine ite_i (fun q => h1 q) (fun q => ?_)
  rw [Classical.not_not] at q
  refine ite_i (fun q2 => h2 q q2) (fun q2 => absurd ⟨q, q2⟩ h3)
theorem Hg_0 {S : xA} (hI : Inv S) : Hg S 0 (-1) := by
  intro o ho
  have := gvn_0 hI (fch S (S 9 7).toNatClampNeg) o ho
  rw [hrO_1 hI.2.2.2.2.2.2.2.2.2.2.2.2.2.2.2.2.1] at this
  rw [hrO_cAt, if_pos (by decide)]
  exact this
theorem Inv_rel {S : xA} (hI : Inv S) {c : Nat} (hc : c = (S 26 6).toNatClampNeg) : rel 33 c true S S := by
  subst hc
  have i21 := hI.2.2.2.2.2.2.2.2.2.2.2.2.2.2.2.2.2.2.2.2.1
  exact ⟨hI.2.2.2.1, hI.2.2.2.2.2.2.2.2.2.1, hI.2.2.2.2.2.2.2.2.2.2.1, hI.2.2.2.2.2.2.2.2.2.2.2.2.1, i21.2.2.2.2.2.2.2.1, i21.2.2.2.2.2.2.2.2.1, i21.2.2.2.2.2.2.2.2.2.1, fun _ => ⟨hI.2.2.2.2.2.2.1, hI.2.2.2.2.2.2.2.1⟩, fun _ => hI.2.2.2.2.2.2.2.2.2.2.2.1⟩
set_option maxRecDepth 10000 in
set_option maxHeartbeats 4000000 in
theorem Inv_go {S R : xA} {c : Nat} (hI : Inv S) (hc : c = (S 26 6).toNatClampNeg) (hn : JN 240 (R 0 11) (R 70 0)) (h70 : ∀ j, j ∈ [1, 15, 20, 21, 28, 31, 41, 51] → R 70 j = S 70 j) (hf : ∀ q, q ∈ iC → q ∉ [0, 34, 35, 36, 37, 38, 39, 40, 41, 42, 43, 72, 75, 76, 78, 79, 80, 81, 103, 104, 105] → R q = S q) (hrel : rel 33 c true R R) (ht : ∀ i, c ≤ i → R 41 i = S 41 i ∧ R 42 i = S 42 i ∧ R 43 i = S 43 i) : Inv R := by
  subst hc
  obtain ⟨i1, i2, i3, i4, i5, i6, i7, i8, i9, i10, i11, i12, i13, i14, i15, i16, i17, i18, i19, i20, i21, i22, i23⟩ := hI
  have e : ∀ q, (decide (q ∈ iC) && !decide (q ∈ [0, 34, 35, 36, 37, 38, 39, 40, 41, 42, 43, 72, 75, 76, 78, 79, 80, 81, 103, 104, 105])) = true → R q = S q := fun q hq => by
    rw [Bool.and_eq_true, Bool.not_eq_true', decide_eq_true_eq, decide_eq_false_iff_not] at hq
    exact hf q hq.1 hq.2
  refine ⟨hn, ?_, ?_, hrel.1, ?_, ?_, (hrel.2.2.2.2.2.2.2.1 rfl).1, (hrel.2.2.2.2.2.2.2.1 rfl).2, ?_, hrel.2.1, hrel.2.2.1, hrel.2.2.2.2.2.2.2.2 rfl, hrel.2.2.2.1, ?_, ?_, ?_, ?_, ?_, ?_, ?_, ?_, ?_, ?_⟩
  · rw [e 1 (by decide), h70 1 (by decide)]; exact i2
  · rw [e 1 (by decide), e 2 (by decide), e 71 (by decide)]; exact i3
  · rw [e 4 (by decide), e 73 (by decide)]; exact i5
  · rw [e 5 (by decide), e 74 (by decide)]; exact i6
  · rw [e 6 (by decide), e 77 (by decide)]; exact i9
  · rw [e 8 (by decide), e 82 (by decide)]; exact i14
  · rw [e 7 (by decide), e 83 (by decide)]; exact i15
  · rw [e 9 (by decide), e 10 (by decide), e 11 (by decide), e 12 (by decide), e 13 (by decide), h70 15 (by decide), e 84 (by decide), e 85 (by decide), e 86 (by decide), e 87 (by decide)]; exact i16
  · rw [h70 20 (by decide)]; exact i17
  · rw [e 16 (by decide), e 17 (by decide), e 18 (by decide), e 19 (by decide), e 20 (by decide), e 21 (by decide), h70 21 (by decide), e 88 (by decide), e 89 (by decide), e 90 (by decide), e 91 (by decide), e 92 (by decide)]; exact i18
  · rw [e 22 (by decide), e 23 (by decide), h70 28 (by decide), e 93 (by decide)]; exact i19
  · rw [e 22 (by decide), h70 31 (by decide)]; exact i20
  · rw [e 26 (by decide), e 27 (by decide), e 28 (by decide), e 29 (by decide), e 30 (by decide), e 31 (by decide), e 32 (by decide), h70 41 (by decide), e 97 (by decide), e 98 (by decide), e 99 (by decide), e 100 (by decide), e 101 (by decide), e 102 (by decide)]
    obtain ⟨j0, j1, j2, j3, j4, j5, j6, j7, j8, j9, j10⟩ := i21
    refine ⟨j0, j1, j2, j3, j4, j5, j6, hrel.2.2.2.2.1, hrel.2.2.2.2.2.1, hrel.2.2.2.2.2.2.1, fun i q1 q2 => ?_⟩
    rw [(ht i q1).1, (ht i q1).2.1, (ht i q1).2.2]
    exact j10 i q1 q2
  · rw [e 59 (by decide), e 60 (by decide), e 61 (by decide), e 62 (by decide), e 63 (by decide), e 64 (by decide), h70 51 (by decide), e 106 (by decide), e 107 (by decide), e 108 (by decide), e 109 (by decide), e 110 (by decide)]; exact i22
  · rw [e 65 (by decide), e 66 (by decide), e 111 (by decide)]; exact i23
set_option maxRecDepth 10000 in
set_option maxHeartbeats 4000000 in
theorem t_go (S : xA) (hI : Inv S) (n : Int32) : Both mX9_go mX10_go [.int n] S := by
  obtain ⟨c, hc40, c1, c2, c3, hE⟩ := ld_all hI
  have i1 := hI.1
  have a1 := (JN_c i1).1
  have a2 := (JN_c i1).2.1
  have a3 := (JN_c i1).2.2
  generalize hA : (S 0 11).toNatClampNeg = a at a1 a2 a3
  show CI mX9_go _ _ _
  refine ci_of (T := mX9_go) (fv := fun _ => True) (ls := [some (.ref (0 : Nat)), some (.int n), none]) rfl (Nat.le_of_ble_eq_true rfl) (by decide) rfl rfl rfl (ok2_0 cX9_go 9 60 rfl rfl ?_)
  simp only [sw3_c, sw3_n, Nat.reduceEqDiff, not_false_eq_true, Nat.zero_le, Nat.reduceLeDiff, Nat.reduceLT, Nat.reduceAdd, sg_s, ↓kif_0, ↓kif_c, ↓reduceIte, nl_n, nl_i, nl_r, List.length_cons, List.length_nil, true_and, and_true, upA_s, upA_n, upA_u, Prod.mk.injEq, and_self, Fr_0_11, Fr_0_6, oC_33, oC_46, oI_0_11, oL_0, (j_iload_n_1 dX9_go_0 (n := 1) rfl), (j_iconst dX9_go_1 (n := 2) rfl ki_0), (j_bipush dX9_go_2 (n := 4) rfl kb_100), (j_cs3i (M := mX9_go) dX9_go_4 (n := 7) rfl cM_9_91 (Or.inl rfl) (o := 9) rfl lv_X9_go_X9_beyond rfl), (j_if_eq dX9_go_7 (n := 10) rfl br_7_7), (j_sipush dX9_go_10 (n := 13) rfl ks_m1002), (j_iret dX9_go_13 (n := 14) rfl), (j_aload_n_0 dX9_go_14 (n := 15) rfl), (j_getf dX9_go_15 (n := 18) rfl cF_9_83), (j_iload_n_1 dX9_go_18 (n := 19) rfl), (j_iadd dX9_go_19 (n := 20) rfl), (j_sipush dX9_go_20 (n := 23) rfl ks_240), (j_ic_le dX9_go_23 (n := 26) rfl br_23_7), (j_sipush dX9_go_26 (n := 29) rfl ks_m1003), (j_iret dX9_go_29 (n := 30) rfl), (j_aload_n_0 dX9_go_30 (n := 31) rfl), (j_getf dX9_go_31 (n := 34) rfl cF_9_58), (j_aload_n_0 dX9_go_34 (n := 35) rfl), (j_getf dX9_go_35 (n := 38) rfl cF_9_83), (j_iload_n_1 dX9_go_38 (n := 39) rfl), (j_iconst dX9_go_39 (n := 40) rfl ki_0), (j_cv3i (M := mX9_go) dX9_go_40 (n := 43) rfl cM_9_252 (Or.inl rfl) lv_X9_go_X0_run rfl (oc := 0) rfl), (j_istore_n_2 dX9_go_43 (n := 44) rfl), (j_aload_n_0 dX9_go_44 (n := 45) rfl), (j_dup_i dX9_go_45 (n := 46) rfl), (j_dup_r dX9_go_45 (n := 46) rfl), (j_getf dX9_go_46 (n := 49) rfl cF_9_83), (j_iload_n_1 dX9_go_49 (n := 50) rfl), (j_iadd dX9_go_50 (n := 51) rfl), (j_putf dX9_go_51 (n := 54) rfl cF_9_83), (j_iload_n_2 dX9_go_54 (n := 55) rfl), (j_iret dX9_go_55 (n := 56) rfl), rOk_i (M := mX9_go) rfl]
  refine c_beyond _ _ _ _ _ ?_
  simp only [bI_0, decide_eq_false_iff_not, ti_0, ti_100]
  refine ite_i (fun h1 => ite_i (fun h2 => ?_) (fun h2 => ?_)) (fun h1 => ?_)
  · refine m_go0 n S _ (fun q => absurd (by omega) h1) (fun _ _ => g3_rf hI) (fun q => q.2 (by rw [← i1.1]; exact h2))
  · have en : n = nI n.toNatClampNeg := (nI_cl (by omega)).symm
    have en2 := cl_eq (x := n) (by omega)
    generalize n.toNatClampNeg = m at en en2
    subst en
    rw [a1, nI_add, lt_I, ti_240, toInt_nI (by omega)] at h2
    rw [a1]
    refine c_run33 a m 0 (-1) S _ c (Inv_Bs hI hc40 c1 hE) (Hg_0 hI) (by omega) (fun Zs rs h0 hs hf => ?_)
    have hch : chZ 33 S (-1) a m c Zs rs := ⟨h0, hs⟩
    rw [hf 0 (by decide), a1, nI_add]
    have eR : ∀ q, ¬ q = 0 → upA (Zs m) 0 (upd (S 0) 11 (nI (a + m))) q = Zs m q := fun q hq => upA_n _ _ hq
    refine m_go S _ _ Zs rs a m c hI hc40 c2 hE (by omega) (by omega) hch ?_ ?_ ?_ (fun R' k1 k2 k3 k4 => ⟨rfl, ?_⟩)
    · rw [eR 70 (by decide), hf 70 (by decide)]; exact a2
    · refine ⟨fun q hq => ?_, fun j hj => ?_, ?_⟩
      · rw [eR q (fun w => by revert hq; rw [w]; decide), hf q (by revert hq; revert q; decide)]
      · rw [eR 70 (by decide), hf 70 (by decide)]
      · rw [eR 70 (by decide), hf 70 (by decide)]; exact hI.2.2.2.2.2.2.2.2.2.2.2.2.2.2.2.2.1
    · exact rel_e (Inv_rel hI c3) (chZ_0 (by omega) hch) (fun q hq => by rw [eR q (fun w => by revert hq; rw [w]; decide), hf q (by revert hq; revert q; decide)])
    · have eRZ : ∀ q, q ∉ LM → ¬ q = 0 → R' q = Zs m q := fun q h1 h2 => by rw [k1 q h1, eR q h2]
      refine Inv_go hI c3 ?_ ?_ ?_ (rel_e k4 (fun k h1 h2 => eRZ _ (by simp [LM]; omega) (by omega)) (fun _ _ => rfl)) ?_
      · rw [k1 0 (by decide), upA_s, pk_us, k3]
        exact ⟨rfl, by rw [toInt_nI (by omega)]; omega, by rw [toInt_nI (by omega)]; omega⟩
      · intro j hj
        rw [k2 j (by simp at hj; omega) (by simp at hj; omega), eR 70 (by decide), hf 70 (by decide)]
      · intro q h1 h2
        rw [eRZ q (fun w => h2 (by revert w h1; clear h2; revert q; decide)) (fun w => h2 (by rw [w]; decide)), hf q (fun w => h2 (by revert w h1; clear h2; revert q; decide))]
      · intro i hi
        rw [eRZ 41 (by decide) (by decide), eRZ 42 (by decide) (by decide), eRZ 43 (by decide) (by decide)]
        exact chZ_t (D := 33) (by omega) hch m (Nat.le_refl _) i hi
  · refine m_go0 n S _ (fun _ => g3_rf hI) (fun q => absurd (by omega) h1) (fun q => h1 (by omega))
