-- called, holds
theorem hlF_rg {K U r : Nat → Int32} {u hour pair : Int32} : ∀ n, (hlF K U r u hour pair n).1 = -1 ∨ ∃ o, o < n ∧ (hlF K U r u hour pair n).1 = nI o
  | 0 => Or.inl rfl
  | n + 1 => by
    by_cases h : hlC K U r u hour pair n (hlF K U r u hour pair n).2
    · rw [hlF_y h]
      exact Or.inr ⟨n, by omega, rfl⟩
    · rw [hlF_n h]
      rcases hlF_rg (K := K) (U := U) (r := r) (u := u) (hour := hour) (pair := pair) n with q | ⟨o, q1, q2⟩
      · exact Or.inl q
      · exact Or.inr ⟨o, by omega, q2⟩
def clD (K : Nat → Int32) (call ban : Int32) : Bool := decide (¬ call = -1 ∧ K call.toNatClampNeg = 0 ∧ (ban = -1 ∨ ¬ K ban.toNatClampNeg = 2))
def isO (x : Int32) : Prop := x = -1 ∨ ∃ o, o < 40 ∧ x = nI o
theorem isO_v {x : Int32} (h : isO x) (h1 : ¬ x = -1) : vp_in x 40 := by
  rcases h with q | ⟨o, q1, q2⟩
  · exact absurd q h1
  · rw [q2]; exact vp_in_nI q1 (by omega)
theorem isO_n {x : Int32} (h : isO x) : (x < 0) = (x = -1) := by
  apply propext
  rcases h with q | ⟨o, q1, q2⟩
  · rw [q]; decide
  · rw [q2, lt_I, eq_I, toInt_nI (by omega), ti_0, ti_m1]
    omega
set_option maxHeartbeats 4000000 in
theorem c_calls (p : Int32) (S : xA) (f : xP) (h1 : vp_in p 96) (h2 : vp_in (48 + p) 96) (hc : isO (S 14 p.toNatClampNeg)) (hb : isO (S 14 (48 + p).toNatClampNeg)) (h : f (bI (clD (S 10) (S 14 p.toNatClampNeg) (S 14 (48 + p).toNatClampNeg))) S) : CI mX6_calls [.ref (9 : Nat), .int p] S f := by
  show CI mX6_calls _ _ _
  refine ci_of (T := mX6_calls) (fv := fun _ => True) (ls := [some (.ref (9 : Nat)), some (.int p), none, none]) rfl (Nat.le_of_ble_eq_true rfl) (by decide) rfl rfl rfl (ok2_0 cX6_calls 6 80 rfl rfl ?_)
  simp only [sw3_c, sw3_n, Nat.reduceEqDiff, not_false_eq_true, Nat.zero_le, Nat.reduceLeDiff, Nat.reduceLT, Nat.reduceAdd, sg_s, ↓kif_0, ↓kif_c, ↓reduceIte, nl_n, nl_i, nl_r, List.length_cons, List.length_nil, true_and, and_true, upA_s, upA_n, upA_u, Prod.mk.injEq, and_self, Fr_9_1, Fr_9_5, Ld_10, Ld_14, oA_10, oA_14, oL_9, (j_aload_n_0 dX6_calls_0 (n := 1) rfl), (j_getf dX6_calls_1 (n := 4) rfl cF_6_24), (j_iload_n_1 dX6_calls_4 (n := 5) rfl), (j_iald dX6_calls_5 (n := 6) rfl), (j_istore_n_2 dX6_calls_6 (n := 7) rfl), (j_aload_n_0 dX6_calls_7 (n := 8) rfl), (j_getf dX6_calls_8 (n := 11) rfl cF_6_24), (j_bipush dX6_calls_11 (n := 13) rfl kb_48), (j_iload_n_1 dX6_calls_13 (n := 14) rfl), (j_iadd dX6_calls_14 (n := 15) rfl), (j_iald dX6_calls_15 (n := 16) rfl), (j_istore_n_3 dX6_calls_16 (n := 17) rfl), (j_iload_n_2 dX6_calls_17 (n := 18) rfl), (j_iconst dX6_calls_18 (n := 19) rfl ki_m1), (j_ic_eq dX6_calls_19 (n := 22) rfl br_19_31), (j_aload_n_0 dX6_calls_22 (n := 23) rfl), (j_getf dX6_calls_23 (n := 26) rfl cF_6_9), (j_iload_n_2 dX6_calls_26 (n := 27) rfl), (j_iald dX6_calls_27 (n := 28) rfl), (j_if_ne dX6_calls_28 (n := 31) rfl br_28_22), (j_iload_n_3 dX6_calls_31 (n := 32) rfl), (j_iconst dX6_calls_32 (n := 33) rfl ki_m1), (j_ic_eq dX6_calls_33 (n := 36) rfl br_33_13), (j_aload_n_0 dX6_calls_36 (n := 37) rfl), (j_getf dX6_calls_37 (n := 40) rfl cF_6_9), (j_iload_n_3 dX6_calls_40 (n := 41) rfl), (j_iald dX6_calls_41 (n := 42) rfl), (j_iconst dX6_calls_42 (n := 43) rfl ki_2), (j_ic_eq dX6_calls_43 (n := 46) rfl br_43_7), (j_iconst dX6_calls_46 (n := 47) rfl ki_1), (j_goto dX6_calls_47 (n := 50) rfl br_47_4), (j_iconst dX6_calls_50 (n := 51) rfl ki_0), (j_iret dX6_calls_51 (n := 52) rfl)]
  unfold clD at h
  refine ⟨h1, h2, ite_i (fun q1 => ?_) (fun q1 => ⟨isO_v hc q1, ite_i (fun q2 => ite_i (fun q3 => ?_) (fun q3 => ⟨isO_v hb q3, ite_i (fun q4 => ?_) (fun q4 => ?_)⟩)) (fun q2 => ?_)⟩)⟩
  · rw [decide_eq_false (fun w => w.1 q1)] at h; exact ⟨rOk_z rfl (Or.inl rfl), h⟩
  · rw [decide_eq_true ⟨q1, q2, Or.inl q3⟩] at h; exact ⟨rOk_z rfl (Or.inr rfl), h⟩
  · rw [decide_eq_false (fun w => w.2.2.elim q3 (fun z => z q4))] at h; exact ⟨rOk_z rfl (Or.inl rfl), h⟩
  · rw [decide_eq_true ⟨q1, q2, Or.inr q4⟩] at h; exact ⟨rOk_z rfl (Or.inr rfl), h⟩
  · rw [decide_eq_false (fun w => q2 w.2.1)] at h; exact ⟨rOk_z rfl (Or.inl rfl), h⟩
theorem isO_hl {K U r : Nat → Int32} {u hour pair : Int32} {n : Nat} (hn : n ≤ 40) : isO (hlF K U r u hour pair n).1 := by
  rcases hlF_rg (K := K) (U := U) (r := r) (u := u) (hour := hour) (pair := pair) n with q | ⟨o, q1, q2⟩
  · exact Or.inl q
  · exact Or.inr ⟨o, by omega, q2⟩
set_option maxHeartbeats 4000000 in
theorem c_isCalled (u t hour : Int32) (S : xA) (f : xP) (c : Nat) (hc : S 70 15 = nI c) (hc40 : c ≤ 40) (ht : ¬ (t.toInt < 0 ∨ 8 ≤ t.toInt)) (hT : ∀ o, o < c → ¬ ((S 86 o).toInt < 0 ∨ 8 ≤ (S 86 o).toInt)) (h : f (bI (clD (S 84) (hld S u t hour 0 c).1 (hld S u t hour 1 c).1)) S) : CI mX10_isCalled [.ref (70 : Nat), .int u, .int t, .int hour] S f := by
  show CI mX10_isCalled _ _ _
  refine ci_of (T := mX10_isCalled) (fv := fun _ => True) (ls := [some (.ref (70 : Nat)), some (.int u), some (.int t), some (.int hour), none, none]) rfl (Nat.le_of_ble_eq_true rfl) (by decide) rfl rfl rfl (ok2_0 cX10_isCalled 10 80 rfl rfl ?_)
  simp only [sw3_c, sw3_n, Nat.reduceEqDiff, not_false_eq_true, Nat.zero_le, Nat.reduceLeDiff, Nat.reduceLT, Nat.reduceAdd, sg_s, ↓kif_0, ↓kif_c, ↓reduceIte, nl_n, nl_i, nl_r, List.length_cons, List.length_nil, true_and, and_true, upA_s, upA_n, upA_u, Prod.mk.injEq, and_self, Fr_70_16, Ld_84, oA_84, oC_70, oL_70, (j_aload_n_0 dX10_isCalled_0 (n := 1) rfl), (j_iload_n_1 dX10_isCalled_1 (n := 2) rfl), (j_iload_n_2 dX10_isCalled_2 (n := 3) rfl), (j_iload_n_3 dX10_isCalled_3 (n := 4) rfl), (j_iconst dX10_isCalled_4 (n := 5) rfl ki_0), (j_cv4i (M := mX10_isCalled) dX10_isCalled_5 (n := 8) rfl cM_10_214 (Or.inl rfl) lv_X10_isCalled_X10_holdsOf rfl (oc := 10) rfl), (j_istore_4 dX10_isCalled_8 (n := 10) rfl), (j_aload_n_0 dX10_isCalled_10 (n := 11) rfl), (j_iload_n_1 dX10_isCalled_11 (n := 12) rfl), (j_iload_n_2 dX10_isCalled_12 (n := 13) rfl), (j_iload_n_3 dX10_isCalled_13 (n := 14) rfl), (j_iconst dX10_isCalled_14 (n := 15) rfl ki_1), (j_cv4i (M := mX10_isCalled) dX10_isCalled_15 (n := 18) rfl cM_10_214 (Or.inl rfl) lv_X10_isCalled_X10_holdsOf rfl (oc := 10) rfl), (j_istore_5 dX10_isCalled_18 (n := 20) rfl), (j_iload_4 dX10_isCalled_20 (n := 22) rfl), (j_if_lt dX10_isCalled_22 (n := 25) rfl br_22_33), (j_aload_n_0 dX10_isCalled_25 (n := 26) rfl), (j_getf dX10_isCalled_26 (n := 29) rfl cF_10_49), (j_iload_4 dX10_isCalled_29 (n := 31) rfl), (j_iald dX10_isCalled_31 (n := 32) rfl), (j_if_ne dX10_isCalled_32 (n := 35) rfl br_32_23), (j_iload_5 dX10_isCalled_35 (n := 37) rfl), (j_if_lt dX10_isCalled_37 (n := 40) rfl br_37_14), (j_aload_n_0 dX10_isCalled_40 (n := 41) rfl), (j_getf dX10_isCalled_41 (n := 44) rfl cF_10_49), (j_iload_5 dX10_isCalled_44 (n := 46) rfl), (j_iald dX10_isCalled_46 (n := 47) rfl), (j_iconst dX10_isCalled_47 (n := 48) rfl ki_2), (j_ic_eq dX10_isCalled_48 (n := 51) rfl br_48_7), (j_iconst dX10_isCalled_51 (n := 52) rfl ki_1), (j_goto dX10_isCalled_52 (n := 55) rfl br_52_4), (j_iconst dX10_isCalled_55 (n := 56) rfl ki_0), (j_iret dX10_isCalled_56 (n := 57) rfl)]
  refine c_holdsOf _ _ _ _ _ _ c hc hc40 ht hT ?_
  refine c_holdsOf _ _ _ _ _ _ c hc hc40 ht hT ?_
  have hA : isO (hld S u t hour 0 c).1 := isO_hl hc40
  have hB : isO (hld S u t hour 1 c).1 := isO_hl hc40
  generalize (hld S u t hour 0 c).1 = A at hA h ⊢
  generalize (hld S u t hour 1 c).1 = B at hB h ⊢
  unfold clD at h
  simp only [isO_n hA, isO_n hB]
  refine ite_i (fun q1 => ?_) (fun q1 => ⟨isO_v hA q1, ite_i (fun q2 => ite_i (fun q3 => ?_) (fun q3 => ⟨isO_v hB q3, ite_i (fun q4 => ?_) (fun q4 => ?_)⟩)) (fun q2 => ?_)⟩)
  · rw [decide_eq_false (fun w => w.1 q1)] at h; exact ⟨rOk_z rfl (Or.inl rfl), h⟩
  · rw [decide_eq_true ⟨q1, q2, Or.inl q3⟩] at h; exact ⟨rOk_z rfl (Or.inr rfl), h⟩
  · rw [decide_eq_false (fun w => w.2.2.elim q3 (fun z => z q4))] at h; exact ⟨rOk_z rfl (Or.inl rfl), h⟩
  · rw [decide_eq_true ⟨q1, q2, Or.inr q4⟩] at h; exact ⟨rOk_z rfl (Or.inr rfl), h⟩
  · rw [decide_eq_false (fun w => q2 w.2.1)] at h; exact ⟨rOk_z rfl (Or.inl rfl), h⟩
