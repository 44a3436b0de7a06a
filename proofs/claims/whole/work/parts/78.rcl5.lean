-- reading: the class's clause and text
theorem cuE_8 {b : Nat → Int32} {n rules cnt p : Nat} (h : 8 ≤ cnt) : ¬ (cuE b n rules cnt p).1 = 0 := by
  unfold cuE
  split
  · exact Nat.one_ne_zero
  · rw [if_pos h]
    exact (show ¬ (5 : Nat) = 0 by decide)
section RC
variable {S0 S : xA} {n p w cnt : Nat} {K V : Nat → Int32}
set_option maxHeartbeats 4000000 in
theorem x_clause (hn : n ≤ 160) (hc : cnt ≤ 8) (rules : Nat) (hr : rules ≤ 8) (h : rdC S0 S n p w cnt none K V) (f : xA → Prop) (k : clQ S0 n cnt K V (cuE (S0 23) n rules cnt p) f) : CV mX7_readClause [.ref (22 : Nat), .int (nI rules)] S f := by
  have l1 := sk_le (b := S0 23) h.2.2.2.1
  have l2 := wd_le (b := S0 23) l1.2
  unfold cuE kwO at k
  show CV mX7_readClause _ _ _
  refine cv_of (T := mX7_readClause) (f := fun _ _ => True) (ls := [some (.ref (22 : Nat)), some (.int (nI rules))]) rfl (Nat.le_of_ble_eq_true rfl) (by decide) rfl rfl rfl (ok2_0 cX7_readClause 7 60 rfl rfl ?_)
  simp only [sw3_c, sw3_n, Nat.reduceEqDiff, not_false_eq_true, Nat.zero_le, Nat.reduceLeDiff, Nat.reduceLT, Nat.reduceAdd, sg_s, ↓kif_0, ↓kif_c, ↓reduceIte, nl_n, nl_i, nl_r, List.length_cons, List.length_nil, true_and, and_true, upA_s, upA_n, upA_u, Prod.mk.injEq, and_self, Fr_22_8, oC_22, oL_22, (j_aload_n_0 dX7_readClause_0 (n := 1) rfl), (j_cv0v (M := mX7_readClause) dX7_readClause_1 (n := 4) rfl cM_7_53 (Or.inl rfl) lv_X7_readClause_X7_takeWord rfl (oc := 7) rfl), (j_aload_n_0 dX7_readClause_4 (n := 5) rfl), (j_ldc_s dX7_readClause_5 (n := 7) rfl (o := 7) rfl cT_7_56), (j_cv1i (M := mX7_readClause) dX7_readClause_7 (n := 10) rfl cM_7_58 (Or.inl rfl) lv_X7_readClause_X7_spells rfl (oc := 7) rfl), (j_if_eq dX7_readClause_10 (n := 13) rfl br_10_10), (j_aload_n_0 dX7_readClause_13 (n := 14) rfl), (j_cv0v (M := mX7_readClause) dX7_readClause_14 (n := 17) rfl cM_7_62 (Or.inl rfl) lv_X7_readClause_X7_readNeed rfl (oc := 7) rfl), (j_goto dX7_readClause_17 (n := 20) rfl br_17_104), (j_aload_n_0 dX7_readClause_20 (n := 21) rfl), (j_ldc_s dX7_readClause_21 (n := 23) rfl (o := 7) rfl cT_7_65), (j_cv1i (M := mX7_readClause) dX7_readClause_23 (n := 26) rfl cM_7_58 (Or.inl rfl) lv_X7_readClause_X7_spells rfl (oc := 7) rfl), (j_if_eq dX7_readClause_26 (n := 29) rfl br_26_12), (j_aload_n_0 dX7_readClause_29 (n := 30) rfl), (j_iconst dX7_readClause_30 (n := 31) rfl ki_3), (j_iload_n_1 dX7_readClause_31 (n := 32) rfl), (j_cv2v (M := mX7_readClause) dX7_readClause_32 (n := 35) rfl cM_7_67 (Or.inl rfl) lv_X7_readClause_X7_readNumber rfl (oc := 7) rfl), (j_goto dX7_readClause_35 (n := 38) rfl br_35_86), (j_aload_n_0 dX7_readClause_38 (n := 39) rfl), (j_ldc_s dX7_readClause_39 (n := 41) rfl (o := 7) rfl cT_7_71), (j_cv1i (M := mX7_readClause) dX7_readClause_41 (n := 44) rfl cM_7_58 (Or.inl rfl) lv_X7_readClause_X7_spells rfl (oc := 7) rfl), (j_if_eq dX7_readClause_44 (n := 47) rfl br_44_12), (j_aload_n_0 dX7_readClause_47 (n := 48) rfl), (j_iconst dX7_readClause_48 (n := 49) rfl ki_4), (j_iload_n_1 dX7_readClause_49 (n := 50) rfl), (j_cv2v (M := mX7_readClause) dX7_readClause_50 (n := 53) rfl cM_7_67 (Or.inl rfl) lv_X7_readClause_X7_readNumber rfl (oc := 7) rfl), (j_goto dX7_readClause_53 (n := 56) rfl br_53_68), (j_aload_n_0 dX7_readClause_56 (n := 57) rfl), (j_ldc_s dX7_readClause_57 (n := 59) rfl (o := 7) rfl cT_7_73), (j_cv1i (M := mX7_readClause) dX7_readClause_59 (n := 62) rfl cM_7_58 (Or.inl rfl) lv_X7_readClause_X7_spells rfl (oc := 7) rfl), (j_if_eq dX7_readClause_62 (n := 65) rfl br_62_12), (j_aload_n_0 dX7_readClause_65 (n := 66) rfl), (j_iconst dX7_readClause_66 (n := 67) rfl ki_5), (j_iload_n_1 dX7_readClause_67 (n := 68) rfl), (j_cv2v (M := mX7_readClause) dX7_readClause_68 (n := 71) rfl cM_7_67 (Or.inl rfl) lv_X7_readClause_X7_readNumber rfl (oc := 7) rfl), (j_goto dX7_readClause_71 (n := 74) rfl br_71_50), (j_aload_n_0 dX7_readClause_74 (n := 75) rfl), (j_ldc_s dX7_readClause_75 (n := 77) rfl (o := 7) rfl cT_7_75), (j_cv1i (M := mX7_readClause) dX7_readClause_77 (n := 80) rfl cM_7_58 (Or.inl rfl) lv_X7_readClause_X7_spells rfl (oc := 7) rfl), (j_if_eq dX7_readClause_80 (n := 83) rfl br_80_13), (j_aload_n_0 dX7_readClause_83 (n := 84) rfl), (j_bipush dX7_readClause_84 (n := 86) rfl kb_6), (j_iload_n_1 dX7_readClause_86 (n := 87) rfl), (j_cv2v (M := mX7_readClause) dX7_readClause_87 (n := 90) rfl cM_7_67 (Or.inl rfl) lv_X7_readClause_X7_readNumber rfl (oc := 7) rfl), (j_goto dX7_readClause_90 (n := 93) rfl br_90_31), (j_aload_n_0 dX7_readClause_93 (n := 94) rfl), (j_ldc_s dX7_readClause_94 (n := 96) rfl (o := 7) rfl cT_7_77), (j_cv1i (M := mX7_readClause) dX7_readClause_96 (n := 99) rfl cM_7_58 (Or.inl rfl) lv_X7_readClause_X7_spells rfl (oc := 7) rfl), (j_if_eq dX7_readClause_99 (n := 102) rfl br_99_13), (j_aload_n_0 dX7_readClause_102 (n := 103) rfl), (j_bipush dX7_readClause_103 (n := 105) rfl kb_7), (j_iload_n_1 dX7_readClause_105 (n := 106) rfl), (j_cv2v (M := mX7_readClause) dX7_readClause_106 (n := 109) rfl cM_7_67 (Or.inl rfl) lv_X7_readClause_X7_readNumber rfl (oc := 7) rfl), (j_goto dX7_readClause_109 (n := 112) rfl br_109_12), (j_aload_n_0 dX7_readClause_112 (n := 113) rfl), (j_iconst dX7_readClause_113 (n := 114) rfl ki_1), (j_aload_n_0 dX7_readClause_114 (n := 115) rfl), (j_getf dX7_readClause_115 (n := 118) rfl cF_7_37), (j_cv2v (M := mX7_readClause) dX7_readClause_118 (n := 121) rfl cM_7_79 (Or.inl rfl) lv_X7_readClause_X7_blame rfl (oc := 7) rfl), (j_ret (M := mX7_readClause) dX7_readClause_121 (n := 122) rfl rfl)]
  refine x_tword hn h _ (fun S1 h1 => ?_)
  have e23 := rdC_23 h1
  have sp : ∀ (i : Nat) (f : xP), i < 13 → f (bI (spl (S0 23) (sk (S0 23) n p) (wd (S0 23) n (sk (S0 23) n p)) (kByt.getD i []))) S1 → CI mX7_spells [.ref (22 : Nat), .ref (1000 + i : Nat)] S1 f := by
    intro i f hi hf
    refine c_spells i S1 f _ _ n hi h1.2.2.2.2.1 h1.2.2.1 l2.1 l2.2 hn ?_
    rw [e23]
    exact hf
  have num : ∀ j, 1 ≤ j → j ≤ 5 → clQ S0 n cnt K V (if 8 ≤ cnt then (5, sk (S0 23) n p, 0, 0, 0) else if j = 0 then neE (S0 23) n (wd (S0 23) n (sk (S0 23) n p)) else nuE (S0 23) n rules j (wd (S0 23) n (sk (S0 23) n p))) f → CV mX7_readNumber [.ref (22 : Nat), .int (nI (j + 2)), .int (nI rules)] S1 f := by
    intro j j1 j5 q
    refine x_num hn hc j rules j1 j5 hr h1 f (fun h8 S' p' w' h' => ?_) (fun h8 => ?_)
    · rw [if_pos h8] at q
      exact q.2 (show ¬ (5 : Nat) = 0 by decide) S' p' w' h'
    · rw [if_neg (by omega), if_neg (by omega)] at q
      exact q
  refine sp 7 _ (by omega) ?_
  rw [show kByt.getD 7 [] = wNeed from rfl]
  refine ite_b (fun q => ?_) (fun q => ?_)
  · rw [q, if_neg Bool.false_ne_true] at k
    refine sp 8 _ (by omega) ?_
    rw [show kByt.getD 8 [] = wPay from rfl]
    refine ite_b (fun q => ?_) (fun q => ?_)
    · rw [q, if_neg Bool.false_ne_true] at k
      refine sp 9 _ (by omega) ?_
      rw [show kByt.getD 9 [] = wCost from rfl]
      refine ite_b (fun q => ?_) (fun q => ?_)
      · rw [q, if_neg Bool.false_ne_true] at k
        refine sp 10 _ (by omega) ?_
        rw [show kByt.getD 10 [] = wFear from rfl]
        refine ite_b (fun q => ?_) (fun q => ?_)
        · rw [q, if_neg Bool.false_ne_true] at k
          refine sp 11 _ (by omega) ?_
          rw [show kByt.getD 11 [] = wSlow from rfl]
          refine ite_b (fun q => ?_) (fun q => ?_)
          · rw [q, if_neg Bool.false_ne_true] at k
            refine sp 12 _ (by omega) ?_
            rw [show kByt.getD 12 [] = wStrike from rfl]
            refine ite_b (fun q => ?_) (fun q => ?_)
            · rw [q, if_neg Bool.false_ne_true] at k
              rw [h1.2.2.2.2.1]
              exact x_blame 1 _ (by omega) h1 _ (fun S2 h2 => k.2 Nat.one_ne_zero S2 _ _ h2)
            · rw [if_pos q] at k
              exact num 5 (by omega) (by omega) k
          · rw [if_pos q] at k
            exact num 4 (by omega) (by omega) k
        · rw [if_pos q] at k
          exact num 3 (by omega) (by omega) k
      · rw [if_pos q] at k
        exact num 2 (by omega) (by omega) k
    · rw [if_pos q] at k
      exact num 1 (by omega) (by omega) k
  · rw [if_pos q] at k
    refine x_need hn hc h1 f (fun h8 S' p' w' h' => ?_) (fun h8 => ?_)
    · simp only at k
      rw [if_pos h8] at k
      exact k.2 (show ¬ (5 : Nat) = 0 by decide) S' p' w' h'
    · simp only at k
      rw [if_neg (by omega), if_pos trivial] at k
      exact k
set_option maxHeartbeats 4000000 in
theorem x_more (hn : n ≤ 160) {o : Option (Nat × Nat)} (h : rdC S0 S n p w cnt o K V) (f : xP) (k1 : o = none → sk (S0 23) n p < n → ∀ S', rdC S0 S' n (sk (S0 23) n p) w cnt o K V → f 1 S') (k2 : ¬ (o = none ∧ sk (S0 23) n p < n) → ∀ S', rdC S0 S' n (sk (S0 23) n p) w cnt o K V → f 0 S') : CI mX7_more [.ref (22 : Nat)] S f := by
  have l1 := sk_le (b := S0 23) h.2.2.2.1
  show CI mX7_more _ _ _
  refine ci_of (T := mX7_more) (fv := fun _ => True) (ls := [some (.ref (22 : Nat))]) rfl (Nat.le_of_ble_eq_true rfl) (by decide) rfl rfl rfl (ok2_0 cX7_more 7 40 rfl rfl ?_)
  simp only [sw3_c, sw3_n, Nat.reduceEqDiff, not_false_eq_true, Nat.zero_le, Nat.reduceLeDiff, Nat.reduceLT, Nat.reduceAdd, sg_s, ↓kif_0, ↓kif_c, ↓reduceIte, nl_n, nl_i, nl_r, List.length_cons, List.length_nil, true_and, and_true, upA_s, upA_n, upA_u, Prod.mk.injEq, and_self, Fr_22_3, Fr_22_5, Fr_22_7, oC_22, oL_22, (j_aload_n_0 dX7_more_0 (n := 1) rfl), (j_cv0v (M := mX7_more) dX7_more_1 (n := 4) rfl cM_7_50 (Or.inl rfl) lv_X7_more_X7_skipBlanks rfl (oc := 7) rfl), (j_aload_n_0 dX7_more_4 (n := 5) rfl), (j_getf dX7_more_5 (n := 8) rfl cF_7_28), (j_if_ne dX7_more_8 (n := 11) rfl br_8_18), (j_aload_n_0 dX7_more_11 (n := 12) rfl), (j_getf dX7_more_12 (n := 15) rfl cF_7_34), (j_aload_n_0 dX7_more_15 (n := 16) rfl), (j_getf dX7_more_16 (n := 19) rfl cF_7_21), (j_ic_ge dX7_more_19 (n := 22) rfl br_19_7), (j_iconst dX7_more_22 (n := 23) rfl ki_1), (j_goto dX7_more_23 (n := 26) rfl br_23_4), (j_iconst dX7_more_26 (n := 27) rfl ki_0), (j_iret dX7_more_27 (n := 28) rfl)]
  refine x_skip hn h _ (fun S1 h1 => ?_)
  rw [h1.2.2.1, h1.2.1]
  have b := h1.2.2.2.2.2.2.1
  refine ite_i (fun q => ?_) (fun q => ⟨rOk_z rfl (Or.inl rfl), k2 (fun w => ?_) S1 h1⟩)
  · have ho : o = none := by
      cases o with
      | none => rfl
      | some z =>
        obtain ⟨z1, z2⟩ := z
        rw [b.1] at q
        exact absurd q (nI_ne0 (by have := b.2.2.1; omega) (by have := b.2.2.2; omega))
    refine ite_i (fun q2 => ⟨rOk_z rfl (Or.inr rfl), k1 ho ?_ S1 h1⟩) (fun q2 => ⟨rOk_z rfl (Or.inl rfl), k2 (fun w => q2 ?_) S1 h1⟩)
    · rw [nI_ltN (by omega) (by omega)] at q2; exact q2
    · rw [nI_ltN (by omega) (by omega)]; exact w.2
  · rw [w.1] at b
    exact q b.1
end RC
theorem fsP_f {C : Nat → Bool} {n : Nat} (hC : ∀ q, n ≤ q → C q = false) : ∀ k p, n ≤ p + k → C (fsP C k p) = false
  | 0, p, h => hC p h
  | k + 1, p, h => by
    rw [fsP]
    cases e : C p with
    | true => rw [if_pos rfl]; exact fsP_f hC k (p + 1) (by omega)
    | false => rw [if_neg Bool.false_ne_true]; exact e
theorem ef_f {C : Nat → Bool} {n p : Nat} (hC : ∀ q, n ≤ q → C q = false) : C (ef C n p) = false := fsP_f hC _ _ (by omega)
theorem sk_sk {b : Nat → Int32} {n p : Nat} (hp : p ≤ n) : sk b n (sk b n p) = sk b n p := ef_n (ef_f (C := bBl b n) (n := n) (p := p) (fun q hq => by unfold bBl; rw [decide_eq_false (by omega), Bool.false_and]))
theorem any_nI (x : Int32) : ∃ w, x = nI w := by
  by_cases h : 0 ≤ x.toInt
  · exact ⟨_, (nI_cl h).symm⟩
  · have h1 := x.le_toInt
    refine ⟨(x.toInt + 4294967296).toNat, ?_⟩
    apply Int32.toInt_inj.mp
    show x.toInt = (Int32.ofNat _).toInt
    rw [Int32.toInt_ofNat']
    have e : (((x.toInt + 4294967296).toNat : Nat) : Int) = x.toInt + 4294967296 := by omega
    have h2 := x.toInt_lt
    rw [e, show Int32.size = 4294967296 from rfl]
    unfold Int.bmod
    simp only
    split <;> omega
/-- what reading a text of n leaves in the class's reader -/
def rdP (S S' : xA) (n rules c : Nat) : Prop := toE (S 23) n rules c ∧ c ≤ 8 ∧ (∀ q, q ∉ [22, 24, 25] → S' q = S q) ∧ S' 22 3 = 0 ∧ (enE (S 23) n rules c → flt S' none ∧ S' 22 4 = nI c ∧ ∀ i, i < c → S' 24 i = (rsE (S 23) n rules i).2.2.1 ∧ S' 25 i = (rsE (S 23) n rules i).2.2.2.1) ∧ (¬ enE (S 23) n rules c → flt S' (some ((rsE (S 23) n rules c).1, (rsE (S 23) n rules c).2.1)))
set_option maxHeartbeats 4000000 in
theorem x_read (n rules : Nat) (S : xA) (f : xA → Prop) (hn : n ≤ 160) (hr : rules ≤ 8) (h3 : S 22 3 = nI n) (h : ∀ S' c, rdP S S' n rules c → f S') : CV mX7_read [.ref (22 : Nat), .int (nI rules)] S f := by
  have k8 : (8 : Int32) = nI 8 := rfl
  refine cv_of (T := mX7_read) (f := fun _ _ => True) (ls := [some (.ref (22 : Nat)), some (.int (nI rules)), none]) rfl (Nat.le_of_ble_eq_true rfl) (by decide) rfl rfl rfl ?_
  have w8 : S 22 8 = S 22 8 := rfl
  refine ok2_to cX7_read 7 40 22 (fun ls S' => ls = [some (.ref (22 : Nat)), some (.int (nI rules)), some (.int (nI 0))] ∧ (∀ q, ¬ q = 22 → S' q = S q) ∧ S' 22 3 = nI n ∧ S' 22 4 = 0 ∧ S' 22 5 = 0 ∧ S' 22 6 = -1 ∧ S' 22 7 = 0) rfl rfl ?_ ?_
  · rintro ls S1 ⟨hls, a1, a2, a3, a4, a5, a6⟩
    obtain ⟨w0, hw0⟩ := any_nI (S1 22 8)
    have e23 : ∀ {S' : xA} {p w cnt : Nat} {o : Option (Nat × Nat)} {K V : Nat → Int32}, rdC S S' n p w cnt o K V → S' 23 = S 23 := fun q => rdC_23 q
    refine ok2_inv cX7_read 7 40 22 (fun m ls S' => ∃ c, m = 10 - c ∧ ls = [some (.ref (22 : Nat)), some (.int (nI rules)), some (.int (nI c))] ∧ c ≤ 9 ∧ ((c ≤ 8 ∧ ∃ w K V, rdC S S' n (psE (S 23) n rules c) w c none K V ∧ (∀ i, i < c → K i = (rsE (S 23) n rules i).2.2.1 ∧ V i = (rsE (S 23) n rules i).2.2.2.1) ∧ ∀ i, i < c → ¬ enE (S 23) n rules i ∧ (rsE (S 23) n rules i).1 = 0) ∨ (∃ c0 p' w' K V, c0 ≤ 8 ∧ toE (S 23) n rules c0 ∧ ¬ enE (S 23) n rules c0 ∧ rdC S S' n p' w' c0 (some ((rsE (S 23) n rules c0).1, (rsE (S 23) n rules c0).2.1)) K V))) rfl rfl ?_ 10 ls S1 ⟨0, rfl, hls, by omega, Or.inl ⟨by omega, w0, S 24, S 25, ⟨fun q hq => a1 q (fun e => hq (by rw [e]; decide)), a2, a6, Nat.zero_le _, hw0, a3, ⟨a4, a5⟩, a1 24 (by decide), a1 25 (by decide)⟩, fun i hi => by omega, fun i hi => by omega⟩⟩
    rintro m _ S' ⟨c, rfl, rfl, hc9, hcase⟩ X hX
    have e8 : ((8 : Int32) < nI c) = (8 < c) := by rw [k8, nI_ltN (by omega) (by omega)]
    simp only [sw3_c, sw3_n, Nat.reduceEqDiff, not_false_eq_true, Nat.zero_le, Nat.reduceLeDiff, Nat.reduceLT, Nat.reduceAdd, sg_s, ↓kif_0, ↓kif_c, ↓reduceIte, nl_n, nl_i, nl_r, List.length_cons, List.length_nil, true_and, and_true, upA_s, upA_n, upA_u, Prod.mk.injEq, and_self, oC_22, oI_22_3, oI_22_4, oI_22_5, oI_22_6, oI_22_7, oL_22, (j_aload_n_0 dX7_read_0 (n := 1) rfl), (j_iconst dX7_read_1 (n := 2) rfl ki_0), (j_putf dX7_read_2 (n := 5) rfl cF_7_34), (j_aload_n_0 dX7_read_5 (n := 6) rfl), (j_iconst dX7_read_6 (n := 7) rfl ki_0), (j_putf dX7_read_7 (n := 10) rfl cF_7_25), (j_aload_n_0 dX7_read_10 (n := 11) rfl), (j_iconst dX7_read_11 (n := 12) rfl ki_0), (j_putf dX7_read_12 (n := 15) rfl cF_7_28), (j_aload_n_0 dX7_read_15 (n := 16) rfl), (j_iconst dX7_read_16 (n := 17) rfl ki_m1), (j_putf dX7_read_17 (n := 20) rfl cF_7_31), (j_iconst dX7_read_20 (n := 21) rfl ki_0), (j_istore_n_2 dX7_read_21 (n := 22) rfl), (j_iload_n_2 dX7_read_22 (n := 23) rfl), (j_bipush dX7_read_23 (n := 25) rfl kb_8), (j_ic_gt dX7_read_25 (n := 28) rfl br_25_21), (j_aload_n_0 dX7_read_28 (n := 29) rfl), (j_cv0i (M := mX7_read) dX7_read_29 (n := 32) rfl cM_7_42 (Or.inl rfl) lv_X7_read_X7_more rfl (oc := 7) rfl), (j_if_eq dX7_read_32 (n := 35) rfl br_32_14), (j_aload_n_0 dX7_read_35 (n := 36) rfl), (j_iload_n_1 dX7_read_36 (n := 37) rfl), (j_cv1v (M := mX7_read) dX7_read_37 (n := 40) rfl cM_7_46 (Or.inl rfl) lv_X7_read_X7_readClause rfl (oc := 7) rfl), (j_iinc_2 dX7_read_40 (n := 43) rfl ki_1), (j_goto dX7_read_43 (n := 46) rfl br_43_m21), (j_aload_n_0 dX7_read_46 (n := 47) rfl), (j_iconst dX7_read_47 (n := 48) rfl ki_0), (j_putf dX7_read_48 (n := 51) rfl cF_7_21), (j_ret (M := mX7_read) dX7_read_51 (n := 52) rfl rfl), nl_x, pk_us, e8, nI_1]
    have outF : ∀ {S3 : xA} {p' w' : Nat} {K V : Nat → Int32} (c0 : Nat), c0 ≤ 8 → toE (S 23) n rules c0 → ¬ enE (S 23) n rules c0 → rdC S S3 n p' w' c0 (some ((rsE (S 23) n rules c0).1, (rsE (S 23) n rules c0).2.1)) K V → f (upA S3 22 (upd (S3 22) 3 0)) := by
      intro S3 p' w' K V c0 h8 ht hne h3
      refine h _ c0 ⟨ht, h8, fun q hq => ?_, by rw [upA_s, pk_us], fun w => absurd w hne, fun _ => flt_c h3.2.2.2.2.2.2.1 (by rw [upA_s, upd_n (by decide)]) (by rw [upA_s, upd_n (by decide)])⟩
      rw [upA_n _ _ (fun e => hq (by rw [e]; decide))]
      exact h3.1 q hq
    rcases hcase with ⟨hc8, w, K, V, h1, hKV, hok⟩ | ⟨c0, p', w', K, V, h8, ht, hne, h1⟩
    · rw [if_neg (by omega)]
      refine x_more hn h1 _ (fun _ hlt S3 h3 => ?_) (fun hno S3 h3 => ?_)
      · rw [if_neg (by decide)]
        refine x_clause hn hc8 rules hr h3 _ ?_
        have e : cuE (S 23) n rules c (sk (S 23) n (psE (S 23) n rules c)) = rsE (S 23) n rules c := by
          unfold rsE cuE
          rw [sk_sk h1.2.2.2.1]
        rw [e]
        refine ⟨fun e0 S4 w4 h4 => ?_, fun e0 S4 p4 w4 h4 => ?_⟩
        · have hc7 : c < 8 := by
            rcases Nat.lt_or_ge c 8 with z | z
            · exact z
            · exact absurd e0 (cuE_8 z)
          refine hX (10 - (c + 1)) _ _ (by omega) ⟨c + 1, rfl, rfl, by omega, Or.inl ⟨by omega, w4, _, _, h4, fun i hi => ?_, fun i hi => ?_⟩⟩
          · rw [upd_t, upd_t]
            by_cases z : i = c
            · rw [if_pos z, if_pos z, z]; exact ⟨rfl, rfl⟩
            · rw [if_neg z, if_neg z]; exact hKV i (by omega)
          · by_cases z : i = c
            · rw [z]; exact ⟨fun q => q hlt, e0⟩
            · exact hok i (by omega)
        · exact hX (10 - (c + 1)) _ _ (by omega) ⟨c + 1, rfl, rfl, by omega, Or.inr ⟨c, p4, w4, _, _, hc8, ⟨hok, Or.inr e0⟩, fun q => q hlt, h4⟩⟩
      · rw [if_pos rfl]
        have hen : enE (S 23) n rules c := fun q => hno ⟨rfl, q⟩
        refine h _ c ⟨⟨hok, Or.inl hen⟩, hc8, fun q hq => ?_, by rw [upA_s, pk_us], fun _ => ⟨flt_c h3.2.2.2.2.2.2.1 (by rw [upA_s, upd_n (by decide)]) (by rw [upA_s, upd_n (by decide)]), by rw [upA_s, upd_n (by decide)]; exact h3.2.2.2.2.2.1, fun i hi => ?_⟩, fun w => absurd hen w⟩
        · rw [upA_n _ _ (fun e => hq (by rw [e]; decide))]
          exact h3.1 q hq
        · rw [upA_n _ _ (by decide), upA_n _ _ (by decide), h3.2.2.2.2.2.2.2.1, h3.2.2.2.2.2.2.2.2]
          exact hKV i hi
    · refine ite_i (fun _ => outF c0 h8 ht hne h1) (fun _ => x_more hn h1 _ (fun e => by cases e) (fun _ S3 h3 => ?_))
      rw [if_pos rfl]
      exact outF c0 h8 ht hne h3
  · intro X hX
    simp only [sw3_c, sw3_n, Nat.reduceEqDiff, not_false_eq_true, Nat.zero_le, Nat.reduceLeDiff, Nat.reduceLT, Nat.reduceAdd, sg_s, ↓kif_0, ↓kif_c, ↓reduceIte, nl_n, nl_i, nl_r, List.length_cons, List.length_nil, true_and, and_true, upA_s, upA_n, upA_u, Prod.mk.injEq, and_self, oC_22, oI_22_3, oI_22_4, oI_22_5, oI_22_6, oI_22_7, oL_22, (j_aload_n_0 dX7_read_0 (n := 1) rfl), (j_iconst dX7_read_1 (n := 2) rfl ki_0), (j_putf dX7_read_2 (n := 5) rfl cF_7_34), (j_aload_n_0 dX7_read_5 (n := 6) rfl), (j_iconst dX7_read_6 (n := 7) rfl ki_0), (j_putf dX7_read_7 (n := 10) rfl cF_7_25), (j_aload_n_0 dX7_read_10 (n := 11) rfl), (j_iconst dX7_read_11 (n := 12) rfl ki_0), (j_putf dX7_read_12 (n := 15) rfl cF_7_28), (j_aload_n_0 dX7_read_15 (n := 16) rfl), (j_iconst dX7_read_16 (n := 17) rfl ki_m1), (j_putf dX7_read_17 (n := 20) rfl cF_7_31), (j_iconst dX7_read_20 (n := 21) rfl ki_0), (j_istore_n_2 dX7_read_21 (n := 22) rfl), (j_iload_n_2 dX7_read_22 (n := 23) rfl), (j_bipush dX7_read_23 (n := 25) rfl kb_8), (j_ic_gt dX7_read_25 (n := 28) rfl br_25_21), (j_aload_n_0 dX7_read_28 (n := 29) rfl), (j_cv0i (M := mX7_read) dX7_read_29 (n := 32) rfl cM_7_42 (Or.inl rfl) lv_X7_read_X7_more rfl (oc := 7) rfl), (j_if_eq dX7_read_32 (n := 35) rfl br_32_14), (j_aload_n_0 dX7_read_35 (n := 36) rfl), (j_iload_n_1 dX7_read_36 (n := 37) rfl), (j_cv1v (M := mX7_read) dX7_read_37 (n := 40) rfl cM_7_46 (Or.inl rfl) lv_X7_read_X7_readClause rfl (oc := 7) rfl), (j_iinc_2 dX7_read_40 (n := 43) rfl ki_1), (j_goto dX7_read_43 (n := 46) rfl br_43_m21), (j_aload_n_0 dX7_read_46 (n := 47) rfl), (j_iconst dX7_read_47 (n := 48) rfl ki_0), (j_putf dX7_read_48 (n := 51) rfl cF_7_21), (j_ret (M := mX7_read) dX7_read_51 (n := 52) rfl rfl), nl_x, pk_us]
    refine hX _ _ ⟨rfl, fun q hq => upA_n _ _ hq, ?_, ?_, ?_, ?_, ?_⟩
    · simp only [upA_s, upA_n, upA_u, Nat.reduceEqDiff, not_false_eq_true, pk_us, upd_n]; exact h3
    · simp only [upA_s, upA_n, upA_u, Nat.reduceEqDiff, not_false_eq_true, pk_us, upd_n]
    · simp only [upA_s, upA_n, upA_u, Nat.reduceEqDiff, not_false_eq_true, pk_us, upd_n]
    · simp only [upA_s, upA_n, upA_u, Nat.reduceEqDiff, not_false_eq_true, pk_us, upd_n]
    · simp only [upA_s, upA_n, upA_u, Nat.reduceEqDiff, not_false_eq_true, pk_us, upd_n]
