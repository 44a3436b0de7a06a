-- reading: the class's need, numbers
def clQ (S0 : xA) (n cnt : Nat) (K V : Nat → Int32) (E : Nat × Nat × Int32 × Int32 × Nat) (f : xA → Prop) : Prop := (E.1 = 0 → ∀ S' w', rdC S0 S' n E.2.2.2.2 w' (cnt + 1) none (upd K cnt E.2.2.1) (upd V cnt E.2.2.2.1) → f S') ∧ (¬ E.1 = 0 → ∀ S' p' w', rdC S0 S' n p' w' cnt (some (E.1, E.2.1)) K V → f S')
section RC
variable {S0 S : xA} {n p w cnt : Nat} {K V : Nat → Int32}
theorem x_closeE (hn : n ≤ 160) (hc : cnt < 8) (kd vl : Int32) (h : rdC S0 S n p w cnt none K V) (f : xA → Prop) (k : clQ S0 n cnt K V (clE (S0 23) n p kd vl) f) : CV mX7_close [.ref (22 : Nat), .int kd, .int vl] S f := by
  refine x_close hn (by omega) kd vl h (fun _ => hc) f (fun _ q S' h' => ?_) (fun _ q S' p' h' => ?_) (fun y e => by cases e)
  · unfold clE at k
    rw [if_pos q] at k
    exact k.1 rfl S' w h'
  · unfold clE at k
    rw [if_neg q] at k
    exact k.2 Nat.one_ne_zero S' p' w h'
set_option maxHeartbeats 4000000 in
theorem x_need (hn : n ≤ 160) (hc : cnt ≤ 8) (h : rdC S0 S n p w cnt none K V) (f : xA → Prop) (k8 : 8 ≤ cnt → ∀ S' p' w', rdC S0 S' n p' w' cnt (some (5, w)) K V → f S') (k : cnt < 8 → clQ S0 n cnt K V (neE (S0 23) n p) f) : CV mX7_readNeed [.ref (22 : Nat)] S f := by
  have l1 := sk_le (b := S0 23) h.2.2.2.1
  have l2 := wd_le (b := S0 23) l1.2
  have k5 : (4 : Int32) = nI 4 := rfl
  refine cv_of (T := mX7_readNeed) (f := fun _ _ => True) (ls := [some (.ref (22 : Nat)), none, none, none, none]) rfl (Nat.le_of_ble_eq_true rfl) (by decide) rfl rfl rfl ?_
  refine ok2_to cX7_readNeed 7 60 34 (fun ls S' => ∃ g o', ls = [some (.ref (22 : Nat)), some (.int g), some (.int 0), some (.int 1), some (.int 0)] ∧ rdC S0 S' n (wd (S0 23) n (sk (S0 23) n p)) (sk (S0 23) n p) cnt o' K V ∧ ((8 ≤ cnt ∧ o' = some (5, w)) ∨ (cnt < 8 ∧ gdO (S0 23) (sk (S0 23) n p) (wd (S0 23) n (sk (S0 23) n p)) = none ∧ o' = some (1, sk (S0 23) n p)) ∨ (cnt < 8 ∧ ∃ gg, gdO (S0 23) (sk (S0 23) n p) (wd (S0 23) n (sk (S0 23) n p)) = some gg ∧ g = nI gg ∧ o' = none))) rfl rfl ?_ ?_
  · rintro ls S' ⟨g, o', hls, h', hcase⟩
    -- with a fault already: out
    have out : ∀ y, o' = some y → (∀ S' p' w', rdC S0 S' n p' w' cnt (some y) K V → f S') → Ok2 mX7_readNeed 34 ls [] S' (fun _ _ => True) f := by
      intro y hy kk
      subst hls
      subst hy
      refine ok2_0 cX7_readNeed 7 40 rfl rfl ?_
      simp only [sw3_c, sw3_n, Nat.reduceEqDiff, not_false_eq_true, Nat.zero_le, Nat.reduceLeDiff, Nat.reduceLT, Nat.reduceAdd, sg_s, ↓kif_0, ↓kif_c, ↓reduceIte, nl_n, nl_i, nl_r, List.length_cons, List.length_nil, true_and, and_true, upA_s, upA_n, upA_u, Prod.mk.injEq, and_self, Fr_22_5, Fr_22_8, oC_22, oL_22, (j_aload_n_0 dX7_readNeed_0 (n := 1) rfl), (j_cv0v (M := mX7_readNeed) dX7_readNeed_1 (n := 4) rfl cM_7_82 (Or.inl rfl) lv_X7_readNeed_X7_refuseNinth rfl (oc := 7) rfl), (j_aload_n_0 dX7_readNeed_4 (n := 5) rfl), (j_cv0v (M := mX7_readNeed) dX7_readNeed_5 (n := 8) rfl cM_7_53 (Or.inl rfl) lv_X7_readNeed_X7_takeWord rfl (oc := 7) rfl), (j_aload_n_0 dX7_readNeed_8 (n := 9) rfl), (j_cv0i (M := mX7_readNeed) dX7_readNeed_9 (n := 12) rfl cM_7_85 (Or.inl rfl) lv_X7_readNeed_X7_good rfl (oc := 7) rfl), (j_istore_n_1 dX7_readNeed_12 (n := 13) rfl), (j_iload_n_1 dX7_readNeed_13 (n := 14) rfl), (j_iconst dX7_readNeed_14 (n := 15) rfl ki_m1), (j_ic_ne dX7_readNeed_15 (n := 18) rfl br_15_12), (j_aload_n_0 dX7_readNeed_18 (n := 19) rfl), (j_iconst dX7_readNeed_19 (n := 20) rfl ki_1), (j_aload_n_0 dX7_readNeed_20 (n := 21) rfl), (j_getf dX7_readNeed_21 (n := 24) rfl cF_7_37), (j_cv2v (M := mX7_readNeed) dX7_readNeed_24 (n := 27) rfl cM_7_79 (Or.inl rfl) lv_X7_readNeed_X7_blame rfl (oc := 7) rfl), (j_iconst dX7_readNeed_27 (n := 28) rfl ki_0), (j_istore_n_2 dX7_readNeed_28 (n := 29) rfl), (j_iconst dX7_readNeed_29 (n := 30) rfl ki_1), (j_istore_n_3 dX7_readNeed_30 (n := 31) rfl), (j_iconst dX7_readNeed_31 (n := 32) rfl ki_0), (j_istore_4 dX7_readNeed_32 (n := 34) rfl), (j_iload_4 dX7_readNeed_34 (n := 36) rfl), (j_iconst dX7_readNeed_36 (n := 37) rfl ki_4), (j_ic_gt dX7_readNeed_37 (n := 40) rfl br_37_39), (j_iload_n_3 dX7_readNeed_40 (n := 41) rfl), (j_if_eq dX7_readNeed_41 (n := 44) rfl br_41_35), (j_aload_n_0 dX7_readNeed_44 (n := 45) rfl), (j_getf dX7_readNeed_45 (n := 48) rfl cF_7_28), (j_if_ne dX7_readNeed_48 (n := 51) rfl br_48_28), (j_iload_n_2 dX7_readNeed_51 (n := 52) rfl), (j_aload_n_0 dX7_readNeed_52 (n := 53) rfl), (j_iload_n_2 dX7_readNeed_53 (n := 54) rfl), (j_cv1i (M := mX7_readNeed) dX7_readNeed_54 (n := 57) rfl cM_7_89 (Or.inl rfl) lv_X7_readNeed_X7_readStamp rfl (oc := 7) rfl), (j_ior dX7_readNeed_57 (n := 58) rfl), (j_istore_n_2 dX7_readNeed_58 (n := 59) rfl), (j_aload_n_0 dX7_readNeed_59 (n := 60) rfl), (j_cv0v (M := mX7_readNeed) dX7_readNeed_60 (n := 63) rfl cM_7_50 (Or.inl rfl) lv_X7_readNeed_X7_skipBlanks rfl (oc := 7) rfl), (j_aload_n_0 dX7_readNeed_63 (n := 64) rfl), (j_bipush dX7_readNeed_64 (n := 66) rfl kb_44), (j_cv1i (M := mX7_readNeed) dX7_readNeed_66 (n := 69) rfl cM_7_93 (Or.inl rfl) lv_X7_readNeed_X7_takes rfl (oc := 7) rfl), (j_istore_n_3 dX7_readNeed_69 (n := 70) rfl), (j_iinc_4 dX7_readNeed_70 (n := 73) rfl ki_1), (j_goto dX7_readNeed_73 (n := 76) rfl br_73_m39), (j_aload_n_0 dX7_readNeed_76 (n := 77) rfl), (j_iload_n_1 dX7_readNeed_77 (n := 78) rfl), (j_iload_n_2 dX7_readNeed_78 (n := 79) rfl), (j_cv2v (M := mX7_readNeed) dX7_readNeed_79 (n := 82) rfl cM_7_97 (Or.inl rfl) lv_X7_readNeed_X7_close rfl (oc := 7) rfl), (j_ret (M := mX7_readNeed) dX7_readNeed_82 (n := 83) rfl rfl), nl_x, pk_us]
      obtain ⟨y1, y2⟩ := y
      have b := h'.2.2.2.2.2.2.1
      rw [if_neg (by decide), if_neg (by decide), if_neg (by rw [b.1]; exact nI_ne0 (by have := b.2.2.1; omega) (by have := b.2.2.2; omega))]
      exact x_close hn hc _ _ h' (fun e => by cases e) f (fun e => by cases e) (fun e => by cases e) (fun y e S' p' h2 => by cases e; exact kk S' p' _ h2)
    rcases hcase with ⟨h8, ho⟩ | ⟨h8, hg, ho⟩ | ⟨h8, gg, hg, hgg, ho⟩
    · exact out _ ho (k8 h8)
    · have kk := k h8
      unfold neE at kk
      rw [hg] at kk
      exact out _ ho (kk.2 Nat.one_ne_zero)
    · subst hls
      subst hgg
      subst ho
      have kk := k h8
      unfold neE at kk
      rw [hg] at kk
      simp only at kk
      generalize hR : smF (S0 23) n 5 (wd (S0 23) n (sk (S0 23) n p)) 0 = R at kk
      refine ok2_inv cX7_readNeed 7 60 34 (fun m ls S' => ∃ (i : Nat) (v : Int32) (gO : Bool) (p' w' : Nat) (o' : Option (Nat × Nat)), ls = [some (.ref (22 : Nat)), some (.int (nI gg)), some (.int v), some (.int (bI gO)), some (.int (nI i))] ∧ i ≤ 5 ∧ m = 6 - i ∧ rdC S0 S' n p' w' cnt o' K V ∧ ((∃ s, v = nI s ∧ s < 16 ∧ gO = true ∧ o' = none ∧ pc4 s = i ∧ smF (S0 23) n (5 - i) p' s = R) ∨ (gO = false ∧ o' = none ∧ R.1 = 0 ∧ v = nI R.2.2.1 ∧ R.2.2.2 = p') ∨ (o' = some (R.1, R.2.1) ∧ ¬ R.1 = 0))) rfl rfl ?_ 6 _ S' ⟨0, 0, true, _, _, none, rfl, by omega, rfl, h', Or.inl ⟨0, rfl, by omega, rfl, rfl, rfl, hR⟩⟩
      rintro m _ S1 ⟨i, v, gO, p', w', o', rfl, hi, rfl, h1, hcase⟩ X hX
      simp only [sw3_c, sw3_n, Nat.reduceEqDiff, not_false_eq_true, Nat.zero_le, Nat.reduceLeDiff, Nat.reduceLT, Nat.reduceAdd, sg_s, ↓kif_0, ↓kif_c, ↓reduceIte, nl_n, nl_i, nl_r, List.length_cons, List.length_nil, true_and, and_true, upA_s, upA_n, upA_u, Prod.mk.injEq, and_self, Fr_22_5, Fr_22_8, oC_22, oL_22, (j_aload_n_0 dX7_readNeed_0 (n := 1) rfl), (j_cv0v (M := mX7_readNeed) dX7_readNeed_1 (n := 4) rfl cM_7_82 (Or.inl rfl) lv_X7_readNeed_X7_refuseNinth rfl (oc := 7) rfl), (j_aload_n_0 dX7_readNeed_4 (n := 5) rfl), (j_cv0v (M := mX7_readNeed) dX7_readNeed_5 (n := 8) rfl cM_7_53 (Or.inl rfl) lv_X7_readNeed_X7_takeWord rfl (oc := 7) rfl), (j_aload_n_0 dX7_readNeed_8 (n := 9) rfl), (j_cv0i (M := mX7_readNeed) dX7_readNeed_9 (n := 12) rfl cM_7_85 (Or.inl rfl) lv_X7_readNeed_X7_good rfl (oc := 7) rfl), (j_istore_n_1 dX7_readNeed_12 (n := 13) rfl), (j_iload_n_1 dX7_readNeed_13 (n := 14) rfl), (j_iconst dX7_readNeed_14 (n := 15) rfl ki_m1), (j_ic_ne dX7_readNeed_15 (n := 18) rfl br_15_12), (j_aload_n_0 dX7_readNeed_18 (n := 19) rfl), (j_iconst dX7_readNeed_19 (n := 20) rfl ki_1), (j_aload_n_0 dX7_readNeed_20 (n := 21) rfl), (j_getf dX7_readNeed_21 (n := 24) rfl cF_7_37), (j_cv2v (M := mX7_readNeed) dX7_readNeed_24 (n := 27) rfl cM_7_79 (Or.inl rfl) lv_X7_readNeed_X7_blame rfl (oc := 7) rfl), (j_iconst dX7_readNeed_27 (n := 28) rfl ki_0), (j_istore_n_2 dX7_readNeed_28 (n := 29) rfl), (j_iconst dX7_readNeed_29 (n := 30) rfl ki_1), (j_istore_n_3 dX7_readNeed_30 (n := 31) rfl), (j_iconst dX7_readNeed_31 (n := 32) rfl ki_0), (j_istore_4 dX7_readNeed_32 (n := 34) rfl), (j_iload_4 dX7_readNeed_34 (n := 36) rfl), (j_iconst dX7_readNeed_36 (n := 37) rfl ki_4), (j_ic_gt dX7_readNeed_37 (n := 40) rfl br_37_39), (j_iload_n_3 dX7_readNeed_40 (n := 41) rfl), (j_if_eq dX7_readNeed_41 (n := 44) rfl br_41_35), (j_aload_n_0 dX7_readNeed_44 (n := 45) rfl), (j_getf dX7_readNeed_45 (n := 48) rfl cF_7_28), (j_if_ne dX7_readNeed_48 (n := 51) rfl br_48_28), (j_iload_n_2 dX7_readNeed_51 (n := 52) rfl), (j_aload_n_0 dX7_readNeed_52 (n := 53) rfl), (j_iload_n_2 dX7_readNeed_53 (n := 54) rfl), (j_cv1i (M := mX7_readNeed) dX7_readNeed_54 (n := 57) rfl cM_7_89 (Or.inl rfl) lv_X7_readNeed_X7_readStamp rfl (oc := 7) rfl), (j_ior dX7_readNeed_57 (n := 58) rfl), (j_istore_n_2 dX7_readNeed_58 (n := 59) rfl), (j_aload_n_0 dX7_readNeed_59 (n := 60) rfl), (j_cv0v (M := mX7_readNeed) dX7_readNeed_60 (n := 63) rfl cM_7_50 (Or.inl rfl) lv_X7_readNeed_X7_skipBlanks rfl (oc := 7) rfl), (j_aload_n_0 dX7_readNeed_63 (n := 64) rfl), (j_bipush dX7_readNeed_64 (n := 66) rfl kb_44), (j_cv1i (M := mX7_readNeed) dX7_readNeed_66 (n := 69) rfl cM_7_93 (Or.inl rfl) lv_X7_readNeed_X7_takes rfl (oc := 7) rfl), (j_istore_n_3 dX7_readNeed_69 (n := 70) rfl), (j_iinc_4 dX7_readNeed_70 (n := 73) rfl ki_1), (j_goto dX7_readNeed_73 (n := 76) rfl br_73_m39), (j_aload_n_0 dX7_readNeed_76 (n := 77) rfl), (j_iload_n_1 dX7_readNeed_77 (n := 78) rfl), (j_iload_n_2 dX7_readNeed_78 (n := 79) rfl), (j_cv2v (M := mX7_readNeed) dX7_readNeed_79 (n := 82) rfl cM_7_97 (Or.inl rfl) lv_X7_readNeed_X7_close rfl (oc := 7) rfl), (j_ret (M := mX7_readNeed) dX7_readNeed_82 (n := 83) rfl rfl), nl_x, pk_us]
      have e4 : ((4 : Int32) < nI i) = (4 < i) := by rw [k5, nI_ltN (a := 4) (b := i) (by omega) (by omega)]
      simp only [e4, nI_1]
      have fin : (gO = false ∧ o' = none ∧ R.1 = 0 ∧ v = nI R.2.2.1 ∧ R.2.2.2 = p') ∨ (o' = some (R.1, R.2.1) ∧ ¬ R.1 = 0) → CV mX7_close [.ref (22 : Nat), .int (nI gg), .int v] S1 f := by
        rintro (⟨-, rfl, r1, rfl, r2⟩ | ⟨rfl, r1⟩)
        · rw [if_pos r1, r2] at kk
          exact x_closeE hn h8 _ _ h1 f kk
        · rw [if_neg r1] at kk
          exact x_close hn hc _ _ h1 (fun e => by cases e) f (fun e => by cases e) (fun e => by cases e) (fun y e S' p' h2 => by cases e; exact kk.2 r1 S' p' _ h2)
      rcases hcase with ⟨s, rfl, hs, rfl, rfl, hpc, hsm⟩ | hB | hC
      · have A4 := (st_all s hs 0 (by omega)).2.2.2
        rw [if_neg (by omega), if_neg (by decide), if_pos h1.2.2.2.2.2.2.1.1]
        rw [show 5 - i = (5 - (i + 1)) + 1 by omega, smF] at hsm
        refine x_stamp hn s hs h1 _ (fun hc' S2 h2 => ?_) (fun c hc' hb S2 h2 => ?_) (fun c hc' hb S2 h2 => ?_)
        · rw [hc'] at hsm
          refine x_skip hn h2 _ (fun S3 h3 => x_takes hn 44 h3 _ (fun _ S4 h4 => ?_) (fun _ => ?_))
          · exact hX (6 - (i + 1)) _ _ (by omega) ⟨i + 1, _, true, _, _, _, rfl, by omega, rfl, h4, Or.inr (Or.inr (by rw [← hsm]; exact ⟨rfl, Nat.one_ne_zero⟩))⟩
          · exact hX (6 - (i + 1)) _ _ (by omega) ⟨i + 1, _, false, _, _, _, rfl, by omega, rfl, h3, Or.inr (Or.inr (by rw [← hsm]; exact ⟨rfl, Nat.one_ne_zero⟩))⟩
        · rw [hc'] at hsm
          simp only at hsm
          rw [if_pos hb] at hsm
          refine x_skip hn h2 _ (fun S3 h3 => x_takes hn 44 h3 _ (fun _ S4 h4 => ?_) (fun _ => ?_))
          · exact hX (6 - (i + 1)) _ _ (by omega) ⟨i + 1, _, true, _, _, _, rfl, by omega, rfl, h4, Or.inr (Or.inr (by rw [← hsm]; exact ⟨rfl, (show ¬ (4 : Nat) = 0 by decide)⟩))⟩
          · exact hX (6 - (i + 1)) _ _ (by omega) ⟨i + 1, _, false, _, _, _, rfl, by omega, rfl, h3, Or.inr (Or.inr (by rw [← hsm]; exact ⟨rfl, (show ¬ (4 : Nat) = 0 by decide)⟩))⟩
        · rw [hc'] at hsm
          simp only at hsm
          rw [if_neg hb] at hsm
          have B := (st_all s hs c (cmO_lt hc')).2.2.1 (by omega)
          rw [B.1]
          refine x_skip hn h2 _ (fun S3 h3 => x_takes hn 44 h3 _ (fun q S4 h4 => ?_) (fun q => ?_))
          · rw [if_pos q] at hsm
            exact hX (6 - (i + 1)) _ _ (by omega) ⟨i + 1, _, true, _, _, _, rfl, by omega, rfl, h4, Or.inl ⟨s + 2 ^ c, rfl, B.2.1, rfl, rfl, by omega, hsm⟩⟩
          · rw [if_neg q] at hsm
            exact hX (6 - (i + 1)) _ _ (by omega) ⟨i + 1, _, false, _, _, _, rfl, by omega, rfl, h3, Or.inr (Or.inl (by rw [← hsm]; exact ⟨rfl, rfl, rfl, rfl, rfl⟩))⟩
      · refine ite_i (fun _ => fin (Or.inl hB)) (fun _ => ?_)
        rw [hB.1, if_pos (show bI false = 0 from rfl)]
        exact fin (Or.inl hB)
      · refine ite_i (fun _ => fin (Or.inr hC)) (fun _ => ite_i (fun _ => fin (Or.inr hC)) (fun _ => ?_))
        have b := h1.2.2.2.2.2.2.1
        rw [hC.1] at b
        rw [if_neg (by rw [b.1]; exact nI_ne0 (by have := b.2.2.1; omega) (by have := b.2.2.2; omega))]
        exact fin (Or.inr hC)
  · intro X hX
    simp only [sw3_c, sw3_n, Nat.reduceEqDiff, not_false_eq_true, Nat.zero_le, Nat.reduceLeDiff, Nat.reduceLT, Nat.reduceAdd, sg_s, ↓kif_0, ↓kif_c, ↓reduceIte, nl_n, nl_i, nl_r, List.length_cons, List.length_nil, true_and, and_true, upA_s, upA_n, upA_u, Prod.mk.injEq, and_self, Fr_22_5, Fr_22_8, oC_22, oL_22, (j_aload_n_0 dX7_readNeed_0 (n := 1) rfl), (j_cv0v (M := mX7_readNeed) dX7_readNeed_1 (n := 4) rfl cM_7_82 (Or.inl rfl) lv_X7_readNeed_X7_refuseNinth rfl (oc := 7) rfl), (j_aload_n_0 dX7_readNeed_4 (n := 5) rfl), (j_cv0v (M := mX7_readNeed) dX7_readNeed_5 (n := 8) rfl cM_7_53 (Or.inl rfl) lv_X7_readNeed_X7_takeWord rfl (oc := 7) rfl), (j_aload_n_0 dX7_readNeed_8 (n := 9) rfl), (j_cv0i (M := mX7_readNeed) dX7_readNeed_9 (n := 12) rfl cM_7_85 (Or.inl rfl) lv_X7_readNeed_X7_good rfl (oc := 7) rfl), (j_istore_n_1 dX7_readNeed_12 (n := 13) rfl), (j_iload_n_1 dX7_readNeed_13 (n := 14) rfl), (j_iconst dX7_readNeed_14 (n := 15) rfl ki_m1), (j_ic_ne dX7_readNeed_15 (n := 18) rfl br_15_12), (j_aload_n_0 dX7_readNeed_18 (n := 19) rfl), (j_iconst dX7_readNeed_19 (n := 20) rfl ki_1), (j_aload_n_0 dX7_readNeed_20 (n := 21) rfl), (j_getf dX7_readNeed_21 (n := 24) rfl cF_7_37), (j_cv2v (M := mX7_readNeed) dX7_readNeed_24 (n := 27) rfl cM_7_79 (Or.inl rfl) lv_X7_readNeed_X7_blame rfl (oc := 7) rfl), (j_iconst dX7_readNeed_27 (n := 28) rfl ki_0), (j_istore_n_2 dX7_readNeed_28 (n := 29) rfl), (j_iconst dX7_readNeed_29 (n := 30) rfl ki_1), (j_istore_n_3 dX7_readNeed_30 (n := 31) rfl), (j_iconst dX7_readNeed_31 (n := 32) rfl ki_0), (j_istore_4 dX7_readNeed_32 (n := 34) rfl), (j_iload_4 dX7_readNeed_34 (n := 36) rfl), (j_iconst dX7_readNeed_36 (n := 37) rfl ki_4), (j_ic_gt dX7_readNeed_37 (n := 40) rfl br_37_39), (j_iload_n_3 dX7_readNeed_40 (n := 41) rfl), (j_if_eq dX7_readNeed_41 (n := 44) rfl br_41_35), (j_aload_n_0 dX7_readNeed_44 (n := 45) rfl), (j_getf dX7_readNeed_45 (n := 48) rfl cF_7_28), (j_if_ne dX7_readNeed_48 (n := 51) rfl br_48_28), (j_iload_n_2 dX7_readNeed_51 (n := 52) rfl), (j_aload_n_0 dX7_readNeed_52 (n := 53) rfl), (j_iload_n_2 dX7_readNeed_53 (n := 54) rfl), (j_cv1i (M := mX7_readNeed) dX7_readNeed_54 (n := 57) rfl cM_7_89 (Or.inl rfl) lv_X7_readNeed_X7_readStamp rfl (oc := 7) rfl), (j_ior dX7_readNeed_57 (n := 58) rfl), (j_istore_n_2 dX7_readNeed_58 (n := 59) rfl), (j_aload_n_0 dX7_readNeed_59 (n := 60) rfl), (j_cv0v (M := mX7_readNeed) dX7_readNeed_60 (n := 63) rfl cM_7_50 (Or.inl rfl) lv_X7_readNeed_X7_skipBlanks rfl (oc := 7) rfl), (j_aload_n_0 dX7_readNeed_63 (n := 64) rfl), (j_bipush dX7_readNeed_64 (n := 66) rfl kb_44), (j_cv1i (M := mX7_readNeed) dX7_readNeed_66 (n := 69) rfl cM_7_93 (Or.inl rfl) lv_X7_readNeed_X7_takes rfl (oc := 7) rfl), (j_istore_n_3 dX7_readNeed_69 (n := 70) rfl), (j_iinc_4 dX7_readNeed_70 (n := 73) rfl ki_1), (j_goto dX7_readNeed_73 (n := 76) rfl br_73_m39), (j_aload_n_0 dX7_readNeed_76 (n := 77) rfl), (j_iload_n_1 dX7_readNeed_77 (n := 78) rfl), (j_iload_n_2 dX7_readNeed_78 (n := 79) rfl), (j_cv2v (M := mX7_readNeed) dX7_readNeed_79 (n := 82) rfl cM_7_97 (Or.inl rfl) lv_X7_readNeed_X7_close rfl (oc := 7) rfl), (j_ret (M := mX7_readNeed) dX7_readNeed_82 (n := 83) rfl rfl), nl_x, pk_us]
    refine x_ninth hc h _ (fun S1 h1 => x_tword hn h1 _ (fun S2 h2 => ?_))
    refine c_good7 S2 _ (sk (S0 23) n p) (wd (S0 23) n (sk (S0 23) n p)) n h2.2.2.2.2.1 h2.2.2.1 l2.1 l2.2 hn ?_
    rw [rdC_23 h2, h2.2.2.2.2.1]
    cases hg : gdO (S0 23) (sk (S0 23) n p) (wd (S0 23) n (sk (S0 23) n p)) with
    | none =>
      rw [oN_n, if_pos rfl]
      refine x_blame 1 _ (by omega) h2 _ (fun S3 h3 => hX _ _ ⟨_, _, rfl, h3, ?_⟩)
      by_cases h8 : 8 ≤ cnt
      · rw [if_pos h8]; exact Or.inl ⟨h8, rfl⟩
      · rw [if_neg h8]; exact Or.inr (Or.inl ⟨by omega, hg, rfl⟩)
    | some gg =>
      have g3 := gdO_lt hg
      rw [oN_s, if_neg (by rw [eq_I, toInt_nI (by omega), ti_m1]; omega)]
      refine hX _ _ ⟨_, _, rfl, h2, ?_⟩
      by_cases h8 : 8 ≤ cnt
      · rw [if_pos h8]; exact Or.inl ⟨h8, rfl⟩
      · rw [if_neg h8]; exact Or.inr (Or.inr ⟨by omega, gg, hg, rfl, rfl⟩)
end RC
