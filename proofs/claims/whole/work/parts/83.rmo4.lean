-- reading: the reference's need and clause
theorem hrV_eq {b : Nat → Int32} {n q : Nat} {c : Int32} (hc : ¬ c = -1) : (hrV b n q = c) = (q < n ∧ b q = c) := by
  apply propext
  unfold hrV
  by_cases z : q < n
  · rw [if_pos z]; exact ⟨fun w => ⟨z, w⟩, fun w => w.2⟩
  · rw [if_neg z]; exact ⟨fun w => absurd w.symm hc, fun w => absurd w.1 z⟩
theorem st_0 : ∀ s, s < 16 → ∀ c, c < 4 → ((nI s >>> (nI c &&& 31) &&& 1 = 0) ↔ s / 2 ^ c % 2 = 0) := by decide
section RM
variable {R0 R : xA} {n p fr lt : Nat} {o : Option (Nat × Nat)} {KD F1 F2 : Nat → Int32}
theorem rdM_r (c : Nat) (r : Nat → Int32) (hc : c = 90 ∨ c = 91 ∨ c = 92) (h : rdM R0 R n p fr lt o KD F1 F2) : rdM R0 (upA R c r) n p fr lt o (if c = 90 then r else KD) (if c = 91 then r else F1) (if c = 92 then r else F2) := by
  obtain ⟨a1, a2, a3, a4, a5, a6, a7, a8, a9, a10, a11⟩ := h
  have e70 : upA R c r 70 = R 70 := upA_n _ _ (by omega)
  refine ⟨fun q hq => ?_, ?_, ?_, ?_, a5, ?_, ?_, fltM_c a8 (by rw [e70]) (by rw [e70]), ?_, ?_, ?_⟩
  · rw [upA_n _ _ (fun e => hq (by rw [e]; rcases hc with w | w | w <;> rw [w] <;> decide))]; exact a1 q hq
  · rw [e70]; exact a2
  · rw [e70]; exact a3
  · rw [e70]; exact a4
  · rw [e70]; exact a6
  · rw [e70]; exact a7
  · rcases hc with w | w | w <;> subst w
    · rw [upA_s]; rfl
    · rw [upA_n _ _ (by decide)]; exact a9
    · rw [upA_n _ _ (by decide)]; exact a9
  · rcases hc with w | w | w <;> subst w
    · rw [upA_n _ _ (by decide)]; exact a10
    · rw [upA_s]; rfl
    · rw [upA_n _ _ (by decide)]; exact a10
  · rcases hc with w | w | w <;> subst w
    · rw [upA_n _ _ (by decide)]; exact a11
    · rw [upA_n _ _ (by decide)]; exact a11
    · rw [upA_s]; rfl
set_option maxRecDepth 10000 in
set_option maxHeartbeats 8000000 in
theorem y_need (hn : n ≤ 160) (ix : Nat) (hx : ix < 64) (h : rdM R0 R n p fr lt none KD F1 F2) (f : xA → Prop)
    (k1 : ∀ o', ((gdO (R0 93) (sk (R0 93) n p) (wd (R0 93) n (sk (R0 93) n p)) = none ∧ o' = some (1, sk (R0 93) n p)) ∨ (∃ gg, gdO (R0 93) (sk (R0 93) n p) (wd (R0 93) n (sk (R0 93) n p)) = some gg ∧ ¬ (smF (R0 93) n 5 (wd (R0 93) n (sk (R0 93) n p)) 0).1 = 0 ∧ o' = some ((smF (R0 93) n 5 (wd (R0 93) n (sk (R0 93) n p)) 0).1, (smF (R0 93) n 5 (wd (R0 93) n (sk (R0 93) n p)) 0).2.1))) → ∀ R' p' fr' lt' x y, rdM R0 R' n p' fr' lt' o' KD (upd F1 ix x) (upd F2 ix y) → f R')
    (k2 : ∀ gg, gdO (R0 93) (sk (R0 93) n p) (wd (R0 93) n (sk (R0 93) n p)) = some gg → (smF (R0 93) n 5 (wd (R0 93) n (sk (R0 93) n p)) 0).1 = 0 → ∀ R' fr' lt', rdM R0 R' n (smF (R0 93) n 5 (wd (R0 93) n (sk (R0 93) n p)) 0).2.2.2 fr' lt' none KD (upd F1 ix (nI gg)) (upd F2 ix (nI (smF (R0 93) n 5 (wd (R0 93) n (sk (R0 93) n p)) 0).2.2.1)) → f R') : CV mX10_readNeed [.ref (70 : Nat), .int (nI ix)] R f := by
  have l1 := sk_le (b := R0 93) h.2.2.2.2.1
  have l2 := wd_le (b := R0 93) l1.2
  have hv : vp_in (nI ix) 64 := vp_in_nI (by omega) (by omega)
  generalize hR : smF (R0 93) n 5 (wd (R0 93) n (sk (R0 93) n p)) 0 = Q at k1 k2
  refine cv_of (T := mX10_readNeed) (f := fun _ _ => True) (ls := [some (.ref (70 : Nat)), some (.int (nI ix)), none, none, none]) rfl (Nat.le_of_ble_eq_true rfl) (by decide) rfl rfl rfl ?_
  refine ok2_to cX10_readNeed 10 60 40 (fun ls R' => ∃ (mo : Bool) (g : Int32) (o' : Option (Nat × Nat)) (fr' lt' : Nat), ls = [some (.ref (70 : Nat)), some (.int (nI ix)), some (.int (bI mo)), some (.int 0), none] ∧ rdM R0 R' n (wd (R0 93) n (sk (R0 93) n p)) fr' lt' o' KD (upd F1 ix g) F2 ∧ ((mo = false ∧ gdO (R0 93) (sk (R0 93) n p) (wd (R0 93) n (sk (R0 93) n p)) = none ∧ o' = some (1, sk (R0 93) n p)) ∨ (mo = true ∧ ∃ gg, gdO (R0 93) (sk (R0 93) n p) (wd (R0 93) n (sk (R0 93) n p)) = some gg ∧ g = nI gg ∧ o' = none))) rfl rfl ?_ ?_
  · rintro ls R1 ⟨mo, g, o', fr1, lt1, hls, h1, hcase⟩
    rcases hcase with ⟨hmo, hg, ho⟩ | ⟨hmo, gg, hg, hgg, ho⟩
    · subst hls
      subst hmo
      refine ok2_0 cX10_readNeed 10 20 rfl rfl ?_
      simp only [sw3_c, sw3_n, Nat.reduceEqDiff, not_false_eq_true, Nat.zero_le, Nat.reduceLeDiff, Nat.reduceLT, Nat.reduceAdd, sg_s, ↓kif_0, ↓kif_c, ↓reduceIte, nl_n, nl_i, nl_r, List.length_cons, List.length_nil, true_and, and_true, upA_s, upA_n, upA_u, Prod.mk.injEq, and_self, Fr_70_25, Fr_70_26, Fr_70_29, Fr_70_30, Fr_70_32, Ld_91, Ld_92, oA_91, oA_92, oC_70, oI_70_29, oL_70, (j_aload_n_0 dX10_readNeed_0 (n := 1) rfl), (j_cv0v (M := mX10_readNeed) dX10_readNeed_1 (n := 4) rfl cM_10_262 (Or.inl rfl) lv_X10_readNeed_X10_takeWord rfl (oc := 10) rfl), (j_aload_n_0 dX10_readNeed_4 (n := 5) rfl), (j_getf dX10_readNeed_5 (n := 8) rfl cF_10_74), (j_iload_n_1 dX10_readNeed_8 (n := 9) rfl), (j_aload_n_0 dX10_readNeed_9 (n := 10) rfl), (j_cv0i (M := mX10_readNeed) dX10_readNeed_10 (n := 13) rfl cM_10_265 (Or.inl rfl) lv_X10_readNeed_X10_goodOf rfl (oc := 10) rfl), (j_iast dX10_readNeed_13 (n := 14) rfl), (j_aload_n_0 dX10_readNeed_14 (n := 15) rfl), (j_aload_n_0 dX10_readNeed_15 (n := 16) rfl), (j_getf dX10_readNeed_16 (n := 19) rfl cF_10_74), (j_iload_n_1 dX10_readNeed_19 (n := 20) rfl), (j_iald dX10_readNeed_20 (n := 21) rfl), (j_if_lt dX10_readNeed_21 (n := 24) rfl br_21_7), (j_iconst dX10_readNeed_24 (n := 25) rfl ki_1), (j_goto dX10_readNeed_25 (n := 28) rfl br_25_4), (j_iconst dX10_readNeed_28 (n := 29) rfl ki_0), (j_iconst dX10_readNeed_29 (n := 30) rfl ki_1), (j_aload_n_0 dX10_readNeed_30 (n := 31) rfl), (j_getf dX10_readNeed_31 (n := 34) rfl cF_10_240), (j_cv3i (M := mX10_readNeed) dX10_readNeed_34 (n := 37) rfl cM_10_254 (Or.inl rfl) lv_X10_readNeed_X10_want rfl (oc := 10) rfl), (j_istore_n_2 dX10_readNeed_37 (n := 38) rfl), (j_iconst dX10_readNeed_38 (n := 39) rfl ki_0), (j_istore_n_3 dX10_readNeed_39 (n := 40) rfl), (j_iload_n_2 dX10_readNeed_40 (n := 41) rfl), (j_if_eq dX10_readNeed_41 (n := 44) rfl br_41_106), (j_aload_n_0 dX10_readNeed_44 (n := 45) rfl), (j_getf dX10_readNeed_45 (n := 48) rfl cF_10_233), (j_if_ne dX10_readNeed_48 (n := 51) rfl br_48_99), (j_aload_n_0 dX10_readNeed_51 (n := 52) rfl), (j_cv0v (M := mX10_readNeed) dX10_readNeed_52 (n := 55) rfl cM_10_262 (Or.inl rfl) lv_X10_readNeed_X10_takeWord rfl (oc := 10) rfl), (j_aload_n_0 dX10_readNeed_55 (n := 56) rfl), (j_cv0i (M := mX10_readNeed) dX10_readNeed_56 (n := 59) rfl cM_10_268 (Or.inl rfl) lv_X10_readNeed_X10_stampOf rfl (oc := 10) rfl), (j_istore_4 dX10_readNeed_59 (n := 61) rfl), (j_aload_n_0 dX10_readNeed_61 (n := 62) rfl), (j_iload_4 dX10_readNeed_62 (n := 64) rfl), (j_if_lt dX10_readNeed_64 (n := 67) rfl br_64_7), (j_iconst dX10_readNeed_67 (n := 68) rfl ki_1), (j_goto dX10_readNeed_68 (n := 71) rfl br_68_4), (j_iconst dX10_readNeed_71 (n := 72) rfl ki_0), (j_iconst dX10_readNeed_72 (n := 73) rfl ki_1), (j_aload_n_0 dX10_readNeed_73 (n := 74) rfl), (j_getf dX10_readNeed_74 (n := 77) rfl cF_10_240), (j_cv3i (M := mX10_readNeed) dX10_readNeed_77 (n := 80) rfl cM_10_254 (Or.inl rfl) lv_X10_readNeed_X10_want rfl (oc := 10) rfl), (j_if_eq dX10_readNeed_80 (n := 83) rfl br_80_64), (j_aload_n_0 dX10_readNeed_83 (n := 84) rfl), (j_iload_n_3 dX10_readNeed_84 (n := 85) rfl), (j_iload_4 dX10_readNeed_85 (n := 87) rfl), (j_ishr dX10_readNeed_87 (n := 88) rfl), (j_iconst dX10_readNeed_88 (n := 89) rfl ki_1), (j_iand dX10_readNeed_89 (n := 90) rfl), (j_if_ne dX10_readNeed_90 (n := 93) rfl br_90_7), (j_iconst dX10_readNeed_93 (n := 94) rfl ki_1), (j_goto dX10_readNeed_94 (n := 97) rfl br_94_4), (j_iconst dX10_readNeed_97 (n := 98) rfl ki_0), (j_iconst dX10_readNeed_98 (n := 99) rfl ki_4), (j_aload_n_0 dX10_readNeed_99 (n := 100) rfl), (j_getf dX10_readNeed_100 (n := 103) rfl cF_10_240), (j_cv3i (M := mX10_readNeed) dX10_readNeed_103 (n := 106) rfl cM_10_254 (Or.inl rfl) lv_X10_readNeed_X10_want rfl (oc := 10) rfl), (j_if_eq dX10_readNeed_106 (n := 109) rfl br_106_38), (j_iload_n_3 dX10_readNeed_109 (n := 110) rfl), (j_iconst dX10_readNeed_110 (n := 111) rfl ki_1), (j_iload_4 dX10_readNeed_111 (n := 113) rfl), (j_ishl dX10_readNeed_113 (n := 114) rfl), (j_ior dX10_readNeed_114 (n := 115) rfl), (j_istore_n_3 dX10_readNeed_115 (n := 116) rfl), (j_aload_n_0 dX10_readNeed_116 (n := 117) rfl), (j_cv0i (M := mX10_readNeed) dX10_readNeed_117 (n := 120) rfl cM_10_236 (Or.inl rfl) lv_X10_readNeed_X10_here rfl (oc := 10) rfl), (j_bipush dX10_readNeed_120 (n := 122) rfl kb_44), (j_ic_ne dX10_readNeed_122 (n := 125) rfl br_122_7), (j_iconst dX10_readNeed_125 (n := 126) rfl ki_1), (j_goto dX10_readNeed_126 (n := 129) rfl br_126_4), (j_iconst dX10_readNeed_129 (n := 130) rfl ki_0), (j_istore_n_2 dX10_readNeed_130 (n := 131) rfl), (j_aload_n_0 dX10_readNeed_131 (n := 132) rfl), (j_dup_i dX10_readNeed_132 (n := 133) rfl), (j_dup_r dX10_readNeed_132 (n := 133) rfl), (j_getf dX10_readNeed_133 (n := 136) rfl cF_10_230), (j_iload_n_2 dX10_readNeed_136 (n := 137) rfl), (j_cs1i (M := mX10_readNeed) dX10_readNeed_137 (n := 140) rfl cM_10_210 (Or.inl rfl) (o := 10) rfl lv_X10_readNeed_X10_one rfl), (j_iadd dX10_readNeed_140 (n := 141) rfl), (j_putf dX10_readNeed_141 (n := 144) rfl cF_10_230), (j_goto dX10_readNeed_144 (n := 147) rfl br_144_m104), (j_aload_n_0 dX10_readNeed_147 (n := 148) rfl), (j_getf dX10_readNeed_148 (n := 151) rfl cF_10_77), (j_iload_n_1 dX10_readNeed_151 (n := 152) rfl), (j_iload_n_3 dX10_readNeed_152 (n := 153) rfl), (j_iast dX10_readNeed_153 (n := 154) rfl), (j_ret (M := mX10_readNeed) dX10_readNeed_154 (n := 155) rfl rfl), nl_x, pk_us]
      rw [if_pos (show bI false = 0 from rfl), nI_clamp (n := ix) (by omega)]
      refine ⟨hv, k1 o' (Or.inl ⟨hg, ho⟩) _ (wd (R0 93) n (sk (R0 93) n p)) fr1 lt1 g 0 ?_⟩
      have := rdM_r 92 (upd (R1 92) ix 0) (Or.inr (Or.inr rfl)) h1
      rw [h1.2.2.2.2.2.2.2.2.2.2] at this ⊢
      exact this
    · subst hmo
      subst ho
      refine ok2_inv cX10_readNeed 10 90 40 (fun m ls R' => ∃ (i : Nat) (v : Int32) (mo : Bool) (p' fr' lt' : Nat) (o' : Option (Nat × Nat)) (x : Option Int32), ls = [some (.ref (70 : Nat)), some (.int (nI ix)), some (.int (bI mo)), some (.int v), lx x] ∧ i ≤ 5 ∧ m = 6 - i ∧ rdM R0 R' n p' fr' lt' o' KD (upd F1 ix g) F2 ∧ ((∃ s, v = nI s ∧ s < 16 ∧ mo = true ∧ o' = none ∧ pc4 s = i ∧ smF (R0 93) n (5 - i) p' s = Q) ∨ (mo = false ∧ o' = none ∧ Q.1 = 0 ∧ v = nI Q.2.2.1 ∧ Q.2.2.2 = p') ∨ (o' = some (Q.1, Q.2.1) ∧ ¬ Q.1 = 0))) rfl rfl ?_ 6 ls R1 ⟨0, 0, true, _, _, _, none, none, hls, by omega, rfl, h1, Or.inl ⟨0, rfl, by omega, rfl, rfl, rfl, hR⟩⟩
      rintro m _ R2 ⟨i, v, mo, p', fr', lt', o', x, rfl, hi, rfl, h2, hcase⟩ X hX
      simp only [sw3_c, sw3_n, Nat.reduceEqDiff, not_false_eq_true, Nat.zero_le, Nat.reduceLeDiff, Nat.reduceLT, Nat.reduceAdd, sg_s, ↓kif_0, ↓kif_c, ↓reduceIte, nl_n, nl_i, nl_r, List.length_cons, List.length_nil, true_and, and_true, upA_s, upA_n, upA_u, Prod.mk.injEq, and_self, Fr_70_25, Fr_70_26, Fr_70_29, Fr_70_30, Fr_70_32, Ld_91, Ld_92, oA_91, oA_92, oC_70, oI_70_29, oL_70, (j_aload_n_0 dX10_readNeed_0 (n := 1) rfl), (j_cv0v (M := mX10_readNeed) dX10_readNeed_1 (n := 4) rfl cM_10_262 (Or.inl rfl) lv_X10_readNeed_X10_takeWord rfl (oc := 10) rfl), (j_aload_n_0 dX10_readNeed_4 (n := 5) rfl), (j_getf dX10_readNeed_5 (n := 8) rfl cF_10_74), (j_iload_n_1 dX10_readNeed_8 (n := 9) rfl), (j_aload_n_0 dX10_readNeed_9 (n := 10) rfl), (j_cv0i (M := mX10_readNeed) dX10_readNeed_10 (n := 13) rfl cM_10_265 (Or.inl rfl) lv_X10_readNeed_X10_goodOf rfl (oc := 10) rfl), (j_iast dX10_readNeed_13 (n := 14) rfl), (j_aload_n_0 dX10_readNeed_14 (n := 15) rfl), (j_aload_n_0 dX10_readNeed_15 (n := 16) rfl), (j_getf dX10_readNeed_16 (n := 19) rfl cF_10_74), (j_iload_n_1 dX10_readNeed_19 (n := 20) rfl), (j_iald dX10_readNeed_20 (n := 21) rfl), (j_if_lt dX10_readNeed_21 (n := 24) rfl br_21_7), (j_iconst dX10_readNeed_24 (n := 25) rfl ki_1), (j_goto dX10_readNeed_25 (n := 28) rfl br_25_4), (j_iconst dX10_readNeed_28 (n := 29) rfl ki_0), (j_iconst dX10_readNeed_29 (n := 30) rfl ki_1), (j_aload_n_0 dX10_readNeed_30 (n := 31) rfl), (j_getf dX10_readNeed_31 (n := 34) rfl cF_10_240), (j_cv3i (M := mX10_readNeed) dX10_readNeed_34 (n := 37) rfl cM_10_254 (Or.inl rfl) lv_X10_readNeed_X10_want rfl (oc := 10) rfl), (j_istore_n_2 dX10_readNeed_37 (n := 38) rfl), (j_iconst dX10_readNeed_38 (n := 39) rfl ki_0), (j_istore_n_3 dX10_readNeed_39 (n := 40) rfl), (j_iload_n_2 dX10_readNeed_40 (n := 41) rfl), (j_if_eq dX10_readNeed_41 (n := 44) rfl br_41_106), (j_aload_n_0 dX10_readNeed_44 (n := 45) rfl), (j_getf dX10_readNeed_45 (n := 48) rfl cF_10_233), (j_if_ne dX10_readNeed_48 (n := 51) rfl br_48_99), (j_aload_n_0 dX10_readNeed_51 (n := 52) rfl), (j_cv0v (M := mX10_readNeed) dX10_readNeed_52 (n := 55) rfl cM_10_262 (Or.inl rfl) lv_X10_readNeed_X10_takeWord rfl (oc := 10) rfl), (j_aload_n_0 dX10_readNeed_55 (n := 56) rfl), (j_cv0i (M := mX10_readNeed) dX10_readNeed_56 (n := 59) rfl cM_10_268 (Or.inl rfl) lv_X10_readNeed_X10_stampOf rfl (oc := 10) rfl), (j_istore_4 dX10_readNeed_59 (n := 61) rfl), (j_aload_n_0 dX10_readNeed_61 (n := 62) rfl), (j_iload_4 dX10_readNeed_62 (n := 64) rfl), (j_if_lt dX10_readNeed_64 (n := 67) rfl br_64_7), (j_iconst dX10_readNeed_67 (n := 68) rfl ki_1), (j_goto dX10_readNeed_68 (n := 71) rfl br_68_4), (j_iconst dX10_readNeed_71 (n := 72) rfl ki_0), (j_iconst dX10_readNeed_72 (n := 73) rfl ki_1), (j_aload_n_0 dX10_readNeed_73 (n := 74) rfl), (j_getf dX10_readNeed_74 (n := 77) rfl cF_10_240), (j_cv3i (M := mX10_readNeed) dX10_readNeed_77 (n := 80) rfl cM_10_254 (Or.inl rfl) lv_X10_readNeed_X10_want rfl (oc := 10) rfl), (j_if_eq dX10_readNeed_80 (n := 83) rfl br_80_64), (j_aload_n_0 dX10_readNeed_83 (n := 84) rfl), (j_iload_n_3 dX10_readNeed_84 (n := 85) rfl), (j_iload_4 dX10_readNeed_85 (n := 87) rfl), (j_ishr dX10_readNeed_87 (n := 88) rfl), (j_iconst dX10_readNeed_88 (n := 89) rfl ki_1), (j_iand dX10_readNeed_89 (n := 90) rfl), (j_if_ne dX10_readNeed_90 (n := 93) rfl br_90_7), (j_iconst dX10_readNeed_93 (n := 94) rfl ki_1), (j_goto dX10_readNeed_94 (n := 97) rfl br_94_4), (j_iconst dX10_readNeed_97 (n := 98) rfl ki_0), (j_iconst dX10_readNeed_98 (n := 99) rfl ki_4), (j_aload_n_0 dX10_readNeed_99 (n := 100) rfl), (j_getf dX10_readNeed_100 (n := 103) rfl cF_10_240), (j_cv3i (M := mX10_readNeed) dX10_readNeed_103 (n := 106) rfl cM_10_254 (Or.inl rfl) lv_X10_readNeed_X10_want rfl (oc := 10) rfl), (j_if_eq dX10_readNeed_106 (n := 109) rfl br_106_38), (j_iload_n_3 dX10_readNeed_109 (n := 110) rfl), (j_iconst dX10_readNeed_110 (n := 111) rfl ki_1), (j_iload_4 dX10_readNeed_111 (n := 113) rfl), (j_ishl dX10_readNeed_113 (n := 114) rfl), (j_ior dX10_readNeed_114 (n := 115) rfl), (j_istore_n_3 dX10_readNeed_115 (n := 116) rfl), (j_aload_n_0 dX10_readNeed_116 (n := 117) rfl), (j_cv0i (M := mX10_readNeed) dX10_readNeed_117 (n := 120) rfl cM_10_236 (Or.inl rfl) lv_X10_readNeed_X10_here rfl (oc := 10) rfl), (j_bipush dX10_readNeed_120 (n := 122) rfl kb_44), (j_ic_ne dX10_readNeed_122 (n := 125) rfl br_122_7), (j_iconst dX10_readNeed_125 (n := 126) rfl ki_1), (j_goto dX10_readNeed_126 (n := 129) rfl br_126_4), (j_iconst dX10_readNeed_129 (n := 130) rfl ki_0), (j_istore_n_2 dX10_readNeed_130 (n := 131) rfl), (j_aload_n_0 dX10_readNeed_131 (n := 132) rfl), (j_dup_i dX10_readNeed_132 (n := 133) rfl), (j_dup_r dX10_readNeed_132 (n := 133) rfl), (j_getf dX10_readNeed_133 (n := 136) rfl cF_10_230), (j_iload_n_2 dX10_readNeed_136 (n := 137) rfl), (j_cs1i (M := mX10_readNeed) dX10_readNeed_137 (n := 140) rfl cM_10_210 (Or.inl rfl) (o := 10) rfl lv_X10_readNeed_X10_one rfl), (j_iadd dX10_readNeed_140 (n := 141) rfl), (j_putf dX10_readNeed_141 (n := 144) rfl cF_10_230), (j_goto dX10_readNeed_144 (n := 147) rfl br_144_m104), (j_aload_n_0 dX10_readNeed_147 (n := 148) rfl), (j_getf dX10_readNeed_148 (n := 151) rfl cF_10_77), (j_iload_n_1 dX10_readNeed_151 (n := 152) rfl), (j_iload_n_3 dX10_readNeed_152 (n := 153) rfl), (j_iast dX10_readNeed_153 (n := 154) rfl), (j_ret (M := mX10_readNeed) dX10_readNeed_154 (n := 155) rfl rfl), nl_x, pk_us]
      have e30 := fltM_0 h2.2.2.2.2.2.2.2.1
      have fin : (mo = false ∧ o' = none ∧ Q.1 = 0 ∧ v = nI Q.2.2.1 ∧ Q.2.2.2 = p') ∨ (o' = some (Q.1, Q.2.1) ∧ ¬ Q.1 = 0) → vp_in (nI ix) 64 ∧ f (upA R2 92 (upd (R2 92) (nI ix).toNatClampNeg v)) := by
        intro w
        rw [nI_clamp (n := ix) (by omega)]
        refine ⟨hv, ?_⟩
        have h3 := rdM_r 92 (upd (R2 92) ix v) (Or.inr (Or.inr rfl)) h2
        rw [h2.2.2.2.2.2.2.2.2.2.2] at h3 ⊢
        rcases w with ⟨-, rfl, r1, rfl, r2⟩ | ⟨rfl, r1⟩
        · rw [hgg] at h3
          rw [← r2] at h3
          exact k2 gg hg r1 _ _ _ h3
        · exact k1 _ (Or.inr ⟨gg, hg, r1, rfl⟩) _ _ _ _ _ _ h3
      rcases hcase with ⟨s, rfl, hs, rfl, rfl, hpc, hsm⟩ | hB | hC
      · have A4 := (st_all s hs 0 (by omega)).2.2.2
        rw [show 5 - i = (5 - (i + 1)) + 1 by omega, smF] at hsm
        rw [if_neg (show ¬ bI true = 0 by decide), if_pos (e30.symm ▸ rfl)]
        have m1 := sk_le (b := R0 93) h2.2.2.2.2.1
        have m2 := wd_le (b := R0 93) m1.2
        refine y_tword hn h2 _ (fun R3 h3 => y_stOf hn h3 (by omega) _ ?_)
        rw [show sk (R0 93) n p' + (wd (R0 93) n (sk (R0 93) n p') - sk (R0 93) n p') = wd (R0 93) n (sk (R0 93) n p') by omega, h3.2.2.2.2.2.1]
        cases hc' : cmO (R0 93) (sk (R0 93) n p') (wd (R0 93) n (sk (R0 93) n p')) with
        | none =>
          rw [hc'] at hsm
          rw [oN_n, if_pos (by decide)]
          refine y_want false 1 _ (by omega) h3 _ (fun z => by cases z) (fun _ R4 h4 => ?_)
          rw [if_pos rfl]
          exact hX (6 - (i + 1)) _ _ (by omega) ⟨i + 1, _, true, _, _, _, _, some _, rfl, by omega, rfl, h4, Or.inr (Or.inr (by rw [← hsm]; exact ⟨rfl, Nat.one_ne_zero⟩))⟩
        | some c =>
          have c4 := cmO_lt hc'
          rw [hc'] at hsm
          simp only at hsm
          have A := st_all s hs c c4
          rw [oN_s, if_neg (show ¬ nI c < 0 from nI_pos (by omega))]
          refine y_want true 1 _ (by omega) h3 _ (fun _ => ?_) (fun z => by cases z)
          rw [decide_eq_true rfl, if_neg (show ¬ bI true = 0 by decide)]
          simp only [h3.2.2.2.2.2.1]
          by_cases hb : s / 2 ^ c % 2 = 1
          · rw [if_pos hb] at hsm
            have nb : ¬ nI s >>> (nI c &&& 31) &&& 1 = 0 := by
              rw [A.1.mpr hb]
              decide
            rw [if_neg nb]
            refine y_want false 4 _ (by omega) h3 _ (fun z => by cases z) (fun _ R4 h4 => ?_)
            rw [if_pos rfl]
            exact hX (6 - (i + 1)) _ _ (by omega) ⟨i + 1, _, true, _, _, _, _, some _, rfl, by omega, rfl, h4, Or.inr (Or.inr (by rw [← hsm]; exact ⟨rfl, (show ¬ (4 : Nat) = 0 by decide)⟩))⟩
          · rw [if_neg hb] at hsm
            have nb := (st_0 s hs c c4).mpr (by omega)
            have B := A.2.2.1 (by omega)
            rw [if_pos nb]
            refine y_want true 4 _ (by omega) h3 _ (fun _ => ?_) (fun z => by cases z)
            rw [decide_eq_true rfl, if_neg (show ¬ bI true = 0 by decide), A.2.1, B.1]
            refine y_here hn h3 _ (fun R4 h4 => ?_)
            simp only [hrV_eq (show ¬ (44 : Int32) = -1 by decide), h4.2.2.2.1]
            have q1 := h4.2.2.2.2.1
            refine ite_i (fun q => c_one _ _ _ ?_) (fun q => c_one _ _ _ ?_)
            · rw [if_neg (by decide), nI_1]
              rw [if_pos q] at hsm
              exact hX (6 - (i + 1)) _ _ (by omega) ⟨i + 1, _, true, _, _, _, _, some _, rfl, by omega, rfl, rdM_u h4 (fun j j1 _ _ => upd_n j1) pk_us (by omega) (by rw [upd_n (by decide)]; exact h4.2.2.2.2.2.1) (by rw [upd_n (by decide)]; exact h4.2.2.2.2.2.2.1), Or.inl ⟨s + 2 ^ c, rfl, B.2.1, rfl, rfl, by omega, hsm⟩⟩
            · rw [if_pos rfl, Int32.add_zero]
              rw [if_neg q] at hsm
              exact hX (6 - (i + 1)) _ _ (by omega) ⟨i + 1, _, false, _, _, _, _, some _, rfl, by omega, rfl, rdM_u h4 (fun j j1 _ _ => upd_n j1) pk_us q1 (by rw [upd_n (by decide)]; exact h4.2.2.2.2.2.1) (by rw [upd_n (by decide)]; exact h4.2.2.2.2.2.2.1), Or.inr (Or.inl (by rw [← hsm]; exact ⟨rfl, rfl, rfl, rfl, rfl⟩))⟩
      · rw [hB.1, if_pos (show bI false = 0 from rfl)]
        exact fin (Or.inl hB)
      · refine ite_i (fun _ => fin (Or.inr hC)) (fun _ => ?_)
        rw [if_neg (by rw [e30, hC.1]; exact fun w => by cases w)]
        exact fin (Or.inr hC)
  · intro X hX
    simp only [sw3_c, sw3_n, Nat.reduceEqDiff, not_false_eq_true, Nat.zero_le, Nat.reduceLeDiff, Nat.reduceLT, Nat.reduceAdd, sg_s, ↓kif_0, ↓kif_c, ↓reduceIte, nl_n, nl_i, nl_r, List.length_cons, List.length_nil, true_and, and_true, upA_s, upA_n, upA_u, Prod.mk.injEq, and_self, Fr_70_25, Fr_70_26, Fr_70_29, Fr_70_30, Fr_70_32, Ld_91, Ld_92, oA_91, oA_92, oC_70, oI_70_29, oL_70, (j_aload_n_0 dX10_readNeed_0 (n := 1) rfl), (j_cv0v (M := mX10_readNeed) dX10_readNeed_1 (n := 4) rfl cM_10_262 (Or.inl rfl) lv_X10_readNeed_X10_takeWord rfl (oc := 10) rfl), (j_aload_n_0 dX10_readNeed_4 (n := 5) rfl), (j_getf dX10_readNeed_5 (n := 8) rfl cF_10_74), (j_iload_n_1 dX10_readNeed_8 (n := 9) rfl), (j_aload_n_0 dX10_readNeed_9 (n := 10) rfl), (j_cv0i (M := mX10_readNeed) dX10_readNeed_10 (n := 13) rfl cM_10_265 (Or.inl rfl) lv_X10_readNeed_X10_goodOf rfl (oc := 10) rfl), (j_iast dX10_readNeed_13 (n := 14) rfl), (j_aload_n_0 dX10_readNeed_14 (n := 15) rfl), (j_aload_n_0 dX10_readNeed_15 (n := 16) rfl), (j_getf dX10_readNeed_16 (n := 19) rfl cF_10_74), (j_iload_n_1 dX10_readNeed_19 (n := 20) rfl), (j_iald dX10_readNeed_20 (n := 21) rfl), (j_if_lt dX10_readNeed_21 (n := 24) rfl br_21_7), (j_iconst dX10_readNeed_24 (n := 25) rfl ki_1), (j_goto dX10_readNeed_25 (n := 28) rfl br_25_4), (j_iconst dX10_readNeed_28 (n := 29) rfl ki_0), (j_iconst dX10_readNeed_29 (n := 30) rfl ki_1), (j_aload_n_0 dX10_readNeed_30 (n := 31) rfl), (j_getf dX10_readNeed_31 (n := 34) rfl cF_10_240), (j_cv3i (M := mX10_readNeed) dX10_readNeed_34 (n := 37) rfl cM_10_254 (Or.inl rfl) lv_X10_readNeed_X10_want rfl (oc := 10) rfl), (j_istore_n_2 dX10_readNeed_37 (n := 38) rfl), (j_iconst dX10_readNeed_38 (n := 39) rfl ki_0), (j_istore_n_3 dX10_readNeed_39 (n := 40) rfl), (j_iload_n_2 dX10_readNeed_40 (n := 41) rfl), (j_if_eq dX10_readNeed_41 (n := 44) rfl br_41_106), (j_aload_n_0 dX10_readNeed_44 (n := 45) rfl), (j_getf dX10_readNeed_45 (n := 48) rfl cF_10_233), (j_if_ne dX10_readNeed_48 (n := 51) rfl br_48_99), (j_aload_n_0 dX10_readNeed_51 (n := 52) rfl), (j_cv0v (M := mX10_readNeed) dX10_readNeed_52 (n := 55) rfl cM_10_262 (Or.inl rfl) lv_X10_readNeed_X10_takeWord rfl (oc := 10) rfl), (j_aload_n_0 dX10_readNeed_55 (n := 56) rfl), (j_cv0i (M := mX10_readNeed) dX10_readNeed_56 (n := 59) rfl cM_10_268 (Or.inl rfl) lv_X10_readNeed_X10_stampOf rfl (oc := 10) rfl), (j_istore_4 dX10_readNeed_59 (n := 61) rfl), (j_aload_n_0 dX10_readNeed_61 (n := 62) rfl), (j_iload_4 dX10_readNeed_62 (n := 64) rfl), (j_if_lt dX10_readNeed_64 (n := 67) rfl br_64_7), (j_iconst dX10_readNeed_67 (n := 68) rfl ki_1), (j_goto dX10_readNeed_68 (n := 71) rfl br_68_4), (j_iconst dX10_readNeed_71 (n := 72) rfl ki_0), (j_iconst dX10_readNeed_72 (n := 73) rfl ki_1), (j_aload_n_0 dX10_readNeed_73 (n := 74) rfl), (j_getf dX10_readNeed_74 (n := 77) rfl cF_10_240), (j_cv3i (M := mX10_readNeed) dX10_readNeed_77 (n := 80) rfl cM_10_254 (Or.inl rfl) lv_X10_readNeed_X10_want rfl (oc := 10) rfl), (j_if_eq dX10_readNeed_80 (n := 83) rfl br_80_64), (j_aload_n_0 dX10_readNeed_83 (n := 84) rfl), (j_iload_n_3 dX10_readNeed_84 (n := 85) rfl), (j_iload_4 dX10_readNeed_85 (n := 87) rfl), (j_ishr dX10_readNeed_87 (n := 88) rfl), (j_iconst dX10_readNeed_88 (n := 89) rfl ki_1), (j_iand dX10_readNeed_89 (n := 90) rfl), (j_if_ne dX10_readNeed_90 (n := 93) rfl br_90_7), (j_iconst dX10_readNeed_93 (n := 94) rfl ki_1), (j_goto dX10_readNeed_94 (n := 97) rfl br_94_4), (j_iconst dX10_readNeed_97 (n := 98) rfl ki_0), (j_iconst dX10_readNeed_98 (n := 99) rfl ki_4), (j_aload_n_0 dX10_readNeed_99 (n := 100) rfl), (j_getf dX10_readNeed_100 (n := 103) rfl cF_10_240), (j_cv3i (M := mX10_readNeed) dX10_readNeed_103 (n := 106) rfl cM_10_254 (Or.inl rfl) lv_X10_readNeed_X10_want rfl (oc := 10) rfl), (j_if_eq dX10_readNeed_106 (n := 109) rfl br_106_38), (j_iload_n_3 dX10_readNeed_109 (n := 110) rfl), (j_iconst dX10_readNeed_110 (n := 111) rfl ki_1), (j_iload_4 dX10_readNeed_111 (n := 113) rfl), (j_ishl dX10_readNeed_113 (n := 114) rfl), (j_ior dX10_readNeed_114 (n := 115) rfl), (j_istore_n_3 dX10_readNeed_115 (n := 116) rfl), (j_aload_n_0 dX10_readNeed_116 (n := 117) rfl), (j_cv0i (M := mX10_readNeed) dX10_readNeed_117 (n := 120) rfl cM_10_236 (Or.inl rfl) lv_X10_readNeed_X10_here rfl (oc := 10) rfl), (j_bipush dX10_readNeed_120 (n := 122) rfl kb_44), (j_ic_ne dX10_readNeed_122 (n := 125) rfl br_122_7), (j_iconst dX10_readNeed_125 (n := 126) rfl ki_1), (j_goto dX10_readNeed_126 (n := 129) rfl br_126_4), (j_iconst dX10_readNeed_129 (n := 130) rfl ki_0), (j_istore_n_2 dX10_readNeed_130 (n := 131) rfl), (j_aload_n_0 dX10_readNeed_131 (n := 132) rfl), (j_dup_i dX10_readNeed_132 (n := 133) rfl), (j_dup_r dX10_readNeed_132 (n := 133) rfl), (j_getf dX10_readNeed_133 (n := 136) rfl cF_10_230), (j_iload_n_2 dX10_readNeed_136 (n := 137) rfl), (j_cs1i (M := mX10_readNeed) dX10_readNeed_137 (n := 140) rfl cM_10_210 (Or.inl rfl) (o := 10) rfl lv_X10_readNeed_X10_one rfl), (j_iadd dX10_readNeed_140 (n := 141) rfl), (j_putf dX10_readNeed_141 (n := 144) rfl cF_10_230), (j_goto dX10_readNeed_144 (n := 147) rfl br_144_m104), (j_aload_n_0 dX10_readNeed_147 (n := 148) rfl), (j_getf dX10_readNeed_148 (n := 151) rfl cF_10_77), (j_iload_n_1 dX10_readNeed_151 (n := 152) rfl), (j_iload_n_3 dX10_readNeed_152 (n := 153) rfl), (j_iast dX10_readNeed_153 (n := 154) rfl), (j_ret (M := mX10_readNeed) dX10_readNeed_154 (n := 155) rfl rfl), nl_x, pk_us]
    refine y_tword hn h _ (fun R1 h1 => y_gdOf hn h1 (by omega) _ ?_)
    rw [show sk (R0 93) n p + (wd (R0 93) n (sk (R0 93) n p) - sk (R0 93) n p) = wd (R0 93) n (sk (R0 93) n p) by omega, nI_clamp (n := ix) (by omega), h1.2.2.2.2.2.1]
    refine ⟨hv, hv, ?_⟩
    have h2 := fun g => rdM_r 91 (upd (R1 91) ix g) (Or.inr (Or.inl rfl)) h1
    simp only [h1.2.2.2.2.2.2.2.2.2.1] at h2 ⊢
    cases hg : gdO (R0 93) (sk (R0 93) n p) (wd (R0 93) n (sk (R0 93) n p)) with
    | none =>
      rw [oN_n, if_pos (by decide)]
      refine y_want false 1 _ (by omega) (h2 (-1)) _ (fun z => by cases z) (fun _ R3 h3 => hX _ _ ⟨false, _, _, _, _, rfl, h3, Or.inl ⟨rfl, hg, rfl⟩⟩)
    | some gg =>
      have g3 := gdO_lt hg
      rw [oN_s, if_neg (show ¬ nI gg < 0 from nI_pos (by omega))]
      refine y_want true 1 _ (by omega) (h2 (nI gg)) _ (fun _ => ?_) (fun z => by cases z)
      rw [decide_eq_true rfl]
      exact hX _ _ ⟨true, _, _, _, _, rfl, h2 (nI gg), Or.inr ⟨rfl, gg, hg, rfl, rfl⟩⟩
end RM
