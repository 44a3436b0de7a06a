-- reading: the reference's small steps
def fltM (R : xA) (o : Option (Nat × Nat)) : Prop := match o with
  | none => R 70 30 = 0 ∧ R 70 31 = -1
  | some (x, w) => R 70 30 = nI x ∧ R 70 31 = nI w ∧ 1 ≤ x ∧ x ≤ 5
theorem fltM_c {S S' : xA} {o : Option (Nat × Nat)} (h : fltM S o) (h5 : S' 70 30 = S 70 30) (h6 : S' 70 31 = S 70 31) : fltM S' o := by
  unfold fltM at *
  rw [h5, h6]
  exact h
theorem fltM_0 {R : xA} {o : Option (Nat × Nat)} (h : fltM R o) : (R 70 30 = 0) = (o = none) := by
  apply propext
  cases o with
  | none => exact ⟨fun _ => rfl, fun _ => h.1⟩
  | some z =>
    obtain ⟨z1, z2⟩ := z
    refine ⟨fun e => ?_, fun e => by cases e⟩
    rw [h.1] at e
    exact absurd e (nI_ne0 (by have := h.2.2.1; omega) (by have := h.2.2.2; omega))
def rdM (R0 R : xA) (n p fr lt : Nat) (o : Option (Nat × Nat)) (KD F1 F2 : Nat → Int32) : Prop := (∀ c, c ∉ [70, 90, 91, 92] → R c = R0 c) ∧ (∀ j, j ∉ [29, 30, 31, 32, 33] → R 70 j = R0 70 j) ∧ R 70 28 = nI n ∧ R 70 29 = nI p ∧ p ≤ n ∧ R 70 32 = nI fr ∧ R 70 33 = nI lt ∧ fltM R o ∧ R 90 = KD ∧ R 91 = F1 ∧ R 92 = F2
section RM
variable {R0 R : xA} {n p fr lt : Nat} {o : Option (Nat × Nat)} {KD F1 F2 : Nat → Int32}
theorem rdM_93 (h : rdM R0 R n p fr lt o KD F1 F2) : R 93 = R0 93 := h.1 93 (by decide)
/-- some of the slots 29, 32, 33 set anew -/
theorem rdM_u {r : Nat → Int32} {p' fr' lt' : Nat} (h : rdM R0 R n p fr lt o KD F1 F2) (hr : ∀ j, ¬ j = 29 → ¬ j = 32 → ¬ j = 33 → r j = R 70 j) (h29 : r 29 = nI p') (hp : p' ≤ n) (h32 : r 32 = nI fr') (h33 : r 33 = nI lt') : rdM R0 (upA R 70 r) n p' fr' lt' o KD F1 F2 := by
  obtain ⟨a1, a2, a3, a4, a5, a6, a7, a8, a9, a10, a11⟩ := h
  refine ⟨fun c hc => ?_, fun j hj => ?_, ?_, ?_, hp, ?_, ?_, fltM_c a8 ?_ ?_, ?_, ?_, ?_⟩
  · rw [upA_n _ _ (fun e => hc (by rw [e]; decide))]; exact a1 c hc
  · rw [upA_s, hr j (fun e => hj (by rw [e]; decide)) (fun e => hj (by rw [e]; decide)) (fun e => hj (by rw [e]; decide))]; exact a2 j hj
  · rw [upA_s, hr 28 (by decide) (by decide) (by decide)]; exact a3
  · rw [upA_s]; exact h29
  · rw [upA_s]; exact h32
  · rw [upA_s]; exact h33
  · rw [upA_s, hr 30 (by decide) (by decide) (by decide)]
  · rw [upA_s, hr 31 (by decide) (by decide) (by decide)]
  · rw [upA_n _ _ (by decide)]; exact a9
  · rw [upA_n _ _ (by decide)]; exact a10
  · rw [upA_n _ _ (by decide)]; exact a11
def hrV (b : Nat → Int32) (n q : Nat) : Int32 := if q < n then b q else -1
set_option maxHeartbeats 4000000 in
theorem y_here (hn : n ≤ 160) (h : rdM R0 R n p fr lt o KD F1 F2) (f : xP) (k : ∀ R', rdM R0 R' n (sk (R0 93) n p) fr lt o KD F1 F2 → f (hrV (R0 93) n (sk (R0 93) n p)) R') : CI mX10_here [.ref (70 : Nat)] R f := by
  refine ci_of (T := mX10_here) (fv := fun _ => True) (ls := [some (.ref (70 : Nat))]) rfl (Nat.le_of_ble_eq_true rfl) (by decide) rfl rfl rfl (ok2_inv2 cX10_here 10 40 0 38 (fun m ls R' => ls = [some (.ref (70 : Nat))] ∧ ∃ q, q ≤ n ∧ m = n - q ∧ sk (R0 93) n q = sk (R0 93) n p ∧ rdM R0 R' n q fr lt o KD F1 F2) (fun ls R' => ls = [some (.ref (70 : Nat))] ∧ rdM R0 R' n (sk (R0 93) n p) fr lt o KD F1 F2) rfl rfl ?_ ?_ (n - p) _ R ⟨rfl, p, h.2.2.2.2.1, rfl, rfl, h⟩)
  · rintro ls R' ⟨rfl, h1⟩
    have l1 := h1.2.2.2.2.1
    refine ok2_0 cX10_here 10 20 rfl rfl ?_
    have kk := k R' h1
    unfold hrV at kk
    simp only [sw3_c, sw3_n, Nat.reduceEqDiff, not_false_eq_true, Nat.zero_le, Nat.reduceLeDiff, Nat.reduceLT, Nat.reduceAdd, sg_s, ↓kif_0, ↓kif_c, ↓reduceIte, nl_n, nl_i, nl_r, List.length_cons, List.length_nil, true_and, and_true, upA_s, upA_n, upA_u, Prod.mk.injEq, and_self, Fr_70_27, Fr_70_28, Fr_70_29, Ld_93, oA_93, oI_70_29, oL_70, (j_aload_n_0 dX10_here_0 (n := 1) rfl), (j_getf dX10_here_1 (n := 4) rfl cF_10_230), (j_aload_n_0 dX10_here_4 (n := 5) rfl), (j_getf dX10_here_5 (n := 8) rfl cF_10_225), (j_ic_ge dX10_here_8 (n := 11) rfl br_8_30), (j_aload_n_0 dX10_here_11 (n := 12) rfl), (j_getf dX10_here_12 (n := 15) rfl cF_10_80), (j_aload_n_0 dX10_here_15 (n := 16) rfl), (j_getf dX10_here_16 (n := 19) rfl cF_10_230), (j_iald dX10_here_19 (n := 20) rfl), (j_bipush dX10_here_20 (n := 22) rfl kb_32), (j_ic_ne dX10_here_22 (n := 25) rfl br_22_16), (j_aload_n_0 dX10_here_25 (n := 26) rfl), (j_dup_i dX10_here_26 (n := 27) rfl), (j_dup_r dX10_here_26 (n := 27) rfl), (j_getf dX10_here_27 (n := 30) rfl cF_10_230), (j_iconst dX10_here_30 (n := 31) rfl ki_1), (j_iadd dX10_here_31 (n := 32) rfl), (j_putf dX10_here_32 (n := 35) rfl cF_10_230), (j_goto dX10_here_35 (n := 38) rfl br_35_m35), (j_aload_n_0 dX10_here_38 (n := 39) rfl), (j_getf dX10_here_39 (n := 42) rfl cF_10_230), (j_aload_n_0 dX10_here_42 (n := 43) rfl), (j_getf dX10_here_43 (n := 46) rfl cF_10_225), (j_ic_ge dX10_here_46 (n := 49) rfl br_46_15), (j_aload_n_0 dX10_here_49 (n := 50) rfl), (j_getf dX10_here_50 (n := 53) rfl cF_10_80), (j_aload_n_0 dX10_here_53 (n := 54) rfl), (j_getf dX10_here_54 (n := 57) rfl cF_10_230), (j_iald dX10_here_57 (n := 58) rfl), (j_goto dX10_here_58 (n := 61) rfl br_58_4), (j_iconst dX10_here_61 (n := 62) rfl ki_m1), (j_iret dX10_here_62 (n := 63) rfl), rOk_i (M := mX10_here) rfl, nl_x, pk_us, h1.2.2.2.1, h1.2.2.1, rdM_93 h1, nI_ltN (show sk (R0 93) n p < 1000000 by omega) (show n < 1000000 by omega)]
    rw [nI_clamp (n := sk (R0 93) n p) (by omega)]
    refine ite_i (fun q => ⟨vp_in_nI (by omega) (by omega), ?_⟩) (fun q => ?_)
    · rw [if_pos q] at kk; exact kk
    · rw [if_neg q] at kk; exact kk
  · rintro m _ R' ⟨rfl, q, hq, rfl, e, h1⟩ X X2 hX hX2
    simp only [sw3_c, sw3_n, Nat.reduceEqDiff, not_false_eq_true, Nat.zero_le, Nat.reduceLeDiff, Nat.reduceLT, Nat.reduceAdd, sg_s, ↓kif_0, ↓kif_c, ↓reduceIte, nl_n, nl_i, nl_r, List.length_cons, List.length_nil, true_and, and_true, upA_s, upA_n, upA_u, Prod.mk.injEq, and_self, Fr_70_27, Fr_70_28, Fr_70_29, Ld_93, oA_93, oI_70_29, oL_70, (j_aload_n_0 dX10_here_0 (n := 1) rfl), (j_getf dX10_here_1 (n := 4) rfl cF_10_230), (j_aload_n_0 dX10_here_4 (n := 5) rfl), (j_getf dX10_here_5 (n := 8) rfl cF_10_225), (j_ic_ge dX10_here_8 (n := 11) rfl br_8_30), (j_aload_n_0 dX10_here_11 (n := 12) rfl), (j_getf dX10_here_12 (n := 15) rfl cF_10_80), (j_aload_n_0 dX10_here_15 (n := 16) rfl), (j_getf dX10_here_16 (n := 19) rfl cF_10_230), (j_iald dX10_here_19 (n := 20) rfl), (j_bipush dX10_here_20 (n := 22) rfl kb_32), (j_ic_ne dX10_here_22 (n := 25) rfl br_22_16), (j_aload_n_0 dX10_here_25 (n := 26) rfl), (j_dup_i dX10_here_26 (n := 27) rfl), (j_dup_r dX10_here_26 (n := 27) rfl), (j_getf dX10_here_27 (n := 30) rfl cF_10_230), (j_iconst dX10_here_30 (n := 31) rfl ki_1), (j_iadd dX10_here_31 (n := 32) rfl), (j_putf dX10_here_32 (n := 35) rfl cF_10_230), (j_goto dX10_here_35 (n := 38) rfl br_35_m35), (j_aload_n_0 dX10_here_38 (n := 39) rfl), (j_getf dX10_here_39 (n := 42) rfl cF_10_230), (j_aload_n_0 dX10_here_42 (n := 43) rfl), (j_getf dX10_here_43 (n := 46) rfl cF_10_225), (j_ic_ge dX10_here_46 (n := 49) rfl br_46_15), (j_aload_n_0 dX10_here_49 (n := 50) rfl), (j_getf dX10_here_50 (n := 53) rfl cF_10_80), (j_aload_n_0 dX10_here_53 (n := 54) rfl), (j_getf dX10_here_54 (n := 57) rfl cF_10_230), (j_iald dX10_here_57 (n := 58) rfl), (j_goto dX10_here_58 (n := 61) rfl br_58_4), (j_iconst dX10_here_61 (n := 62) rfl ki_m1), (j_iret dX10_here_62 (n := 63) rfl), rOk_i (M := mX10_here) rfl, nl_x, pk_us, h1.2.2.2.1, h1.2.2.1, rdM_93 h1, nI_ltN (show q < 1000000 by omega) (show n < 1000000 by omega)]
    rw [nI_clamp (n := q) (by omega), nI_1]
    have no : bBl (R0 93) n q = false → X2 [some (.ref (70 : Nat))] [] R' := by
      intro z
      refine hX2 _ _ ⟨rfl, ?_⟩
      rw [← e, show sk (R0 93) n q = q from ef_n z]
      exact h1
    refine ite_i (fun z1 => ⟨vp_in_nI (by omega) (by omega), ite_i (fun z2 => ?_) (fun z2 => no (by unfold bBl; rw [decide_eq_false z2, Bool.and_false]))⟩) (fun z1 => no (by unfold bBl; rw [decide_eq_false z1, Bool.false_and]))
    refine hX (n - (q + 1)) _ _ (by omega) ⟨rfl, q + 1, by omega, rfl, ?_, rdM_u h1 (fun j j1 _ _ => upd_n j1) pk_us (by omega) (by rw [upd_n (by decide)]; exact h1.2.2.2.2.2.1) (by rw [upd_n (by decide)]; exact h1.2.2.2.2.2.2.1)⟩
    rw [← e]
    exact (ef_y z1 (by unfold bBl; rw [decide_eq_true z1, decide_eq_true z2]; rfl)).symm
set_option maxHeartbeats 4000000 in
theorem y_want (g : Bool) (x y : Nat) (hx : 1 ≤ x ∧ x ≤ 5) (h : rdM R0 R n p fr lt o KD F1 F2) (f : xP) (k1 : g = true → f (bI (decide (o = none))) R) (k2 : g = false → ∀ R', rdM R0 R' n p fr lt (bl o x y) KD F1 F2 → f 0 R') : CI mX10_want [.ref (70 : Nat), .int (bI g), .int (nI x), .int (nI y)] R f := by
  show CI mX10_want _ _ _
  refine ci_of (T := mX10_want) (fv := fun _ => True) (ls := [some (.ref (70 : Nat)), some (.int (bI g)), some (.int (nI x)), some (.int (nI y))]) rfl (Nat.le_of_ble_eq_true rfl) (by decide) rfl rfl rfl (ok2_0 cX10_want 10 60 rfl rfl ?_)
  simp only [sw3_c, sw3_n, Nat.reduceEqDiff, not_false_eq_true, Nat.zero_le, Nat.reduceLeDiff, Nat.reduceLT, Nat.reduceAdd, sg_s, ↓kif_0, ↓kif_c, ↓reduceIte, nl_n, nl_i, nl_r, List.length_cons, List.length_nil, true_and, and_true, upA_s, upA_n, upA_u, Prod.mk.injEq, and_self, Fr_70_30, oI_70_30, oI_70_31, oL_70, (j_iload_n_1 dX10_want_0 (n := 1) rfl), (j_if_ne dX10_want_1 (n := 4) rfl br_1_20), (j_aload_n_0 dX10_want_4 (n := 5) rfl), (j_getf dX10_want_5 (n := 8) rfl cF_10_233), (j_if_ne dX10_want_8 (n := 11) rfl br_8_13), (j_aload_n_0 dX10_want_11 (n := 12) rfl), (j_iload_n_2 dX10_want_12 (n := 13) rfl), (j_putf dX10_want_13 (n := 16) rfl cF_10_233), (j_aload_n_0 dX10_want_16 (n := 17) rfl), (j_iload_n_3 dX10_want_17 (n := 18) rfl), (j_putf dX10_want_18 (n := 21) rfl cF_10_83), (j_aload_n_0 dX10_want_21 (n := 22) rfl), (j_getf dX10_want_22 (n := 25) rfl cF_10_233), (j_if_ne dX10_want_25 (n := 28) rfl br_25_7), (j_iconst dX10_want_28 (n := 29) rfl ki_1), (j_goto dX10_want_29 (n := 32) rfl br_29_4), (j_iconst dX10_want_32 (n := 33) rfl ki_0), (j_iret dX10_want_33 (n := 34) rfl)]
  have b := h.2.2.2.2.2.2.2.1
  have b0 := fltM_0 b
  refine ite_b (fun q => ?_) (fun q => ?_)
  · have k2 := k2 q
    refine ite_i (fun q2 => ?_) (fun q2 => ?_)
    · have ho := b0 ▸ q2
      subst ho
      rw [upd_n (show ¬ 30 = 31 by decide), pk_us, if_neg (nI_ne0 (n := x) (by omega) (by omega))]
      refine ⟨rOk_z rfl (Or.inl rfl), k2 _ ?_⟩
      obtain ⟨a1, a2, a3, a4, a5, a6, a7, a8, a9, a10, a11⟩ := h
      refine ⟨fun c hc => ?_, fun j hj => ?_, ?_, ?_, a5, ?_, ?_, ⟨?_, ?_, hx⟩, ?_, ?_, ?_⟩
      · rw [upA_n _ _ (fun e => hc (by rw [e]; decide))]; exact a1 c hc
      · rw [upA_s, upd_n (fun e => hj (by rw [e]; decide)), upd_n (fun e => hj (by rw [e]; decide))]; exact a2 j hj
      · rw [upA_s, upd_n (by decide), upd_n (by decide)]; exact a3
      · rw [upA_s, upd_n (by decide), upd_n (by decide)]; exact a4
      · rw [upA_s, upd_n (by decide), upd_n (by decide)]; exact a6
      · rw [upA_s, upd_n (by decide), upd_n (by decide)]; exact a7
      · rw [upA_s, upd_n (by decide), pk_us]
      · rw [upA_s, pk_us]
      · rw [upA_n _ _ (by decide)]; exact a9
      · rw [upA_n _ _ (by decide)]; exact a10
      · rw [upA_n _ _ (by decide)]; exact a11
    · rw [if_neg q2]
      refine ⟨rOk_z rfl (Or.inl rfl), k2 R ?_⟩
      cases o with
      | none => exact absurd (b0.symm ▸ rfl) q2
      | some z => exact h
  · have k1 := k1 q
    simp only [b0]
    refine ite_i (fun q2 => ⟨rOk_z rfl (Or.inr rfl), ?_⟩) (fun q2 => ⟨rOk_z rfl (Or.inl rfl), ?_⟩)
    · rw [decide_eq_true q2] at k1; exact k1
    · rw [decide_eq_false q2] at k1; exact k1
theorem in_lt {b : Int32} : (97 ≤ b.toInt ∧ b.toInt ≤ 122) ↔ (¬ b < 97 ∧ ¬ 122 < b) := by
  rw [lt_I, lt_I, ti_97, ti_122]
  omega
theorem in_fg {b : Int32} : (48 ≤ b.toInt ∧ b.toInt ≤ 57) ↔ (¬ b < 48 ∧ ¬ 57 < b) := by
  rw [lt_I, lt_I, ti_48, ti_57]
  omega
set_option maxHeartbeats 4000000 in
theorem y_tword (hn : n ≤ 160) (h : rdM R0 R n p fr lt o KD F1 F2) (f : xA → Prop) (k : ∀ R', rdM R0 R' n (wd (R0 93) n (sk (R0 93) n p)) (sk (R0 93) n p) (wd (R0 93) n (sk (R0 93) n p) - sk (R0 93) n p) o KD F1 F2 → f R') : CV mX10_takeWord [.ref (70 : Nat)] R f := by
  have l1 := sk_le (b := R0 93) h.2.2.2.2.1
  have l2 := wd_le (b := R0 93) l1.2
  refine cv_of (T := mX10_takeWord) (f := fun _ _ => True) (ls := [some (.ref (70 : Nat)), none]) rfl (Nat.le_of_ble_eq_true rfl) (by decide) rfl rfl rfl ?_
  refine ok2_to cX10_takeWord 10 40 13 (fun ls R' => (∃ x, ls = [some (.ref (70 : Nat)), lx x]) ∧ ∃ lt', rdM R0 R' n (sk (R0 93) n p) (sk (R0 93) n p) lt' o KD F1 F2) rfl rfl ?_ ?_
  · rintro ls R1 ⟨⟨x, hls⟩, lt', h1⟩
    refine ok2_inv2 cX10_takeWord 10 40 13 59 (fun m ls R' => ls = [some (.ref (70 : Nat)), lx x] ∧ ∃ q lt', sk (R0 93) n p ≤ q ∧ q ≤ n ∧ m = n - q ∧ wd (R0 93) n q = wd (R0 93) n (sk (R0 93) n p) ∧ rdM R0 R' n q (sk (R0 93) n p) lt' o KD F1 F2) (fun ls R' => ls = [some (.ref (70 : Nat)), lx x] ∧ ∃ lt', rdM R0 R' n (wd (R0 93) n (sk (R0 93) n p)) (sk (R0 93) n p) lt' o KD F1 F2) rfl rfl ?_ ?_ (n - sk (R0 93) n p) ls R1 ⟨hls, _, lt', Nat.le_refl _, l1.2, rfl, rfl, h1⟩
    · rintro ls R' ⟨rfl, lt2, h2⟩
      refine ok2_0 cX10_takeWord 10 20 rfl rfl ?_
      simp only [sw3_c, sw3_n, Nat.reduceEqDiff, not_false_eq_true, Nat.zero_le, Nat.reduceLeDiff, Nat.reduceLT, Nat.reduceAdd, sg_s, ↓kif_0, ↓kif_c, ↓reduceIte, nl_n, nl_i, nl_r, List.length_cons, List.length_nil, true_and, and_true, upA_s, upA_n, upA_u, Prod.mk.injEq, and_self, Fr_70_27, Fr_70_28, Fr_70_29, Fr_70_32, Ld_93, oA_93, oC_70, oI_70_29, oI_70_32, oI_70_33, oL_70, (j_aload_n_0 dX10_takeWord_0 (n := 1) rfl), (j_cv0i (M := mX10_takeWord) dX10_takeWord_1 (n := 4) rfl cM_10_236 (Or.inl rfl) lv_X10_takeWord_X10_here rfl (oc := 10) rfl), (j_istore_n_1 dX10_takeWord_4 (n := 5) rfl), (j_aload_n_0 dX10_takeWord_5 (n := 6) rfl), (j_aload_n_0 dX10_takeWord_6 (n := 7) rfl), (j_getf dX10_takeWord_7 (n := 10) rfl cF_10_230), (j_putf dX10_takeWord_10 (n := 13) rfl cF_10_240), (j_aload_n_0 dX10_takeWord_13 (n := 14) rfl), (j_getf dX10_takeWord_14 (n := 17) rfl cF_10_230), (j_aload_n_0 dX10_takeWord_17 (n := 18) rfl), (j_getf dX10_takeWord_18 (n := 21) rfl cF_10_225), (j_ic_ge dX10_takeWord_21 (n := 24) rfl br_21_38), (j_aload_n_0 dX10_takeWord_24 (n := 25) rfl), (j_getf dX10_takeWord_25 (n := 28) rfl cF_10_80), (j_aload_n_0 dX10_takeWord_28 (n := 29) rfl), (j_getf dX10_takeWord_29 (n := 32) rfl cF_10_230), (j_iald dX10_takeWord_32 (n := 33) rfl), (j_i2l dX10_takeWord_33 (n := 34) rfl), (j_ldc2 dX10_takeWord_34 (n := 37) rfl cJ_10_243), (j_ldc2 dX10_takeWord_37 (n := 40) rfl cJ_10_245), (j_cs3i (M := mX10_takeWord) dX10_takeWord_40 (n := 43) rfl cM_10_150 (Or.inl rfl) (o := 10) rfl lv_X10_takeWord_X10_in rfl), (j_if_eq dX10_takeWord_43 (n := 46) rfl br_43_16), (j_aload_n_0 dX10_takeWord_46 (n := 47) rfl), (j_dup_i dX10_takeWord_47 (n := 48) rfl), (j_dup_r dX10_takeWord_47 (n := 48) rfl), (j_getf dX10_takeWord_48 (n := 51) rfl cF_10_230), (j_iconst dX10_takeWord_51 (n := 52) rfl ki_1), (j_iadd dX10_takeWord_52 (n := 53) rfl), (j_putf dX10_takeWord_53 (n := 56) rfl cF_10_230), (j_goto dX10_takeWord_56 (n := 59) rfl br_56_m43), (j_aload_n_0 dX10_takeWord_59 (n := 60) rfl), (j_aload_n_0 dX10_takeWord_60 (n := 61) rfl), (j_getf dX10_takeWord_61 (n := 64) rfl cF_10_230), (j_aload_n_0 dX10_takeWord_64 (n := 65) rfl), (j_getf dX10_takeWord_65 (n := 68) rfl cF_10_240), (j_isub dX10_takeWord_68 (n := 69) rfl), (j_putf dX10_takeWord_69 (n := 72) rfl cF_10_247), (j_ret (M := mX10_takeWord) dX10_takeWord_72 (n := 73) rfl rfl), nl_x, pk_us, h2.2.2.2.1, h2.2.2.2.2.2.1, nI_sub l2.1 (show wd (R0 93) n (sk (R0 93) n p) < 1000000 by omega)]
      exact k _ (rdM_u h2 (fun j _ _ j3 => upd_n j3) (by rw [upd_n (by decide)]; exact h2.2.2.2.1) l2.2 (by rw [upd_n (by decide)]; exact h2.2.2.2.2.2.1) pk_us)
    · rintro m _ R' ⟨rfl, q, lt2, hq0, hq, rfl, e, h2⟩ X X2 hX hX2
      simp only [sw3_c, sw3_n, Nat.reduceEqDiff, not_false_eq_true, Nat.zero_le, Nat.reduceLeDiff, Nat.reduceLT, Nat.reduceAdd, sg_s, ↓kif_0, ↓kif_c, ↓reduceIte, nl_n, nl_i, nl_r, List.length_cons, List.length_nil, true_and, and_true, upA_s, upA_n, upA_u, Prod.mk.injEq, and_self, Fr_70_27, Fr_70_28, Fr_70_29, Fr_70_32, Ld_93, oA_93, oC_70, oI_70_29, oI_70_32, oI_70_33, oL_70, (j_aload_n_0 dX10_takeWord_0 (n := 1) rfl), (j_cv0i (M := mX10_takeWord) dX10_takeWord_1 (n := 4) rfl cM_10_236 (Or.inl rfl) lv_X10_takeWord_X10_here rfl (oc := 10) rfl), (j_istore_n_1 dX10_takeWord_4 (n := 5) rfl), (j_aload_n_0 dX10_takeWord_5 (n := 6) rfl), (j_aload_n_0 dX10_takeWord_6 (n := 7) rfl), (j_getf dX10_takeWord_7 (n := 10) rfl cF_10_230), (j_putf dX10_takeWord_10 (n := 13) rfl cF_10_240), (j_aload_n_0 dX10_takeWord_13 (n := 14) rfl), (j_getf dX10_takeWord_14 (n := 17) rfl cF_10_230), (j_aload_n_0 dX10_takeWord_17 (n := 18) rfl), (j_getf dX10_takeWord_18 (n := 21) rfl cF_10_225), (j_ic_ge dX10_takeWord_21 (n := 24) rfl br_21_38), (j_aload_n_0 dX10_takeWord_24 (n := 25) rfl), (j_getf dX10_takeWord_25 (n := 28) rfl cF_10_80), (j_aload_n_0 dX10_takeWord_28 (n := 29) rfl), (j_getf dX10_takeWord_29 (n := 32) rfl cF_10_230), (j_iald dX10_takeWord_32 (n := 33) rfl), (j_i2l dX10_takeWord_33 (n := 34) rfl), (j_ldc2 dX10_takeWord_34 (n := 37) rfl cJ_10_243), (j_ldc2 dX10_takeWord_37 (n := 40) rfl cJ_10_245), (j_cs3i (M := mX10_takeWord) dX10_takeWord_40 (n := 43) rfl cM_10_150 (Or.inl rfl) (o := 10) rfl lv_X10_takeWord_X10_in rfl), (j_if_eq dX10_takeWord_43 (n := 46) rfl br_43_16), (j_aload_n_0 dX10_takeWord_46 (n := 47) rfl), (j_dup_i dX10_takeWord_47 (n := 48) rfl), (j_dup_r dX10_takeWord_47 (n := 48) rfl), (j_getf dX10_takeWord_48 (n := 51) rfl cF_10_230), (j_iconst dX10_takeWord_51 (n := 52) rfl ki_1), (j_iadd dX10_takeWord_52 (n := 53) rfl), (j_putf dX10_takeWord_53 (n := 56) rfl cF_10_230), (j_goto dX10_takeWord_56 (n := 59) rfl br_56_m43), (j_aload_n_0 dX10_takeWord_59 (n := 60) rfl), (j_aload_n_0 dX10_takeWord_60 (n := 61) rfl), (j_getf dX10_takeWord_61 (n := 64) rfl cF_10_230), (j_aload_n_0 dX10_takeWord_64 (n := 65) rfl), (j_getf dX10_takeWord_65 (n := 68) rfl cF_10_240), (j_isub dX10_takeWord_68 (n := 69) rfl), (j_putf dX10_takeWord_69 (n := 72) rfl cF_10_247), (j_ret (M := mX10_takeWord) dX10_takeWord_72 (n := 73) rfl rfl), nl_x, pk_us, h2.2.2.2.1, h2.2.2.1, rdM_93 h2, nI_ltN (show q < 1000000 by omega) (show n < 1000000 by omega)]
      rw [nI_clamp (n := q) (by omega)]
      have no : bLt (R0 93) n q = false → X2 [some (.ref (70 : Nat)), lx x] [] R' := by
        intro z
        refine hX2 _ _ ⟨rfl, lt2, ?_⟩
        rw [← e, show wd (R0 93) n q = q from ef_n z]
        exact h2
      refine ite_i (fun z1 => ⟨vp_in_nI (by omega) (by omega), c_in _ _ _ _ _ ?_⟩) (fun z1 => no (by unfold bLt; rw [decide_eq_false z1, Bool.false_and]))
      rw [wid_I, tj_97, tj_122]
      refine ite_b (fun z2 => no ?_) (fun z2 => ?_)
      · rw [decide_eq_false_iff_not, in_lt] at z2
        unfold bLt
        rw [decide_eq_true z1, Bool.true_and, ← Bool.decide_and, decide_eq_false z2]
      · rw [decide_eq_true_eq, in_lt] at z2
        simp only [h2.2.2.2.1, nI_1]
        refine hX (n - (q + 1)) _ _ (by omega) ⟨rfl, q + 1, lt2, by omega, by omega, rfl, ?_, rdM_u h2 (fun j j1 _ _ => upd_n j1) pk_us (by omega) (by rw [upd_n (by decide)]; exact h2.2.2.2.2.2.1) (by rw [upd_n (by decide)]; exact h2.2.2.2.2.2.2.1)⟩
        rw [← e]
        exact (ef_y z1 (by unfold bLt; rw [decide_eq_true z1, decide_eq_true z2.1, decide_eq_true z2.2]; rfl)).symm
  · intro X hX
    simp only [sw3_c, sw3_n, Nat.reduceEqDiff, not_false_eq_true, Nat.zero_le, Nat.reduceLeDiff, Nat.reduceLT, Nat.reduceAdd, sg_s, ↓kif_0, ↓kif_c, ↓reduceIte, nl_n, nl_i, nl_r, List.length_cons, List.length_nil, true_and, and_true, upA_s, upA_n, upA_u, Prod.mk.injEq, and_self, Fr_70_27, Fr_70_28, Fr_70_29, Fr_70_32, Ld_93, oA_93, oC_70, oI_70_29, oI_70_32, oI_70_33, oL_70, (j_aload_n_0 dX10_takeWord_0 (n := 1) rfl), (j_cv0i (M := mX10_takeWord) dX10_takeWord_1 (n := 4) rfl cM_10_236 (Or.inl rfl) lv_X10_takeWord_X10_here rfl (oc := 10) rfl), (j_istore_n_1 dX10_takeWord_4 (n := 5) rfl), (j_aload_n_0 dX10_takeWord_5 (n := 6) rfl), (j_aload_n_0 dX10_takeWord_6 (n := 7) rfl), (j_getf dX10_takeWord_7 (n := 10) rfl cF_10_230), (j_putf dX10_takeWord_10 (n := 13) rfl cF_10_240), (j_aload_n_0 dX10_takeWord_13 (n := 14) rfl), (j_getf dX10_takeWord_14 (n := 17) rfl cF_10_230), (j_aload_n_0 dX10_takeWord_17 (n := 18) rfl), (j_getf dX10_takeWord_18 (n := 21) rfl cF_10_225), (j_ic_ge dX10_takeWord_21 (n := 24) rfl br_21_38), (j_aload_n_0 dX10_takeWord_24 (n := 25) rfl), (j_getf dX10_takeWord_25 (n := 28) rfl cF_10_80), (j_aload_n_0 dX10_takeWord_28 (n := 29) rfl), (j_getf dX10_takeWord_29 (n := 32) rfl cF_10_230), (j_iald dX10_takeWord_32 (n := 33) rfl), (j_i2l dX10_takeWord_33 (n := 34) rfl), (j_ldc2 dX10_takeWord_34 (n := 37) rfl cJ_10_243), (j_ldc2 dX10_takeWord_37 (n := 40) rfl cJ_10_245), (j_cs3i (M := mX10_takeWord) dX10_takeWord_40 (n := 43) rfl cM_10_150 (Or.inl rfl) (o := 10) rfl lv_X10_takeWord_X10_in rfl), (j_if_eq dX10_takeWord_43 (n := 46) rfl br_43_16), (j_aload_n_0 dX10_takeWord_46 (n := 47) rfl), (j_dup_i dX10_takeWord_47 (n := 48) rfl), (j_dup_r dX10_takeWord_47 (n := 48) rfl), (j_getf dX10_takeWord_48 (n := 51) rfl cF_10_230), (j_iconst dX10_takeWord_51 (n := 52) rfl ki_1), (j_iadd dX10_takeWord_52 (n := 53) rfl), (j_putf dX10_takeWord_53 (n := 56) rfl cF_10_230), (j_goto dX10_takeWord_56 (n := 59) rfl br_56_m43), (j_aload_n_0 dX10_takeWord_59 (n := 60) rfl), (j_aload_n_0 dX10_takeWord_60 (n := 61) rfl), (j_getf dX10_takeWord_61 (n := 64) rfl cF_10_230), (j_aload_n_0 dX10_takeWord_64 (n := 65) rfl), (j_getf dX10_takeWord_65 (n := 68) rfl cF_10_240), (j_isub dX10_takeWord_68 (n := 69) rfl), (j_putf dX10_takeWord_69 (n := 72) rfl cF_10_247), (j_ret (M := mX10_takeWord) dX10_takeWord_72 (n := 73) rfl rfl), nl_x, pk_us]
    refine y_here hn h _ (fun R1 h1 => ?_)
    rw [h1.2.2.2.1]
    exact hX _ _ ⟨⟨some _, rfl⟩, lt, rdM_u h1 (fun j _ j2 _ => upd_n j2) (by rw [upd_n (by decide)]; exact h1.2.2.2.1) l1.2 pk_us (by rw [upd_n (by decide)]; exact h1.2.2.2.2.2.2.1)⟩
end RM
