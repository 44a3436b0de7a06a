-- hours: listenAhead, step, run of the class
def cAt (S : xA) (ca : Int32) : xA := upA S 70 (upd (S 70) 20 ca)
def clS (S : xA) (ca hour : Int32) (p : Nat) : Bool := cldO (cAt S ca) (nI (p / 8)) (nI (p % 8)) hour
def cNs : List Nat := [9, 70, 71, 84, 85, 86, 87]
theorem cldO_c {S S' : xA} (h : ∀ c, c ∈ cNs → S' c = S c) (u t hour : Int32) : cldO S' u t hour = cldO S u t hour := by
  have h9 := h 9 (by decide)
  have h70 := h 70 (by decide)
  have h71 := h 71 (by decide)
  have h84 := h 84 (by decide)
  have h85 := h 85 (by decide)
  have h86 := h 86 (by decide)
  have h87 := h 87 (by decide)
  have e : (fun o => rcM S' o t) = fun o => rcM S o t := by
    funext o
    unfold rcM awM hrO
    rw [h70, h71, h84, h86, h87]
  unfold cldO hld
  rw [h84, h85, h9, e]
theorem cAt_n {S : xA} {ca : Int32} {c : Nat} (h : ¬ c = 70) : cAt S ca c = S c := upA_n _ _ h
theorem cAt_c {S S' : xA} (h : ∀ c, c ∈ cNs → S' c = S c) (ca : Int32) : ∀ c, c ∈ cNs → cAt S' ca c = cAt S ca c := by
  intro c hc
  by_cases e : c = 70
  · subst e
    unfold cAt
    rw [upA_s, upA_s, h 70 hc]
  · rw [cAt_n e, cAt_n e, h c hc]
theorem clS_c {S S' : xA} (h : ∀ c, c ∈ cNs → S' c = S c) (ca hour : Int32) : clS S' ca hour = clS S ca hour := by
  funext p
  exact cldO_c (cAt_c h ca) _ _ _
theorem lsn_70 {S : xA} {g : Nat → Int32} {hour at' first : Int32} : ∀ n, lsn (upA S 70 g) hour at' first n = lsn S hour at' first n
  | 0 => by
    unfold lsn
    simp only [upA_s, upA_n, upA_u, Nat.reduceEqDiff, not_false_eq_true, pk_us, upd_n]
  | n + 1 => by
    have ih := lsn_70 (S := S) (g := g) (hour := hour) (at' := at') (first := first) n
    have e1 : gvn (upA S 70 g) = gvn S := by
      funext a b o
      unfold gvn
      rw [upA_n _ _ (show ¬ 10 = 70 by decide), upA_n _ _ (show ¬ 13 = 70 by decide)]
    have e2 : cmC (upA S 70 g) = cmC S := by
      funext o t h
      unfold cmC
      rw [upA_n _ _ (show ¬ 2 = 70 by decide), upA_n _ _ (show ¬ 12 = 70 by decide)]
    have e3 : rowO (upA S 70 g) = rowO S := by
      funext o
      unfold rowO
      rw [upA_n _ _ (show ¬ 10 = 70 by decide), upA_n _ _ (show ¬ 11 = 70 by decide)]
    rw [lsn, lsn, ih, e1, e2, e3]
/-- what the class's hours rest on, of what hours leave as it is -/
def Bs (S : xA) (c : Nat) : Prop := RuO S ∧ Ord S ∧ S 26 6 = nI c ∧ c ≤ 40 ∧ ∀ l, l < c → (0 ≤ (S 27 l).toInt ∧ (S 27 l).toInt ≤ 2) ∧ (0 ≤ (S 29 l).toInt ∧ (S 29 l).toInt ≤ 7) ∧ (0 ≤ (S 30 l).toInt ∧ (S 30 l).toInt ≤ 7)
def Hg (S : xA) (at' ca : Int32) : Prop := ∀ o, o < (S 9 7).toNatClampNeg → gvn S at' (fch S (S 9 7).toNatClampNeg) o = hrO (cAt S ca) o ∧ 0 ≤ (hrO (cAt S ca) o).toInt ∧ (hrO (cAt S ca) o).toInt ≤ 240
def bNs : List Nat := [1, 2, 9, 10, 11, 12, 13, 16, 17, 18, 19, 20, 21, 26, 27, 28, 29, 30, 31, 32, 70, 71, 84, 85, 86, 87, 88, 89, 90, 91, 92]
theorem Ord_c {S S' : xA} (h : ∀ c, c ∈ bNs → S' c = S c) (hS : Ord S) : Ord S' := by
  unfold Ord
  rw [h 1 (by decide), h 2 (by decide), h 9 (by decide), h 10 (by decide), h 11 (by decide), h 12 (by decide), h 13 (by decide), h 70 (by decide), h 71 (by decide), h 84 (by decide), h 85 (by decide), h 86 (by decide), h 87 (by decide)]
  exact hS
theorem RuO_c2 {S S' : xA} (h : ∀ c, c ∈ bNs → S' c = S c) (hS : RuO S) : RuO S' := by
  unfold RuO
  rw [h 16 (by decide), h 17 (by decide), h 18 (by decide), h 19 (by decide), h 20 (by decide), h 21 (by decide), h 70 (by decide), h 88 (by decide), h 89 (by decide), h 90 (by decide), h 91 (by decide), h 92 (by decide)]
  exact hS
theorem Bs_c {S S' : xA} {c : Nat} (h : ∀ c, c ∈ bNs → S' c = S c) (hS : Bs S c) : Bs S' c := by
  refine ⟨RuO_c2 h hS.1, Ord_c h hS.2.1, ?_⟩
  rw [h 26 (by decide), h 27 (by decide), h 29 (by decide), h 30 (by decide)]
  exact hS.2.2
theorem fch_c {S S' : xA} (h : ∀ c, c ∈ bNs → S' c = S c) : ∀ n, fch S' n = fch S n
  | 0 => rfl
  | n + 1 => by rw [fch, fch, fch_c h n, h 10 (by decide), h 13 (by decide)]
theorem hrO_cAt (S : xA) (ca : Int32) (o : Nat) : hrO (cAt S ca) o = if ca < 0 then S 87 o else if S 84 o = 0 then ca else S 87 o := by
  unfold hrO cAt
  rw [upA_s, upA_n _ _ (show ¬ 84 = 70 by decide), upA_n _ _ (show ¬ 87 = 70 by decide), pk_us]
theorem Hg_c {S S' : xA} {at' ca : Int32} (h : ∀ c, c ∈ bNs → S' c = S c) (hS : Hg S at' ca) : Hg S' at' ca := by
  unfold Hg
  intro o ho
  rw [h 9 (by decide)] at ho ⊢
  have e : hrO (cAt S' ca) o = hrO (cAt S ca) o := by rw [hrO_cAt, hrO_cAt, h 84 (by decide), h 87 (by decide)]
  have e2 : ∀ x, gvn S' at' x o = gvn S at' x o := by
    intro x
    unfold gvn
    rw [h 10 (by decide), h 13 (by decide)]
  rw [fch_c h, e, e2]
  exact hS o ho
theorem fcS_c {S S' : xA} (h : ∀ c, c ∈ bNs → S' c = S c) (hour : Int32) : fcS S' hour = fcS S hour := by
  unfold fcS
  rw [h 16 (by decide), h 17 (by decide), h 18 (by decide), h 19 (by decide), h 20 (by decide), h 21 (by decide)]
theorem c_cl {S S' : xA} {hour at' ca : Int32} (hO : Ord S) (hg : Hg S at' ca) (h14 : S' 14 = (lsn S hour at' (fch S (S 9 7).toNatClampNeg) (S 9 7).toNatClampNeg).1) (h10 : S' 10 = S 10) {p : Nat} (hp : p < 48) (f : xP) (h : f (bI (clS S ca hour p)) S') : CI mX6_calls [.ref (9 : Nat), .int (nI p)] S' f := by
  have e9 : cAt S ca 9 = S 9 := cAt_n (by decide)
  refine c_cal (S := cAt S ca) (hour := hour) (at' := at') (first := fch S (S 9 7).toNatClampNeg) (u := p / 8) (t := p % 8) ?_ ?_ ?_ ?_ (by omega) (by omega) _ (by congr 1; omega) f h
  · unfold Ord cAt
    simp only [upA_s, upA_n, upA_u, Nat.reduceEqDiff, not_false_eq_true, pk_us, upd_n]
    exact hO
  · rw [e9]
    intro o ho
    have := hg o ho
    unfold gvn
    rw [cAt_n (show ¬ 10 = 70 by decide), cAt_n (show ¬ 13 = 70 by decide)]
    exact this
  · rw [e9, h14]
    unfold cAt
    rw [lsn_70]
  · rw [h10, cAt_n (by decide)]
def laS (D : Nat) (cl : Nat → Bool) (S : xA) (p : Nat) : xA := upA S (D + 11) (upd (S (D + 11)) p (bI (cl p)))
theorem laS_f (D : Nat) (cl : Nat → Bool) (S : xA) (n : Nat) : frm [D + 11] S (laS D cl S n) := frm_up (frm_rf _ _) (by simp)
def LC (D : Nat) : List Nat := [14, 15, D + 1, D + 2, D + 3, D + 4, D + 5, D + 6, D + 7, D + 8, D + 9, D + 10, D + 11, D + 12]
def dyS (hour : Int32) : Bool := decide (0 < hour ∧ hour - hour / 24 * 24 = 0)
def hp1 (D : Nat) (hour : Int32) (cl : Nat → Bool) (S : xA) (c : Nat) : xA := itZ (coS D cl) (itZ (arS D hour) S c) 48
def hp2 (D : Nat) (hour : Int32) (cl : Nat → Bool) (S : xA) (c : Nat) : xA := if dyS hour = true then itZ (pyS D) (hp1 D hour cl S c) 48 else hp1 D hour cl S c
def hp3 (D : Nat) (hour : Int32) (cl : Nat → Bool) (S : xA) (c : Nat) : xA := itZ (sdS D hour) (hp2 D hour cl S c) c
def hrR (D : Nat) (hour : Int32) (cl : Nat → Bool) (c : Nat) (S S' : xA) (r : Int32) : Prop := ∃ g w1 w2 : Nat → Int32, (∀ i, i < 7 → g i = fcS S hour i) ∧ S' = itZ (usS D hour) (hp3 D hour cl (upA (upA (upA S (D + 12) g) 15 w2) 14 w1) c) 24 ∧ r = usN D hour (hp3 D hour cl (upA (upA (upA S (D + 12) g) 15 w2) 14 w1) c) 24
theorem frm_w {l l' : List Nat} {S S' : xA} (h : frm l S S') (hl : ∀ c ∈ l, c ∈ l') : frm l' S S' := fun c hc => h c (fun q => hc (hl c q))
theorem hp1_f (D : Nat) (hour : Int32) (cl : Nat → Bool) (S : xA) (c : Nat) : frm [D + 1, D + 4, D + 8, D + 11] S (hp1 D hour cl S c) := frm_tr (frm_w (itZ_f (arS_f D hour) S c) (by simp)) (itZ_f (coS_f D cl) _ 48) (by simp)
theorem hp2_f (D : Nat) (hour : Int32) (cl : Nat → Bool) (S : xA) (c : Nat) : frm [D + 1, D + 4, D + 5, D + 6, D + 7, D + 8, D + 11] S (hp2 D hour cl S c) := by
  have h1 : frm [D + 1, D + 4, D + 5, D + 6, D + 7, D + 8, D + 11] S (hp1 D hour cl S c) := frm_w (hp1_f D hour cl S c) (by simp)
  unfold hp2
  split
  · exact frm_tr h1 (itZ_f (pyS_f D) _ 48) (by simp)
  · exact h1
theorem hp3_f (D : Nat) (hour : Int32) (cl : Nat → Bool) (S : xA) (c : Nat) : frm [D + 1, D + 4, D + 5, D + 6, D + 7, D + 8, D + 9, D + 10, D + 11] S (hp3 D hour cl S c) := frm_tr (frm_w (hp2_f D hour cl S c) (by simp)) (itZ_f (sdS_f D hour) _ c) (by simp)
theorem hrR_f {D : Nat} {hour : Int32} {cl : Nat → Bool} {c : Nat} {S S' : xA} {r : Int32} (h : hrR D hour cl c S S' r) : frm (LC D) S S' := by
  obtain ⟨g, w1, w2, -, e, -⟩ := h
  rw [e]
  refine frm_tr (frm_tr ?_ (hp3_f D hour cl _ c) (by simp [LC])) (itZ_f (usS_f D hour) _ 24) (by simp [LC])
  exact frm_up (frm_up (frm_up (frm_rf _ _) (by simp [LC])) (by simp [LC])) (by simp [LC])
set_option maxRecDepth 10000 in
theorem LC_b33 : ∀ c, c ∈ bNs → c ∉ LC 33 := by decide
set_option maxHeartbeats 4000000 in
theorem c_lah33 (hour at' ca : Int32) (S : xA) (f : xA → Prop) (hO : Ord S) (hg : Hg S at' ca) (h : ∀ w1 w2, f (itZ (laS 33 (clS S ca (hour - 1))) (upA (upA S 15 w2) 14 w1) 48)) : CV mX0_listenAhead [.ref (33 : Nat), .int hour, .int at'] S f := by
  refine cv_of (T := mX0_listenAhead) (f := fun _ _ => True) (ls := [some (.ref (33 : Nat)), some (.int hour), some (.int at'), none]) rfl (Nat.le_of_ble_eq_true rfl) (by decide) rfl rfl rfl (ok_for cX0_listenAhead 0 60 13 48 (fun p ls S' => ls = [some (.ref (33 : Nat)), some (.int hour), some (.int at'), some (.int (nI p))] ∧ S' = itZ (laS 33 (clS S ca (hour - 1))) (upA (upA S 15 (lsn S (hour - 1) at' (fch S (S 9 7).toNatClampNeg) (S 9 7).toNatClampNeg).2) 14 (lsn S (hour - 1) at' (fch S (S 9 7).toNatClampNeg) (S 9 7).toNatClampNeg).1) p) rfl rfl ?_ ?_ ?_)
  · intro R hK
    simp only [sw3_c, sw3_n, Nat.reduceEqDiff, not_false_eq_true, Nat.zero_le, Nat.reduceLeDiff, Nat.reduceLT, Nat.reduceAdd, sg_s, ↓kif_0, ↓kif_c, ↓reduceIte, nl_n, nl_i, nl_r, List.length_cons, List.length_nil, true_and, and_true, upA_s, upA_n, upA_u, Prod.mk.injEq, and_self, Fr_33_15, Fr_33_2, Fr_46_15, Fr_46_2, Ld_44, Ld_57, oC_9, oL_33, oL_46, oZ_44, oZ_57, (j_aload_n_0 dX0_listenAhead_0 (n := 1) rfl), (j_getf dX0_listenAhead_1 (n := 4) rfl cF_0_57), (j_iload_n_1 dX0_listenAhead_4 (n := 5) rfl), (j_iconst dX0_listenAhead_5 (n := 6) rfl ki_1), (j_isub dX0_listenAhead_6 (n := 7) rfl), (j_iload_n_2 dX0_listenAhead_7 (n := 8) rfl), (j_cv2v (M := mX0_listenAhead) dX0_listenAhead_8 (n := 11) rfl cM_0_103 (Or.inl rfl) lv_X0_listenAhead_X6_listen rfl (oc := 6) rfl), (j_iconst dX0_listenAhead_11 (n := 12) rfl ki_0), (j_istore_n_3 dX0_listenAhead_12 (n := 13) rfl), (j_iload_n_3 dX0_listenAhead_13 (n := 14) rfl), (j_bipush dX0_listenAhead_14 (n := 16) rfl kb_48), (j_ic_ge dX0_listenAhead_16 (n := 19) rfl br_16_23), (j_aload_n_0 dX0_listenAhead_19 (n := 20) rfl), (j_getf dX0_listenAhead_20 (n := 23) rfl cF_0_42), (j_iload_n_3 dX0_listenAhead_23 (n := 24) rfl), (j_aload_n_0 dX0_listenAhead_24 (n := 25) rfl), (j_getf dX0_listenAhead_25 (n := 28) rfl cF_0_57), (j_iload_n_3 dX0_listenAhead_28 (n := 29) rfl), (j_cv1i (M := mX0_listenAhead) dX0_listenAhead_29 (n := 32) rfl cM_0_108 (Or.inl rfl) lv_X0_listenAhead_X6_calls rfl (oc := 6) rfl), (j_bast dX0_listenAhead_32 (n := 33) rfl), (j_iinc_3 dX0_listenAhead_33 (n := 36) rfl ki_1), (j_goto dX0_listenAhead_36 (n := 39) rfl br_36_m23), (j_ret (M := mX0_listenAhead) dX0_listenAhead_39 (n := 40) rfl rfl), nl_x, pk_us]
    exact c_lis hO _ _ _ (hK _ _ ⟨rfl, rfl⟩)
  · rintro p hp _ S' ⟨rfl, e⟩ R hK
    have hv : vp_in (nI p) 48 := vp_in_nI (by omega) (by omega)
    have f1 := itZ_f (laS_f 33 (clS S ca (hour - 1))) (upA (upA S 15 (lsn S (hour - 1) at' (fch S (S 9 7).toNatClampNeg) (S 9 7).toNatClampNeg).2) 14 (lsn S (hour - 1) at' (fch S (S 9 7).toNatClampNeg) (S 9 7).toNatClampNeg).1) p
    rw [← e] at f1
    have h14 := f1 14 (by decide)
    have h10 := f1 10 (by decide)
    rw [upA_s] at h14
    rw [upA_n _ _ (by decide), upA_n _ _ (by decide)] at h10
    simp only [sw3_c, sw3_n, Nat.reduceEqDiff, not_false_eq_true, Nat.zero_le, Nat.reduceLeDiff, Nat.reduceLT, Nat.reduceAdd, sg_s, ↓kif_0, ↓kif_c, ↓reduceIte, nl_n, nl_i, nl_r, List.length_cons, List.length_nil, true_and, and_true, upA_s, upA_n, upA_u, Prod.mk.injEq, and_self, Fr_33_15, Fr_33_2, Fr_46_15, Fr_46_2, Ld_44, Ld_57, oC_9, oL_33, oL_46, oZ_44, oZ_57, (j_aload_n_0 dX0_listenAhead_0 (n := 1) rfl), (j_getf dX0_listenAhead_1 (n := 4) rfl cF_0_57), (j_iload_n_1 dX0_listenAhead_4 (n := 5) rfl), (j_iconst dX0_listenAhead_5 (n := 6) rfl ki_1), (j_isub dX0_listenAhead_6 (n := 7) rfl), (j_iload_n_2 dX0_listenAhead_7 (n := 8) rfl), (j_cv2v (M := mX0_listenAhead) dX0_listenAhead_8 (n := 11) rfl cM_0_103 (Or.inl rfl) lv_X0_listenAhead_X6_listen rfl (oc := 6) rfl), (j_iconst dX0_listenAhead_11 (n := 12) rfl ki_0), (j_istore_n_3 dX0_listenAhead_12 (n := 13) rfl), (j_iload_n_3 dX0_listenAhead_13 (n := 14) rfl), (j_bipush dX0_listenAhead_14 (n := 16) rfl kb_48), (j_ic_ge dX0_listenAhead_16 (n := 19) rfl br_16_23), (j_aload_n_0 dX0_listenAhead_19 (n := 20) rfl), (j_getf dX0_listenAhead_20 (n := 23) rfl cF_0_42), (j_iload_n_3 dX0_listenAhead_23 (n := 24) rfl), (j_aload_n_0 dX0_listenAhead_24 (n := 25) rfl), (j_getf dX0_listenAhead_25 (n := 28) rfl cF_0_57), (j_iload_n_3 dX0_listenAhead_28 (n := 29) rfl), (j_cv1i (M := mX0_listenAhead) dX0_listenAhead_29 (n := 32) rfl cM_0_108 (Or.inl rfl) lv_X0_listenAhead_X6_calls rfl (oc := 6) rfl), (j_bast dX0_listenAhead_32 (n := 33) rfl), (j_iinc_3 dX0_listenAhead_33 (n := 36) rfl ki_1), (j_goto dX0_listenAhead_36 (n := 39) rfl br_36_m23), (j_ret (M := mX0_listenAhead) dX0_listenAhead_39 (n := 40) rfl rfl), nl_x, pk_us]
    rw [if_pos (nI_48 hp), nI_1]
    refine c_cl hO hg h14 h10 hp _ ?_
    rw [nar_b (bI_01 _), nI_clamp (n := p) (by omega)]
    refine ⟨hv, hK _ _ ⟨rfl, ?_⟩⟩
    rw [itZ, ← e]
    rfl
  · rintro _ S' ⟨rfl, e⟩ R
    simp only [sw3_c, sw3_n, Nat.reduceEqDiff, not_false_eq_true, Nat.zero_le, Nat.reduceLeDiff, Nat.reduceLT, Nat.reduceAdd, sg_s, ↓kif_0, ↓kif_c, ↓reduceIte, nl_n, nl_i, nl_r, List.length_cons, List.length_nil, true_and, and_true, upA_s, upA_n, upA_u, Prod.mk.injEq, and_self, Fr_33_15, Fr_33_2, Fr_46_15, Fr_46_2, Ld_44, Ld_57, oC_9, oL_33, oL_46, oZ_44, oZ_57, (j_aload_n_0 dX0_listenAhead_0 (n := 1) rfl), (j_getf dX0_listenAhead_1 (n := 4) rfl cF_0_57), (j_iload_n_1 dX0_listenAhead_4 (n := 5) rfl), (j_iconst dX0_listenAhead_5 (n := 6) rfl ki_1), (j_isub dX0_listenAhead_6 (n := 7) rfl), (j_iload_n_2 dX0_listenAhead_7 (n := 8) rfl), (j_cv2v (M := mX0_listenAhead) dX0_listenAhead_8 (n := 11) rfl cM_0_103 (Or.inl rfl) lv_X0_listenAhead_X6_listen rfl (oc := 6) rfl), (j_iconst dX0_listenAhead_11 (n := 12) rfl ki_0), (j_istore_n_3 dX0_listenAhead_12 (n := 13) rfl), (j_iload_n_3 dX0_listenAhead_13 (n := 14) rfl), (j_bipush dX0_listenAhead_14 (n := 16) rfl kb_48), (j_ic_ge dX0_listenAhead_16 (n := 19) rfl br_16_23), (j_aload_n_0 dX0_listenAhead_19 (n := 20) rfl), (j_getf dX0_listenAhead_20 (n := 23) rfl cF_0_42), (j_iload_n_3 dX0_listenAhead_23 (n := 24) rfl), (j_aload_n_0 dX0_listenAhead_24 (n := 25) rfl), (j_getf dX0_listenAhead_25 (n := 28) rfl cF_0_57), (j_iload_n_3 dX0_listenAhead_28 (n := 29) rfl), (j_cv1i (M := mX0_listenAhead) dX0_listenAhead_29 (n := 32) rfl cM_0_108 (Or.inl rfl) lv_X0_listenAhead_X6_calls rfl (oc := 6) rfl), (j_bast dX0_listenAhead_32 (n := 33) rfl), (j_iinc_3 dX0_listenAhead_33 (n := 36) rfl ki_1), (j_goto dX0_listenAhead_36 (n := 39) rfl br_36_m23), (j_ret (M := mX0_listenAhead) dX0_listenAhead_39 (n := 40) rfl rfl), nl_x, pk_us]
    rw [if_neg (by decide), e]
    exact h _ _
set_option maxHeartbeats 4000000 in
theorem c_stp33 (hour at' ca : Int32) (S : xA) (f : xP) (c : Nat) (hB : Bs S c) (hg : Hg S at' ca) (h : ∀ S' r, hrR 33 hour (clS S ca hour) c S S' r → f r S') : CI mX0_step [.ref (33 : Nat), .int hour, .int at'] S f := by
  obtain ⟨hR, -, -, hc40, -⟩ := id hB
  refine ci_of (T := mX0_step) (fv := fun _ => True) (ls := [some (.ref (33 : Nat)), some (.int hour), some (.int at'), none]) rfl (Nat.le_of_ble_eq_true rfl) (by decide) rfl rfl rfl (ok_for cX0_step 0 80 47 c (fun l ls S' => ls = [some (.ref (33 : Nat)), some (.int hour), some (.int at'), some (.int (nI l))] ∧ ∃ g w1 w2 : Nat → Int32, (∀ i, i < 7 → g i = fcS S hour i) ∧ S' = itZ (sdS 33 hour) (hp2 33 hour (clS S ca hour) (upA (upA (upA S 45 g) 15 w2) 14 w1) c) l) rfl rfl ?_ ?_ ?_)
  · intro R hK
    simp only [sw3_c, sw3_n, Nat.reduceEqDiff, not_false_eq_true, Nat.zero_le, Nat.reduceLeDiff, Nat.reduceLT, Nat.reduceAdd, sg_s, ↓kif_0, ↓kif_c, ↓reduceIte, nl_n, nl_i, nl_r, List.length_cons, List.length_nil, true_and, and_true, upA_s, upA_n, upA_u, Prod.mk.injEq, and_self, Fr_26_4, Fr_26_6, Fr_33_12, Fr_33_16, Fr_33_2, Fr_33_3, Fr_33_4, Fr_46_12, Fr_46_16, Fr_46_2, Fr_46_3, Fr_46_4, Ld_31, Ld_41, Ld_45, Ld_54, Ld_58, oA_31, oA_41, oA_45, oA_54, oA_58, oC_16, oC_33, oC_46, oC_9, oL_26, oL_33, oL_46, (j_aload_n_0 dX0_step_0 (n := 1) rfl), (j_getf dX0_step_1 (n := 4) rfl cF_0_61), (j_iload_n_1 dX0_step_4 (n := 5) rfl), (j_aload_n_0 dX0_step_5 (n := 6) rfl), (j_getf dX0_step_6 (n := 9) rfl cF_0_46), (j_cv2v (M := mX0_step) dX0_step_9 (n := 12) rfl cM_0_112 (Or.inl rfl) lv_X0_step_X8_holdIn rfl (oc := 8) rfl), (j_aload_n_0 dX0_step_12 (n := 13) rfl), (j_getf dX0_step_13 (n := 16) rfl cF_0_57), (j_iload_n_1 dX0_step_16 (n := 17) rfl), (j_iload_n_2 dX0_step_17 (n := 18) rfl), (j_cv2v (M := mX0_step) dX0_step_18 (n := 21) rfl cM_0_103 (Or.inl rfl) lv_X0_step_X6_listen rfl (oc := 6) rfl), (j_aload_n_0 dX0_step_21 (n := 22) rfl), (j_iload_n_1 dX0_step_22 (n := 23) rfl), (j_cv1v (M := mX0_step) dX0_step_23 (n := 26) rfl cM_0_118 (Or.inl rfl) lv_X0_step_X0_arrive rfl (oc := 0) rfl), (j_aload_n_0 dX0_step_26 (n := 27) rfl), (j_cv0v (M := mX0_step) dX0_step_27 (n := 30) rfl cM_0_122 (Or.inl rfl) lv_X0_step_X0_callOut rfl (oc := 0) rfl), (j_iload_n_1 dX0_step_30 (n := 31) rfl), (j_if_le dX0_step_31 (n := 34) rfl br_31_14), (j_iload_n_1 dX0_step_34 (n := 35) rfl), (j_bipush dX0_step_35 (n := 37) rfl kb_24), (j_irem dX0_step_37 (n := 38) rfl), (j_if_ne dX0_step_38 (n := 41) rfl br_38_7), (j_aload_n_0 dX0_step_41 (n := 42) rfl), (j_cv0v (M := mX0_step) dX0_step_42 (n := 45) rfl cM_0_125 (Or.inl rfl) lv_X0_step_X0_payAll rfl (oc := 0) rfl), (j_iconst dX0_step_45 (n := 46) rfl ki_0), (j_istore_n_3 dX0_step_46 (n := 47) rfl), (j_iload_n_3 dX0_step_47 (n := 48) rfl), (j_aload_n_0 dX0_step_48 (n := 49) rfl), (j_getf dX0_step_49 (n := 52) rfl cF_0_65), (j_getf dX0_step_52 (n := 55) rfl cF_0_89), (j_ic_ge dX0_step_55 (n := 58) rfl br_55_37), (j_aload_n_0 dX0_step_58 (n := 59) rfl), (j_getf dX0_step_59 (n := 62) rfl cF_0_33), (j_iload_n_3 dX0_step_62 (n := 63) rfl), (j_iald dX0_step_63 (n := 64) rfl), (j_if_ne dX0_step_64 (n := 67) rfl br_64_22), (j_aload_n_0 dX0_step_67 (n := 68) rfl), (j_getf dX0_step_68 (n := 71) rfl cF_0_65), (j_getf dX0_step_71 (n := 74) rfl cF_0_128), (j_iload_n_3 dX0_step_74 (n := 75) rfl), (j_iald dX0_step_75 (n := 76) rfl), (j_iload_n_1 dX0_step_76 (n := 77) rfl), (j_ic_gt dX0_step_77 (n := 80) rfl br_77_9), (j_aload_n_0 dX0_step_80 (n := 81) rfl), (j_iload_n_3 dX0_step_81 (n := 82) rfl), (j_iload_n_1 dX0_step_82 (n := 83) rfl), (j_cv2v (M := mX0_step) dX0_step_83 (n := 86) rfl cM_0_131 (Or.inl rfl) lv_X0_step_X0_send rfl (oc := 0) rfl), (j_iinc_3 dX0_step_86 (n := 89) rfl ki_1), (j_goto dX0_step_89 (n := 92) rfl br_89_m42), (j_aload_n_0 dX0_step_92 (n := 93) rfl), (j_iload_n_1 dX0_step_93 (n := 94) rfl), (j_cv1i (M := mX0_step) dX0_step_94 (n := 97) rfl cM_0_135 (Or.inl rfl) lv_X0_step_X0_use rfl (oc := 0) rfl), (j_iret dX0_step_97 (n := 98) rfl), rOk_i (M := mX0_step) rfl, nl_x, pk_us]
    refine c_holdIn _ _ _ _ (by decide) (by decide) (by decide) (by decide) hR (fun g hg7 => ?_)
    have hn : ∀ q, q ∈ bNs → upA S 45 g q = S q := fun q hq => upA_n _ _ (fun e => by revert hq; rw [e]; decide)
    have hB1 := Bs_c hn hB
    have hg1 := Hg_c hn hg
    obtain ⟨hR1, hO1, hc1, -, hl1⟩ := id hB1
    refine c_lis hO1 _ _ _ ?_
    have hn2 : ∀ w1 w2 : Nat → Int32, ∀ q, q ∈ bNs → upA (upA (upA S 45 g) 15 w2) 14 w1 q = S q := fun w1 w2 q hq => by
      rw [upA_n _ _ (fun e => by revert hq; rw [e]; decide), upA_n _ _ (fun e => by revert hq; rw [e]; decide), hn q hq]
    refine c_arr33 hour _ _ c ?_ hc40 ?_ ?_
    · rw [hn2 _ _ 26 (by decide)]; exact hB.2.2.1
    · rw [hn2 _ _ 27 (by decide), hn2 _ _ 30 (by decide)]; exact fun l hl => ⟨(hB.2.2.2.2 l hl).1, (hB.2.2.2.2 l hl).2.2⟩
    · refine c_cao33 (clS S ca hour) _ _ ?_ ?_
      · intro p hp S' f' e14 e10 hf
        have fa := itZ_f (arS_f 33 hour) (upA (upA (upA S 45 g) 15 (lsn (upA S 45 g) hour at' (fch (upA S 45 g) (upA S 45 g 9 7).toNatClampNeg) (upA S 45 g 9 7).toNatClampNeg).2) 14 (lsn (upA S 45 g) hour at' (fch (upA S 45 g) (upA S 45 g 9 7).toNatClampNeg) (upA S 45 g 9 7).toNatClampNeg).1) c
        rw [fa 14 (by decide), upA_s] at e14
        rw [fa 10 (by decide), upA_n _ _ (by decide), upA_n _ _ (by decide)] at e10
        refine c_cl hO1 hg1 e14 e10 hp _ ?_
        rw [clS_c (fun q hq => hn q (by revert hq; revert q; decide))]
        exact hf
      · have fin : ∀ Z, Z = hp2 33 hour (clS S ca hour) (upA (upA (upA S 45 g) 15 (lsn (upA S 45 g) hour at' (fch (upA S 45 g) (upA S 45 g 9 7).toNatClampNeg) (upA S 45 g 9 7).toNatClampNeg).2) 14 (lsn (upA S 45 g) hour at' (fch (upA S 45 g) (upA S 45 g 9 7).toNatClampNeg) (upA S 45 g 9 7).toNatClampNeg).1) c → R [some (.ref (33 : Nat)), some (.int hour), some (.int at'), some (.int 0)] [] Z := fun Z e => hK _ _ ⟨rfl, g, _, _, hg7, e⟩
        refine ite_i (fun q => ⟨by decide, ite_i (fun q2 => c_pya33 _ _ (fin _ ?_)) (fun q2 => fin _ ?_)⟩) (fun q => fin _ ?_)
        · rw [hp2, if_pos (show dyS hour = true from decide_eq_true ⟨q, q2⟩)]
          rfl
        · rw [hp2, if_neg (show ¬ dyS hour = true by unfold dyS; rw [decide_eq_true_eq]; exact fun w => q2 w.2)]
          rfl
        · rw [hp2, if_neg (show ¬ dyS hour = true by unfold dyS; rw [decide_eq_true_eq]; exact fun w => q w.1)]
          rfl
  · rintro l hl _ S' ⟨rfl, g, w1, w2, hg7, e⟩ R hK
    have hv : vp_in (nI l) 40 := vp_in_nI (by omega) (by omega)
    have f1 : frm (LC 33) S S' := by
      rw [e]
      exact frm_tr (frm_tr (frm_up (frm_up (frm_up (frm_rf _ _) (by decide)) (by decide)) (by decide)) (hp2_f 33 hour (clS S ca hour) _ c) (by decide)) (itZ_f (sdS_f 33 hour) _ l) (by decide)
    have hl3 := hB.2.2.2.2 l hl
    have key : ∀ Z, Z = sdS 33 hour S' l → R [some (.ref (33 : Nat)), some (.int hour), some (.int at'), some (.int (nI (l + 1)))] [] Z := fun Z q => hK _ _ ⟨rfl, g, w1, w2, hg7, by rw [itZ, ← e]; exact q⟩
    simp only [sw3_c, sw3_n, Nat.reduceEqDiff, not_false_eq_true, Nat.zero_le, Nat.reduceLeDiff, Nat.reduceLT, Nat.reduceAdd, sg_s, ↓kif_0, ↓kif_c, ↓reduceIte, nl_n, nl_i, nl_r, List.length_cons, List.length_nil, true_and, and_true, upA_s, upA_n, upA_u, Prod.mk.injEq, and_self, Fr_26_4, Fr_26_6, Fr_33_12, Fr_33_16, Fr_33_2, Fr_33_3, Fr_33_4, Fr_46_12, Fr_46_16, Fr_46_2, Fr_46_3, Fr_46_4, Ld_31, Ld_41, Ld_45, Ld_54, Ld_58, oA_31, oA_41, oA_45, oA_54, oA_58, oC_16, oC_33, oC_46, oC_9, oL_26, oL_33, oL_46, (j_aload_n_0 dX0_step_0 (n := 1) rfl), (j_getf dX0_step_1 (n := 4) rfl cF_0_61), (j_iload_n_1 dX0_step_4 (n := 5) rfl), (j_aload_n_0 dX0_step_5 (n := 6) rfl), (j_getf dX0_step_6 (n := 9) rfl cF_0_46), (j_cv2v (M := mX0_step) dX0_step_9 (n := 12) rfl cM_0_112 (Or.inl rfl) lv_X0_step_X8_holdIn rfl (oc := 8) rfl), (j_aload_n_0 dX0_step_12 (n := 13) rfl), (j_getf dX0_step_13 (n := 16) rfl cF_0_57), (j_iload_n_1 dX0_step_16 (n := 17) rfl), (j_iload_n_2 dX0_step_17 (n := 18) rfl), (j_cv2v (M := mX0_step) dX0_step_18 (n := 21) rfl cM_0_103 (Or.inl rfl) lv_X0_step_X6_listen rfl (oc := 6) rfl), (j_aload_n_0 dX0_step_21 (n := 22) rfl), (j_iload_n_1 dX0_step_22 (n := 23) rfl), (j_cv1v (M := mX0_step) dX0_step_23 (n := 26) rfl cM_0_118 (Or.inl rfl) lv_X0_step_X0_arrive rfl (oc := 0) rfl), (j_aload_n_0 dX0_step_26 (n := 27) rfl), (j_cv0v (M := mX0_step) dX0_step_27 (n := 30) rfl cM_0_122 (Or.inl rfl) lv_X0_step_X0_callOut rfl (oc := 0) rfl), (j_iload_n_1 dX0_step_30 (n := 31) rfl), (j_if_le dX0_step_31 (n := 34) rfl br_31_14), (j_iload_n_1 dX0_step_34 (n := 35) rfl), (j_bipush dX0_step_35 (n := 37) rfl kb_24), (j_irem dX0_step_37 (n := 38) rfl), (j_if_ne dX0_step_38 (n := 41) rfl br_38_7), (j_aload_n_0 dX0_step_41 (n := 42) rfl), (j_cv0v (M := mX0_step) dX0_step_42 (n := 45) rfl cM_0_125 (Or.inl rfl) lv_X0_step_X0_payAll rfl (oc := 0) rfl), (j_iconst dX0_step_45 (n := 46) rfl ki_0), (j_istore_n_3 dX0_step_46 (n := 47) rfl), (j_iload_n_3 dX0_step_47 (n := 48) rfl), (j_aload_n_0 dX0_step_48 (n := 49) rfl), (j_getf dX0_step_49 (n := 52) rfl cF_0_65), (j_getf dX0_step_52 (n := 55) rfl cF_0_89), (j_ic_ge dX0_step_55 (n := 58) rfl br_55_37), (j_aload_n_0 dX0_step_58 (n := 59) rfl), (j_getf dX0_step_59 (n := 62) rfl cF_0_33), (j_iload_n_3 dX0_step_62 (n := 63) rfl), (j_iald dX0_step_63 (n := 64) rfl), (j_if_ne dX0_step_64 (n := 67) rfl br_64_22), (j_aload_n_0 dX0_step_67 (n := 68) rfl), (j_getf dX0_step_68 (n := 71) rfl cF_0_65), (j_getf dX0_step_71 (n := 74) rfl cF_0_128), (j_iload_n_3 dX0_step_74 (n := 75) rfl), (j_iald dX0_step_75 (n := 76) rfl), (j_iload_n_1 dX0_step_76 (n := 77) rfl), (j_ic_gt dX0_step_77 (n := 80) rfl br_77_9), (j_aload_n_0 dX0_step_80 (n := 81) rfl), (j_iload_n_3 dX0_step_81 (n := 82) rfl), (j_iload_n_1 dX0_step_82 (n := 83) rfl), (j_cv2v (M := mX0_step) dX0_step_83 (n := 86) rfl cM_0_131 (Or.inl rfl) lv_X0_step_X0_send rfl (oc := 0) rfl), (j_iinc_3 dX0_step_86 (n := 89) rfl ki_1), (j_goto dX0_step_89 (n := 92) rfl br_89_m42), (j_aload_n_0 dX0_step_92 (n := 93) rfl), (j_iload_n_1 dX0_step_93 (n := 94) rfl), (j_cv1i (M := mX0_step) dX0_step_94 (n := 97) rfl cM_0_135 (Or.inl rfl) lv_X0_step_X0_use rfl (oc := 0) rfl), (j_iret dX0_step_97 (n := 98) rfl), rOk_i (M := mX0_step) rfl, nl_x, pk_us, f1 26 (by decide), f1 31 (by decide), hB.2.2.1]
    rw [if_pos (nI_lt hl (by omega)), nI_clamp (n := l) (by omega), nI_1]
    have no : ¬ (S' 41 l = 0 ∧ ¬ hour < S 31 l) → S' = sdS 33 hour S' l := fun q => by rw [sdS, if_neg (by rw [decide_eq_true_eq, f1 31 (by decide)]; exact q)]
    refine ⟨hv, ite_i (fun q => ⟨hv, ite_i (fun q2 => key _ (no (fun w => w.2 q2))) (fun q2 => ?_)⟩) (fun q => key _ (no (fun w => q w.1)))⟩
    refine c_snd33 l hour S' _ (by omega) (by rw [f1 27 (by decide)]; exact hl3.1) (by rw [f1 29 (by decide)]; exact hl3.2.1) (by rw [f1 30 (by decide)]; exact hl3.2.2) (key _ ?_)
    rw [sdS, if_pos (by rw [decide_eq_true_eq, f1 31 (by decide)]; exact ⟨q, q2⟩)]
  · rintro _ S' ⟨rfl, g, w1, w2, hg7, e⟩ R
    have f1 : frm (LC 33) S S' := by
      rw [e]
      exact frm_tr (frm_tr (frm_up (frm_up (frm_up (frm_rf _ _) (by decide)) (by decide)) (by decide)) (hp2_f 33 hour (clS S ca hour) _ c) (by decide)) (itZ_f (sdS_f 33 hour) _ c) (by decide)
    simp only [sw3_c, sw3_n, Nat.reduceEqDiff, not_false_eq_true, Nat.zero_le, Nat.reduceLeDiff, Nat.reduceLT, Nat.reduceAdd, sg_s, ↓kif_0, ↓kif_c, ↓reduceIte, nl_n, nl_i, nl_r, List.length_cons, List.length_nil, true_and, and_true, upA_s, upA_n, upA_u, Prod.mk.injEq, and_self, Fr_26_4, Fr_26_6, Fr_33_12, Fr_33_16, Fr_33_2, Fr_33_3, Fr_33_4, Fr_46_12, Fr_46_16, Fr_46_2, Fr_46_3, Fr_46_4, Ld_31, Ld_41, Ld_45, Ld_54, Ld_58, oA_31, oA_41, oA_45, oA_54, oA_58, oC_16, oC_33, oC_46, oC_9, oL_26, oL_33, oL_46, (j_aload_n_0 dX0_step_0 (n := 1) rfl), (j_getf dX0_step_1 (n := 4) rfl cF_0_61), (j_iload_n_1 dX0_step_4 (n := 5) rfl), (j_aload_n_0 dX0_step_5 (n := 6) rfl), (j_getf dX0_step_6 (n := 9) rfl cF_0_46), (j_cv2v (M := mX0_step) dX0_step_9 (n := 12) rfl cM_0_112 (Or.inl rfl) lv_X0_step_X8_holdIn rfl (oc := 8) rfl), (j_aload_n_0 dX0_step_12 (n := 13) rfl), (j_getf dX0_step_13 (n := 16) rfl cF_0_57), (j_iload_n_1 dX0_step_16 (n := 17) rfl), (j_iload_n_2 dX0_step_17 (n := 18) rfl), (j_cv2v (M := mX0_step) dX0_step_18 (n := 21) rfl cM_0_103 (Or.inl rfl) lv_X0_step_X6_listen rfl (oc := 6) rfl), (j_aload_n_0 dX0_step_21 (n := 22) rfl), (j_iload_n_1 dX0_step_22 (n := 23) rfl), (j_cv1v (M := mX0_step) dX0_step_23 (n := 26) rfl cM_0_118 (Or.inl rfl) lv_X0_step_X0_arrive rfl (oc := 0) rfl), (j_aload_n_0 dX0_step_26 (n := 27) rfl), (j_cv0v (M := mX0_step) dX0_step_27 (n := 30) rfl cM_0_122 (Or.inl rfl) lv_X0_step_X0_callOut rfl (oc := 0) rfl), (j_iload_n_1 dX0_step_30 (n := 31) rfl), (j_if_le dX0_step_31 (n := 34) rfl br_31_14), (j_iload_n_1 dX0_step_34 (n := 35) rfl), (j_bipush dX0_step_35 (n := 37) rfl kb_24), (j_irem dX0_step_37 (n := 38) rfl), (j_if_ne dX0_step_38 (n := 41) rfl br_38_7), (j_aload_n_0 dX0_step_41 (n := 42) rfl), (j_cv0v (M := mX0_step) dX0_step_42 (n := 45) rfl cM_0_125 (Or.inl rfl) lv_X0_step_X0_payAll rfl (oc := 0) rfl), (j_iconst dX0_step_45 (n := 46) rfl ki_0), (j_istore_n_3 dX0_step_46 (n := 47) rfl), (j_iload_n_3 dX0_step_47 (n := 48) rfl), (j_aload_n_0 dX0_step_48 (n := 49) rfl), (j_getf dX0_step_49 (n := 52) rfl cF_0_65), (j_getf dX0_step_52 (n := 55) rfl cF_0_89), (j_ic_ge dX0_step_55 (n := 58) rfl br_55_37), (j_aload_n_0 dX0_step_58 (n := 59) rfl), (j_getf dX0_step_59 (n := 62) rfl cF_0_33), (j_iload_n_3 dX0_step_62 (n := 63) rfl), (j_iald dX0_step_63 (n := 64) rfl), (j_if_ne dX0_step_64 (n := 67) rfl br_64_22), (j_aload_n_0 dX0_step_67 (n := 68) rfl), (j_getf dX0_step_68 (n := 71) rfl cF_0_65), (j_getf dX0_step_71 (n := 74) rfl cF_0_128), (j_iload_n_3 dX0_step_74 (n := 75) rfl), (j_iald dX0_step_75 (n := 76) rfl), (j_iload_n_1 dX0_step_76 (n := 77) rfl), (j_ic_gt dX0_step_77 (n := 80) rfl br_77_9), (j_aload_n_0 dX0_step_80 (n := 81) rfl), (j_iload_n_3 dX0_step_81 (n := 82) rfl), (j_iload_n_1 dX0_step_82 (n := 83) rfl), (j_cv2v (M := mX0_step) dX0_step_83 (n := 86) rfl cM_0_131 (Or.inl rfl) lv_X0_step_X0_send rfl (oc := 0) rfl), (j_iinc_3 dX0_step_86 (n := 89) rfl ki_1), (j_goto dX0_step_89 (n := 92) rfl br_89_m42), (j_aload_n_0 dX0_step_92 (n := 93) rfl), (j_iload_n_1 dX0_step_93 (n := 94) rfl), (j_cv1i (M := mX0_step) dX0_step_94 (n := 97) rfl cM_0_135 (Or.inl rfl) lv_X0_step_X0_use rfl (oc := 0) rfl), (j_iret dX0_step_97 (n := 98) rfl), rOk_i (M := mX0_step) rfl, nl_x, pk_us, f1 26 (by decide), hB.2.2.1]
    rw [if_neg (nI_nlt (Nat.le_refl _) (by omega))]
    refine c_use33 hour S' _ (h _ _ ⟨g, w1, w2, hg7, ?_, ?_⟩)
    · rw [e]
      rfl
    · rw [e]
      rfl
set_option maxHeartbeats 4000000 in
theorem c_run33 (a n : Nat) (at' ca : Int32) (S : xA) (f : xP) (c : Nat) (hB : Bs S c) (hg : Hg S at' ca) (han : a + n ≤ 240) (h : ∀ (Zs : Nat → xA) (rs : Nat → Int32), (∃ w1 w2, Zs 0 = itZ (laS 33 (clS S ca (nI a - 1))) (upA (upA S 15 w2) 14 w1) 48) → (∀ k, k < n → hrR 33 (nI (a + k)) (clS S ca (nI (a + k))) c (Zs k) (Zs (k + 1)) (rs k)) → frm (LC 33) S (Zs n) → f (sumF rs n) (Zs n)) : CI mX0_run [.ref (33 : Nat), .int (nI a), .int (nI n), .int at'] S f := by
  refine ci_of (T := mX0_run) (fv := fun _ => True) (ls := [some (.ref (33 : Nat)), some (.int (nI a)), some (.int (nI n)), some (.int at'), none, none]) rfl (Nat.le_of_ble_eq_true rfl) (by decide) rfl rfl rfl (ok_for cX0_run 0 60 12 n (fun k ls S' => ∃ (Zs : Nat → xA) (rs : Nat → Int32), ls = [some (.ref (33 : Nat)), some (.int (nI a)), some (.int (nI n)), some (.int at'), some (.int (sumF rs k)), some (.int (nI (a + k)))] ∧ (∃ w1 w2, Zs 0 = itZ (laS 33 (clS S ca (nI a - 1))) (upA (upA S 15 w2) 14 w1) 48) ∧ (∀ j, j < k → hrR 33 (nI (a + j)) (clS S ca (nI (a + j))) c (Zs j) (Zs (j + 1)) (rs j)) ∧ frm (LC 33) S (Zs k) ∧ S' = Zs k) rfl rfl ?_ ?_ ?_)
  · intro R hK
    simp only [sw3_c, sw3_n, Nat.reduceEqDiff, not_false_eq_true, Nat.zero_le, Nat.reduceLeDiff, Nat.reduceLT, Nat.reduceAdd, sg_s, ↓kif_0, ↓kif_c, ↓reduceIte, nl_n, nl_i, nl_r, List.length_cons, List.length_nil, true_and, and_true, upA_s, upA_n, upA_u, Prod.mk.injEq, and_self, oC_33, oC_46, (j_aload_n_0 dX0_run_0 (n := 1) rfl), (j_iload_n_1 dX0_run_1 (n := 2) rfl), (j_iload_n_3 dX0_run_2 (n := 3) rfl), (j_cv2v (M := mX0_run) dX0_run_3 (n := 6) rfl cM_0_95 (Or.inl rfl) lv_X0_run_X0_listenAhead rfl (oc := 0) rfl), (j_iconst dX0_run_6 (n := 7) rfl ki_0), (j_istore_4 dX0_run_7 (n := 9) rfl), (j_iload_n_1 dX0_run_9 (n := 10) rfl), (j_istore_5 dX0_run_10 (n := 12) rfl), (j_iload_5 dX0_run_12 (n := 14) rfl), (j_iload_n_1 dX0_run_14 (n := 15) rfl), (j_iload_n_2 dX0_run_15 (n := 16) rfl), (j_iadd dX0_run_16 (n := 17) rfl), (j_ic_ge dX0_run_17 (n := 20) rfl br_17_21), (j_iload_4 dX0_run_20 (n := 22) rfl), (j_aload_n_0 dX0_run_22 (n := 23) rfl), (j_iload_5 dX0_run_23 (n := 25) rfl), (j_iload_n_3 dX0_run_25 (n := 26) rfl), (j_cv2i (M := mX0_run) dX0_run_26 (n := 29) rfl cM_0_99 (Or.inl rfl) lv_X0_run_X0_step rfl (oc := 0) rfl), (j_iadd dX0_run_29 (n := 30) rfl), (j_istore_4 dX0_run_30 (n := 32) rfl), (j_iinc_5 dX0_run_32 (n := 35) rfl ki_1), (j_goto dX0_run_35 (n := 38) rfl br_35_m23), (j_iload_4 dX0_run_38 (n := 40) rfl), (j_iret dX0_run_40 (n := 41) rfl), rOk_i (M := mX0_run) rfl, nl_x, pk_us]
    refine c_lah33 _ _ ca _ _ hB.2.1 hg (fun w1 w2 => hK _ _ ⟨fun _ => itZ (laS 33 (clS S ca (nI a - 1))) (upA (upA S 15 w2) 14 w1) 48, fun _ => 0, rfl, ⟨w1, w2, rfl⟩, fun j hj => by omega, ?_, rfl⟩)
    exact frm_tr (frm_up (frm_up (frm_rf _ _) (by decide)) (by decide)) (itZ_f (laS_f 33 _) _ 48) (by decide)
  · rintro k hk _ S' ⟨Zs, rs, rfl, h0, h1, h2, rfl⟩ R hK
    simp only [sw3_c, sw3_n, Nat.reduceEqDiff, not_false_eq_true, Nat.zero_le, Nat.reduceLeDiff, Nat.reduceLT, Nat.reduceAdd, sg_s, ↓kif_0, ↓kif_c, ↓reduceIte, nl_n, nl_i, nl_r, List.length_cons, List.length_nil, true_and, and_true, upA_s, upA_n, upA_u, Prod.mk.injEq, and_self, oC_33, oC_46, (j_aload_n_0 dX0_run_0 (n := 1) rfl), (j_iload_n_1 dX0_run_1 (n := 2) rfl), (j_iload_n_3 dX0_run_2 (n := 3) rfl), (j_cv2v (M := mX0_run) dX0_run_3 (n := 6) rfl cM_0_95 (Or.inl rfl) lv_X0_run_X0_listenAhead rfl (oc := 0) rfl), (j_iconst dX0_run_6 (n := 7) rfl ki_0), (j_istore_4 dX0_run_7 (n := 9) rfl), (j_iload_n_1 dX0_run_9 (n := 10) rfl), (j_istore_5 dX0_run_10 (n := 12) rfl), (j_iload_5 dX0_run_12 (n := 14) rfl), (j_iload_n_1 dX0_run_14 (n := 15) rfl), (j_iload_n_2 dX0_run_15 (n := 16) rfl), (j_iadd dX0_run_16 (n := 17) rfl), (j_ic_ge dX0_run_17 (n := 20) rfl br_17_21), (j_iload_4 dX0_run_20 (n := 22) rfl), (j_aload_n_0 dX0_run_22 (n := 23) rfl), (j_iload_5 dX0_run_23 (n := 25) rfl), (j_iload_n_3 dX0_run_25 (n := 26) rfl), (j_cv2i (M := mX0_run) dX0_run_26 (n := 29) rfl cM_0_99 (Or.inl rfl) lv_X0_run_X0_step rfl (oc := 0) rfl), (j_iadd dX0_run_29 (n := 30) rfl), (j_istore_4 dX0_run_30 (n := 32) rfl), (j_iinc_5 dX0_run_32 (n := 35) rfl ki_1), (j_goto dX0_run_35 (n := 38) rfl br_35_m23), (j_iload_4 dX0_run_38 (n := 40) rfl), (j_iret dX0_run_40 (n := 41) rfl), rOk_i (M := mX0_run) rfl, nl_x, pk_us]
    have hn : ∀ q, q ∈ bNs → Zs k q = S q := fun q hq => h2 q (LC_b33 q hq)
    rw [nI_add, if_pos (nI_lt (by omega) (by omega)), nI_1]
    refine c_stp33 (nI (a + k)) at' ca _ _ c (Bs_c hn hB) (Hg_c hn hg) (fun S' r hr => ?_)
    have hcl : clS (Zs k) ca (nI (a + k)) = clS S ca (nI (a + k)) := clS_c (fun q hq => hn q (by revert hq; revert q; decide)) _ _
    rw [hcl] at hr
    refine hK _ _ ⟨fun j => if j ≤ k then Zs j else S', fun j => if j < k then rs j else r, ?_, ?_, ?_, ?_, ?_⟩
    · have e : sumF (fun j => if j < k then rs j else r) (k + 1) = sumF rs k + r := by
        rw [sumF, sumF_eq k (b := rs) (fun j hj => if_pos hj), if_neg (by omega)]
      rw [e]
      rfl
    · obtain ⟨w1, w2, e⟩ := h0
      exact ⟨w1, w2, (if_pos (Nat.zero_le k)).trans e⟩
    · intro j hj
      simp only
      by_cases e : j = k
      · subst e
        rw [if_pos (Nat.le_refl _), if_neg (by omega), if_neg (by omega)]
        exact hr
      · rw [if_pos (by omega), if_pos (by omega), if_pos (by omega)]
        exact h1 j (by omega)
    · simp only
      rw [if_neg (by omega)]
      exact frm_tr h2 (hrR_f hr) (fun _ q => q)
    · simp only
      rw [if_neg (by omega)]
  · rintro _ _ ⟨Zs, rs, rfl, h0, h1, h2, rfl⟩ R
    simp only [sw3_c, sw3_n, Nat.reduceEqDiff, not_false_eq_true, Nat.zero_le, Nat.reduceLeDiff, Nat.reduceLT, Nat.reduceAdd, sg_s, ↓kif_0, ↓kif_c, ↓reduceIte, nl_n, nl_i, nl_r, List.length_cons, List.length_nil, true_and, and_true, upA_s, upA_n, upA_u, Prod.mk.injEq, and_self, oC_33, oC_46, (j_aload_n_0 dX0_run_0 (n := 1) rfl), (j_iload_n_1 dX0_run_1 (n := 2) rfl), (j_iload_n_3 dX0_run_2 (n := 3) rfl), (j_cv2v (M := mX0_run) dX0_run_3 (n := 6) rfl cM_0_95 (Or.inl rfl) lv_X0_run_X0_listenAhead rfl (oc := 0) rfl), (j_iconst dX0_run_6 (n := 7) rfl ki_0), (j_istore_4 dX0_run_7 (n := 9) rfl), (j_iload_n_1 dX0_run_9 (n := 10) rfl), (j_istore_5 dX0_run_10 (n := 12) rfl), (j_iload_5 dX0_run_12 (n := 14) rfl), (j_iload_n_1 dX0_run_14 (n := 15) rfl), (j_iload_n_2 dX0_run_15 (n := 16) rfl), (j_iadd dX0_run_16 (n := 17) rfl), (j_ic_ge dX0_run_17 (n := 20) rfl br_17_21), (j_iload_4 dX0_run_20 (n := 22) rfl), (j_aload_n_0 dX0_run_22 (n := 23) rfl), (j_iload_5 dX0_run_23 (n := 25) rfl), (j_iload_n_3 dX0_run_25 (n := 26) rfl), (j_cv2i (M := mX0_run) dX0_run_26 (n := 29) rfl cM_0_99 (Or.inl rfl) lv_X0_run_X0_step rfl (oc := 0) rfl), (j_iadd dX0_run_29 (n := 30) rfl), (j_istore_4 dX0_run_30 (n := 32) rfl), (j_iinc_5 dX0_run_32 (n := 35) rfl ki_1), (j_goto dX0_run_35 (n := 38) rfl br_35_m23), (j_iload_4 dX0_run_38 (n := 40) rfl), (j_iret dX0_run_40 (n := 41) rfl), rOk_i (M := mX0_run) rfl, nl_x, pk_us]
    rw [nI_add, if_neg (nI_nlt (Nat.le_refl _) (by omega))]
    exact h Zs rs h0 h1 h2
set_option maxRecDepth 10000 in
theorem LC_b46 : ∀ c, c ∈ bNs → c ∉ LC 46 := by decide
set_option maxHeartbeats 4000000 in
theorem c_lah46 (hour at' ca : Int32) (S : xA) (f : xA → Prop) (hO : Ord S) (hg : Hg S at' ca) (h : ∀ w1 w2, f (itZ (laS 46 (clS S ca (hour - 1))) (upA (upA S 15 w2) 14 w1) 48)) : CV mX0_listenAhead [.ref (46 : Nat), .int hour, .int at'] S f := by
  refine cv_of (T := mX0_listenAhead) (f := fun _ _ => True) (ls := [some (.ref (46 : Nat)), some (.int hour), some (.int at'), none]) rfl (Nat.le_of_ble_eq_true rfl) (by decide) rfl rfl rfl (ok_for cX0_listenAhead 0 60 13 48 (fun p ls S' => ls = [some (.ref (46 : Nat)), some (.int hour), some (.int at'), some (.int (nI p))] ∧ S' = itZ (laS 46 (clS S ca (hour - 1))) (upA (upA S 15 (lsn S (hour - 1) at' (fch S (S 9 7).toNatClampNeg) (S 9 7).toNatClampNeg).2) 14 (lsn S (hour - 1) at' (fch S (S 9 7).toNatClampNeg) (S 9 7).toNatClampNeg).1) p) rfl rfl ?_ ?_ ?_)
  · intro R hK
    simp only [sw3_c, sw3_n, Nat.reduceEqDiff, not_false_eq_true, Nat.zero_le, Nat.reduceLeDiff, Nat.reduceLT, Nat.reduceAdd, sg_s, ↓kif_0, ↓kif_c, ↓reduceIte, nl_n, nl_i, nl_r, List.length_cons, List.length_nil, true_and, and_true, upA_s, upA_n, upA_u, Prod.mk.injEq, and_self, Fr_33_15, Fr_33_2, Fr_46_15, Fr_46_2, Ld_44, Ld_57, oC_9, oL_33, oL_46, oZ_44, oZ_57, (j_aload_n_0 dX0_listenAhead_0 (n := 1) rfl), (j_getf dX0_listenAhead_1 (n := 4) rfl cF_0_57), (j_iload_n_1 dX0_listenAhead_4 (n := 5) rfl), (j_iconst dX0_listenAhead_5 (n := 6) rfl ki_1), (j_isub dX0_listenAhead_6 (n := 7) rfl), (j_iload_n_2 dX0_listenAhead_7 (n := 8) rfl), (j_cv2v (M := mX0_listenAhead) dX0_listenAhead_8 (n := 11) rfl cM_0_103 (Or.inl rfl) lv_X0_listenAhead_X6_listen rfl (oc := 6) rfl), (j_iconst dX0_listenAhead_11 (n := 12) rfl ki_0), (j_istore_n_3 dX0_listenAhead_12 (n := 13) rfl), (j_iload_n_3 dX0_listenAhead_13 (n := 14) rfl), (j_bipush dX0_listenAhead_14 (n := 16) rfl kb_48), (j_ic_ge dX0_listenAhead_16 (n := 19) rfl br_16_23), (j_aload_n_0 dX0_listenAhead_19 (n := 20) rfl), (j_getf dX0_listenAhead_20 (n := 23) rfl cF_0_42), (j_iload_n_3 dX0_listenAhead_23 (n := 24) rfl), (j_aload_n_0 dX0_listenAhead_24 (n := 25) rfl), (j_getf dX0_listenAhead_25 (n := 28) rfl cF_0_57), (j_iload_n_3 dX0_listenAhead_28 (n := 29) rfl), (j_cv1i (M := mX0_listenAhead) dX0_listenAhead_29 (n := 32) rfl cM_0_108 (Or.inl rfl) lv_X0_listenAhead_X6_calls rfl (oc := 6) rfl), (j_bast dX0_listenAhead_32 (n := 33) rfl), (j_iinc_3 dX0_listenAhead_33 (n := 36) rfl ki_1), (j_goto dX0_listenAhead_36 (n := 39) rfl br_36_m23), (j_ret (M := mX0_listenAhead) dX0_listenAhead_39 (n := 40) rfl rfl), nl_x, pk_us]
    exact c_lis hO _ _ _ (hK _ _ ⟨rfl, rfl⟩)
  · rintro p hp _ S' ⟨rfl, e⟩ R hK
    have hv : vp_in (nI p) 48 := vp_in_nI (by omega) (by omega)
    have f1 := itZ_f (laS_f 46 (clS S ca (hour - 1))) (upA (upA S 15 (lsn S (hour - 1) at' (fch S (S 9 7).toNatClampNeg) (S 9 7).toNatClampNeg).2) 14 (lsn S (hour - 1) at' (fch S (S 9 7).toNatClampNeg) (S 9 7).toNatClampNeg).1) p
    rw [← e] at f1
    have h14 := f1 14 (by decide)
    have h10 := f1 10 (by decide)
    rw [upA_s] at h14
    rw [upA_n _ _ (by decide), upA_n _ _ (by decide)] at h10
    simp only [sw3_c, sw3_n, Nat.reduceEqDiff, not_false_eq_true, Nat.zero_le, Nat.reduceLeDiff, Nat.reduceLT, Nat.reduceAdd, sg_s, ↓kif_0, ↓kif_c, ↓reduceIte, nl_n, nl_i, nl_r, List.length_cons, List.length_nil, true_and, and_true, upA_s, upA_n, upA_u, Prod.mk.injEq, and_self, Fr_33_15, Fr_33_2, Fr_46_15, Fr_46_2, Ld_44, Ld_57, oC_9, oL_33, oL_46, oZ_44, oZ_57, (j_aload_n_0 dX0_listenAhead_0 (n := 1) rfl), (j_getf dX0_listenAhead_1 (n := 4) rfl cF_0_57), (j_iload_n_1 dX0_listenAhead_4 (n := 5) rfl), (j_iconst dX0_listenAhead_5 (n := 6) rfl ki_1), (j_isub dX0_listenAhead_6 (n := 7) rfl), (j_iload_n_2 dX0_listenAhead_7 (n := 8) rfl), (j_cv2v (M := mX0_listenAhead) dX0_listenAhead_8 (n := 11) rfl cM_0_103 (Or.inl rfl) lv_X0_listenAhead_X6_listen rfl (oc := 6) rfl), (j_iconst dX0_listenAhead_11 (n := 12) rfl ki_0), (j_istore_n_3 dX0_listenAhead_12 (n := 13) rfl), (j_iload_n_3 dX0_listenAhead_13 (n := 14) rfl), (j_bipush dX0_listenAhead_14 (n := 16) rfl kb_48), (j_ic_ge dX0_listenAhead_16 (n := 19) rfl br_16_23), (j_aload_n_0 dX0_listenAhead_19 (n := 20) rfl), (j_getf dX0_listenAhead_20 (n := 23) rfl cF_0_42), (j_iload_n_3 dX0_listenAhead_23 (n := 24) rfl), (j_aload_n_0 dX0_listenAhead_24 (n := 25) rfl), (j_getf dX0_listenAhead_25 (n := 28) rfl cF_0_57), (j_iload_n_3 dX0_listenAhead_28 (n := 29) rfl), (j_cv1i (M := mX0_listenAhead) dX0_listenAhead_29 (n := 32) rfl cM_0_108 (Or.inl rfl) lv_X0_listenAhead_X6_calls rfl (oc := 6) rfl), (j_bast dX0_listenAhead_32 (n := 33) rfl), (j_iinc_3 dX0_listenAhead_33 (n := 36) rfl ki_1), (j_goto dX0_listenAhead_36 (n := 39) rfl br_36_m23), (j_ret (M := mX0_listenAhead) dX0_listenAhead_39 (n := 40) rfl rfl), nl_x, pk_us]
    rw [if_pos (nI_48 hp), nI_1]
    refine c_cl hO hg h14 h10 hp _ ?_
    rw [nar_b (bI_01 _), nI_clamp (n := p) (by omega)]
    refine ⟨hv, hK _ _ ⟨rfl, ?_⟩⟩
    rw [itZ, ← e]
    rfl
  · rintro _ S' ⟨rfl, e⟩ R
    simp only [sw3_c, sw3_n, Nat.reduceEqDiff, not_false_eq_true, Nat.zero_le, Nat.reduceLeDiff, Nat.reduceLT, Nat.reduceAdd, sg_s, ↓kif_0, ↓kif_c, ↓reduceIte, nl_n, nl_i, nl_r, List.length_cons, List.length_nil, true_and, and_true, upA_s, upA_n, upA_u, Prod.mk.injEq, and_self, Fr_33_15, Fr_33_2, Fr_46_15, Fr_46_2, Ld_44, Ld_57, oC_9, oL_33, oL_46, oZ_44, oZ_57, (j_aload_n_0 dX0_listenAhead_0 (n := 1) rfl), (j_getf dX0_listenAhead_1 (n := 4) rfl cF_0_57), (j_iload_n_1 dX0_listenAhead_4 (n := 5) rfl), (j_iconst dX0_listenAhead_5 (n := 6) rfl ki_1), (j_isub dX0_listenAhead_6 (n := 7) rfl), (j_iload_n_2 dX0_listenAhead_7 (n := 8) rfl), (j_cv2v (M := mX0_listenAhead) dX0_listenAhead_8 (n := 11) rfl cM_0_103 (Or.inl rfl) lv_X0_listenAhead_X6_listen rfl (oc := 6) rfl), (j_iconst dX0_listenAhead_11 (n := 12) rfl ki_0), (j_istore_n_3 dX0_listenAhead_12 (n := 13) rfl), (j_iload_n_3 dX0_listenAhead_13 (n := 14) rfl), (j_bipush dX0_listenAhead_14 (n := 16) rfl kb_48), (j_ic_ge dX0_listenAhead_16 (n := 19) rfl br_16_23), (j_aload_n_0 dX0_listenAhead_19 (n := 20) rfl), (j_getf dX0_listenAhead_20 (n := 23) rfl cF_0_42), (j_iload_n_3 dX0_listenAhead_23 (n := 24) rfl), (j_aload_n_0 dX0_listenAhead_24 (n := 25) rfl), (j_getf dX0_listenAhead_25 (n := 28) rfl cF_0_57), (j_iload_n_3 dX0_listenAhead_28 (n := 29) rfl), (j_cv1i (M := mX0_listenAhead) dX0_listenAhead_29 (n := 32) rfl cM_0_108 (Or.inl rfl) lv_X0_listenAhead_X6_calls rfl (oc := 6) rfl), (j_bast dX0_listenAhead_32 (n := 33) rfl), (j_iinc_3 dX0_listenAhead_33 (n := 36) rfl ki_1), (j_goto dX0_listenAhead_36 (n := 39) rfl br_36_m23), (j_ret (M := mX0_listenAhead) dX0_listenAhead_39 (n := 40) rfl rfl), nl_x, pk_us]
    rw [if_neg (by decide), e]
    exact h _ _
set_option maxHeartbeats 4000000 in
theorem c_stp46 (hour at' ca : Int32) (S : xA) (f : xP) (c : Nat) (hB : Bs S c) (hg : Hg S at' ca) (h : ∀ S' r, hrR 46 hour (clS S ca hour) c S S' r → f r S') : CI mX0_step [.ref (46 : Nat), .int hour, .int at'] S f := by
  obtain ⟨hR, -, -, hc40, -⟩ := id hB
  refine ci_of (T := mX0_step) (fv := fun _ => True) (ls := [some (.ref (46 : Nat)), some (.int hour), some (.int at'), none]) rfl (Nat.le_of_ble_eq_true rfl) (by decide) rfl rfl rfl (ok_for cX0_step 0 80 47 c (fun l ls S' => ls = [some (.ref (46 : Nat)), some (.int hour), some (.int at'), some (.int (nI l))] ∧ ∃ g w1 w2 : Nat → Int32, (∀ i, i < 7 → g i = fcS S hour i) ∧ S' = itZ (sdS 46 hour) (hp2 46 hour (clS S ca hour) (upA (upA (upA S 58 g) 15 w2) 14 w1) c) l) rfl rfl ?_ ?_ ?_)
  · intro R hK
    simp only [sw3_c, sw3_n, Nat.reduceEqDiff, not_false_eq_true, Nat.zero_le, Nat.reduceLeDiff, Nat.reduceLT, Nat.reduceAdd, sg_s, ↓kif_0, ↓kif_c, ↓reduceIte, nl_n, nl_i, nl_r, List.length_cons, List.length_nil, true_and, and_true, upA_s, upA_n, upA_u, Prod.mk.injEq, and_self, Fr_26_4, Fr_26_6, Fr_33_12, Fr_33_16, Fr_33_2, Fr_33_3, Fr_33_4, Fr_46_12, Fr_46_16, Fr_46_2, Fr_46_3, Fr_46_4, Ld_31, Ld_41, Ld_45, Ld_54, Ld_58, oA_31, oA_41, oA_45, oA_54, oA_58, oC_16, oC_33, oC_46, oC_9, oL_26, oL_33, oL_46, (j_aload_n_0 dX0_step_0 (n := 1) rfl), (j_getf dX0_step_1 (n := 4) rfl cF_0_61), (j_iload_n_1 dX0_step_4 (n := 5) rfl), (j_aload_n_0 dX0_step_5 (n := 6) rfl), (j_getf dX0_step_6 (n := 9) rfl cF_0_46), (j_cv2v (M := mX0_step) dX0_step_9 (n := 12) rfl cM_0_112 (Or.inl rfl) lv_X0_step_X8_holdIn rfl (oc := 8) rfl), (j_aload_n_0 dX0_step_12 (n := 13) rfl), (j_getf dX0_step_13 (n := 16) rfl cF_0_57), (j_iload_n_1 dX0_step_16 (n := 17) rfl), (j_iload_n_2 dX0_step_17 (n := 18) rfl), (j_cv2v (M := mX0_step) dX0_step_18 (n := 21) rfl cM_0_103 (Or.inl rfl) lv_X0_step_X6_listen rfl (oc := 6) rfl), (j_aload_n_0 dX0_step_21 (n := 22) rfl), (j_iload_n_1 dX0_step_22 (n := 23) rfl), (j_cv1v (M := mX0_step) dX0_step_23 (n := 26) rfl cM_0_118 (Or.inl rfl) lv_X0_step_X0_arrive rfl (oc := 0) rfl), (j_aload_n_0 dX0_step_26 (n := 27) rfl), (j_cv0v (M := mX0_step) dX0_step_27 (n := 30) rfl cM_0_122 (Or.inl rfl) lv_X0_step_X0_callOut rfl (oc := 0) rfl), (j_iload_n_1 dX0_step_30 (n := 31) rfl), (j_if_le dX0_step_31 (n := 34) rfl br_31_14), (j_iload_n_1 dX0_step_34 (n := 35) rfl), (j_bipush dX0_step_35 (n := 37) rfl kb_24), (j_irem dX0_step_37 (n := 38) rfl), (j_if_ne dX0_step_38 (n := 41) rfl br_38_7), (j_aload_n_0 dX0_step_41 (n := 42) rfl), (j_cv0v (M := mX0_step) dX0_step_42 (n := 45) rfl cM_0_125 (Or.inl rfl) lv_X0_step_X0_payAll rfl (oc := 0) rfl), (j_iconst dX0_step_45 (n := 46) rfl ki_0), (j_istore_n_3 dX0_step_46 (n := 47) rfl), (j_iload_n_3 dX0_step_47 (n := 48) rfl), (j_aload_n_0 dX0_step_48 (n := 49) rfl), (j_getf dX0_step_49 (n := 52) rfl cF_0_65), (j_getf dX0_step_52 (n := 55) rfl cF_0_89), (j_ic_ge dX0_step_55 (n := 58) rfl br_55_37), (j_aload_n_0 dX0_step_58 (n := 59) rfl), (j_getf dX0_step_59 (n := 62) rfl cF_0_33), (j_iload_n_3 dX0_step_62 (n := 63) rfl), (j_iald dX0_step_63 (n := 64) rfl), (j_if_ne dX0_step_64 (n := 67) rfl br_64_22), (j_aload_n_0 dX0_step_67 (n := 68) rfl), (j_getf dX0_step_68 (n := 71) rfl cF_0_65), (j_getf dX0_step_71 (n := 74) rfl cF_0_128), (j_iload_n_3 dX0_step_74 (n := 75) rfl), (j_iald dX0_step_75 (n := 76) rfl), (j_iload_n_1 dX0_step_76 (n := 77) rfl), (j_ic_gt dX0_step_77 (n := 80) rfl br_77_9), (j_aload_n_0 dX0_step_80 (n := 81) rfl), (j_iload_n_3 dX0_step_81 (n := 82) rfl), (j_iload_n_1 dX0_step_82 (n := 83) rfl), (j_cv2v (M := mX0_step) dX0_step_83 (n := 86) rfl cM_0_131 (Or.inl rfl) lv_X0_step_X0_send rfl (oc := 0) rfl), (j_iinc_3 dX0_step_86 (n := 89) rfl ki_1), (j_goto dX0_step_89 (n := 92) rfl br_89_m42), (j_aload_n_0 dX0_step_92 (n := 93) rfl), (j_iload_n_1 dX0_step_93 (n := 94) rfl), (j_cv1i (M := mX0_step) dX0_step_94 (n := 97) rfl cM_0_135 (Or.inl rfl) lv_X0_step_X0_use rfl (oc := 0) rfl), (j_iret dX0_step_97 (n := 98) rfl), rOk_i (M := mX0_step) rfl, nl_x, pk_us]
    refine c_holdIn _ _ _ _ (by decide) (by decide) (by decide) (by decide) hR (fun g hg7 => ?_)
    have hn : ∀ q, q ∈ bNs → upA S 58 g q = S q := fun q hq => upA_n _ _ (fun e => by revert hq; rw [e]; decide)
    have hB1 := Bs_c hn hB
    have hg1 := Hg_c hn hg
    obtain ⟨hR1, hO1, hc1, -, hl1⟩ := id hB1
    refine c_lis hO1 _ _ _ ?_
    have hn2 : ∀ w1 w2 : Nat → Int32, ∀ q, q ∈ bNs → upA (upA (upA S 58 g) 15 w2) 14 w1 q = S q := fun w1 w2 q hq => by
      rw [upA_n _ _ (fun e => by revert hq; rw [e]; decide), upA_n _ _ (fun e => by revert hq; rw [e]; decide), hn q hq]
    refine c_arr46 hour _ _ c ?_ hc40 ?_ ?_
    · rw [hn2 _ _ 26 (by decide)]; exact hB.2.2.1
    · rw [hn2 _ _ 27 (by decide), hn2 _ _ 30 (by decide)]; exact fun l hl => ⟨(hB.2.2.2.2 l hl).1, (hB.2.2.2.2 l hl).2.2⟩
    · refine c_cao46 (clS S ca hour) _ _ ?_ ?_
      · intro p hp S' f' e14 e10 hf
        have fa := itZ_f (arS_f 46 hour) (upA (upA (upA S 58 g) 15 (lsn (upA S 58 g) hour at' (fch (upA S 58 g) (upA S 58 g 9 7).toNatClampNeg) (upA S 58 g 9 7).toNatClampNeg).2) 14 (lsn (upA S 58 g) hour at' (fch (upA S 58 g) (upA S 58 g 9 7).toNatClampNeg) (upA S 58 g 9 7).toNatClampNeg).1) c
        rw [fa 14 (by decide), upA_s] at e14
        rw [fa 10 (by decide), upA_n _ _ (by decide), upA_n _ _ (by decide)] at e10
        refine c_cl hO1 hg1 e14 e10 hp _ ?_
        rw [clS_c (fun q hq => hn q (by revert hq; revert q; decide))]
        exact hf
      · have fin : ∀ Z, Z = hp2 46 hour (clS S ca hour) (upA (upA (upA S 58 g) 15 (lsn (upA S 58 g) hour at' (fch (upA S 58 g) (upA S 58 g 9 7).toNatClampNeg) (upA S 58 g 9 7).toNatClampNeg).2) 14 (lsn (upA S 58 g) hour at' (fch (upA S 58 g) (upA S 58 g 9 7).toNatClampNeg) (upA S 58 g 9 7).toNatClampNeg).1) c → R [some (.ref (46 : Nat)), some (.int hour), some (.int at'), some (.int 0)] [] Z := fun Z e => hK _ _ ⟨rfl, g, _, _, hg7, e⟩
        refine ite_i (fun q => ⟨by decide, ite_i (fun q2 => c_pya46 _ _ (fin _ ?_)) (fun q2 => fin _ ?_)⟩) (fun q => fin _ ?_)
        · rw [hp2, if_pos (show dyS hour = true from decide_eq_true ⟨q, q2⟩)]
          rfl
        · rw [hp2, if_neg (show ¬ dyS hour = true by unfold dyS; rw [decide_eq_true_eq]; exact fun w => q2 w.2)]
          rfl
        · rw [hp2, if_neg (show ¬ dyS hour = true by unfold dyS; rw [decide_eq_true_eq]; exact fun w => q w.1)]
          rfl
  · rintro l hl _ S' ⟨rfl, g, w1, w2, hg7, e⟩ R hK
    have hv : vp_in (nI l) 40 := vp_in_nI (by omega) (by omega)
    have f1 : frm (LC 46) S S' := by
      rw [e]
      exact frm_tr (frm_tr (frm_up (frm_up (frm_up (frm_rf _ _) (by decide)) (by decide)) (by decide)) (hp2_f 46 hour (clS S ca hour) _ c) (by decide)) (itZ_f (sdS_f 46 hour) _ l) (by decide)
    have hl3 := hB.2.2.2.2 l hl
    have key : ∀ Z, Z = sdS 46 hour S' l → R [some (.ref (46 : Nat)), some (.int hour), some (.int at'), some (.int (nI (l + 1)))] [] Z := fun Z q => hK _ _ ⟨rfl, g, w1, w2, hg7, by rw [itZ, ← e]; exact q⟩
    simp only [sw3_c, sw3_n, Nat.reduceEqDiff, not_false_eq_true, Nat.zero_le, Nat.reduceLeDiff, Nat.reduceLT, Nat.reduceAdd, sg_s, ↓kif_0, ↓kif_c, ↓reduceIte, nl_n, nl_i, nl_r, List.length_cons, List.length_nil, true_and, and_true, upA_s, upA_n, upA_u, Prod.mk.injEq, and_self, Fr_26_4, Fr_26_6, Fr_33_12, Fr_33_16, Fr_33_2, Fr_33_3, Fr_33_4, Fr_46_12, Fr_46_16, Fr_46_2, Fr_46_3, Fr_46_4, Ld_31, Ld_41, Ld_45, Ld_54, Ld_58, oA_31, oA_41, oA_45, oA_54, oA_58, oC_16, oC_33, oC_46, oC_9, oL_26, oL_33, oL_46, (j_aload_n_0 dX0_step_0 (n := 1) rfl), (j_getf dX0_step_1 (n := 4) rfl cF_0_61), (j_iload_n_1 dX0_step_4 (n := 5) rfl), (j_aload_n_0 dX0_step_5 (n := 6) rfl), (j_getf dX0_step_6 (n := 9) rfl cF_0_46), (j_cv2v (M := mX0_step) dX0_step_9 (n := 12) rfl cM_0_112 (Or.inl rfl) lv_X0_step_X8_holdIn rfl (oc := 8) rfl), (j_aload_n_0 dX0_step_12 (n := 13) rfl), (j_getf dX0_step_13 (n := 16) rfl cF_0_57), (j_iload_n_1 dX0_step_16 (n := 17) rfl), (j_iload_n_2 dX0_step_17 (n := 18) rfl), (j_cv2v (M := mX0_step) dX0_step_18 (n := 21) rfl cM_0_103 (Or.inl rfl) lv_X0_step_X6_listen rfl (oc := 6) rfl), (j_aload_n_0 dX0_step_21 (n := 22) rfl), (j_iload_n_1 dX0_step_22 (n := 23) rfl), (j_cv1v (M := mX0_step) dX0_step_23 (n := 26) rfl cM_0_118 (Or.inl rfl) lv_X0_step_X0_arrive rfl (oc := 0) rfl), (j_aload_n_0 dX0_step_26 (n := 27) rfl), (j_cv0v (M := mX0_step) dX0_step_27 (n := 30) rfl cM_0_122 (Or.inl rfl) lv_X0_step_X0_callOut rfl (oc := 0) rfl), (j_iload_n_1 dX0_step_30 (n := 31) rfl), (j_if_le dX0_step_31 (n := 34) rfl br_31_14), (j_iload_n_1 dX0_step_34 (n := 35) rfl), (j_bipush dX0_step_35 (n := 37) rfl kb_24), (j_irem dX0_step_37 (n := 38) rfl), (j_if_ne dX0_step_38 (n := 41) rfl br_38_7), (j_aload_n_0 dX0_step_41 (n := 42) rfl), (j_cv0v (M := mX0_step) dX0_step_42 (n := 45) rfl cM_0_125 (Or.inl rfl) lv_X0_step_X0_payAll rfl (oc := 0) rfl), (j_iconst dX0_step_45 (n := 46) rfl ki_0), (j_istore_n_3 dX0_step_46 (n := 47) rfl), (j_iload_n_3 dX0_step_47 (n := 48) rfl), (j_aload_n_0 dX0_step_48 (n := 49) rfl), (j_getf dX0_step_49 (n := 52) rfl cF_0_65), (j_getf dX0_step_52 (n := 55) rfl cF_0_89), (j_ic_ge dX0_step_55 (n := 58) rfl br_55_37), (j_aload_n_0 dX0_step_58 (n := 59) rfl), (j_getf dX0_step_59 (n := 62) rfl cF_0_33), (j_iload_n_3 dX0_step_62 (n := 63) rfl), (j_iald dX0_step_63 (n := 64) rfl), (j_if_ne dX0_step_64 (n := 67) rfl br_64_22), (j_aload_n_0 dX0_step_67 (n := 68) rfl), (j_getf dX0_step_68 (n := 71) rfl cF_0_65), (j_getf dX0_step_71 (n := 74) rfl cF_0_128), (j_iload_n_3 dX0_step_74 (n := 75) rfl), (j_iald dX0_step_75 (n := 76) rfl), (j_iload_n_1 dX0_step_76 (n := 77) rfl), (j_ic_gt dX0_step_77 (n := 80) rfl br_77_9), (j_aload_n_0 dX0_step_80 (n := 81) rfl), (j_iload_n_3 dX0_step_81 (n := 82) rfl), (j_iload_n_1 dX0_step_82 (n := 83) rfl), (j_cv2v (M := mX0_step) dX0_step_83 (n := 86) rfl cM_0_131 (Or.inl rfl) lv_X0_step_X0_send rfl (oc := 0) rfl), (j_iinc_3 dX0_step_86 (n := 89) rfl ki_1), (j_goto dX0_step_89 (n := 92) rfl br_89_m42), (j_aload_n_0 dX0_step_92 (n := 93) rfl), (j_iload_n_1 dX0_step_93 (n := 94) rfl), (j_cv1i (M := mX0_step) dX0_step_94 (n := 97) rfl cM_0_135 (Or.inl rfl) lv_X0_step_X0_use rfl (oc := 0) rfl), (j_iret dX0_step_97 (n := 98) rfl), rOk_i (M := mX0_step) rfl, nl_x, pk_us, f1 26 (by decide), f1 31 (by decide), hB.2.2.1]
    rw [if_pos (nI_lt hl (by omega)), nI_clamp (n := l) (by omega), nI_1]
    have no : ¬ (S' 54 l = 0 ∧ ¬ hour < S 31 l) → S' = sdS 46 hour S' l := fun q => by rw [sdS, if_neg (by rw [decide_eq_true_eq, f1 31 (by decide)]; exact q)]
    refine ⟨hv, ite_i (fun q => ⟨hv, ite_i (fun q2 => key _ (no (fun w => w.2 q2))) (fun q2 => ?_)⟩) (fun q => key _ (no (fun w => q w.1)))⟩
    refine c_snd46 l hour S' _ (by omega) (by rw [f1 27 (by decide)]; exact hl3.1) (by rw [f1 29 (by decide)]; exact hl3.2.1) (by rw [f1 30 (by decide)]; exact hl3.2.2) (key _ ?_)
    rw [sdS, if_pos (by rw [decide_eq_true_eq, f1 31 (by decide)]; exact ⟨q, q2⟩)]
  · rintro _ S' ⟨rfl, g, w1, w2, hg7, e⟩ R
    have f1 : frm (LC 46) S S' := by
      rw [e]
      exact frm_tr (frm_tr (frm_up (frm_up (frm_up (frm_rf _ _) (by decide)) (by decide)) (by decide)) (hp2_f 46 hour (clS S ca hour) _ c) (by decide)) (itZ_f (sdS_f 46 hour) _ c) (by decide)
    simp only [sw3_c, sw3_n, Nat.reduceEqDiff, not_false_eq_true, Nat.zero_le, Nat.reduceLeDiff, Nat.reduceLT, Nat.reduceAdd, sg_s, ↓kif_0, ↓kif_c, ↓reduceIte, nl_n, nl_i, nl_r, List.length_cons, List.length_nil, true_and, and_true, upA_s, upA_n, upA_u, Prod.mk.injEq, and_self, Fr_26_4, Fr_26_6, Fr_33_12, Fr_33_16, Fr_33_2, Fr_33_3, Fr_33_4, Fr_46_12, Fr_46_16, Fr_46_2, Fr_46_3, Fr_46_4, Ld_31, Ld_41, Ld_45, Ld_54, Ld_58, oA_31, oA_41, oA_45, oA_54, oA_58, oC_16, oC_33, oC_46, oC_9, oL_26, oL_33, oL_46, (j_aload_n_0 dX0_step_0 (n := 1) rfl), (j_getf dX0_step_1 (n := 4) rfl cF_0_61), (j_iload_n_1 dX0_step_4 (n := 5) rfl), (j_aload_n_0 dX0_step_5 (n := 6) rfl), (j_getf dX0_step_6 (n := 9) rfl cF_0_46), (j_cv2v (M := mX0_step) dX0_step_9 (n := 12) rfl cM_0_112 (Or.inl rfl) lv_X0_step_X8_holdIn rfl (oc := 8) rfl), (j_aload_n_0 dX0_step_12 (n := 13) rfl), (j_getf dX0_step_13 (n := 16) rfl cF_0_57), (j_iload_n_1 dX0_step_16 (n := 17) rfl), (j_iload_n_2 dX0_step_17 (n := 18) rfl), (j_cv2v (M := mX0_step) dX0_step_18 (n := 21) rfl cM_0_103 (Or.inl rfl) lv_X0_step_X6_listen rfl (oc := 6) rfl), (j_aload_n_0 dX0_step_21 (n := 22) rfl), (j_iload_n_1 dX0_step_22 (n := 23) rfl), (j_cv1v (M := mX0_step) dX0_step_23 (n := 26) rfl cM_0_118 (Or.inl rfl) lv_X0_step_X0_arrive rfl (oc := 0) rfl), (j_aload_n_0 dX0_step_26 (n := 27) rfl), (j_cv0v (M := mX0_step) dX0_step_27 (n := 30) rfl cM_0_122 (Or.inl rfl) lv_X0_step_X0_callOut rfl (oc := 0) rfl), (j_iload_n_1 dX0_step_30 (n := 31) rfl), (j_if_le dX0_step_31 (n := 34) rfl br_31_14), (j_iload_n_1 dX0_step_34 (n := 35) rfl), (j_bipush dX0_step_35 (n := 37) rfl kb_24), (j_irem dX0_step_37 (n := 38) rfl), (j_if_ne dX0_step_38 (n := 41) rfl br_38_7), (j_aload_n_0 dX0_step_41 (n := 42) rfl), (j_cv0v (M := mX0_step) dX0_step_42 (n := 45) rfl cM_0_125 (Or.inl rfl) lv_X0_step_X0_payAll rfl (oc := 0) rfl), (j_iconst dX0_step_45 (n := 46) rfl ki_0), (j_istore_n_3 dX0_step_46 (n := 47) rfl), (j_iload_n_3 dX0_step_47 (n := 48) rfl), (j_aload_n_0 dX0_step_48 (n := 49) rfl), (j_getf dX0_step_49 (n := 52) rfl cF_0_65), (j_getf dX0_step_52 (n := 55) rfl cF_0_89), (j_ic_ge dX0_step_55 (n := 58) rfl br_55_37), (j_aload_n_0 dX0_step_58 (n := 59) rfl), (j_getf dX0_step_59 (n := 62) rfl cF_0_33), (j_iload_n_3 dX0_step_62 (n := 63) rfl), (j_iald dX0_step_63 (n := 64) rfl), (j_if_ne dX0_step_64 (n := 67) rfl br_64_22), (j_aload_n_0 dX0_step_67 (n := 68) rfl), (j_getf dX0_step_68 (n := 71) rfl cF_0_65), (j_getf dX0_step_71 (n := 74) rfl cF_0_128), (j_iload_n_3 dX0_step_74 (n := 75) rfl), (j_iald dX0_step_75 (n := 76) rfl), (j_iload_n_1 dX0_step_76 (n := 77) rfl), (j_ic_gt dX0_step_77 (n := 80) rfl br_77_9), (j_aload_n_0 dX0_step_80 (n := 81) rfl), (j_iload_n_3 dX0_step_81 (n := 82) rfl), (j_iload_n_1 dX0_step_82 (n := 83) rfl), (j_cv2v (M := mX0_step) dX0_step_83 (n := 86) rfl cM_0_131 (Or.inl rfl) lv_X0_step_X0_send rfl (oc := 0) rfl), (j_iinc_3 dX0_step_86 (n := 89) rfl ki_1), (j_goto dX0_step_89 (n := 92) rfl br_89_m42), (j_aload_n_0 dX0_step_92 (n := 93) rfl), (j_iload_n_1 dX0_step_93 (n := 94) rfl), (j_cv1i (M := mX0_step) dX0_step_94 (n := 97) rfl cM_0_135 (Or.inl rfl) lv_X0_step_X0_use rfl (oc := 0) rfl), (j_iret dX0_step_97 (n := 98) rfl), rOk_i (M := mX0_step) rfl, nl_x, pk_us, f1 26 (by decide), hB.2.2.1]
    rw [if_neg (nI_nlt (Nat.le_refl _) (by omega))]
    refine c_use46 hour S' _ (h _ _ ⟨g, w1, w2, hg7, ?_, ?_⟩)
    · rw [e]
      rfl
    · rw [e]
      rfl
set_option maxHeartbeats 4000000 in
theorem c_run46 (a n : Nat) (at' ca : Int32) (S : xA) (f : xP) (c : Nat) (hB : Bs S c) (hg : Hg S at' ca) (han : a + n ≤ 240) (h : ∀ (Zs : Nat → xA) (rs : Nat → Int32), (∃ w1 w2, Zs 0 = itZ (laS 46 (clS S ca (nI a - 1))) (upA (upA S 15 w2) 14 w1) 48) → (∀ k, k < n → hrR 46 (nI (a + k)) (clS S ca (nI (a + k))) c (Zs k) (Zs (k + 1)) (rs k)) → frm (LC 46) S (Zs n) → f (sumF rs n) (Zs n)) : CI mX0_run [.ref (46 : Nat), .int (nI a), .int (nI n), .int at'] S f := by
  refine ci_of (T := mX0_run) (fv := fun _ => True) (ls := [some (.ref (46 : Nat)), some (.int (nI a)), some (.int (nI n)), some (.int at'), none, none]) rfl (Nat.le_of_ble_eq_true rfl) (by decide) rfl rfl rfl (ok_for cX0_run 0 60 12 n (fun k ls S' => ∃ (Zs : Nat → xA) (rs : Nat → Int32), ls = [some (.ref (46 : Nat)), some (.int (nI a)), some (.int (nI n)), some (.int at'), some (.int (sumF rs k)), some (.int (nI (a + k)))] ∧ (∃ w1 w2, Zs 0 = itZ (laS 46 (clS S ca (nI a - 1))) (upA (upA S 15 w2) 14 w1) 48) ∧ (∀ j, j < k → hrR 46 (nI (a + j)) (clS S ca (nI (a + j))) c (Zs j) (Zs (j + 1)) (rs j)) ∧ frm (LC 46) S (Zs k) ∧ S' = Zs k) rfl rfl ?_ ?_ ?_)
  · intro R hK
    simp only [sw3_c, sw3_n, Nat.reduceEqDiff, not_false_eq_true, Nat.zero_le, Nat.reduceLeDiff, Nat.reduceLT, Nat.reduceAdd, sg_s, ↓kif_0, ↓kif_c, ↓reduceIte, nl_n, nl_i, nl_r, List.length_cons, List.length_nil, true_and, and_true, upA_s, upA_n, upA_u, Prod.mk.injEq, and_self, oC_33, oC_46, (j_aload_n_0 dX0_run_0 (n := 1) rfl), (j_iload_n_1 dX0_run_1 (n := 2) rfl), (j_iload_n_3 dX0_run_2 (n := 3) rfl), (j_cv2v (M := mX0_run) dX0_run_3 (n := 6) rfl cM_0_95 (Or.inl rfl) lv_X0_run_X0_listenAhead rfl (oc := 0) rfl), (j_iconst dX0_run_6 (n := 7) rfl ki_0), (j_istore_4 dX0_run_7 (n := 9) rfl), (j_iload_n_1 dX0_run_9 (n := 10) rfl), (j_istore_5 dX0_run_10 (n := 12) rfl), (j_iload_5 dX0_run_12 (n := 14) rfl), (j_iload_n_1 dX0_run_14 (n := 15) rfl), (j_iload_n_2 dX0_run_15 (n := 16) rfl), (j_iadd dX0_run_16 (n := 17) rfl), (j_ic_ge dX0_run_17 (n := 20) rfl br_17_21), (j_iload_4 dX0_run_20 (n := 22) rfl), (j_aload_n_0 dX0_run_22 (n := 23) rfl), (j_iload_5 dX0_run_23 (n := 25) rfl), (j_iload_n_3 dX0_run_25 (n := 26) rfl), (j_cv2i (M := mX0_run) dX0_run_26 (n := 29) rfl cM_0_99 (Or.inl rfl) lv_X0_run_X0_step rfl (oc := 0) rfl), (j_iadd dX0_run_29 (n := 30) rfl), (j_istore_4 dX0_run_30 (n := 32) rfl), (j_iinc_5 dX0_run_32 (n := 35) rfl ki_1), (j_goto dX0_run_35 (n := 38) rfl br_35_m23), (j_iload_4 dX0_run_38 (n := 40) rfl), (j_iret dX0_run_40 (n := 41) rfl), rOk_i (M := mX0_run) rfl, nl_x, pk_us]
    refine c_lah46 _ _ ca _ _ hB.2.1 hg (fun w1 w2 => hK _ _ ⟨fun _ => itZ (laS 46 (clS S ca (nI a - 1))) (upA (upA S 15 w2) 14 w1) 48, fun _ => 0, rfl, ⟨w1, w2, rfl⟩, fun j hj => by omega, ?_, rfl⟩)
    exact frm_tr (frm_up (frm_up (frm_rf _ _) (by decide)) (by decide)) (itZ_f (laS_f 46 _) _ 48) (by decide)
  · rintro k hk _ S' ⟨Zs, rs, rfl, h0, h1, h2, rfl⟩ R hK
    simp only [sw3_c, sw3_n, Nat.reduceEqDiff, not_false_eq_true, Nat.zero_le, Nat.reduceLeDiff, Nat.reduceLT, Nat.reduceAdd, sg_s, ↓kif_0, ↓kif_c, ↓reduceIte, nl_n, nl_i, nl_r, List.length_cons, List.length_nil, true_and, and_true, upA_s, upA_n, upA_u, Prod.mk.injEq, and_self, oC_33, oC_46, (j_aload_n_0 dX0_run_0 (n := 1) rfl), (j_iload_n_1 dX0_run_1 (n := 2) rfl), (j_iload_n_3 dX0_run_2 (n := 3) rfl), (j_cv2v (M := mX0_run) dX0_run_3 (n := 6) rfl cM_0_95 (Or.inl rfl) lv_X0_run_X0_listenAhead rfl (oc := 0) rfl), (j_iconst dX0_run_6 (n := 7) rfl ki_0), (j_istore_4 dX0_run_7 (n := 9) rfl), (j_iload_n_1 dX0_run_9 (n := 10) rfl), (j_istore_5 dX0_run_10 (n := 12) rfl), (j_iload_5 dX0_run_12 (n := 14) rfl), (j_iload_n_1 dX0_run_14 (n := 15) rfl), (j_iload_n_2 dX0_run_15 (n := 16) rfl), (j_iadd dX0_run_16 (n := 17) rfl), (j_ic_ge dX0_run_17 (n := 20) rfl br_17_21), (j_iload_4 dX0_run_20 (n := 22) rfl), (j_aload_n_0 dX0_run_22 (n := 23) rfl), (j_iload_5 dX0_run_23 (n := 25) rfl), (j_iload_n_3 dX0_run_25 (n := 26) rfl), (j_cv2i (M := mX0_run) dX0_run_26 (n := 29) rfl cM_0_99 (Or.inl rfl) lv_X0_run_X0_step rfl (oc := 0) rfl), (j_iadd dX0_run_29 (n := 30) rfl), (j_istore_4 dX0_run_30 (n := 32) rfl), (j_iinc_5 dX0_run_32 (n := 35) rfl ki_1), (j_goto dX0_run_35 (n := 38) rfl br_35_m23), (j_iload_4 dX0_run_38 (n := 40) rfl), (j_iret dX0_run_40 (n := 41) rfl), rOk_i (M := mX0_run) rfl, nl_x, pk_us]
    have hn : ∀ q, q ∈ bNs → Zs k q = S q := fun q hq => h2 q (LC_b46 q hq)
    rw [nI_add, if_pos (nI_lt (by omega) (by omega)), nI_1]
    refine c_stp46 (nI (a + k)) at' ca _ _ c (Bs_c hn hB) (Hg_c hn hg) (fun S' r hr => ?_)
    have hcl : clS (Zs k) ca (nI (a + k)) = clS S ca (nI (a + k)) := clS_c (fun q hq => hn q (by revert hq; revert q; decide)) _ _
    rw [hcl] at hr
    refine hK _ _ ⟨fun j => if j ≤ k then Zs j else S', fun j => if j < k then rs j else r, ?_, ?_, ?_, ?_, ?_⟩
    · have e : sumF (fun j => if j < k then rs j else r) (k + 1) = sumF rs k + r := by
        rw [sumF, sumF_eq k (b := rs) (fun j hj => if_pos hj), if_neg (by omega)]
      rw [e]
      rfl
    · obtain ⟨w1, w2, e⟩ := h0
      exact ⟨w1, w2, (if_pos (Nat.zero_le k)).trans e⟩
    · intro j hj
      simp only
      by_cases e : j = k
      · subst e
        rw [if_pos (Nat.le_refl _), if_neg (by omega), if_neg (by omega)]
        exact hr
      · rw [if_pos (by omega), if_pos (by omega), if_pos (by omega)]
        exact h1 j (by omega)
    · simp only
      rw [if_neg (by omega)]
      exact frm_tr h2 (hrR_f hr) (fun _ q => q)
    · simp only
      rw [if_neg (by omega)]
  · rintro _ _ ⟨Zs, rs, rfl, h0, h1, h2, rfl⟩ R
    simp only [sw3_c, sw3_n, Nat.reduceEqDiff, not_false_eq_true, Nat.zero_le, Nat.reduceLeDiff, Nat.reduceLT, Nat.reduceAdd, sg_s, ↓kif_0, ↓kif_c, ↓reduceIte, nl_n, nl_i, nl_r, List.length_cons, List.length_nil, true_and, and_true, upA_s, upA_n, upA_u, Prod.mk.injEq, and_self, oC_33, oC_46, (j_aload_n_0 dX0_run_0 (n := 1) rfl), (j_iload_n_1 dX0_run_1 (n := 2) rfl), (j_iload_n_3 dX0_run_2 (n := 3) rfl), (j_cv2v (M := mX0_run) dX0_run_3 (n := 6) rfl cM_0_95 (Or.inl rfl) lv_X0_run_X0_listenAhead rfl (oc := 0) rfl), (j_iconst dX0_run_6 (n := 7) rfl ki_0), (j_istore_4 dX0_run_7 (n := 9) rfl), (j_iload_n_1 dX0_run_9 (n := 10) rfl), (j_istore_5 dX0_run_10 (n := 12) rfl), (j_iload_5 dX0_run_12 (n := 14) rfl), (j_iload_n_1 dX0_run_14 (n := 15) rfl), (j_iload_n_2 dX0_run_15 (n := 16) rfl), (j_iadd dX0_run_16 (n := 17) rfl), (j_ic_ge dX0_run_17 (n := 20) rfl br_17_21), (j_iload_4 dX0_run_20 (n := 22) rfl), (j_aload_n_0 dX0_run_22 (n := 23) rfl), (j_iload_5 dX0_run_23 (n := 25) rfl), (j_iload_n_3 dX0_run_25 (n := 26) rfl), (j_cv2i (M := mX0_run) dX0_run_26 (n := 29) rfl cM_0_99 (Or.inl rfl) lv_X0_run_X0_step rfl (oc := 0) rfl), (j_iadd dX0_run_29 (n := 30) rfl), (j_istore_4 dX0_run_30 (n := 32) rfl), (j_iinc_5 dX0_run_32 (n := 35) rfl ki_1), (j_goto dX0_run_35 (n := 38) rfl br_35_m23), (j_iload_4 dX0_run_38 (n := 40) rfl), (j_iret dX0_run_40 (n := 41) rfl), rOk_i (M := mX0_run) rfl, nl_x, pk_us]
    rw [nI_add, if_neg (nI_nlt (Nat.le_refl _) (by omega))]
    exact h Zs rs h0 h1 h2
