-- reading: the class's clauses
def flt (S : xA) (o : Option (Nat × Nat)) : Prop := match o with
  | none => S 22 5 = 0 ∧ S 22 6 = -1
  | some (x, w) => S 22 5 = nI x ∧ S 22 6 = nI w ∧ 1 ≤ x ∧ x ≤ 5
def bl (o : Option (Nat × Nat)) (x w : Nat) : Option (Nat × Nat) := match o with
  | none => some (x, w)
  | some y => some y
def rdC (S0 S : xA) (n p w cnt : Nat) (o : Option (Nat × Nat)) (K V : Nat → Int32) : Prop := (∀ c, c ∉ [22, 24, 25] → S c = S0 c) ∧ S 22 3 = nI n ∧ S 22 7 = nI p ∧ p ≤ n ∧ S 22 8 = nI w ∧ S 22 4 = nI cnt ∧ flt S o ∧ S 24 = K ∧ S 25 = V
theorem flt_c {S S' : xA} {o : Option (Nat × Nat)} (h : flt S o) (h5 : S' 22 5 = S 22 5) (h6 : S' 22 6 = S 22 6) : flt S' o := by
  unfold flt at *
  rw [h5, h6]
  exact h
section RC
variable {S0 S : xA} {n p w cnt : Nat} {o : Option (Nat × Nat)} {K V : Nat → Int32}
theorem rdC_23 (h : rdC S0 S n p w cnt o K V) : S 23 = S0 23 := h.1 23 (by decide)
theorem rdC_f {S' : xA} {p' w' : Nat} {js : List Nat} (h : rdC S0 S n p w cnt o K V) (f1 : f22 js S S') (hj : ∀ j, j ∈ [3, 4, 5, 6] → j ∉ js) (h7 : S' 22 7 = nI p') (hp : p' ≤ n) (h8 : S' 22 8 = nI w') : rdC S0 S' n p' w' cnt o K V := by
  obtain ⟨a1, a2, a3, a4, a5, a6, a7, a8, a9⟩ := h
  refine ⟨fun c hc => by rw [f1.1 c (fun e => hc (by rw [e]; decide))]; exact a1 c hc, ?_, h7, hp, h8, ?_, flt_c a7 (f1.2 5 (hj 5 (by decide))) (f1.2 6 (hj 6 (by decide))), ?_, ?_⟩
  · rw [f1.2 3 (hj 3 (by decide))]; exact a2
  · rw [f1.2 4 (hj 4 (by decide))]; exact a6
  · rw [f1.1 24 (by decide)]; exact a8
  · rw [f1.1 25 (by decide)]; exact a9
theorem x_skip (hn : n ≤ 160) (h : rdC S0 S n p w cnt o K V) (f : xA → Prop) (k : ∀ S', rdC S0 S' n (sk (S0 23) n p) w cnt o K V → f S') : CV mX7_skipBlanks [.ref (22 : Nat)] S f := by
  refine c_skip S f p n h.2.2.1 h.2.1 h.2.2.2.1 hn (fun S' f1 e7 => k S' ?_)
  rw [rdC_23 h] at e7
  exact rdC_f h f1 (by decide) e7 (sk_le h.2.2.2.1).2 (by rw [f1.2 8 (by decide)]; exact h.2.2.2.2.1)
theorem x_tword (hn : n ≤ 160) (h : rdC S0 S n p w cnt o K V) (f : xA → Prop) (k : ∀ S', rdC S0 S' n (wd (S0 23) n (sk (S0 23) n p)) (sk (S0 23) n p) cnt o K V → f S') : CV mX7_takeWord [.ref (22 : Nat)] S f := by
  refine c_tword S f p n h.2.2.1 h.2.1 h.2.2.2.1 hn (fun S' f1 e8 e7 => k S' ?_)
  rw [rdC_23 h] at e7 e8
  exact rdC_f h f1 (by decide) e7 (wd_le (sk_le h.2.2.2.1).2).2 e8
theorem x_takes (hn : n ≤ 160) (g : Int32) (h : rdC S0 S n p w cnt o K V) (f : xP) (k1 : (p < n ∧ S0 23 p = g) → ∀ S', rdC S0 S' n (p + 1) w cnt o K V → f 1 S') (k2 : ¬ (p < n ∧ S0 23 p = g) → f 0 S) : CI mX7_takes [.ref (22 : Nat), .int g] S f := by
  refine c_takes g S f p n h.2.2.1 h.2.1 hn h.2.2.2.1 (fun q S' f1 e7 => ?_) (fun q => ?_)
  · rw [rdC_23 h] at q
    exact k1 q S' (rdC_f h f1 (by decide) e7 (by omega) (by rw [f1.2 8 (by decide)]; exact h.2.2.2.2.1))
  · rw [rdC_23 h] at q
    exact k2 q
set_option maxHeartbeats 4000000 in
theorem x_blame (x y : Nat) (hx : 1 ≤ x ∧ x ≤ 5) (h : rdC S0 S n p w cnt o K V) (f : xA → Prop) (k : ∀ S', rdC S0 S' n p w cnt (bl o x y) K V → f S') : CV mX7_blame [.ref (22 : Nat), .int (nI x), .int (nI y)] S f := by
  show CV mX7_blame _ _ _
  refine cv_of (T := mX7_blame) (f := fun _ _ => True) (ls := [some (.ref (22 : Nat)), some (.int (nI x)), some (.int (nI y))]) rfl (Nat.le_of_ble_eq_true rfl) (by decide) rfl rfl rfl (ok2_0 cX7_blame 7 40 rfl rfl ?_)
  simp only [sw3_c, sw3_n, Nat.reduceEqDiff, not_false_eq_true, Nat.zero_le, Nat.reduceLeDiff, Nat.reduceLT, Nat.reduceAdd, sg_s, ↓kif_0, ↓kif_c, ↓reduceIte, nl_n, nl_i, nl_r, List.length_cons, List.length_nil, true_and, and_true, upA_s, upA_n, upA_u, Prod.mk.injEq, and_self, Fr_22_5, oI_22_5, oI_22_6, oL_22, (j_aload_n_0 dX7_blame_0 (n := 1) rfl), (j_getf dX7_blame_1 (n := 4) rfl cF_7_28), (j_if_eq dX7_blame_4 (n := 7) rfl br_4_4), (j_ret (M := mX7_blame) dX7_blame_7 (n := 8) rfl rfl), (j_aload_n_0 dX7_blame_8 (n := 9) rfl), (j_iload_n_1 dX7_blame_9 (n := 10) rfl), (j_putf dX7_blame_10 (n := 13) rfl cF_7_28), (j_aload_n_0 dX7_blame_13 (n := 14) rfl), (j_iload_n_2 dX7_blame_14 (n := 15) rfl), (j_putf dX7_blame_15 (n := 18) rfl cF_7_31), (j_ret (M := mX7_blame) dX7_blame_18 (n := 19) rfl rfl)]
  obtain ⟨a1, a2, a3, a4, a5, a6, a7, a8, a9⟩ := id h
  refine ite_i (fun q => ?_) (fun q => ?_)
  · cases o with
    | some z =>
      obtain ⟨z1, z2⟩ := z
      have : S 22 5 = nI z1 := a7.1
      rw [q] at this
      have h1 := a7.2.2.1
      have h2 := a7.2.2.2
      exact absurd this.symm (nI_ne0 (by omega) (by omega))
    | none =>
      refine k _ ⟨fun c hc => ?_, ?_, ?_, a4, ?_, ?_, ⟨?_, ?_, hx⟩, ?_, ?_⟩
      · rw [upA_n _ _ (fun e => hc (by rw [e]; decide))]; exact a1 c hc
      · rw [upA_s, upd_n (by decide), upd_n (by decide)]; exact a2
      · rw [upA_s, upd_n (by decide), upd_n (by decide)]; exact a3
      · rw [upA_s, upd_n (by decide), upd_n (by decide)]; exact a5
      · rw [upA_s, upd_n (by decide), upd_n (by decide)]; exact a6
      · rw [upA_s, upd_n (by decide), pk_us]
      · rw [upA_s, pk_us]
      · rw [upA_n _ _ (by decide)]; exact a8
      · rw [upA_n _ _ (by decide)]; exact a9
  · cases o with
    | none => exact absurd a7.1 q
    | some z => exact k S h
theorem nine_8 {cnt : Nat} (h : cnt ≤ 9) : (nI cnt < 8) = (cnt < 8) := by
  rw [show (8 : Int32) = nI 8 from rfl, nI_ltN (by omega) (by omega)]
set_option maxHeartbeats 4000000 in
theorem x_ninth (hc : cnt ≤ 8) (h : rdC S0 S n p w cnt o K V) (f : xA → Prop) (k : ∀ S', rdC S0 S' n p w cnt (if 8 ≤ cnt then bl o 5 w else o) K V → f S') : CV mX7_refuseNinth [.ref (22 : Nat)] S f := by
  show CV mX7_refuseNinth _ _ _
  refine cv_of (T := mX7_refuseNinth) (f := fun _ _ => True) (ls := [some (.ref (22 : Nat))]) rfl (Nat.le_of_ble_eq_true rfl) (by decide) rfl rfl rfl (ok2_0 cX7_refuseNinth 7 40 rfl rfl ?_)
  simp only [sw3_c, sw3_n, Nat.reduceEqDiff, not_false_eq_true, Nat.zero_le, Nat.reduceLeDiff, Nat.reduceLT, Nat.reduceAdd, sg_s, ↓kif_0, ↓kif_c, ↓reduceIte, nl_n, nl_i, nl_r, List.length_cons, List.length_nil, true_and, and_true, upA_s, upA_n, upA_u, Prod.mk.injEq, and_self, Fr_22_4, Fr_22_8, oC_22, oL_22, (j_aload_n_0 dX7_refuseNinth_0 (n := 1) rfl), (j_getf dX7_refuseNinth_1 (n := 4) rfl cF_7_25), (j_bipush dX7_refuseNinth_4 (n := 6) rfl kb_8), (j_ic_lt dX7_refuseNinth_6 (n := 9) rfl br_6_12), (j_aload_n_0 dX7_refuseNinth_9 (n := 10) rfl), (j_iconst dX7_refuseNinth_10 (n := 11) rfl ki_5), (j_aload_n_0 dX7_refuseNinth_11 (n := 12) rfl), (j_getf dX7_refuseNinth_12 (n := 15) rfl cF_7_37), (j_cv2v (M := mX7_refuseNinth) dX7_refuseNinth_15 (n := 18) rfl cM_7_79 (Or.inl rfl) lv_X7_refuseNinth_X7_blame rfl (oc := 7) rfl), (j_ret (M := mX7_refuseNinth) dX7_refuseNinth_18 (n := 19) rfl rfl)]
  simp only [h.2.2.2.2.2.1, h.2.2.2.2.1, nine_8 (show cnt ≤ 9 by omega)]
  refine ite_i (fun q => ?_) (fun q => ?_)
  · rw [if_neg (by omega)] at k
    exact k S h
  · rw [if_pos (by omega)] at k
    exact x_blame 5 w (by omega) h f k
set_option maxHeartbeats 4000000 in
theorem x_close (hn : n ≤ 160) (hc : cnt ≤ 8) (kd vl : Int32) (h : rdC S0 S n p w cnt o K V) (ho : o = none → cnt < 8) (f : xA → Prop) (k1 : o = none → (sk (S0 23) n p < n ∧ S0 23 (sk (S0 23) n p) = 59) → ∀ S', rdC S0 S' n (sk (S0 23) n p + 1) w (cnt + 1) none (upd K cnt kd) (upd V cnt vl) → f S') (k2 : o = none → ¬ (sk (S0 23) n p < n ∧ S0 23 (sk (S0 23) n p) = 59) → ∀ S' p', rdC S0 S' n p' w cnt (some (1, sk (S0 23) n p)) K V → f S') (k3 : ∀ y, o = some y → ∀ S' p', rdC S0 S' n p' w cnt (some y) K V → f S') : CV mX7_close [.ref (22 : Nat), .int kd, .int vl] S f := by
  show CV mX7_close _ _ _
  refine cv_of (T := mX7_close) (f := fun _ _ => True) (ls := [some (.ref (22 : Nat)), some (.int kd), some (.int vl)]) rfl (Nat.le_of_ble_eq_true rfl) (by decide) rfl rfl rfl (ok2_0 cX7_close 7 60 rfl rfl ?_)
  simp only [sw3_c, sw3_n, Nat.reduceEqDiff, not_false_eq_true, Nat.zero_le, Nat.reduceLeDiff, Nat.reduceLT, Nat.reduceAdd, sg_s, ↓kif_0, ↓kif_c, ↓reduceIte, nl_n, nl_i, nl_r, List.length_cons, List.length_nil, true_and, and_true, upA_s, upA_n, upA_u, Prod.mk.injEq, and_self, Fr_22_1, Fr_22_2, Fr_22_4, Fr_22_5, Fr_22_7, Ld_24, Ld_25, oA_24, oA_25, oC_22, oI_22_4, oL_22, (j_aload_n_0 dX7_close_0 (n := 1) rfl), (j_cv0v (M := mX7_close) dX7_close_1 (n := 4) rfl cM_7_50 (Or.inl rfl) lv_X7_close_X7_skipBlanks rfl (oc := 7) rfl), (j_aload_n_0 dX7_close_4 (n := 5) rfl), (j_bipush dX7_close_5 (n := 7) rfl kb_59), (j_cv1i (M := mX7_close) dX7_close_7 (n := 10) rfl cM_7_93 (Or.inl rfl) lv_X7_close_X7_takes rfl (oc := 7) rfl), (j_if_ne dX7_close_10 (n := 13) rfl br_10_12), (j_aload_n_0 dX7_close_13 (n := 14) rfl), (j_iconst dX7_close_14 (n := 15) rfl ki_1), (j_aload_n_0 dX7_close_15 (n := 16) rfl), (j_getf dX7_close_16 (n := 19) rfl cF_7_34), (j_cv2v (M := mX7_close) dX7_close_19 (n := 22) rfl cM_7_79 (Or.inl rfl) lv_X7_close_X7_blame rfl (oc := 7) rfl), (j_aload_n_0 dX7_close_22 (n := 23) rfl), (j_getf dX7_close_23 (n := 26) rfl cF_7_28), (j_if_ne dX7_close_26 (n := 29) rfl br_26_12), (j_aload_n_0 dX7_close_29 (n := 30) rfl), (j_getf dX7_close_30 (n := 33) rfl cF_7_25), (j_bipush dX7_close_33 (n := 35) rfl kb_8), (j_ic_lt dX7_close_35 (n := 38) rfl br_35_4), (j_ret (M := mX7_close) dX7_close_38 (n := 39) rfl rfl), (j_aload_n_0 dX7_close_39 (n := 40) rfl), (j_getf dX7_close_40 (n := 43) rfl cF_7_15), (j_aload_n_0 dX7_close_43 (n := 44) rfl), (j_getf dX7_close_44 (n := 47) rfl cF_7_25), (j_iload_n_1 dX7_close_47 (n := 48) rfl), (j_iast dX7_close_48 (n := 49) rfl), (j_aload_n_0 dX7_close_49 (n := 50) rfl), (j_getf dX7_close_50 (n := 53) rfl cF_7_18), (j_aload_n_0 dX7_close_53 (n := 54) rfl), (j_getf dX7_close_54 (n := 57) rfl cF_7_25), (j_iload_n_2 dX7_close_57 (n := 58) rfl), (j_iast dX7_close_58 (n := 59) rfl), (j_aload_n_0 dX7_close_59 (n := 60) rfl), (j_dup_i dX7_close_60 (n := 61) rfl), (j_dup_r dX7_close_60 (n := 61) rfl), (j_getf dX7_close_61 (n := 64) rfl cF_7_25), (j_iconst dX7_close_64 (n := 65) rfl ki_1), (j_iadd dX7_close_65 (n := 66) rfl), (j_putf dX7_close_66 (n := 69) rfl cF_7_25), (j_ret (M := mX7_close) dX7_close_69 (n := 70) rfl rfl)]
  refine x_skip hn h _ (fun S1 h1 => x_takes hn 59 h1 _ (fun q S2 h2 => ?_) (fun q => ?_))
  · rw [if_neg (by decide)]
    obtain ⟨a1, a2, a3, a4, a5, a6, a7, a8, a9⟩ := id h2
    simp only [a6, nine_8 (show cnt ≤ 9 by omega)]
    cases o with
    | some z =>
      obtain ⟨z1, z2⟩ := z
      refine ite_i (fun e => ?_) (fun e => k3 _ rfl S2 _ h2)
      have h5 : S2 22 5 = nI z1 := a7.1
      rw [e] at h5
      have h51 := a7.2.2.1
      have h52 := a7.2.2.2
      exact absurd h5.symm (nI_ne0 (by omega) (by omega))
    | none =>
      have hc8 := ho rfl
      have hv : vp_in (nI cnt) 8 := vp_in_nI (by omega) (by omega)
      rw [if_pos a7.1, if_pos hc8, nI_clamp (n := cnt) (by omega), nI_1]
      refine ⟨hv, hv, k1 rfl q _ ⟨fun c hc => ?_, ?_, ?_, a4, ?_, ?_, ⟨?_, ?_⟩, ?_, ?_⟩⟩
      · rw [upA_n _ _ (fun e => hc (by rw [e]; decide)), upA_n _ _ (fun e => hc (by rw [e]; decide)), upA_n _ _ (fun e => hc (by rw [e]; decide))]; exact a1 c hc
      · simp only [upA_s, upA_n, upA_u, Nat.reduceEqDiff, not_false_eq_true, pk_us, upd_n]; exact a2
      · simp only [upA_s, upA_n, upA_u, Nat.reduceEqDiff, not_false_eq_true, pk_us, upd_n]; exact a3
      · simp only [upA_s, upA_n, upA_u, Nat.reduceEqDiff, not_false_eq_true, pk_us, upd_n]; exact a5
      · simp only [upA_s, upA_n, upA_u, Nat.reduceEqDiff, not_false_eq_true, pk_us, upd_n]
      · simp only [upA_s, upA_n, upA_u, Nat.reduceEqDiff, not_false_eq_true, pk_us, upd_n]; exact a7.1
      · simp only [upA_s, upA_n, upA_u, Nat.reduceEqDiff, not_false_eq_true, pk_us, upd_n]; exact a7.2
      · simp only [upA_s, upA_n, upA_u, Nat.reduceEqDiff, not_false_eq_true, pk_us, upd_n]; rw [a8]
      · simp only [upA_s, upA_n, upA_u, Nat.reduceEqDiff, not_false_eq_true, pk_us, upd_n]; rw [a9]
  · rw [if_pos rfl, h1.2.2.1]
    refine x_blame 1 (sk (S0 23) n p) (by omega) h1 _ (fun S2 h2 => ?_)
    obtain ⟨a1, a2, a3, a4, a5, a6, a7, a8, a9⟩ := id h2
    cases o with
    | some z =>
      obtain ⟨z1, z2⟩ := z
      refine ite_i (fun e => ?_) (fun e => k3 _ rfl S2 _ h2)
      have h5 : S2 22 5 = nI z1 := a7.1
      rw [e] at h5
      have h51 := a7.2.2.1
      have h52 := a7.2.2.2
      exact absurd h5.symm (nI_ne0 (by omega) (by omega))
    | none =>
      refine ite_i (fun e => ?_) (fun e => k2 rfl q S2 _ h2)
      have h5 : S2 22 5 = nI 1 := a7.1
      rw [e] at h5
      exact absurd h5.symm (nI_ne0 (by omega) (by omega))
end RC
theorem cmO_lt {b : Nat → Int32} {p q c : Nat} (h : cmO b p q = some c) : c < 4 := by
  unfold cmO at h
  split at h
  · cases h; omega
  · split at h
    · cases h; omega
    · split at h
      · cases h; omega
      · split at h
        · cases h; omega
        · cases h
theorem gdO_lt {b : Nat → Int32} {p q c : Nat} (h : gdO b p q = some c) : c < 3 := by
  unfold gdO at h
  split at h
  · cases h; omega
  · split at h
    · cases h; omega
    · split at h
      · cases h; omega
      · cases h
def pc4 (s : Nat) : Nat := s % 2 + s / 2 % 2 + s / 4 % 2 + s / 8 % 2
theorem st_all : ∀ s, s < 16 → ∀ c, c < 4 → (((nI s >>> (nI c &&& 31)) &&& 1 = 1) ↔ s / 2 ^ c % 2 = 1) ∧ 1 <<< (nI c &&& 31) = nI (2 ^ c) ∧ (s / 2 ^ c % 2 = 0 → (nI s ||| nI (2 ^ c) = nI (s + 2 ^ c) ∧ s + 2 ^ c < 16 ∧ pc4 (s + 2 ^ c) = pc4 s + 1)) ∧ pc4 s ≤ 4 := by decide
section RC
variable {S0 S : xA} {n p w cnt : Nat} {K V : Nat → Int32}
set_option maxHeartbeats 4000000 in
theorem x_stamp (hn : n ≤ 160) (s : Nat) (hs : s < 16) (h : rdC S0 S n p w cnt none K V) (f : xP)
    (k1 : cmO (S0 23) (sk (S0 23) n p) (wd (S0 23) n (sk (S0 23) n p)) = none → ∀ S', rdC S0 S' n (wd (S0 23) n (sk (S0 23) n p)) (sk (S0 23) n p) cnt (some (1, sk (S0 23) n p)) K V → f 0 S')
    (k2 : ∀ c, cmO (S0 23) (sk (S0 23) n p) (wd (S0 23) n (sk (S0 23) n p)) = some c → s / 2 ^ c % 2 = 1 → ∀ S', rdC S0 S' n (wd (S0 23) n (sk (S0 23) n p)) (sk (S0 23) n p) cnt (some (4, sk (S0 23) n p)) K V → f (nI (2 ^ c)) S')
    (k3 : ∀ c, cmO (S0 23) (sk (S0 23) n p) (wd (S0 23) n (sk (S0 23) n p)) = some c → ¬ s / 2 ^ c % 2 = 1 → ∀ S', rdC S0 S' n (wd (S0 23) n (sk (S0 23) n p)) (sk (S0 23) n p) cnt none K V → f (nI (2 ^ c)) S') : CI mX7_readStamp [.ref (22 : Nat), .int (nI s)] S f := by
  show CI mX7_readStamp _ _ _
  refine ci_of (T := mX7_readStamp) (fv := fun _ => True) (ls := [some (.ref (22 : Nat)), some (.int (nI s)), none]) rfl (Nat.le_of_ble_eq_true rfl) (by decide) rfl rfl rfl (ok2_0 cX7_readStamp 7 60 rfl rfl ?_)
  simp only [sw3_c, sw3_n, Nat.reduceEqDiff, not_false_eq_true, Nat.zero_le, Nat.reduceLeDiff, Nat.reduceLT, Nat.reduceAdd, sg_s, ↓kif_0, ↓kif_c, ↓reduceIte, nl_n, nl_i, nl_r, List.length_cons, List.length_nil, true_and, and_true, upA_s, upA_n, upA_u, Prod.mk.injEq, and_self, Fr_22_8, oC_22, oL_22, (j_aload_n_0 dX7_readStamp_0 (n := 1) rfl), (j_cv0v (M := mX7_readStamp) dX7_readStamp_1 (n := 4) rfl cM_7_53 (Or.inl rfl) lv_X7_readStamp_X7_takeWord rfl (oc := 7) rfl), (j_aload_n_0 dX7_readStamp_4 (n := 5) rfl), (j_cv0i (M := mX7_readStamp) dX7_readStamp_5 (n := 8) rfl cM_7_100 (Or.inl rfl) lv_X7_readStamp_X7_committee rfl (oc := 7) rfl), (j_istore_n_2 dX7_readStamp_8 (n := 9) rfl), (j_iload_n_2 dX7_readStamp_9 (n := 10) rfl), (j_iconst dX7_readStamp_10 (n := 11) rfl ki_m1), (j_ic_ne dX7_readStamp_11 (n := 14) rfl br_11_14), (j_aload_n_0 dX7_readStamp_14 (n := 15) rfl), (j_iconst dX7_readStamp_15 (n := 16) rfl ki_1), (j_aload_n_0 dX7_readStamp_16 (n := 17) rfl), (j_getf dX7_readStamp_17 (n := 20) rfl cF_7_37), (j_cv2v (M := mX7_readStamp) dX7_readStamp_20 (n := 23) rfl cM_7_79 (Or.inl rfl) lv_X7_readStamp_X7_blame rfl (oc := 7) rfl), (j_iconst dX7_readStamp_23 (n := 24) rfl ki_0), (j_iret dX7_readStamp_24 (n := 25) rfl), (j_iload_n_1 dX7_readStamp_25 (n := 26) rfl), (j_iload_n_2 dX7_readStamp_26 (n := 27) rfl), (j_cs2i (M := mX7_readStamp) dX7_readStamp_27 (n := 30) rfl cM_7_103 (Or.inr rfl) (o := 7) rfl lv_X7_readStamp_X9_has rfl), (j_if_eq dX7_readStamp_30 (n := 33) rfl br_30_12), (j_aload_n_0 dX7_readStamp_33 (n := 34) rfl), (j_iconst dX7_readStamp_34 (n := 35) rfl ki_4), (j_aload_n_0 dX7_readStamp_35 (n := 36) rfl), (j_getf dX7_readStamp_36 (n := 39) rfl cF_7_37), (j_cv2v (M := mX7_readStamp) dX7_readStamp_39 (n := 42) rfl cM_7_79 (Or.inl rfl) lv_X7_readStamp_X7_blame rfl (oc := 7) rfl), (j_iconst dX7_readStamp_42 (n := 43) rfl ki_1), (j_iload_n_2 dX7_readStamp_43 (n := 44) rfl), (j_ishl dX7_readStamp_44 (n := 45) rfl), (j_iret dX7_readStamp_45 (n := 46) rfl), rOk_i (M := mX7_readStamp) rfl]
  refine x_tword hn h _ (fun S1 h1 => ?_)
  have l1 := sk_le (b := S0 23) h.2.2.2.1
  have l2 := wd_le (b := S0 23) l1.2
  refine c_comm7 S1 _ (sk (S0 23) n p) (wd (S0 23) n (sk (S0 23) n p)) n h1.2.2.2.2.1 h1.2.2.1 l2.1 l2.2 hn ?_
  rw [rdC_23 h1, h1.2.2.2.2.1]
  cases hc : cmO (S0 23) (sk (S0 23) n p) (wd (S0 23) n (sk (S0 23) n p)) with
  | none =>
    rw [oN_n, if_pos rfl]
    exact x_blame 1 _ (by omega) h1 _ (fun S2 h2 => k1 hc S2 h2)
  | some c =>
    have hc4 := cmO_lt hc
    have A := st_all s hs c hc4
    rw [oN_s, if_neg (by rw [eq_I, toInt_nI (by omega), ti_m1]; omega), A.2.1]
    refine c_has _ _ _ _ ?_
    refine ite_b (fun q => k3 c hc (fun w => ?_) S1 h1) (fun q => ?_)
    · rw [decide_eq_false_iff_not, A.1] at q
      exact q w
    · rw [decide_eq_true_eq, A.1] at q
      rw [h1.2.2.2.2.1]
      exact x_blame 4 _ (by omega) h1 _ (fun S2 h2 => k2 c hc q S2 h2)
end RC
