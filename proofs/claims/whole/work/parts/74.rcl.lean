-- reading: the class's small steps
def f22 (js : List Nat) (S S' : xA) : Prop := (∀ c, ¬ c = 22 → S' c = S c) ∧ ∀ j, j ∉ js → S' 22 j = S 22 j
theorem f22_rf (js : List Nat) (S : xA) : f22 js S S := ⟨fun _ _ => rfl, fun _ _ => rfl⟩
theorem f22_up {js : List Nat} {S S' : xA} {j : Nat} {v : Int32} (h : f22 js S S') (hj : j ∈ js) : f22 js S (upA S' 22 (upd (S' 22) j v)) := by
  refine ⟨fun c hc => by rw [upA_n _ _ hc]; exact h.1 c hc, fun i hi => ?_⟩
  rw [upA_s, upd_n (fun e => hi (by rw [e]; exact hj))]
  exact h.2 i hi
theorem f22_tr {js ks : List Nat} {S S' S2 : xA} (h : f22 js S S') (h2 : f22 ks S' S2) (hl : ∀ c ∈ ks, c ∈ js) : f22 js S S2 := ⟨fun c hc => (h2.1 c hc).trans (h.1 c hc), fun j hj => (h2.2 j (fun q => hj (hl j q))).trans (h.2 j hj)⟩
theorem f22_w {js ks : List Nat} {S S' : xA} (h : f22 ks S S') (hl : ∀ c ∈ ks, c ∈ js) : f22 js S S' := ⟨h.1, fun j hj => h.2 j (fun q => hj (hl j q))⟩
theorem nI_ltN {a b : Nat} (ha : a < 1000000) (hb : b < 1000000) : (nI a < nI b) = (a < b) := by
  apply propext
  rw [lt_I, toInt_nI ha, toInt_nI hb]
  omega
set_option maxHeartbeats 4000000 in
theorem c_skip (S : xA) (f : xA → Prop) (p n : Nat) (h7 : S 22 7 = nI p) (h3 : S 22 3 = nI n) (hp : p ≤ n) (hn : n ≤ 160) (h : ∀ S', f22 [7] S S' → S' 22 7 = nI (sk (S 23) n p) → f S') : CV mX7_skipBlanks [.ref (22 : Nat)] S f := by
  refine cv_of (T := mX7_skipBlanks) (f := fun _ _ => True) (ls := [some (.ref (22 : Nat))]) rfl (Nat.le_of_ble_eq_true rfl) (by decide) rfl rfl rfl (ok2_inv cX7_skipBlanks 7 40 0 (fun m ls S' => ls = [some (.ref (22 : Nat))] ∧ ∃ q, q ≤ n ∧ m = n - q ∧ sk (S 23) n q = sk (S 23) n p ∧ f22 [7] S S' ∧ S' 22 7 = nI q) rfl rfl ?_ (n - p) _ S ⟨rfl, p, hp, rfl, rfl, f22_rf _ _, h7⟩)
  rintro m _ S' ⟨rfl, q, hq, rfl, e, f1, e7⟩ R hR
  have e3 : S' 22 3 = nI n := by rw [f1.2 3 (by decide)]; exact h3
  simp only [sw3_c, sw3_n, Nat.reduceEqDiff, not_false_eq_true, Nat.zero_le, Nat.reduceLeDiff, Nat.reduceLT, Nat.reduceAdd, sg_s, ↓kif_0, ↓kif_c, ↓reduceIte, nl_n, nl_i, nl_r, List.length_cons, List.length_nil, true_and, and_true, upA_s, upA_n, upA_u, Prod.mk.injEq, and_self, Fr_22_0, Fr_22_3, Fr_22_7, Ld_23, oA_23, oI_22_7, oL_22, (j_aload_n_0 dX7_skipBlanks_0 (n := 1) rfl), (j_getf dX7_skipBlanks_1 (n := 4) rfl cF_7_34), (j_aload_n_0 dX7_skipBlanks_4 (n := 5) rfl), (j_getf dX7_skipBlanks_5 (n := 8) rfl cF_7_21), (j_ic_ge dX7_skipBlanks_8 (n := 11) rfl br_8_30), (j_aload_n_0 dX7_skipBlanks_11 (n := 12) rfl), (j_getf dX7_skipBlanks_12 (n := 15) rfl cF_7_9), (j_aload_n_0 dX7_skipBlanks_15 (n := 16) rfl), (j_getf dX7_skipBlanks_16 (n := 19) rfl cF_7_34), (j_iald dX7_skipBlanks_19 (n := 20) rfl), (j_bipush dX7_skipBlanks_20 (n := 22) rfl kb_32), (j_ic_ne dX7_skipBlanks_22 (n := 25) rfl br_22_16), (j_aload_n_0 dX7_skipBlanks_25 (n := 26) rfl), (j_dup_i dX7_skipBlanks_26 (n := 27) rfl), (j_dup_r dX7_skipBlanks_26 (n := 27) rfl), (j_getf dX7_skipBlanks_27 (n := 30) rfl cF_7_34), (j_iconst dX7_skipBlanks_30 (n := 31) rfl ki_1), (j_iadd dX7_skipBlanks_31 (n := 32) rfl), (j_putf dX7_skipBlanks_32 (n := 35) rfl cF_7_34), (j_goto dX7_skipBlanks_35 (n := 38) rfl br_35_m35), (j_ret (M := mX7_skipBlanks) dX7_skipBlanks_38 (n := 39) rfl rfl), nl_x, pk_us, e7, e3, f1.1 23 (by decide), nI_ltN (show q < 1000000 by omega) (show n < 1000000 by omega)]
  refine ite_i (fun h1 => ⟨vp_in_nI (by omega) (by omega), ?_⟩) (fun h1 => ?_)
  · rw [nI_clamp (n := q) (by omega), nI_1]
    refine ite_i (fun h2 => ?_) (fun h2 => ?_)
    · refine hR (n - (q + 1)) _ _ (by omega) ⟨rfl, q + 1, by omega, rfl, ?_, f22_up f1 (by decide), by rw [upA_s, pk_us]⟩
      rw [← e]
      exact (ef_y h1 (by unfold bBl; rw [decide_eq_true h1, decide_eq_true h2]; rfl)).symm
    · refine h S' f1 ?_
      rw [e7, ← e]
      exact congrArg nI (ef_n (by unfold bBl; rw [decide_eq_false h2, Bool.and_false])).symm
  · refine h S' f1 ?_
    rw [e7, ← e]
    exact congrArg nI (ef_n (by unfold bBl; rw [decide_eq_false h1, Bool.false_and])).symm
set_option maxHeartbeats 4000000 in
theorem c_takes (g : Int32) (S : xA) (f : xP) (p n : Nat) (h7 : S 22 7 = nI p) (h3 : S 22 3 = nI n) (hn : n ≤ 160) (hp : p ≤ n) (h1 : (p < n ∧ S 23 p = g) → ∀ S', f22 [7] S S' → S' 22 7 = nI (p + 1) → f 1 S') (h2 : ¬ (p < n ∧ S 23 p = g) → f 0 S) : CI mX7_takes [.ref (22 : Nat), .int g] S f := by
  show CI mX7_takes _ _ _
  refine ci_of (T := mX7_takes) (fv := fun _ => True) (ls := [some (.ref (22 : Nat)), some (.int g)]) rfl (Nat.le_of_ble_eq_true rfl) (by decide) rfl rfl rfl (ok2_0 cX7_takes 7 60 rfl rfl ?_)
  simp only [sw3_c, sw3_n, Nat.reduceEqDiff, not_false_eq_true, Nat.zero_le, Nat.reduceLeDiff, Nat.reduceLT, Nat.reduceAdd, sg_s, ↓kif_0, ↓kif_c, ↓reduceIte, nl_n, nl_i, nl_r, List.length_cons, List.length_nil, true_and, and_true, upA_s, upA_n, upA_u, Prod.mk.injEq, and_self, Fr_22_0, Fr_22_3, Fr_22_7, Ld_23, oA_23, oI_22_7, oL_22, (j_aload_n_0 dX7_takes_0 (n := 1) rfl), (j_getf dX7_takes_1 (n := 4) rfl cF_7_34), (j_aload_n_0 dX7_takes_4 (n := 5) rfl), (j_getf dX7_takes_5 (n := 8) rfl cF_7_21), (j_ic_ge dX7_takes_8 (n := 11) rfl br_8_16), (j_aload_n_0 dX7_takes_11 (n := 12) rfl), (j_getf dX7_takes_12 (n := 15) rfl cF_7_9), (j_aload_n_0 dX7_takes_15 (n := 16) rfl), (j_getf dX7_takes_16 (n := 19) rfl cF_7_34), (j_iald dX7_takes_19 (n := 20) rfl), (j_iload_n_1 dX7_takes_20 (n := 21) rfl), (j_ic_eq dX7_takes_21 (n := 24) rfl br_21_5), (j_iconst dX7_takes_24 (n := 25) rfl ki_0), (j_iret dX7_takes_25 (n := 26) rfl), (j_aload_n_0 dX7_takes_26 (n := 27) rfl), (j_dup_i dX7_takes_27 (n := 28) rfl), (j_dup_r dX7_takes_27 (n := 28) rfl), (j_getf dX7_takes_28 (n := 31) rfl cF_7_34), (j_iconst dX7_takes_31 (n := 32) rfl ki_1), (j_iadd dX7_takes_32 (n := 33) rfl), (j_putf dX7_takes_33 (n := 36) rfl cF_7_34), (j_iconst dX7_takes_36 (n := 37) rfl ki_1), (j_iret dX7_takes_37 (n := 38) rfl)]
  simp only [h7, h3, nI_ltN (show p < 1000000 by omega) (show n < 1000000 by omega)]
  refine ite_i (fun q1 => ⟨vp_in_nI (by omega) (by omega), ?_⟩) (fun q1 => ⟨rOk_z rfl (Or.inl rfl), h2 (fun w => q1 w.1)⟩)
  rw [nI_clamp (n := p) (by omega), nI_1]
  refine ite_i (fun q2 => ⟨rOk_z rfl (Or.inr rfl), h1 ⟨q1, q2⟩ _ (f22_up (f22_rf _ _) (by decide)) (by rw [upA_s, pk_us])⟩) (fun q2 => ⟨rOk_z rfl (Or.inl rfl), h2 (fun w => q2 w.2)⟩)
set_option maxHeartbeats 4000000 in
theorem c_tword (S : xA) (f : xA → Prop) (p n : Nat) (h7 : S 22 7 = nI p) (h3 : S 22 3 = nI n) (hp : p ≤ n) (hn : n ≤ 160) (h : ∀ S', f22 [7, 8] S S' → S' 22 8 = nI (sk (S 23) n p) → S' 22 7 = nI (wd (S 23) n (sk (S 23) n p)) → f S') : CV mX7_takeWord [.ref (22 : Nat)] S f := by
  have hs := sk_le (b := S 23) hp
  refine cv_of (T := mX7_takeWord) (f := fun _ _ => True) (ls := [some (.ref (22 : Nat))]) rfl (Nat.le_of_ble_eq_true rfl) (by decide) rfl rfl rfl (ok_inv cX7_takeWord 7 60 12 (fun m ls S' => ls = [some (.ref (22 : Nat))] ∧ ∃ q, q ≤ n ∧ m = n - q ∧ wd (S 23) n q = wd (S 23) n (sk (S 23) n p) ∧ f22 [7, 8] S S' ∧ S' 22 7 = nI q ∧ S' 22 8 = nI (sk (S 23) n p)) rfl rfl ?_ ?_)
  · intro R hR
    simp only [sw3_c, sw3_n, Nat.reduceEqDiff, not_false_eq_true, Nat.zero_le, Nat.reduceLeDiff, Nat.reduceLT, Nat.reduceAdd, sg_s, ↓kif_0, ↓kif_c, ↓reduceIte, nl_n, nl_i, nl_r, List.length_cons, List.length_nil, true_and, and_true, upA_s, upA_n, upA_u, Prod.mk.injEq, and_self, Fr_22_0, Fr_22_3, Fr_22_7, Ld_23, oA_23, oC_22, oI_22_7, oI_22_8, oL_22, (j_aload_n_0 dX7_takeWord_0 (n := 1) rfl), (j_cv0v (M := mX7_takeWord) dX7_takeWord_1 (n := 4) rfl cM_7_50 (Or.inl rfl) lv_X7_takeWord_X7_skipBlanks rfl (oc := 7) rfl), (j_aload_n_0 dX7_takeWord_4 (n := 5) rfl), (j_aload_n_0 dX7_takeWord_5 (n := 6) rfl), (j_getf dX7_takeWord_6 (n := 9) rfl cF_7_34), (j_putf dX7_takeWord_9 (n := 12) rfl cF_7_37), (j_aload_n_0 dX7_takeWord_12 (n := 13) rfl), (j_getf dX7_takeWord_13 (n := 16) rfl cF_7_34), (j_aload_n_0 dX7_takeWord_16 (n := 17) rfl), (j_getf dX7_takeWord_17 (n := 20) rfl cF_7_21), (j_ic_ge dX7_takeWord_20 (n := 23) rfl br_20_44), (j_aload_n_0 dX7_takeWord_23 (n := 24) rfl), (j_getf dX7_takeWord_24 (n := 27) rfl cF_7_9), (j_aload_n_0 dX7_takeWord_27 (n := 28) rfl), (j_getf dX7_takeWord_28 (n := 31) rfl cF_7_34), (j_iald dX7_takeWord_31 (n := 32) rfl), (j_bipush dX7_takeWord_32 (n := 34) rfl kb_97), (j_ic_lt dX7_takeWord_34 (n := 37) rfl br_34_30), (j_aload_n_0 dX7_takeWord_37 (n := 38) rfl), (j_getf dX7_takeWord_38 (n := 41) rfl cF_7_9), (j_aload_n_0 dX7_takeWord_41 (n := 42) rfl), (j_getf dX7_takeWord_42 (n := 45) rfl cF_7_34), (j_iald dX7_takeWord_45 (n := 46) rfl), (j_bipush dX7_takeWord_46 (n := 48) rfl kb_122), (j_ic_gt dX7_takeWord_48 (n := 51) rfl br_48_16), (j_aload_n_0 dX7_takeWord_51 (n := 52) rfl), (j_dup_i dX7_takeWord_52 (n := 53) rfl), (j_dup_r dX7_takeWord_52 (n := 53) rfl), (j_getf dX7_takeWord_53 (n := 56) rfl cF_7_34), (j_iconst dX7_takeWord_56 (n := 57) rfl ki_1), (j_iadd dX7_takeWord_57 (n := 58) rfl), (j_putf dX7_takeWord_58 (n := 61) rfl cF_7_34), (j_goto dX7_takeWord_61 (n := 64) rfl br_61_m49), (j_ret (M := mX7_takeWord) dX7_takeWord_64 (n := 65) rfl rfl), nl_x, pk_us]
    refine c_skip _ _ p n h7 h3 hp hn (fun S' f1 e7 => ?_)
    rw [e7]
    exact hR _ _ _ ⟨rfl, sk (S 23) n p, hs.2, rfl, rfl, f22_up (f22_w f1 (by decide)) (by decide), by rw [upA_s, upd_n (by decide)]; exact e7, by rw [upA_s, pk_us]⟩
  · rintro m _ S' ⟨rfl, q, hq, rfl, e, f1, e7, e8⟩ R hR
    have e3 : S' 22 3 = nI n := by rw [f1.2 3 (by decide)]; exact h3
    simp only [sw3_c, sw3_n, Nat.reduceEqDiff, not_false_eq_true, Nat.zero_le, Nat.reduceLeDiff, Nat.reduceLT, Nat.reduceAdd, sg_s, ↓kif_0, ↓kif_c, ↓reduceIte, nl_n, nl_i, nl_r, List.length_cons, List.length_nil, true_and, and_true, upA_s, upA_n, upA_u, Prod.mk.injEq, and_self, Fr_22_0, Fr_22_3, Fr_22_7, Ld_23, oA_23, oC_22, oI_22_7, oI_22_8, oL_22, (j_aload_n_0 dX7_takeWord_0 (n := 1) rfl), (j_cv0v (M := mX7_takeWord) dX7_takeWord_1 (n := 4) rfl cM_7_50 (Or.inl rfl) lv_X7_takeWord_X7_skipBlanks rfl (oc := 7) rfl), (j_aload_n_0 dX7_takeWord_4 (n := 5) rfl), (j_aload_n_0 dX7_takeWord_5 (n := 6) rfl), (j_getf dX7_takeWord_6 (n := 9) rfl cF_7_34), (j_putf dX7_takeWord_9 (n := 12) rfl cF_7_37), (j_aload_n_0 dX7_takeWord_12 (n := 13) rfl), (j_getf dX7_takeWord_13 (n := 16) rfl cF_7_34), (j_aload_n_0 dX7_takeWord_16 (n := 17) rfl), (j_getf dX7_takeWord_17 (n := 20) rfl cF_7_21), (j_ic_ge dX7_takeWord_20 (n := 23) rfl br_20_44), (j_aload_n_0 dX7_takeWord_23 (n := 24) rfl), (j_getf dX7_takeWord_24 (n := 27) rfl cF_7_9), (j_aload_n_0 dX7_takeWord_27 (n := 28) rfl), (j_getf dX7_takeWord_28 (n := 31) rfl cF_7_34), (j_iald dX7_takeWord_31 (n := 32) rfl), (j_bipush dX7_takeWord_32 (n := 34) rfl kb_97), (j_ic_lt dX7_takeWord_34 (n := 37) rfl br_34_30), (j_aload_n_0 dX7_takeWord_37 (n := 38) rfl), (j_getf dX7_takeWord_38 (n := 41) rfl cF_7_9), (j_aload_n_0 dX7_takeWord_41 (n := 42) rfl), (j_getf dX7_takeWord_42 (n := 45) rfl cF_7_34), (j_iald dX7_takeWord_45 (n := 46) rfl), (j_bipush dX7_takeWord_46 (n := 48) rfl kb_122), (j_ic_gt dX7_takeWord_48 (n := 51) rfl br_48_16), (j_aload_n_0 dX7_takeWord_51 (n := 52) rfl), (j_dup_i dX7_takeWord_52 (n := 53) rfl), (j_dup_r dX7_takeWord_52 (n := 53) rfl), (j_getf dX7_takeWord_53 (n := 56) rfl cF_7_34), (j_iconst dX7_takeWord_56 (n := 57) rfl ki_1), (j_iadd dX7_takeWord_57 (n := 58) rfl), (j_putf dX7_takeWord_58 (n := 61) rfl cF_7_34), (j_goto dX7_takeWord_61 (n := 64) rfl br_61_m49), (j_ret (M := mX7_takeWord) dX7_takeWord_64 (n := 65) rfl rfl), nl_x, pk_us, e7, e3, f1.1 23 (by decide), nI_ltN (show q < 1000000 by omega) (show n < 1000000 by omega)]
    have no : bLt (S 23) n q = false → f S' := fun w => h S' f1 e8 (by rw [e7, ← e]; exact congrArg nI (ef_n w).symm)
    refine ite_i (fun h1 => ⟨vp_in_nI (by omega) (by omega), ?_⟩) (fun h1 => no (by unfold bLt; rw [decide_eq_false h1, Bool.false_and]))
    rw [nI_clamp (n := q) (by omega), nI_1]
    refine ite_i (fun h2 => no (by unfold bLt; rw [decide_eq_false (p := ¬ S 23 q < 97) (fun w => w h2), Bool.false_and, Bool.and_false])) (fun h2 => ⟨vp_in_nI (by omega) (by omega), ite_i (fun h3 => no (by unfold bLt; rw [decide_eq_false (p := ¬ 122 < S 23 q) (fun w => w h3), Bool.and_false, Bool.and_false])) (fun h3 => ?_)⟩)
    refine hR (n - (q + 1)) _ _ (by omega) ⟨rfl, q + 1, by omega, rfl, ?_, f22_up f1 (by decide), by rw [upA_s, pk_us], by rw [upA_s, upd_n (by decide)]; exact e8⟩
    rw [← e]
    exact (ef_y h1 (by unfold bLt; rw [decide_eq_true h1, decide_eq_true h2, decide_eq_true h3]; rfl)).symm
-- words
theorem kk_ok : ∀ k, k < 13 → (kLen.getD k 0 = (kByt.getD k []).length ∧ (kByt.getD k []).length ≤ 7 ∧ ∀ b ∈ kByt.getD k [], ((b &&& 255).toUInt32 % 65536).toInt32 = b) := by decide
theorem gd_mem (w : List Int32) (i : Nat) (h : i < w.length) : w.getD i 0 ∈ w := by
  rw [List.getD_eq_getElem?_getD, List.getElem?_eq_getElem h]
  exact List.getElem_mem _
theorem ite_b {b : Bool} {A B : Prop} (h1 : b = false → A) (h2 : b = true → B) : if bI b = 0 then A else B := by
  cases b
  · rw [if_pos (show bI false = 0 from rfl)]; exact h1 rfl
  · rw [if_neg (show ¬ bI true = 0 by decide)]; exact h2 rfl
theorem spB_f {b : Nat → Int32} {p : Nat} {w : List Int32} {i : Nat} : ∀ {m : Nat}, i < m → spB b p w (i + 1) = false → spB b p w m = false
  | m + 1, hi, h => by
    by_cases e : i = m
    · rw [← e]; exact h
    · rw [spB, spB_f (m := m) (by omega) h, Bool.false_and]
theorem ks_ok : ∀ k, k < 13 → nI (kLen.getD k 0) >>> ((0 : Int32) &&& 31) = nI (kLen.getD k 0) := by decide
theorem kc_ok : ∀ k, k < 13 → ∀ b ∈ kByt.getD k [], narrow .char (.int b) = .int b := by
  have h : ∀ k, k < 13 → ∀ b ∈ kByt.getD k [], ((b &&& 255).toUInt32 % 65536).toInt32 = b ∧ (b.toUInt32 % 65536).toInt32 = b := by decide
  intro k hk b hb
  show Value.int _ = Value.int _
  exact congrArg Value.int (h k hk b hb).2
set_option maxHeartbeats 4000000 in
theorem c_coder (k : Nat) (S : xA) (f : xP) (hk : k < 13) (h : f 0 S) : CI mJ0_coder_7d493 [.ref (1000 + k : Nat)] S f := by
  have k1 : 1000 ≤ 1000 + k := by omega
  have k2 : 1000 + k < 1013 := by omega
  refine ci_of (T := mJ0_coder_7d493) (fv := fun _ => True) (ls := [some (.ref (1000 + k : Nat))]) rfl (Nat.le_of_ble_eq_true rfl) (by decide) rfl rfl rfl (ok2_0 cJ0_coder_7d493 12 40 rfl rfl ?_)
  simp only [sw3_c, sw3_n, Nat.reduceEqDiff, not_false_eq_true, Nat.zero_le, Nat.reduceLeDiff, Nat.reduceLT, Nat.reduceAdd, sg_s, ↓kif_0, ↓kif_c, ↓reduceIte, nl_n, nl_i, nl_r, List.length_cons, List.length_nil, true_and, and_true, upA_s, upA_n, upA_u, Prod.mk.injEq, and_self, (j_gets_z dJ0_coder_7d493_0 (n := 3) rfl cG_12_38), (j_if_eq dJ0_coder_7d493_3 (n := 6) rfl br_3_10), (j_aload_n_0 dJ0_coder_7d493_6 (n := 7) rfl), (j_gets_c dJ0_coder_7d493_7 (n := 10) rfl (o := 12) rfl cU_12_15), (j_goto dJ0_coder_7d493_10 (n := 13) rfl br_10_4), (j_iconst dJ0_coder_7d493_13 (n := 14) rfl ki_1), (j_iret dJ0_coder_7d493_14 (n := 15) rfl), k1, k2]
  rw [if_neg (by decide)]
  exact ⟨⟨.byte, rfl, rfl⟩, h⟩
set_option maxHeartbeats 4000000 in
theorem c_lat (k : Nat) (S : xA) (f : xP) (hk : k < 13) (h : f 1 S) : CI mJ0_isLatin1_aae02 [.ref (1000 + k : Nat)] S f := by
  have k1 : 1000 ≤ 1000 + k := by omega
  have k2 : 1000 + k < 1013 := by omega
  refine ci_of (T := mJ0_isLatin1_aae02) (fv := fun _ => True) (ls := [some (.ref (1000 + k : Nat))]) rfl (Nat.le_of_ble_eq_true rfl) (by decide) rfl rfl rfl (ok2_0 cJ0_isLatin1_aae02 12 40 rfl rfl ?_)
  simp only [sw3_c, sw3_n, Nat.reduceEqDiff, not_false_eq_true, Nat.zero_le, Nat.reduceLeDiff, Nat.reduceLT, Nat.reduceAdd, sg_s, ↓kif_0, ↓kif_c, ↓reduceIte, nl_n, nl_i, nl_r, List.length_cons, List.length_nil, true_and, and_true, upA_s, upA_n, upA_u, Prod.mk.injEq, and_self, (j_gets_z dJ0_isLatin1_aae02_0 (n := 3) rfl cG_12_38), (j_if_eq dJ0_isLatin1_aae02_3 (n := 6) rfl br_3_14), (j_aload_n_0 dJ0_isLatin1_aae02_6 (n := 7) rfl), (j_gets_c dJ0_isLatin1_aae02_7 (n := 10) rfl (o := 12) rfl cU_12_15), (j_if_ne dJ0_isLatin1_aae02_10 (n := 13) rfl br_10_7), (j_iconst dJ0_isLatin1_aae02_13 (n := 14) rfl ki_1), (j_goto dJ0_isLatin1_aae02_14 (n := 17) rfl br_14_4), (j_iconst dJ0_isLatin1_aae02_17 (n := 18) rfl ki_0), (j_iret dJ0_isLatin1_aae02_18 (n := 19) rfl), k1, k2]
  rw [if_neg (by decide)]
  exact ⟨rOk_z rfl (Or.inr rfl), h⟩
set_option maxHeartbeats 4000000 in
theorem c_len (k : Nat) (S : xA) (f : xP) (hk : k < 13) (h : f (nI (kLen.getD k 0)) S) : CI mJ0_length_8abf5 [.ref (1000 + k : Nat)] S f := by
  have k1 : 1000 ≤ 1000 + k := by omega
  have k2 : 1000 + k < 1013 := by omega
  have k3 : 1100 ≤ 1000 + k + 100 := by omega
  have k4 : 1000 + k + 100 < 1113 := by omega
  have k5 : 1000 + k + 100 - 1100 = k := by omega
  refine ci_of (T := mJ0_length_8abf5) (fv := fun _ => True) (ls := [some (.ref (1000 + k : Nat))]) rfl (Nat.le_of_ble_eq_true rfl) (by decide) rfl rfl rfl (ok2_0 cJ0_length_8abf5 12 40 rfl rfl ?_)
  simp only [sw3_c, sw3_n, Nat.reduceEqDiff, not_false_eq_true, Nat.zero_le, Nat.reduceLeDiff, Nat.reduceLT, Nat.reduceAdd, sg_s, ↓kif_0, ↓kif_c, ↓reduceIte, nl_n, nl_i, nl_r, List.length_cons, List.length_nil, true_and, and_true, upA_s, upA_n, upA_u, Prod.mk.injEq, and_self, (j_aload_n_0 dJ0_length_8abf5_0 (n := 1) rfl), (j_gets_v dJ0_length_8abf5_1 (n := 4) rfl (o := 12) rfl cU_12_9), (j_alen dJ0_length_8abf5_4 (n := 5) rfl), (j_alen_c dJ0_length_8abf5_4 (n := 5) rfl), (j_aload_n_0 dJ0_length_8abf5_5 (n := 6) rfl), (j_ct0i (M := mJ0_length_8abf5) dJ0_length_8abf5_6 (n := 9) rfl cM_12_335 lv_J0_length_8abf5_J0_coder_7d493 rfl), (j_ishr dJ0_length_8abf5_9 (n := 10) rfl), (j_iret dJ0_length_8abf5_10 (n := 11) rfl), rOk_i (M := mJ0_length_8abf5) rfl, k1, k2, k3, k4, k5]
  refine c_coder k S _ hk ?_
  rw [ofN_nI, ks_ok k hk]
  exact h
theorem c_chk (i n : Int32) (S : xA) (f : xA → Prop) (h0 : ¬ i < 0) (h1 : i < n) (h : f S) : CV mJ0_checkIndex_df160 [.int i, .int n] S f := k_chk i n h0 h1 ⟨S, rfl, rfl, ⟨fun _ _ => rfl, fun _ _ => rfl⟩, h⟩
set_option maxHeartbeats 4000000 in
theorem c_ch1 (k i : Nat) (S : xA) (f : xP) (hk : k < 13) (hi : i < kLen.getD k 0) (h : f ((kByt.getD k []).getD i 0) S) : CI mJ1_charAt_3b067 [.ref (1000 + k + 100 : Nat), .int (nI i)] S f := by
  have k3 : 1100 ≤ 1000 + k + 100 := by omega
  have k4 : 1000 + k + 100 < 1113 := by omega
  have k5 : 1000 + k + 100 - 1100 = k := by omega
  refine ci_of (T := mJ1_charAt_3b067) (fv := fun _ => True) (ls := [some (.ref (1000 + k + 100 : Nat)), some (.int (nI i))]) rfl (Nat.le_of_ble_eq_true rfl) (by decide) rfl rfl rfl (ok2_0 cJ1_charAt_3b067 13 40 rfl rfl ?_)
  simp only [sw3_c, sw3_n, Nat.reduceEqDiff, not_false_eq_true, Nat.zero_le, Nat.reduceLeDiff, Nat.reduceLT, Nat.reduceAdd, sg_s, ↓kif_0, ↓kif_c, ↓reduceIte, nl_n, nl_i, nl_r, List.length_cons, List.length_nil, true_and, and_true, upA_s, upA_n, upA_u, Prod.mk.injEq, and_self, (j_iload_n_1 dJ1_charAt_3b067_0 (n := 1) rfl), (j_aload_n_0 dJ1_charAt_3b067_1 (n := 2) rfl), (j_alen dJ1_charAt_3b067_2 (n := 3) rfl), (j_alen_c dJ1_charAt_3b067_2 (n := 3) rfl), (j_cs2v (M := mJ1_charAt_3b067) dJ1_charAt_3b067_3 (n := 6) rfl cM_13_9 (Or.inl rfl) (o := 13) rfl lv_J1_charAt_3b067_J0_checkIndex_df160 rfl), (j_aload_n_0 dJ1_charAt_3b067_6 (n := 7) rfl), (j_iload_n_1 dJ1_charAt_3b067_7 (n := 8) rfl), (j_bald dJ1_charAt_3b067_8 (n := 9) rfl), (j_bald_c dJ1_charAt_3b067_8 (n := 9) rfl), (j_sipush dJ1_charAt_3b067_9 (n := 12) rfl ks_255), (j_iand dJ1_charAt_3b067_12 (n := 13) rfl), (j_i2c dJ1_charAt_3b067_13 (n := 14) rfl), (j_iret dJ1_charAt_3b067_14 (n := 15) rfl), k3, k4, k5]
  have hl := kk_ok k hk
  have hm : (kByt.getD k []).getD i 0 ∈ kByt.getD k [] := gd_mem _ i (by rw [← hl.1]; exact hi)
  rw [ofN_nI]
  refine c_chk _ _ _ _ (nI_pos (n := i) (by omega)) (nI_lt hi (by omega)) ?_
  rw [nI_clamp (n := i) (by omega), hl.2.2 _ hm]
  exact ⟨vp_in_nI hi (by omega), ⟨.char, rfl, kc_ok k hk _ hm⟩, h⟩
set_option maxHeartbeats 4000000 in
theorem c_chr (k i : Nat) (S : xA) (f : xP) (hk : k < 13) (hi : i < kLen.getD k 0) (h : f ((kByt.getD k []).getD i 0) S) : CI mJ0_charAt_5068e [.ref (1000 + k : Nat), .int (nI i)] S f := by
  have k1 : 1000 ≤ 1000 + k := by omega
  have k2 : 1000 + k < 1013 := by omega
  refine ci_of (T := mJ0_charAt_5068e) (fv := fun _ => True) (ls := [some (.ref (1000 + k : Nat)), some (.int (nI i))]) rfl (Nat.le_of_ble_eq_true rfl) (by decide) rfl rfl rfl (ok2_0 cJ0_charAt_5068e 12 40 rfl rfl ?_)
  simp only [sw3_c, sw3_n, Nat.reduceEqDiff, not_false_eq_true, Nat.zero_le, Nat.reduceLeDiff, Nat.reduceLT, Nat.reduceAdd, sg_s, ↓kif_0, ↓kif_c, ↓reduceIte, nl_n, nl_i, nl_r, List.length_cons, List.length_nil, true_and, and_true, upA_s, upA_n, upA_u, Prod.mk.injEq, and_self, (j_aload_n_0 dJ0_charAt_5068e_0 (n := 1) rfl), (j_ct0i (M := mJ0_charAt_5068e) dJ0_charAt_5068e_1 (n := 4) rfl cM_12_492 lv_J0_charAt_5068e_J0_isLatin1_aae02 rfl), (j_if_eq dJ0_charAt_5068e_4 (n := 7) rfl br_4_12), (j_aload_n_0 dJ0_charAt_5068e_7 (n := 8) rfl), (j_gets_v dJ0_charAt_5068e_8 (n := 11) rfl (o := 12) rfl cU_12_9), (j_iload_n_1 dJ0_charAt_5068e_11 (n := 12) rfl), (j_cs2i (M := mJ0_charAt_5068e) dJ0_charAt_5068e_12 (n := 15) rfl cM_12_495 (Or.inl rfl) (o := 12) rfl lv_J0_charAt_5068e_J1_charAt_3b067 rfl), (j_iret dJ0_charAt_5068e_15 (n := 16) rfl), (j_aload_n_0 dJ0_charAt_5068e_16 (n := 17) rfl), (j_gets_v dJ0_charAt_5068e_17 (n := 20) rfl (o := 12) rfl cU_12_9), (j_iload_n_1 dJ0_charAt_5068e_20 (n := 21) rfl), (j_iret dJ0_charAt_5068e_24 (n := 25) rfl), k1, k2]
  have hl := kk_ok k hk
  have hm : (kByt.getD k []).getD i 0 ∈ kByt.getD k [] := gd_mem _ i (by rw [← hl.1]; exact hi)
  refine c_lat k S _ hk ?_
  rw [if_neg (by decide)]
  exact c_ch1 k i S _ hk hi ⟨⟨.char, rfl, kc_ok k hk _ hm⟩, h⟩
set_option maxHeartbeats 4000000 in
theorem c_spells (k : Nat) (S : xA) (f : xP) (p q n : Nat) (hk : k < 13) (h8 : S 22 8 = nI p) (h7 : S 22 7 = nI q) (hpq : p ≤ q) (hq : q ≤ n) (hn : n ≤ 160) (h : f (bI (spl (S 23) p q (kByt.getD k []))) S) : CI mX7_spells [.ref (22 : Nat), .ref (1000 + k : Nat)] S f := by
  have k1 : 1000 ≤ 1000 + k := by omega
  have k2 : 1000 + k < 1013 := by omega
  have hl := kk_ok k hk
  have esub : nI q - nI p = nI (q - p) := by
    apply Int32.toInt_inj.mp
    rw [sub_I] <;> rw [toInt_nI (by omega), toInt_nI (by omega)] <;> first | omega | (rw [toInt_nI (by omega)]; omega)
  refine ci_of (T := mX7_spells) (fv := fun _ => True) (ls := [some (.ref (22 : Nat)), some (.ref (1000 + k : Nat)), none]) rfl (Nat.le_of_ble_eq_true rfl) (by decide) rfl rfl rfl ?_
  refine ok2_to cX7_spells 7 60 20 (fun ls S' => ls = [some (.ref (22 : Nat)), some (.ref (1000 + k : Nat)), some (.int (nI 0))] ∧ q - p = (kByt.getD k []).length ∧ S = S') rfl rfl ?_ ?_
  · rintro ls S' ⟨hls, hlen, e⟩
    refine ok2_fp cX7_spells 7 60 20 (kByt.getD k []).length (fun i ls S' => ls = [some (.ref (22 : Nat)), some (.ref (1000 + k : Nat)), some (.int (nI i))] ∧ spB (S 23) p (kByt.getD k []) i = true ∧ S = S') rfl rfl ?_ ?_ 0 (by omega) ls S' ⟨hls, rfl, e⟩
    · rintro i hi _ _ ⟨rfl, hs, rfl⟩ R hR
      simp only [sw3_c, sw3_n, Nat.reduceEqDiff, not_false_eq_true, Nat.zero_le, Nat.reduceLeDiff, Nat.reduceLT, Nat.reduceAdd, sg_s, ↓kif_0, ↓kif_c, ↓reduceIte, nl_n, nl_i, nl_r, List.length_cons, List.length_nil, true_and, and_true, upA_s, upA_n, upA_u, Prod.mk.injEq, and_self, Fr_22_0, Fr_22_7, Fr_22_8, Ld_23, oA_23, oL_22, (j_aload_n_0 dX7_spells_0 (n := 1) rfl), (j_getf dX7_spells_1 (n := 4) rfl cF_7_34), (j_aload_n_0 dX7_spells_4 (n := 5) rfl), (j_getf dX7_spells_5 (n := 8) rfl cF_7_37), (j_isub dX7_spells_8 (n := 9) rfl), (j_aload_n_1 dX7_spells_9 (n := 10) rfl), (j_ct0i (M := mX7_spells) dX7_spells_10 (n := 13) rfl cM_7_117 lv_X7_spells_J0_length_8abf5 rfl), (j_ic_eq dX7_spells_13 (n := 16) rfl br_13_5), (j_iconst dX7_spells_16 (n := 17) rfl ki_0), (j_iret dX7_spells_17 (n := 18) rfl), (j_iconst dX7_spells_18 (n := 19) rfl ki_0), (j_istore_n_2 dX7_spells_19 (n := 20) rfl), (j_iload_n_2 dX7_spells_20 (n := 21) rfl), (j_aload_n_1 dX7_spells_21 (n := 22) rfl), (j_ct0i (M := mX7_spells) dX7_spells_22 (n := 25) rfl cM_7_117 lv_X7_spells_J0_length_8abf5 rfl), (j_ic_ge dX7_spells_25 (n := 28) rfl br_25_30), (j_aload_n_0 dX7_spells_28 (n := 29) rfl), (j_getf dX7_spells_29 (n := 32) rfl cF_7_9), (j_aload_n_0 dX7_spells_32 (n := 33) rfl), (j_getf dX7_spells_33 (n := 36) rfl cF_7_37), (j_iload_n_2 dX7_spells_36 (n := 37) rfl), (j_iadd dX7_spells_37 (n := 38) rfl), (j_iald dX7_spells_38 (n := 39) rfl), (j_aload_n_1 dX7_spells_39 (n := 40) rfl), (j_iload_n_2 dX7_spells_40 (n := 41) rfl), (j_ct1i (M := mX7_spells) dX7_spells_41 (n := 44) rfl cM_7_121 lv_X7_spells_J0_charAt_5068e rfl), (j_ic_eq dX7_spells_44 (n := 47) rfl br_44_5), (j_iconst dX7_spells_47 (n := 48) rfl ki_0), (j_iret dX7_spells_48 (n := 49) rfl), (j_iinc_2 dX7_spells_49 (n := 52) rfl ki_1), (j_goto dX7_spells_52 (n := 55) rfl br_52_m32), (j_iconst dX7_spells_55 (n := 56) rfl ki_1), (j_iret dX7_spells_56 (n := 57) rfl), nl_x, pk_us, k1, k2, h8, nI_add]
      refine c_len k S _ hk ?_
      rw [hl.1, if_pos (nI_lt hi (by omega)), h8, nI_add, nI_clamp (n := p + i) (by omega), nI_1]
      refine ⟨vp_in_nI (by omega) (by omega), c_chr k i S _ hk (by omega) ?_⟩
      refine ite_i (fun w => hR _ _ ⟨rfl, by rw [spB, hs, decide_eq_true w]; rfl, rfl⟩) (fun w => ⟨rOk_z rfl (Or.inl rfl), ?_⟩)
      have : spl (S 23) p q (kByt.getD k []) = false := by
        unfold spl
        rw [spB_f hi (by rw [spB, decide_eq_false w, Bool.and_false]), Bool.and_false]
      rw [this] at h
      exact h
    · rintro _ _ ⟨rfl, hs, rfl⟩
      refine ok2_0 cX7_spells 7 30 rfl rfl ?_
      simp only [sw3_c, sw3_n, Nat.reduceEqDiff, not_false_eq_true, Nat.zero_le, Nat.reduceLeDiff, Nat.reduceLT, Nat.reduceAdd, sg_s, ↓kif_0, ↓kif_c, ↓reduceIte, nl_n, nl_i, nl_r, List.length_cons, List.length_nil, true_and, and_true, upA_s, upA_n, upA_u, Prod.mk.injEq, and_self, Fr_22_0, Fr_22_7, Fr_22_8, Ld_23, oA_23, oL_22, (j_aload_n_0 dX7_spells_0 (n := 1) rfl), (j_getf dX7_spells_1 (n := 4) rfl cF_7_34), (j_aload_n_0 dX7_spells_4 (n := 5) rfl), (j_getf dX7_spells_5 (n := 8) rfl cF_7_37), (j_isub dX7_spells_8 (n := 9) rfl), (j_aload_n_1 dX7_spells_9 (n := 10) rfl), (j_ct0i (M := mX7_spells) dX7_spells_10 (n := 13) rfl cM_7_117 lv_X7_spells_J0_length_8abf5 rfl), (j_ic_eq dX7_spells_13 (n := 16) rfl br_13_5), (j_iconst dX7_spells_16 (n := 17) rfl ki_0), (j_iret dX7_spells_17 (n := 18) rfl), (j_iconst dX7_spells_18 (n := 19) rfl ki_0), (j_istore_n_2 dX7_spells_19 (n := 20) rfl), (j_iload_n_2 dX7_spells_20 (n := 21) rfl), (j_aload_n_1 dX7_spells_21 (n := 22) rfl), (j_ct0i (M := mX7_spells) dX7_spells_22 (n := 25) rfl cM_7_117 lv_X7_spells_J0_length_8abf5 rfl), (j_ic_ge dX7_spells_25 (n := 28) rfl br_25_30), (j_aload_n_0 dX7_spells_28 (n := 29) rfl), (j_getf dX7_spells_29 (n := 32) rfl cF_7_9), (j_aload_n_0 dX7_spells_32 (n := 33) rfl), (j_getf dX7_spells_33 (n := 36) rfl cF_7_37), (j_iload_n_2 dX7_spells_36 (n := 37) rfl), (j_iadd dX7_spells_37 (n := 38) rfl), (j_iald dX7_spells_38 (n := 39) rfl), (j_aload_n_1 dX7_spells_39 (n := 40) rfl), (j_iload_n_2 dX7_spells_40 (n := 41) rfl), (j_ct1i (M := mX7_spells) dX7_spells_41 (n := 44) rfl cM_7_121 lv_X7_spells_J0_charAt_5068e rfl), (j_ic_eq dX7_spells_44 (n := 47) rfl br_44_5), (j_iconst dX7_spells_47 (n := 48) rfl ki_0), (j_iret dX7_spells_48 (n := 49) rfl), (j_iinc_2 dX7_spells_49 (n := 52) rfl ki_1), (j_goto dX7_spells_52 (n := 55) rfl br_52_m32), (j_iconst dX7_spells_55 (n := 56) rfl ki_1), (j_iret dX7_spells_56 (n := 57) rfl), nl_x, pk_us, k1, k2, h8, nI_add]
      refine c_len k S _ hk ?_
      rw [hl.1, if_neg (nI_nlt (Nat.le_refl _) (by omega))]
      have : spl (S 23) p q (kByt.getD k []) = true := by
        unfold spl
        rw [decide_eq_true hlen, hs]
        rfl
      rw [this] at h
      exact ⟨rOk_z rfl (Or.inr rfl), h⟩
  · intro R hR
    simp only [sw3_c, sw3_n, Nat.reduceEqDiff, not_false_eq_true, Nat.zero_le, Nat.reduceLeDiff, Nat.reduceLT, Nat.reduceAdd, sg_s, ↓kif_0, ↓kif_c, ↓reduceIte, nl_n, nl_i, nl_r, List.length_cons, List.length_nil, true_and, and_true, upA_s, upA_n, upA_u, Prod.mk.injEq, and_self, Fr_22_0, Fr_22_7, Fr_22_8, Ld_23, oA_23, oL_22, (j_aload_n_0 dX7_spells_0 (n := 1) rfl), (j_getf dX7_spells_1 (n := 4) rfl cF_7_34), (j_aload_n_0 dX7_spells_4 (n := 5) rfl), (j_getf dX7_spells_5 (n := 8) rfl cF_7_37), (j_isub dX7_spells_8 (n := 9) rfl), (j_aload_n_1 dX7_spells_9 (n := 10) rfl), (j_ct0i (M := mX7_spells) dX7_spells_10 (n := 13) rfl cM_7_117 lv_X7_spells_J0_length_8abf5 rfl), (j_ic_eq dX7_spells_13 (n := 16) rfl br_13_5), (j_iconst dX7_spells_16 (n := 17) rfl ki_0), (j_iret dX7_spells_17 (n := 18) rfl), (j_iconst dX7_spells_18 (n := 19) rfl ki_0), (j_istore_n_2 dX7_spells_19 (n := 20) rfl), (j_iload_n_2 dX7_spells_20 (n := 21) rfl), (j_aload_n_1 dX7_spells_21 (n := 22) rfl), (j_ct0i (M := mX7_spells) dX7_spells_22 (n := 25) rfl cM_7_117 lv_X7_spells_J0_length_8abf5 rfl), (j_ic_ge dX7_spells_25 (n := 28) rfl br_25_30), (j_aload_n_0 dX7_spells_28 (n := 29) rfl), (j_getf dX7_spells_29 (n := 32) rfl cF_7_9), (j_aload_n_0 dX7_spells_32 (n := 33) rfl), (j_getf dX7_spells_33 (n := 36) rfl cF_7_37), (j_iload_n_2 dX7_spells_36 (n := 37) rfl), (j_iadd dX7_spells_37 (n := 38) rfl), (j_iald dX7_spells_38 (n := 39) rfl), (j_aload_n_1 dX7_spells_39 (n := 40) rfl), (j_iload_n_2 dX7_spells_40 (n := 41) rfl), (j_ct1i (M := mX7_spells) dX7_spells_41 (n := 44) rfl cM_7_121 lv_X7_spells_J0_charAt_5068e rfl), (j_ic_eq dX7_spells_44 (n := 47) rfl br_44_5), (j_iconst dX7_spells_47 (n := 48) rfl ki_0), (j_iret dX7_spells_48 (n := 49) rfl), (j_iinc_2 dX7_spells_49 (n := 52) rfl ki_1), (j_goto dX7_spells_52 (n := 55) rfl br_52_m32), (j_iconst dX7_spells_55 (n := 56) rfl ki_1), (j_iret dX7_spells_56 (n := 57) rfl), nl_x, pk_us, k1, k2, h8, h7, esub]
    refine c_len k S _ hk ?_
    rw [hl.1]
    refine ite_i (fun w => ?_) (fun w => ⟨rOk_z rfl (Or.inl rfl), ?_⟩)
    · rw [nI_eq (by omega) (by omega)] at w
      exact hR _ _ ⟨rfl, w, rfl⟩
    · rw [nI_eq (by omega) (by omega)] at w
      have : spl (S 23) p q (kByt.getD k []) = false := by
        unfold spl
        rw [decide_eq_false w, Bool.false_and]
      rw [this] at h
      exact h
theorem oN_n : oN none = -1 := rfl
theorem oN_s (k : Nat) : oN (some k) = nI k := rfl
set_option maxHeartbeats 4000000 in
theorem c_good7 (S : xA) (f : xP) (p q n : Nat) (h8 : S 22 8 = nI p) (h7 : S 22 7 = nI q) (hpq : p ≤ q) (hq : q ≤ n) (hn : n ≤ 160) (h : f (oN (gdO (S 23) p q)) S) : CI mX7_good [.ref (22 : Nat)] S f := by
  unfold gdO at h
  show CI mX7_good _ _ _
  refine ci_of (T := mX7_good) (fv := fun _ => True) (ls := [some (.ref (22 : Nat))]) rfl (Nat.le_of_ble_eq_true rfl) (by decide) rfl rfl rfl (ok2_0 cX7_good 7 60 rfl rfl ?_)
  simp only [sw3_c, sw3_n, Nat.reduceEqDiff, not_false_eq_true, Nat.zero_le, Nat.reduceLeDiff, Nat.reduceLT, Nat.reduceAdd, sg_s, ↓kif_0, ↓kif_c, ↓reduceIte, nl_n, nl_i, nl_r, List.length_cons, List.length_nil, true_and, and_true, upA_s, upA_n, upA_u, Prod.mk.injEq, and_self, oC_22, (j_aload_n_0 dX7_good_0 (n := 1) rfl), (j_ldc_s dX7_good_1 (n := 3) rfl (o := 7) rfl cT_7_125), (j_cv1i (M := mX7_good) dX7_good_3 (n := 6) rfl cM_7_58 (Or.inl rfl) lv_X7_good_X7_spells rfl (oc := 7) rfl), (j_if_eq dX7_good_6 (n := 9) rfl br_6_5), (j_iconst dX7_good_9 (n := 10) rfl ki_0), (j_iret dX7_good_10 (n := 11) rfl), (j_aload_n_0 dX7_good_11 (n := 12) rfl), (j_ldc_s dX7_good_12 (n := 14) rfl (o := 7) rfl cT_7_127), (j_cv1i (M := mX7_good) dX7_good_14 (n := 17) rfl cM_7_58 (Or.inl rfl) lv_X7_good_X7_spells rfl (oc := 7) rfl), (j_if_eq dX7_good_17 (n := 20) rfl br_17_5), (j_iconst dX7_good_20 (n := 21) rfl ki_1), (j_iret dX7_good_21 (n := 22) rfl), (j_aload_n_0 dX7_good_22 (n := 23) rfl), (j_ldc_s dX7_good_23 (n := 25) rfl (o := 7) rfl cT_7_129), (j_cv1i (M := mX7_good) dX7_good_25 (n := 28) rfl cM_7_58 (Or.inl rfl) lv_X7_good_X7_spells rfl (oc := 7) rfl), (j_if_eq dX7_good_28 (n := 31) rfl br_28_7), (j_iconst dX7_good_31 (n := 32) rfl ki_2), (j_goto dX7_good_32 (n := 35) rfl br_32_4), (j_iconst dX7_good_35 (n := 36) rfl ki_m1), (j_iret dX7_good_36 (n := 37) rfl), rOk_i (M := mX7_good) rfl]
  refine c_spells 4 S _ p q n (by omega) h8 h7 hpq hq hn ?_
  rw [show kByt.getD 4 [] = wBread from rfl]
  refine ite_b (fun w => c_spells 5 S _ p q n (by omega) h8 h7 hpq hq hn ?_) (fun w => ?_)
  · rw [w, if_neg Bool.false_ne_true] at h
    rw [show kByt.getD 5 [] = wMilk from rfl]
    refine ite_b (fun w => c_spells 6 S _ p q n (by omega) h8 h7 hpq hq hn ?_) (fun w => ?_)
    · rw [w, if_neg Bool.false_ne_true] at h
      rw [show kByt.getD 6 [] = wCoal from rfl]
      refine ite_b (fun w => ?_) (fun w => ?_)
      · rw [w, if_neg Bool.false_ne_true] at h
        exact h
      · rw [if_pos w] at h
        exact h
    · rw [if_pos w] at h
      exact h
  · rw [if_pos w] at h
    exact h
set_option maxHeartbeats 4000000 in
theorem c_comm7 (S : xA) (f : xP) (p q n : Nat) (h8 : S 22 8 = nI p) (h7 : S 22 7 = nI q) (hpq : p ≤ q) (hq : q ≤ n) (hn : n ≤ 160) (h : f (oN (cmO (S 23) p q)) S) : CI mX7_committee [.ref (22 : Nat)] S f := by
  unfold cmO at h
  show CI mX7_committee _ _ _
  refine ci_of (T := mX7_committee) (fv := fun _ => True) (ls := [some (.ref (22 : Nat))]) rfl (Nat.le_of_ble_eq_true rfl) (by decide) rfl rfl rfl (ok2_0 cX7_committee 7 60 rfl rfl ?_)
  simp only [sw3_c, sw3_n, Nat.reduceEqDiff, not_false_eq_true, Nat.zero_le, Nat.reduceLeDiff, Nat.reduceLT, Nat.reduceAdd, sg_s, ↓kif_0, ↓kif_c, ↓reduceIte, nl_n, nl_i, nl_r, List.length_cons, List.length_nil, true_and, and_true, upA_s, upA_n, upA_u, Prod.mk.injEq, and_self, oC_22, (j_aload_n_0 dX7_committee_0 (n := 1) rfl), (j_ldc_s dX7_committee_1 (n := 3) rfl (o := 7) rfl cT_7_131), (j_cv1i (M := mX7_committee) dX7_committee_3 (n := 6) rfl cM_7_58 (Or.inl rfl) lv_X7_committee_X7_spells rfl (oc := 7) rfl), (j_if_eq dX7_committee_6 (n := 9) rfl br_6_5), (j_iconst dX7_committee_9 (n := 10) rfl ki_0), (j_iret dX7_committee_10 (n := 11) rfl), (j_aload_n_0 dX7_committee_11 (n := 12) rfl), (j_ldc_s dX7_committee_12 (n := 14) rfl (o := 7) rfl cT_7_133), (j_cv1i (M := mX7_committee) dX7_committee_14 (n := 17) rfl cM_7_58 (Or.inl rfl) lv_X7_committee_X7_spells rfl (oc := 7) rfl), (j_if_eq dX7_committee_17 (n := 20) rfl br_17_5), (j_iconst dX7_committee_20 (n := 21) rfl ki_1), (j_iret dX7_committee_21 (n := 22) rfl), (j_aload_n_0 dX7_committee_22 (n := 23) rfl), (j_ldc_s dX7_committee_23 (n := 25) rfl (o := 7) rfl cT_7_135), (j_cv1i (M := mX7_committee) dX7_committee_25 (n := 28) rfl cM_7_58 (Or.inl rfl) lv_X7_committee_X7_spells rfl (oc := 7) rfl), (j_if_eq dX7_committee_28 (n := 31) rfl br_28_5), (j_iconst dX7_committee_31 (n := 32) rfl ki_2), (j_iret dX7_committee_32 (n := 33) rfl), (j_aload_n_0 dX7_committee_33 (n := 34) rfl), (j_ldc_s dX7_committee_34 (n := 36) rfl (o := 7) rfl cT_7_137), (j_cv1i (M := mX7_committee) dX7_committee_36 (n := 39) rfl cM_7_58 (Or.inl rfl) lv_X7_committee_X7_spells rfl (oc := 7) rfl), (j_if_eq dX7_committee_39 (n := 42) rfl br_39_7), (j_iconst dX7_committee_42 (n := 43) rfl ki_3), (j_goto dX7_committee_43 (n := 46) rfl br_43_4), (j_iconst dX7_committee_46 (n := 47) rfl ki_m1), (j_iret dX7_committee_47 (n := 48) rfl), rOk_i (M := mX7_committee) rfl]
  refine c_spells 0 S _ p q n (by omega) h8 h7 hpq hq hn ?_
  rw [show kByt.getD 0 [] = wOwners from rfl]
  refine ite_b (fun w => c_spells 1 S _ p q n (by omega) h8 h7 hpq hq hn ?_) (fun w => ?_)
  · rw [w, if_neg Bool.false_ne_true] at h
    rw [show kByt.getD 1 [] = wCouncil from rfl]
    refine ite_b (fun w => c_spells 2 S _ p q n (by omega) h8 h7 hpq hq hn ?_) (fun w => ?_)
    · rw [w, if_neg Bool.false_ne_true] at h
      rw [show kByt.getD 2 [] = wUnion from rfl]
      refine ite_b (fun w => c_spells 3 S _ p q n (by omega) h8 h7 hpq hq hn ?_) (fun w => ?_)
      · rw [w, if_neg Bool.false_ne_true] at h
        rw [show kByt.getD 3 [] = wState from rfl]
        refine ite_b (fun w => ?_) (fun w => ?_)
        · rw [w, if_neg Bool.false_ne_true] at h
          exact h
        · rw [if_pos w] at h
          exact h
      · rw [if_pos w] at h
        exact h
    · rw [if_pos w] at h
      exact h
  · rw [if_pos w] at h
    exact h
