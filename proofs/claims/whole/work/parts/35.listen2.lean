-- the class's firstCallHour, listen
def fch (S : xA) : Nat → Int32
  | 0 => 240
  | k + 1 => if S 10 k = 0 then (if S 13 k < fch S k then S 13 k else fch S k) else fch S k
set_option maxHeartbeats 4000000 in
theorem c_first (S : xA) (f : xP) (c : Nat) (hc : S 9 7 = nI c) (hc40 : c ≤ 40) (h : f (fch S c) S) : CI mX6_firstCallHour [.ref (9 : Nat)] S f := by
  refine ci_of (T := mX6_firstCallHour) (fv := fun _ => True) (ls := [some (.ref (9 : Nat)), none, none]) rfl (Nat.le_of_ble_eq_true rfl) (by decide) rfl rfl rfl (ok2_1 cX6_firstCallHour 6 80 6 (fun ls st S' => ls = [some (.ref (9 : Nat)), some (.int 240), some (.int 0)] ∧ st = [] ∧ S' = S) rfl rfl ?_ ?_)
  · rintro ls st S' ⟨rfl, rfl, rfl⟩
    have key := ok2_for (M := mX6_firstCallHour) (fi := f) (fv := fun _ => True) cX6_firstCallHour 6 60 6 c (fun k => [some (.ref (9 : Nat)), some (.int (fch S' k)), some (.int (nI k))]) (fun _ => S') [] rfl rfl ?_ ?_ 0 (by omega)
    · exact key
    · intro k hk R hR
      have hkv : vp_in (nI k) 40 := vp_in_nI (by omega) (by omega)
      have hkc : (nI k).toNatClampNeg = k := nI_clamp (by omega)
      simp only [sw3_c, sw3_n, Nat.reduceEqDiff, not_false_eq_true, Nat.zero_le, Nat.reduceLeDiff, Nat.reduceLT, Nat.reduceAdd, sg_s, ↓kif_0, ↓kif_c, ↓reduceIte, nl_n, nl_i, nl_r, List.length_cons, List.length_nil, true_and, and_true, upA_s, upA_n, upA_u, Prod.mk.injEq, and_self, Fr_9_1, Fr_9_4, Fr_9_7, Ld_10, Ld_13, oA_10, oA_13, oL_9, (j_sipush dX6_firstCallHour_0 (n := 3) rfl ks_240), (j_istore_n_1 dX6_firstCallHour_3 (n := 4) rfl), (j_iconst dX6_firstCallHour_4 (n := 5) rfl ki_0), (j_istore_n_2 dX6_firstCallHour_5 (n := 6) rfl), (j_iload_n_2 dX6_firstCallHour_6 (n := 7) rfl), (j_aload_n_0 dX6_firstCallHour_7 (n := 8) rfl), (j_getf dX6_firstCallHour_8 (n := 11) rfl cF_6_30), (j_ic_ge dX6_firstCallHour_11 (n := 14) rfl br_11_29), (j_aload_n_0 dX6_firstCallHour_14 (n := 15) rfl), (j_getf dX6_firstCallHour_15 (n := 18) rfl cF_6_9), (j_iload_n_2 dX6_firstCallHour_18 (n := 19) rfl), (j_iald dX6_firstCallHour_19 (n := 20) rfl), (j_if_ne dX6_firstCallHour_20 (n := 23) rfl br_20_14), (j_iload_n_1 dX6_firstCallHour_23 (n := 24) rfl), (j_aload_n_0 dX6_firstCallHour_24 (n := 25) rfl), (j_getf dX6_firstCallHour_25 (n := 28) rfl cF_6_21), (j_iload_n_2 dX6_firstCallHour_28 (n := 29) rfl), (j_iald dX6_firstCallHour_29 (n := 30) rfl), (j_min (M := mX6_firstCallHour) dX6_firstCallHour_30 (n := 33) rfl cB_6_66 l1_X6_firstCallHour), (j_istore_n_1 dX6_firstCallHour_33 (n := 34) rfl), (j_iinc_2 dX6_firstCallHour_34 (n := 37) rfl ki_1), (j_goto dX6_firstCallHour_37 (n := 40) rfl br_37_m31), (j_iload_n_1 dX6_firstCallHour_40 (n := 41) rfl), (j_iret dX6_firstCallHour_41 (n := 42) rfl), rOk_i (M := mX6_firstCallHour) rfl, hc]
      rw [if_pos (nI_lt hk (by omega)), hkc, nI_1]
      simp only [fch] at hR
      refine ⟨hkv, ite_i (fun h1 => ⟨hkv, ?_⟩) (fun h1 => ?_)⟩
      · rw [if_pos h1] at hR
        exact hR
      · rw [if_neg h1] at hR
        exact hR
    · refine ok2_0 cX6_firstCallHour 6 8 rfl rfl ?_
      simp only [sw3_c, sw3_n, Nat.reduceEqDiff, not_false_eq_true, Nat.zero_le, Nat.reduceLeDiff, Nat.reduceLT, Nat.reduceAdd, sg_s, ↓kif_0, ↓kif_c, ↓reduceIte, nl_n, nl_i, nl_r, List.length_cons, List.length_nil, true_and, and_true, upA_s, upA_n, upA_u, Prod.mk.injEq, and_self, Fr_9_1, Fr_9_4, Fr_9_7, Ld_10, Ld_13, oA_10, oA_13, oL_9, (j_sipush dX6_firstCallHour_0 (n := 3) rfl ks_240), (j_istore_n_1 dX6_firstCallHour_3 (n := 4) rfl), (j_iconst dX6_firstCallHour_4 (n := 5) rfl ki_0), (j_istore_n_2 dX6_firstCallHour_5 (n := 6) rfl), (j_iload_n_2 dX6_firstCallHour_6 (n := 7) rfl), (j_aload_n_0 dX6_firstCallHour_7 (n := 8) rfl), (j_getf dX6_firstCallHour_8 (n := 11) rfl cF_6_30), (j_ic_ge dX6_firstCallHour_11 (n := 14) rfl br_11_29), (j_aload_n_0 dX6_firstCallHour_14 (n := 15) rfl), (j_getf dX6_firstCallHour_15 (n := 18) rfl cF_6_9), (j_iload_n_2 dX6_firstCallHour_18 (n := 19) rfl), (j_iald dX6_firstCallHour_19 (n := 20) rfl), (j_if_ne dX6_firstCallHour_20 (n := 23) rfl br_20_14), (j_iload_n_1 dX6_firstCallHour_23 (n := 24) rfl), (j_aload_n_0 dX6_firstCallHour_24 (n := 25) rfl), (j_getf dX6_firstCallHour_25 (n := 28) rfl cF_6_21), (j_iload_n_2 dX6_firstCallHour_28 (n := 29) rfl), (j_iald dX6_firstCallHour_29 (n := 30) rfl), (j_min (M := mX6_firstCallHour) dX6_firstCallHour_30 (n := 33) rfl cB_6_66 l1_X6_firstCallHour), (j_istore_n_1 dX6_firstCallHour_33 (n := 34) rfl), (j_iinc_2 dX6_firstCallHour_34 (n := 37) rfl ki_1), (j_goto dX6_firstCallHour_37 (n := 40) rfl br_37_m31), (j_iload_n_1 dX6_firstCallHour_40 (n := 41) rfl), (j_iret dX6_firstCallHour_41 (n := 42) rfl), rOk_i (M := mX6_firstCallHour) rfl, hc]
      rw [if_neg (nI_nlt (a := c) (b := c) (Nat.le_refl _) (by omega))]
      exact h
  · intro R hR
    simp only [sw3_c, sw3_n, Nat.reduceEqDiff, not_false_eq_true, Nat.zero_le, Nat.reduceLeDiff, Nat.reduceLT, Nat.reduceAdd, sg_s, ↓kif_0, ↓kif_c, ↓reduceIte, nl_n, nl_i, nl_r, List.length_cons, List.length_nil, true_and, and_true, upA_s, upA_n, upA_u, Prod.mk.injEq, and_self, Fr_9_1, Fr_9_4, Fr_9_7, Ld_10, Ld_13, oA_10, oA_13, oL_9, (j_sipush dX6_firstCallHour_0 (n := 3) rfl ks_240), (j_istore_n_1 dX6_firstCallHour_3 (n := 4) rfl), (j_iconst dX6_firstCallHour_4 (n := 5) rfl ki_0), (j_istore_n_2 dX6_firstCallHour_5 (n := 6) rfl), (j_iload_n_2 dX6_firstCallHour_6 (n := 7) rfl), (j_aload_n_0 dX6_firstCallHour_7 (n := 8) rfl), (j_getf dX6_firstCallHour_8 (n := 11) rfl cF_6_30), (j_ic_ge dX6_firstCallHour_11 (n := 14) rfl br_11_29), (j_aload_n_0 dX6_firstCallHour_14 (n := 15) rfl), (j_getf dX6_firstCallHour_15 (n := 18) rfl cF_6_9), (j_iload_n_2 dX6_firstCallHour_18 (n := 19) rfl), (j_iald dX6_firstCallHour_19 (n := 20) rfl), (j_if_ne dX6_firstCallHour_20 (n := 23) rfl br_20_14), (j_iload_n_1 dX6_firstCallHour_23 (n := 24) rfl), (j_aload_n_0 dX6_firstCallHour_24 (n := 25) rfl), (j_getf dX6_firstCallHour_25 (n := 28) rfl cF_6_21), (j_iload_n_2 dX6_firstCallHour_28 (n := 29) rfl), (j_iald dX6_firstCallHour_29 (n := 30) rfl), (j_min (M := mX6_firstCallHour) dX6_firstCallHour_30 (n := 33) rfl cB_6_66 l1_X6_firstCallHour), (j_istore_n_1 dX6_firstCallHour_33 (n := 34) rfl), (j_iinc_2 dX6_firstCallHour_34 (n := 37) rfl ki_1), (j_goto dX6_firstCallHour_37 (n := 40) rfl br_37_m31), (j_iload_n_1 dX6_firstCallHour_40 (n := 41) rfl), (j_iret dX6_firstCallHour_41 (n := 42) rfl), rOk_i (M := mX6_firstCallHour) rfl]
    exact hR _ _ _ ⟨rfl, rfl, rfl⟩
/-- the hour of an order as the class has it: told, or the first call's -/
def gvn (S : xA) (at' first : Int32) (k : Nat) : Int32 := if at' = 0 then S 13 k else if S 10 k = 0 then first else S 13 k
def rowO (S : xA) (k : Nat) : Nat := (S 10 k / 2 * 48 + S 11 k * 8).toNatClampNeg
/-- who holds in every place, and since when, of the orders below k -/
def lsn (S : xA) (hour at' first : Int32) : Nat → (Nat → Int32) × (Nat → Int32)
  | 0 => (fillR (S 14) 0 96 (-1), fillR (S 15) 0 96 (-1))
  | k + 1 => if hour < gvn S at' first k then lsn S hour at' first k else
      (spA (fun t => cmC S k (nI t) (gvn S at' first k)) hour (lsn S hour at' first k).2 (rowO S k) 8 (fun _ => nI k) (lsn S hour at' first k).1,
       spA (fun t => cmC S k (nI t) (gvn S at' first k)) hour (lsn S hour at' first k).2 (rowO S k) 8 (fun t => cmC S k (nI t) (gvn S at' first k)) (lsn S hour at' first k).2)
theorem upA_c (S : xA) {a b : Nat} (h : a ≠ b) (f g : Nat → Int32) : upA (upA S a f) b g = upA (upA S b g) a f := by
  funext c
  simp only [upA]
  by_cases h1 : c = b
  · subst h1
    rw [if_pos rfl, if_neg (fun q => h q.symm), if_pos rfl]
  · rw [if_neg h1, if_neg h1]
theorem div2 {x : Int32} (h : 0 ≤ x.toInt ∧ x.toInt ≤ 3) : (x / 2).toInt = x.toInt / 2 := by
  rw [Int32.toInt_div]
  have e : (2 : Int32).toInt = 2 := by decide
  rw [e, Int.tdiv_eq_ediv_of_nonneg h.1]
  exact Int.bmod_eq_of_le (by omega) (by omega)
theorem rowO_ok {S : xA} {k : Nat} (h1 : 0 ≤ (S 10 k).toInt ∧ (S 10 k).toInt ≤ 3) (h2 : 0 ≤ (S 11 k).toInt ∧ (S 11 k).toInt ≤ 5) : S 10 k / 2 * 48 + S 11 k * 8 = nI (rowO S k) ∧ (rowO S k : Int) = (S 10 k).toInt / 2 * 48 + (S 11 k).toInt * 8 := by
  have e1 := div2 h1
  have e2 : (S 10 k / 2 * 48).toInt = (S 10 k).toInt / 2 * 48 := by rw [mul_I] <;> rw [e1, ti_48] <;> omega
  have e3 : (S 11 k * 8).toInt = (S 11 k).toInt * 8 := by rw [mul_I] <;> rw [ti_8] <;> omega
  have e4 : (S 10 k / 2 * 48 + S 11 k * 8).toInt = (S 10 k).toInt / 2 * 48 + (S 11 k).toInt * 8 := by rw [add_I] <;> rw [e2, e3] <;> omega
  have e5 := cl_eq (x := S 10 k / 2 * 48 + S 11 k * 8) (by omega)
  refine ⟨?_, ?_⟩
  · apply Int32.toInt_inj.mp
    rw [nI_toInt (by unfold rowO; omega)]
    unfold rowO
    omega
  · unfold rowO
    omega
def rl5 (g : Nat → Int32) (k : Nat) : Option Value := match k with
  | 0 => none
  | k + 1 => some (.int (g k))
set_option maxHeartbeats 4000000 in
theorem c_listen (hour at' : Int32) (S : xA) (f : xA → Prop) (c : Nat) (hc : S 9 7 = nI c) (hc40 : c ≤ 40) (hK : ∀ o, o < c → 0 ≤ (S 10 o).toInt ∧ (S 10 o).toInt ≤ 3) (hU : ∀ o, o < c → 0 ≤ (S 11 o).toInt ∧ (S 11 o).toInt ≤ 5) (hT : ∀ o, o < c → ¬ ((S 12 o).toInt < 0 ∨ 8 ≤ (S 12 o).toInt))
    (h : f (upA (upA S 15 (lsn S hour at' (fch S c) c).2) 14 (lsn S hour at' (fch S c) c).1)) : CV mX6_listen [.ref (9 : Nat), .int hour, .int at'] S f := by
  refine cv_of (T := mX6_listen) (f := fun _ _ => True) (ls := [some (.ref (9 : Nat)), some (.int hour), some (.int at'), none, none, none]) rfl (Nat.le_of_ble_eq_true rfl) (by decide) rfl rfl rfl (ok2_1 cX6_listen 6 80 24 (fun ls st S' => ls = [some (.ref (9 : Nat)), some (.int hour), some (.int at'), some (.int (fch S c)), some (.int 0), none] ∧ st = [] ∧ S' = upA (upA S 15 (lsn S hour at' (fch S c) 0).2) 14 (lsn S hour at' (fch S c) 0).1) rfl rfl ?_ ?_)
  · rintro ls st S' ⟨rfl, rfl, rfl⟩
    refine ok2_for (M := mX6_listen) (fi := fun _ _ => True) (fv := f) cX6_listen 6 60 24 c (fun k => [some (.ref (9 : Nat)), some (.int hour), some (.int at'), some (.int (fch S c)), some (.int (nI k)), rl5 (gvn S at' (fch S c)) k]) (fun k => upA (upA S 15 (lsn S hour at' (fch S c) k).2) 14 (lsn S hour at' (fch S c) k).1) [] rfl rfl ?_ ?_ 0 (by omega)
    · intro k hk R hR
      have hkv : vp_in (nI k) 40 := vp_in_nI (by omega) (by omega)
      have hkc : (nI k).toNatClampNeg = k := nI_clamp (by omega)
      simp only [sw3_c, sw3_n, Nat.reduceEqDiff, not_false_eq_true, Nat.zero_le, Nat.reduceLeDiff, Nat.reduceLT, Nat.reduceAdd, sg_s, ↓kif_0, ↓kif_c, ↓reduceIte, nl_n, nl_i, nl_r, List.length_cons, List.length_nil, true_and, and_true, upA_s, upA_n, upA_u, Prod.mk.injEq, and_self, Fr_9_1, Fr_9_4, Fr_9_5, Fr_9_6, Fr_9_7, Ld_10, Ld_13, Ld_14, Ld_15, oA_10, oA_13, oA_14, oA_15, oC_9, oL_9, (j_aload_n_0 dX6_listen_0 (n := 1) rfl), (j_getf dX6_listen_1 (n := 4) rfl cF_6_24), (j_iconst dX6_listen_4 (n := 5) rfl ki_m1), (j_cs2v (M := mX6_listen) dX6_listen_5 (n := 8) rfl cM_6_52 (Or.inl rfl) (o := 6) rfl lv_X6_listen_J7_fill_53178 rfl), (j_aload_n_0 dX6_listen_8 (n := 9) rfl), (j_getf dX6_listen_9 (n := 12) rfl cF_6_27), (j_iconst dX6_listen_12 (n := 13) rfl ki_m1), (j_cs2v (M := mX6_listen) dX6_listen_13 (n := 16) rfl cM_6_52 (Or.inl rfl) (o := 6) rfl lv_X6_listen_J7_fill_53178 rfl), (j_aload_n_0 dX6_listen_16 (n := 17) rfl), (j_cv0i (M := mX6_listen) dX6_listen_17 (n := 20) rfl cM_6_58 (Or.inl rfl) lv_X6_listen_X6_firstCallHour rfl (oc := 6) rfl), (j_istore_n_3 dX6_listen_20 (n := 21) rfl), (j_iconst dX6_listen_21 (n := 22) rfl ki_0), (j_istore_4 dX6_listen_22 (n := 24) rfl), (j_iload_4 dX6_listen_24 (n := 26) rfl), (j_aload_n_0 dX6_listen_26 (n := 27) rfl), (j_getf dX6_listen_27 (n := 30) rfl cF_6_30), (j_ic_ge dX6_listen_30 (n := 33) rfl br_30_51), (j_iload_n_2 dX6_listen_33 (n := 34) rfl), (j_if_eq dX6_listen_34 (n := 37) rfl br_34_17), (j_aload_n_0 dX6_listen_37 (n := 38) rfl), (j_getf dX6_listen_38 (n := 41) rfl cF_6_9), (j_iload_4 dX6_listen_41 (n := 43) rfl), (j_iald dX6_listen_43 (n := 44) rfl), (j_if_ne dX6_listen_44 (n := 47) rfl br_44_7), (j_iload_n_3 dX6_listen_47 (n := 48) rfl), (j_goto dX6_listen_48 (n := 51) rfl br_48_10), (j_aload_n_0 dX6_listen_51 (n := 52) rfl), (j_getf dX6_listen_52 (n := 55) rfl cF_6_21), (j_iload_4 dX6_listen_55 (n := 57) rfl), (j_iald dX6_listen_57 (n := 58) rfl), (j_istore_5 dX6_listen_58 (n := 60) rfl), (j_iload_5 dX6_listen_60 (n := 62) rfl), (j_iload_n_1 dX6_listen_62 (n := 63) rfl), (j_ic_gt dX6_listen_63 (n := 66) rfl br_63_12), (j_aload_n_0 dX6_listen_66 (n := 67) rfl), (j_iload_4 dX6_listen_67 (n := 69) rfl), (j_iload_5 dX6_listen_69 (n := 71) rfl), (j_iload_n_1 dX6_listen_71 (n := 72) rfl), (j_cv3v (M := mX6_listen) dX6_listen_72 (n := 75) rfl cM_6_62 (Or.inl rfl) lv_X6_listen_X6_spread rfl (oc := 6) rfl), (j_iinc_4 dX6_listen_75 (n := 78) rfl ki_1), (j_goto dX6_listen_78 (n := 81) rfl br_78_m54), (j_ret (M := mX6_listen) dX6_listen_81 (n := 82) rfl rfl), hc, rl5]
      simp only [rl5] at hR
      rw [if_pos (nI_lt hk (by omega)), hkc, nI_1]
      have hgo : if hour < gvn S at' (fch S c) k then R [some (.ref (9 : Nat)), some (.int hour), some (.int at'), some (.int (fch S c)), some (.int (nI (k + 1))), some (.int (gvn S at' (fch S c) k))] [] (upA (upA S 15 (lsn S hour at' (fch S c) k).2) 14 (lsn S hour at' (fch S c) k).1) else CV mX6_spread [.ref (9 : Nat), .int (nI k), .int (gvn S at' (fch S c) k), .int hour] (upA (upA S 15 (lsn S hour at' (fch S c) k).2) 14 (lsn S hour at' (fch S c) k).1) (fun S_1 => R [some (.ref (9 : Nat)), some (.int hour), some (.int at'), some (.int (fch S c)), some (.int (nI (k + 1))), some (.int (gvn S at' (fch S c) k))] [] S_1) := by
        obtain ⟨r1, r2⟩ := rowO_ok (hK k hk) (hU k hk)
        refine ite_i (fun h1 => ?_) (fun h1 => ?_)
        · rw [lsn, if_pos h1] at hR
          exact hR
        · have hk3 := hK k hk
          have hu3 := hU k hk
          refine c_spread k (rowO S k) _ hour _ _ (by omega) (by simp only [upA_s, upA_n, upA_u, Nat.reduceEqDiff, not_false_eq_true, pk_us, upd_n]; exact hk3) (by simp only [upA_s, upA_n, upA_u, Nat.reduceEqDiff, not_false_eq_true, pk_us, upd_n]; exact r1) (by omega) (by simp only [upA_s, upA_n, upA_u, Nat.reduceEqDiff, not_false_eq_true, pk_us, upd_n]; exact hT k hk) ?_
          rw [lsn, if_neg h1] at hR
          simp only [upA_s, upA_n, upA_u, Nat.reduceEqDiff, not_false_eq_true, pk_us, upd_n]
          rw [upA_4 _ (by decide)]
          have e : (fun t => cmC (upA (upA S 15 (lsn S hour at' (fch S c) k).2) 14 (lsn S hour at' (fch S c) k).1) k (nI t) (gvn S at' (fch S c) k)) = fun t => cmC S k (nI t) (gvn S at' (fch S c) k) := by
            funext t
            exact cmC_up
          rw [e]
          exact hR
      refine ite_i (fun h1 => ?_) (fun h1 => ?_)
      · refine ⟨hkv, ?_⟩
        have e : gvn S at' (fch S c) k = S 13 k := by unfold gvn; rw [if_pos h1]
        rw [e] at hgo
        exact hgo
      · refine ⟨hkv, ite_i (fun h2 => ?_) (fun h2 => ⟨hkv, ?_⟩)⟩
        · have e : gvn S at' (fch S c) k = fch S c := by unfold gvn; rw [if_neg h1, if_pos h2]
          rw [e] at hgo
          exact hgo
        · have e : gvn S at' (fch S c) k = S 13 k := by unfold gvn; rw [if_neg h1, if_neg h2]
          rw [e] at hgo
          exact hgo
    · refine ok2_0 cX6_listen 6 8 rfl rfl ?_
      simp only [sw3_c, sw3_n, Nat.reduceEqDiff, not_false_eq_true, Nat.zero_le, Nat.reduceLeDiff, Nat.reduceLT, Nat.reduceAdd, sg_s, ↓kif_0, ↓kif_c, ↓reduceIte, nl_n, nl_i, nl_r, List.length_cons, List.length_nil, true_and, and_true, upA_s, upA_n, upA_u, Prod.mk.injEq, and_self, Fr_9_1, Fr_9_4, Fr_9_5, Fr_9_6, Fr_9_7, Ld_10, Ld_13, Ld_14, Ld_15, oA_10, oA_13, oA_14, oA_15, oC_9, oL_9, (j_aload_n_0 dX6_listen_0 (n := 1) rfl), (j_getf dX6_listen_1 (n := 4) rfl cF_6_24), (j_iconst dX6_listen_4 (n := 5) rfl ki_m1), (j_cs2v (M := mX6_listen) dX6_listen_5 (n := 8) rfl cM_6_52 (Or.inl rfl) (o := 6) rfl lv_X6_listen_J7_fill_53178 rfl), (j_aload_n_0 dX6_listen_8 (n := 9) rfl), (j_getf dX6_listen_9 (n := 12) rfl cF_6_27), (j_iconst dX6_listen_12 (n := 13) rfl ki_m1), (j_cs2v (M := mX6_listen) dX6_listen_13 (n := 16) rfl cM_6_52 (Or.inl rfl) (o := 6) rfl lv_X6_listen_J7_fill_53178 rfl), (j_aload_n_0 dX6_listen_16 (n := 17) rfl), (j_cv0i (M := mX6_listen) dX6_listen_17 (n := 20) rfl cM_6_58 (Or.inl rfl) lv_X6_listen_X6_firstCallHour rfl (oc := 6) rfl), (j_istore_n_3 dX6_listen_20 (n := 21) rfl), (j_iconst dX6_listen_21 (n := 22) rfl ki_0), (j_istore_4 dX6_listen_22 (n := 24) rfl), (j_iload_4 dX6_listen_24 (n := 26) rfl), (j_aload_n_0 dX6_listen_26 (n := 27) rfl), (j_getf dX6_listen_27 (n := 30) rfl cF_6_30), (j_ic_ge dX6_listen_30 (n := 33) rfl br_30_51), (j_iload_n_2 dX6_listen_33 (n := 34) rfl), (j_if_eq dX6_listen_34 (n := 37) rfl br_34_17), (j_aload_n_0 dX6_listen_37 (n := 38) rfl), (j_getf dX6_listen_38 (n := 41) rfl cF_6_9), (j_iload_4 dX6_listen_41 (n := 43) rfl), (j_iald dX6_listen_43 (n := 44) rfl), (j_if_ne dX6_listen_44 (n := 47) rfl br_44_7), (j_iload_n_3 dX6_listen_47 (n := 48) rfl), (j_goto dX6_listen_48 (n := 51) rfl br_48_10), (j_aload_n_0 dX6_listen_51 (n := 52) rfl), (j_getf dX6_listen_52 (n := 55) rfl cF_6_21), (j_iload_4 dX6_listen_55 (n := 57) rfl), (j_iald dX6_listen_57 (n := 58) rfl), (j_istore_5 dX6_listen_58 (n := 60) rfl), (j_iload_5 dX6_listen_60 (n := 62) rfl), (j_iload_n_1 dX6_listen_62 (n := 63) rfl), (j_ic_gt dX6_listen_63 (n := 66) rfl br_63_12), (j_aload_n_0 dX6_listen_66 (n := 67) rfl), (j_iload_4 dX6_listen_67 (n := 69) rfl), (j_iload_5 dX6_listen_69 (n := 71) rfl), (j_iload_n_1 dX6_listen_71 (n := 72) rfl), (j_cv3v (M := mX6_listen) dX6_listen_72 (n := 75) rfl cM_6_62 (Or.inl rfl) lv_X6_listen_X6_spread rfl (oc := 6) rfl), (j_iinc_4 dX6_listen_75 (n := 78) rfl ki_1), (j_goto dX6_listen_78 (n := 81) rfl br_78_m54), (j_ret (M := mX6_listen) dX6_listen_81 (n := 82) rfl rfl), hc]
      rw [if_neg (nI_nlt (a := c) (b := c) (Nat.le_refl _) (by omega))]
      exact h
  · intro R hR
    simp only [sw3_c, sw3_n, Nat.reduceEqDiff, not_false_eq_true, Nat.zero_le, Nat.reduceLeDiff, Nat.reduceLT, Nat.reduceAdd, sg_s, ↓kif_0, ↓kif_c, ↓reduceIte, nl_n, nl_i, nl_r, List.length_cons, List.length_nil, true_and, and_true, upA_s, upA_n, upA_u, Prod.mk.injEq, and_self, Fr_9_1, Fr_9_4, Fr_9_5, Fr_9_6, Fr_9_7, Ld_10, Ld_13, Ld_14, Ld_15, oA_10, oA_13, oA_14, oA_15, oC_9, oL_9, (j_aload_n_0 dX6_listen_0 (n := 1) rfl), (j_getf dX6_listen_1 (n := 4) rfl cF_6_24), (j_iconst dX6_listen_4 (n := 5) rfl ki_m1), (j_cs2v (M := mX6_listen) dX6_listen_5 (n := 8) rfl cM_6_52 (Or.inl rfl) (o := 6) rfl lv_X6_listen_J7_fill_53178 rfl), (j_aload_n_0 dX6_listen_8 (n := 9) rfl), (j_getf dX6_listen_9 (n := 12) rfl cF_6_27), (j_iconst dX6_listen_12 (n := 13) rfl ki_m1), (j_cs2v (M := mX6_listen) dX6_listen_13 (n := 16) rfl cM_6_52 (Or.inl rfl) (o := 6) rfl lv_X6_listen_J7_fill_53178 rfl), (j_aload_n_0 dX6_listen_16 (n := 17) rfl), (j_cv0i (M := mX6_listen) dX6_listen_17 (n := 20) rfl cM_6_58 (Or.inl rfl) lv_X6_listen_X6_firstCallHour rfl (oc := 6) rfl), (j_istore_n_3 dX6_listen_20 (n := 21) rfl), (j_iconst dX6_listen_21 (n := 22) rfl ki_0), (j_istore_4 dX6_listen_22 (n := 24) rfl), (j_iload_4 dX6_listen_24 (n := 26) rfl), (j_aload_n_0 dX6_listen_26 (n := 27) rfl), (j_getf dX6_listen_27 (n := 30) rfl cF_6_30), (j_ic_ge dX6_listen_30 (n := 33) rfl br_30_51), (j_iload_n_2 dX6_listen_33 (n := 34) rfl), (j_if_eq dX6_listen_34 (n := 37) rfl br_34_17), (j_aload_n_0 dX6_listen_37 (n := 38) rfl), (j_getf dX6_listen_38 (n := 41) rfl cF_6_9), (j_iload_4 dX6_listen_41 (n := 43) rfl), (j_iald dX6_listen_43 (n := 44) rfl), (j_if_ne dX6_listen_44 (n := 47) rfl br_44_7), (j_iload_n_3 dX6_listen_47 (n := 48) rfl), (j_goto dX6_listen_48 (n := 51) rfl br_48_10), (j_aload_n_0 dX6_listen_51 (n := 52) rfl), (j_getf dX6_listen_52 (n := 55) rfl cF_6_21), (j_iload_4 dX6_listen_55 (n := 57) rfl), (j_iald dX6_listen_57 (n := 58) rfl), (j_istore_5 dX6_listen_58 (n := 60) rfl), (j_iload_5 dX6_listen_60 (n := 62) rfl), (j_iload_n_1 dX6_listen_62 (n := 63) rfl), (j_ic_gt dX6_listen_63 (n := 66) rfl br_63_12), (j_aload_n_0 dX6_listen_66 (n := 67) rfl), (j_iload_4 dX6_listen_67 (n := 69) rfl), (j_iload_5 dX6_listen_69 (n := 71) rfl), (j_iload_n_1 dX6_listen_71 (n := 72) rfl), (j_cv3v (M := mX6_listen) dX6_listen_72 (n := 75) rfl cM_6_62 (Or.inl rfl) lv_X6_listen_X6_spread rfl (oc := 6) rfl), (j_iinc_4 dX6_listen_75 (n := 78) rfl ki_1), (j_goto dX6_listen_78 (n := 81) rfl br_78_m54), (j_ret (M := mX6_listen) dX6_listen_81 (n := 82) rfl rfl)]
    refine c_fill 14 _ _ _ (by decide) (by decide) ?_
    refine c_fill 15 _ _ _ (by decide) (by decide) ?_
    refine c_first _ _ c (by simp only [upA_s, upA_n, upA_u, Nat.reduceEqDiff, not_false_eq_true, pk_us, upd_n]; exact hc) hc40 ?_
    refine hR _ _ _ ⟨?_, rfl, ?_⟩
    · have e : ∀ n, fch (upA (upA S 14 (fillR (S 14) 0 (Ld 14).2 (-1))) 15 (fillR (upA S 14 (fillR (S 14) 0 (Ld 14).2 (-1)) 15) 0 (Ld 15).2 (-1))) n = fch S n := by
        intro n
        induction n with
        | zero => rfl
        | succ n ih =>
          rw [fch, fch, ih]
          simp only [upA_s, upA_n, upA_u, Nat.reduceEqDiff, not_false_eq_true, pk_us, upd_n]
      rw [e]
    · rw [upA_c _ (by decide)]
      simp only [upA_s, upA_n, upA_u, Nat.reduceEqDiff, not_false_eq_true, pk_us, upd_n]
      rfl
