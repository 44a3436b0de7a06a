-- binds
def ldB (F T Sr : Nat → Int32) (hour so : Int32) (v : Nat) : Bool := decide ((F v).toInt ≤ hour.toInt ∧ hour.toInt ≤ (T v).toInt ∧ (¬ Sr v = 0 ∨ so = 0))
def stF (A B : Nat → Int32) (ld : Nat → Bool) (v : Nat) (x : Int32) : Int32 := if ld v = true ∧ (x >>> (A v &&& 31)) &&& 1 = 1 then x ||| 1 <<< (B v &&& 31) else x
def rdF (A B : Nat → Int32) (ld : Nat → Bool) : Nat → Int32 → Int32
  | 0, x => x
  | v + 1, x => stF A B ld v (rdF A B ld v x)
def itF (A B : Nat → Int32) (ld : Nat → Bool) (c : Nat) (x : Int32) : Nat → Int32
  | 0 => x
  | k + 1 => rdF A B ld c (itF A B ld c x k)
theorem rdF_eq {A B A' B' : Nat → Int32} {ld ld' : Nat → Bool} {x : Int32} : ∀ n, (∀ v, v < n → A v = A' v ∧ B v = B' v ∧ ld v = ld' v) → rdF A B ld n x = rdF A' B' ld' n x
  | 0, _ => rfl
  | n + 1, h => by
    obtain ⟨h1, h2, h3⟩ := h n (by omega)
    rw [rdF, rdF, rdF_eq n (fun v hv => h v (by omega))]
    unfold stF
    rw [h1, h2, h3]
theorem itF_eq {A B A' B' : Nat → Int32} {ld ld' : Nat → Bool} {x : Int32} {c : Nat} (h : ∀ v, v < c → A v = A' v ∧ B v = B' v ∧ ld v = ld' v) : ∀ n, itF A B ld c x n = itF A' B' ld' c x n
  | 0 => rfl
  | n + 1 => by rw [itF, itF, itF_eq h n, rdF_eq c h]
def R8 (c : Nat) (A : Nat → Int32) : Prop := ∀ v, v < c → ∃ a, a < 8 ∧ A v = nI a
theorem stF_bt {A B : Nat → Int32} {ld : Nat → Bool} {v : Nat} {x : Int32} (hB : ∃ a, a < 8 ∧ B v = nI a) {i : Nat} (hi : i < 32) : (bt x i = true → bt (stF A B ld v x) i = true) ∧ (8 ≤ i → bt (stF A B ld v x) i = bt x i) := by
  obtain ⟨b, hb, e⟩ := hB
  unfold stF
  split
  · rw [b_or, e, one_bt (by omega) hi]
    refine ⟨fun h => by rw [h, Bool.true_or], fun h => ?_⟩
    rw [decide_eq_false (by omega), Bool.or_false]
  · exact ⟨fun h => h, fun _ => rfl⟩
theorem rdF_bt {A B : Nat → Int32} {ld : Nat → Bool} {x : Int32} {i : Nat} (hi : i < 32) : ∀ n, R8 n B → (bt x i = true → bt (rdF A B ld n x) i = true) ∧ (8 ≤ i → bt (rdF A B ld n x) i = bt x i)
  | 0, _ => ⟨fun h => h, fun _ => rfl⟩
  | n + 1, h => by
    have ih := rdF_bt (A := A) (ld := ld) (x := x) hi n (fun v hv => h v (by omega))
    have st := stF_bt (A := A) (B := B) (ld := ld) (x := rdF A B ld n x) (h n (by omega)) hi
    rw [rdF]
    exact ⟨fun q => st.1 (ih.1 q), fun q => (st.2 q).trans (ih.2 q)⟩
def cb (x : Int32) : Nat → Nat
  | 0 => 0
  | i + 1 => cb x i + if bt x i = true then 1 else 0
theorem cb_le (x : Int32) : ∀ n, cb x n ≤ n
  | 0 => Nat.le_refl 0
  | n + 1 => by
    have := cb_le x n
    rw [cb]
    split <;> omega
theorem cb_mono {x y : Int32} : ∀ n, (∀ i, i < n → bt x i = true → bt y i = true) → cb x n ≤ cb y n ∧ ((∃ i, i < n ∧ bt x i = false ∧ bt y i = true) → cb x n < cb y n)
  | 0, _ => ⟨Nat.le_refl 0, fun ⟨i, hi, _⟩ => absurd hi (Nat.not_lt_zero i)⟩
  | n + 1, h => by
    obtain ⟨h1, h2⟩ := cb_mono (x := x) (y := y) n (fun i hi => h i (by omega))
    have h3 := h n (by omega)
    rw [cb, cb]
    constructor
    · split
      · next q => rw [if_pos (h3 q)]; omega
      · omega
    · rintro ⟨i, hi, q1, q2⟩
      by_cases e : i = n
      · subst e
        rw [if_neg (by rw [q1]; exact Bool.false_ne_true), if_pos q2]
        omega
      · have := h2 ⟨i, by omega, q1, q2⟩
        split
        · next q => rw [if_pos (h3 q)]; omega
        · omega
theorem rdF_gr {A B : Nat → Int32} {ld : Nat → Bool} {c : Nat} {x : Int32} (hB : R8 c B) (h : ¬ rdF A B ld c x = x) : cb x 8 < cb (rdF A B ld c x) 8 := by
  refine (cb_mono 8 (fun i hi => (rdF_bt (by omega) c hB).1)).2 ?_
  apply Classical.byContradiction
  intro hn
  apply h
  apply b_ext
  intro i hi
  by_cases h8 : 8 ≤ i
  · exact (rdF_bt hi c hB).2 h8
  · cases e : bt x i with
    | true => exact (rdF_bt hi c hB).1 e
    | false =>
      cases e2 : bt (rdF A B ld c x) i with
      | true => exact absurd ⟨i, by omega, e, e2⟩ hn
      | false => rfl
theorem rdF_0 {A B : Nat → Int32} {ld : Nat → Bool} : ∀ n, R8 n A → rdF A B ld n 0 = 0
  | 0, _ => rfl
  | n + 1, h => by
    rw [rdF, rdF_0 n (fun v hv => h v (by omega))]
    obtain ⟨a, ha, e⟩ := h n (by omega)
    unfold stF
    rw [if_neg]
    rintro ⟨-, q⟩
    rw [e, has_bt (by omega), b_0] at q
    cases q
theorem itF_0 {A B : Nat → Int32} {ld : Nat → Bool} {c : Nat} (hA : R8 c A) : ∀ n, itF A B ld c 0 n = 0
  | 0 => rfl
  | n + 1 => by rw [itF, itF_0 hA n, rdF_0 c hA]
theorem itF_gr {A B : Nat → Int32} {ld : Nat → Bool} {c : Nat} {x : Int32} (hB : R8 c B) (n : Nat) (h : ¬ itF A B ld c x (n + 1) = itF A B ld c x n) : cb x 8 + (n + 1) ≤ cb (itF A B ld c x (n + 1)) 8 := by
  induction n with
  | zero =>
    have := rdF_gr hB (A := A) (ld := ld) (x := x) h
    rw [itF, itF]
    omega
  | succ n ih =>
    have h1 : ¬ itF A B ld c x (n + 1) = itF A B ld c x n := by
      intro e
      apply h
      rw [itF, e]
      exact e
    have := ih h1
    have := rdF_gr hB (A := A) (ld := ld) (x := itF A B ld c x (n + 1)) h
    rw [itF]
    omega
theorem b_lo {x : Int32} (h : 0 ≤ x.toInt ∧ x.toInt ≤ 255) {i : Nat} (h8 : 8 ≤ i) : bt x i = false := by
  have e := nI_cl h.1
  have e2 := cl_eq h.1
  rw [← e]
  unfold bt
  show (BitVec.ofNat 32 x.toNatClampNeg).getLsbD i = false
  rw [BitVec.getLsbD_ofNat, Nat.testBit_lt_two_pow, Bool.and_false]
  exact Nat.lt_of_lt_of_le (show x.toNatClampNeg < 2 ^ 8 by omega) (Nat.pow_le_pow_right (by omega) h8)
theorem it_87 {A B : Nat → Int32} {ld : Nat → Bool} {c : Nat} {x : Int32} (hA : R8 c A) (hB : R8 c B) (hx : 0 ≤ x.toInt ∧ x.toInt ≤ 255) : itF A B ld c x 8 = itF A B ld c x 7 := by
  apply Classical.byContradiction
  intro h
  have h1 := itF_gr hB 7 h
  have h2 := cb_le (itF A B ld c x (7 + 1)) 8
  have h3 : cb x 8 = 0 := by omega
  have h4 : x = 0 := by
    apply b_ext
    intro i hi
    rw [b_0]
    by_cases h8 : 8 ≤ i
    · exact b_lo hx h8
    · cases e : bt x i with
      | false => rfl
      | true =>
        have := (cb_mono (x := 0) (y := x) 8 (fun i _ q => by rw [b_0] at q; cases q)).2 ⟨i, by omega, b_0 i, e⟩
        omega
  subst h4
  exact h (by rw [itF_0 hA, itF_0 hA])

set_option maxHeartbeats 4000000 in
theorem c_inForce (v hour : Int32) (S : xA) (f : xP) (hv : vp_in v 24) (h : f (bI (decide ((S 62 v.toNatClampNeg).toInt ≤ hour.toInt ∧ hour.toInt ≤ (S 63 v.toNatClampNeg).toInt))) S) : CI mX4_inForce [.ref (59 : Nat), .int v, .int hour] S f := by
  show CI mX4_inForce _ _ _
  refine ci_of (T := mX4_inForce) (fv := fun _ => True) (ls := [some (.ref (59 : Nat)), some (.int v), some (.int hour)]) rfl (Nat.le_of_ble_eq_true rfl) (by decide) rfl rfl rfl (ok2_0 cX4_inForce 4 60 rfl rfl ?_)
  simp only [sw3_c, sw3_n, Nat.reduceEqDiff, not_false_eq_true, Nat.zero_le, Nat.reduceLeDiff, Nat.reduceLT, Nat.reduceAdd, sg_s, ↓kif_0, ↓kif_c, ↓reduceIte, nl_n, nl_i, nl_r, List.length_cons, List.length_nil, true_and, and_true, upA_s, upA_n, upA_u, Prod.mk.injEq, and_self, Fr_59_2, Fr_59_3, Ld_62, Ld_63, oA_62, oA_63, oL_59, (j_aload_n_0 dX4_inForce_0 (n := 1) rfl), (j_getf dX4_inForce_1 (n := 4) rfl cF_4_18), (j_iload_n_1 dX4_inForce_4 (n := 5) rfl), (j_iald dX4_inForce_5 (n := 6) rfl), (j_iload_n_2 dX4_inForce_6 (n := 7) rfl), (j_ic_gt dX4_inForce_7 (n := 10) rfl br_7_17), (j_iload_n_2 dX4_inForce_10 (n := 11) rfl), (j_aload_n_0 dX4_inForce_11 (n := 12) rfl), (j_getf dX4_inForce_12 (n := 15) rfl cF_4_21), (j_iload_n_1 dX4_inForce_15 (n := 16) rfl), (j_iald dX4_inForce_16 (n := 17) rfl), (j_ic_gt dX4_inForce_17 (n := 20) rfl br_17_7), (j_iconst dX4_inForce_20 (n := 21) rfl ki_1), (j_goto dX4_inForce_21 (n := 24) rfl br_21_4), (j_iconst dX4_inForce_24 (n := 25) rfl ki_0), (j_iret dX4_inForce_25 (n := 26) rfl)]
  simp only [lt_I]
  refine ⟨hv, ite_i (fun h1 => ?_) (fun h1 => ⟨hv, ite_i (fun h2 => ?_) (fun h2 => ?_)⟩)⟩
  · rw [decide_eq_false (by omega)] at h; exact ⟨rOk_z rfl (Or.inl rfl), h⟩
  · rw [decide_eq_false (by omega)] at h; exact ⟨rOk_z rfl (Or.inl rfl), h⟩
  · rw [decide_eq_true (by omega)] at h; exact ⟨rOk_z rfl (Or.inr rfl), h⟩
set_option maxHeartbeats 4000000 in
theorem c_bound (x hour so : Int32) (S : xA) (f : xP) (c : Nat) (hc : S 59 5 = nI c) (hc24 : c ≤ 24) (h : f (itF (S 60) (S 61) (ldB (S 62) (S 63) (S 64) hour so) c x 7) S) : CI mX4_bound [.ref (59 : Nat), .int x, .int hour, .int so] S f := by
  refine ci_of (T := mX4_bound) (fv := fun _ => True) (ls := [some (.ref (59 : Nat)), some (.int x), some (.int hour), some (.int so), none, none, none, none]) rfl (Nat.le_of_ble_eq_true rfl) (by decide) rfl rfl rfl (ok_f2 cX4_bound 4 80 6 16 7 (fun k ls S' => (∃ y z, ls = [some (.ref (59 : Nat)), some (.int x), some (.int hour), some (.int so), some (.int (itF (S 60) (S 61) (ldB (S 62) (S 63) (S 64) hour so) c x k)), some (.int (nI (k + 1))), lx y, lx z]) ∧ S = S') (fun _ => c) (fun k j ls S' => (∃ z, ls = [some (.ref (59 : Nat)), some (.int x), some (.int hour), some (.int so), some (.int (rdF (S 60) (S 61) (ldB (S 62) (S 63) (S 64) hour so) j (itF (S 60) (S 61) (ldB (S 62) (S 63) (S 64) hour so) c x k))), some (.int (nI (k + 1))), some (.int (nI j)), lx z]) ∧ S = S') rfl rfl ?_ ?_ ?_ ?_ ?_)
  · intro R hR
    simp only [sw3_c, sw3_n, Nat.reduceEqDiff, not_false_eq_true, Nat.zero_le, Nat.reduceLeDiff, Nat.reduceLT, Nat.reduceAdd, sg_s, ↓kif_0, ↓kif_c, ↓reduceIte, nl_n, nl_i, nl_r, List.length_cons, List.length_nil, true_and, and_true, upA_s, upA_n, upA_u, Prod.mk.injEq, and_self, Fr_59_0, Fr_59_1, Fr_59_4, Fr_59_5, Ld_60, Ld_61, Ld_64, oA_60, oA_61, oC_59, oL_59, oZ_64, (j_iload_n_1 dX4_bound_0 (n := 1) rfl), (j_istore_4 dX4_bound_1 (n := 3) rfl), (j_iconst dX4_bound_3 (n := 4) rfl ki_1), (j_istore_5 dX4_bound_4 (n := 6) rfl), (j_iload_5 dX4_bound_6 (n := 8) rfl), (j_bipush dX4_bound_8 (n := 10) rfl kb_8), (j_ic_ge dX4_bound_10 (n := 13) rfl br_10_92), (j_iconst dX4_bound_13 (n := 14) rfl ki_0), (j_istore_6 dX4_bound_14 (n := 16) rfl), (j_iload_6 dX4_bound_16 (n := 18) rfl), (j_aload_n_0 dX4_bound_18 (n := 19) rfl), (j_getf dX4_bound_19 (n := 22) rfl cF_4_28), (j_ic_ge dX4_bound_22 (n := 25) rfl br_22_74), (j_aload_n_0 dX4_bound_25 (n := 26) rfl), (j_iload_6 dX4_bound_26 (n := 28) rfl), (j_iload_n_2 dX4_bound_28 (n := 29) rfl), (j_cv2i (M := mX4_bound) dX4_bound_29 (n := 32) rfl cM_4_32 (Or.inl rfl) lv_X4_bound_X4_inForce rfl (oc := 4) rfl), (j_if_eq dX4_bound_32 (n := 35) rfl br_32_21), (j_aload_n_0 dX4_bound_35 (n := 36) rfl), (j_getf dX4_bound_36 (n := 39) rfl cF_4_24), (j_iload_6 dX4_bound_39 (n := 41) rfl), (j_bald dX4_bound_41 (n := 42) rfl), (j_if_ne dX4_bound_42 (n := 45) rfl br_42_7), (j_iload_n_3 dX4_bound_45 (n := 46) rfl), (j_if_ne dX4_bound_46 (n := 49) rfl br_46_7), (j_iconst dX4_bound_49 (n := 50) rfl ki_1), (j_goto dX4_bound_50 (n := 53) rfl br_50_4), (j_iconst dX4_bound_53 (n := 54) rfl ki_0), (j_istore_7 dX4_bound_54 (n := 56) rfl), (j_iload_7 dX4_bound_56 (n := 58) rfl), (j_if_eq dX4_bound_58 (n := 61) rfl br_58_32), (j_iload_4 dX4_bound_61 (n := 63) rfl), (j_aload_n_0 dX4_bound_63 (n := 64) rfl), (j_getf dX4_bound_64 (n := 67) rfl cF_4_9), (j_iload_6 dX4_bound_67 (n := 69) rfl), (j_iald dX4_bound_69 (n := 70) rfl), (j_cs2i (M := mX4_bound) dX4_bound_70 (n := 73) rfl cM_4_36 (Or.inr rfl) (o := 4) rfl lv_X4_bound_X9_has rfl), (j_if_eq dX4_bound_73 (n := 76) rfl br_73_17), (j_iload_4 dX4_bound_76 (n := 78) rfl), (j_iconst dX4_bound_78 (n := 79) rfl ki_1), (j_aload_n_0 dX4_bound_79 (n := 80) rfl), (j_getf dX4_bound_80 (n := 83) rfl cF_4_15), (j_iload_6 dX4_bound_83 (n := 85) rfl), (j_iald dX4_bound_85 (n := 86) rfl), (j_ishl dX4_bound_86 (n := 87) rfl), (j_ior dX4_bound_87 (n := 88) rfl), (j_istore_4 dX4_bound_88 (n := 90) rfl), (j_iinc_6 dX4_bound_90 (n := 93) rfl ki_1), (j_goto dX4_bound_93 (n := 96) rfl br_93_m77), (j_iinc_5 dX4_bound_96 (n := 99) rfl ki_1), (j_goto dX4_bound_99 (n := 102) rfl br_99_m93), (j_iload_4 dX4_bound_102 (n := 104) rfl), (j_iret dX4_bound_104 (n := 105) rfl), rOk_i (M := mX4_bound) rfl, nl_x, pk_us]
    exact hR _ _ ⟨⟨none, none, rfl⟩, rfl⟩
  · rintro k hk _ _ ⟨⟨y, z, rfl⟩, rfl⟩ R R2 hR hR2
    simp only [sw3_c, sw3_n, Nat.reduceEqDiff, not_false_eq_true, Nat.zero_le, Nat.reduceLeDiff, Nat.reduceLT, Nat.reduceAdd, sg_s, ↓kif_0, ↓kif_c, ↓reduceIte, nl_n, nl_i, nl_r, List.length_cons, List.length_nil, true_and, and_true, upA_s, upA_n, upA_u, Prod.mk.injEq, and_self, Fr_59_0, Fr_59_1, Fr_59_4, Fr_59_5, Ld_60, Ld_61, Ld_64, oA_60, oA_61, oC_59, oL_59, oZ_64, (j_iload_n_1 dX4_bound_0 (n := 1) rfl), (j_istore_4 dX4_bound_1 (n := 3) rfl), (j_iconst dX4_bound_3 (n := 4) rfl ki_1), (j_istore_5 dX4_bound_4 (n := 6) rfl), (j_iload_5 dX4_bound_6 (n := 8) rfl), (j_bipush dX4_bound_8 (n := 10) rfl kb_8), (j_ic_ge dX4_bound_10 (n := 13) rfl br_10_92), (j_iconst dX4_bound_13 (n := 14) rfl ki_0), (j_istore_6 dX4_bound_14 (n := 16) rfl), (j_iload_6 dX4_bound_16 (n := 18) rfl), (j_aload_n_0 dX4_bound_18 (n := 19) rfl), (j_getf dX4_bound_19 (n := 22) rfl cF_4_28), (j_ic_ge dX4_bound_22 (n := 25) rfl br_22_74), (j_aload_n_0 dX4_bound_25 (n := 26) rfl), (j_iload_6 dX4_bound_26 (n := 28) rfl), (j_iload_n_2 dX4_bound_28 (n := 29) rfl), (j_cv2i (M := mX4_bound) dX4_bound_29 (n := 32) rfl cM_4_32 (Or.inl rfl) lv_X4_bound_X4_inForce rfl (oc := 4) rfl), (j_if_eq dX4_bound_32 (n := 35) rfl br_32_21), (j_aload_n_0 dX4_bound_35 (n := 36) rfl), (j_getf dX4_bound_36 (n := 39) rfl cF_4_24), (j_iload_6 dX4_bound_39 (n := 41) rfl), (j_bald dX4_bound_41 (n := 42) rfl), (j_if_ne dX4_bound_42 (n := 45) rfl br_42_7), (j_iload_n_3 dX4_bound_45 (n := 46) rfl), (j_if_ne dX4_bound_46 (n := 49) rfl br_46_7), (j_iconst dX4_bound_49 (n := 50) rfl ki_1), (j_goto dX4_bound_50 (n := 53) rfl br_50_4), (j_iconst dX4_bound_53 (n := 54) rfl ki_0), (j_istore_7 dX4_bound_54 (n := 56) rfl), (j_iload_7 dX4_bound_56 (n := 58) rfl), (j_if_eq dX4_bound_58 (n := 61) rfl br_58_32), (j_iload_4 dX4_bound_61 (n := 63) rfl), (j_aload_n_0 dX4_bound_63 (n := 64) rfl), (j_getf dX4_bound_64 (n := 67) rfl cF_4_9), (j_iload_6 dX4_bound_67 (n := 69) rfl), (j_iald dX4_bound_69 (n := 70) rfl), (j_cs2i (M := mX4_bound) dX4_bound_70 (n := 73) rfl cM_4_36 (Or.inr rfl) (o := 4) rfl lv_X4_bound_X9_has rfl), (j_if_eq dX4_bound_73 (n := 76) rfl br_73_17), (j_iload_4 dX4_bound_76 (n := 78) rfl), (j_iconst dX4_bound_78 (n := 79) rfl ki_1), (j_aload_n_0 dX4_bound_79 (n := 80) rfl), (j_getf dX4_bound_80 (n := 83) rfl cF_4_15), (j_iload_6 dX4_bound_83 (n := 85) rfl), (j_iald dX4_bound_85 (n := 86) rfl), (j_ishl dX4_bound_86 (n := 87) rfl), (j_ior dX4_bound_87 (n := 88) rfl), (j_istore_4 dX4_bound_88 (n := 90) rfl), (j_iinc_6 dX4_bound_90 (n := 93) rfl ki_1), (j_goto dX4_bound_93 (n := 96) rfl br_93_m77), (j_iinc_5 dX4_bound_96 (n := 99) rfl ki_1), (j_goto dX4_bound_99 (n := 102) rfl br_99_m93), (j_iload_4 dX4_bound_102 (n := 104) rfl), (j_iret dX4_bound_104 (n := 105) rfl), rOk_i (M := mX4_bound) rfl, nl_x, pk_us]
    rw [if_pos (nI_8 (by omega))]
    exact hR _ _ ⟨⟨z, rfl⟩, rfl⟩
  · rintro k hk j hj _ _ ⟨⟨z, rfl⟩, rfl⟩ R R2 hR hR2
    simp only [sw3_c, sw3_n, Nat.reduceEqDiff, not_false_eq_true, Nat.zero_le, Nat.reduceLeDiff, Nat.reduceLT, Nat.reduceAdd, sg_s, ↓kif_0, ↓kif_c, ↓reduceIte, nl_n, nl_i, nl_r, List.length_cons, List.length_nil, true_and, and_true, upA_s, upA_n, upA_u, Prod.mk.injEq, and_self, Fr_59_0, Fr_59_1, Fr_59_4, Fr_59_5, Ld_60, Ld_61, Ld_64, oA_60, oA_61, oC_59, oL_59, oZ_64, (j_iload_n_1 dX4_bound_0 (n := 1) rfl), (j_istore_4 dX4_bound_1 (n := 3) rfl), (j_iconst dX4_bound_3 (n := 4) rfl ki_1), (j_istore_5 dX4_bound_4 (n := 6) rfl), (j_iload_5 dX4_bound_6 (n := 8) rfl), (j_bipush dX4_bound_8 (n := 10) rfl kb_8), (j_ic_ge dX4_bound_10 (n := 13) rfl br_10_92), (j_iconst dX4_bound_13 (n := 14) rfl ki_0), (j_istore_6 dX4_bound_14 (n := 16) rfl), (j_iload_6 dX4_bound_16 (n := 18) rfl), (j_aload_n_0 dX4_bound_18 (n := 19) rfl), (j_getf dX4_bound_19 (n := 22) rfl cF_4_28), (j_ic_ge dX4_bound_22 (n := 25) rfl br_22_74), (j_aload_n_0 dX4_bound_25 (n := 26) rfl), (j_iload_6 dX4_bound_26 (n := 28) rfl), (j_iload_n_2 dX4_bound_28 (n := 29) rfl), (j_cv2i (M := mX4_bound) dX4_bound_29 (n := 32) rfl cM_4_32 (Or.inl rfl) lv_X4_bound_X4_inForce rfl (oc := 4) rfl), (j_if_eq dX4_bound_32 (n := 35) rfl br_32_21), (j_aload_n_0 dX4_bound_35 (n := 36) rfl), (j_getf dX4_bound_36 (n := 39) rfl cF_4_24), (j_iload_6 dX4_bound_39 (n := 41) rfl), (j_bald dX4_bound_41 (n := 42) rfl), (j_if_ne dX4_bound_42 (n := 45) rfl br_42_7), (j_iload_n_3 dX4_bound_45 (n := 46) rfl), (j_if_ne dX4_bound_46 (n := 49) rfl br_46_7), (j_iconst dX4_bound_49 (n := 50) rfl ki_1), (j_goto dX4_bound_50 (n := 53) rfl br_50_4), (j_iconst dX4_bound_53 (n := 54) rfl ki_0), (j_istore_7 dX4_bound_54 (n := 56) rfl), (j_iload_7 dX4_bound_56 (n := 58) rfl), (j_if_eq dX4_bound_58 (n := 61) rfl br_58_32), (j_iload_4 dX4_bound_61 (n := 63) rfl), (j_aload_n_0 dX4_bound_63 (n := 64) rfl), (j_getf dX4_bound_64 (n := 67) rfl cF_4_9), (j_iload_6 dX4_bound_67 (n := 69) rfl), (j_iald dX4_bound_69 (n := 70) rfl), (j_cs2i (M := mX4_bound) dX4_bound_70 (n := 73) rfl cM_4_36 (Or.inr rfl) (o := 4) rfl lv_X4_bound_X9_has rfl), (j_if_eq dX4_bound_73 (n := 76) rfl br_73_17), (j_iload_4 dX4_bound_76 (n := 78) rfl), (j_iconst dX4_bound_78 (n := 79) rfl ki_1), (j_aload_n_0 dX4_bound_79 (n := 80) rfl), (j_getf dX4_bound_80 (n := 83) rfl cF_4_15), (j_iload_6 dX4_bound_83 (n := 85) rfl), (j_iald dX4_bound_85 (n := 86) rfl), (j_ishl dX4_bound_86 (n := 87) rfl), (j_ior dX4_bound_87 (n := 88) rfl), (j_istore_4 dX4_bound_88 (n := 90) rfl), (j_iinc_6 dX4_bound_90 (n := 93) rfl ki_1), (j_goto dX4_bound_93 (n := 96) rfl br_93_m77), (j_iinc_5 dX4_bound_96 (n := 99) rfl ki_1), (j_goto dX4_bound_99 (n := 102) rfl br_99_m93), (j_iload_4 dX4_bound_102 (n := 104) rfl), (j_iret dX4_bound_104 (n := 105) rfl), rOk_i (M := mX4_bound) rfl, nl_x, pk_us, hc, nI_1]
    have hjv : vp_in (nI j) 24 := vp_in_nI (by omega) (by omega)
    rw [if_pos (nI_lt hj (by omega))]
    refine c_inForce _ _ _ _ hjv ?_
    rw [nI_clamp (by omega)]
    simp only [bI_0, decide_eq_false_iff_not]
    have hno : ldB (S 62) (S 63) (S 64) hour so j = false → rdF (S 60) (S 61) (ldB (S 62) (S 63) (S 64) hour so) (j + 1) (itF (S 60) (S 61) (ldB (S 62) (S 63) (S 64) hour so) c x k) = rdF (S 60) (S 61) (ldB (S 62) (S 63) (S 64) hour so) j (itF (S 60) (S 61) (ldB (S 62) (S 63) (S 64) hour so) c x k) := by
      intro q
      rw [rdF]
      unfold stF
      rw [if_neg (fun w => by rw [q] at w; exact Bool.false_ne_true w.1)]
    have hgo : ldB (S 62) (S 63) (S 64) hour so j = true → ∀ w, vp_in (nI j) 24 ∧ CI mX9_has [.int (rdF (S 60) (S 61) (ldB (S 62) (S 63) (S 64) hour so) j (itF (S 60) (S 61) (ldB (S 62) (S 63) (S 64) hour so) c x k)), .int (S 60 j)] S (fun x_1 S_1 => if x_1 = 0 then R [some (.ref (59 : Nat)), some (.int x), some (.int hour), some (.int so), some (.int (rdF (S 60) (S 61) (ldB (S 62) (S 63) (S 64) hour so) j (itF (S 60) (S 61) (ldB (S 62) (S 63) (S 64) hour so) c x k))), some (.int (nI (k + 1))), some (.int (nI (j + 1))), some (.int w)] [] S_1 else vp_in (nI j) 24 ∧ R [some (.ref (59 : Nat)), some (.int x), some (.int hour), some (.int so), some (.int (rdF (S 60) (S 61) (ldB (S 62) (S 63) (S 64) hour so) j (itF (S 60) (S 61) (ldB (S 62) (S 63) (S 64) hour so) c x k) ||| 1 <<< (S_1 61 j &&& 31))), some (.int (nI (k + 1))), some (.int (nI (j + 1))), some (.int w)] [] S_1) := by
      intro q w
      refine ⟨hjv, c_has _ _ _ _ (ite_i (fun q2 => ?_) (fun q2 => ⟨hjv, ?_⟩))⟩
      · rw [bI_0, decide_eq_false_iff_not] at q2
        exact hR _ _ ⟨⟨some w, by rw [rdF]; unfold stF; rw [if_neg (fun z => q2 z.2)]; rfl⟩, rfl⟩
      · rw [bI_0, decide_eq_false_iff_not, Classical.not_not] at q2
        exact hR _ _ ⟨⟨some w, by rw [rdF]; unfold stF; rw [if_pos ⟨q, q2⟩]; rfl⟩, rfl⟩
    refine ite_i (fun q => ?_) (fun q => ⟨hjv, ite_i (fun q2 => ite_i (fun q3 => ?_) (fun q3 => ?_)) (fun q2 => ?_)⟩)
    · have e : ldB (S 62) (S 63) (S 64) hour so j = false := by unfold ldB; exact decide_eq_false (fun z => q ⟨z.1, z.2.1⟩)
      try rw [if_pos rfl]
      exact hR _ _ ⟨⟨some _, by rw [hno e]; rfl⟩, rfl⟩
    · rw [Classical.not_not] at q
      have e : ldB (S 62) (S 63) (S 64) hour so j = true := by unfold ldB; exact decide_eq_true ⟨q.1, q.2, Or.inr q3⟩
      try rw [if_neg (show ¬ (1 : Int32) = 0 by decide)]
      exact hgo e 1
    · have e : ldB (S 62) (S 63) (S 64) hour so j = false := by unfold ldB; exact decide_eq_false (fun z => z.2.2.elim (fun w => w q2) q3)
      try rw [if_pos rfl]
      exact hR _ _ ⟨⟨some _, by rw [hno e]; rfl⟩, rfl⟩
    · rw [Classical.not_not] at q
      have e : ldB (S 62) (S 63) (S 64) hour so j = true := by unfold ldB; exact decide_eq_true ⟨q.1, q.2, Or.inl q2⟩
      try rw [if_neg (show ¬ (1 : Int32) = 0 by decide)]
      exact hgo e 1
  · rintro k hk _ _ ⟨⟨z, rfl⟩, rfl⟩ R R2 hR2
    simp only [sw3_c, sw3_n, Nat.reduceEqDiff, not_false_eq_true, Nat.zero_le, Nat.reduceLeDiff, Nat.reduceLT, Nat.reduceAdd, sg_s, ↓kif_0, ↓kif_c, ↓reduceIte, nl_n, nl_i, nl_r, List.length_cons, List.length_nil, true_and, and_true, upA_s, upA_n, upA_u, Prod.mk.injEq, and_self, Fr_59_0, Fr_59_1, Fr_59_4, Fr_59_5, Ld_60, Ld_61, Ld_64, oA_60, oA_61, oC_59, oL_59, oZ_64, (j_iload_n_1 dX4_bound_0 (n := 1) rfl), (j_istore_4 dX4_bound_1 (n := 3) rfl), (j_iconst dX4_bound_3 (n := 4) rfl ki_1), (j_istore_5 dX4_bound_4 (n := 6) rfl), (j_iload_5 dX4_bound_6 (n := 8) rfl), (j_bipush dX4_bound_8 (n := 10) rfl kb_8), (j_ic_ge dX4_bound_10 (n := 13) rfl br_10_92), (j_iconst dX4_bound_13 (n := 14) rfl ki_0), (j_istore_6 dX4_bound_14 (n := 16) rfl), (j_iload_6 dX4_bound_16 (n := 18) rfl), (j_aload_n_0 dX4_bound_18 (n := 19) rfl), (j_getf dX4_bound_19 (n := 22) rfl cF_4_28), (j_ic_ge dX4_bound_22 (n := 25) rfl br_22_74), (j_aload_n_0 dX4_bound_25 (n := 26) rfl), (j_iload_6 dX4_bound_26 (n := 28) rfl), (j_iload_n_2 dX4_bound_28 (n := 29) rfl), (j_cv2i (M := mX4_bound) dX4_bound_29 (n := 32) rfl cM_4_32 (Or.inl rfl) lv_X4_bound_X4_inForce rfl (oc := 4) rfl), (j_if_eq dX4_bound_32 (n := 35) rfl br_32_21), (j_aload_n_0 dX4_bound_35 (n := 36) rfl), (j_getf dX4_bound_36 (n := 39) rfl cF_4_24), (j_iload_6 dX4_bound_39 (n := 41) rfl), (j_bald dX4_bound_41 (n := 42) rfl), (j_if_ne dX4_bound_42 (n := 45) rfl br_42_7), (j_iload_n_3 dX4_bound_45 (n := 46) rfl), (j_if_ne dX4_bound_46 (n := 49) rfl br_46_7), (j_iconst dX4_bound_49 (n := 50) rfl ki_1), (j_goto dX4_bound_50 (n := 53) rfl br_50_4), (j_iconst dX4_bound_53 (n := 54) rfl ki_0), (j_istore_7 dX4_bound_54 (n := 56) rfl), (j_iload_7 dX4_bound_56 (n := 58) rfl), (j_if_eq dX4_bound_58 (n := 61) rfl br_58_32), (j_iload_4 dX4_bound_61 (n := 63) rfl), (j_aload_n_0 dX4_bound_63 (n := 64) rfl), (j_getf dX4_bound_64 (n := 67) rfl cF_4_9), (j_iload_6 dX4_bound_67 (n := 69) rfl), (j_iald dX4_bound_69 (n := 70) rfl), (j_cs2i (M := mX4_bound) dX4_bound_70 (n := 73) rfl cM_4_36 (Or.inr rfl) (o := 4) rfl lv_X4_bound_X9_has rfl), (j_if_eq dX4_bound_73 (n := 76) rfl br_73_17), (j_iload_4 dX4_bound_76 (n := 78) rfl), (j_iconst dX4_bound_78 (n := 79) rfl ki_1), (j_aload_n_0 dX4_bound_79 (n := 80) rfl), (j_getf dX4_bound_80 (n := 83) rfl cF_4_15), (j_iload_6 dX4_bound_83 (n := 85) rfl), (j_iald dX4_bound_85 (n := 86) rfl), (j_ishl dX4_bound_86 (n := 87) rfl), (j_ior dX4_bound_87 (n := 88) rfl), (j_istore_4 dX4_bound_88 (n := 90) rfl), (j_iinc_6 dX4_bound_90 (n := 93) rfl ki_1), (j_goto dX4_bound_93 (n := 96) rfl br_93_m77), (j_iinc_5 dX4_bound_96 (n := 99) rfl ki_1), (j_goto dX4_bound_99 (n := 102) rfl br_99_m93), (j_iload_4 dX4_bound_102 (n := 104) rfl), (j_iret dX4_bound_104 (n := 105) rfl), rOk_i (M := mX4_bound) rfl, nl_x, pk_us, hc, nI_1]
    rw [if_neg (nI_nlt (a := c) (b := c) (Nat.le_refl _) (by omega))]
    exact hR2 _ _ ⟨⟨some _, z, rfl⟩, rfl⟩
  · rintro _ _ ⟨⟨y, z, rfl⟩, rfl⟩ R R2
    simp only [sw3_c, sw3_n, Nat.reduceEqDiff, not_false_eq_true, Nat.zero_le, Nat.reduceLeDiff, Nat.reduceLT, Nat.reduceAdd, sg_s, ↓kif_0, ↓kif_c, ↓reduceIte, nl_n, nl_i, nl_r, List.length_cons, List.length_nil, true_and, and_true, upA_s, upA_n, upA_u, Prod.mk.injEq, and_self, Fr_59_0, Fr_59_1, Fr_59_4, Fr_59_5, Ld_60, Ld_61, Ld_64, oA_60, oA_61, oC_59, oL_59, oZ_64, (j_iload_n_1 dX4_bound_0 (n := 1) rfl), (j_istore_4 dX4_bound_1 (n := 3) rfl), (j_iconst dX4_bound_3 (n := 4) rfl ki_1), (j_istore_5 dX4_bound_4 (n := 6) rfl), (j_iload_5 dX4_bound_6 (n := 8) rfl), (j_bipush dX4_bound_8 (n := 10) rfl kb_8), (j_ic_ge dX4_bound_10 (n := 13) rfl br_10_92), (j_iconst dX4_bound_13 (n := 14) rfl ki_0), (j_istore_6 dX4_bound_14 (n := 16) rfl), (j_iload_6 dX4_bound_16 (n := 18) rfl), (j_aload_n_0 dX4_bound_18 (n := 19) rfl), (j_getf dX4_bound_19 (n := 22) rfl cF_4_28), (j_ic_ge dX4_bound_22 (n := 25) rfl br_22_74), (j_aload_n_0 dX4_bound_25 (n := 26) rfl), (j_iload_6 dX4_bound_26 (n := 28) rfl), (j_iload_n_2 dX4_bound_28 (n := 29) rfl), (j_cv2i (M := mX4_bound) dX4_bound_29 (n := 32) rfl cM_4_32 (Or.inl rfl) lv_X4_bound_X4_inForce rfl (oc := 4) rfl), (j_if_eq dX4_bound_32 (n := 35) rfl br_32_21), (j_aload_n_0 dX4_bound_35 (n := 36) rfl), (j_getf dX4_bound_36 (n := 39) rfl cF_4_24), (j_iload_6 dX4_bound_39 (n := 41) rfl), (j_bald dX4_bound_41 (n := 42) rfl), (j_if_ne dX4_bound_42 (n := 45) rfl br_42_7), (j_iload_n_3 dX4_bound_45 (n := 46) rfl), (j_if_ne dX4_bound_46 (n := 49) rfl br_46_7), (j_iconst dX4_bound_49 (n := 50) rfl ki_1), (j_goto dX4_bound_50 (n := 53) rfl br_50_4), (j_iconst dX4_bound_53 (n := 54) rfl ki_0), (j_istore_7 dX4_bound_54 (n := 56) rfl), (j_iload_7 dX4_bound_56 (n := 58) rfl), (j_if_eq dX4_bound_58 (n := 61) rfl br_58_32), (j_iload_4 dX4_bound_61 (n := 63) rfl), (j_aload_n_0 dX4_bound_63 (n := 64) rfl), (j_getf dX4_bound_64 (n := 67) rfl cF_4_9), (j_iload_6 dX4_bound_67 (n := 69) rfl), (j_iald dX4_bound_69 (n := 70) rfl), (j_cs2i (M := mX4_bound) dX4_bound_70 (n := 73) rfl cM_4_36 (Or.inr rfl) (o := 4) rfl lv_X4_bound_X9_has rfl), (j_if_eq dX4_bound_73 (n := 76) rfl br_73_17), (j_iload_4 dX4_bound_76 (n := 78) rfl), (j_iconst dX4_bound_78 (n := 79) rfl ki_1), (j_aload_n_0 dX4_bound_79 (n := 80) rfl), (j_getf dX4_bound_80 (n := 83) rfl cF_4_15), (j_iload_6 dX4_bound_83 (n := 85) rfl), (j_iald dX4_bound_85 (n := 86) rfl), (j_ishl dX4_bound_86 (n := 87) rfl), (j_ior dX4_bound_87 (n := 88) rfl), (j_istore_4 dX4_bound_88 (n := 90) rfl), (j_iinc_6 dX4_bound_90 (n := 93) rfl ki_1), (j_goto dX4_bound_93 (n := 96) rfl br_93_m77), (j_iinc_5 dX4_bound_96 (n := 99) rfl ki_1), (j_goto dX4_bound_99 (n := 102) rfl br_99_m93), (j_iload_4 dX4_bound_102 (n := 104) rfl), (j_iret dX4_bound_104 (n := 105) rfl), rOk_i (M := mX4_bound) rfl, nl_x, pk_us]
    rw [if_neg (show ¬ nI (7 + 1) < (8 : Int32) by decide)]
    exact h

theorem or_z (x : Int32) : x ||| 0 = x := Int32.or_zero
set_option maxHeartbeats 4000000 in
theorem c_ledTo (x hour so : Int32) (S : xA) (f : xP) (c : Nat) (hc : S 70 51 = nI c) (hc24 : c ≤ 24) (h : f (itF (S 106) (S 107) (ldB (S 108) (S 109) (S 110) hour so) c x 8) S) : CI mX10_ledTo [.ref (70 : Nat), .int x, .int hour, .int so] S f := by
  refine ci_of (T := mX10_ledTo) (fv := fun _ => True) (ls := [some (.ref (70 : Nat)), some (.int x), some (.int hour), some (.int so), none, none, none, none]) rfl (Nat.le_of_ble_eq_true rfl) (by decide) rfl rfl rfl (ok_f2 cX10_ledTo 10 80 6 16 8 (fun k ls S' => (∃ y z, ls = [some (.ref (70 : Nat)), some (.int x), some (.int hour), some (.int so), some (.int (itF (S 106) (S 107) (ldB (S 108) (S 109) (S 110) hour so) c x k)), some (.int (nI k)), lx y, lx z]) ∧ S = S') (fun _ => c) (fun k j ls S' => (∃ z, ls = [some (.ref (70 : Nat)), some (.int x), some (.int hour), some (.int so), some (.int (rdF (S 106) (S 107) (ldB (S 108) (S 109) (S 110) hour so) j (itF (S 106) (S 107) (ldB (S 108) (S 109) (S 110) hour so) c x k))), some (.int (nI k)), some (.int (nI j)), lx z]) ∧ S = S') rfl rfl ?_ ?_ ?_ ?_ ?_)
  · intro R hR
    simp only [sw3_c, sw3_n, Nat.reduceEqDiff, not_false_eq_true, Nat.zero_le, Nat.reduceLeDiff, Nat.reduceLT, Nat.reduceAdd, sg_s, ↓kif_0, ↓kif_c, ↓reduceIte, nl_n, nl_i, nl_r, List.length_cons, List.length_nil, true_and, and_true, upA_s, upA_n, upA_u, Prod.mk.injEq, and_self, Fr_70_51, Fr_70_52, Fr_70_53, Fr_70_54, Fr_70_55, Fr_70_56, Ld_106, Ld_107, Ld_108, Ld_109, Ld_110, oA_106, oA_107, oA_108, oA_109, oL_70, oZ_110, (j_iload_n_1 dX10_ledTo_0 (n := 1) rfl), (j_istore_4 dX10_ledTo_1 (n := 3) rfl), (j_iconst dX10_ledTo_3 (n := 4) rfl ki_0), (j_istore_5 dX10_ledTo_4 (n := 6) rfl), (j_iload_5 dX10_ledTo_6 (n := 8) rfl), (j_bipush dX10_ledTo_8 (n := 10) rfl kb_8), (j_ic_ge dX10_ledTo_10 (n := 13) rfl br_10_111), (j_iconst dX10_ledTo_13 (n := 14) rfl ki_0), (j_istore_6 dX10_ledTo_14 (n := 16) rfl), (j_iload_6 dX10_ledTo_16 (n := 18) rfl), (j_aload_n_0 dX10_ledTo_18 (n := 19) rfl), (j_getf dX10_ledTo_19 (n := 22) rfl cF_10_346), (j_ic_ge dX10_ledTo_22 (n := 25) rfl br_22_93), (j_iload_n_2 dX10_ledTo_25 (n := 26) rfl), (j_i2l dX10_ledTo_26 (n := 27) rfl), (j_aload_n_0 dX10_ledTo_27 (n := 28) rfl), (j_getf dX10_ledTo_28 (n := 31) rfl cF_10_129), (j_iload_6 dX10_ledTo_31 (n := 33) rfl), (j_iald dX10_ledTo_33 (n := 34) rfl), (j_i2l dX10_ledTo_34 (n := 35) rfl), (j_aload_n_0 dX10_ledTo_35 (n := 36) rfl), (j_getf dX10_ledTo_36 (n := 39) rfl cF_10_132), (j_iload_6 dX10_ledTo_39 (n := 41) rfl), (j_iald dX10_ledTo_41 (n := 42) rfl), (j_i2l dX10_ledTo_42 (n := 43) rfl), (j_cs3i (M := mX10_ledTo) dX10_ledTo_43 (n := 46) rfl cM_10_150 (Or.inl rfl) (o := 10) rfl lv_X10_ledTo_X10_in rfl), (j_if_eq dX10_ledTo_46 (n := 49) rfl br_46_21), (j_aload_n_0 dX10_ledTo_49 (n := 50) rfl), (j_getf dX10_ledTo_50 (n := 53) rfl cF_10_135), (j_iload_6 dX10_ledTo_53 (n := 55) rfl), (j_bald dX10_ledTo_55 (n := 56) rfl), (j_if_ne dX10_ledTo_56 (n := 59) rfl br_56_7), (j_iload_n_3 dX10_ledTo_59 (n := 60) rfl), (j_if_ne dX10_ledTo_60 (n := 63) rfl br_60_7), (j_iconst dX10_ledTo_63 (n := 64) rfl ki_1), (j_goto dX10_ledTo_64 (n := 67) rfl br_64_4), (j_iconst dX10_ledTo_67 (n := 68) rfl ki_0), (j_istore_7 dX10_ledTo_68 (n := 70) rfl), (j_iload_4 dX10_ledTo_70 (n := 72) rfl), (j_iload_7 dX10_ledTo_72 (n := 74) rfl), (j_if_eq dX10_ledTo_74 (n := 77) rfl br_74_31), (j_iload_4 dX10_ledTo_77 (n := 79) rfl), (j_aload_n_0 dX10_ledTo_79 (n := 80) rfl), (j_getf dX10_ledTo_80 (n := 83) rfl cF_10_123), (j_iload_6 dX10_ledTo_83 (n := 85) rfl), (j_iald dX10_ledTo_85 (n := 86) rfl), (j_ishr dX10_ledTo_86 (n := 87) rfl), (j_iconst dX10_ledTo_87 (n := 88) rfl ki_1), (j_iand dX10_ledTo_88 (n := 89) rfl), (j_iconst dX10_ledTo_89 (n := 90) rfl ki_1), (j_ic_ne dX10_ledTo_90 (n := 93) rfl br_90_15), (j_iconst dX10_ledTo_93 (n := 94) rfl ki_1), (j_aload_n_0 dX10_ledTo_94 (n := 95) rfl), (j_getf dX10_ledTo_95 (n := 98) rfl cF_10_126), (j_iload_6 dX10_ledTo_98 (n := 100) rfl), (j_iald dX10_ledTo_100 (n := 101) rfl), (j_ishl dX10_ledTo_101 (n := 102) rfl), (j_goto dX10_ledTo_102 (n := 105) rfl br_102_4), (j_iconst dX10_ledTo_105 (n := 106) rfl ki_0), (j_ior dX10_ledTo_106 (n := 107) rfl), (j_istore_4 dX10_ledTo_107 (n := 109) rfl), (j_iinc_6 dX10_ledTo_109 (n := 112) rfl ki_1), (j_goto dX10_ledTo_112 (n := 115) rfl br_112_m96), (j_iinc_5 dX10_ledTo_115 (n := 118) rfl ki_1), (j_goto dX10_ledTo_118 (n := 121) rfl br_118_m112), (j_iload_4 dX10_ledTo_121 (n := 123) rfl), (j_iret dX10_ledTo_123 (n := 124) rfl), rOk_i (M := mX10_ledTo) rfl, nl_x, pk_us]
    exact hR _ _ ⟨⟨none, none, rfl⟩, rfl⟩
  · rintro k hk _ _ ⟨⟨y, z, rfl⟩, rfl⟩ R R2 hR hR2
    simp only [sw3_c, sw3_n, Nat.reduceEqDiff, not_false_eq_true, Nat.zero_le, Nat.reduceLeDiff, Nat.reduceLT, Nat.reduceAdd, sg_s, ↓kif_0, ↓kif_c, ↓reduceIte, nl_n, nl_i, nl_r, List.length_cons, List.length_nil, true_and, and_true, upA_s, upA_n, upA_u, Prod.mk.injEq, and_self, Fr_70_51, Fr_70_52, Fr_70_53, Fr_70_54, Fr_70_55, Fr_70_56, Ld_106, Ld_107, Ld_108, Ld_109, Ld_110, oA_106, oA_107, oA_108, oA_109, oL_70, oZ_110, (j_iload_n_1 dX10_ledTo_0 (n := 1) rfl), (j_istore_4 dX10_ledTo_1 (n := 3) rfl), (j_iconst dX10_ledTo_3 (n := 4) rfl ki_0), (j_istore_5 dX10_ledTo_4 (n := 6) rfl), (j_iload_5 dX10_ledTo_6 (n := 8) rfl), (j_bipush dX10_ledTo_8 (n := 10) rfl kb_8), (j_ic_ge dX10_ledTo_10 (n := 13) rfl br_10_111), (j_iconst dX10_ledTo_13 (n := 14) rfl ki_0), (j_istore_6 dX10_ledTo_14 (n := 16) rfl), (j_iload_6 dX10_ledTo_16 (n := 18) rfl), (j_aload_n_0 dX10_ledTo_18 (n := 19) rfl), (j_getf dX10_ledTo_19 (n := 22) rfl cF_10_346), (j_ic_ge dX10_ledTo_22 (n := 25) rfl br_22_93), (j_iload_n_2 dX10_ledTo_25 (n := 26) rfl), (j_i2l dX10_ledTo_26 (n := 27) rfl), (j_aload_n_0 dX10_ledTo_27 (n := 28) rfl), (j_getf dX10_ledTo_28 (n := 31) rfl cF_10_129), (j_iload_6 dX10_ledTo_31 (n := 33) rfl), (j_iald dX10_ledTo_33 (n := 34) rfl), (j_i2l dX10_ledTo_34 (n := 35) rfl), (j_aload_n_0 dX10_ledTo_35 (n := 36) rfl), (j_getf dX10_ledTo_36 (n := 39) rfl cF_10_132), (j_iload_6 dX10_ledTo_39 (n := 41) rfl), (j_iald dX10_ledTo_41 (n := 42) rfl), (j_i2l dX10_ledTo_42 (n := 43) rfl), (j_cs3i (M := mX10_ledTo) dX10_ledTo_43 (n := 46) rfl cM_10_150 (Or.inl rfl) (o := 10) rfl lv_X10_ledTo_X10_in rfl), (j_if_eq dX10_ledTo_46 (n := 49) rfl br_46_21), (j_aload_n_0 dX10_ledTo_49 (n := 50) rfl), (j_getf dX10_ledTo_50 (n := 53) rfl cF_10_135), (j_iload_6 dX10_ledTo_53 (n := 55) rfl), (j_bald dX10_ledTo_55 (n := 56) rfl), (j_if_ne dX10_ledTo_56 (n := 59) rfl br_56_7), (j_iload_n_3 dX10_ledTo_59 (n := 60) rfl), (j_if_ne dX10_ledTo_60 (n := 63) rfl br_60_7), (j_iconst dX10_ledTo_63 (n := 64) rfl ki_1), (j_goto dX10_ledTo_64 (n := 67) rfl br_64_4), (j_iconst dX10_ledTo_67 (n := 68) rfl ki_0), (j_istore_7 dX10_ledTo_68 (n := 70) rfl), (j_iload_4 dX10_ledTo_70 (n := 72) rfl), (j_iload_7 dX10_ledTo_72 (n := 74) rfl), (j_if_eq dX10_ledTo_74 (n := 77) rfl br_74_31), (j_iload_4 dX10_ledTo_77 (n := 79) rfl), (j_aload_n_0 dX10_ledTo_79 (n := 80) rfl), (j_getf dX10_ledTo_80 (n := 83) rfl cF_10_123), (j_iload_6 dX10_ledTo_83 (n := 85) rfl), (j_iald dX10_ledTo_85 (n := 86) rfl), (j_ishr dX10_ledTo_86 (n := 87) rfl), (j_iconst dX10_ledTo_87 (n := 88) rfl ki_1), (j_iand dX10_ledTo_88 (n := 89) rfl), (j_iconst dX10_ledTo_89 (n := 90) rfl ki_1), (j_ic_ne dX10_ledTo_90 (n := 93) rfl br_90_15), (j_iconst dX10_ledTo_93 (n := 94) rfl ki_1), (j_aload_n_0 dX10_ledTo_94 (n := 95) rfl), (j_getf dX10_ledTo_95 (n := 98) rfl cF_10_126), (j_iload_6 dX10_ledTo_98 (n := 100) rfl), (j_iald dX10_ledTo_100 (n := 101) rfl), (j_ishl dX10_ledTo_101 (n := 102) rfl), (j_goto dX10_ledTo_102 (n := 105) rfl br_102_4), (j_iconst dX10_ledTo_105 (n := 106) rfl ki_0), (j_ior dX10_ledTo_106 (n := 107) rfl), (j_istore_4 dX10_ledTo_107 (n := 109) rfl), (j_iinc_6 dX10_ledTo_109 (n := 112) rfl ki_1), (j_goto dX10_ledTo_112 (n := 115) rfl br_112_m96), (j_iinc_5 dX10_ledTo_115 (n := 118) rfl ki_1), (j_goto dX10_ledTo_118 (n := 121) rfl br_118_m112), (j_iload_4 dX10_ledTo_121 (n := 123) rfl), (j_iret dX10_ledTo_123 (n := 124) rfl), rOk_i (M := mX10_ledTo) rfl, nl_x, pk_us]
    rw [if_pos (nI_8 (by omega))]
    exact hR _ _ ⟨⟨z, rfl⟩, rfl⟩
  · rintro k hk j hj _ _ ⟨⟨z, rfl⟩, rfl⟩ R R2 hR hR2
    simp only [sw3_c, sw3_n, Nat.reduceEqDiff, not_false_eq_true, Nat.zero_le, Nat.reduceLeDiff, Nat.reduceLT, Nat.reduceAdd, sg_s, ↓kif_0, ↓kif_c, ↓reduceIte, nl_n, nl_i, nl_r, List.length_cons, List.length_nil, true_and, and_true, upA_s, upA_n, upA_u, Prod.mk.injEq, and_self, Fr_70_51, Fr_70_52, Fr_70_53, Fr_70_54, Fr_70_55, Fr_70_56, Ld_106, Ld_107, Ld_108, Ld_109, Ld_110, oA_106, oA_107, oA_108, oA_109, oL_70, oZ_110, (j_iload_n_1 dX10_ledTo_0 (n := 1) rfl), (j_istore_4 dX10_ledTo_1 (n := 3) rfl), (j_iconst dX10_ledTo_3 (n := 4) rfl ki_0), (j_istore_5 dX10_ledTo_4 (n := 6) rfl), (j_iload_5 dX10_ledTo_6 (n := 8) rfl), (j_bipush dX10_ledTo_8 (n := 10) rfl kb_8), (j_ic_ge dX10_ledTo_10 (n := 13) rfl br_10_111), (j_iconst dX10_ledTo_13 (n := 14) rfl ki_0), (j_istore_6 dX10_ledTo_14 (n := 16) rfl), (j_iload_6 dX10_ledTo_16 (n := 18) rfl), (j_aload_n_0 dX10_ledTo_18 (n := 19) rfl), (j_getf dX10_ledTo_19 (n := 22) rfl cF_10_346), (j_ic_ge dX10_ledTo_22 (n := 25) rfl br_22_93), (j_iload_n_2 dX10_ledTo_25 (n := 26) rfl), (j_i2l dX10_ledTo_26 (n := 27) rfl), (j_aload_n_0 dX10_ledTo_27 (n := 28) rfl), (j_getf dX10_ledTo_28 (n := 31) rfl cF_10_129), (j_iload_6 dX10_ledTo_31 (n := 33) rfl), (j_iald dX10_ledTo_33 (n := 34) rfl), (j_i2l dX10_ledTo_34 (n := 35) rfl), (j_aload_n_0 dX10_ledTo_35 (n := 36) rfl), (j_getf dX10_ledTo_36 (n := 39) rfl cF_10_132), (j_iload_6 dX10_ledTo_39 (n := 41) rfl), (j_iald dX10_ledTo_41 (n := 42) rfl), (j_i2l dX10_ledTo_42 (n := 43) rfl), (j_cs3i (M := mX10_ledTo) dX10_ledTo_43 (n := 46) rfl cM_10_150 (Or.inl rfl) (o := 10) rfl lv_X10_ledTo_X10_in rfl), (j_if_eq dX10_ledTo_46 (n := 49) rfl br_46_21), (j_aload_n_0 dX10_ledTo_49 (n := 50) rfl), (j_getf dX10_ledTo_50 (n := 53) rfl cF_10_135), (j_iload_6 dX10_ledTo_53 (n := 55) rfl), (j_bald dX10_ledTo_55 (n := 56) rfl), (j_if_ne dX10_ledTo_56 (n := 59) rfl br_56_7), (j_iload_n_3 dX10_ledTo_59 (n := 60) rfl), (j_if_ne dX10_ledTo_60 (n := 63) rfl br_60_7), (j_iconst dX10_ledTo_63 (n := 64) rfl ki_1), (j_goto dX10_ledTo_64 (n := 67) rfl br_64_4), (j_iconst dX10_ledTo_67 (n := 68) rfl ki_0), (j_istore_7 dX10_ledTo_68 (n := 70) rfl), (j_iload_4 dX10_ledTo_70 (n := 72) rfl), (j_iload_7 dX10_ledTo_72 (n := 74) rfl), (j_if_eq dX10_ledTo_74 (n := 77) rfl br_74_31), (j_iload_4 dX10_ledTo_77 (n := 79) rfl), (j_aload_n_0 dX10_ledTo_79 (n := 80) rfl), (j_getf dX10_ledTo_80 (n := 83) rfl cF_10_123), (j_iload_6 dX10_ledTo_83 (n := 85) rfl), (j_iald dX10_ledTo_85 (n := 86) rfl), (j_ishr dX10_ledTo_86 (n := 87) rfl), (j_iconst dX10_ledTo_87 (n := 88) rfl ki_1), (j_iand dX10_ledTo_88 (n := 89) rfl), (j_iconst dX10_ledTo_89 (n := 90) rfl ki_1), (j_ic_ne dX10_ledTo_90 (n := 93) rfl br_90_15), (j_iconst dX10_ledTo_93 (n := 94) rfl ki_1), (j_aload_n_0 dX10_ledTo_94 (n := 95) rfl), (j_getf dX10_ledTo_95 (n := 98) rfl cF_10_126), (j_iload_6 dX10_ledTo_98 (n := 100) rfl), (j_iald dX10_ledTo_100 (n := 101) rfl), (j_ishl dX10_ledTo_101 (n := 102) rfl), (j_goto dX10_ledTo_102 (n := 105) rfl br_102_4), (j_iconst dX10_ledTo_105 (n := 106) rfl ki_0), (j_ior dX10_ledTo_106 (n := 107) rfl), (j_istore_4 dX10_ledTo_107 (n := 109) rfl), (j_iinc_6 dX10_ledTo_109 (n := 112) rfl ki_1), (j_goto dX10_ledTo_112 (n := 115) rfl br_112_m96), (j_iinc_5 dX10_ledTo_115 (n := 118) rfl ki_1), (j_goto dX10_ledTo_118 (n := 121) rfl br_118_m112), (j_iload_4 dX10_ledTo_121 (n := 123) rfl), (j_iret dX10_ledTo_123 (n := 124) rfl), rOk_i (M := mX10_ledTo) rfl, nl_x, pk_us, hc, nI_1]
    have hjv : vp_in (nI j) 24 := vp_in_nI (by omega) (by omega)
    rw [if_pos (nI_lt hj (by omega)), nI_clamp (by omega)]
    refine ⟨hjv, hjv, c_in _ _ _ _ _ ?_⟩
    simp only [bI_0, decide_eq_false_iff_not, wid_I]
    have hno : ldB (S 108) (S 109) (S 110) hour so j = false → rdF (S 106) (S 107) (ldB (S 108) (S 109) (S 110) hour so) (j + 1) (itF (S 106) (S 107) (ldB (S 108) (S 109) (S 110) hour so) c x k) = rdF (S 106) (S 107) (ldB (S 108) (S 109) (S 110) hour so) j (itF (S 106) (S 107) (ldB (S 108) (S 109) (S 110) hour so) c x k) := by
      intro q
      rw [rdF]
      unfold stF
      rw [if_neg (fun w => by rw [q] at w; exact Bool.false_ne_true w.1)]
    have hno2 : ¬ (rdF (S 106) (S 107) (ldB (S 108) (S 109) (S 110) hour so) j (itF (S 106) (S 107) (ldB (S 108) (S 109) (S 110) hour so) c x k) >>> (S 106 j &&& 31)) &&& 1 = 1 → rdF (S 106) (S 107) (ldB (S 108) (S 109) (S 110) hour so) (j + 1) (itF (S 106) (S 107) (ldB (S 108) (S 109) (S 110) hour so) c x k) = rdF (S 106) (S 107) (ldB (S 108) (S 109) (S 110) hour so) j (itF (S 106) (S 107) (ldB (S 108) (S 109) (S 110) hour so) c x k) := by
      intro q
      rw [rdF]
      unfold stF
      rw [if_neg (fun w => q w.2)]
    have hys : ldB (S 108) (S 109) (S 110) hour so j = true → (rdF (S 106) (S 107) (ldB (S 108) (S 109) (S 110) hour so) j (itF (S 106) (S 107) (ldB (S 108) (S 109) (S 110) hour so) c x k) >>> (S 106 j &&& 31)) &&& 1 = 1 → rdF (S 106) (S 107) (ldB (S 108) (S 109) (S 110) hour so) (j + 1) (itF (S 106) (S 107) (ldB (S 108) (S 109) (S 110) hour so) c x k) = rdF (S 106) (S 107) (ldB (S 108) (S 109) (S 110) hour so) j (itF (S 106) (S 107) (ldB (S 108) (S 109) (S 110) hour so) c x k) ||| 1 <<< (S 107 j &&& 31) := by
      intro q q2
      rw [rdF]
      unfold stF
      rw [if_pos ⟨q, q2⟩]
    refine ite_i (fun q => ?_) (fun q => ⟨hjv, ite_i (fun q2 => ite_i (fun q3 => ?_) (fun q3 => ?_)) (fun q2 => ?_)⟩)
    · have e : ldB (S 108) (S 109) (S 110) hour so j = false := by unfold ldB; exact decide_eq_false (fun z => q ⟨z.1, z.2.1⟩)
      try rw [if_pos rfl]
      exact hR _ _ ⟨⟨some _, by rw [hno e, or_z]; rfl⟩, rfl⟩
    · rw [Classical.not_not] at q
      have e : ldB (S 108) (S 109) (S 110) hour so j = true := by unfold ldB; exact decide_eq_true ⟨q.1, q.2, Or.inr q3⟩
      try rw [if_neg (show ¬ (1 : Int32) = 0 by decide)]
      refine ⟨hjv, ite_i (fun q4 => ⟨hjv, ?_⟩) (fun q4 => ?_)⟩
      · exact hR _ _ ⟨⟨some _, by rw [hys e q4]; rfl⟩, rfl⟩
      · exact hR _ _ ⟨⟨some _, by rw [hno2 q4, or_z]; rfl⟩, rfl⟩
    · have e : ldB (S 108) (S 109) (S 110) hour so j = false := by unfold ldB; exact decide_eq_false (fun z => z.2.2.elim (fun w => w q2) q3)
      try rw [if_pos rfl]
      exact hR _ _ ⟨⟨some _, by rw [hno e, or_z]; rfl⟩, rfl⟩
    · rw [Classical.not_not] at q
      have e : ldB (S 108) (S 109) (S 110) hour so j = true := by unfold ldB; exact decide_eq_true ⟨q.1, q.2, Or.inl q2⟩
      try rw [if_neg (show ¬ (1 : Int32) = 0 by decide)]
      refine ⟨hjv, ite_i (fun q4 => ⟨hjv, ?_⟩) (fun q4 => ?_)⟩
      · exact hR _ _ ⟨⟨some _, by rw [hys e q4]; rfl⟩, rfl⟩
      · exact hR _ _ ⟨⟨some _, by rw [hno2 q4, or_z]; rfl⟩, rfl⟩
  · rintro k hk _ _ ⟨⟨z, rfl⟩, rfl⟩ R R2 hR2
    simp only [sw3_c, sw3_n, Nat.reduceEqDiff, not_false_eq_true, Nat.zero_le, Nat.reduceLeDiff, Nat.reduceLT, Nat.reduceAdd, sg_s, ↓kif_0, ↓kif_c, ↓reduceIte, nl_n, nl_i, nl_r, List.length_cons, List.length_nil, true_and, and_true, upA_s, upA_n, upA_u, Prod.mk.injEq, and_self, Fr_70_51, Fr_70_52, Fr_70_53, Fr_70_54, Fr_70_55, Fr_70_56, Ld_106, Ld_107, Ld_108, Ld_109, Ld_110, oA_106, oA_107, oA_108, oA_109, oL_70, oZ_110, (j_iload_n_1 dX10_ledTo_0 (n := 1) rfl), (j_istore_4 dX10_ledTo_1 (n := 3) rfl), (j_iconst dX10_ledTo_3 (n := 4) rfl ki_0), (j_istore_5 dX10_ledTo_4 (n := 6) rfl), (j_iload_5 dX10_ledTo_6 (n := 8) rfl), (j_bipush dX10_ledTo_8 (n := 10) rfl kb_8), (j_ic_ge dX10_ledTo_10 (n := 13) rfl br_10_111), (j_iconst dX10_ledTo_13 (n := 14) rfl ki_0), (j_istore_6 dX10_ledTo_14 (n := 16) rfl), (j_iload_6 dX10_ledTo_16 (n := 18) rfl), (j_aload_n_0 dX10_ledTo_18 (n := 19) rfl), (j_getf dX10_ledTo_19 (n := 22) rfl cF_10_346), (j_ic_ge dX10_ledTo_22 (n := 25) rfl br_22_93), (j_iload_n_2 dX10_ledTo_25 (n := 26) rfl), (j_i2l dX10_ledTo_26 (n := 27) rfl), (j_aload_n_0 dX10_ledTo_27 (n := 28) rfl), (j_getf dX10_ledTo_28 (n := 31) rfl cF_10_129), (j_iload_6 dX10_ledTo_31 (n := 33) rfl), (j_iald dX10_ledTo_33 (n := 34) rfl), (j_i2l dX10_ledTo_34 (n := 35) rfl), (j_aload_n_0 dX10_ledTo_35 (n := 36) rfl), (j_getf dX10_ledTo_36 (n := 39) rfl cF_10_132), (j_iload_6 dX10_ledTo_39 (n := 41) rfl), (j_iald dX10_ledTo_41 (n := 42) rfl), (j_i2l dX10_ledTo_42 (n := 43) rfl), (j_cs3i (M := mX10_ledTo) dX10_ledTo_43 (n := 46) rfl cM_10_150 (Or.inl rfl) (o := 10) rfl lv_X10_ledTo_X10_in rfl), (j_if_eq dX10_ledTo_46 (n := 49) rfl br_46_21), (j_aload_n_0 dX10_ledTo_49 (n := 50) rfl), (j_getf dX10_ledTo_50 (n := 53) rfl cF_10_135), (j_iload_6 dX10_ledTo_53 (n := 55) rfl), (j_bald dX10_ledTo_55 (n := 56) rfl), (j_if_ne dX10_ledTo_56 (n := 59) rfl br_56_7), (j_iload_n_3 dX10_ledTo_59 (n := 60) rfl), (j_if_ne dX10_ledTo_60 (n := 63) rfl br_60_7), (j_iconst dX10_ledTo_63 (n := 64) rfl ki_1), (j_goto dX10_ledTo_64 (n := 67) rfl br_64_4), (j_iconst dX10_ledTo_67 (n := 68) rfl ki_0), (j_istore_7 dX10_ledTo_68 (n := 70) rfl), (j_iload_4 dX10_ledTo_70 (n := 72) rfl), (j_iload_7 dX10_ledTo_72 (n := 74) rfl), (j_if_eq dX10_ledTo_74 (n := 77) rfl br_74_31), (j_iload_4 dX10_ledTo_77 (n := 79) rfl), (j_aload_n_0 dX10_ledTo_79 (n := 80) rfl), (j_getf dX10_ledTo_80 (n := 83) rfl cF_10_123), (j_iload_6 dX10_ledTo_83 (n := 85) rfl), (j_iald dX10_ledTo_85 (n := 86) rfl), (j_ishr dX10_ledTo_86 (n := 87) rfl), (j_iconst dX10_ledTo_87 (n := 88) rfl ki_1), (j_iand dX10_ledTo_88 (n := 89) rfl), (j_iconst dX10_ledTo_89 (n := 90) rfl ki_1), (j_ic_ne dX10_ledTo_90 (n := 93) rfl br_90_15), (j_iconst dX10_ledTo_93 (n := 94) rfl ki_1), (j_aload_n_0 dX10_ledTo_94 (n := 95) rfl), (j_getf dX10_ledTo_95 (n := 98) rfl cF_10_126), (j_iload_6 dX10_ledTo_98 (n := 100) rfl), (j_iald dX10_ledTo_100 (n := 101) rfl), (j_ishl dX10_ledTo_101 (n := 102) rfl), (j_goto dX10_ledTo_102 (n := 105) rfl br_102_4), (j_iconst dX10_ledTo_105 (n := 106) rfl ki_0), (j_ior dX10_ledTo_106 (n := 107) rfl), (j_istore_4 dX10_ledTo_107 (n := 109) rfl), (j_iinc_6 dX10_ledTo_109 (n := 112) rfl ki_1), (j_goto dX10_ledTo_112 (n := 115) rfl br_112_m96), (j_iinc_5 dX10_ledTo_115 (n := 118) rfl ki_1), (j_goto dX10_ledTo_118 (n := 121) rfl br_118_m112), (j_iload_4 dX10_ledTo_121 (n := 123) rfl), (j_iret dX10_ledTo_123 (n := 124) rfl), rOk_i (M := mX10_ledTo) rfl, nl_x, pk_us, hc, nI_1]
    rw [if_neg (nI_nlt (a := c) (b := c) (Nat.le_refl _) (by omega))]
    exact hR2 _ _ ⟨⟨some _, z, rfl⟩, rfl⟩
  · rintro _ _ ⟨⟨y, z, rfl⟩, rfl⟩ R R2
    simp only [sw3_c, sw3_n, Nat.reduceEqDiff, not_false_eq_true, Nat.zero_le, Nat.reduceLeDiff, Nat.reduceLT, Nat.reduceAdd, sg_s, ↓kif_0, ↓kif_c, ↓reduceIte, nl_n, nl_i, nl_r, List.length_cons, List.length_nil, true_and, and_true, upA_s, upA_n, upA_u, Prod.mk.injEq, and_self, Fr_70_51, Fr_70_52, Fr_70_53, Fr_70_54, Fr_70_55, Fr_70_56, Ld_106, Ld_107, Ld_108, Ld_109, Ld_110, oA_106, oA_107, oA_108, oA_109, oL_70, oZ_110, (j_iload_n_1 dX10_ledTo_0 (n := 1) rfl), (j_istore_4 dX10_ledTo_1 (n := 3) rfl), (j_iconst dX10_ledTo_3 (n := 4) rfl ki_0), (j_istore_5 dX10_ledTo_4 (n := 6) rfl), (j_iload_5 dX10_ledTo_6 (n := 8) rfl), (j_bipush dX10_ledTo_8 (n := 10) rfl kb_8), (j_ic_ge dX10_ledTo_10 (n := 13) rfl br_10_111), (j_iconst dX10_ledTo_13 (n := 14) rfl ki_0), (j_istore_6 dX10_ledTo_14 (n := 16) rfl), (j_iload_6 dX10_ledTo_16 (n := 18) rfl), (j_aload_n_0 dX10_ledTo_18 (n := 19) rfl), (j_getf dX10_ledTo_19 (n := 22) rfl cF_10_346), (j_ic_ge dX10_ledTo_22 (n := 25) rfl br_22_93), (j_iload_n_2 dX10_ledTo_25 (n := 26) rfl), (j_i2l dX10_ledTo_26 (n := 27) rfl), (j_aload_n_0 dX10_ledTo_27 (n := 28) rfl), (j_getf dX10_ledTo_28 (n := 31) rfl cF_10_129), (j_iload_6 dX10_ledTo_31 (n := 33) rfl), (j_iald dX10_ledTo_33 (n := 34) rfl), (j_i2l dX10_ledTo_34 (n := 35) rfl), (j_aload_n_0 dX10_ledTo_35 (n := 36) rfl), (j_getf dX10_ledTo_36 (n := 39) rfl cF_10_132), (j_iload_6 dX10_ledTo_39 (n := 41) rfl), (j_iald dX10_ledTo_41 (n := 42) rfl), (j_i2l dX10_ledTo_42 (n := 43) rfl), (j_cs3i (M := mX10_ledTo) dX10_ledTo_43 (n := 46) rfl cM_10_150 (Or.inl rfl) (o := 10) rfl lv_X10_ledTo_X10_in rfl), (j_if_eq dX10_ledTo_46 (n := 49) rfl br_46_21), (j_aload_n_0 dX10_ledTo_49 (n := 50) rfl), (j_getf dX10_ledTo_50 (n := 53) rfl cF_10_135), (j_iload_6 dX10_ledTo_53 (n := 55) rfl), (j_bald dX10_ledTo_55 (n := 56) rfl), (j_if_ne dX10_ledTo_56 (n := 59) rfl br_56_7), (j_iload_n_3 dX10_ledTo_59 (n := 60) rfl), (j_if_ne dX10_ledTo_60 (n := 63) rfl br_60_7), (j_iconst dX10_ledTo_63 (n := 64) rfl ki_1), (j_goto dX10_ledTo_64 (n := 67) rfl br_64_4), (j_iconst dX10_ledTo_67 (n := 68) rfl ki_0), (j_istore_7 dX10_ledTo_68 (n := 70) rfl), (j_iload_4 dX10_ledTo_70 (n := 72) rfl), (j_iload_7 dX10_ledTo_72 (n := 74) rfl), (j_if_eq dX10_ledTo_74 (n := 77) rfl br_74_31), (j_iload_4 dX10_ledTo_77 (n := 79) rfl), (j_aload_n_0 dX10_ledTo_79 (n := 80) rfl), (j_getf dX10_ledTo_80 (n := 83) rfl cF_10_123), (j_iload_6 dX10_ledTo_83 (n := 85) rfl), (j_iald dX10_ledTo_85 (n := 86) rfl), (j_ishr dX10_ledTo_86 (n := 87) rfl), (j_iconst dX10_ledTo_87 (n := 88) rfl ki_1), (j_iand dX10_ledTo_88 (n := 89) rfl), (j_iconst dX10_ledTo_89 (n := 90) rfl ki_1), (j_ic_ne dX10_ledTo_90 (n := 93) rfl br_90_15), (j_iconst dX10_ledTo_93 (n := 94) rfl ki_1), (j_aload_n_0 dX10_ledTo_94 (n := 95) rfl), (j_getf dX10_ledTo_95 (n := 98) rfl cF_10_126), (j_iload_6 dX10_ledTo_98 (n := 100) rfl), (j_iald dX10_ledTo_100 (n := 101) rfl), (j_ishl dX10_ledTo_101 (n := 102) rfl), (j_goto dX10_ledTo_102 (n := 105) rfl br_102_4), (j_iconst dX10_ledTo_105 (n := 106) rfl ki_0), (j_ior dX10_ledTo_106 (n := 107) rfl), (j_istore_4 dX10_ledTo_107 (n := 109) rfl), (j_iinc_6 dX10_ledTo_109 (n := 112) rfl ki_1), (j_goto dX10_ledTo_112 (n := 115) rfl br_112_m96), (j_iinc_5 dX10_ledTo_115 (n := 118) rfl ki_1), (j_goto dX10_ledTo_118 (n := 121) rfl br_118_m112), (j_iload_4 dX10_ledTo_121 (n := 123) rfl), (j_iret dX10_ledTo_123 (n := 124) rfl), rOk_i (M := mX10_ledTo) rfl, nl_x, pk_us]
    rw [if_neg (show ¬ nI 8 < (8 : Int32) by decide)]
    exact h
theorem has_01 {s : Int32} {k : Nat} (hk : k < 32) : (s >>> (nI k &&& 31)) &&& 1 = bI (bt s k) := by
  cases e : bt s k with
  | true => rw [bI_t]; exact (has_bt hk).mpr e
  | false =>
    rw [bI_f]
    apply b_ext
    intro i hi
    rw [b_and, b_1 i hi, b_0, b_sshr k hk s hi]
    by_cases h0 : i = 0
    · subst h0; rw [if_pos (by omega), Nat.add_zero, e]; rfl
    · rw [decide_eq_false h0, Bool.and_false]
set_option maxHeartbeats 4000000 in
theorem t_binds (S : xA) (hI : Inv S) (x hour b : Int32) : Both mX9_binds mX10_binds [.int x, .int hour, .int b] S := by
  obtain ⟨i1, i2, i3, i4, i5, i6, i7, i8, i9, i10, i11, i12, i13, i14, i15, i16, i17, i18, i19, i20, i21, i22, i23⟩ := id hI
  obtain ⟨j0, j1, j2, j3, j4, j5⟩ := id i22
  obtain ⟨c1, c2, c3⟩ := JN_c j0
  have c4 : (S 59 5).toNatClampNeg ≤ 24 := by omega
  have rA : R8 (S 59 5).toNatClampNeg (S 60) := fun v hv => ⟨(S 60 v).toNatClampNeg, by have := j1 v hv; have := cl_eq (j1 v hv).2.1; omega, (nI_cl (j1 v hv).2.1).symm⟩
  have rB : R8 (S 59 5).toNatClampNeg (S 61) := fun v hv => ⟨(S 61 v).toNatClampNeg, by have := j2 v hv; have := cl_eq (j2 v hv).2.1; omega, (nI_cl (j2 v hv).2.1).symm⟩
  have ev : ∀ (so : Int32), (0 ≤ x.toInt ∧ x.toInt ≤ 255) → itF (S 106) (S 107) (ldB (S 108) (S 109) (S 110) hour so) (S 59 5).toNatClampNeg x 8 = itF (S 60) (S 61) (ldB (S 62) (S 63) (S 64) hour so) (S 59 5).toNatClampNeg x 7 := by
    intro so hx
    rw [← it_87 rA rB hx]
    refine itF_eq (fun v hv => ⟨(j1 v hv).1.symm, (j2 v hv).1.symm, ?_⟩) 8
    unfold ldB
    rw [j3 v hv, j4 v hv, (j5 v hv).1]
  have hbad : ¬ ((0 ≤ x.toInt ∧ x.toInt ≤ 255) ∧ (0 ≤ hour.toInt ∧ hour.toInt ≤ 240) ∧ (0 ≤ b.toInt ∧ b.toInt ≤ 7)) → g2 mX10_binds [.int x, .int hour, .int b] (-1002) S := by
    intro hb
    show CI mX10_binds _ _ _
    refine ci_of (T := mX10_binds) (fv := fun _ => True) (ls := [some (.ref (70 : Nat)), some (.int x), some (.int hour), some (.int b)]) rfl (Nat.le_of_ble_eq_true rfl) (by decide) rfl rfl rfl (ok2_0 cX10_binds 10 60 rfl rfl ?_)
    simp only [sw3_c, sw3_n, Nat.reduceEqDiff, not_false_eq_true, Nat.zero_le, Nat.reduceLeDiff, Nat.reduceLT, Nat.reduceAdd, sg_s, ↓kif_0, ↓kif_c, ↓reduceIte, nl_n, nl_i, nl_r, List.length_cons, List.length_nil, true_and, and_true, upA_s, upA_n, upA_u, Prod.mk.injEq, and_self, oC_70, (j_iload_n_1 dX10_binds_0 (n := 1) rfl), (j_i2l dX10_binds_1 (n := 2) rfl), (j_lconst dX10_binds_2 (n := 3) rfl (v := 0) (by decide)), (j_ldc2 dX10_binds_3 (n := 6) rfl cJ_10_228), (j_cs3i (M := mX10_binds) dX10_binds_6 (n := 9) rfl cM_10_150 (Or.inl rfl) (o := 10) rfl lv_X10_binds_X10_in rfl), (j_if_eq dX10_binds_9 (n := 12) rfl br_9_22), (j_iload_n_2 dX10_binds_12 (n := 13) rfl), (j_cs1i (M := mX10_binds) dX10_binds_13 (n := 16) rfl cM_10_218 (Or.inl rfl) (o := 10) rfl lv_X10_binds_X10_isHour rfl), (j_if_eq dX10_binds_16 (n := 19) rfl br_16_15), (j_iload_n_3 dX10_binds_19 (n := 20) rfl), (j_i2l dX10_binds_20 (n := 21) rfl), (j_lconst dX10_binds_21 (n := 22) rfl (v := 0) (by decide)), (j_ldc2 dX10_binds_22 (n := 25) rfl cJ_10_148), (j_cs3i (M := mX10_binds) dX10_binds_25 (n := 28) rfl cM_10_150 (Or.inl rfl) (o := 10) rfl lv_X10_binds_X10_in rfl), (j_if_ne dX10_binds_28 (n := 31) rfl br_28_7), (j_sipush dX10_binds_31 (n := 34) rfl ks_m1002), (j_iret dX10_binds_34 (n := 35) rfl), (j_aload_n_0 dX10_binds_35 (n := 36) rfl), (j_iload_n_1 dX10_binds_36 (n := 37) rfl), (j_iload_n_2 dX10_binds_37 (n := 38) rfl), (j_iconst dX10_binds_38 (n := 39) rfl ki_1), (j_cv3i (M := mX10_binds) dX10_binds_39 (n := 42) rfl cM_10_349 (Or.inl rfl) lv_X10_binds_X10_ledTo rfl (oc := 10) rfl), (j_iload_n_3 dX10_binds_42 (n := 43) rfl), (j_ishr dX10_binds_43 (n := 44) rfl), (j_iconst dX10_binds_44 (n := 45) rfl ki_1), (j_iand dX10_binds_45 (n := 46) rfl), (j_iconst dX10_binds_46 (n := 47) rfl ki_1), (j_ic_ne dX10_binds_47 (n := 50) rfl br_47_7), (j_iconst dX10_binds_50 (n := 51) rfl ki_2), (j_goto dX10_binds_51 (n := 54) rfl br_51_14), (j_aload_n_0 dX10_binds_54 (n := 55) rfl), (j_iload_n_1 dX10_binds_55 (n := 56) rfl), (j_iload_n_2 dX10_binds_56 (n := 57) rfl), (j_iconst dX10_binds_57 (n := 58) rfl ki_0), (j_cv3i (M := mX10_binds) dX10_binds_58 (n := 61) rfl cM_10_349 (Or.inl rfl) lv_X10_binds_X10_ledTo rfl (oc := 10) rfl), (j_iload_n_3 dX10_binds_61 (n := 62) rfl), (j_ishr dX10_binds_62 (n := 63) rfl), (j_iconst dX10_binds_63 (n := 64) rfl ki_1), (j_iand dX10_binds_64 (n := 65) rfl), (j_iret dX10_binds_65 (n := 66) rfl), rOk_i (M := mX10_binds) rfl]
    repeat' (first | (with_reducible refine c_isTown _ _ _ ?_) | (with_reducible refine c_isUnion _ _ _ ?_) | (with_reducible refine c_isGood _ _ _ ?_) | (with_reducible refine c_isHour _ _ _ ?_) | (with_reducible refine c_in _ _ _ _ _ ?_) | (with_reducible refine c_one _ _ _ ?_) | (with_reducible refine c_least _ _ _ _ ?_) | (with_reducible refine c_isGame _ _ _ _ ?_) | (with_reducible refine ite_i (fun _ => ?_) (fun _ => ?_)) | (with_reducible refine And.intro ?_ ?_))
    all_goals ((try simp only [bI_0, bI_t, bI_f, decide_eq_false_iff_not, Classical.not_not] at *); (try simp only [wid_I, eq_I, lt_I, le_I, Classical.not_not, ti_m1000000, ti_m1004, ti_m1003, ti_m1002, ti_m1001, ti_m650, ti_m99, ti_m10, ti_m1, ti_0, ti_1, ti_2, ti_3, ti_4, ti_5, ti_6, ti_7, ti_8, ti_9, ti_10, ti_12, ti_14, ti_15, ti_20, ti_24, ti_30, ti_31, ti_32, ti_40, ti_44, ti_48, ti_57, ti_59, ti_63, ti_64, ti_72, ti_96, ti_97, ti_98, ti_99, ti_100, ti_101, ti_102, ti_105, ti_107, ti_108, ti_109, ti_110, ti_111, ti_112, ti_114, ti_115, ti_116, ti_117, ti_119, ti_120, ti_121, ti_122, ti_160, ti_168, ti_216, ti_222, ti_240, ti_255, ti_262, ti_302, ti_400, ti_495, ti_650, ti_991, ti_999, ti_1300, ti_9100, ti_9999, ti_99999, ti_1000000, tj_m550, tj_m99, tj_0, tj_1, tj_2, tj_3, tj_5, tj_6, tj_7, tj_8, tj_30, tj_48, tj_57, tj_63, tj_97, tj_99, tj_100, tj_122, tj_240, tj_255, tj_550, tj_999, tj_9999, tj_99999, tj_4294967295] at *))
    all_goals first | (exfalso; omega) | (with_reducible exact g3_rf hI) | skip
  show CI mX9_binds _ _ _
  refine ci_of (T := mX9_binds) (fv := fun _ => True) (ls := [some (.ref (0 : Nat)), some (.int x), some (.int hour), some (.int b)]) rfl (Nat.le_of_ble_eq_true rfl) (by decide) rfl rfl rfl (ok2_0 cX9_binds 9 80 rfl rfl ?_)
  simp only [sw3_c, sw3_n, Nat.reduceEqDiff, not_false_eq_true, Nat.zero_le, Nat.reduceLeDiff, Nat.reduceLT, Nat.reduceAdd, sg_s, ↓kif_0, ↓kif_c, ↓reduceIte, nl_n, nl_i, nl_r, List.length_cons, List.length_nil, true_and, and_true, upA_s, upA_n, upA_u, Prod.mk.injEq, and_self, Fr_0_8, oC_59, oL_0, (j_iload_n_1 dX9_binds_0 (n := 1) rfl), (j_iconst dX9_binds_1 (n := 2) rfl ki_0), (j_sipush dX9_binds_2 (n := 5) rfl ks_255), (j_cs3i (M := mX9_binds) dX9_binds_5 (n := 8) rfl cM_9_91 (Or.inl rfl) (o := 9) rfl lv_X9_binds_X9_beyond rfl), (j_if_eq dX9_binds_8 (n := 11) rfl br_8_7), (j_sipush dX9_binds_11 (n := 14) rfl ks_m1002), (j_iret dX9_binds_14 (n := 15) rfl), (j_iload_n_2 dX9_binds_15 (n := 16) rfl), (j_iconst dX9_binds_16 (n := 17) rfl ki_0), (j_sipush dX9_binds_17 (n := 20) rfl ks_240), (j_cs3i (M := mX9_binds) dX9_binds_20 (n := 23) rfl cM_9_91 (Or.inl rfl) (o := 9) rfl lv_X9_binds_X9_beyond rfl), (j_if_ne dX9_binds_23 (n := 26) rfl br_23_13), (j_iload_n_3 dX9_binds_26 (n := 27) rfl), (j_iconst dX9_binds_27 (n := 28) rfl ki_0), (j_bipush dX9_binds_28 (n := 30) rfl kb_7), (j_cs3i (M := mX9_binds) dX9_binds_30 (n := 33) rfl cM_9_91 (Or.inl rfl) (o := 9) rfl lv_X9_binds_X9_beyond rfl), (j_if_eq dX9_binds_33 (n := 36) rfl br_33_7), (j_sipush dX9_binds_36 (n := 39) rfl ks_m1002), (j_iret dX9_binds_39 (n := 40) rfl), (j_aload_n_0 dX9_binds_40 (n := 41) rfl), (j_getf dX9_binds_41 (n := 44) rfl cF_9_68), (j_iload_n_1 dX9_binds_44 (n := 45) rfl), (j_iload_n_2 dX9_binds_45 (n := 46) rfl), (j_iconst dX9_binds_46 (n := 47) rfl ki_1), (j_cv3i (M := mX9_binds) dX9_binds_47 (n := 50) rfl cM_9_259 (Or.inl rfl) lv_X9_binds_X4_bound rfl (oc := 4) rfl), (j_iload_n_3 dX9_binds_50 (n := 51) rfl), (j_cs2i (M := mX9_binds) dX9_binds_51 (n := 54) rfl cM_9_262 (Or.inl rfl) (o := 9) rfl lv_X9_binds_X9_has rfl), (j_if_eq dX9_binds_54 (n := 57) rfl br_54_5), (j_iconst dX9_binds_57 (n := 58) rfl ki_2), (j_iret dX9_binds_58 (n := 59) rfl), (j_aload_n_0 dX9_binds_59 (n := 60) rfl), (j_getf dX9_binds_60 (n := 63) rfl cF_9_68), (j_iload_n_1 dX9_binds_63 (n := 64) rfl), (j_iload_n_2 dX9_binds_64 (n := 65) rfl), (j_iconst dX9_binds_65 (n := 66) rfl ki_0), (j_cv3i (M := mX9_binds) dX9_binds_66 (n := 69) rfl cM_9_259 (Or.inl rfl) lv_X9_binds_X4_bound rfl (oc := 4) rfl), (j_iload_n_3 dX9_binds_69 (n := 70) rfl), (j_cs2i (M := mX9_binds) dX9_binds_70 (n := 73) rfl cM_9_262 (Or.inl rfl) (o := 9) rfl lv_X9_binds_X9_has rfl), (j_if_eq dX9_binds_73 (n := 76) rfl br_73_7), (j_iconst dX9_binds_76 (n := 77) rfl ki_1), (j_goto dX9_binds_77 (n := 80) rfl br_77_4), (j_iconst dX9_binds_80 (n := 81) rfl ki_0), (j_iret dX9_binds_81 (n := 82) rfl), rOk_i (M := mX9_binds) rfl]
  refine c_beyond _ _ _ _ _ ?_
  simp only [bI_0, decide_eq_false_iff_not, ti_0, ti_255]
  refine ite_i (fun h1 => ?_) (fun h1 => hbad (by omega))
  refine c_beyond _ _ _ _ _ ?_
  simp only [bI_0, decide_eq_false_iff_not, ti_0, ti_240]
  refine ite_i (fun h2 => ?_) (fun h2 => hbad (by omega))
  refine c_beyond _ _ _ _ _ ?_
  simp only [bI_0, decide_eq_false_iff_not, ti_0, ti_7]
  refine ite_i (fun h3 => ?_) (fun h3 => hbad (by omega))
  have hB := cl_eq (x := b) (by omega)
  have eb : b = nI b.toNatClampNeg := (nI_cl (by omega)).symm
  have hgo : ∀ r, r = (if bI (bt (itF (S 60) (S 61) (ldB (S 62) (S 63) (S 64) hour 1) (S 59 5).toNatClampNeg x 7) b.toNatClampNeg) = 1 then 2 else bI (bt (itF (S 60) (S 61) (ldB (S 62) (S 63) (S 64) hour 0) (S 59 5).toNatClampNeg x 7) b.toNatClampNeg)) → g2 mX10_binds [.int x, .int hour, .int b] r S := by
    intro r hr
    show CI mX10_binds _ _ _
    refine ci_of (T := mX10_binds) (fv := fun _ => True) (ls := [some (.ref (70 : Nat)), some (.int x), some (.int hour), some (.int b)]) rfl (Nat.le_of_ble_eq_true rfl) (by decide) rfl rfl rfl (ok2_0 cX10_binds 10 60 rfl rfl ?_)
    simp only [sw3_c, sw3_n, Nat.reduceEqDiff, not_false_eq_true, Nat.zero_le, Nat.reduceLeDiff, Nat.reduceLT, Nat.reduceAdd, sg_s, ↓kif_0, ↓kif_c, ↓reduceIte, nl_n, nl_i, nl_r, List.length_cons, List.length_nil, true_and, and_true, upA_s, upA_n, upA_u, Prod.mk.injEq, and_self, oC_70, (j_iload_n_1 dX10_binds_0 (n := 1) rfl), (j_i2l dX10_binds_1 (n := 2) rfl), (j_lconst dX10_binds_2 (n := 3) rfl (v := 0) (by decide)), (j_ldc2 dX10_binds_3 (n := 6) rfl cJ_10_228), (j_cs3i (M := mX10_binds) dX10_binds_6 (n := 9) rfl cM_10_150 (Or.inl rfl) (o := 10) rfl lv_X10_binds_X10_in rfl), (j_if_eq dX10_binds_9 (n := 12) rfl br_9_22), (j_iload_n_2 dX10_binds_12 (n := 13) rfl), (j_cs1i (M := mX10_binds) dX10_binds_13 (n := 16) rfl cM_10_218 (Or.inl rfl) (o := 10) rfl lv_X10_binds_X10_isHour rfl), (j_if_eq dX10_binds_16 (n := 19) rfl br_16_15), (j_iload_n_3 dX10_binds_19 (n := 20) rfl), (j_i2l dX10_binds_20 (n := 21) rfl), (j_lconst dX10_binds_21 (n := 22) rfl (v := 0) (by decide)), (j_ldc2 dX10_binds_22 (n := 25) rfl cJ_10_148), (j_cs3i (M := mX10_binds) dX10_binds_25 (n := 28) rfl cM_10_150 (Or.inl rfl) (o := 10) rfl lv_X10_binds_X10_in rfl), (j_if_ne dX10_binds_28 (n := 31) rfl br_28_7), (j_sipush dX10_binds_31 (n := 34) rfl ks_m1002), (j_iret dX10_binds_34 (n := 35) rfl), (j_aload_n_0 dX10_binds_35 (n := 36) rfl), (j_iload_n_1 dX10_binds_36 (n := 37) rfl), (j_iload_n_2 dX10_binds_37 (n := 38) rfl), (j_iconst dX10_binds_38 (n := 39) rfl ki_1), (j_cv3i (M := mX10_binds) dX10_binds_39 (n := 42) rfl cM_10_349 (Or.inl rfl) lv_X10_binds_X10_ledTo rfl (oc := 10) rfl), (j_iload_n_3 dX10_binds_42 (n := 43) rfl), (j_ishr dX10_binds_43 (n := 44) rfl), (j_iconst dX10_binds_44 (n := 45) rfl ki_1), (j_iand dX10_binds_45 (n := 46) rfl), (j_iconst dX10_binds_46 (n := 47) rfl ki_1), (j_ic_ne dX10_binds_47 (n := 50) rfl br_47_7), (j_iconst dX10_binds_50 (n := 51) rfl ki_2), (j_goto dX10_binds_51 (n := 54) rfl br_51_14), (j_aload_n_0 dX10_binds_54 (n := 55) rfl), (j_iload_n_1 dX10_binds_55 (n := 56) rfl), (j_iload_n_2 dX10_binds_56 (n := 57) rfl), (j_iconst dX10_binds_57 (n := 58) rfl ki_0), (j_cv3i (M := mX10_binds) dX10_binds_58 (n := 61) rfl cM_10_349 (Or.inl rfl) lv_X10_binds_X10_ledTo rfl (oc := 10) rfl), (j_iload_n_3 dX10_binds_61 (n := 62) rfl), (j_ishr dX10_binds_62 (n := 63) rfl), (j_iconst dX10_binds_63 (n := 64) rfl ki_1), (j_iand dX10_binds_64 (n := 65) rfl), (j_iret dX10_binds_65 (n := 66) rfl), rOk_i (M := mX10_binds) rfl]
    refine c_in _ _ _ _ _ ?_
    simp only [bI_0, decide_eq_false_iff_not, wid_I, tj_0, tj_255]
    refine ite_i (fun q => absurd (by omega) q) (fun _ => ?_)
    refine c_isHour _ _ _ ?_
    simp only [bI_0, decide_eq_false_iff_not]
    refine ite_i (fun q => absurd (by omega) q) (fun _ => ?_)
    refine c_in _ _ _ _ _ ?_
    simp only [bI_0, decide_eq_false_iff_not, wid_I, tj_0, tj_7]
    refine ite_i (fun q => absurd (by omega) q) (fun _ => ?_)
    refine c_ledTo _ _ _ _ _ _ c2 c4 ?_
    rw [ev 1 (by omega)]
    have e1 : ∀ y : Int32, (y >>> (b &&& 31)) &&& 1 = bI (bt y b.toNatClampNeg) := fun y => by
      have := has_01 (s := y) (k := b.toNatClampNeg) (by omega)
      rw [← eb] at this
      exact this
    rw [e1]
    refine ite_i (fun q => ?_) (fun q => ?_)
    · rw [if_pos q] at hr
      exact ⟨hr, hI⟩
    · rw [if_neg q] at hr
      refine c_ledTo _ _ _ _ _ _ c2 c4 ?_
      rw [ev 0 (by omega), e1]
      exact ⟨hr, hI⟩
  have e2 : ∀ y : Int32, decide ((y >>> (b &&& 31)) &&& 1 = 1) = bt y b.toNatClampNeg := fun y => by
    have := has_bt (s := y) (k := b.toNatClampNeg) (by omega)
    rw [← eb] at this
    simp only [this]
    simp
  refine c_bound _ _ _ _ _ _ c1 c4 (c_has _ _ _ _ ?_)
  rw [e2]
  refine ite_i (fun q => ?_) (fun q => ?_)
  · refine c_bound _ _ _ _ _ _ c1 c4 (c_has _ _ _ _ ?_)
    rw [e2]
    have q1 : ¬ bI (bt (itF (S 60) (S 61) (ldB (S 62) (S 63) (S 64) hour 1) (S 59 5).toNatClampNeg x 7) b.toNatClampNeg) = 1 := by rw [q]; decide
    rw [if_neg q1] at hgo
    refine ite_i (fun q2 => hgo _ q2.symm) (fun q2 => hgo _ ?_)
    rcases bI_01 (bt (itF (S 60) (S 61) (ldB (S 62) (S 63) (S 64) hour 0) (S 59 5).toNatClampNeg x 7) b.toNatClampNeg) with z | z
    · exact absurd z q2
    · exact z.symm
  · have q1 : bI (bt (itF (S 60) (S 61) (ldB (S 62) (S 63) (S 64) hour 1) (S 59 5).toNatClampNeg x 7) b.toNatClampNeg) = 1 := by
      rcases bI_01 (bt (itF (S 60) (S 61) (ldB (S 62) (S 63) (S 64) hour 1) (S 59 5).toNatClampNeg x 7) b.toNatClampNeg) with z | z
      · exact absurd z q
      · exact z
    rw [if_pos q1] at hgo
    exact hgo 2 rfl
