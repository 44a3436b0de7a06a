-- road: one pass in place is the simultaneous least
theorem j_cv2i5 {M : xM} {b : ByteArray} {o : Nat} {k : xW} {fi : xP} {fv : xA → Prop} {pc n : Nat} {ls : xS} {S : xA} {i kd c oc z : Nat} {T : xM} {ty : FieldType} {a0 a1 : Value} {y1 y2 y3 y4 : Int32} (hd : decode b pc = .ok (.invokevirtual i, 3)) (hn : pc + 3 = n) (hq : cpM o i = some (kd, 2, T)) (hk : kd = 0 ∨ kd = 3) (hl : mV T + 1 ≤ mV M ∧ mC T = 0 ∧ mS T = 0) (ht : mT T = some ty) (ho : mO T = oc) (hLo : oC c oc = true) : sn2 M b o k fi fv pc ls (a1 :: a0 :: .ref c :: .int y1 :: .int y2 :: .int y3 :: .int y4 :: .ref z :: []) S = (CI T [.ref c, a0, a1] S fun x S => k n ls (.int x :: .int y1 :: .int y2 :: .int y3 :: .int y4 :: .ref z :: []) S) := by
  rw [sn_at hd]; subst hn; obtain ⟨hc, hL⟩ := oC_h hLo; rcases hk with rfl | rfl <;> simp [s2, hq, sC2, hl, ht, stN, hc, hL, ho, Value.category]
def dd (d : Nat → Nat → Nat) (a b h i j : Nat) : Nat := min (d i j) (min (d i a + h + d b j) (d i b + h + d a j))
def vn (d : Nat → Nat → Nat) (a b h n x y : Nat) : Nat := if 8 * x + y < n then dd d a b h x y else d x y
theorem dd_le (d : Nat → Nat → Nat) (a b h i j : Nat) : dd d a b h i j ≤ d i j := by unfold dd; omega
theorem dd_ge {d : Nat → Nat → Nat} {a b h i j : Nat} (ht : tri d) (ha : a < 8) (hb : b < 8) (hi : i < 8) (hj : j < 8) : dd d a b h i j ≤ dd d a b h i a + h + dd d a b h b j ∧ dd d a b h i j ≤ dd d a b h i b + h + dd d a b h a j := by
  have t1 := ht.1 i a j hi ha hj
  have t2 := ht.1 i b j hi hb hj
  have z1 := ht.2 a ha
  have z2 := ht.2 b hb
  unfold dd
  omega
theorem dd_tri {d : Nat → Nat → Nat} {a b h : Nat} (ht : tri d) (ha : a < 8) (hb : b < 8) : tri (dd d a b h) := by
  refine ⟨fun i j k hi hj hk => ?_, fun i hi => ?_⟩
  · have t0 := ht.1 i j k hi hj hk
    have t1 := ht.1 i a k hi ha hk
    have t2 := ht.1 i b k hi hb hk
    have t3 := ht.1 i j a hi hj ha
    have t4 := ht.1 i j b hi hj hb
    have t5 := ht.1 a j k ha hj hk
    have t6 := ht.1 b j k hb hj hk
    unfold dd
    omega
  · unfold dd
    rw [ht.2 i hi]
    omega
theorem vn_b (d : Nat → Nat → Nat) (a b h n x y : Nat) : dd d a b h x y ≤ vn d a b h n x y ∧ vn d a b h n x y ≤ d x y := by
  have := dd_le d a b h x y
  unfold vn
  split <;> omega
theorem vn_at (d : Nat → Nat → Nat) (a b h x y : Nat) : vn d a b h (8 * x + y) x y = d x y := by
  unfold vn
  rw [if_neg (by omega)]
/-- the step of one pair, as the reference does it -/
theorem st_m {d : Nat → Nat → Nat} {a b h i j : Nat} (ht : tri d) (ha : a < 8) (hb : b < 8) (hi : i < 8) (hj : j < 8) (n : Nat) : min (d i j) (min (vn d a b h n i a + h + vn d a b h n b j) (vn d a b h n i b + h + vn d a b h n a j)) = dd d a b h i j := by
  have g := dd_ge (h := h) ht ha hb hi hj
  have b1 := vn_b d a b h n i a
  have b2 := vn_b d a b h n b j
  have b3 := vn_b d a b h n i b
  have b4 := vn_b d a b h n a j
  have e : dd d a b h i j = min (d i j) (min (d i a + h + d b j) (d i b + h + d a j)) := rfl
  omega
/-- and as the class does: first one way, then the other, what the first wrote seen by the second -/
def vm (d : Nat → Nat → Nat) (a b h n i j : Nat) : Nat := min (d i j) (vn d a b h n i a + h + vn d a b h n b j)
def vs (d : Nat → Nat → Nat) (a b h n i j x y : Nat) : Nat := if x = i ∧ y = j then vm d a b h n i j else vn d a b h n x y
theorem st_c {d : Nat → Nat → Nat} {a b h i j : Nat} (ht : tri d) (ha : a < 8) (hb : b < 8) (hi : i < 8) (hj : j < 8) (n : Nat) : min (vm d a b h n i j) (vs d a b h n i j i b + h + vs d a b h n i j a j) = dd d a b h i j := by
  have g := dd_ge (h := h) ht ha hb hi hj
  have b1 := vn_b d a b h n i a
  have b2 := vn_b d a b h n b j
  have b3 := vn_b d a b h n i b
  have b4 := vn_b d a b h n a j
  have e : dd d a b h i j = min (d i j) (min (d i a + h + d b j) (d i b + h + d a j)) := rfl
  have m1 : dd d a b h i j ≤ vm d a b h n i j ∧ vm d a b h n i j ≤ d i j ∧ vm d a b h n i j ≤ d i a + h + d b j := by unfold vm; omega
  have c1 : dd d a b h i b ≤ vs d a b h n i j i b ∧ vs d a b h n i j i b ≤ d i b := by
    unfold vs
    split
    · next q =>
      have e1 : dd d a b h i b = dd d a b h i j := congrArg (dd d a b h i) q.2
      have e2 : d i b = d i j := congrArg (d i) q.2
      omega
    · omega
  have c2 : dd d a b h a j ≤ vs d a b h n i j a j ∧ vs d a b h n i j a j ≤ d a j := by
    unfold vs
    split
    · next q =>
      have e1 : dd d a b h a j = dd d a b h i j := congrArg (fun z => dd d a b h z j) q.1
      have e2 : d a j = d i j := congrArg (fun z => d z j) q.1
      omega
    · omega
  omega
def fin5 (n : Nat) : Prop := n = 1000000 ∨ n ≤ 491520
theorem dd_fin {d : Nat → Nat → Nat} {a b h i j r : Nat} (hd : ∀ i j, i < 8 → j < 8 → d i j ≤ 1000000 ∧ (d i j = 1000000 ∨ d i j ≤ 30 * (2 ^ r - 1))) (ha : a < 8) (hb : b < 8) (hi : i < 8) (hj : j < 8) (hh : h ≤ 30) : dd d a b h i j ≤ 1000000 ∧ (dd d a b h i j = 1000000 ∨ dd d a b h i j ≤ 30 * (2 ^ (r + 1) - 1)) := by
  have h1 := hd i j hi hj
  have h2 := hd i a hi ha
  have h3 := hd b j hb hj
  have h4 := hd i b hi hb
  have h5 := hd a j ha hj
  have e : 30 * (2 ^ (r + 1) - 1) = 2 * (30 * (2 ^ r - 1)) + 30 := by
    have : 0 < 2 ^ r := Nat.pow_pos (by omega)
    rw [Nat.pow_succ]
    omega
  unfold dd
  omega
def encC (n : Nat) : Int32 := if n = 1000000 then -1 else nI n
theorem encC_m {n : Nat} (h : n ≤ 1000000) : (encC n = -1) = (n = 1000000) := by
  apply propext
  unfold encC
  constructor
  · intro q
    by_cases e : n = 1000000
    · exact e
    · rw [if_neg e, eq_I, ti_m1, nI_toInt (by omega)] at q
      omega
  · intro q
    rw [if_pos q]
theorem encC_n {n : Nat} (h : ¬ n = 1000000) : encC n = nI n := by unfold encC; rw [if_neg h]
theorem ixN {x y : Nat} (hx : x < 8) (hy : y < 8) : vp_in (nI x * 8 + nI y) 64 ∧ (nI x * 8 + nI y).toNatClampNeg = 8 * x + y := by
  rw [show (8 : Int32) = nI 8 from rfl, nI_ml, nI_add]
  exact ⟨vp_in_nI (by omega) (by omega), by rw [nI_clamp (by omega)]; omega⟩
set_option maxHeartbeats 4000000 in
theorem c_shorten (x y p h q o : Nat) (S : xA) (f : xA → Prop) (hx : x < 8) (hy : y < 8) (ho : S 2 (8 * x + y) = encC o) (ho2 : o ≤ 1000000) (hp : fin5 p) (hq : fin5 q) (hh : h ≤ 30)
    (hf : f (upA S 2 (upd (S 2) (8 * x + y) (encC (min o (p + h + q)))))) : CV mX3_shorten [.ref (1 : Nat), .int (nI x), .int (nI y), .int (encC p), .int (nI h), .int (encC q)] S f := by
  show CV mX3_shorten _ _ _
  refine cv_of (T := mX3_shorten) (f := fun _ _ => True) (ls := [some (.ref (1 : Nat)), some (.int (nI x)), some (.int (nI y)), some (.int (encC p)), some (.int (nI h)), some (.int (encC q)), none, none]) rfl (Nat.le_of_ble_eq_true rfl) (by decide) rfl rfl rfl (ok2_0 cX3_shorten 3 60 rfl rfl ?_)
  simp only [sw3_c, sw3_n, Nat.reduceEqDiff, not_false_eq_true, Nat.zero_le, Nat.reduceLeDiff, Nat.reduceLT, Nat.reduceAdd, sg_s, ↓kif_0, ↓kif_c, ↓reduceIte, nl_n, nl_i, nl_r, List.length_cons, List.length_nil, true_and, and_true, upA_s, upA_n, upA_u, Prod.mk.injEq, and_self, Fr_1_0, Ld_2, oA_2, oC_1, oL_1, (j_iload_n_3 dX3_shorten_0 (n := 1) rfl), (j_iconst dX3_shorten_1 (n := 2) rfl ki_m1), (j_ic_eq dX3_shorten_2 (n := 5) rfl br_2_9), (j_iload_5 dX3_shorten_5 (n := 7) rfl), (j_iconst dX3_shorten_7 (n := 8) rfl ki_m1), (j_ic_ne dX3_shorten_8 (n := 11) rfl br_8_4), (j_ret (M := mX3_shorten) dX3_shorten_11 (n := 12) rfl rfl), (j_aload_n_0 dX3_shorten_12 (n := 13) rfl), (j_iload_n_1 dX3_shorten_13 (n := 14) rfl), (j_iload_n_2 dX3_shorten_14 (n := 15) rfl), (j_cv2i (M := mX3_shorten) dX3_shorten_15 (n := 18) rfl cM_3_25 (Or.inl rfl) lv_X3_shorten_X3_way rfl (oc := 3) rfl), (j_istore_6 dX3_shorten_18 (n := 20) rfl), (j_iload_n_3 dX3_shorten_20 (n := 21) rfl), (j_iload_4 dX3_shorten_21 (n := 23) rfl), (j_iadd dX3_shorten_23 (n := 24) rfl), (j_iload_5 dX3_shorten_24 (n := 26) rfl), (j_iadd dX3_shorten_26 (n := 27) rfl), (j_istore_7 dX3_shorten_27 (n := 29) rfl), (j_iload_6 dX3_shorten_29 (n := 31) rfl), (j_iconst dX3_shorten_31 (n := 32) rfl ki_m1), (j_ic_eq dX3_shorten_32 (n := 35) rfl br_32_10), (j_iload_7 dX3_shorten_35 (n := 37) rfl), (j_iload_6 dX3_shorten_37 (n := 39) rfl), (j_ic_ge dX3_shorten_39 (n := 42) rfl br_39_16), (j_aload_n_0 dX3_shorten_42 (n := 43) rfl), (j_getf dX3_shorten_43 (n := 46) rfl cF_3_9), (j_iload_n_1 dX3_shorten_46 (n := 47) rfl), (j_bipush dX3_shorten_47 (n := 49) rfl kb_8), (j_imul dX3_shorten_49 (n := 50) rfl), (j_iload_n_2 dX3_shorten_50 (n := 51) rfl), (j_iadd dX3_shorten_51 (n := 52) rfl), (j_iload_7 dX3_shorten_52 (n := 54) rfl), (j_iast dX3_shorten_54 (n := 55) rfl), (j_ret (M := mX3_shorten) dX3_shorten_55 (n := 56) rfl rfl)]
  obtain ⟨v, e⟩ := ixN hx hy
  have hp2 : p ≤ 1000000 := by unfold fin5 at hp; omega
  have hq2 : q ≤ 1000000 := by unfold fin5 at hq; omega
  have same : min o (p + h + q) = o → f S := by
    intro z
    rw [z, ← ho, upd_i, upA_i] at hf
    exact hf
  refine ite_i (fun h1 => ?_) (fun h1 => ite_i (fun h2 => ?_) (fun h2 => ?_))
  · rw [encC_m hp2] at h1
    exact same (by omega)
  · rw [encC_m hq2] at h2
    exact same (by omega)
  · rw [encC_m hp2] at h1
    rw [encC_m hq2] at h2
    have s : p + h + q < 1000000 := by unfold fin5 at hp hq; omega
    refine c_way3 _ _ _ _ v ?_
    rw [e, ho, encC_n h1, encC_n h2, nI_add, nI_add]
    have es : encC (p + h + q) = nI (p + h + q) := encC_n (by omega)
    refine ite_i (fun h3 => ⟨v, ?_⟩) (fun h3 => ite_i (fun h4 => ⟨v, ?_⟩) (fun h4 => ?_))
    · rw [encC_m ho2] at h3
      rw [show min o (p + h + q) = p + h + q by omega, es] at hf
      exact hf
    · rw [encC_m ho2] at h3
      rw [encC_n h3, lt_I, nI_toInt (by omega), nI_toInt (by omega)] at h4
      rw [show min o (p + h + q) = p + h + q by omega, es] at hf
      exact hf
    · rw [encC_m ho2] at h3
      rw [encC_n h3, lt_I, nI_toInt (by omega), nI_toInt (by omega)] at h4
      exact same (by omega)

theorem vn_s {d : Nat → Nat → Nat} {a b h i j x y : Nat} (hj : j < 8) (hy : y < 8) : vn d a b h (8 * i + (j + 1)) x y = if x = i ∧ y = j then dd d a b h i j else vn d a b h (8 * i + j) x y := by
  unfold vn
  by_cases q : x = i ∧ y = j
  · rw [if_pos q, q.1, q.2, if_pos (by omega)]
  · rw [if_neg q]
    by_cases z : 8 * x + y < 8 * i + j
    · rw [if_pos z, if_pos (by omega)]
    · rw [if_neg z, if_neg (by omega)]
theorem fin_vn {d : Nat → Nat → Nat} {a b h r : Nat} (hd : ∀ i j, i < 8 → j < 8 → d i j ≤ 1000000 ∧ (d i j = 1000000 ∨ d i j ≤ 30 * (2 ^ r - 1))) (hr : r ≤ 13) (ha : a < 8) (hb : b < 8) (hh : h ≤ 30) (n : Nat) {x y : Nat} (hx : x < 8) (hy : y < 8) : vn d a b h n x y = 1000000 ∨ vn d a b h n x y ≤ 491490 := by
  have h1 := hd x y hx hy
  have h2 := dd_fin hd ha hb hx hy hh
  have h3 := pow14 (r := r) (by omega)
  have h4 := pow14 (r := r + 1) (by omega)
  unfold vn
  split <;> omega
set_option maxHeartbeats 8000000 in
theorem c_join (d : Nat → Nat → Nat) (A B H r : Nat) (S : xA) (f : xA → Prop) (ht : tri d) (hd : ∀ i j, i < 8 → j < 8 → d i j ≤ 1000000 ∧ (d i j = 1000000 ∨ d i j ≤ 30 * (2 ^ r - 1))) (hr : r ≤ 13) (hA : A < 8) (hB : B < 8) (hH : H ≤ 30) (hw : ∀ i j, i < 8 → j < 8 → S 2 (8 * i + j) = encC (d i j))
    (h : ∀ S', frm [2] (upA S 1 (upd (S 1) 1 (S 1 1 + 1))) S' → (∀ i j, i < 8 → j < 8 → S' 2 (8 * i + j) = encC (dd d A B H i j)) → f S') : CV mX3_join [.ref (1 : Nat), .int (nI A), .int (nI B), .int (nI H)] S f := by
  refine cv_of (T := mX3_join) (f := fun _ _ => True) (ls := [some (.ref (1 : Nat)), some (.int (nI A)), some (.int (nI B)), some (.int (nI H)), none, none]) rfl (Nat.le_of_ble_eq_true rfl) (by decide) rfl rfl rfl (ok_f2 cX3_join 3 60 13 23 8 (fun k ls S' => (∃ x, ls = [some (.ref (1 : Nat)), some (.int (nI A)), some (.int (nI B)), some (.int (nI H)), some (.int (nI k)), lx x]) ∧ frm [2] (upA S 1 (upd (S 1) 1 (S 1 1 + 1))) S' ∧ (∀ i j, i < 8 → j < 8 → S' 2 (8 * i + j) = encC (vn d A B H (8 * k) i j))) (fun _ => 8) (fun k m ls S' => ls = [some (.ref (1 : Nat)), some (.int (nI A)), some (.int (nI B)), some (.int (nI H)), some (.int (nI k)), some (.int (nI m))] ∧ frm [2] (upA S 1 (upd (S 1) 1 (S 1 1 + 1))) S' ∧ (∀ i j, i < 8 → j < 8 → S' 2 (8 * i + j) = encC (vn d A B H (8 * k + m) i j))) rfl rfl ?_ ?_ ?_ ?_ ?_)
  · intro R hR
    simp only [sw3_c, sw3_n, Nat.reduceEqDiff, not_false_eq_true, Nat.zero_le, Nat.reduceLeDiff, Nat.reduceLT, Nat.reduceAdd, sg_s, ↓kif_0, ↓kif_c, ↓reduceIte, nl_n, nl_i, nl_r, List.length_cons, List.length_nil, true_and, and_true, upA_s, upA_n, upA_u, Prod.mk.injEq, and_self, Fr_1_1, oC_1, oI_1_1, oL_1, (j_aload_n_0 dX3_join_0 (n := 1) rfl), (j_dup_i dX3_join_1 (n := 2) rfl), (j_dup_r dX3_join_1 (n := 2) rfl), (j_getf dX3_join_2 (n := 5) rfl cF_3_15), (j_iconst dX3_join_5 (n := 6) rfl ki_1), (j_iadd dX3_join_6 (n := 7) rfl), (j_putf dX3_join_7 (n := 10) rfl cF_3_15), (j_iconst dX3_join_10 (n := 11) rfl ki_0), (j_istore_4 dX3_join_11 (n := 13) rfl), (j_iload_4 dX3_join_13 (n := 15) rfl), (j_bipush dX3_join_15 (n := 17) rfl kb_8), (j_ic_ge dX3_join_17 (n := 20) rfl br_17_71), (j_iconst dX3_join_20 (n := 21) rfl ki_0), (j_istore_5 dX3_join_21 (n := 23) rfl), (j_iload_5 dX3_join_23 (n := 25) rfl), (j_bipush dX3_join_25 (n := 27) rfl kb_8), (j_ic_ge dX3_join_27 (n := 30) rfl br_27_55), (j_aload_n_0 dX3_join_30 (n := 31) rfl), (j_iload_4 dX3_join_31 (n := 33) rfl), (j_iload_5 dX3_join_33 (n := 35) rfl), (j_aload_n_0 dX3_join_35 (n := 36) rfl), (j_iload_4 dX3_join_36 (n := 38) rfl), (j_iload_n_1 dX3_join_38 (n := 39) rfl), (j_cv2i (M := mX3_join) dX3_join_39 (n := 42) rfl cM_3_25 (Or.inl rfl) lv_X3_join_X3_way rfl (oc := 3) rfl), (j_iload_n_3 dX3_join_42 (n := 43) rfl), (j_aload_n_0 dX3_join_43 (n := 44) rfl), (j_iload_n_2 dX3_join_44 (n := 45) rfl), (j_iload_5 dX3_join_45 (n := 47) rfl), (j_cv2i (M := mX3_join) dX3_join_47 (n := 50) rfl cM_3_25 (Or.inl rfl) lv_X3_join_X3_way rfl (oc := 3) rfl), (j_cv5v (M := mX3_join) dX3_join_50 (n := 53) rfl cM_3_29 (Or.inl rfl) lv_X3_join_X3_shorten rfl (oc := 3) rfl), (j_aload_n_0 dX3_join_53 (n := 54) rfl), (j_iload_4 dX3_join_54 (n := 56) rfl), (j_iload_5 dX3_join_56 (n := 58) rfl), (j_aload_n_0 dX3_join_58 (n := 59) rfl), (j_iload_4 dX3_join_59 (n := 61) rfl), (j_iload_n_2 dX3_join_61 (n := 62) rfl), (j_cv2i (M := mX3_join) dX3_join_62 (n := 65) rfl cM_3_25 (Or.inl rfl) lv_X3_join_X3_way rfl (oc := 3) rfl), (j_iload_n_3 dX3_join_65 (n := 66) rfl), (j_aload_n_0 dX3_join_66 (n := 67) rfl), (j_iload_n_1 dX3_join_67 (n := 68) rfl), (j_iload_5 dX3_join_68 (n := 70) rfl), (j_cv2i (M := mX3_join) dX3_join_70 (n := 73) rfl cM_3_25 (Or.inl rfl) lv_X3_join_X3_way rfl (oc := 3) rfl), (j_cv5v (M := mX3_join) dX3_join_73 (n := 76) rfl cM_3_29 (Or.inl rfl) lv_X3_join_X3_shorten rfl (oc := 3) rfl), (j_iinc_5 dX3_join_76 (n := 79) rfl ki_1), (j_goto dX3_join_79 (n := 82) rfl br_79_m56), (j_iinc_4 dX3_join_82 (n := 85) rfl ki_1), (j_goto dX3_join_85 (n := 88) rfl br_85_m72), (j_ret (M := mX3_join) dX3_join_88 (n := 89) rfl rfl), nl_x, pk_us]
    refine hR _ _ ⟨⟨none, rfl⟩, frm_rf _ _, fun i j hi hj => ?_⟩
    simp only [upA_s, upA_n, upA_u, Nat.reduceEqDiff, not_false_eq_true, pk_us, upd_n]
    rw [hw i j hi hj]
    unfold vn
    rw [if_neg (by omega)]
  · rintro k hk _ S' ⟨⟨x, rfl⟩, hF, hS⟩ R R2 hR hR2
    simp only [sw3_c, sw3_n, Nat.reduceEqDiff, not_false_eq_true, Nat.zero_le, Nat.reduceLeDiff, Nat.reduceLT, Nat.reduceAdd, sg_s, ↓kif_0, ↓kif_c, ↓reduceIte, nl_n, nl_i, nl_r, List.length_cons, List.length_nil, true_and, and_true, upA_s, upA_n, upA_u, Prod.mk.injEq, and_self, Fr_1_1, oC_1, oI_1_1, oL_1, (j_aload_n_0 dX3_join_0 (n := 1) rfl), (j_dup_i dX3_join_1 (n := 2) rfl), (j_dup_r dX3_join_1 (n := 2) rfl), (j_getf dX3_join_2 (n := 5) rfl cF_3_15), (j_iconst dX3_join_5 (n := 6) rfl ki_1), (j_iadd dX3_join_6 (n := 7) rfl), (j_putf dX3_join_7 (n := 10) rfl cF_3_15), (j_iconst dX3_join_10 (n := 11) rfl ki_0), (j_istore_4 dX3_join_11 (n := 13) rfl), (j_iload_4 dX3_join_13 (n := 15) rfl), (j_bipush dX3_join_15 (n := 17) rfl kb_8), (j_ic_ge dX3_join_17 (n := 20) rfl br_17_71), (j_iconst dX3_join_20 (n := 21) rfl ki_0), (j_istore_5 dX3_join_21 (n := 23) rfl), (j_iload_5 dX3_join_23 (n := 25) rfl), (j_bipush dX3_join_25 (n := 27) rfl kb_8), (j_ic_ge dX3_join_27 (n := 30) rfl br_27_55), (j_aload_n_0 dX3_join_30 (n := 31) rfl), (j_iload_4 dX3_join_31 (n := 33) rfl), (j_iload_5 dX3_join_33 (n := 35) rfl), (j_aload_n_0 dX3_join_35 (n := 36) rfl), (j_iload_4 dX3_join_36 (n := 38) rfl), (j_iload_n_1 dX3_join_38 (n := 39) rfl), (j_cv2i (M := mX3_join) dX3_join_39 (n := 42) rfl cM_3_25 (Or.inl rfl) lv_X3_join_X3_way rfl (oc := 3) rfl), (j_iload_n_3 dX3_join_42 (n := 43) rfl), (j_aload_n_0 dX3_join_43 (n := 44) rfl), (j_iload_n_2 dX3_join_44 (n := 45) rfl), (j_iload_5 dX3_join_45 (n := 47) rfl), (j_cv2i (M := mX3_join) dX3_join_47 (n := 50) rfl cM_3_25 (Or.inl rfl) lv_X3_join_X3_way rfl (oc := 3) rfl), (j_cv5v (M := mX3_join) dX3_join_50 (n := 53) rfl cM_3_29 (Or.inl rfl) lv_X3_join_X3_shorten rfl (oc := 3) rfl), (j_aload_n_0 dX3_join_53 (n := 54) rfl), (j_iload_4 dX3_join_54 (n := 56) rfl), (j_iload_5 dX3_join_56 (n := 58) rfl), (j_aload_n_0 dX3_join_58 (n := 59) rfl), (j_iload_4 dX3_join_59 (n := 61) rfl), (j_iload_n_2 dX3_join_61 (n := 62) rfl), (j_cv2i (M := mX3_join) dX3_join_62 (n := 65) rfl cM_3_25 (Or.inl rfl) lv_X3_join_X3_way rfl (oc := 3) rfl), (j_iload_n_3 dX3_join_65 (n := 66) rfl), (j_aload_n_0 dX3_join_66 (n := 67) rfl), (j_iload_n_1 dX3_join_67 (n := 68) rfl), (j_iload_5 dX3_join_68 (n := 70) rfl), (j_cv2i (M := mX3_join) dX3_join_70 (n := 73) rfl cM_3_25 (Or.inl rfl) lv_X3_join_X3_way rfl (oc := 3) rfl), (j_cv5v (M := mX3_join) dX3_join_73 (n := 76) rfl cM_3_29 (Or.inl rfl) lv_X3_join_X3_shorten rfl (oc := 3) rfl), (j_iinc_5 dX3_join_76 (n := 79) rfl ki_1), (j_goto dX3_join_79 (n := 82) rfl br_79_m56), (j_iinc_4 dX3_join_82 (n := 85) rfl ki_1), (j_goto dX3_join_85 (n := 88) rfl br_85_m72), (j_ret (M := mX3_join) dX3_join_88 (n := 89) rfl rfl), nl_x, pk_us]
    rw [if_pos (nI_8 hk)]
    exact hR _ _ ⟨rfl, hF, hS⟩
  · rintro k hk m hm _ S' ⟨rfl, hF, hS⟩ R R2 hR hR2
    simp only [sw3_c, sw3_n, Nat.reduceEqDiff, not_false_eq_true, Nat.zero_le, Nat.reduceLeDiff, Nat.reduceLT, Nat.reduceAdd, sg_s, ↓kif_0, ↓kif_c, ↓reduceIte, nl_n, nl_i, nl_r, List.length_cons, List.length_nil, true_and, and_true, upA_s, upA_n, upA_u, Prod.mk.injEq, and_self, Fr_1_1, oC_1, oI_1_1, oL_1, (j_aload_n_0 dX3_join_0 (n := 1) rfl), (j_dup_i dX3_join_1 (n := 2) rfl), (j_dup_r dX3_join_1 (n := 2) rfl), (j_getf dX3_join_2 (n := 5) rfl cF_3_15), (j_iconst dX3_join_5 (n := 6) rfl ki_1), (j_iadd dX3_join_6 (n := 7) rfl), (j_putf dX3_join_7 (n := 10) rfl cF_3_15), (j_iconst dX3_join_10 (n := 11) rfl ki_0), (j_istore_4 dX3_join_11 (n := 13) rfl), (j_iload_4 dX3_join_13 (n := 15) rfl), (j_bipush dX3_join_15 (n := 17) rfl kb_8), (j_ic_ge dX3_join_17 (n := 20) rfl br_17_71), (j_iconst dX3_join_20 (n := 21) rfl ki_0), (j_istore_5 dX3_join_21 (n := 23) rfl), (j_iload_5 dX3_join_23 (n := 25) rfl), (j_bipush dX3_join_25 (n := 27) rfl kb_8), (j_ic_ge dX3_join_27 (n := 30) rfl br_27_55), (j_aload_n_0 dX3_join_30 (n := 31) rfl), (j_iload_4 dX3_join_31 (n := 33) rfl), (j_iload_5 dX3_join_33 (n := 35) rfl), (j_aload_n_0 dX3_join_35 (n := 36) rfl), (j_iload_4 dX3_join_36 (n := 38) rfl), (j_iload_n_1 dX3_join_38 (n := 39) rfl), (j_cv2i (M := mX3_join) dX3_join_39 (n := 42) rfl cM_3_25 (Or.inl rfl) lv_X3_join_X3_way rfl (oc := 3) rfl), (j_iload_n_3 dX3_join_42 (n := 43) rfl), (j_aload_n_0 dX3_join_43 (n := 44) rfl), (j_iload_n_2 dX3_join_44 (n := 45) rfl), (j_iload_5 dX3_join_45 (n := 47) rfl), (j_cv2i (M := mX3_join) dX3_join_47 (n := 50) rfl cM_3_25 (Or.inl rfl) lv_X3_join_X3_way rfl (oc := 3) rfl), (j_cv5v (M := mX3_join) dX3_join_50 (n := 53) rfl cM_3_29 (Or.inl rfl) lv_X3_join_X3_shorten rfl (oc := 3) rfl), (j_aload_n_0 dX3_join_53 (n := 54) rfl), (j_iload_4 dX3_join_54 (n := 56) rfl), (j_iload_5 dX3_join_56 (n := 58) rfl), (j_aload_n_0 dX3_join_58 (n := 59) rfl), (j_iload_4 dX3_join_59 (n := 61) rfl), (j_iload_n_2 dX3_join_61 (n := 62) rfl), (j_cv2i (M := mX3_join) dX3_join_62 (n := 65) rfl cM_3_25 (Or.inl rfl) lv_X3_join_X3_way rfl (oc := 3) rfl), (j_iload_n_3 dX3_join_65 (n := 66) rfl), (j_aload_n_0 dX3_join_66 (n := 67) rfl), (j_iload_n_1 dX3_join_67 (n := 68) rfl), (j_iload_5 dX3_join_68 (n := 70) rfl), (j_cv2i (M := mX3_join) dX3_join_70 (n := 73) rfl cM_3_25 (Or.inl rfl) lv_X3_join_X3_way rfl (oc := 3) rfl), (j_cv5v (M := mX3_join) dX3_join_73 (n := 76) rfl cM_3_29 (Or.inl rfl) lv_X3_join_X3_shorten rfl (oc := 3) rfl), (j_iinc_5 dX3_join_76 (n := 79) rfl ki_1), (j_goto dX3_join_79 (n := 82) rfl br_79_m56), (j_iinc_4 dX3_join_82 (n := 85) rfl ki_1), (j_goto dX3_join_85 (n := 88) rfl br_85_m72), (j_ret (M := mX3_join) dX3_join_88 (n := 89) rfl rfl), nl_x, pk_us, (j_cv2i5 (M := mX3_join) dX3_join_47 (n := 50) rfl cM_3_25 (Or.inl rfl) lv_X3_join_X3_way rfl (oc := 3) rfl), (j_cv2i5 (M := mX3_join) dX3_join_70 (n := 73) rfl cM_3_25 (Or.inl rfl) lv_X3_join_X3_way rfl (oc := 3) rfl)]
    rw [if_pos (nI_8 hm), nI_1]
    have f1 := fin_vn (a := A) (b := B) (h := H) hd hr hA hB hH (8 * k + m) hk hA
    have f2 := fin_vn (a := A) (b := B) (h := H) hd hr hA hB hH (8 * k + m) hB hm
    have f3 := fin_vn (a := A) (b := B) (h := H) hd hr hA hB hH (8 * k + m) hk hB
    have f4 := fin_vn (a := A) (b := B) (h := H) hd hr hA hB hH (8 * k + m) hA hm
    obtain ⟨v1, e1⟩ := ixN hk hA
    obtain ⟨v2, e2⟩ := ixN hB hm
    obtain ⟨v3, e3⟩ := ixN hk hB
    obtain ⟨v4, e4⟩ := ixN hA hm
    refine c_way3 _ _ _ _ v1 (c_way3 _ _ _ _ v2 ?_)
    rw [e1, e2, hS k A hk hA, hS B m hB hm]
    refine c_shorten k m _ H _ (d k m) S' _ hk hm (by rw [hS k m hk hm, vn_at]) (hd k m hk hm).1 (by unfold fin5; omega) (by unfold fin5; omega) hH ?_
    refine c_way3 _ _ _ _ v3 (c_way3 _ _ _ _ v4 ?_)
    rw [e3, e4]
    have hS2 : ∀ i j, i < 8 → j < 8 → upA S' 2 (upd (S' 2) (8 * k + m) (encC (min (d k m) (vn d A B H (8 * k + m) k A + H + vn d A B H (8 * k + m) B m)))) 2 (8 * i + j) = encC (vs d A B H (8 * k + m) k m i j) := by
      intro i j hi hj
      rw [upA_s, upd_t]
      unfold vs vm
      by_cases q : i = k ∧ j = m
      · rw [if_pos (by omega), if_pos q]
      · rw [if_neg (by omega), if_neg q]
        exact hS i j hi hj
    have g1 : fin5 (vs d A B H (8 * k + m) k m k B) := by
      unfold vs
      split
      · next q =>
        have z : vn d A B H (8 * k + m) B m = 0 := by
          rw [← q.2]
          have := vn_b d A B H (8 * k + m) B B
          rw [ht.2 B hB] at this
          rw [q.2] at this ⊢
          omega
        have := hd k m hk hm
        have p1 := pow14 (r := r) (by omega)
        unfold vm fin5
        omega
      · unfold fin5; omega
    have g2 : fin5 (vs d A B H (8 * k + m) k m A m) := by
      unfold vs
      split
      · next q =>
        have z : vn d A B H (8 * k + m) k A = 0 := by
          rw [← q.1]
          have := vn_b d A B H (8 * A + m) A A
          rw [ht.2 A hA] at this
          rw [q.1] at this ⊢
          omega
        have := hd k m hk hm
        have p1 := pow14 (r := r) (by omega)
        unfold vm fin5
        omega
      · unfold fin5; omega
    rw [hS2 k B hk hB, hS2 A m hA hm]
    refine c_shorten k m _ H _ (vm d A B H (8 * k + m) k m) _ _ hk hm (by rw [hS2 k m hk hm]; unfold vs; rw [if_pos ⟨rfl, rfl⟩]) (by have := (hd k m hk hm).1; unfold vm; omega) g1 g2 hH ?_
    refine hR _ _ ⟨rfl, frm_up (frm_up hF (by decide)) (by decide), fun i j hi hj => ?_⟩
    rw [st_c ht hA hB hk hm, vn_s hm hj, upA_s, upd_t]
    by_cases q : i = k ∧ j = m
    · rw [if_pos (by omega), if_pos q]
    · rw [if_neg (by omega), if_neg q, upA_s, upd_t, if_neg (by omega)]
      exact hS i j hi hj
  · rintro k hk _ S' ⟨rfl, hF, hS⟩ R R2 hR2
    simp only [sw3_c, sw3_n, Nat.reduceEqDiff, not_false_eq_true, Nat.zero_le, Nat.reduceLeDiff, Nat.reduceLT, Nat.reduceAdd, sg_s, ↓kif_0, ↓kif_c, ↓reduceIte, nl_n, nl_i, nl_r, List.length_cons, List.length_nil, true_and, and_true, upA_s, upA_n, upA_u, Prod.mk.injEq, and_self, Fr_1_1, oC_1, oI_1_1, oL_1, (j_aload_n_0 dX3_join_0 (n := 1) rfl), (j_dup_i dX3_join_1 (n := 2) rfl), (j_dup_r dX3_join_1 (n := 2) rfl), (j_getf dX3_join_2 (n := 5) rfl cF_3_15), (j_iconst dX3_join_5 (n := 6) rfl ki_1), (j_iadd dX3_join_6 (n := 7) rfl), (j_putf dX3_join_7 (n := 10) rfl cF_3_15), (j_iconst dX3_join_10 (n := 11) rfl ki_0), (j_istore_4 dX3_join_11 (n := 13) rfl), (j_iload_4 dX3_join_13 (n := 15) rfl), (j_bipush dX3_join_15 (n := 17) rfl kb_8), (j_ic_ge dX3_join_17 (n := 20) rfl br_17_71), (j_iconst dX3_join_20 (n := 21) rfl ki_0), (j_istore_5 dX3_join_21 (n := 23) rfl), (j_iload_5 dX3_join_23 (n := 25) rfl), (j_bipush dX3_join_25 (n := 27) rfl kb_8), (j_ic_ge dX3_join_27 (n := 30) rfl br_27_55), (j_aload_n_0 dX3_join_30 (n := 31) rfl), (j_iload_4 dX3_join_31 (n := 33) rfl), (j_iload_5 dX3_join_33 (n := 35) rfl), (j_aload_n_0 dX3_join_35 (n := 36) rfl), (j_iload_4 dX3_join_36 (n := 38) rfl), (j_iload_n_1 dX3_join_38 (n := 39) rfl), (j_cv2i (M := mX3_join) dX3_join_39 (n := 42) rfl cM_3_25 (Or.inl rfl) lv_X3_join_X3_way rfl (oc := 3) rfl), (j_iload_n_3 dX3_join_42 (n := 43) rfl), (j_aload_n_0 dX3_join_43 (n := 44) rfl), (j_iload_n_2 dX3_join_44 (n := 45) rfl), (j_iload_5 dX3_join_45 (n := 47) rfl), (j_cv2i (M := mX3_join) dX3_join_47 (n := 50) rfl cM_3_25 (Or.inl rfl) lv_X3_join_X3_way rfl (oc := 3) rfl), (j_cv5v (M := mX3_join) dX3_join_50 (n := 53) rfl cM_3_29 (Or.inl rfl) lv_X3_join_X3_shorten rfl (oc := 3) rfl), (j_aload_n_0 dX3_join_53 (n := 54) rfl), (j_iload_4 dX3_join_54 (n := 56) rfl), (j_iload_5 dX3_join_56 (n := 58) rfl), (j_aload_n_0 dX3_join_58 (n := 59) rfl), (j_iload_4 dX3_join_59 (n := 61) rfl), (j_iload_n_2 dX3_join_61 (n := 62) rfl), (j_cv2i (M := mX3_join) dX3_join_62 (n := 65) rfl cM_3_25 (Or.inl rfl) lv_X3_join_X3_way rfl (oc := 3) rfl), (j_iload_n_3 dX3_join_65 (n := 66) rfl), (j_aload_n_0 dX3_join_66 (n := 67) rfl), (j_iload_n_1 dX3_join_67 (n := 68) rfl), (j_iload_5 dX3_join_68 (n := 70) rfl), (j_cv2i (M := mX3_join) dX3_join_70 (n := 73) rfl cM_3_25 (Or.inl rfl) lv_X3_join_X3_way rfl (oc := 3) rfl), (j_cv5v (M := mX3_join) dX3_join_73 (n := 76) rfl cM_3_29 (Or.inl rfl) lv_X3_join_X3_shorten rfl (oc := 3) rfl), (j_iinc_5 dX3_join_76 (n := 79) rfl ki_1), (j_goto dX3_join_79 (n := 82) rfl br_79_m56), (j_iinc_4 dX3_join_82 (n := 85) rfl ki_1), (j_goto dX3_join_85 (n := 88) rfl br_85_m72), (j_ret (M := mX3_join) dX3_join_88 (n := 89) rfl rfl), nl_x, pk_us]
    rw [if_neg (show ¬ nI 8 < (8 : Int32) by decide), nI_1]
    exact hR2 _ _ ⟨⟨some _, rfl⟩, hF, hS⟩
  · rintro _ S' ⟨⟨x, rfl⟩, hF, hS⟩ R R2
    simp only [sw3_c, sw3_n, Nat.reduceEqDiff, not_false_eq_true, Nat.zero_le, Nat.reduceLeDiff, Nat.reduceLT, Nat.reduceAdd, sg_s, ↓kif_0, ↓kif_c, ↓reduceIte, nl_n, nl_i, nl_r, List.length_cons, List.length_nil, true_and, and_true, upA_s, upA_n, upA_u, Prod.mk.injEq, and_self, Fr_1_1, oC_1, oI_1_1, oL_1, (j_aload_n_0 dX3_join_0 (n := 1) rfl), (j_dup_i dX3_join_1 (n := 2) rfl), (j_dup_r dX3_join_1 (n := 2) rfl), (j_getf dX3_join_2 (n := 5) rfl cF_3_15), (j_iconst dX3_join_5 (n := 6) rfl ki_1), (j_iadd dX3_join_6 (n := 7) rfl), (j_putf dX3_join_7 (n := 10) rfl cF_3_15), (j_iconst dX3_join_10 (n := 11) rfl ki_0), (j_istore_4 dX3_join_11 (n := 13) rfl), (j_iload_4 dX3_join_13 (n := 15) rfl), (j_bipush dX3_join_15 (n := 17) rfl kb_8), (j_ic_ge dX3_join_17 (n := 20) rfl br_17_71), (j_iconst dX3_join_20 (n := 21) rfl ki_0), (j_istore_5 dX3_join_21 (n := 23) rfl), (j_iload_5 dX3_join_23 (n := 25) rfl), (j_bipush dX3_join_25 (n := 27) rfl kb_8), (j_ic_ge dX3_join_27 (n := 30) rfl br_27_55), (j_aload_n_0 dX3_join_30 (n := 31) rfl), (j_iload_4 dX3_join_31 (n := 33) rfl), (j_iload_5 dX3_join_33 (n := 35) rfl), (j_aload_n_0 dX3_join_35 (n := 36) rfl), (j_iload_4 dX3_join_36 (n := 38) rfl), (j_iload_n_1 dX3_join_38 (n := 39) rfl), (j_cv2i (M := mX3_join) dX3_join_39 (n := 42) rfl cM_3_25 (Or.inl rfl) lv_X3_join_X3_way rfl (oc := 3) rfl), (j_iload_n_3 dX3_join_42 (n := 43) rfl), (j_aload_n_0 dX3_join_43 (n := 44) rfl), (j_iload_n_2 dX3_join_44 (n := 45) rfl), (j_iload_5 dX3_join_45 (n := 47) rfl), (j_cv2i (M := mX3_join) dX3_join_47 (n := 50) rfl cM_3_25 (Or.inl rfl) lv_X3_join_X3_way rfl (oc := 3) rfl), (j_cv5v (M := mX3_join) dX3_join_50 (n := 53) rfl cM_3_29 (Or.inl rfl) lv_X3_join_X3_shorten rfl (oc := 3) rfl), (j_aload_n_0 dX3_join_53 (n := 54) rfl), (j_iload_4 dX3_join_54 (n := 56) rfl), (j_iload_5 dX3_join_56 (n := 58) rfl), (j_aload_n_0 dX3_join_58 (n := 59) rfl), (j_iload_4 dX3_join_59 (n := 61) rfl), (j_iload_n_2 dX3_join_61 (n := 62) rfl), (j_cv2i (M := mX3_join) dX3_join_62 (n := 65) rfl cM_3_25 (Or.inl rfl) lv_X3_join_X3_way rfl (oc := 3) rfl), (j_iload_n_3 dX3_join_65 (n := 66) rfl), (j_aload_n_0 dX3_join_66 (n := 67) rfl), (j_iload_n_1 dX3_join_67 (n := 68) rfl), (j_iload_5 dX3_join_68 (n := 70) rfl), (j_cv2i (M := mX3_join) dX3_join_70 (n := 73) rfl cM_3_25 (Or.inl rfl) lv_X3_join_X3_way rfl (oc := 3) rfl), (j_cv5v (M := mX3_join) dX3_join_73 (n := 76) rfl cM_3_29 (Or.inl rfl) lv_X3_join_X3_shorten rfl (oc := 3) rfl), (j_iinc_5 dX3_join_76 (n := 79) rfl ki_1), (j_goto dX3_join_79 (n := 82) rfl br_79_m56), (j_iinc_4 dX3_join_82 (n := 85) rfl ki_1), (j_goto dX3_join_85 (n := 88) rfl br_85_m72), (j_ret (M := mX3_join) dX3_join_88 (n := 89) rfl rfl), nl_x, pk_us]
    rw [if_neg (show ¬ nI 8 < (8 : Int32) by decide)]
    refine h _ hF (fun i j hi hj => ?_)
    rw [hS i j hi hj]
    unfold vn
    rw [if_pos (by omega)]

theorem m8 (n : Nat) : (8 : Int32) * nI n = nI n * 8 := Int32.mul_comm _ _
theorem min_nI {a b : Nat} (ha : a < 100000000) (hb : b < 100000000) : (if nI a < nI b then nI a else nI b) = nI (min a b) := by
  have e : (nI a < nI b) = (a < b) := by
    rw [lt_I, nI_toInt (by omega), nI_toInt (by omega)]
    apply propext
    omega
  simp only [e]
  split
  · rw [show min a b = a by omega]
  · rw [show min a b = b by omega]
set_option maxHeartbeats 8000000 in
theorem c_road10 (d : Nat → Nat → Nat) (A B H r : Nat) (S : xA) (f : xP) (ht : tri d) (hd : ∀ i j, i < 8 → j < 8 → d i j ≤ 1000000) (hr : S 70 1 = nI r) (hr2 : r ≤ 13) (hA : A < 8) (hB : B < 8) (hAB : ¬ A = B) (hH : 1 ≤ H ∧ H ≤ 30) (hw : ∀ i j, i < 8 → j < 8 → S 71 (8 * i + j) = nI (d i j))
    (h : ∀ S', frm [71] (upA S 70 (upd (S 70) 1 (S 70 1 + 1))) S' → (∀ i j, i < 8 → j < 8 → S' 71 (8 * i + j) = nI (dd d A B H i j)) → f (S' 70 1) S') : CI mX10_road [.ref (70 : Nat), .int (nI A), .int (nI B), .int (nI H)] S f := by
  have tA := toInt_nI (n := A) (by omega)
  have tB := toInt_nI (n := B) (by omega)
  have tH := toInt_nI (n := H) (by omega)
  have tr := toInt_nI (n := r) (by omega)
  refine ci_of (T := mX10_road) (fv := fun _ => True) (ls := [some (.ref (70 : Nat)), some (.int (nI A)), some (.int (nI B)), some (.int (nI H)), none, none, none, none]) rfl (Nat.le_of_ble_eq_true rfl) (by decide) rfl rfl rfl (ok_f2 cX10_road 10 90 65 75 8 (fun k ls S' => (∃ x y z, ls = [some (.ref (70 : Nat)), some (.int (nI A)), some (.int (nI B)), some (.int (nI H)), some (.int (nI k)), lx x, lx y, lx z]) ∧ frm [71] (upA S 70 (upd (S 70) 1 (S 70 1 + 1))) S' ∧ (∀ i j, i < 8 → j < 8 → S' 71 (8 * i + j) = nI (vn d A B H (8 * k) i j))) (fun _ => 8) (fun k m ls S' => (∃ y z, ls = [some (.ref (70 : Nat)), some (.int (nI A)), some (.int (nI B)), some (.int (nI H)), some (.int (nI k)), some (.int (nI m)), lx y, lx z]) ∧ frm [71] (upA S 70 (upd (S 70) 1 (S 70 1 + 1))) S' ∧ (∀ i j, i < 8 → j < 8 → S' 71 (8 * i + j) = nI (vn d A B H (8 * k + m) i j))) rfl rfl ?_ ?_ ?_ ?_ ?_)
  · intro R hR
    simp only [sw3_c, sw3_n, Nat.reduceEqDiff, not_false_eq_true, Nat.zero_le, Nat.reduceLeDiff, Nat.reduceLT, Nat.reduceAdd, sg_s, ↓kif_0, ↓kif_c, ↓reduceIte, nl_n, nl_i, nl_r, List.length_cons, List.length_nil, true_and, and_true, upA_s, upA_n, upA_u, Prod.mk.injEq, and_self, Fr_70_1, Fr_70_2, Ld_71, oA_71, oI_70_1, oL_70, (j_iload_n_1 dX10_road_0 (n := 1) rfl), (j_cs1i (M := mX10_road) dX10_road_1 (n := 4) rfl cM_10_158 (Or.inl rfl) (o := 10) rfl lv_X10_road_X10_isTown rfl), (j_if_eq dX10_road_4 (n := 7) rfl br_4_10), (j_iload_n_2 dX10_road_7 (n := 8) rfl), (j_cs1i (M := mX10_road) dX10_road_8 (n := 11) rfl cM_10_158 (Or.inl rfl) (o := 10) rfl lv_X10_road_X10_isTown rfl), (j_if_ne dX10_road_11 (n := 14) rfl br_11_7), (j_sipush dX10_road_14 (n := 17) rfl ks_m1001), (j_iret dX10_road_17 (n := 18) rfl), (j_iload_n_1 dX10_road_18 (n := 19) rfl), (j_iload_n_2 dX10_road_19 (n := 20) rfl), (j_ic_eq dX10_road_20 (n := 23) rfl br_20_15), (j_iload_n_3 dX10_road_23 (n := 24) rfl), (j_i2l dX10_road_24 (n := 25) rfl), (j_lconst dX10_road_25 (n := 26) rfl (v := 1) (by decide)), (j_ldc2 dX10_road_26 (n := 29) rfl cJ_10_162), (j_cs3i (M := mX10_road) dX10_road_29 (n := 32) rfl cM_10_150 (Or.inl rfl) (o := 10) rfl lv_X10_road_X10_in rfl), (j_if_ne dX10_road_32 (n := 35) rfl br_32_7), (j_sipush dX10_road_35 (n := 38) rfl ks_m1002), (j_iret dX10_road_38 (n := 39) rfl), (j_aload_n_0 dX10_road_39 (n := 40) rfl), (j_getf dX10_road_40 (n := 43) rfl cF_10_164), (j_bipush dX10_road_43 (n := 45) rfl kb_14), (j_ic_ne dX10_road_45 (n := 48) rfl br_45_7), (j_sipush dX10_road_48 (n := 51) rfl ks_m1004), (j_iret dX10_road_51 (n := 52) rfl), (j_aload_n_0 dX10_road_52 (n := 53) rfl), (j_dup_i dX10_road_53 (n := 54) rfl), (j_dup_r dX10_road_53 (n := 54) rfl), (j_getf dX10_road_54 (n := 57) rfl cF_10_164), (j_iconst dX10_road_57 (n := 58) rfl ki_1), (j_iadd dX10_road_58 (n := 59) rfl), (j_putf dX10_road_59 (n := 62) rfl cF_10_164), (j_iconst dX10_road_62 (n := 63) rfl ki_0), (j_istore_4 dX10_road_63 (n := 65) rfl), (j_iload_4 dX10_road_65 (n := 67) rfl), (j_bipush dX10_road_67 (n := 69) rfl kb_8), (j_ic_ge dX10_road_69 (n := 72) rfl br_69_119), (j_iconst dX10_road_72 (n := 73) rfl ki_0), (j_istore_5 dX10_road_73 (n := 75) rfl), (j_iload_5 dX10_road_75 (n := 77) rfl), (j_bipush dX10_road_77 (n := 79) rfl kb_8), (j_ic_ge dX10_road_79 (n := 82) rfl br_79_103), (j_aload_n_0 dX10_road_82 (n := 83) rfl), (j_getf dX10_road_83 (n := 86) rfl cF_10_7), (j_bipush dX10_road_86 (n := 88) rfl kb_8), (j_iload_4 dX10_road_88 (n := 90) rfl), (j_imul dX10_road_90 (n := 91) rfl), (j_iload_n_1 dX10_road_91 (n := 92) rfl), (j_iadd dX10_road_92 (n := 93) rfl), (j_iald dX10_road_93 (n := 94) rfl), (j_iload_n_3 dX10_road_94 (n := 95) rfl), (j_iadd dX10_road_95 (n := 96) rfl), (j_aload_n_0 dX10_road_96 (n := 97) rfl), (j_getf dX10_road_97 (n := 100) rfl cF_10_7), (j_bipush dX10_road_100 (n := 102) rfl kb_8), (j_iload_n_2 dX10_road_102 (n := 103) rfl), (j_imul dX10_road_103 (n := 104) rfl), (j_iload_5 dX10_road_104 (n := 106) rfl), (j_iadd dX10_road_106 (n := 107) rfl), (j_iald dX10_road_107 (n := 108) rfl), (j_iadd dX10_road_108 (n := 109) rfl), (j_istore_6 dX10_road_109 (n := 111) rfl), (j_aload_n_0 dX10_road_111 (n := 112) rfl), (j_getf dX10_road_112 (n := 115) rfl cF_10_7), (j_bipush dX10_road_115 (n := 117) rfl kb_8), (j_iload_4 dX10_road_117 (n := 119) rfl), (j_imul dX10_road_119 (n := 120) rfl), (j_iload_n_2 dX10_road_120 (n := 121) rfl), (j_iadd dX10_road_121 (n := 122) rfl), (j_iald dX10_road_122 (n := 123) rfl), (j_iload_n_3 dX10_road_123 (n := 124) rfl), (j_iadd dX10_road_124 (n := 125) rfl), (j_aload_n_0 dX10_road_125 (n := 126) rfl), (j_getf dX10_road_126 (n := 129) rfl cF_10_7), (j_bipush dX10_road_129 (n := 131) rfl kb_8), (j_iload_n_1 dX10_road_131 (n := 132) rfl), (j_imul dX10_road_132 (n := 133) rfl), (j_iload_5 dX10_road_133 (n := 135) rfl), (j_iadd dX10_road_135 (n := 136) rfl), (j_iald dX10_road_136 (n := 137) rfl), (j_iadd dX10_road_137 (n := 138) rfl), (j_istore_7 dX10_road_138 (n := 140) rfl), (j_aload_n_0 dX10_road_140 (n := 141) rfl), (j_getf dX10_road_141 (n := 144) rfl cF_10_7), (j_bipush dX10_road_144 (n := 146) rfl kb_8), (j_iload_4 dX10_road_146 (n := 148) rfl), (j_imul dX10_road_148 (n := 149) rfl), (j_iload_5 dX10_road_149 (n := 151) rfl), (j_iadd dX10_road_151 (n := 152) rfl), (j_aload_n_0 dX10_road_152 (n := 153) rfl), (j_getf dX10_road_153 (n := 156) rfl cF_10_7), (j_bipush dX10_road_156 (n := 158) rfl kb_8), (j_iload_4 dX10_road_158 (n := 160) rfl), (j_imul dX10_road_160 (n := 161) rfl), (j_iload_5 dX10_road_161 (n := 163) rfl), (j_iadd dX10_road_163 (n := 164) rfl), (j_iald dX10_road_164 (n := 165) rfl), (j_iload_6 dX10_road_165 (n := 167) rfl), (j_iload_7 dX10_road_167 (n := 169) rfl), (j_cs2i (M := mX10_road) dX10_road_169 (n := 172) rfl cM_10_167 (Or.inl rfl) (o := 10) rfl lv_X10_road_X10_least rfl), (j_cs2i (M := mX10_road) dX10_road_172 (n := 175) rfl cM_10_167 (Or.inl rfl) (o := 10) rfl lv_X10_road_X10_least rfl), (j_iast dX10_road_175 (n := 176) rfl), (j_iinc_5 dX10_road_176 (n := 179) rfl ki_1), (j_goto dX10_road_179 (n := 182) rfl br_179_m104), (j_iinc_4 dX10_road_182 (n := 185) rfl ki_1), (j_goto dX10_road_185 (n := 188) rfl br_185_m120), (j_aload_n_0 dX10_road_188 (n := 189) rfl), (j_getf dX10_road_189 (n := 192) rfl cF_10_164), (j_iret dX10_road_192 (n := 193) rfl), rOk_i (M := mX10_road) rfl, nl_x, pk_us]
    refine c_isTown _ _ _ ?_
    simp only [bI_0, decide_eq_false_iff_not]
    refine ite_i (fun q => absurd (by omega) q) (fun _ => ?_)
    refine c_isTown _ _ _ ?_
    simp only [bI_0, decide_eq_false_iff_not]
    refine ite_i (fun q => absurd (by omega) q) (fun _ => ?_)
    refine ite_i (fun q => absurd q (by rw [eq_I, tA, tB]; omega)) (fun _ => ?_)
    refine c_in _ _ _ _ _ ?_
    simp only [bI_0, decide_eq_false_iff_not, wid_I, tj_1, tj_30]
    refine ite_i (fun q => absurd (by omega) q) (fun _ => ?_)
    refine ite_i (fun q => absurd q (by rw [hr, eq_I, tr, ti_14]; omega)) (fun _ => ?_)
    refine hR _ _ ⟨⟨none, none, none, rfl⟩, frm_rf _ _, fun i j hi hj => ?_⟩
    simp only [upA_s, upA_n, upA_u, Nat.reduceEqDiff, not_false_eq_true, pk_us, upd_n]
    rw [hw i j hi hj]
    unfold vn
    rw [if_neg (by omega)]
  · rintro k hk _ S' ⟨⟨x, y, z, rfl⟩, hF, hS⟩ R R2 hR hR2
    simp only [sw3_c, sw3_n, Nat.reduceEqDiff, not_false_eq_true, Nat.zero_le, Nat.reduceLeDiff, Nat.reduceLT, Nat.reduceAdd, sg_s, ↓kif_0, ↓kif_c, ↓reduceIte, nl_n, nl_i, nl_r, List.length_cons, List.length_nil, true_and, and_true, upA_s, upA_n, upA_u, Prod.mk.injEq, and_self, Fr_70_1, Fr_70_2, Ld_71, oA_71, oI_70_1, oL_70, (j_iload_n_1 dX10_road_0 (n := 1) rfl), (j_cs1i (M := mX10_road) dX10_road_1 (n := 4) rfl cM_10_158 (Or.inl rfl) (o := 10) rfl lv_X10_road_X10_isTown rfl), (j_if_eq dX10_road_4 (n := 7) rfl br_4_10), (j_iload_n_2 dX10_road_7 (n := 8) rfl), (j_cs1i (M := mX10_road) dX10_road_8 (n := 11) rfl cM_10_158 (Or.inl rfl) (o := 10) rfl lv_X10_road_X10_isTown rfl), (j_if_ne dX10_road_11 (n := 14) rfl br_11_7), (j_sipush dX10_road_14 (n := 17) rfl ks_m1001), (j_iret dX10_road_17 (n := 18) rfl), (j_iload_n_1 dX10_road_18 (n := 19) rfl), (j_iload_n_2 dX10_road_19 (n := 20) rfl), (j_ic_eq dX10_road_20 (n := 23) rfl br_20_15), (j_iload_n_3 dX10_road_23 (n := 24) rfl), (j_i2l dX10_road_24 (n := 25) rfl), (j_lconst dX10_road_25 (n := 26) rfl (v := 1) (by decide)), (j_ldc2 dX10_road_26 (n := 29) rfl cJ_10_162), (j_cs3i (M := mX10_road) dX10_road_29 (n := 32) rfl cM_10_150 (Or.inl rfl) (o := 10) rfl lv_X10_road_X10_in rfl), (j_if_ne dX10_road_32 (n := 35) rfl br_32_7), (j_sipush dX10_road_35 (n := 38) rfl ks_m1002), (j_iret dX10_road_38 (n := 39) rfl), (j_aload_n_0 dX10_road_39 (n := 40) rfl), (j_getf dX10_road_40 (n := 43) rfl cF_10_164), (j_bipush dX10_road_43 (n := 45) rfl kb_14), (j_ic_ne dX10_road_45 (n := 48) rfl br_45_7), (j_sipush dX10_road_48 (n := 51) rfl ks_m1004), (j_iret dX10_road_51 (n := 52) rfl), (j_aload_n_0 dX10_road_52 (n := 53) rfl), (j_dup_i dX10_road_53 (n := 54) rfl), (j_dup_r dX10_road_53 (n := 54) rfl), (j_getf dX10_road_54 (n := 57) rfl cF_10_164), (j_iconst dX10_road_57 (n := 58) rfl ki_1), (j_iadd dX10_road_58 (n := 59) rfl), (j_putf dX10_road_59 (n := 62) rfl cF_10_164), (j_iconst dX10_road_62 (n := 63) rfl ki_0), (j_istore_4 dX10_road_63 (n := 65) rfl), (j_iload_4 dX10_road_65 (n := 67) rfl), (j_bipush dX10_road_67 (n := 69) rfl kb_8), (j_ic_ge dX10_road_69 (n := 72) rfl br_69_119), (j_iconst dX10_road_72 (n := 73) rfl ki_0), (j_istore_5 dX10_road_73 (n := 75) rfl), (j_iload_5 dX10_road_75 (n := 77) rfl), (j_bipush dX10_road_77 (n := 79) rfl kb_8), (j_ic_ge dX10_road_79 (n := 82) rfl br_79_103), (j_aload_n_0 dX10_road_82 (n := 83) rfl), (j_getf dX10_road_83 (n := 86) rfl cF_10_7), (j_bipush dX10_road_86 (n := 88) rfl kb_8), (j_iload_4 dX10_road_88 (n := 90) rfl), (j_imul dX10_road_90 (n := 91) rfl), (j_iload_n_1 dX10_road_91 (n := 92) rfl), (j_iadd dX10_road_92 (n := 93) rfl), (j_iald dX10_road_93 (n := 94) rfl), (j_iload_n_3 dX10_road_94 (n := 95) rfl), (j_iadd dX10_road_95 (n := 96) rfl), (j_aload_n_0 dX10_road_96 (n := 97) rfl), (j_getf dX10_road_97 (n := 100) rfl cF_10_7), (j_bipush dX10_road_100 (n := 102) rfl kb_8), (j_iload_n_2 dX10_road_102 (n := 103) rfl), (j_imul dX10_road_103 (n := 104) rfl), (j_iload_5 dX10_road_104 (n := 106) rfl), (j_iadd dX10_road_106 (n := 107) rfl), (j_iald dX10_road_107 (n := 108) rfl), (j_iadd dX10_road_108 (n := 109) rfl), (j_istore_6 dX10_road_109 (n := 111) rfl), (j_aload_n_0 dX10_road_111 (n := 112) rfl), (j_getf dX10_road_112 (n := 115) rfl cF_10_7), (j_bipush dX10_road_115 (n := 117) rfl kb_8), (j_iload_4 dX10_road_117 (n := 119) rfl), (j_imul dX10_road_119 (n := 120) rfl), (j_iload_n_2 dX10_road_120 (n := 121) rfl), (j_iadd dX10_road_121 (n := 122) rfl), (j_iald dX10_road_122 (n := 123) rfl), (j_iload_n_3 dX10_road_123 (n := 124) rfl), (j_iadd dX10_road_124 (n := 125) rfl), (j_aload_n_0 dX10_road_125 (n := 126) rfl), (j_getf dX10_road_126 (n := 129) rfl cF_10_7), (j_bipush dX10_road_129 (n := 131) rfl kb_8), (j_iload_n_1 dX10_road_131 (n := 132) rfl), (j_imul dX10_road_132 (n := 133) rfl), (j_iload_5 dX10_road_133 (n := 135) rfl), (j_iadd dX10_road_135 (n := 136) rfl), (j_iald dX10_road_136 (n := 137) rfl), (j_iadd dX10_road_137 (n := 138) rfl), (j_istore_7 dX10_road_138 (n := 140) rfl), (j_aload_n_0 dX10_road_140 (n := 141) rfl), (j_getf dX10_road_141 (n := 144) rfl cF_10_7), (j_bipush dX10_road_144 (n := 146) rfl kb_8), (j_iload_4 dX10_road_146 (n := 148) rfl), (j_imul dX10_road_148 (n := 149) rfl), (j_iload_5 dX10_road_149 (n := 151) rfl), (j_iadd dX10_road_151 (n := 152) rfl), (j_aload_n_0 dX10_road_152 (n := 153) rfl), (j_getf dX10_road_153 (n := 156) rfl cF_10_7), (j_bipush dX10_road_156 (n := 158) rfl kb_8), (j_iload_4 dX10_road_158 (n := 160) rfl), (j_imul dX10_road_160 (n := 161) rfl), (j_iload_5 dX10_road_161 (n := 163) rfl), (j_iadd dX10_road_163 (n := 164) rfl), (j_iald dX10_road_164 (n := 165) rfl), (j_iload_6 dX10_road_165 (n := 167) rfl), (j_iload_7 dX10_road_167 (n := 169) rfl), (j_cs2i (M := mX10_road) dX10_road_169 (n := 172) rfl cM_10_167 (Or.inl rfl) (o := 10) rfl lv_X10_road_X10_least rfl), (j_cs2i (M := mX10_road) dX10_road_172 (n := 175) rfl cM_10_167 (Or.inl rfl) (o := 10) rfl lv_X10_road_X10_least rfl), (j_iast dX10_road_175 (n := 176) rfl), (j_iinc_5 dX10_road_176 (n := 179) rfl ki_1), (j_goto dX10_road_179 (n := 182) rfl br_179_m104), (j_iinc_4 dX10_road_182 (n := 185) rfl ki_1), (j_goto dX10_road_185 (n := 188) rfl br_185_m120), (j_aload_n_0 dX10_road_188 (n := 189) rfl), (j_getf dX10_road_189 (n := 192) rfl cF_10_164), (j_iret dX10_road_192 (n := 193) rfl), rOk_i (M := mX10_road) rfl, nl_x, pk_us]
    rw [if_pos (nI_8 hk)]
    exact hR _ _ ⟨⟨y, z, rfl⟩, hF, hS⟩
  · rintro k hk m hm _ S' ⟨⟨y, z, rfl⟩, hF, hS⟩ R R2 hR hR2
    simp only [sw3_c, sw3_n, Nat.reduceEqDiff, not_false_eq_true, Nat.zero_le, Nat.reduceLeDiff, Nat.reduceLT, Nat.reduceAdd, sg_s, ↓kif_0, ↓kif_c, ↓reduceIte, nl_n, nl_i, nl_r, List.length_cons, List.length_nil, true_and, and_true, upA_s, upA_n, upA_u, Prod.mk.injEq, and_self, Fr_70_1, Fr_70_2, Ld_71, oA_71, oI_70_1, oL_70, (j_iload_n_1 dX10_road_0 (n := 1) rfl), (j_cs1i (M := mX10_road) dX10_road_1 (n := 4) rfl cM_10_158 (Or.inl rfl) (o := 10) rfl lv_X10_road_X10_isTown rfl), (j_if_eq dX10_road_4 (n := 7) rfl br_4_10), (j_iload_n_2 dX10_road_7 (n := 8) rfl), (j_cs1i (M := mX10_road) dX10_road_8 (n := 11) rfl cM_10_158 (Or.inl rfl) (o := 10) rfl lv_X10_road_X10_isTown rfl), (j_if_ne dX10_road_11 (n := 14) rfl br_11_7), (j_sipush dX10_road_14 (n := 17) rfl ks_m1001), (j_iret dX10_road_17 (n := 18) rfl), (j_iload_n_1 dX10_road_18 (n := 19) rfl), (j_iload_n_2 dX10_road_19 (n := 20) rfl), (j_ic_eq dX10_road_20 (n := 23) rfl br_20_15), (j_iload_n_3 dX10_road_23 (n := 24) rfl), (j_i2l dX10_road_24 (n := 25) rfl), (j_lconst dX10_road_25 (n := 26) rfl (v := 1) (by decide)), (j_ldc2 dX10_road_26 (n := 29) rfl cJ_10_162), (j_cs3i (M := mX10_road) dX10_road_29 (n := 32) rfl cM_10_150 (Or.inl rfl) (o := 10) rfl lv_X10_road_X10_in rfl), (j_if_ne dX10_road_32 (n := 35) rfl br_32_7), (j_sipush dX10_road_35 (n := 38) rfl ks_m1002), (j_iret dX10_road_38 (n := 39) rfl), (j_aload_n_0 dX10_road_39 (n := 40) rfl), (j_getf dX10_road_40 (n := 43) rfl cF_10_164), (j_bipush dX10_road_43 (n := 45) rfl kb_14), (j_ic_ne dX10_road_45 (n := 48) rfl br_45_7), (j_sipush dX10_road_48 (n := 51) rfl ks_m1004), (j_iret dX10_road_51 (n := 52) rfl), (j_aload_n_0 dX10_road_52 (n := 53) rfl), (j_dup_i dX10_road_53 (n := 54) rfl), (j_dup_r dX10_road_53 (n := 54) rfl), (j_getf dX10_road_54 (n := 57) rfl cF_10_164), (j_iconst dX10_road_57 (n := 58) rfl ki_1), (j_iadd dX10_road_58 (n := 59) rfl), (j_putf dX10_road_59 (n := 62) rfl cF_10_164), (j_iconst dX10_road_62 (n := 63) rfl ki_0), (j_istore_4 dX10_road_63 (n := 65) rfl), (j_iload_4 dX10_road_65 (n := 67) rfl), (j_bipush dX10_road_67 (n := 69) rfl kb_8), (j_ic_ge dX10_road_69 (n := 72) rfl br_69_119), (j_iconst dX10_road_72 (n := 73) rfl ki_0), (j_istore_5 dX10_road_73 (n := 75) rfl), (j_iload_5 dX10_road_75 (n := 77) rfl), (j_bipush dX10_road_77 (n := 79) rfl kb_8), (j_ic_ge dX10_road_79 (n := 82) rfl br_79_103), (j_aload_n_0 dX10_road_82 (n := 83) rfl), (j_getf dX10_road_83 (n := 86) rfl cF_10_7), (j_bipush dX10_road_86 (n := 88) rfl kb_8), (j_iload_4 dX10_road_88 (n := 90) rfl), (j_imul dX10_road_90 (n := 91) rfl), (j_iload_n_1 dX10_road_91 (n := 92) rfl), (j_iadd dX10_road_92 (n := 93) rfl), (j_iald dX10_road_93 (n := 94) rfl), (j_iload_n_3 dX10_road_94 (n := 95) rfl), (j_iadd dX10_road_95 (n := 96) rfl), (j_aload_n_0 dX10_road_96 (n := 97) rfl), (j_getf dX10_road_97 (n := 100) rfl cF_10_7), (j_bipush dX10_road_100 (n := 102) rfl kb_8), (j_iload_n_2 dX10_road_102 (n := 103) rfl), (j_imul dX10_road_103 (n := 104) rfl), (j_iload_5 dX10_road_104 (n := 106) rfl), (j_iadd dX10_road_106 (n := 107) rfl), (j_iald dX10_road_107 (n := 108) rfl), (j_iadd dX10_road_108 (n := 109) rfl), (j_istore_6 dX10_road_109 (n := 111) rfl), (j_aload_n_0 dX10_road_111 (n := 112) rfl), (j_getf dX10_road_112 (n := 115) rfl cF_10_7), (j_bipush dX10_road_115 (n := 117) rfl kb_8), (j_iload_4 dX10_road_117 (n := 119) rfl), (j_imul dX10_road_119 (n := 120) rfl), (j_iload_n_2 dX10_road_120 (n := 121) rfl), (j_iadd dX10_road_121 (n := 122) rfl), (j_iald dX10_road_122 (n := 123) rfl), (j_iload_n_3 dX10_road_123 (n := 124) rfl), (j_iadd dX10_road_124 (n := 125) rfl), (j_aload_n_0 dX10_road_125 (n := 126) rfl), (j_getf dX10_road_126 (n := 129) rfl cF_10_7), (j_bipush dX10_road_129 (n := 131) rfl kb_8), (j_iload_n_1 dX10_road_131 (n := 132) rfl), (j_imul dX10_road_132 (n := 133) rfl), (j_iload_5 dX10_road_133 (n := 135) rfl), (j_iadd dX10_road_135 (n := 136) rfl), (j_iald dX10_road_136 (n := 137) rfl), (j_iadd dX10_road_137 (n := 138) rfl), (j_istore_7 dX10_road_138 (n := 140) rfl), (j_aload_n_0 dX10_road_140 (n := 141) rfl), (j_getf dX10_road_141 (n := 144) rfl cF_10_7), (j_bipush dX10_road_144 (n := 146) rfl kb_8), (j_iload_4 dX10_road_146 (n := 148) rfl), (j_imul dX10_road_148 (n := 149) rfl), (j_iload_5 dX10_road_149 (n := 151) rfl), (j_iadd dX10_road_151 (n := 152) rfl), (j_aload_n_0 dX10_road_152 (n := 153) rfl), (j_getf dX10_road_153 (n := 156) rfl cF_10_7), (j_bipush dX10_road_156 (n := 158) rfl kb_8), (j_iload_4 dX10_road_158 (n := 160) rfl), (j_imul dX10_road_160 (n := 161) rfl), (j_iload_5 dX10_road_161 (n := 163) rfl), (j_iadd dX10_road_163 (n := 164) rfl), (j_iald dX10_road_164 (n := 165) rfl), (j_iload_6 dX10_road_165 (n := 167) rfl), (j_iload_7 dX10_road_167 (n := 169) rfl), (j_cs2i (M := mX10_road) dX10_road_169 (n := 172) rfl cM_10_167 (Or.inl rfl) (o := 10) rfl lv_X10_road_X10_least rfl), (j_cs2i (M := mX10_road) dX10_road_172 (n := 175) rfl cM_10_167 (Or.inl rfl) (o := 10) rfl lv_X10_road_X10_least rfl), (j_iast dX10_road_175 (n := 176) rfl), (j_iinc_5 dX10_road_176 (n := 179) rfl ki_1), (j_goto dX10_road_179 (n := 182) rfl br_179_m104), (j_iinc_4 dX10_road_182 (n := 185) rfl ki_1), (j_goto dX10_road_185 (n := 188) rfl br_185_m120), (j_aload_n_0 dX10_road_188 (n := 189) rfl), (j_getf dX10_road_189 (n := 192) rfl cF_10_164), (j_iret dX10_road_192 (n := 193) rfl), rOk_i (M := mX10_road) rfl, nl_x, pk_us, m8]
    rw [if_pos (nI_8 hm)]
    have b1 := (vn_b d A B H (8 * k + m) k A).2
    have b2 := (vn_b d A B H (8 * k + m) B m).2
    have b3 := (vn_b d A B H (8 * k + m) k B).2
    have b4 := (vn_b d A B H (8 * k + m) A m).2
    have d1 := hd k A hk hA
    have d2 := hd B m hB hm
    have d3 := hd k B hk hB
    have d4 := hd A m hA hm
    have d5 := hd k m hk hm
    obtain ⟨v1, e1⟩ := ixN hk hA
    obtain ⟨v2, e2⟩ := ixN hB hm
    obtain ⟨v3, e3⟩ := ixN hk hB
    obtain ⟨v4, e4⟩ := ixN hA hm
    obtain ⟨v5, e5⟩ := ixN hk hm
    rw [e1, e2, e3, e4, e5, hS k A hk hA, hS B m hB hm, hS k B hk hB, hS A m hA hm, hS k m hk hm, vn_at]
    simp only [nI_1, nI_add]
    refine ⟨v1, v2, v3, v4, v5, c_least _ _ _ _ (c_least _ _ _ _ ⟨v5, ?_⟩)⟩
    rw [min_nI (by omega) (by omega), min_nI (by omega) (by omega), st_m ht hA hB hk hm]
    refine hR _ _ ⟨⟨some _, some _, rfl⟩, frm_up hF (by decide), fun i j hi hj => ?_⟩
    rw [vn_s hm hj, upA_s, upd_t]
    by_cases q : i = k ∧ j = m
    · rw [if_pos (by omega), if_pos q]
    · rw [if_neg (by omega), if_neg q]
      exact hS i j hi hj
  · rintro k hk _ S' ⟨⟨y, z, rfl⟩, hF, hS⟩ R R2 hR2
    simp only [sw3_c, sw3_n, Nat.reduceEqDiff, not_false_eq_true, Nat.zero_le, Nat.reduceLeDiff, Nat.reduceLT, Nat.reduceAdd, sg_s, ↓kif_0, ↓kif_c, ↓reduceIte, nl_n, nl_i, nl_r, List.length_cons, List.length_nil, true_and, and_true, upA_s, upA_n, upA_u, Prod.mk.injEq, and_self, Fr_70_1, Fr_70_2, Ld_71, oA_71, oI_70_1, oL_70, (j_iload_n_1 dX10_road_0 (n := 1) rfl), (j_cs1i (M := mX10_road) dX10_road_1 (n := 4) rfl cM_10_158 (Or.inl rfl) (o := 10) rfl lv_X10_road_X10_isTown rfl), (j_if_eq dX10_road_4 (n := 7) rfl br_4_10), (j_iload_n_2 dX10_road_7 (n := 8) rfl), (j_cs1i (M := mX10_road) dX10_road_8 (n := 11) rfl cM_10_158 (Or.inl rfl) (o := 10) rfl lv_X10_road_X10_isTown rfl), (j_if_ne dX10_road_11 (n := 14) rfl br_11_7), (j_sipush dX10_road_14 (n := 17) rfl ks_m1001), (j_iret dX10_road_17 (n := 18) rfl), (j_iload_n_1 dX10_road_18 (n := 19) rfl), (j_iload_n_2 dX10_road_19 (n := 20) rfl), (j_ic_eq dX10_road_20 (n := 23) rfl br_20_15), (j_iload_n_3 dX10_road_23 (n := 24) rfl), (j_i2l dX10_road_24 (n := 25) rfl), (j_lconst dX10_road_25 (n := 26) rfl (v := 1) (by decide)), (j_ldc2 dX10_road_26 (n := 29) rfl cJ_10_162), (j_cs3i (M := mX10_road) dX10_road_29 (n := 32) rfl cM_10_150 (Or.inl rfl) (o := 10) rfl lv_X10_road_X10_in rfl), (j_if_ne dX10_road_32 (n := 35) rfl br_32_7), (j_sipush dX10_road_35 (n := 38) rfl ks_m1002), (j_iret dX10_road_38 (n := 39) rfl), (j_aload_n_0 dX10_road_39 (n := 40) rfl), (j_getf dX10_road_40 (n := 43) rfl cF_10_164), (j_bipush dX10_road_43 (n := 45) rfl kb_14), (j_ic_ne dX10_road_45 (n := 48) rfl br_45_7), (j_sipush dX10_road_48 (n := 51) rfl ks_m1004), (j_iret dX10_road_51 (n := 52) rfl), (j_aload_n_0 dX10_road_52 (n := 53) rfl), (j_dup_i dX10_road_53 (n := 54) rfl), (j_dup_r dX10_road_53 (n := 54) rfl), (j_getf dX10_road_54 (n := 57) rfl cF_10_164), (j_iconst dX10_road_57 (n := 58) rfl ki_1), (j_iadd dX10_road_58 (n := 59) rfl), (j_putf dX10_road_59 (n := 62) rfl cF_10_164), (j_iconst dX10_road_62 (n := 63) rfl ki_0), (j_istore_4 dX10_road_63 (n := 65) rfl), (j_iload_4 dX10_road_65 (n := 67) rfl), (j_bipush dX10_road_67 (n := 69) rfl kb_8), (j_ic_ge dX10_road_69 (n := 72) rfl br_69_119), (j_iconst dX10_road_72 (n := 73) rfl ki_0), (j_istore_5 dX10_road_73 (n := 75) rfl), (j_iload_5 dX10_road_75 (n := 77) rfl), (j_bipush dX10_road_77 (n := 79) rfl kb_8), (j_ic_ge dX10_road_79 (n := 82) rfl br_79_103), (j_aload_n_0 dX10_road_82 (n := 83) rfl), (j_getf dX10_road_83 (n := 86) rfl cF_10_7), (j_bipush dX10_road_86 (n := 88) rfl kb_8), (j_iload_4 dX10_road_88 (n := 90) rfl), (j_imul dX10_road_90 (n := 91) rfl), (j_iload_n_1 dX10_road_91 (n := 92) rfl), (j_iadd dX10_road_92 (n := 93) rfl), (j_iald dX10_road_93 (n := 94) rfl), (j_iload_n_3 dX10_road_94 (n := 95) rfl), (j_iadd dX10_road_95 (n := 96) rfl), (j_aload_n_0 dX10_road_96 (n := 97) rfl), (j_getf dX10_road_97 (n := 100) rfl cF_10_7), (j_bipush dX10_road_100 (n := 102) rfl kb_8), (j_iload_n_2 dX10_road_102 (n := 103) rfl), (j_imul dX10_road_103 (n := 104) rfl), (j_iload_5 dX10_road_104 (n := 106) rfl), (j_iadd dX10_road_106 (n := 107) rfl), (j_iald dX10_road_107 (n := 108) rfl), (j_iadd dX10_road_108 (n := 109) rfl), (j_istore_6 dX10_road_109 (n := 111) rfl), (j_aload_n_0 dX10_road_111 (n := 112) rfl), (j_getf dX10_road_112 (n := 115) rfl cF_10_7), (j_bipush dX10_road_115 (n := 117) rfl kb_8), (j_iload_4 dX10_road_117 (n := 119) rfl), (j_imul dX10_road_119 (n := 120) rfl), (j_iload_n_2 dX10_road_120 (n := 121) rfl), (j_iadd dX10_road_121 (n := 122) rfl), (j_iald dX10_road_122 (n := 123) rfl), (j_iload_n_3 dX10_road_123 (n := 124) rfl), (j_iadd dX10_road_124 (n := 125) rfl), (j_aload_n_0 dX10_road_125 (n := 126) rfl), (j_getf dX10_road_126 (n := 129) rfl cF_10_7), (j_bipush dX10_road_129 (n := 131) rfl kb_8), (j_iload_n_1 dX10_road_131 (n := 132) rfl), (j_imul dX10_road_132 (n := 133) rfl), (j_iload_5 dX10_road_133 (n := 135) rfl), (j_iadd dX10_road_135 (n := 136) rfl), (j_iald dX10_road_136 (n := 137) rfl), (j_iadd dX10_road_137 (n := 138) rfl), (j_istore_7 dX10_road_138 (n := 140) rfl), (j_aload_n_0 dX10_road_140 (n := 141) rfl), (j_getf dX10_road_141 (n := 144) rfl cF_10_7), (j_bipush dX10_road_144 (n := 146) rfl kb_8), (j_iload_4 dX10_road_146 (n := 148) rfl), (j_imul dX10_road_148 (n := 149) rfl), (j_iload_5 dX10_road_149 (n := 151) rfl), (j_iadd dX10_road_151 (n := 152) rfl), (j_aload_n_0 dX10_road_152 (n := 153) rfl), (j_getf dX10_road_153 (n := 156) rfl cF_10_7), (j_bipush dX10_road_156 (n := 158) rfl kb_8), (j_iload_4 dX10_road_158 (n := 160) rfl), (j_imul dX10_road_160 (n := 161) rfl), (j_iload_5 dX10_road_161 (n := 163) rfl), (j_iadd dX10_road_163 (n := 164) rfl), (j_iald dX10_road_164 (n := 165) rfl), (j_iload_6 dX10_road_165 (n := 167) rfl), (j_iload_7 dX10_road_167 (n := 169) rfl), (j_cs2i (M := mX10_road) dX10_road_169 (n := 172) rfl cM_10_167 (Or.inl rfl) (o := 10) rfl lv_X10_road_X10_least rfl), (j_cs2i (M := mX10_road) dX10_road_172 (n := 175) rfl cM_10_167 (Or.inl rfl) (o := 10) rfl lv_X10_road_X10_least rfl), (j_iast dX10_road_175 (n := 176) rfl), (j_iinc_5 dX10_road_176 (n := 179) rfl ki_1), (j_goto dX10_road_179 (n := 182) rfl br_179_m104), (j_iinc_4 dX10_road_182 (n := 185) rfl ki_1), (j_goto dX10_road_185 (n := 188) rfl br_185_m120), (j_aload_n_0 dX10_road_188 (n := 189) rfl), (j_getf dX10_road_189 (n := 192) rfl cF_10_164), (j_iret dX10_road_192 (n := 193) rfl), rOk_i (M := mX10_road) rfl, nl_x, pk_us]
    rw [if_neg (show ¬ nI 8 < (8 : Int32) by decide), nI_1]
    exact hR2 _ _ ⟨⟨some _, y, z, rfl⟩, hF, hS⟩
  · rintro _ S' ⟨⟨x, y, z, rfl⟩, hF, hS⟩ R R2
    simp only [sw3_c, sw3_n, Nat.reduceEqDiff, not_false_eq_true, Nat.zero_le, Nat.reduceLeDiff, Nat.reduceLT, Nat.reduceAdd, sg_s, ↓kif_0, ↓kif_c, ↓reduceIte, nl_n, nl_i, nl_r, List.length_cons, List.length_nil, true_and, and_true, upA_s, upA_n, upA_u, Prod.mk.injEq, and_self, Fr_70_1, Fr_70_2, Ld_71, oA_71, oI_70_1, oL_70, (j_iload_n_1 dX10_road_0 (n := 1) rfl), (j_cs1i (M := mX10_road) dX10_road_1 (n := 4) rfl cM_10_158 (Or.inl rfl) (o := 10) rfl lv_X10_road_X10_isTown rfl), (j_if_eq dX10_road_4 (n := 7) rfl br_4_10), (j_iload_n_2 dX10_road_7 (n := 8) rfl), (j_cs1i (M := mX10_road) dX10_road_8 (n := 11) rfl cM_10_158 (Or.inl rfl) (o := 10) rfl lv_X10_road_X10_isTown rfl), (j_if_ne dX10_road_11 (n := 14) rfl br_11_7), (j_sipush dX10_road_14 (n := 17) rfl ks_m1001), (j_iret dX10_road_17 (n := 18) rfl), (j_iload_n_1 dX10_road_18 (n := 19) rfl), (j_iload_n_2 dX10_road_19 (n := 20) rfl), (j_ic_eq dX10_road_20 (n := 23) rfl br_20_15), (j_iload_n_3 dX10_road_23 (n := 24) rfl), (j_i2l dX10_road_24 (n := 25) rfl), (j_lconst dX10_road_25 (n := 26) rfl (v := 1) (by decide)), (j_ldc2 dX10_road_26 (n := 29) rfl cJ_10_162), (j_cs3i (M := mX10_road) dX10_road_29 (n := 32) rfl cM_10_150 (Or.inl rfl) (o := 10) rfl lv_X10_road_X10_in rfl), (j_if_ne dX10_road_32 (n := 35) rfl br_32_7), (j_sipush dX10_road_35 (n := 38) rfl ks_m1002), (j_iret dX10_road_38 (n := 39) rfl), (j_aload_n_0 dX10_road_39 (n := 40) rfl), (j_getf dX10_road_40 (n := 43) rfl cF_10_164), (j_bipush dX10_road_43 (n := 45) rfl kb_14), (j_ic_ne dX10_road_45 (n := 48) rfl br_45_7), (j_sipush dX10_road_48 (n := 51) rfl ks_m1004), (j_iret dX10_road_51 (n := 52) rfl), (j_aload_n_0 dX10_road_52 (n := 53) rfl), (j_dup_i dX10_road_53 (n := 54) rfl), (j_dup_r dX10_road_53 (n := 54) rfl), (j_getf dX10_road_54 (n := 57) rfl cF_10_164), (j_iconst dX10_road_57 (n := 58) rfl ki_1), (j_iadd dX10_road_58 (n := 59) rfl), (j_putf dX10_road_59 (n := 62) rfl cF_10_164), (j_iconst dX10_road_62 (n := 63) rfl ki_0), (j_istore_4 dX10_road_63 (n := 65) rfl), (j_iload_4 dX10_road_65 (n := 67) rfl), (j_bipush dX10_road_67 (n := 69) rfl kb_8), (j_ic_ge dX10_road_69 (n := 72) rfl br_69_119), (j_iconst dX10_road_72 (n := 73) rfl ki_0), (j_istore_5 dX10_road_73 (n := 75) rfl), (j_iload_5 dX10_road_75 (n := 77) rfl), (j_bipush dX10_road_77 (n := 79) rfl kb_8), (j_ic_ge dX10_road_79 (n := 82) rfl br_79_103), (j_aload_n_0 dX10_road_82 (n := 83) rfl), (j_getf dX10_road_83 (n := 86) rfl cF_10_7), (j_bipush dX10_road_86 (n := 88) rfl kb_8), (j_iload_4 dX10_road_88 (n := 90) rfl), (j_imul dX10_road_90 (n := 91) rfl), (j_iload_n_1 dX10_road_91 (n := 92) rfl), (j_iadd dX10_road_92 (n := 93) rfl), (j_iald dX10_road_93 (n := 94) rfl), (j_iload_n_3 dX10_road_94 (n := 95) rfl), (j_iadd dX10_road_95 (n := 96) rfl), (j_aload_n_0 dX10_road_96 (n := 97) rfl), (j_getf dX10_road_97 (n := 100) rfl cF_10_7), (j_bipush dX10_road_100 (n := 102) rfl kb_8), (j_iload_n_2 dX10_road_102 (n := 103) rfl), (j_imul dX10_road_103 (n := 104) rfl), (j_iload_5 dX10_road_104 (n := 106) rfl), (j_iadd dX10_road_106 (n := 107) rfl), (j_iald dX10_road_107 (n := 108) rfl), (j_iadd dX10_road_108 (n := 109) rfl), (j_istore_6 dX10_road_109 (n := 111) rfl), (j_aload_n_0 dX10_road_111 (n := 112) rfl), (j_getf dX10_road_112 (n := 115) rfl cF_10_7), (j_bipush dX10_road_115 (n := 117) rfl kb_8), (j_iload_4 dX10_road_117 (n := 119) rfl), (j_imul dX10_road_119 (n := 120) rfl), (j_iload_n_2 dX10_road_120 (n := 121) rfl), (j_iadd dX10_road_121 (n := 122) rfl), (j_iald dX10_road_122 (n := 123) rfl), (j_iload_n_3 dX10_road_123 (n := 124) rfl), (j_iadd dX10_road_124 (n := 125) rfl), (j_aload_n_0 dX10_road_125 (n := 126) rfl), (j_getf dX10_road_126 (n := 129) rfl cF_10_7), (j_bipush dX10_road_129 (n := 131) rfl kb_8), (j_iload_n_1 dX10_road_131 (n := 132) rfl), (j_imul dX10_road_132 (n := 133) rfl), (j_iload_5 dX10_road_133 (n := 135) rfl), (j_iadd dX10_road_135 (n := 136) rfl), (j_iald dX10_road_136 (n := 137) rfl), (j_iadd dX10_road_137 (n := 138) rfl), (j_istore_7 dX10_road_138 (n := 140) rfl), (j_aload_n_0 dX10_road_140 (n := 141) rfl), (j_getf dX10_road_141 (n := 144) rfl cF_10_7), (j_bipush dX10_road_144 (n := 146) rfl kb_8), (j_iload_4 dX10_road_146 (n := 148) rfl), (j_imul dX10_road_148 (n := 149) rfl), (j_iload_5 dX10_road_149 (n := 151) rfl), (j_iadd dX10_road_151 (n := 152) rfl), (j_aload_n_0 dX10_road_152 (n := 153) rfl), (j_getf dX10_road_153 (n := 156) rfl cF_10_7), (j_bipush dX10_road_156 (n := 158) rfl kb_8), (j_iload_4 dX10_road_158 (n := 160) rfl), (j_imul dX10_road_160 (n := 161) rfl), (j_iload_5 dX10_road_161 (n := 163) rfl), (j_iadd dX10_road_163 (n := 164) rfl), (j_iald dX10_road_164 (n := 165) rfl), (j_iload_6 dX10_road_165 (n := 167) rfl), (j_iload_7 dX10_road_167 (n := 169) rfl), (j_cs2i (M := mX10_road) dX10_road_169 (n := 172) rfl cM_10_167 (Or.inl rfl) (o := 10) rfl lv_X10_road_X10_least rfl), (j_cs2i (M := mX10_road) dX10_road_172 (n := 175) rfl cM_10_167 (Or.inl rfl) (o := 10) rfl lv_X10_road_X10_least rfl), (j_iast dX10_road_175 (n := 176) rfl), (j_iinc_5 dX10_road_176 (n := 179) rfl ki_1), (j_goto dX10_road_179 (n := 182) rfl br_179_m104), (j_iinc_4 dX10_road_182 (n := 185) rfl ki_1), (j_goto dX10_road_185 (n := 188) rfl br_185_m120), (j_aload_n_0 dX10_road_188 (n := 189) rfl), (j_getf dX10_road_189 (n := 192) rfl cF_10_164), (j_iret dX10_road_192 (n := 193) rfl), rOk_i (M := mX10_road) rfl, nl_x, pk_us]
    rw [if_neg (show ¬ nI 8 < (8 : Int32) by decide)]
    refine h _ hF (fun i j hi hj => ?_)
    rw [hS i j hi hj]
    unfold vn
    rw [if_pos (by omega)]
set_option maxHeartbeats 4000000 in
theorem t_road (S : xA) (hI : Inv S) (a b hh : Int32) : Both mX9_road mX10_road [.int a, .int b, .int hh] S := by
  obtain ⟨i1, i2, i3, i4, i5, i6, i7, i8, i9, i10, i11, i12, i13, i14, i15, i16, i17, i18, i19, i20, i21, i22, i23⟩ := id hI
  have hbad : ∀ r, ((¬ ((0 ≤ a.toInt ∧ a.toInt ≤ 7) ∧ (0 ≤ b.toInt ∧ b.toInt ≤ 7)) ∧ r = -1001) ∨ (((0 ≤ a.toInt ∧ a.toInt ≤ 7) ∧ (0 ≤ b.toInt ∧ b.toInt ≤ 7)) ∧ (a.toInt = b.toInt ∨ ¬ (1 ≤ hh.toInt ∧ hh.toInt ≤ 30)) ∧ r = -1002) ∨ (((0 ≤ a.toInt ∧ a.toInt ≤ 7) ∧ (0 ≤ b.toInt ∧ b.toInt ≤ 7)) ∧ ¬ (a.toInt = b.toInt ∨ ¬ (1 ≤ hh.toInt ∧ hh.toInt ≤ 30)) ∧ (S 70 1).toInt = 14 ∧ r = -1004)) → g2 mX10_road [.int a, .int b, .int hh] r S := by
    intro r hr
    show CI mX10_road _ _ _
    refine ci_of (T := mX10_road) (fv := fun _ => True) (ls := [some (.ref (70 : Nat)), some (.int a), some (.int b), some (.int hh), none, none, none, none]) rfl (Nat.le_of_ble_eq_true rfl) (by decide) rfl rfl rfl (ok2_to cX10_road 10 60 65 (fun _ _ => False) rfl rfl (fun _ _ h => h.elim) ?_)
    intro R hR
    simp only [sw3_c, sw3_n, Nat.reduceEqDiff, not_false_eq_true, Nat.zero_le, Nat.reduceLeDiff, Nat.reduceLT, Nat.reduceAdd, sg_s, ↓kif_0, ↓kif_c, ↓reduceIte, nl_n, nl_i, nl_r, List.length_cons, List.length_nil, true_and, and_true, upA_s, upA_n, upA_u, Prod.mk.injEq, and_self, Fr_70_1, Fr_70_2, Ld_71, oA_71, oI_70_1, oL_70, (j_iload_n_1 dX10_road_0 (n := 1) rfl), (j_cs1i (M := mX10_road) dX10_road_1 (n := 4) rfl cM_10_158 (Or.inl rfl) (o := 10) rfl lv_X10_road_X10_isTown rfl), (j_if_eq dX10_road_4 (n := 7) rfl br_4_10), (j_iload_n_2 dX10_road_7 (n := 8) rfl), (j_cs1i (M := mX10_road) dX10_road_8 (n := 11) rfl cM_10_158 (Or.inl rfl) (o := 10) rfl lv_X10_road_X10_isTown rfl), (j_if_ne dX10_road_11 (n := 14) rfl br_11_7), (j_sipush dX10_road_14 (n := 17) rfl ks_m1001), (j_iret dX10_road_17 (n := 18) rfl), (j_iload_n_1 dX10_road_18 (n := 19) rfl), (j_iload_n_2 dX10_road_19 (n := 20) rfl), (j_ic_eq dX10_road_20 (n := 23) rfl br_20_15), (j_iload_n_3 dX10_road_23 (n := 24) rfl), (j_i2l dX10_road_24 (n := 25) rfl), (j_lconst dX10_road_25 (n := 26) rfl (v := 1) (by decide)), (j_ldc2 dX10_road_26 (n := 29) rfl cJ_10_162), (j_cs3i (M := mX10_road) dX10_road_29 (n := 32) rfl cM_10_150 (Or.inl rfl) (o := 10) rfl lv_X10_road_X10_in rfl), (j_if_ne dX10_road_32 (n := 35) rfl br_32_7), (j_sipush dX10_road_35 (n := 38) rfl ks_m1002), (j_iret dX10_road_38 (n := 39) rfl), (j_aload_n_0 dX10_road_39 (n := 40) rfl), (j_getf dX10_road_40 (n := 43) rfl cF_10_164), (j_bipush dX10_road_43 (n := 45) rfl kb_14), (j_ic_ne dX10_road_45 (n := 48) rfl br_45_7), (j_sipush dX10_road_48 (n := 51) rfl ks_m1004), (j_iret dX10_road_51 (n := 52) rfl), (j_aload_n_0 dX10_road_52 (n := 53) rfl), (j_dup_i dX10_road_53 (n := 54) rfl), (j_dup_r dX10_road_53 (n := 54) rfl), (j_getf dX10_road_54 (n := 57) rfl cF_10_164), (j_iconst dX10_road_57 (n := 58) rfl ki_1), (j_iadd dX10_road_58 (n := 59) rfl), (j_putf dX10_road_59 (n := 62) rfl cF_10_164), (j_iconst dX10_road_62 (n := 63) rfl ki_0), (j_istore_4 dX10_road_63 (n := 65) rfl), (j_iload_4 dX10_road_65 (n := 67) rfl), (j_bipush dX10_road_67 (n := 69) rfl kb_8), (j_ic_ge dX10_road_69 (n := 72) rfl br_69_119), (j_iconst dX10_road_72 (n := 73) rfl ki_0), (j_istore_5 dX10_road_73 (n := 75) rfl), (j_iload_5 dX10_road_75 (n := 77) rfl), (j_bipush dX10_road_77 (n := 79) rfl kb_8), (j_ic_ge dX10_road_79 (n := 82) rfl br_79_103), (j_aload_n_0 dX10_road_82 (n := 83) rfl), (j_getf dX10_road_83 (n := 86) rfl cF_10_7), (j_bipush dX10_road_86 (n := 88) rfl kb_8), (j_iload_4 dX10_road_88 (n := 90) rfl), (j_imul dX10_road_90 (n := 91) rfl), (j_iload_n_1 dX10_road_91 (n := 92) rfl), (j_iadd dX10_road_92 (n := 93) rfl), (j_iald dX10_road_93 (n := 94) rfl), (j_iload_n_3 dX10_road_94 (n := 95) rfl), (j_iadd dX10_road_95 (n := 96) rfl), (j_aload_n_0 dX10_road_96 (n := 97) rfl), (j_getf dX10_road_97 (n := 100) rfl cF_10_7), (j_bipush dX10_road_100 (n := 102) rfl kb_8), (j_iload_n_2 dX10_road_102 (n := 103) rfl), (j_imul dX10_road_103 (n := 104) rfl), (j_iload_5 dX10_road_104 (n := 106) rfl), (j_iadd dX10_road_106 (n := 107) rfl), (j_iald dX10_road_107 (n := 108) rfl), (j_iadd dX10_road_108 (n := 109) rfl), (j_istore_6 dX10_road_109 (n := 111) rfl), (j_aload_n_0 dX10_road_111 (n := 112) rfl), (j_getf dX10_road_112 (n := 115) rfl cF_10_7), (j_bipush dX10_road_115 (n := 117) rfl kb_8), (j_iload_4 dX10_road_117 (n := 119) rfl), (j_imul dX10_road_119 (n := 120) rfl), (j_iload_n_2 dX10_road_120 (n := 121) rfl), (j_iadd dX10_road_121 (n := 122) rfl), (j_iald dX10_road_122 (n := 123) rfl), (j_iload_n_3 dX10_road_123 (n := 124) rfl), (j_iadd dX10_road_124 (n := 125) rfl), (j_aload_n_0 dX10_road_125 (n := 126) rfl), (j_getf dX10_road_126 (n := 129) rfl cF_10_7), (j_bipush dX10_road_129 (n := 131) rfl kb_8), (j_iload_n_1 dX10_road_131 (n := 132) rfl), (j_imul dX10_road_132 (n := 133) rfl), (j_iload_5 dX10_road_133 (n := 135) rfl), (j_iadd dX10_road_135 (n := 136) rfl), (j_iald dX10_road_136 (n := 137) rfl), (j_iadd dX10_road_137 (n := 138) rfl), (j_istore_7 dX10_road_138 (n := 140) rfl), (j_aload_n_0 dX10_road_140 (n := 141) rfl), (j_getf dX10_road_141 (n := 144) rfl cF_10_7), (j_bipush dX10_road_144 (n := 146) rfl kb_8), (j_iload_4 dX10_road_146 (n := 148) rfl), (j_imul dX10_road_148 (n := 149) rfl), (j_iload_5 dX10_road_149 (n := 151) rfl), (j_iadd dX10_road_151 (n := 152) rfl), (j_aload_n_0 dX10_road_152 (n := 153) rfl), (j_getf dX10_road_153 (n := 156) rfl cF_10_7), (j_bipush dX10_road_156 (n := 158) rfl kb_8), (j_iload_4 dX10_road_158 (n := 160) rfl), (j_imul dX10_road_160 (n := 161) rfl), (j_iload_5 dX10_road_161 (n := 163) rfl), (j_iadd dX10_road_163 (n := 164) rfl), (j_iald dX10_road_164 (n := 165) rfl), (j_iload_6 dX10_road_165 (n := 167) rfl), (j_iload_7 dX10_road_167 (n := 169) rfl), (j_cs2i (M := mX10_road) dX10_road_169 (n := 172) rfl cM_10_167 (Or.inl rfl) (o := 10) rfl lv_X10_road_X10_least rfl), (j_cs2i (M := mX10_road) dX10_road_172 (n := 175) rfl cM_10_167 (Or.inl rfl) (o := 10) rfl lv_X10_road_X10_least rfl), (j_iast dX10_road_175 (n := 176) rfl), (j_iinc_5 dX10_road_176 (n := 179) rfl ki_1), (j_goto dX10_road_179 (n := 182) rfl br_179_m104), (j_iinc_4 dX10_road_182 (n := 185) rfl ki_1), (j_goto dX10_road_185 (n := 188) rfl br_185_m120), (j_aload_n_0 dX10_road_188 (n := 189) rfl), (j_getf dX10_road_189 (n := 192) rfl cF_10_164), (j_iret dX10_road_192 (n := 193) rfl), rOk_i (M := mX10_road) rfl, nl_x, pk_us]
    refine c_isTown _ _ _ ?_
    simp only [bI_0, decide_eq_false_iff_not]
    refine ite_i (fun q => ⟨by rcases hr with z | z | z <;> first | exact z.2 | (exfalso; omega), hI⟩) (fun q1 => ?_)
    refine c_isTown _ _ _ ?_
    simp only [bI_0, decide_eq_false_iff_not]
    refine ite_i (fun q => ⟨by rcases hr with z | z | z <;> first | exact z.2 | (exfalso; omega), hI⟩) (fun q2 => ?_)
    rw [Classical.not_not] at q1 q2
    refine ite_i (fun q => ⟨?_, hI⟩) (fun q3 => ?_)
    · rw [eq_I] at q
      rcases hr with z | z | z <;> first | exact z.2.2 | (exfalso; omega)
    rw [eq_I] at q3
    refine c_in _ _ _ _ _ ?_
    simp only [bI_0, decide_eq_false_iff_not, wid_I, tj_1, tj_30]
    refine ite_i (fun q => ⟨by rcases hr with z | z | z <;> first | exact z.2.2 | (exfalso; omega), hI⟩) (fun q4 => ?_)
    refine ite_i (fun q => ⟨by rcases hr with z | z | z <;> first | exact z.2.2.2 | (exfalso; omega), hI⟩) (fun q5 => ?_)
    rw [eq_I, ti_14] at q5
    exfalso
    omega
  have n1 := i2.1
  rw [eq_I] at n1
  show CI mX9_road _ _ _
  refine ci_of (T := mX9_road) (fv := fun _ => True) (ls := [some (.ref (0 : Nat)), some (.int a), some (.int b), some (.int hh)]) rfl (Nat.le_of_ble_eq_true rfl) (by decide) rfl rfl rfl (ok2_0 cX9_road 9 80 rfl rfl ?_)
  simp only [sw3_c, sw3_n, Nat.reduceEqDiff, not_false_eq_true, Nat.zero_le, Nat.reduceLeDiff, Nat.reduceLT, Nat.reduceAdd, sg_s, ↓kif_0, ↓kif_c, ↓reduceIte, nl_n, nl_i, nl_r, List.length_cons, List.length_nil, true_and, and_true, upA_s, upA_n, upA_u, Prod.mk.injEq, and_self, Fr_0_0, Fr_1_1, oC_1, oL_0, oL_1, (j_iload_n_1 dX9_road_0 (n := 1) rfl), (j_cs1i (M := mX9_road) dX9_road_1 (n := 4) rfl cM_9_87 (Or.inl rfl) (o := 9) rfl lv_X9_road_X9_noTown rfl), (j_if_ne dX9_road_4 (n := 7) rfl br_4_10), (j_iload_n_2 dX9_road_7 (n := 8) rfl), (j_cs1i (M := mX9_road) dX9_road_8 (n := 11) rfl cM_9_87 (Or.inl rfl) (o := 9) rfl lv_X9_road_X9_noTown rfl), (j_if_eq dX9_road_11 (n := 14) rfl br_11_7), (j_sipush dX9_road_14 (n := 17) rfl ks_m1001), (j_iret dX9_road_17 (n := 18) rfl), (j_iload_n_1 dX9_road_18 (n := 19) rfl), (j_iload_n_2 dX9_road_19 (n := 20) rfl), (j_ic_eq dX9_road_20 (n := 23) rfl br_20_13), (j_iload_n_3 dX9_road_23 (n := 24) rfl), (j_iconst dX9_road_24 (n := 25) rfl ki_1), (j_bipush dX9_road_25 (n := 27) rfl kb_30), (j_cs3i (M := mX9_road) dX9_road_27 (n := 30) rfl cM_9_91 (Or.inl rfl) (o := 9) rfl lv_X9_road_X9_beyond rfl), (j_if_eq dX9_road_30 (n := 33) rfl br_30_7), (j_sipush dX9_road_33 (n := 36) rfl ks_m1002), (j_iret dX9_road_36 (n := 37) rfl), (j_aload_n_0 dX9_road_37 (n := 38) rfl), (j_getf dX9_road_38 (n := 41) rfl cF_9_12), (j_getf dX9_road_41 (n := 44) rfl cF_9_95), (j_bipush dX9_road_44 (n := 46) rfl kb_14), (j_ic_lt dX9_road_46 (n := 49) rfl br_46_7), (j_sipush dX9_road_49 (n := 52) rfl ks_m1004), (j_iret dX9_road_52 (n := 53) rfl), (j_aload_n_0 dX9_road_53 (n := 54) rfl), (j_getf dX9_road_54 (n := 57) rfl cF_9_12), (j_iload_n_1 dX9_road_57 (n := 58) rfl), (j_iload_n_2 dX9_road_58 (n := 59) rfl), (j_iload_n_3 dX9_road_59 (n := 60) rfl), (j_cv3v (M := mX9_road) dX9_road_60 (n := 63) rfl cM_9_98 (Or.inl rfl) lv_X9_road_X3_join rfl (oc := 3) rfl), (j_aload_n_0 dX9_road_63 (n := 64) rfl), (j_getf dX9_road_64 (n := 67) rfl cF_9_12), (j_getf dX9_road_67 (n := 70) rfl cF_9_95), (j_iret dX9_road_70 (n := 71) rfl), rOk_i (M := mX9_road) rfl]
  refine c_noTown _ _ _ ?_
  simp only [bI_0, decide_eq_false_iff_not]
  refine ite_i (fun h1 => ?_) (fun h1 => hbad _ (Or.inl ⟨by omega, rfl⟩))
  refine c_noTown _ _ _ ?_
  simp only [bI_0, decide_eq_false_iff_not]
  refine ite_i (fun h2 => ?_) (fun h2 => hbad _ (Or.inl ⟨by omega, rfl⟩))
  refine ite_i (fun h3 => hbad _ (Or.inr (Or.inl ⟨by omega, Or.inl (by rw [eq_I] at h3; exact h3), rfl⟩))) (fun h3 => ?_)
  rw [eq_I] at h3
  refine c_beyond _ _ _ _ _ ?_
  simp only [bI_0, decide_eq_false_iff_not, ti_1, ti_30]
  refine ite_i (fun h4 => ?_) (fun h4 => hbad _ (Or.inr (Or.inl ⟨by omega, Or.inr (by omega), rfl⟩)))
  have bb := i2.2
  refine ite_i (fun h5 => ?_) (fun h5 => hbad _ (Or.inr (Or.inr ⟨by omega, by omega, by rw [lt_I, ti_14] at h5; omega, rfl⟩)))
  rw [lt_I, ti_14] at h5
  have ca := cl_eq (x := a) (by omega)
  have cb' := cl_eq (x := b) (by omega)
  have ch := cl_eq (x := hh) (by omega)
  have cr := cl_eq (x := S 1 1) (by omega)
  obtain ⟨d, ht, hd⟩ := id i3
  have ea : a = nI a.toNatClampNeg := (nI_cl (by omega)).symm
  have eb : b = nI b.toNatClampNeg := (nI_cl (by omega)).symm
  have eh : hh = nI hh.toNatClampNeg := (nI_cl (by omega)).symm
  have er : S 70 1 = nI (S 1 1).toNatClampNeg := by rw [← i2.1]; exact (nI_cl (by omega)).symm
  have hd1 : ∀ i j, i < 8 → j < 8 → d i j ≤ 1000000 ∧ (d i j = 1000000 ∨ d i j ≤ 30 * (2 ^ (S 1 1).toNatClampNeg - 1)) := fun i j hi hj => ⟨(hd i j hi hj).1, (hd i j hi hj).2.1⟩
  rw [ea, eb, eh]
  refine c_join d _ _ _ (S 1 1).toNatClampNeg S _ ht hd1 (by omega) (by omega) (by omega) (by omega) (fun i j hi hj => (hd i j hi hj).2.2.2) ?_
  intro S' hF hS
  have z70 : S' 70 = S 70 := by rw [hF 70 (by decide)]; simp only [upA_s, upA_n, upA_u, Nat.reduceEqDiff, not_false_eq_true, pk_us, upd_n]
  have z71 : S' 71 = S 71 := by rw [hF 71 (by decide)]; simp only [upA_s, upA_n, upA_u, Nat.reduceEqDiff, not_false_eq_true, pk_us, upd_n]
  have z1 : S' 1 1 = S 1 1 + 1 := by rw [hF 1 (by decide)]; simp only [upA_s, upA_n, upA_u, Nat.reduceEqDiff, not_false_eq_true, pk_us, upd_n]
  refine c_road10 d _ _ _ (S 1 1).toNatClampNeg S' _ ht (fun i j hi hj => (hd i j hi hj).1) (by rw [z70]; exact er) (by omega) (by omega) (by omega) (by omega) (by omega) (fun i j hi hj => by rw [z71]; exact (hd i j hi hj).2.2.1) ?_
  intro S2 hF2 hS2
  have hc : frm [1, 2, 70, 71] S S2 := frm_tr (frm_up (frm_tr (frm_up (frm_rf _ S) (by decide)) hF (by decide)) (by decide)) hF2 (by decide)
  have y70 : S2 70 = upd (S 70) 1 (S 70 1 + 1) := by rw [hF2 70 (by decide), upA_s, z70]
  have y1 : S2 1 = upd (S 1) 1 (S 1 1 + 1) := by rw [hF2 1 (by decide), upA_n _ _ (by decide), hF 1 (by decide), upA_s]
  have y2 : S2 2 = S' 2 := by rw [hF2 2 (by decide), upA_n _ _ (by decide)]
  have e1 : (S 1 1 + 1).toInt = (S 1 1).toInt + 1 := by rw [add_I] <;> rw [ti_1] <;> omega
  refine ⟨?_, ?_⟩
  · rw [z1, y70, pk_us, i2.1]
  · unfold Inv
    simp only [hc 0 (by decide), hc 4 (by decide), hc 5 (by decide), hc 6 (by decide), hc 7 (by decide), hc 8 (by decide), hc 9 (by decide), hc 10 (by decide), hc 11 (by decide), hc 12 (by decide), hc 13 (by decide), hc 16 (by decide), hc 17 (by decide), hc 18 (by decide), hc 19 (by decide), hc 20 (by decide), hc 21 (by decide), hc 22 (by decide), hc 23 (by decide), hc 26 (by decide), hc 27 (by decide), hc 28 (by decide), hc 29 (by decide), hc 30 (by decide), hc 31 (by decide), hc 32 (by decide), hc 34 (by decide), hc 35 (by decide), hc 36 (by decide), hc 37 (by decide), hc 38 (by decide), hc 39 (by decide), hc 40 (by decide), hc 41 (by decide), hc 42 (by decide), hc 43 (by decide), hc 59 (by decide), hc 60 (by decide), hc 61 (by decide), hc 62 (by decide), hc 63 (by decide), hc 64 (by decide), hc 65 (by decide), hc 66 (by decide), hc 72 (by decide), hc 73 (by decide), hc 74 (by decide), hc 75 (by decide), hc 76 (by decide), hc 77 (by decide), hc 78 (by decide), hc 79 (by decide), hc 80 (by decide), hc 81 (by decide), hc 82 (by decide), hc 83 (by decide), hc 84 (by decide), hc 85 (by decide), hc 86 (by decide), hc 87 (by decide), hc 88 (by decide), hc 89 (by decide), hc 90 (by decide), hc 91 (by decide), hc 92 (by decide), hc 93 (by decide), hc 97 (by decide), hc 98 (by decide), hc 99 (by decide), hc 100 (by decide), hc 101 (by decide), hc 102 (by decide), hc 103 (by decide), hc 104 (by decide), hc 105 (by decide), hc 106 (by decide), hc 107 (by decide), hc 108 (by decide), hc 109 (by decide), hc 110 (by decide), hc 111 (by decide), y70, y1, y2, pk_us, upd_n, Nat.reduceEqDiff, not_false_eq_true]
    refine ⟨i1, ⟨by rw [i2.1], by omega, by omega⟩, ?_, i4, i5, i6, i7, i8, i9, i10, i11, i12, i13, i14, i15, i16, i17, i18, i19, i20, i21, i22, i23⟩
    refine ⟨dd d a.toNatClampNeg b.toNatClampNeg hh.toNatClampNeg, dd_tri ht (by omega) (by omega), fun i j hi hj => ?_⟩
    have ec : (S 1 1 + 1).toNatClampNeg = (S 1 1).toNatClampNeg + 1 := by
      have := cl_eq (x := S 1 1 + 1) (by omega)
      omega
    rw [ec]
    have g := dd_fin (a := a.toNatClampNeg) (b := b.toNatClampNeg) (h := hh.toNatClampNeg) hd1 (by omega) (by omega) hi hj (by omega)
    exact ⟨g.1, g.2, hS2 i j hi hj, hS i j hi hj⟩
