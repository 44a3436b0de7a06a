-- feed
def dn (x : Int32) : Nat → Int32
  | 0 => x
  | k + 1 => dn x k + (-1)
def un (x : Int32) : Nat → Int32
  | 0 => x
  | k + 1 => un x k + 1
theorem dn_I {x : Int32} (h1 : x.toInt < 1000000) : ∀ k : Nat, (k : Int) ≤ x.toInt + 1 → (dn x k).toInt = x.toInt - k
  | 0, _ => by simp [dn]
  | k + 1, h => by
    have ih := dn_I h1 k (by omega)
    unfold dn
    rw [add_I] <;> rw [ih, ti_m1] <;> omega
theorem un_I {x : Int32} (h0 : 0 ≤ x.toInt) : ∀ k : Nat, x.toInt + k < 1000000 → (un x k).toInt = x.toInt + k
  | 0, _ => by simp [un]
  | k + 1, h => by
    have ih := un_I h0 k (by omega)
    unfold un
    rw [add_I] <;> rw [ih, ti_1] <;> omega
theorem un_c {x : Int32} (h0 : 0 ≤ x.toInt) (k : Nat) (h : x.toInt + k < 1000000) : (un x k).toNatClampNeg = x.toNatClampNeg + k := by
  have a := un_I h0 k h
  have b := cl_eq h0
  have c := cl_eq (x := un x k) (by omega)
  omega
def putR (a : Nat → Int32) (lo k : Nat) (g : Nat → Int32) : Nat → Int32 := fun j => if lo ≤ j ∧ j < lo + k then g (j - lo) else a j
theorem putR_0 (a : Nat → Int32) (lo : Nat) (g : Nat → Int32) : putR a lo 0 g = a := by
  funext j
  unfold putR
  rw [if_neg (by omega)]
theorem putR_s (a : Nat → Int32) (lo k : Nat) (g : Nat → Int32) : upd (putR a lo k g) (lo + k) (g k) = putR a lo (k + 1) g := by
  funext j
  rw [upd_t]
  unfold putR
  by_cases h : j = lo + k
  · rw [if_pos h, if_pos (by omega), h, Nat.add_sub_cancel_left]
  · rw [if_neg h]
    by_cases h2 : lo ≤ j ∧ j < lo + k
    · rw [if_pos h2, if_pos (by omega)]
    · rw [if_neg h2, if_neg (by omega)]
theorem upd_u (f : Nat → Int32) (k : Nat) (x y : Int32) : upd (upd f k x) k y = upd f k y := by
  funext j
  rw [upd_t, upd_t, upd_t]
  split <;> rfl
theorem upd_i (f : Nat → Int32) (k : Nat) : upd f k (f k) = f := by
  funext j
  rw [upd_t]
  split
  · next h => rw [h]
  · rfl
theorem upA_4 (S : xA) {a b : Nat} (h : a ≠ b) (f g f' g' : Nat → Int32) : upA (upA (upA (upA S a f) b g) a f') b g' = upA (upA S a f') b g' := by
  funext c
  simp only [upA]
  split
  · rfl
  · split
    · rfl
    · rfl
def byt (x : Int64) (i : Int32) : Int32 := ((x >>> ((8 * i).toInt64 &&& 63)) &&& 255).toInt32
theorem and255 (y : Int64) : 0 ≤ ((y &&& 255).toInt32).toInt ∧ ((y &&& 255).toInt32).toInt ≤ 255 := by
  have h1 : (y &&& 255).toBitVec.toNat ≤ 255 := by
    rw [Int64.toBitVec_and, BitVec.toNat_and]
    exact Nat.and_le_right
  have h2 : (y &&& 255).toInt = ((y &&& 255).toBitVec.toNat : Int) := by
    show (y &&& 255).toBitVec.toInt = _
    rw [BitVec.toInt_eq_toNat_of_lt (by omega)]
  have h3 : ((y &&& 255).toInt32).toInt = (y &&& 255).toInt := by
    rw [Int64.toInt_toInt32]
    exact Int.bmod_eq_of_le (by omega) (by omega)
  omega
set_option maxHeartbeats 4000000 in
theorem c_append (n : Int32) (x : Int64) (S : xA) (f : xA → Prop) (hn : 1 ≤ n.toInt ∧ n.toInt ≤ 8) (hc : 0 ≤ (S 22 3).toInt ∧ (S 22 3).toInt + n.toInt ≤ 160)
    (h : f (upA (upA S 22 (upd (S 22) 3 (un (S 22 3) n.toNatClampNeg))) 23 (putR (S 23) (S 22 3).toNatClampNeg n.toNatClampNeg (fun k => byt x (dn (n - 1) k))))) : CV mX7_append [.ref (22 : Nat), .int n, .long x] S f := by
  have hN := cl_eq (x := n) (by omega)
  have hn1 : (n - 1).toInt = n.toInt - 1 := by rw [sub_I] <;> rw [ti_1] <;> omega
  refine cv_of (T := mX7_append) (f := fun _ _ => True) (ls := [some (.ref (22 : Nat)), some (.int n), some (.long x), none, none]) rfl (Nat.le_of_ble_eq_true rfl) (by decide) rfl rfl rfl (ok2_1 cX7_append 7 80 5 (fun ls st S' => ls = [some (.ref (22 : Nat)), some (.int n), some (.long x), none, some (.int (n - 1))] ∧ st = [] ∧ S' = S) rfl rfl ?_ ?_)
  · rintro ls st S' ⟨rfl, rfl, rfl⟩
    have key := ok2_for (M := mX7_append) (fi := fun _ _ => True) (fv := f) cX7_append 7 60 5 n.toNatClampNeg (fun k => [some (.ref (22 : Nat)), some (.int n), some (.long x), none, some (.int (dn (n - 1) k))]) (fun k => upA (upA S' 22 (upd (S' 22) 3 (un (S' 22 3) k))) 23 (putR (S' 23) (S' 22 3).toNatClampNeg k (fun k => byt x (dn (n - 1) k)))) [] rfl rfl ?_ ?_ 0 (by omega)
    · rw [putR_0] at key
      simp only [un, dn, upd_i] at key
      rw [upA_i, upA_i] at key
      exact key
    · intro k hk R hR
      simp only [sw3_c, sw3_n, Nat.reduceEqDiff, not_false_eq_true, Nat.zero_le, Nat.reduceLeDiff, Nat.reduceLT, Nat.reduceAdd, sg_s, ↓kif_0, ↓kif_c, ↓reduceIte, nl_n, nl_i, nl_r, List.length_cons, List.length_nil, true_and, and_true, upA_s, upA_n, upA_u, Prod.mk.injEq, and_self, Fr_22_0, Fr_22_3, Ld_23, oA_23, oI_22_3, oL_22, (j_iload_n_1 dX7_append_0 (n := 1) rfl), (j_iconst dX7_append_1 (n := 2) rfl ki_1), (j_isub dX7_append_2 (n := 3) rfl), (j_istore_4 dX7_append_3 (n := 5) rfl), (j_iload_4 dX7_append_5 (n := 7) rfl), (j_if_lt dX7_append_7 (n := 10) rfl br_7_37), (j_aload_n_0 dX7_append_10 (n := 11) rfl), (j_getf dX7_append_11 (n := 14) rfl cF_7_9), (j_aload_n_0 dX7_append_14 (n := 15) rfl), (j_dup_i dX7_append_15 (n := 16) rfl), (j_dup_r dX7_append_15 (n := 16) rfl), (j_getf dX7_append_16 (n := 19) rfl cF_7_21), (j_dup_x1_ir dX7_append_19 (n := 20) rfl), (j_dup_x1_ii dX7_append_19 (n := 20) rfl), (j_iconst dX7_append_20 (n := 21) rfl ki_1), (j_iadd dX7_append_21 (n := 22) rfl), (j_putf dX7_append_22 (n := 25) rfl cF_7_21), (j_lload_n_2 dX7_append_25 (n := 26) rfl), (j_bipush dX7_append_26 (n := 28) rfl kb_8), (j_iload_4 dX7_append_28 (n := 30) rfl), (j_imul dX7_append_30 (n := 31) rfl), (j_lshr dX7_append_31 (n := 32) rfl), (j_ldc2 dX7_append_32 (n := 35) rfl cJ_7_40), (j_land dX7_append_35 (n := 36) rfl), (j_l2i dX7_append_36 (n := 37) rfl), (j_iast dX7_append_37 (n := 38) rfl), (j_iinc_4 dX7_append_38 (n := 41) rfl ki_m1), (j_goto dX7_append_41 (n := 44) rfl br_41_m36), (j_ret (M := mX7_append) dX7_append_44 (n := 45) rfl rfl), pk_us]
      have e1 := dn_I (x := n - 1) (by omega) k (by omega)
      have e2 := un_c hc.1 k (by omega)
      have e3 := un_I hc.1 k (by omega)
      rw [if_neg (by rw [lt_I, ti_0]; omega), e2]
      refine ⟨vp_I (by omega) (by omega), ?_⟩
      rw [upA_4 _ (by decide), upd_u]
      have e4 := putR_s (S' 23) (S' 22 3).toNatClampNeg k (fun k => byt x (dn (n - 1) k))
      have e5 : ((x >>> ((8 * dn (n - 1) k).toInt64 &&& 63)) &&& 255).toInt32 = (fun k => byt x (dn (n - 1) k)) k := rfl
      rw [e5, e4]
      exact hR
    · refine ok2_0 cX7_append 7 20 rfl rfl ?_
      have e1 := dn_I (x := n - 1) (by omega) n.toNatClampNeg (by omega)
      simp only [sw3_c, sw3_n, Nat.reduceEqDiff, not_false_eq_true, Nat.zero_le, Nat.reduceLeDiff, Nat.reduceLT, Nat.reduceAdd, sg_s, ↓kif_0, ↓kif_c, ↓reduceIte, nl_n, nl_i, nl_r, List.length_cons, List.length_nil, true_and, and_true, upA_s, upA_n, upA_u, Prod.mk.injEq, and_self, Fr_22_0, Fr_22_3, Ld_23, oA_23, oI_22_3, oL_22, (j_iload_n_1 dX7_append_0 (n := 1) rfl), (j_iconst dX7_append_1 (n := 2) rfl ki_1), (j_isub dX7_append_2 (n := 3) rfl), (j_istore_4 dX7_append_3 (n := 5) rfl), (j_iload_4 dX7_append_5 (n := 7) rfl), (j_if_lt dX7_append_7 (n := 10) rfl br_7_37), (j_aload_n_0 dX7_append_10 (n := 11) rfl), (j_getf dX7_append_11 (n := 14) rfl cF_7_9), (j_aload_n_0 dX7_append_14 (n := 15) rfl), (j_dup_i dX7_append_15 (n := 16) rfl), (j_dup_r dX7_append_15 (n := 16) rfl), (j_getf dX7_append_16 (n := 19) rfl cF_7_21), (j_dup_x1_ir dX7_append_19 (n := 20) rfl), (j_dup_x1_ii dX7_append_19 (n := 20) rfl), (j_iconst dX7_append_20 (n := 21) rfl ki_1), (j_iadd dX7_append_21 (n := 22) rfl), (j_putf dX7_append_22 (n := 25) rfl cF_7_21), (j_lload_n_2 dX7_append_25 (n := 26) rfl), (j_bipush dX7_append_26 (n := 28) rfl kb_8), (j_iload_4 dX7_append_28 (n := 30) rfl), (j_imul dX7_append_30 (n := 31) rfl), (j_lshr dX7_append_31 (n := 32) rfl), (j_ldc2 dX7_append_32 (n := 35) rfl cJ_7_40), (j_land dX7_append_35 (n := 36) rfl), (j_l2i dX7_append_36 (n := 37) rfl), (j_iast dX7_append_37 (n := 38) rfl), (j_iinc_4 dX7_append_38 (n := 41) rfl ki_m1), (j_goto dX7_append_41 (n := 44) rfl br_41_m36), (j_ret (M := mX7_append) dX7_append_44 (n := 45) rfl rfl)]
      rw [if_pos (by rw [lt_I, ti_0]; omega)]
      exact h
  · intro R hR
    simp only [sw3_c, sw3_n, Nat.reduceEqDiff, not_false_eq_true, Nat.zero_le, Nat.reduceLeDiff, Nat.reduceLT, Nat.reduceAdd, sg_s, ↓kif_0, ↓kif_c, ↓reduceIte, nl_n, nl_i, nl_r, List.length_cons, List.length_nil, true_and, and_true, upA_s, upA_n, upA_u, Prod.mk.injEq, and_self, Fr_22_0, Fr_22_3, Ld_23, oA_23, oI_22_3, oL_22, (j_iload_n_1 dX7_append_0 (n := 1) rfl), (j_iconst dX7_append_1 (n := 2) rfl ki_1), (j_isub dX7_append_2 (n := 3) rfl), (j_istore_4 dX7_append_3 (n := 5) rfl), (j_iload_4 dX7_append_5 (n := 7) rfl), (j_if_lt dX7_append_7 (n := 10) rfl br_7_37), (j_aload_n_0 dX7_append_10 (n := 11) rfl), (j_getf dX7_append_11 (n := 14) rfl cF_7_9), (j_aload_n_0 dX7_append_14 (n := 15) rfl), (j_dup_i dX7_append_15 (n := 16) rfl), (j_dup_r dX7_append_15 (n := 16) rfl), (j_getf dX7_append_16 (n := 19) rfl cF_7_21), (j_dup_x1_ir dX7_append_19 (n := 20) rfl), (j_dup_x1_ii dX7_append_19 (n := 20) rfl), (j_iconst dX7_append_20 (n := 21) rfl ki_1), (j_iadd dX7_append_21 (n := 22) rfl), (j_putf dX7_append_22 (n := 25) rfl cF_7_21), (j_lload_n_2 dX7_append_25 (n := 26) rfl), (j_bipush dX7_append_26 (n := 28) rfl kb_8), (j_iload_4 dX7_append_28 (n := 30) rfl), (j_imul dX7_append_30 (n := 31) rfl), (j_lshr dX7_append_31 (n := 32) rfl), (j_ldc2 dX7_append_32 (n := 35) rfl cJ_7_40), (j_land dX7_append_35 (n := 36) rfl), (j_l2i dX7_append_36 (n := 37) rfl), (j_iast dX7_append_37 (n := 38) rfl), (j_iinc_4 dX7_append_38 (n := 41) rfl ki_m1), (j_goto dX7_append_41 (n := 44) rfl br_41_m36), (j_ret (M := mX7_append) dX7_append_44 (n := 45) rfl rfl)]
    exact hR _ _ _ ⟨rfl, rfl, rfl⟩
