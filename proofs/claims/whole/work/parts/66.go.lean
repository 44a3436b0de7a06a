-- go
theorem hlF_m1 {K U r : Nat → Int32} {u pair : Int32} : ∀ n, hlF K U r u (-1) pair n = (-1, -1)
  | 0 => rfl
  | n + 1 => by
    have ih := hlF_m1 (K := K) (U := U) (r := r) (u := u) (pair := pair) n
    rw [hlF_n, ih]
    rintro ⟨-, -, h3, h4, -⟩
    rw [lt_I, ti_0] at h3
    rw [lt_I, ti_m1] at h4
    omega
theorem cldO_m1 (S : xA) (u t : Int32) : cldO S u t (-1) = false := by
  unfold cldO hld
  rw [hlF_m1, hlF_m1]
  exact decide_eq_false (fun w => w.1 rfl)
theorem fcS_d {S S' : xA} (h : ∀ c, 16 ≤ c → c ≤ 21 → S' c = S c) (hour : Int32) : fcS S' hour = fcS S hour := by
  unfold fcS
  rw [h 16 (by omega) (by omega), h 17 (by omega) (by omega), h 18 (by omega) (by omega), h 19 (by omega) (by omega), h 20 (by omega) (by omega), h 21 (by omega) (by omega)]
theorem hrR_11 {D : Nat} {hour : Int32} {cl : Nat → Bool} {c : Nat} {S S' : xA} {r : Int32} (h : hrR D hour cl c S S' r) : ∀ p, p < 48 → S' (D + 11) p = bI (cl p) := by
  obtain ⟨g, w1, w2, -, e, -⟩ := h
  intro p hp
  rw [e, itZ_f (usS_f D hour) _ 24 (D + 11) (by simp), hp3, itZ_f (sdS_f D hour) _ c (D + 11) (by simp)]
  have e2 : ∀ Y, hp2 D hour cl Y c (D + 11) p = bI (cl p) := by
    intro Y
    unfold hp2
    split
    · rw [itZ_f (pyS_f D) _ 48 (D + 11) (by simp), hp1]
      exact (itZ_11 D cl _ 48).2 p hp
    · rw [hp1]
      exact (itZ_11 D cl _ 48).2 p hp
  exact e2 _
theorem arS_t (D : Nat) (hour : Int32) (S : xA) : ∀ n i, n ≤ i → itZ (arS D hour) S n (D + 8) i = S (D + 8) i
  | 0, _, _ => rfl
  | n + 1, i, hi => by
    rw [itZ, arS_8]
    split
    · rw [upd_n (by omega)]; exact arS_t D hour S n i (by omega)
    · exact arS_t D hour S n i (by omega)
theorem sdS_t (D : Nat) (hour : Int32) (S : xA) : ∀ n i, n ≤ i → itZ (sdS D hour) S n (D + 8) i = S (D + 8) i ∧ itZ (sdS D hour) S n (D + 9) i = S (D + 9) i ∧ itZ (sdS D hour) S n (D + 10) i = S (D + 10) i
  | 0, _, _ => ⟨rfl, rfl, rfl⟩
  | n + 1, i, hi => by
    have ih := sdS_t D hour S n i (by omega)
    rw [itZ]
    generalize itZ (sdS D hour) S n = W at ih ⊢
    by_cases q : W (D + 8) n = 0 ∧ ¬ hour < W 31 n ∧ W (D + 12) (W 27 n).toNatClampNeg &&& (W 32 n ^^^ (-1)) = 0
    · rw [sdS_1 q]
      split
      · rw [upA_s, upA_n _ _ (by omega), upA_n _ _ (by omega), upd_n (by omega)]; exact ih
      · split
        · exact ih
        · rw [upA_n _ _ (show ¬ D + 8 = D + 10 by omega), upA_n _ _ (show ¬ D + 8 = D + 9 by omega), upA_s, upA_n _ _ (show ¬ D + 9 = D + 10 by omega), upA_s, upA_s, upd_n (by omega), upd_n (by omega), upd_n (by omega)]; exact ih
    · rw [sdS_0 q]; exact ih
theorem hrR_t {D : Nat} (hD : 32 < D) {hour : Int32} {cl : Nat → Bool} {c : Nat} {S S' : xA} {r : Int32} (h : hrR D hour cl c S S' r) : ∀ i, c ≤ i → S' (D + 8) i = S (D + 8) i ∧ S' (D + 9) i = S (D + 9) i ∧ S' (D + 10) i = S (D + 10) i := by
  obtain ⟨g, w1, w2, -, e, -⟩ := h
  intro i hi
  have fu := itZ_f (usS_f D hour) (hp3 D hour cl (upA (upA (upA S (D + 12) g) 15 w2) 14 w1) c) 24
  have st := sdS_t D hour (hp2 D hour cl (upA (upA (upA S (D + 12) g) 15 w2) 14 w1) c) c i hi
  have y : ∀ k, 8 ≤ k → k ≤ 10 → upA (upA (upA S (D + 12) g) 15 w2) 14 w1 (D + k) = S (D + k) := fun k k1 k2 => by rw [upA_n _ _ (by omega), upA_n _ _ (by omega), upA_n _ _ (by omega)]
  have e8 : hp2 D hour cl (upA (upA (upA S (D + 12) g) 15 w2) 14 w1) c (D + 8) i = S (D + 8) i := by
    have : hp1 D hour cl (upA (upA (upA S (D + 12) g) 15 w2) 14 w1) c (D + 8) i = S (D + 8) i := by
      rw [hp1, itZ_f (coS_f D cl) _ 48 (D + 8) (by simp), arS_t D hour _ c i hi, y 8 (by omega) (by omega)]
    unfold hp2
    split
    · rw [itZ_f (pyS_f D) _ 48 (D + 8) (by simp)]; exact this
    · exact this
  have f2 := hp2_f D hour cl (upA (upA (upA S (D + 12) g) 15 w2) 14 w1) c
  rw [e, fu (D + 8) (by simp), fu (D + 9) (by simp), fu (D + 10) (by simp), hp3, st.1, st.2.1, st.2.2, e8, f2 (D + 9) (by simp), f2 (D + 10) (by simp), y 9 (by omega) (by omega), y 10 (by omega) (by omega)]
  exact ⟨rfl, rfl, rfl⟩
/-- what of the reference stays while hours go, beside a state before -/
def Rs (ca : Int32) (S R : xA) : Prop := (∀ q, q ∈ [2, 5, 6, 16, 17, 18, 19, 20, 21, 71, 74, 77, 84, 85, 86, 87, 88, 89, 90, 91, 92, 97, 98, 99, 100, 101, 102, 1, 9, 10, 11, 12, 13, 27, 28, 29, 30, 31, 32, 26] → R q = S q) ∧ (∀ j, j ∈ [1, 15, 21, 41] → R 70 j = S 70 j) ∧ R 70 20 = ca
theorem Rs_l {ca : Int32} {S R R' : xA} (h : Rs ca S R) (h1 : frm LM R R') (h2 : fx70 R R') : Rs ca S R' := by
  refine ⟨fun q hq => ?_, fun j hj => ?_, ?_⟩
  · rw [h1 q (by revert hq; revert q; decide)]; exact h.1 q hq
  · rw [h2 j (by simp at hj; omega)]; exact h.2.1 j hj
  · rw [h2 20 (by omega)]; exact h.2.2
theorem ld_all {S : xA} (hI : Inv S) : ∃ c, c ≤ 40 ∧ S 26 6 = nI c ∧ S 70 41 = nI c ∧ c = (S 26 6).toNatClampNeg ∧ Ev c S S := by
  have i21 := hI.2.2.2.2.2.2.2.2.2.2.2.2.2.2.2.2.2.2.2.2.1
  have j0 := i21.1
  have l1 := (JN_c j0).1
  have l2 := (JN_c j0).2.1
  have l3 := (JN_c j0).2.2
  exact ⟨_, by omega, l1, l2, rfl, fun k hk => ⟨i21.2.1 k hk, i21.2.2.1 k hk, i21.2.2.2.1 k hk, i21.2.2.2.2.1 k hk, i21.2.2.2.2.2.1 k hk, i21.2.2.2.2.2.2.1 k hk⟩⟩
theorem Inv_Bs {S : xA} (hI : Inv S) {c : Nat} (hc40 : c ≤ 40) (hc : S 26 6 = nI c) (hE : Ev c S S) : Bs S c := ⟨Inv_Ru hI, Inv_Ord hI, hc, hc40, fun l hl => ⟨(hE l hl).1.2, (hE l hl).2.2.1.2, (hE l hl).2.2.2.1.2⟩⟩
set_option maxRecDepth 10000 in
set_option maxHeartbeats 4000000 in
theorem m_turn (D : Nat) (hD : 32 < D) (hD2 : ∀ q, q ∈ [2, 5, 6, 16, 17, 18, 19, 20, 21, 27, 28, 29, 30, 31, 32] → q ∉ LC D) (x : Bool) (t c : Nat) (ht : t ≤ 240) (ca : Int32) (S Z Z' R : xA) (r : Int32) (f : xP) (hI : Inv S) (hc40 : c ≤ 40) (hc : S 70 41 = nI c) (hE : Ev c S S) (hRs : Rs ca S R) (fZ : frm (LC D) S Z) (hw : ∀ p, p < 48 → Z (D + 11) p = bI (clS S ca (nI t - 1) p)) (hrel : rel D c x Z R) (hr : hrR D (nI t) (clS S ca (nI t)) c Z Z' r) (h : ∀ R', frm LM R R' → fx70 R R' → rel D c x Z' R' → f r R') : CI mX10_doHour [.ref (70 : Nat), .int (nI t)] R f := by
  have i6 := hI.2.2.2.2.2.1
  have i9 := hI.2.2.2.2.2.2.2.2.1
  have hR : RuO R := by
    unfold RuO
    rw [hRs.1 16 (by decide), hRs.1 17 (by decide), hRs.1 18 (by decide), hRs.1 19 (by decide), hRs.1 20 (by decide), hRs.1 21 (by decide), hRs.2.1 21 (by decide), hRs.1 88 (by decide), hRs.1 89 (by decide), hRs.1 90 (by decide), hRs.1 91 (by decide), hRs.1 92 (by decide)]
    exact Inv_Ru hI
  have hO : Ord R := by
    unfold Ord
    rw [hRs.1 1 (by decide), hRs.1 2 (by decide), hRs.1 9 (by decide), hRs.1 10 (by decide), hRs.1 11 (by decide), hRs.1 12 (by decide), hRs.1 13 (by decide), hRs.2.1 1 (by decide), hRs.2.1 15 (by decide), hRs.1 71 (by decide), hRs.1 84 (by decide), hRs.1 85 (by decide), hRs.1 86 (by decide), hRs.1 87 (by decide)]
    exact Inv_Ord hI
  have hcd : ∀ u t hr, cldO (cAt S ca) u t hr = cldO R u t hr := cldO_d (fun q hq => by rw [cAt_n (by revert hq; revert q; decide), hRs.1 q (by revert hq; revert q; decide)]) (by rw [hRs.2.2]; unfold cAt; rw [upA_s, pk_us])
  have et : (nI t).toInt = t := toInt_nI (by omega)
  refine m_hour D hD x (nI t) (by omega) (clS S ca (nI t)) c Z Z' R r f hR hO (by rw [hRs.2.1 41 (by decide)]; exact hc) hc40 (Ev_c hE (fun q q1 q2 => fZ q (hD2 q (by simp; omega))) (fun q q1 q2 => hRs.1 q (by simp; omega))) (by rw [fZ 5 (hD2 5 (by decide)), hRs.1 74 (by decide)]; exact i6) (by rw [fZ 6 (hD2 6 (by decide)), hRs.1 77 (by decide)]; exact fun i hi => (i9 i hi).1) (by rw [fZ 2 (hD2 2 (by decide)), hRs.1 2 (by decide)]) (fun i hi => ?_) (fun p hp => hcd _ _ _) (fun p hp => ?_) hrel hr h
  · rw [fcS_d (S := S) (S' := Z) (fun q q1 q2 => fZ q (hD2 q (by simp; omega))), fcS_d (S := S) (S' := R) (fun q q1 q2 => hRs.1 q (by simp; omega))]
  · rw [hw p hp]
    congr 1
    by_cases e : t = 0
    · subst e
      rw [decide_eq_false (show ¬ (0 : Int32) < nI 0 by decide), Bool.false_and]
      exact cldO_m1 _ _ _
    · rw [decide_eq_true (show (0 : Int32) < nI t by rw [lt_I, et, ti_0]; omega), Bool.true_and]
      exact hcd _ _ _
