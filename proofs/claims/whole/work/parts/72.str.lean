-- String.checkIndex: the formatter's address isn't known: by hand
def gS (g : xG) (b t : Nat) : xG := (g.1, g.2.1, g.2.2.1, b, fun k => if k = 400 then t else g.2.2.2.2 k)
theorem gK_s {g : xG} {U : State} {H : Heap} {b t : Nat} (h : gK g U H) (hb : g.2.2.2.1 ≤ b) : gK (gS g b t) U H := by
  have hAB : ∀ q, gR (gS g b t) q → gR g q := fun q hq => Nat.le_trans hb hq
  have e : ∀ k, k < 400 → (gS g b t).2.2.2.2 k = g.2.2.2.2 k := fun k hk => if_neg (by omega)
  refine ⟨fun i hi => ?_, h.2.1.narrow hAB, ⟨fun i hi => ?_, fun i j hi hj => ?_⟩, fun i hi => ?_, h.2.2.2.2.1.narrow hAB, h.2.2.2.2.2⟩
  · rw [e (200 + i) (by omega)]
    exact ⟨(h.1 i hi).1.narrow hAB, (h.1 i hi).2.narrow hAB⟩
  · have q := (h.2.2.1.narrow hAB).1 i hi
    simp only at q ⊢
    rw [e i (by omega), e (100 + i) (by omega)]
    exact q
  · simp only
    rw [e i (by omega), e j (by omega)]
    exact h.2.2.1.2 i j hi hj
  · rw [e i (by omega)]
    exact h.2.2.2.1 i hi
set_option maxHeartbeats 4000000 in
theorem k_pre (i n : Int32) (x : Value) (F : xF) (A : xA) (Q : xQ) (h0 : ¬ i < 0) (h1 : i < n) (hQ : Q (some (.int i)) [] F A) : Ok mJ3_checkIndex_8e157 0 [some (.int i), some (.int n), some x] [] 0 0 [] F A Q := by
  refine ok1_0 cJ3_checkIndex_8e157 15 12 rfl rfl ?_
  simp only [Nat.reduceEqDiff, not_false_eq_true, Nat.zero_le, Nat.reduceLeDiff, Nat.reduceLT, Nat.reduceAdd, sg1_s, ↓kig_0, ↓kig_c, ↓reduceIte, nl_n, nl_i, nl_r, List.length_cons, List.length_nil, true_and, and_true, and_self, (n_iload_n_0 dJ3_checkIndex_8e157_0 (n := 1) rfl), (n_if_lt dJ3_checkIndex_8e157_1 (n := 4) rfl br_1_8), (n_iload_n_0 dJ3_checkIndex_8e157_4 (n := 5) rfl), (n_iload_n_1 dJ3_checkIndex_8e157_5 (n := 6) rfl), (n_ic_lt dJ3_checkIndex_8e157_6 (n := 9) rfl br_6_10), (n_aload_n_2 dJ3_checkIndex_8e157_9 (n := 10) rfl), (n_iload_n_0 dJ3_checkIndex_8e157_10 (n := 11) rfl), (n_iload_n_1 dJ3_checkIndex_8e157_11 (n := 12) rfl), (n_iload_n_0 dJ3_checkIndex_8e157_16 (n := 17) rfl), (n_ireti dJ3_checkIndex_8e157_17 (n := 18) rfl)]
  rw [if_neg h0, if_pos h1]
  exact ⟨⟨.int, rfl, rfl⟩, hQ⟩
theorem k_pre2 (i n : Int32) (x : Value) (F : xF) (A : xA) (Q : xQ) (hx : x = .null ∨ x = .ref (1400 : Nat)) (h0 : ¬ i < 0) (h1 : i < n) (hQ : Q (some (.int i)) [] F A) : CallOk mJ3_checkIndex_8e157 [.int i, .int n, x] [] F A Q := by
  rcases hx with rfl | rfl
  · exact call_of mJ3_checkIndex_8e157 [.int i, .int n, .null] [] F A Q (ls := [some (.int i), some (.int n), some .null]) rfl (Nat.le_of_ble_eq_true rfl) (by decide) rfl rfl (k_pre i n .null F A Q h0 h1 hQ)
  · exact call_of mJ3_checkIndex_8e157 [.int i, .int n, .ref (1400 : Nat)] [] F A Q (ls := [some (.int i), some (.int n), some (.ref (1400 : Nat))]) rfl (Nat.le_of_ble_eq_true rfl) (by decide) rfl rfl (k_pre i n (.ref (1400 : Nat)) F A Q h0 h1 hQ)
theorem tw_584 : (Jvm.Cond.fieldLink "java/lang/String" (1053 : Nat) "jdk/internal/util/Preconditions" "SIOOBE_FORMATTER" "Ljava/util/function/BiFunction;") ∈ lw_ok := in_t 584 (by decide +kernel) rfl
theorem gH_nil {g : xG} {F : xF} {A : xA} {H : Heap} {t : Nat} : gH (gS g H.size t) [] F A H := ⟨rfl, Nat.zero_le _, fun k q h => by cases h⟩
set_option maxHeartbeats 4000000 in
theorem k_chk {L : xL} {F : xF} {A : xA} {Q : xQ} (i n : Int32) (h0 : ¬ i < 0) (h1 : i < n) (hQ : Q none L F A) : CallOk mJ0_checkIndex_df160 [.int i, .int n] L F A Q := by
  refine call_of mJ0_checkIndex_df160 [.int i, .int n] L F A Q (ls := [some (.int i), some (.int n)]) rfl (Nat.le_of_ble_eq_true rfl) (by decide) rfl rfl ?_
  have h8 : Ok mJ0_checkIndex_df160 8 [some (.int i), some (.int n)] [.int i] 0 0 L F A Q := by
    refine ok1_0 cJ0_checkIndex_df160 12 6 rfl rfl ?_
    simp only [Nat.reduceEqDiff, not_false_eq_true, Nat.zero_le, Nat.reduceLeDiff, Nat.reduceLT, Nat.reduceAdd, sg1_s, ↓kig_0, ↓kig_c, ↓reduceIte, nl_n, nl_i, nl_r, List.length_cons, List.length_nil, true_and, and_true, and_self, (n_iload_n_0 dJ0_checkIndex_df160_0 (n := 1) rfl), (n_iload_n_1 dJ0_checkIndex_df160_1 (n := 2) rfl), (n_pop_i dJ0_checkIndex_df160_8 (n := 9) rfl), (n_pop_r dJ0_checkIndex_df160_8 (n := 9) rfl), (n_ret (M := mJ0_checkIndex_df160) dJ0_checkIndex_df160_9 (n := 10) rfl rfl)]
    exact hQ
  refine ok1_1 cJ0_checkIndex_df160 12 6 2 (fun ls st c z L' F' A' => ls = [some (.int i), some (.int n)] ∧ st = [.int n, .int i] ∧ c = 0 ∧ z = 0 ∧ L' = L ∧ F' = F ∧ A' = A) rfl rfl ?_ ?_
  · rintro _ _ _ _ L2 F2 A2 ⟨rfl, rfl, rfl, rfl, e1, e2, e3⟩
    rw [e1, e2, e3]
    intro p l e s m args below meth cd g QS H locs sl C R hH hS hl
    have hG := C.2.2.2.2.2.2.2.2.2.1
    have hts := C.2.2.2.2.1
    have hfx : CallFix p m cd (mB mJ0_checkIndex_df160) (mN mJ0_checkIndex_df160) s args lw_ok (xO (mO mJ0_checkIndex_df160)) := ⟨C.1, C.2.1, C.2.2.1, C.2.2.2.1, hts⟩
    have hok : okM ((12, 1059), (1, 3, mJ3_checkIndex_8e157)) := pM_0
    obtain ⟨hpar, hml, hmh, hcode, hini, hpl, hkd⟩ := hok
    have hGd := mW_good (T := mJ3_checkIndex_8e157) hcode
    have hRm : (mR mJ3_checkIndex_8e157).frames + 1 ≤ (mR mJ0_checkIndex_df160).frames ∧ 8 + (mN mJ3_checkIndex_8e157 + 11) + (mR mJ3_checkIndex_8e157).locals ≤ (mR mJ0_checkIndex_df160).locals := by decide
    -- the call, whatever the formatter is
    have call : ∀ (t : Nat) (x w : Value), (x = .null ∨ x = .ref (1400 : Nat)) → gV (gS g H.size t) x = w → W p l e (mR mJ0_checkIndex_df160) s m args below meth cd H locs 0 0 QS (F0 m 5 sl (w :: .int n :: .int i :: [])) := by
      intro t x w hx hw
      have hM := k_pre2 i n x F A (fun v L F A => v = some (.int i) ∧ L = []) hx h0 h1 ⟨rfl, rfl⟩ l (gS g H.size t)
      have hb : g.2.2.2.1 ≤ H.size := by rw [hH.1]; exact Nat.le_add_right _ _
      have hr := va_runS (p := p) (e := e) (R := mR mJ0_checkIndex_df160) (below := below) (meth := meth) (H := H) (locs := locs) (cells := 0) (slots := 0) (As := [.int i, .int n, w]) (rest := []) (g := F0 m 5 sl (w :: .int n :: .int i :: [])) hfx hM ⟨callB_of 3 hts hGd rfl rfl rfl (hts _ hini) (hts _ hkd.1) ⟨hmh.1, hmh.2, hpar⟩ hRm, hts _ hkd.2⟩ ⟨mP_blind _ _ _ _ _, ?_⟩ rfl rfl hl.1 rfl (lv_room (by simp)) dJ0_checkIndex_df160_5 ⟨Nat.zero_le _, Nat.zero_le _⟩
      · intro T hT X
        obtain ⟨v, st₀, t', T', Ls, e0, X', hL, e1, e2, ⟨⟨r, L', F', A', hv, ⟨hq1, hq2⟩, hw'⟩, hz, hkp⟩, st⟩ := hr T hT X
        subst hq1
        subst hq2
        have hv2 : v = some (.int i) := by injection hv
        subst hv2
        rw [e0] at hz hkp
        have hsz : t'.heap.size = H.size := hw'.1
        have hHe : T'.heap = H := by
          rw [e1]
          apply Array.ext_getElem?
          intro q
          by_cases hq : q < H.size
          · exact hkp q hq (fun w => by have : H.size ≤ q := w; omega)
          · rw [Array.getElem?_eq_none (by omega), Array.getElem?_eq_none (by omega)]
        have hk2 := h8 p l e s m args below meth cd g QS H (locs ++ Ls) sl C R hH ⟨hS.1, hS.2.1, fun q hq => (List.mem_append.mp hq).elim (hS.2.2 q) (fun w => Nat.le_trans hb (hL q w))⟩ hl
        obtain ⟨t2, a1, b1⟩ := hk2 T' hHe X'
        exact ⟨t2, st t2 a1, b1⟩
      · intro U hU hW
        have hG2 := (hG.kept hS.2.1).warm hW
        refine ⟨?_, by rw [hU]; exact gH_nil, va_K.moved hW.alike C.2.2.2.2.2.2.2.2.1, by rw [hU]; exact gK_s hG2 hb⟩
        show [Value.int i, Value.int n, w].toArray = (([Value.int i, Value.int n, x]).map (gV (gS g H.size t))).toArray
        rw [← hw]
        rfl
    rcases hG.2.2.2.2.1 with hZ | ⟨t, hZ⟩
    · exact va_gets C.1 C.2.1 hZ hS C.2.2.2.1 (hts _ tw_584) (fun _ hx => hx) dJ0_checkIndex_df160_2 (call 0 .null .null (Or.inl rfl) rfl)
    · exact va_gets C.1 C.2.1 hZ hS C.2.2.2.1 (hts _ tw_584) (fun _ hx => hx) dJ0_checkIndex_df160_2 (call t (.ref (1400 : Nat)) (.ref t) (Or.inr rfl) rfl)
  · intro K hK
    simp only [Nat.reduceEqDiff, not_false_eq_true, Nat.zero_le, Nat.reduceLeDiff, Nat.reduceLT, Nat.reduceAdd, sg1_s, ↓kig_0, ↓kig_c, ↓reduceIte, nl_n, nl_i, nl_r, List.length_cons, List.length_nil, true_and, and_true, and_self, (n_iload_n_0 dJ0_checkIndex_df160_0 (n := 1) rfl), (n_iload_n_1 dJ0_checkIndex_df160_1 (n := 2) rfl), (n_pop_i dJ0_checkIndex_df160_8 (n := 9) rfl), (n_pop_r dJ0_checkIndex_df160_8 (n := 9) rfl), (n_ret (M := mJ0_checkIndex_df160) dJ0_checkIndex_df160_9 (n := 10) rfl rfl)]
    exact hK _ _ _ _ _ _ _ ⟨rfl, rfl, rfl, rfl, rfl, rfl, rfl⟩
