-- String.checkIndex: the formatter's address isn't known: by hand
def gS (g : xG) (b t : Nat) : xG := (g.1, g.2.1, g.2.2.1, b, fun k => if k = 400 then t else g.2.2.2.2 k)
theorem gK_s {g : xG} {U : State} {H : Heap} {b t : Nat} (h : gK g U H) (hb : g.2.2.2.1 ≤ b) : gK (gS g b t) U H := by
  have hAB : ∀ q, gR (gS g b t) q → gR g q := fun q hq => Nat.le_trans hb hq
  have e : ∀ k, k < 400 → (gS g b t).2.2.2.2 k = g.2.2.2.2 k := fun k hk => if_neg (by omega)
  refine ⟨fun i hi => ?_, h.2.1.narrow hAB, ⟨fun i hi => ?_, fun i j hi hj => ?_⟩, fun i hi => ?_, h.2.2.2.2.1.narrow hAB, h.2.2.2.2.2⟩
  · rw [e (200 + i) (by omega)]
    exact ⟨(h.1 i hi).1.narrow hAB, (h.1 i hi).2.narrow hAB⟩
  · have q := (h.2.2.1.narrow hAB).1 i hi
    simp only at q ⊢
    rw [e i (by omega), e (100 + i) (by omega)]
    exact q
  · simp only
    rw [e i (by omega), e j (by omega)]
    exact h.2.2.1.2 i j hi hj
  · rw [e i (by omega)]
    exact h.2.2.2.1 i hi
set_option maxHeartbeats 4000000 in
theorem k_pre (i n : Int32) (x : Value) (F : xF) (A : xA) (Q : xQ) (h0 : ¬ i < 0) (h1 : i < n) (hQ : Q (some (.int i)) [] F A) : Ok mJ3_checkIndex_8e157 0 [some (.int i), some (.int n), some x] [] 0 0 [] F A Q := by
  refine ok_seg (b := cJ3_checkIndex_8e157) (o := 15) 12 (fun _ => none) rfl rfl ?_ (fun _ _ h => by cases h)
  simp only [sin, seg, sop, dJ3_checkIndex_8e157_0, dJ3_checkIndex_8e157_1, dJ3_checkIndex_8e157_4, dJ3_checkIndex_8e157_5, dJ3_checkIndex_8e157_6, dJ3_checkIndex_8e157_16, dJ3_checkIndex_8e157_17]
  done
