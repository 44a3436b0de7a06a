-- what listen leaves is what holds
theorem lsn_hl (S : xA) (hour at' first : Int32) {u t p : Nat} (hu : u < 6) (ht : t < 8) (hp : p < 2) : ∀ n, (∀ o, o < n → (0 ≤ (S 10 o).toInt ∧ (S 10 o).toInt ≤ 3) ∧ (0 ≤ (S 11 o).toInt ∧ (S 11 o).toInt ≤ 5) ∧ (cmC S o (nI t) (gvn S at' first o) = -1 ∨ (0 ≤ (cmC S o (nI t) (gvn S at' first o)).toInt ∧ (gvn S at' first o).toInt ≤ (cmC S o (nI t) (gvn S at' first o)).toInt))) →
    (lsn S hour at' first n).1 (p * 48 + u * 8 + t) = (hlF (S 10) (S 11) (fun o => cmC S o (nI t) (gvn S at' first o)) (nI u) hour (nI p) n).1 ∧ (lsn S hour at' first n).2 (p * 48 + u * 8 + t) = (hlF (S 10) (S 11) (fun o => cmC S o (nI t) (gvn S at' first o)) (nI u) hour (nI p) n).2
  | 0, _ => by
    unfold lsn hlF fillR
    simp only
    rw [if_pos (by omega), if_pos (by omega)]
    exact ⟨rfl, rfl⟩
  | n + 1, h => by
    obtain ⟨ih1, ih2⟩ := lsn_hl S hour at' first hu ht hp n (fun o ho => h o (by omega))
    obtain ⟨hk, hU, hr⟩ := h n (by omega)
    have ep : (nI p).toInt = p := toInt_nI (by omega)
    have eu : (nI u).toInt = u := toInt_nI (by omega)
    have ed := div2 hk
    rw [lsn]
    by_cases hg : hour < gvn S at' first n
    · rw [if_pos hg]
      rw [lt_I] at hg
      have hno : ¬ hlC (S 10) (S 11) (fun o => cmC S o (nI t) (gvn S at' first o)) (nI u) hour (nI p) n (hlF (S 10) (S 11) (fun o => cmC S o (nI t) (gvn S at' first o)) (nI u) hour (nI p) n).2 := by
        rintro ⟨q1, q2, q3, q4, q5⟩
        simp only [lt_I, ti_0] at q3 q4
        rcases hr with e | ⟨e1, e2⟩
        · rw [e, ti_m1] at q3
          omega
        · omega
      rw [hlF_n hno]
      exact ⟨ih1, ih2⟩
    · rw [if_neg hg]
      obtain ⟨-, er⟩ := rowO_ok hk hU
      have key : (row : Nat) → (row = rowO S n) → ((row ≤ p * 48 + u * 8 + t ∧ p * 48 + u * 8 + t < row + 8 ∧ ¬ cmC S n (nI (p * 48 + u * 8 + t - row)) (gvn S at' first n) = -1 ∧ ¬ hour < cmC S n (nI (p * 48 + u * 8 + t - row)) (gvn S at' first n) ∧ ¬ cmC S n (nI (p * 48 + u * 8 + t - row)) (gvn S at' first n) < (lsn S hour at' first n).2 (p * 48 + u * 8 + t)) ↔ hlC (S 10) (S 11) (fun o => cmC S o (nI t) (gvn S at' first o)) (nI u) hour (nI p) n (hlF (S 10) (S 11) (fun o => cmC S o (nI t) (gvn S at' first o)) (nI u) hour (nI p) n).2) := by
        intro row hrow
        subst hrow
        unfold hlC
        constructor
        · rintro ⟨q1, q2, q3, q4, q5⟩
          have e1 : (S 11 n).toInt = u := by omega
          have e2 : (S 10 n).toInt / 2 = p := by omega
          have e3 : p * 48 + u * 8 + t - rowO S n = t := by omega
          rw [e3] at q3 q4 q5
          rw [ih2] at q5
          refine ⟨?_, ?_, ?_, q4, q5⟩
          · rw [eq_I, eu]; exact e1
          · rw [eq_I, ed, ep]; exact e2
          · rcases hr with e | ⟨e1, e2⟩
            · exact absurd e q3
            · show ¬ cmC S n (nI t) (gvn S at' first n) < 0
              rw [lt_I, ti_0]; omega
        · rintro ⟨q1, q2, q3, q4, q5⟩
          rw [eq_I, eu] at q1
          rw [eq_I, ed, ep] at q2
          have e3 : p * 48 + u * 8 + t - rowO S n = t := by omega
          rw [e3, ih2]
          refine ⟨by omega, by omega, ?_, q4, q5⟩
          intro e
          have q3 : ¬ cmC S n (nI t) (gvn S at' first n) < 0 := q3
          rw [e] at q3
          exact q3 (by decide)
      have key := key _ rfl
      unfold spA
      simp only
      by_cases hC : hlC (S 10) (S 11) (fun o => cmC S o (nI t) (gvn S at' first o)) (nI u) hour (nI p) n (hlF (S 10) (S 11) (fun o => cmC S o (nI t) (gvn S at' first o)) (nI u) hour (nI p) n).2
      · have q := key.mpr hC
        rw [hlF_y hC, if_pos (decide_eq_true q), if_pos (decide_eq_true q)]
        have e1 := hC.1
        have e2 := hC.2.1
        rw [eq_I, eu] at e1
        rw [eq_I, ed, ep] at e2
        have e3 : p * 48 + u * 8 + t - rowO S n = t := by omega
        rw [e3]
        exact ⟨rfl, rfl⟩
      · have q : ¬ (decide (rowO S n ≤ p * 48 + u * 8 + t ∧ p * 48 + u * 8 + t < rowO S n + 8 ∧ ¬ cmC S n (nI (p * 48 + u * 8 + t - rowO S n)) (gvn S at' first n) = -1 ∧ ¬ hour < cmC S n (nI (p * 48 + u * 8 + t - rowO S n)) (gvn S at' first n) ∧ ¬ cmC S n (nI (p * 48 + u * 8 + t - rowO S n)) (gvn S at' first n) < (lsn S hour at' first n).2 (p * 48 + u * 8 + t)) = true) := by
          rw [decide_eq_true_eq]
          exact fun w => hC (key.mp w)
        rw [hlF_n hC, if_neg q, if_neg q]
        exact ⟨ih1, ih2⟩
