-- loops: a rule for counted ones
section LP
variable {M : xM} {fi : xP} {fv : xA → Prop}
/-- a loop with its head at a: the states by number; each one but the last leads to the next, the last one on -/
theorem ok2_for (b : ByteArray) (o n a N : Nat) (L : Nat → xS) (Z : Nat → xA) (st : List Value) (hb : b = mB M) (ho : o = mO M)
    (hs : ∀ k, k < N → ∀ R : xS → List Value → xA → Prop, R (L (k + 1)) st (Z (k + 1)) → sn2 M b o (sg2 M b o (kc a R K2) fi fv n) fi fv a (L k) st (Z k))
    (he : Ok2 M a (L N) st (Z N) fi fv) : ∀ k, k ≤ N → Ok2 M a (L k) st (Z k) fi fv := by
  intro k hk
  obtain ⟨d, hd⟩ : ∃ d, d = N - k := ⟨_, rfl⟩
  induction d generalizing k with
  | zero =>
    have : k = N := by omega
    subst this
    exact he
  | succ d ih =>
    refine ok2_1 b o n a (fun ls st' S => ls = L (k + 1) ∧ st' = st ∧ S = Z (k + 1)) hb ho ?_ ?_
    · rintro ls st' S ⟨rfl, rfl, rfl⟩
      exact ih (k + 1) (by omega) (by omega)
    · intro R hR
      exact hs k (by omega) R (hR _ _ _ ⟨rfl, rfl, rfl⟩)
end LP
theorem toInt_nI {n : Nat} (h : n < 1000000) : (nI n).toInt = n := nI_toInt (by omega)
/-- the places lo .. lo+k-1 hold v -/
def fillR (a : Nat → Int32) (lo k : Nat) (v : Int32) : Nat → Int32 := fun j => if lo ≤ j ∧ j < lo + k then v else a j
theorem fillR_0 (a : Nat → Int32) (lo : Nat) (v : Int32) : fillR a lo 0 v = a := by
  funext j
  unfold fillR
  rw [if_neg (by omega)]
theorem fillR_s (a : Nat → Int32) (lo k : Nat) (v : Int32) : upd (fillR a lo k v) (lo + k) v = fillR a lo (k + 1) v := by
  funext j
  rw [upd_t]
  unfold fillR
  by_cases h : j = lo + k
  · rw [if_pos h, if_pos (by omega)]
  · rw [if_neg h]
    by_cases h2 : lo ≤ j ∧ j < lo + k
    · rw [if_pos h2, if_pos (by omega)]
    · rw [if_neg h2, if_neg (by omega)]
