-- more rules for loops: by a property of locals and state at each turn; what a call leaves as it was
def lx (o : Option Int32) : Option Value := match o with
  | none => none
  | some y => some (.int y)
theorem nl_x (o : Option Int32) : nl (lx o) = true := by cases o <;> simp [lx, nl]
theorem lx_i (y : Int32) : lx (some y) = some (.int y) := rfl
theorem lx_n : lx none = none := rfl
def frm (l : List Nat) (S S' : xA) : Prop := ∀ c, c ∉ l → S' c = S c
theorem frm_rf (l : List Nat) (S : xA) : frm l S S := fun _ _ => rfl
theorem frm_up {l : List Nat} {S S' : xA} {a : Nat} {f : Nat → Int32} (h : frm l S S') (ha : a ∈ l) : frm l S (upA S' a f) := by
  intro c hc
  have hne : ¬ c = a := fun e => hc (by rw [e]; exact ha)
  simp only [upA]
  rw [if_neg hne]
  exact h c hc
theorem frm_tr {l l2 : List Nat} {S S' S2 : xA} (h : frm l S S') (h2 : frm l2 S' S2) (hl : ∀ c ∈ l2, c ∈ l) : frm l S S2 := fun c hc => (h2 c (fun q => hc (hl c q))).trans (h c hc)
section LP
variable {M : xM} {fi : xP} {fv : xA → Prop} {ls0 : xS} {S0 : xA}
/-- a loop by a measure -/
theorem ok2_inv (b : ByteArray) (o n a : Nat) (P : Nat → xS → xA → Prop) (hb : b = mB M) (ho : o = mO M)
    (hs : ∀ m ls S, P m ls S → ∀ R : xS → List Value → xA → Prop, (∀ m' ls S, m' < m → P m' ls S → R ls [] S) → sn2 M b o (sg2 M b o (kc a R K2) fi fv n) fi fv a ls [] S) : ∀ m ls S, P m ls S → Ok2 M a ls [] S fi fv := by
  intro m
  induction m using Nat.strongRecOn with
  | ind m ih =>
    intro ls S hP
    refine ok2_1 b o n a (fun ls st S => st = [] ∧ ∃ m', m' < m ∧ P m' ls S) hb ho ?_ ?_
    · rintro ls st S ⟨rfl, m', hm, hq⟩
      exact ih m' hm ls S hq
    · intro R hR
      exact hs m ls S hP R (fun m' ls S hm hq => hR ls [] S ⟨rfl, m', hm, hq⟩)
/-- a counted loop: P by number -/
theorem ok2_fp (b : ByteArray) (o n a N : Nat) (P : Nat → xS → xA → Prop) (hb : b = mB M) (ho : o = mO M)
    (hs : ∀ k, k < N → ∀ ls S, P k ls S → ∀ R : xS → List Value → xA → Prop, (∀ ls S, P (k + 1) ls S → R ls [] S) → sn2 M b o (sg2 M b o (kc a R K2) fi fv n) fi fv a ls [] S)
    (he : ∀ ls S, P N ls S → Ok2 M a ls [] S fi fv) : ∀ k, k ≤ N → ∀ ls S, P k ls S → Ok2 M a ls [] S fi fv := by
  intro k hk
  obtain ⟨d, hd⟩ : ∃ d, d = N - k := ⟨_, rfl⟩
  induction d generalizing k with
  | zero =>
    have : k = N := by omega
    subst this
    exact he
  | succ d ih =>
    intro ls S hP
    refine ok2_1 b o n a (fun ls st S => st = [] ∧ P (k + 1) ls S) hb ho ?_ ?_
    · rintro ls st S ⟨rfl, hq⟩
      exact ih (k + 1) (by omega) (by omega) ls S hq
    · intro R hR
      exact hs k (by omega) ls S hP R (fun ls S hq => hR ls [] S ⟨rfl, hq⟩)
theorem ok_for (b : ByteArray) (o n a N : Nat) (P : Nat → xS → xA → Prop) (hb : b = mB M) (ho : o = mO M)
    (h0 : ∀ R : xS → List Value → xA → Prop, (∀ ls S, P 0 ls S → R ls [] S) → sn2 M b o (sg2 M b o (kc a R K2) fi fv n) fi fv 0 ls0 [] S0)
    (hs : ∀ k, k < N → ∀ ls S, P k ls S → ∀ R : xS → List Value → xA → Prop, (∀ ls S, P (k + 1) ls S → R ls [] S) → sn2 M b o (sg2 M b o (kc a R K2) fi fv n) fi fv a ls [] S)
    (he : ∀ ls S, P N ls S → ∀ R : xS → List Value → xA → Prop, sn2 M b o (sg2 M b o (kc a R K2) fi fv n) fi fv a ls [] S) : Ok2 M 0 ls0 [] S0 fi fv := by
  refine ok2_1 b o n a (fun ls st S => st = [] ∧ P 0 ls S) hb ho ?_ ?_
  · rintro ls st S ⟨rfl, hq⟩
    exact ok2_fp b o n a N P hb ho hs (fun ls S hq => ok2_1 b o n a (fun _ _ _ => False) hb ho (fun _ _ _ h => h.elim) (fun R _ => he ls S hq R)) 0 (by omega) ls S hq
  · intro R hR
    exact h0 R (fun ls S hq => hR ls [] S ⟨rfl, hq⟩)
theorem ok_inv (b : ByteArray) (o n a : Nat) (P : Nat → xS → xA → Prop) (hb : b = mB M) (ho : o = mO M)
    (h0 : ∀ R : xS → List Value → xA → Prop, (∀ m ls S, P m ls S → R ls [] S) → sn2 M b o (sg2 M b o (kc a R K2) fi fv n) fi fv 0 ls0 [] S0)
    (hs : ∀ m ls S, P m ls S → ∀ R : xS → List Value → xA → Prop, (∀ m' ls S, m' < m → P m' ls S → R ls [] S) → sn2 M b o (sg2 M b o (kc a R K2) fi fv n) fi fv a ls [] S) : Ok2 M 0 ls0 [] S0 fi fv := by
  refine ok2_1 b o n a (fun ls st S => st = [] ∧ ∃ m, P m ls S) hb ho ?_ ?_
  · rintro ls st S ⟨rfl, m, hq⟩
    exact ok2_inv b o n a P hb ho hs m ls S hq
  · intro R hR
    exact h0 R (fun m ls S hq => hR ls [] S ⟨rfl, m, hq⟩)
/-- a loop in a loop: heads a (outer), c (inner) -/
theorem ok2_f2 (b : ByteArray) (o n a c N : Nat) (P : Nat → xS → xA → Prop) (T : Nat → Nat) (Q : Nat → Nat → xS → xA → Prop) (hb : b = mB M) (ho : o = mO M)
    (h1 : ∀ k, k < N → ∀ ls S, P k ls S → ∀ R R2 : xS → List Value → xA → Prop, (∀ ls S, Q k 0 ls S → R ls [] S) → (∀ ls S, P (k + 1) ls S → R2 ls [] S) → sn2 M b o (sg2 M b o (kc c R (kc a R2 K2)) fi fv n) fi fv a ls [] S)
    (h2 : ∀ k, k < N → ∀ j, j < T k → ∀ ls S, Q k j ls S → ∀ R R2 : xS → List Value → xA → Prop, (∀ ls S, Q k (j + 1) ls S → R ls [] S) → (∀ ls S, P (k + 1) ls S → R2 ls [] S) → sn2 M b o (sg2 M b o (kc c R (kc a R2 K2)) fi fv n) fi fv c ls [] S)
    (h3 : ∀ k, k < N → ∀ ls S, Q k (T k) ls S → ∀ R R2 : xS → List Value → xA → Prop, (∀ ls S, P (k + 1) ls S → R2 ls [] S) → sn2 M b o (sg2 M b o (kc c R (kc a R2 K2)) fi fv n) fi fv c ls [] S)
    (he : ∀ ls S, P N ls S → Ok2 M a ls [] S fi fv) : ∀ k, k ≤ N → ∀ ls S, P k ls S → Ok2 M a ls [] S fi fv := by
  intro k hk
  obtain ⟨d, hd⟩ : ∃ d, d = N - k := ⟨_, rfl⟩
  induction d generalizing k with
  | zero =>
    have : k = N := by omega
    subst this
    exact he
  | succ d ih =>
    intro ls S hP
    have ih' := ih (k + 1) (by omega) (by omega)
    have inn : ∀ j, j ≤ T k → ∀ ls S, Q k j ls S → Ok2 M c ls [] S fi fv := by
      intro j hj
      obtain ⟨e, he⟩ : ∃ e, e = T k - j := ⟨_, rfl⟩
      induction e generalizing j with
      | zero =>
        intro ls S hQ
        have : j = T k := by omega
        subst this
        refine ok2_2 b o n c a (fun _ _ _ => False) (fun ls st S => st = [] ∧ P (k + 1) ls S) hb ho (fun _ _ _ h => h.elim) ?_ ?_
        · rintro ls st S ⟨rfl, hq⟩
          exact ih' ls S hq
        · intro R R2 _ hR
          exact h3 k (by omega) ls S hQ R R2 (fun ls S hq => hR ls [] S ⟨rfl, hq⟩)
      | succ e ihe =>
        intro ls S hQ
        refine ok2_2 b o n c a (fun ls st S => st = [] ∧ Q k (j + 1) ls S) (fun ls st S => st = [] ∧ P (k + 1) ls S) hb ho ?_ ?_ ?_
        · rintro ls st S ⟨rfl, hq⟩
          exact ihe (j + 1) (by omega) (by omega) ls S hq
        · rintro ls st S ⟨rfl, hq⟩
          exact ih' ls S hq
        · intro R R2 hR hR2
          exact h2 k (by omega) j (by omega) ls S hQ R R2 (fun ls S hq => hR ls [] S ⟨rfl, hq⟩) (fun ls S hq => hR2 ls [] S ⟨rfl, hq⟩)
    refine ok2_2 b o n c a (fun ls st S => st = [] ∧ Q k 0 ls S) (fun ls st S => st = [] ∧ P (k + 1) ls S) hb ho ?_ ?_ ?_
    · rintro ls st S ⟨rfl, hq⟩
      exact inn 0 (by omega) ls S hq
    · rintro ls st S ⟨rfl, hq⟩
      exact ih' ls S hq
    · intro R R2 hR hR2
      exact h1 k (by omega) ls S hP R R2 (fun ls S hq => hR ls [] S ⟨rfl, hq⟩) (fun ls S hq => hR2 ls [] S ⟨rfl, hq⟩)
theorem ok_f2 (b : ByteArray) (o n a c N : Nat) (P : Nat → xS → xA → Prop) (T : Nat → Nat) (Q : Nat → Nat → xS → xA → Prop) (hb : b = mB M) (ho : o = mO M)
    (h0 : ∀ R : xS → List Value → xA → Prop, (∀ ls S, P 0 ls S → R ls [] S) → sn2 M b o (sg2 M b o (kc a R K2) fi fv n) fi fv 0 ls0 [] S0)
    (h1 : ∀ k, k < N → ∀ ls S, P k ls S → ∀ R R2 : xS → List Value → xA → Prop, (∀ ls S, Q k 0 ls S → R ls [] S) → (∀ ls S, P (k + 1) ls S → R2 ls [] S) → sn2 M b o (sg2 M b o (kc c R (kc a R2 K2)) fi fv n) fi fv a ls [] S)
    (h2 : ∀ k, k < N → ∀ j, j < T k → ∀ ls S, Q k j ls S → ∀ R R2 : xS → List Value → xA → Prop, (∀ ls S, Q k (j + 1) ls S → R ls [] S) → (∀ ls S, P (k + 1) ls S → R2 ls [] S) → sn2 M b o (sg2 M b o (kc c R (kc a R2 K2)) fi fv n) fi fv c ls [] S)
    (h3 : ∀ k, k < N → ∀ ls S, Q k (T k) ls S → ∀ R R2 : xS → List Value → xA → Prop, (∀ ls S, P (k + 1) ls S → R2 ls [] S) → sn2 M b o (sg2 M b o (kc c R (kc a R2 K2)) fi fv n) fi fv c ls [] S)
    (he : ∀ ls S, P N ls S → ∀ R R2 : xS → List Value → xA → Prop, sn2 M b o (sg2 M b o (kc c R (kc a R2 K2)) fi fv n) fi fv a ls [] S) : Ok2 M 0 ls0 [] S0 fi fv := by
  refine ok2_1 b o n a (fun ls st S => st = [] ∧ P 0 ls S) hb ho ?_ ?_
  · rintro ls st S ⟨rfl, hq⟩
    exact ok2_f2 b o n a c N P T Q hb ho h1 h2 h3 (fun ls S hq => ok2_2 b o n c a (fun _ _ _ => False) (fun _ _ _ => False) hb ho (fun _ _ _ h => h.elim) (fun _ _ _ h => h.elim) (fun R R2 _ _ => he ls S hq R R2)) 0 (by omega) ls S hq
  · intro R hR
    exact h0 R (fun ls S hq => hR ls [] S ⟨rfl, hq⟩)
/-- from anywhere to a cut -/
theorem ok2_to (b : ByteArray) (o n a : Nat) (P : xS → xA → Prop) (hb : b = mB M) (ho : o = mO M) {pc : Nat} (hP : ∀ ls S, P ls S → Ok2 M a ls [] S fi fv)
    (h : ∀ R : xS → List Value → xA → Prop, (∀ ls S, P ls S → R ls [] S) → sn2 M b o (sg2 M b o (kc a R K2) fi fv n) fi fv pc ls0 [] S0) : Ok2 M pc ls0 [] S0 fi fv := by
  refine ok2_1 b o n a (fun ls st S => st = [] ∧ P ls S) hb ho ?_ ?_
  · rintro ls st S ⟨rfl, hq⟩
    exact hP ls S hq
  · intro R hR
    exact h R (fun ls S hq => hR ls [] S ⟨rfl, hq⟩)
end LP
