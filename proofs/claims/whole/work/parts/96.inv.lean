-- the start of the law: what the constructors left is a start of the walk of both
def iZ (A : xA) : xA := fun a => if (Ld a).1 ≤ 2 then A a else ivI a
theorem iZ_r {A : xA} {a : Nat} (h : (Ld a).1 ≤ 2) : iZ A a = A a := by
  unfold iZ
  rw [if_pos h]
theorem iZ_o {A : xA} {a : Nat} (h : 3 ≤ (Ld a).1) : iZ A a = ivI a := by
  unfold iZ
  rw [if_neg (by omega)]
theorem gW_in {F : xF} {A S : xA} (h1 : ∀ a j, 3 ≤ (Ld a).1 → a < 114 → j < (Ld a).2 → F a j = Fc S a j) (h2 : ∀ a, (Ld a).1 ≤ 2 → A a = S a) (g : xG) : gW g L0 F A = gW g L0 (Fc S) S := by
  unfold gW
  apply List.map_congr_left
  intro i hi
  have hi : i < 114 := List.mem_range.mp hi
  congr 1
  have e : L0.getD i (0, 0) = Ld i := rfl
  rw [e]
  have q1 := fun j => h1 i j
  have q2 := h2 i
  generalize Ld i = d at q1 q2
  obtain ⟨d1, d2⟩ := d
  match d1 with
  | 0 => rw [q2 (by simp)]; rfl
  | 1 => rw [q2 (by simp)]; rfl
  | 2 => rw [q2 (by simp)]; rfl
  | q + 3 =>
    show (Sum.inr (q, (List.range d2).map fun k => gV g (F i k)) : va_E) = Sum.inr (q, (List.range d2).map fun k => gV g (Fc S i k))
    congr 2
    apply List.map_congr_left
    intro k hk
    rw [q1 k (by simp) hi (List.mem_range.mp hk)]
theorem j00 {m : Int} (hm : 0 ≤ m) : JN m 0 0 := ⟨rfl, by decide, by rw [show Int32.toInt 0 = 0 by decide]; exact hm⟩
theorem ja0 {c : Int32} (hc : c = 0) {m : Int} {a b : Nat → Int32} : JA c.toNatClampNeg m a b := by
  subst hc
  intro i hi
  rw [tn0c] at hi
  exact absurd hi (Nat.not_lt_zero _)
theorem eq0 {c : Int32} (hc : c = 0) {a b : Nat → Int32} : EQ c.toNatClampNeg a b := by
  subst hc
  intro i hi
  rw [tn0c] at hi
  exact absurd hi (Nat.not_lt_zero _)
theorem jaz {n : Nat} {m : Int} (hm : 0 ≤ m) {a b : Nat → Int32} (ha : ∀ i, i < n → a i = 0) (hb : ∀ i, i < n → b i = 0) : JA n m a b := by
  intro i hi
  rw [ha i hi, hb i hi]
  exact ⟨rfl, by decide, by rw [show Int32.toInt 0 = 0 by decide]; exact hm⟩
theorem so0 {c : Int32} (hc : c = 0) {a b : Nat → Int32} : sorted c.toNatClampNeg a b := by
  subst hc
  refine ⟨fun i hi => ?_, fun i hi => ?_, fun i j h1 h2 => ?_⟩
  · rw [tn0c] at hi
    exact absurd hi (Nat.not_lt_zero _)
  · rw [tn0c] at hi
    exact absurd hi (Nat.not_lt_zero _)
  · rw [tn0c] at h2
    exact absurd h2 (Nat.not_lt_zero _)
theorem inv_0 {A : xA} (hA : ∀ b i, b < 114 → (Ld b).1 ≤ 2 → i < (Ld b).2 → A b i = zI b i) : Inv (iZ A) := by
  have r : ∀ b i, b < 114 → (Ld b).1 ≤ 2 → i < (Ld b).2 → iZ A b i = zI b i := by
    intro b i h1 h2 h3
    rw [iZ_r h2]
    exact hA b i h1 h2 h3
  have o0 : iZ A 0 = ivI 0 := iZ_o (by decide)
  have o1 : iZ A 1 = ivI 1 := iZ_o (by decide)
  have o9 : iZ A 9 = ivI 9 := iZ_o (by decide)
  have o16 : iZ A 16 = ivI 16 := iZ_o (by decide)
  have o22 : iZ A 22 = ivI 22 := iZ_o (by decide)
  have o26 : iZ A 26 = ivI 26 := iZ_o (by decide)
  have o59 : iZ A 59 = ivI 59 := iZ_o (by decide)
  have o65 : iZ A 65 = ivI 65 := iZ_o (by decide)
  have o70 : iZ A 70 = ivI 70 := iZ_o (by decide)
  generalize iZ A = S at r o0 o1 o9 o16 o22 o26 o59 o65 o70 ⊢
  unfold Inv
  rw [o0, o1, o9, o16, o22, o26, o59, o65, o70]
  have R : ∀ b, b < 114 → (Ld b).1 ≤ 2 → (∀ i, zI b i = 0) → ∀ i, i < (Ld b).2 → S b i = 0 := fun b h1 h2 h3 i hi => (r b i h1 h2 hi).trans (h3 i)
  have E : ∀ a b, a < 114 → b < 114 → (Ld a).1 ≤ 2 → (Ld b).1 ≤ 2 → (Ld a).2 = (Ld b).2 → (∀ i, zI a i = zI b i) → EQ (Ld a).2 (S a) (S b) := fun a b h1 h2 h3 h4 h5 h6 i hi => by rw [r a i h1 h3 hi, r b i h2 h4 (by rw [← h5]; exact hi), h6]
  refine ⟨j00 (by decide), j00 (by decide), ?_,
    jaz (by decide) (R 34 (by decide) (by decide) fun _ => rfl) (R 72 (by decide) (by decide) fun _ => rfl),
    jaz (by decide) (R 4 (by decide) (by decide) fun _ => rfl) (R 73 (by decide) (by decide) fun _ => rfl),
    jaz (by decide) (R 5 (by decide) (by decide) fun _ => rfl) (R 74 (by decide) (by decide) fun _ => rfl),
    E 35 75 (by decide) (by decide) (by decide) (by decide) rfl fun _ => rfl, ?_,
    jaz (by decide) (R 6 (by decide) (by decide) fun _ => rfl) (R 77 (by decide) (by decide) fun _ => rfl),
    E 37 78 (by decide) (by decide) (by decide) (by decide) rfl fun _ => rfl,
    E 38 79 (by decide) (by decide) (by decide) (by decide) rfl fun _ => rfl,
    E 39 80 (by decide) (by decide) (by decide) (by decide) rfl fun _ => rfl,
    jaz (by decide) (R 40 (by decide) (by decide) fun _ => rfl) (R 81 (by decide) (by decide) fun _ => rfl),
    jaz (by decide) (R 8 (by decide) (by decide) fun _ => rfl) (R 82 (by decide) (by decide) fun _ => rfl),
    E 7 83 (by decide) (by decide) (by decide) (by decide) rfl fun _ => rfl,
    ⟨j00 (by decide), ja0 rfl, ja0 rfl, ja0 rfl, ja0 rfl⟩, rfl,
    ⟨j00 (by decide), ja0 rfl, ja0 rfl, so0 rfl, fun a b h => absurd (show a < 0 from h) (Nat.not_lt_zero _)⟩,
    ⟨j00 (by decide), ja0 rfl⟩, rfl,
    ⟨j00 (by decide), ja0 rfl, ja0 rfl, ja0 rfl, ja0 rfl, eq0 rfl, eq0 rfl, eq0 rfl, eq0 rfl, eq0 rfl, fun i _ hi => ⟨R 32 (by decide) (by decide) (fun _ => rfl) i hi, R 41 (by decide) (by decide) (fun _ => rfl) i hi, (r 42 i (by decide) (by decide) hi).trans rfl, (r 43 i (by decide) (by decide) hi).trans rfl⟩⟩,
    ⟨j00 (by decide), ja0 rfl, ja0 rfl, eq0 rfl, eq0 rfl, ja0 rfl⟩, Or.inl ⟨rfl, rfl⟩, fun i hi => ?_⟩
  · refine ⟨fun i j => if i = j then 0 else 1000000, ⟨fun i j k _ _ _ => ?_, fun i _ => if_pos rfl⟩, fun i j hi hj => ?_⟩
    · dsimp only
      by_cases q1 : i = j
      · subst q1
        rw [if_pos rfl]
        omega
      · rw [if_neg q1]
        by_cases q2 : i = k
        · rw [if_pos q2]
          omega
        · rw [if_neg q2]
          omega
    · have e1 := r 71 (8 * i + j) (by decide) (by decide) (show 8 * i + j < 64 by omega)
      have e2 := r 2 (8 * i + j) (by decide) (by decide) (show 8 * i + j < 64 by omega)
      have z1 : zI 71 (8 * i + j) = if (8 * i + j) / 8 = (8 * i + j) % 8 then 0 else 1000000 := rfl
      have z2 : zI 2 (8 * i + j) = if (8 * i + j) % 9 = 0 then 0 else -1 := rfl
      rw [z1] at e1
      rw [z2] at e2
      dsimp only
      by_cases q : i = j
      · rw [if_pos (by omega)] at e1
        rw [if_pos (by omega)] at e2
        have e : (if i = j then 0 else 1000000 : Nat) = 0 := if_pos q
        simp only [e]
        exact ⟨by omega, Or.inr (Nat.zero_le _), e1, e2⟩
      · rw [if_neg (by omega)] at e1
        rw [if_neg (by omega)] at e2
        have e : (if i = j then 0 else 1000000 : Nat) = 1000000 := if_neg q
        simp only [e]
        exact ⟨Nat.le_refl _, Or.inl trivial, e1, e2⟩
  · intro i hi
    exact ⟨E 36 76 (by decide) (by decide) (by decide) (by decide) rfl (fun _ => rfl) i hi, Or.inl ((r 36 i (by decide) (by decide) hi).trans rfl)⟩
  · have e1 := R 66 (by decide) (by decide) (fun _ => rfl) i hi
    have e2 := R 111 (by decide) (by decide) (fun _ => rfl) i hi
    rw [e1, e2]
    exact ⟨rfl, by decide, by decide⟩
set_option maxHeartbeats 4000000 in
theorem law_from {n : Nat} {xs : Nat → Int32} (hn : n ≤ 3072) {F : xF} {A : xA} (hF : ∀ a j, 3 ≤ (Ld a).1 → a < 114 → j < (Ld a).2 → F a j = fT a j) (hA : ∀ b i, b < 114 → (Ld b).1 ≤ 2 → i < (Ld b).2 → A b i = zI b i) : Ok (mL_law n xs) 18 [some (.ref (1300 : Nat)), some (.ref (0 : Nat)), some (.ref (70 : Nat)), some (.int (nI 0))] [] 114 15089 L0 F A (Qm (mL_law n xs) lfi lfv) := by
  have hW := gW_in (F := F) (A := A) (S := iZ A) (fun a j h1 h2 h3 => by
    rw [hF a j h1 h2 h3]
    unfold Fc fT
    rw [iZ_o h1]
    by_cases q : oD a j = true
    · rw [if_pos q, if_pos q]
    · rw [if_neg q, if_neg q]
      cases rT.lookup (a, j) <;> rfl) (fun a h => (iZ_r h).symm)
  intro p l e s m args below meth cd g QS H locs sl hC hR hH hS hl
  refine law_loop hn 3100 0 (iZ A) rfl (by omega) (inv_0 hA) (Fc (iZ A)) (iZ A) (Sr_rf _) p l e s m args below meth cd g QS H locs sl hC hR ?_ hS hl
  unfold gH
  rw [← hW g]
  exact hH
theorem cc_L (n : Nat) (xs : Nat → Int32) : mC (mL_law n xs) = 114 := rfl
theorem cz_L (n : Nat) (xs : Nat → Int32) : mS (mL_law n xs) = 15089 := rfl
set_option maxHeartbeats 4000000 in
theorem law_ok {n : Nat} {xs : Nat → Int32} (hn : n ≤ 3072) (F : xF) (A : xA) : Ok (mL_law n xs) 0 [some (.ref (1300 : Nat)), none, none, none] [] 0 0 [] F A (Qm (mL_law n xs) lfi lfv) := by
  show Ok (mL_law n xs) 0 [some (.ref (1300 : Nat)), none, none, none] [] 0 0 (Tk 0) F A (Qm (mL_law n xs) lfi lfv)
  refine ok1_1 code 11 12 18 (fun ls st c z L' F' A' => ls = [some (.ref (1300 : Nat)), some (.ref (0 : Nat)), some (.ref (70 : Nat)), some (.int (nI 0))] ∧ st = [] ∧ c = 114 ∧ z = 15089 ∧ L' = L0 ∧ (∀ a j, 3 ≤ (Ld a).1 → a < 114 → j < (Ld a).2 → F' a j = fT a j) ∧ (∀ b i, b < 114 → (Ld b).1 ≤ 2 → i < (Ld b).2 → A' b i = zI b i)) rfl rfl ?_ ?_
  · rintro _ _ _ _ _ _ _ ⟨rfl, rfl, rfl, rfl, rfl, q1, q2⟩
    exact law_from hn q1 q2
  intro R hR
  simp only [Nat.reduceEqDiff, not_false_eq_true, Nat.zero_le, Nat.reduceLeDiff, Nat.reduceLT, Nat.reduceAdd, sg1_s, ↓kig_0, ↓kig_c, ↓reduceIte, nl_n, nl_i, nl_r, List.length_cons, List.length_nil, true_and, and_true, and_self, (n_new dL_law_0 (n := 3) rfl cC_11_7), (n_dup_r dL_law_3 (n := 4) rfl), (n_ctor0 (M := mL_law n xs) dL_law_4 (n := 7) rfl cM_11_9 (Or.inl rfl) rfl (Nat.le_of_ble_eq_true rfl) rfl), TL_0, TA_0, cc_L, cz_L, cc_X9_init, cz_X9_init]
  refine c_nine ?_
  intro F1 A1 a1 a2
  simp only [Nat.reduceEqDiff, not_false_eq_true, Nat.zero_le, Nat.reduceLeDiff, Nat.reduceLT, Nat.reduceAdd, sg1_s, ↓kig_0, ↓kig_c, ↓reduceIte, nl_n, nl_i, nl_r, List.length_cons, List.length_nil, true_and, and_true, and_self, Option.toList_none, List.nil_append, (n_astore_n_1 dL_law_7 (n := 8) rfl), (n_new dL_law_8 (n := 11) rfl cC_11_10), (n_dup_r dL_law_11 (n := 12) rfl), (n_ctor0 (M := mL_law n xs) dL_law_12 (n := 15) rfl cM_11_12 (Or.inl rfl) rfl (Nat.le_of_ble_eq_true rfl) rfl), TL_70, TA_70, cc_L, cz_L, cc_X10_init, cz_X10_init]
  refine c_model (nwF_s _ _ _) ?_
  intro F2 A2 e1 e2 e3 e4
  simp only [Nat.reduceEqDiff, not_false_eq_true, Nat.zero_le, Nat.reduceLeDiff, Nat.reduceLT, Nat.reduceAdd, sg1_s, ↓kig_0, ↓kig_c, ↓reduceIte, nl_n, nl_i, nl_r, List.length_cons, List.length_nil, true_and, and_true, and_self, Option.toList_none, List.nil_append, (n_astore_n_2 dL_law_15 (n := 16) rfl), (n_iconst dL_law_16 (n := 17) rfl ki_0), (n_istore_n_3 dL_law_17 (n := 18) rfl)]
  refine hR _ _ _ _ _ _ _ ⟨rfl, rfl, rfl, rfl, rfl, fun a j h1 h2 h3 => ?_, fun b i h1 h2 h3 => ?_⟩
  · by_cases q : a = 70
    · subst q
      exact e1 j h3
    · rw [e2 a q, nwF_o _ _ _ q]
      by_cases q2 : a < 70
      · exact a1 a j q2 h1 h3
      · have : ∀ b, b < 114 → 71 ≤ b → (Ld b).1 ≤ 2 := by decide
        have := this a h2 (by omega)
        omega
  · by_cases q : b < 71
    · rw [e3 b q]
      by_cases q2 : b = 70
      · subst q2
        exact absurd h2 (by decide)
      · exact a2 b i (by omega) h2 h3
    · exact e4 b (by omega) h1 h2 i h3
