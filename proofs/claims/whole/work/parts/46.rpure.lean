-- rules in force: as sets and rows
def stB (kd vl : Nat → Int32) (j k : Nat) : Nat → Bool
  | 0 => false
  | q + 1 => stB kd vl j k q || (decide (kd (8 * j + q) = 7) && decide (vl (8 * j + q) = nI k))
def skF (c : Nat) (h : Nat → Bool) (st : Nat → Nat → Bool) : Nat → Nat → Bool
  | 0, _ => false
  | d + 1, k => skF c h st d k || (h (c - 1 - d) && !skF c h st d (c - 1 - d) && st (c - 1 - d) k)
def hB (hr : Nat → Int32) (hour : Int32) (k : Nat) : Bool := decide ((hr k).toInt ≤ hour.toInt)
def sB (sz kd vl : Nat → Int32) (j k : Nat) : Bool := stB kd vl j k (sz j).toNatClampNeg
def onB (c : Nat) (hr sz kd vl : Nat → Int32) (hour : Int32) (k : Nat) : Bool := hB hr hour k && !skF c (hB hr hour) (sB sz kd vl) c k
def apF (kd vl : Nat → Int32) (j : Nat) (g : Nat → Int32) : Nat → Nat → Int32
  | 0 => g
  | q + 1 => if kd (8 * j + q) < 7 then upd (apF kd vl j g q) (kd (8 * j + q)).toNatClampNeg (vl (8 * j + q)) else apF kd vl j g q
def apL (sz kd vl : Nat → Int32) (l : List Nat) (g : Nat → Int32) : Nat → Int32 := l.foldl (fun g r => apF kd vl r g (sz r).toNatClampNeg) g
def byN (by' : Nat → Int32) (i : Nat) : Nat := (by' i).toNatClampNeg
def onL (c : Nat) (hr sz by' kd vl : Nat → Int32) (hour : Int32) (n : Nat) : List Nat := ((List.range n).map (byN by')).filter (onB c hr sz kd vl hour)
def aF (i : Nat) : Int32 := [4, 2, 12, 2, 5, 30, 2].getD i 0
def fcs (c : Nat) (hr sz by' kd vl : Nat → Int32) (hour : Int32) : Nat → Int32 := apL sz kd vl (onL c hr sz by' kd vl hour c) aF
theorem stB_t {kd vl : Nat → Int32} {j k : Nat} : ∀ n, stB kd vl j k n = true → ∃ q, q < n ∧ kd (8 * j + q) = 7 ∧ vl (8 * j + q) = nI k
  | 0, h => by cases h
  | n + 1, h => by
    rw [stB, Bool.or_eq_true, Bool.and_eq_true, decide_eq_true_eq, decide_eq_true_eq] at h
    rcases h with h | h
    · obtain ⟨q, h1, h2⟩ := stB_t n h
      exact ⟨q, by omega, h2⟩
    · exact ⟨n, by omega, h⟩
theorem skF_old {c : Nat} {h : Nat → Bool} {st : Nat → Nat → Bool} (hst : ∀ j k, j < c → k < 32 → st j k = true → k < j) {d k : Nat} (hd : d < c) (h32 : k < 32) (hk : c - 1 - d ≤ k) : skF c h st (d + 1) k = skF c h st d k := by
  rw [skF]
  have : st (c - 1 - d) k = false := by
    cases e : st (c - 1 - d) k with
    | false => rfl
    | true => have := hst _ _ (by omega) h32 e; omega
  rw [this, Bool.and_false, Bool.or_false]
def sbF (kd vl : Nat → Int32) (j : Nat) : Nat → Int32
  | 0 => 0
  | q + 1 => if kd (8 * j + q) = 7 then sbF kd vl j q ||| 1 <<< (vl (8 * j + q) &&& 31) else sbF kd vl j q
theorem sbF_bt {kd vl : Nat → Int32} {j k : Nat} (hk : k < 32) : ∀ n, (∀ q, q < n → kd (8 * j + q) = 7 → ∃ v, v < 32 ∧ vl (8 * j + q) = nI v) → bt (sbF kd vl j n) k = stB kd vl j k n
  | 0, _ => by rw [sbF, stB, b_0]
  | n + 1, h => by
    have ih := sbF_bt (kd := kd) (vl := vl) (j := j) hk n (fun q hq => h q (by omega))
    rw [sbF, stB]
    by_cases e : kd (8 * j + n) = 7
    · obtain ⟨v, hv, ev⟩ := h n (by omega) e
      rw [if_pos e, b_or, ih, ev, one_bt hv hk, decide_eq_true e, Bool.true_and]
      congr 1
      apply decide_eq_decide.mpr
      rw [nI_eq (by omega) (by omega)]
      exact eq_comm
    · rw [if_neg e, ih, decide_eq_false e, Bool.false_and, Bool.or_false]
def csF (c : Nat) (hr sz kd vl : Nat → Int32) (hour : Int32) : Nat → Int32 × Int32
  | 0 => (0, 0)
  | d + 1 => if (hB hr hour (c - 1 - d) && !bt (csF c hr sz kd vl hour d).2 (c - 1 - d)) = true then ((csF c hr sz kd vl hour d).1 ||| 1 <<< (nI (c - 1 - d) &&& 31), (csF c hr sz kd vl hour d).2 ||| sbF kd vl (c - 1 - d) (sz (c - 1 - d)).toNatClampNeg) else csF c hr sz kd vl hour d
theorem csF_bt {c : Nat} {hr sz kd vl : Nat → Int32} {hour : Int32} (hst : ∀ j k, j < c → k < 32 → sB sz kd vl j k = true → k < j) (hsb : ∀ j k, j < c → k < 32 → bt (sbF kd vl j (sz j).toNatClampNeg) k = sB sz kd vl j k) (hc : c ≤ 8) : ∀ d, d ≤ c → ∀ k, k < 32 → bt (csF c hr sz kd vl hour d).2 k = skF c (hB hr hour) (sB sz kd vl) d k ∧ bt (csF c hr sz kd vl hour d).1 k = (decide (c - d ≤ k ∧ k < c) && (hB hr hour k && !skF c (hB hr hour) (sB sz kd vl) d k))
  | 0, _, k, hk => by
    rw [csF, skF, decide_eq_false (by omega)]
    exact ⟨b_0 k, b_0 k⟩
  | d + 1, hd, k, hk => by
    have ih := csF_bt (hour := hour) (hr := hr) hst hsb hc d (by omega)
    have ihj := ih (c - 1 - d) (by omega)
    obtain ⟨ih1, ih2⟩ := ih k hk
    rw [csF, ihj.1]
    cases e : (hB hr hour (c - 1 - d) && !skF c (hB hr hour) (sB sz kd vl) d (c - 1 - d)) with
    | true =>
      rw [if_pos rfl]
      refine ⟨?_, ?_⟩
      · rw [b_or, ih1, hsb _ _ (by omega) hk, skF, e, Bool.true_and]
      · rw [b_or, ih2, one_bt (by omega) hk]
        by_cases hkj : k = c - 1 - d
        · subst hkj
          rw [skF_old hst (by omega) (by omega) (Nat.le_refl _), e, decide_eq_true rfl, Bool.or_true, decide_eq_true (by omega)]
          rfl
        · rw [decide_eq_false hkj, Bool.or_false]
          by_cases hcd : c - d ≤ k
          · rw [skF_old hst (by omega) hk (by omega)]
            congr 1
            exact decide_eq_decide.mpr (by omega)
          · rw [decide_eq_false (by omega), decide_eq_false (by omega), Bool.false_and, Bool.false_and]
    | false =>
      rw [if_neg Bool.false_ne_true]
      have e2 : skF c (hB hr hour) (sB sz kd vl) (d + 1) k = skF c (hB hr hour) (sB sz kd vl) d k := by rw [skF, e, Bool.false_and, Bool.or_false]
      rw [e2]
      refine ⟨ih1, ?_⟩
      rw [ih2]
      by_cases hkj : k = c - 1 - d
      · subst hkj
        rw [e, Bool.and_false, Bool.and_false]
      · congr 1
        exact decide_eq_decide.mpr (by omega)
theorem apL_s {c : Nat} {hr sz by' kd vl : Nat → Int32} {hour : Int32} {i : Nat} {g : Nat → Int32} : apL sz kd vl (onL c hr sz by' kd vl hour (i + 1)) g = if onB c hr sz kd vl hour (byN by' i) = true then apF kd vl (byN by' i) (apL sz kd vl (onL c hr sz by' kd vl hour i) g) (sz (byN by' i)).toNatClampNeg else apL sz kd vl (onL c hr sz by' kd vl hour i) g := by
  unfold onL apL
  rw [List.range_succ, List.map_append, List.filter_append, List.foldl_append]
  simp only [List.map_cons, List.map_nil, List.filter_cons, List.filter_nil]
  split <;> simp
theorem apF_7 {kd vl : Nat → Int32} {j : Nat} {g g' : Nat → Int32} (h : ∀ i, i < 7 → g i = g' i) : ∀ n i, i < 7 → apF kd vl j g n i = apF kd vl j g' n i
  | 0, i, hi => h i hi
  | n + 1, i, hi => by
    have ih := apF_7 (kd := kd) (vl := vl) (j := j) h n
    rw [apF, apF]
    split
    · rw [upd_t, upd_t]
      split
      · rfl
      · exact ih i hi
    · exact ih i hi
theorem apL_7 {sz kd vl : Nat → Int32} : ∀ (l : List Nat) {g g' : Nat → Int32}, (∀ i, i < 7 → g i = g' i) → ∀ i, i < 7 → apL sz kd vl l g i = apL sz kd vl l g' i
  | [], _, _, h, i, hi => h i hi
  | r :: l, g, g', h, i, hi => apL_7 l (g := apF kd vl r g (sz r).toNatClampNeg) (g' := apF kd vl r g' (sz r).toNatClampNeg) (apF_7 h _) i hi
theorem apL_r {sz kd vl : Nat → Int32} {R : Nat → Nat} {i : Nat} {g : Nat → Int32} : apL sz kd vl ((List.range (i + 1)).map R) g = apF kd vl (R i) (apL sz kd vl ((List.range i).map R) g) (sz (R i)).toNatClampNeg := by
  unfold apL
  rw [List.range_succ, List.map_append, List.foldl_append]
  rfl
theorem srt_eq {lt : Nat → Nat → Prop} (irr : ∀ a, ¬ lt a a) (asy : ∀ a b, lt a b → ¬ lt b a) : ∀ l1 l2 : List Nat, l1.Pairwise lt → l2.Pairwise lt → (∀ x, x ∈ l1 ↔ x ∈ l2) → l1 = l2
  | [], [], _, _, _ => rfl
  | [], b :: l2, _, _, h => by have := (h b).mpr List.mem_cons_self; cases this
  | a :: l1, [], _, _, h => by have := (h a).mp List.mem_cons_self; cases this
  | a :: l1, b :: l2, h1, h2, h => by
    rw [List.pairwise_cons] at h1 h2
    have e : a = b := by
      apply Classical.byContradiction
      intro hne
      have m1 : a ∈ l2 := by
        rcases List.mem_cons.mp ((h a).mp List.mem_cons_self) with q | q
        · exact absurd q hne
        · exact q
      have m2 : b ∈ l1 := by
        rcases List.mem_cons.mp ((h b).mpr List.mem_cons_self) with q | q
        · exact absurd q.symm hne
        · exact q
      exact asy _ _ (h1.1 b m2) (h2.1 a m1)
    subst e
    congr 1
    refine srt_eq irr asy l1 l2 h1.2 h2.2 (fun x => ⟨fun hx => ?_, fun hx => ?_⟩)
    · rcases List.mem_cons.mp ((h x).mp (List.mem_cons_of_mem _ hx)) with q | q
      · subst q; exact absurd (h1.1 _ hx) (irr _)
      · exact q
    · rcases List.mem_cons.mp ((h x).mpr (List.mem_cons_of_mem _ hx)) with q | q
      · subst q; exact absurd (h2.1 _ hx) (irr _)
      · exact q
def lo (hr : Nat → Int32) (r s : Nat) : Prop := (hr r).toInt < (hr s).toInt ∨ (hr r = hr s ∧ r < s)
theorem lo_irr {hr : Nat → Int32} (a : Nat) : ¬ lo hr a a := by
  rintro (h | h)
  · omega
  · omega
theorem lo_asy {hr : Nat → Int32} (a b : Nat) (h : lo hr a b) : ¬ lo hr b a := by
  rcases h with h | ⟨h, h'⟩
  · rintro (q | ⟨q, -⟩)
    · omega
    · rw [q] at h; omega
  · rintro (q | ⟨q, q'⟩)
    · rw [h] at q; omega
    · omega
theorem pw_map {lt : Nat → Nat → Prop} {R : Nat → Nat} {n : Nat} (h : ∀ i j, i < j → j < n → lt (R i) (R j)) : ((List.range n).map R).Pairwise lt := by
  rw [List.pairwise_iff_getElem]
  intro i j hi hj hij
  simp only [List.getElem_map, List.getElem_range]
  simp only [List.length_map, List.length_range] at hj
  exact h i j hij hj
theorem mem_map_r {R : Nat → Nat} {n x : Nat} : x ∈ (List.range n).map R ↔ ∃ i, i < n ∧ R i = x := by
  simp only [List.mem_map, List.mem_range]
theorem byN_ok {c : Nat} {hr by' : Nat → Int32} (hs : sorted c hr by') (hc : c ≤ 8) {i : Nat} (hi : i < c) : byN by' i < c ∧ by' i = nI (byN by' i) := by
  obtain ⟨r, hr1, e⟩ := hs.1 i hi
  have : byN by' i = r := by unfold byN; rw [e, nI_clamp (by omega)]
  rw [this]
  exact ⟨hr1, e⟩
theorem onL_eq {c : Nat} {hr sz by' kd vl : Nat → Int32} {hour : Int32} {R : Nat → Nat} {n : Nat} (hs : sorted c hr by') (hc : c ≤ 8) (h3 : ∀ i j, i < j → j < n → lo hr (R i) (R j)) (h4 : ∀ x, (∃ i, i < n ∧ R i = x) ↔ (x < c ∧ onB c hr sz kd vl hour x = true)) : (List.range n).map R = onL c hr sz by' kd vl hour c := by
  refine srt_eq (lt := lo hr) lo_irr lo_asy _ _ (pw_map h3) (List.Pairwise.filter _ (pw_map ?_)) (fun x => ?_)
  · intro i j hij hj
    obtain ⟨a1, a2⟩ := byN_ok hs hc (i := i) (by omega)
    obtain ⟨b1, b2⟩ := byN_ok hs hc (i := j) hj
    have := hs.2.2 i j hij hj
    rw [a2, b2, toInt_nI (by omega), toInt_nI (by omega), nI_clamp (by omega), nI_clamp (by omega)] at this
    rcases this with q | ⟨q, q'⟩
    · exact Or.inl q
    · exact Or.inr ⟨q, by omega⟩
  · rw [mem_map_r, h4 x]
    unfold onL
    rw [List.mem_filter, mem_map_r]
    constructor
    · rintro ⟨h1, h2⟩
      obtain ⟨i, hi, e⟩ := hs.2.1 x h1
      exact ⟨⟨i, hi, by unfold byN; rw [e, nI_clamp (by omega)]⟩, h2⟩
    · rintro ⟨⟨i, hi, e⟩, h2⟩
      exact ⟨by rw [← e]; exact (byN_ok hs hc hi).1, h2⟩
/-- x put in at p -/
def insR (R : Nat → Nat) (p x : Nat) : Nat → Nat := fun i => if i < p then R i else if i = p then x else R (i - 1)
theorem insR_lo {hr : Nat → Int32} {R : Nat → Nat} {n p x : Nat} (hp : p ≤ n) (h : ∀ i j, i < j → j < n → lo hr (R i) (R j)) (hx : ∀ i, i < n → R i < x) (h1 : p = 0 ∨ (hr (R (p - 1))).toInt ≤ (hr x).toInt) (h2 : ∀ i, p ≤ i → i < n → (hr x).toInt < (hr (R i)).toInt) : ∀ i j, i < j → j < n + 1 → lo hr (insR R p x i) (insR R p x j) := by
  intro i j hij hj
  unfold insR
  have hlow : ∀ i, i < p → lo hr (R i) x := by
    intro i hi
    have hxi := hx i (by omega)
    rcases h1 with q | q
    · omega
    · have : (hr (R i)).toInt ≤ (hr x).toInt := by
        by_cases e : i = p - 1
        · rw [e]; exact q
        · rcases h i (p - 1) (by omega) (by omega) with w | w
          · omega
          · rw [w.1]; exact q
      by_cases e : (hr (R i)).toInt = (hr x).toInt
      · exact Or.inr ⟨Int32.toInt_inj.mp e, hxi⟩
      · exact Or.inl (by omega)
  by_cases a1 : i < p
  · rw [if_pos a1]
    by_cases b1 : j < p
    · rw [if_pos b1]; exact h i j hij (by omega)
    · rw [if_neg b1]
      by_cases b2 : j = p
      · rw [if_pos b2]; exact hlow i a1
      · rw [if_neg b2]; exact h i (j - 1) (by omega) (by omega)
  · rw [if_neg a1, if_neg (show ¬ j < p by omega), if_neg (show ¬ j = p by omega)]
    by_cases a2 : i = p
    · rw [if_pos a2]; exact Or.inl (h2 (j - 1) (by omega) (by omega))
    · rw [if_neg a2]; exact h (i - 1) (j - 1) (by omega) (by omega)
theorem insR_mem {R : Nat → Nat} {n p x : Nat} (hp : p ≤ n) (y : Nat) : (∃ i, i < n + 1 ∧ insR R p x i = y) ↔ ((∃ i, i < n ∧ R i = y) ∨ x = y) := by
  unfold insR
  constructor
  · rintro ⟨i, hi, e⟩
    by_cases a1 : i < p
    · rw [if_pos a1] at e; exact Or.inl ⟨i, by omega, e⟩
    · rw [if_neg a1] at e
      by_cases a2 : i = p
      · rw [if_pos a2] at e; exact Or.inr e
      · rw [if_neg a2] at e; exact Or.inl ⟨i - 1, by omega, e⟩
  · rintro (⟨i, hi, e⟩ | e)
    · by_cases a1 : i < p
      · exact ⟨i, by omega, by rw [if_pos a1]; exact e⟩
      · exact ⟨i + 1, by omega, by rw [if_neg (by omega), if_neg (by omega)]; exact e⟩
    · exact ⟨p, by omega, by rw [if_neg (by omega), if_pos rfl]; exact e⟩
def mxF (i : Nat) : Int := [15, 15, 15, 99, 99, 100, 9].getD i 0
theorem mxF_lo : ∀ i, i < 3 → mxF i = 15 := by decide
theorem tn_3 : (3 : Int32).toNatClampNeg = 3 := rfl
theorem tn_4 : (4 : Int32).toNatClampNeg = 4 := rfl
theorem tn_5 : (5 : Int32).toNatClampNeg = 5 := rfl
theorem tn_6 : (6 : Int32).toNatClampNeg = 6 := rfl
theorem clR_b {kc vc km f1 f2 : Int32} {r : Nat} (h : clR kc vc km f1 f2 r) (h7 : kc < 7) : 0 ≤ kc.toInt ∧ 0 ≤ vc.toInt ∧ vc.toInt ≤ mxF kc.toNatClampNeg := by
  rcases h with ⟨-, rfl, rfl, h1, h2, h3, h4⟩ | ⟨-, rfl, rfl, h1, h2⟩ | ⟨-, rfl, rfl, h1, h2⟩ | ⟨-, rfl, rfl, h1, h2⟩ | ⟨-, rfl, rfl, h1, h2⟩ | ⟨-, rfl, rfl, h1, h2⟩
  · have := cl_eq h1
    rw [mxF_lo _ (by omega)]
    exact ⟨h1, h3, h4⟩
  · exact ⟨by rw [ti_3]; omega, h1, by rw [tn_3]; exact h2⟩
  · exact ⟨by rw [ti_4]; omega, h1, by rw [tn_4]; exact h2⟩
  · exact ⟨by rw [ti_5]; omega, h1, by rw [tn_5]; exact h2⟩
  · exact ⟨by rw [ti_6]; omega, by omega, by rw [tn_6]; exact h2⟩
  · exact absurd h7 (by decide)
def fB (g : Nat → Int32) : Prop := ∀ i, i < 7 → 0 ≤ (g i).toInt ∧ (g i).toInt ≤ mxF i
theorem aF_B : fB aF := by
  intro i hi
  unfold aF mxF
  have : i = 0 ∨ i = 1 ∨ i = 2 ∨ i = 3 ∨ i = 4 ∨ i = 5 ∨ i = 6 := by omega
  rcases this with rfl | rfl | rfl | rfl | rfl | rfl | rfl <;> decide
def clA (c : Nat) (sz kd vl kd' f1 f2 : Nat → Int32) : Prop := ∀ r q, r < c → q < (sz r).toNatClampNeg → clR (kd (8 * r + q)) (vl (8 * r + q)) (kd' (8 * r + q)) (f1 (8 * r + q)) (f2 (8 * r + q)) r
theorem apF_B {kd vl kd' f1 f2 : Nat → Int32} {j : Nat} {g : Nat → Int32} (h : fB g) : ∀ n, (∀ q, q < n → clR (kd (8 * j + q)) (vl (8 * j + q)) (kd' (8 * j + q)) (f1 (8 * j + q)) (f2 (8 * j + q)) j) → fB (apF kd vl j g n)
  | 0, _ => h
  | n + 1, hc => by
    have ih := apF_B h n (fun q hq => hc q (by omega))
    rw [apF]
    split
    · next h7 =>
      obtain ⟨-, b1, b2⟩ := clR_b (hc n (by omega)) h7
      intro i hi
      rw [upd_t]
      split
      · next e => rw [e]; exact ⟨b1, b2⟩
      · exact ih i hi
    · exact ih
theorem apL_B {c : Nat} {sz kd vl kd' f1 f2 : Nat → Int32} (hA : clA c sz kd vl kd' f1 f2) : ∀ (l : List Nat) {g : Nat → Int32}, (∀ r, r ∈ l → r < c) → fB g → fB (apL sz kd vl l g)
  | [], _, _, h => h
  | r :: l, _, hl, h => apL_B hA l (fun x hx => hl x (List.mem_cons_of_mem _ hx)) (apF_B h _ (fun q hq => hA r q (hl r List.mem_cons_self) hq))
theorem onL_c {c : Nat} {hr sz by' kd vl : Nat → Int32} {hour : Int32} (hs : sorted c hr by') (hc : c ≤ 8) : ∀ r, r ∈ onL c hr sz by' kd vl hour c → r < c := by
  intro r h
  unfold onL at h
  rw [List.mem_filter, mem_map_r] at h
  obtain ⟨⟨i, hi, e⟩, -⟩ := h
  rw [← e]
  exact (byN_ok hs hc hi).1
theorem fcs_B {c : Nat} {hr sz by' kd vl kd' f1 f2 : Nat → Int32} {hour : Int32} (hA : clA c sz kd vl kd' f1 f2) (hs : sorted c hr by') (hc : c ≤ 8) : fB (fcs c hr sz by' kd vl hour) := apL_B hA _ (onL_c hs hc) aF_B
theorem stB_lt {c : Nat} {sz kd vl kd' f1 f2 : Nat → Int32} (hA : clA c sz kd vl kd' f1 f2) {j k n : Nat} (hj : j < c) (hk : k < 32) (hn : n ≤ (sz j).toNatClampNeg) (h : stB kd vl j k n = true) : k < j := by
  obtain ⟨q, hq, e1, e2⟩ := stB_t _ h
  have := hA j q hj (by omega)
  rcases this with ⟨-, q2, -, h1, h2, -⟩ | ⟨-, q2, -⟩ | ⟨-, q2, -⟩ | ⟨-, q2, -⟩ | ⟨-, q2, -⟩ | ⟨-, -, q3, h1, h2⟩
  · rw [e1] at q2; rw [← q2, ti_7] at h2; omega
  · rw [e1] at q2; exact absurd q2 (by decide)
  · rw [e1] at q2; exact absurd q2 (by decide)
  · rw [e1] at q2; exact absurd q2 (by decide)
  · rw [e1] at q2; exact absurd q2 (by decide)
  · rw [← q3, e2, toInt_nI (by omega)] at h2
    omega
theorem sB_lt {c : Nat} {sz kd vl kd' f1 f2 : Nat → Int32} (hA : clA c sz kd vl kd' f1 f2) : ∀ j k, j < c → k < 32 → sB sz kd vl j k = true → k < j := fun _ _ hj hk h => stB_lt hA hj hk (Nat.le_refl _) h
