-- reading: what lies behind the text counts for nothing; what a good clause holds
section CG
variable {b b' : Nat → Int32} {n : Nat}
theorem bBl_c (h : ∀ i, i < n → b i = b' i) : bBl b n = bBl b' n := funext fun q => by
  unfold bBl
  by_cases z : q < n
  · rw [h q z]
  · rw [decide_eq_false z, Bool.false_and, Bool.false_and]
theorem bLt_c (h : ∀ i, i < n → b i = b' i) : bLt b n = bLt b' n := funext fun q => by
  unfold bLt
  by_cases z : q < n
  · rw [h q z]
  · rw [decide_eq_false z, Bool.false_and, Bool.false_and]
theorem bFg_c (h : ∀ i, i < n → b i = b' i) : bFg b n = bFg b' n := funext fun q => by
  unfold bFg
  by_cases z : q < n
  · rw [h q z]
  · rw [decide_eq_false z, Bool.false_and, Bool.false_and]
theorem sk_c (h : ∀ i, i < n → b i = b' i) (p : Nat) : sk b n p = sk b' n p := by unfold sk; rw [bBl_c h]
theorem wd_c (h : ∀ i, i < n → b i = b' i) (p : Nat) : wd b n p = wd b' n p := by unfold wd; rw [bLt_c h]
theorem dg_c (h : ∀ i, i < n → b i = b' i) (p : Nat) : dg b n p = dg b' n p := by unfold dg; rw [bFg_c h]
theorem spB_c {p : Nat} {w : List Int32} : ∀ m, (∀ k, k < m → b (p + k) = b' (p + k)) → spB b p w m = spB b' p w m
  | 0, _ => rfl
  | m + 1, h => by rw [spB, spB, spB_c m (fun k hk => h k (by omega)), h m (by omega)]
theorem spl_c (h : ∀ i, i < n → b i = b' i) {p q : Nat} (hp : p ≤ q) (hq : q ≤ n) (w : List Int32) : spl b p q w = spl b' p q w := by
  unfold spl
  by_cases z : q - p = w.length
  · rw [spB_c w.length (fun k hk => h _ (by omega))]
  · rw [decide_eq_false z, Bool.false_and, Bool.false_and]
theorem kwO_c (h : ∀ i, i < n → b i = b' i) {p q : Nat} (hp : p ≤ q) (hq : q ≤ n) : kwO b p q = kwO b' p q := by
  unfold kwO
  rw [spl_c h hp hq, spl_c h hp hq, spl_c h hp hq, spl_c h hp hq, spl_c h hp hq, spl_c h hp hq]
theorem gdO_c (h : ∀ i, i < n → b i = b' i) {p q : Nat} (hp : p ≤ q) (hq : q ≤ n) : gdO b p q = gdO b' p q := by
  unfold gdO
  rw [spl_c h hp hq, spl_c h hp hq, spl_c h hp hq]
theorem cmO_c (h : ∀ i, i < n → b i = b' i) {p q : Nat} (hp : p ≤ q) (hq : q ≤ n) : cmO b p q = cmO b' p q := by
  unfold cmO
  rw [spl_c h hp hq, spl_c h hp hq, spl_c h hp hq, spl_c h hp hq]
theorem nmV_c {p : Nat} : ∀ m, (∀ k, k < m → b (p + k) = b' (p + k)) → nmV b p m = nmV b' p m
  | 0, _ => rfl
  | m + 1, h => by rw [nmV, nmV, nmV_c m (fun k hk => h k (by omega)), h m (by omega)]
theorem at_c (h : ∀ i, i < n → b i = b' i) (q : Nat) (v : Int32) : (q < n ∧ b q = v) = (q < n ∧ b' q = v) := by
  apply propext
  constructor
  · rintro ⟨z, w⟩; exact ⟨z, by rw [← h q z]; exact w⟩
  · rintro ⟨z, w⟩; exact ⟨z, by rw [h q z]; exact w⟩
theorem clE_c (h : ∀ i, i < n → b i = b' i) (q : Nat) (k v : Int32) : clE b n q k v = clE b' n q k v := by
  unfold clE
  rw [sk_c h]
  by_cases z : sk b' n q < n ∧ b (sk b' n q) = 59
  · rw [if_pos z, if_pos (at_c h _ _ ▸ z)]
  · rw [if_neg z, if_neg (fun w => z ((at_c h _ _).symm ▸ w))]
theorem smF_c (h : ∀ i, i < n → b i = b' i) : ∀ f p s, p ≤ n → smF b n f p s = smF b' n f p s
  | 0, _, _, _ => rfl
  | f + 1, p, s, hp => by
    have l1 := sk_le (b := b') hp
    have l2 := wd_le (b := b') l1.2
    have l3 := sk_le (b := b') l2.2
    rw [smF, smF, sk_c h p, wd_c h, cmO_c h l2.1 l2.2, sk_c h]
    split
    · rfl
    · next c hc =>
      split
      · rfl
      · by_cases z : sk b' n (wd b' n (sk b' n p)) < n ∧ b (sk b' n (wd b' n (sk b' n p))) = 44
        · rw [if_pos z, if_pos (at_c h _ _ ▸ z)]
          exact smF_c h f _ _ (by have := z.1; omega)
        · rw [if_neg z, if_neg (fun w => z ((at_c h _ _).symm ▸ w))]
theorem neE_c (h : ∀ i, i < n → b i = b' i) {p : Nat} (hp : p ≤ n) : neE b n p = neE b' n p := by
  have l1 := sk_le (b := b') hp
  have l2 := wd_le (b := b') l1.2
  unfold neE
  rw [sk_c h p, wd_c h, gdO_c h l2.1 l2.2, smF_c h 5 _ 0 l2.2]
  simp only [clE_c h]
theorem nuE_c (h : ∀ i, i < n → b i = b' i) {rules k p : Nat} (hp : p ≤ n) : nuE b n rules k p = nuE b' n rules k p := by
  have l1 := sk_le (b := b') hp
  have l2 := dg_le (b := b') l1.2
  unfold nuE
  rw [sk_c h p, dg_c h, nmV_c (b := b) (b' := b') _ (fun i hi => h _ (by omega)), clE_c h]
theorem cuE_c (h : ∀ i, i < n → b i = b' i) {rules cnt p : Nat} (hp : p ≤ n) : cuE b n rules cnt p = cuE b' n rules cnt p := by
  have l1 := sk_le (b := b') hp
  have l2 := wd_le (b := b') l1.2
  unfold cuE
  rw [sk_c h p, wd_c h, kwO_c h l2.1 l2.2]
  split
  · rfl
  · rw [neE_c h l2.2, nuE_c h l2.2]
theorem clE_p {q : Nat} {k v : Int32} (hq : q ≤ n) : (clE b n q k v).2.2.2.2 ≤ n := by
  unfold clE
  split
  · next z => exact z.1
  · exact Nat.zero_le _
theorem smF_p : ∀ f p s, p ≤ n → (smF b n f p s).2.2.2 ≤ n
  | 0, _, _, hp => hp
  | f + 1, p, s, hp => by
    have l1 := sk_le (b := b) hp
    have l2 := wd_le (b := b) l1.2
    have l3 := sk_le (b := b) l2.2
    rw [smF]
    split
    · exact hp
    · split
      · exact hp
      · split
        · next z => exact smF_p f _ _ (by have := z.1; omega)
        · exact l3.2
theorem cuE_p {rules cnt p : Nat} (hp : p ≤ n) : (cuE b n rules cnt p).2.2.2.2 ≤ n := by
  have l1 := sk_le (b := b) hp
  have l2 := wd_le (b := b) l1.2
  have m1 := sk_le (b := b) l2.2
  have m2 := wd_le (b := b) m1.2
  have m3 := dg_le (b := b) m1.2
  unfold cuE
  split
  · exact Nat.zero_le _
  · split
    · exact Nat.zero_le _
    · split
      · unfold neE
        split
        · exact Nat.zero_le _
        · split
          · exact clE_p (smF_p _ _ _ m2.2)
          · exact Nat.zero_le _
      · unfold nuE
        split
        · exact Nat.zero_le _
        · split
          · exact Nat.zero_le _
          · split
            · exact Nat.zero_le _
            · exact clE_p m3.2
theorem psE_p {rules : Nat} : ∀ c, psE b n rules c ≤ n
  | 0 => Nat.zero_le _
  | c + 1 => cuE_p (psE_p c)
theorem psE_c (h : ∀ i, i < n → b i = b' i) {rules : Nat} : ∀ c, psE b n rules c = psE b' n rules c
  | 0 => rfl
  | c + 1 => by rw [psE, psE, psE_c h c, cuE_c h (psE_p c)]
theorem rsE_c (h : ∀ i, i < n → b i = b' i) {rules : Nat} (c : Nat) : rsE b n rules c = rsE b' n rules c := by
  unfold rsE
  rw [psE_c h, cuE_c h (psE_p c)]
theorem enE_c (h : ∀ i, i < n → b i = b' i) {rules : Nat} (c : Nat) : enE b n rules c = enE b' n rules c := by
  unfold enE
  rw [psE_c h, sk_c h]
theorem toE_c (h : ∀ i, i < n → b i = b' i) {rules c : Nat} (ht : toE b n rules c) : toE b' n rules c := by
  refine ⟨fun i hi => ?_, ?_⟩
  · rw [← enE_c h, ← rsE_c h]; exact ht.1 i hi
  · rw [← enE_c h, ← rsE_c h]; exact ht.2
end CG
theorem smF_16 {b : Nat → Int32} {n : Nat} : ∀ f p s, s < 16 → (smF b n f p s).2.2.1 < 16
  | 0, _, _, hs => hs
  | f + 1, p, s, hs => by
    rw [smF]
    split
    · exact hs
    · next c hc =>
      have c4 := cmO_lt hc
      split
      · exact hs
      · next hb =>
        have B := ((st_all s hs c c4).2.2.1 (by omega)).2.1
        split
        · exact smF_16 f _ _ B
        · exact B
theorem clE_0 {b : Nat → Int32} {n q : Nat} {k v : Int32} (h : (clE b n q k v).1 = 0) : (clE b n q k v).2.2.1 = k ∧ (clE b n q k v).2.2.2.1 = v := by
  unfold clE at h ⊢
  split
  · exact ⟨rfl, rfl⟩
  · exact ⟨rfl, rfl⟩
theorem kwO_lt {b : Nat → Int32} {p q c : Nat} (h : kwO b p q = some c) : c ≤ 5 := by
  unfold kwO at h
  repeat' split at h
  all_goals first | (cases h; omega) | cases h
theorem cl_ok {b : Nat → Int32} {n rules cnt p kd : Nat} {x1 x2 : Int32} (h0 : (cuE b n rules cnt p).1 = 0) (hk : kwO b (sk b n p) (wd b n (sk b n p)) = some kd) (hm : mxC kd (cuE b n rules cnt p) x1 x2) : clR (cuE b n rules cnt p).2.2.1 (cuE b n rules cnt p).2.2.2.1 (nI kd) x1 x2 rules := by
  have k5 := kwO_lt hk
  unfold cuE at h0 hm ⊢
  rw [hk] at h0 hm ⊢
  simp only at h0 hm ⊢
  by_cases h8 : 8 ≤ cnt
  · rw [if_pos h8] at h0
    cases h0
  · rw [if_neg h8] at h0 hm ⊢
    by_cases e0 : kd = 0
    · rw [if_pos e0] at h0 hm ⊢
      unfold neE at h0 hm ⊢
      cases hg : gdO b (sk b n (wd b n (sk b n p))) (wd b n (sk b n (wd b n (sk b n p)))) with
      | none =>
        rw [hg] at h0
        cases h0
      | some g =>
        have g3 := gdO_lt hg
        rw [hg] at h0 hm
        simp only at h0 hm ⊢
        by_cases hs : (smF b n 5 (wd b n (sk b n (wd b n (sk b n p)))) 0).1 = 0
        · rw [if_pos hs] at h0 hm ⊢
          have s16 := smF_16 (b := b) (n := n) 5 (wd b n (sk b n (wd b n (sk b n p)))) 0 (by omega)
          have e := clE_0 h0
          have hx := hm.1 e0
          rw [e.1, e.2] at hx
          rw [e.1, e.2, hx.1, hx.2, e0]
          left
          refine ⟨rfl, rfl, rfl, ?_⟩
          rw [toInt_nI (by omega), toInt_nI (by omega)]
          omega
        · rw [if_neg hs] at h0
          exact absurd h0 hs
    · rw [if_neg e0] at h0 hm ⊢
      unfold nuE at h0 hm ⊢
      by_cases c1 : dg b n (sk b n (wd b n (sk b n p))) = sk b n (wd b n (sk b n p))
      · rw [if_pos c1] at h0; cases h0
      · rw [if_neg c1] at h0 hm ⊢
        generalize hv : nmV b (sk b n (wd b n (sk b n p))) (dg b n (sk b n (wd b n (sk b n p))) - sk b n (wd b n (sk b n p))) = v at h0 hm ⊢
        by_cases c2 : 3 < dg b n (sk b n (wd b n (sk b n p))) - sk b n (wd b n (sk b n p)) ∨ v.toInt < loK kd ∨ hiK kd < v.toInt
        · rw [if_pos c2] at h0; cases h0
        · rw [if_neg c2] at h0 hm ⊢
          by_cases c3 : kd = 5 ∧ (rules : Int) ≤ v.toInt
          · rw [if_pos c3] at h0; cases h0
          · rw [if_neg c3] at h0 hm ⊢
            have e := clE_0 h0
            have hx := hm.2 e0
            rw [e.2] at hx
            rw [e.1, e.2, hx]
            have c2a : ¬ v.toInt < loK kd := fun w => c2 (Or.inr (Or.inl w))
            have c2b : ¬ hiK kd < v.toInt := fun w => c2 (Or.inr (Or.inr w))
            have hk5 : kd = 1 ∨ kd = 2 ∨ kd = 3 ∨ kd = 4 ∨ kd = 5 := by omega
            unfold clR
            rcases hk5 with rfl | rfl | rfl | rfl | rfl
            · have l : loK 1 = 0 := rfl
              have u : hiK 1 = 99 := rfl
              exact Or.inr (Or.inl ⟨rfl, rfl, rfl, by omega, by omega⟩)
            · have l : loK 2 = 0 := rfl
              have u : hiK 2 = 99 := rfl
              exact Or.inr (Or.inr (Or.inl ⟨rfl, rfl, rfl, by omega, by omega⟩))
            · have l : loK 3 = 0 := rfl
              have u : hiK 3 = 100 := rfl
              exact Or.inr (Or.inr (Or.inr (Or.inl ⟨rfl, rfl, rfl, by omega, by omega⟩)))
            · have l : loK 4 = 1 := rfl
              have u : hiK 4 = 9 := rfl
              exact Or.inr (Or.inr (Or.inr (Or.inr (Or.inl ⟨rfl, rfl, rfl, by omega, by omega⟩))))
            · have l : loK 5 = 0 := rfl
              exact Or.inr (Or.inr (Or.inr (Or.inr (Or.inr ⟨rfl, rfl, rfl, by omega, by omega⟩))))
