-- reading a text: positions, words
def fsP (C : Nat → Bool) : Nat → Nat → Nat
  | 0, p => p
  | k + 1, p => if C p = true then fsP C k (p + 1) else p
def ef (C : Nat → Bool) (n p : Nat) : Nat := fsP C (n - p) p
theorem ef_y {C : Nat → Bool} {n p : Nat} (hp : p < n) (h : C p = true) : ef C n p = ef C n (p + 1) := by
  unfold ef
  rw [show n - p = n - (p + 1) + 1 by omega, fsP, if_pos h]
theorem ef_n {C : Nat → Bool} {n p : Nat} (h : C p = false) : ef C n p = p := by
  unfold ef
  cases n - p with
  | zero => rfl
  | succ k => rw [fsP, h, if_neg Bool.false_ne_true]
theorem fsP_le {C : Nat → Bool} : ∀ k p, p ≤ fsP C k p ∧ fsP C k p ≤ p + k
  | 0, p => ⟨Nat.le_refl _, Nat.le_refl _⟩
  | k + 1, p => by
    rw [fsP]
    split
    · have := fsP_le (C := C) k (p + 1)
      omega
    · omega
theorem ef_le {C : Nat → Bool} {n p : Nat} (hp : p ≤ n) : p ≤ ef C n p ∧ ef C n p ≤ n := by
  have := fsP_le (C := C) (n - p) p
  unfold ef
  omega
/-- blanks, letters, figures of a text of n -/
def bBl (b : Nat → Int32) (n q : Nat) : Bool := decide (q < n) && decide (b q = 32)
def bLt (b : Nat → Int32) (n q : Nat) : Bool := decide (q < n) && (decide (¬ b q < 97) && decide (¬ 122 < b q))
def bFg (b : Nat → Int32) (n q : Nat) : Bool := decide (q < n) && (decide (¬ b q < 48) && decide (¬ 57 < b q))
def sk (b : Nat → Int32) (n p : Nat) : Nat := ef (bBl b n) n p
def wd (b : Nat → Int32) (n p : Nat) : Nat := ef (bLt b n) n p
def dg (b : Nat → Int32) (n p : Nat) : Nat := ef (bFg b n) n p
theorem sk_le {b : Nat → Int32} {n p : Nat} (hp : p ≤ n) : p ≤ sk b n p ∧ sk b n p ≤ n := ef_le hp
theorem wd_le {b : Nat → Int32} {n p : Nat} (hp : p ≤ n) : p ≤ wd b n p ∧ wd b n p ≤ n := ef_le hp
theorem dg_le {b : Nat → Int32} {n p : Nat} (hp : p ≤ n) : p ≤ dg b n p ∧ dg b n p ≤ n := ef_le hp
/-- the letters p .. q-1 are those of a word -/
def spB (b : Nat → Int32) (p : Nat) (w : List Int32) : Nat → Bool
  | 0 => true
  | k + 1 => spB b p w k && decide (b (p + k) = w.getD k 0)
def spl (b : Nat → Int32) (p q : Nat) (w : List Int32) : Bool := decide (q - p = w.length) && spB b p w w.length
def wNeed : List Int32 := [110, 101, 101, 100]
def wPay : List Int32 := [112, 97, 121]
def wCost : List Int32 := [99, 111, 115, 116]
def wFear : List Int32 := [102, 101, 97, 114]
def wSlow : List Int32 := [115, 108, 111, 119]
def wStrike : List Int32 := [115, 116, 114, 105, 107, 101]
def wBread : List Int32 := [98, 114, 101, 97, 100]
def wMilk : List Int32 := [109, 105, 108, 107]
def wCoal : List Int32 := [99, 111, 97, 108]
def wOwners : List Int32 := [111, 119, 110, 101, 114, 115]
def wCouncil : List Int32 := [99, 111, 117, 110, 99, 105, 108]
def wUnion : List Int32 := [117, 110, 105, 111, 110]
def wState : List Int32 := [115, 116, 97, 116, 101]
/-- a clause's kind as the reference numbers it, or none -/
def kwO (b : Nat → Int32) (p q : Nat) : Option Nat := if spl b p q wNeed = true then some 0 else if spl b p q wPay = true then some 1 else if spl b p q wCost = true then some 2 else if spl b p q wFear = true then some 3 else if spl b p q wSlow = true then some 4 else if spl b p q wStrike = true then some 5 else none
def gdO (b : Nat → Int32) (p q : Nat) : Option Nat := if spl b p q wBread = true then some 0 else if spl b p q wMilk = true then some 1 else if spl b p q wCoal = true then some 2 else none
def cmO (b : Nat → Int32) (p q : Nat) : Option Nat := if spl b p q wOwners = true then some 0 else if spl b p q wCouncil = true then some 1 else if spl b p q wUnion = true then some 2 else if spl b p q wState = true then some 3 else none
def oN (o : Option Nat) : Int32 := match o with
  | some k => nI k
  | none => -1
/-- the number that the first three figures from p on make, of those below q -/
def nmV (b : Nat → Int32) (p : Nat) : Nat → Int32
  | 0 => 0
  | k + 1 => if k < 3 then nmV b p k * 10 + b (p + k) - 48 else nmV b p k
/-- stamps from p on, with a set: fault (0: none), where, set, where it goes on -/
def smF (b : Nat → Int32) (n : Nat) : Nat → Nat → Nat → Nat × Nat × Nat × Nat
  | 0, p, s => (4, p, s, p)
  | f + 1, p, s => match cmO b (sk b n p) (wd b n (sk b n p)) with
    | none => (1, sk b n p, s, p)
    | some c => if s / 2 ^ c % 2 = 1 then (4, sk b n p, s, p) else if sk b n (wd b n (sk b n p)) < n ∧ b (sk b n (wd b n (sk b n p))) = 44 then smF b n f (sk b n (wd b n (sk b n p)) + 1) (s + 2 ^ c) else (0, 0, s + 2 ^ c, sk b n (wd b n (sk b n p)))
/-- a clause's end: fault, where, kind and value (the class's), where it goes on -/
def clE (b : Nat → Int32) (n q : Nat) (k v : Int32) : Nat × Nat × Int32 × Int32 × Nat := if sk b n q < n ∧ b (sk b n q) = 59 then (0, 0, k, v, sk b n q + 1) else (1, sk b n q, k, v, 0)
def loK (k : Nat) : Int := [0, 0, 0, 0, 1, 0].getD k 0
def hiK (k : Nat) : Int := [0, 99, 99, 100, 9, 999].getD k 0
def nuE (b : Nat → Int32) (n rules k p : Nat) : Nat × Nat × Int32 × Int32 × Nat :=
  if dg b n (sk b n p) = sk b n p then (1, sk b n p, 0, 0, 0) else if 3 < dg b n (sk b n p) - sk b n p ∨ (nmV b (sk b n p) (dg b n (sk b n p) - sk b n p)).toInt < loK k ∨ hiK k < (nmV b (sk b n p) (dg b n (sk b n p) - sk b n p)).toInt then (2, sk b n p, 0, 0, 0) else if k = 5 ∧ (rules : Int) ≤ (nmV b (sk b n p) (dg b n (sk b n p) - sk b n p)).toInt then (3, sk b n p, 0, 0, 0) else clE b n (dg b n (sk b n p)) (nI (k + 2)) (nmV b (sk b n p) (dg b n (sk b n p) - sk b n p))
def neE (b : Nat → Int32) (n p : Nat) : Nat × Nat × Int32 × Int32 × Nat := match gdO b (sk b n p) (wd b n (sk b n p)) with
  | none => (1, sk b n p, 0, 0, 0)
  | some g => if (smF b n 5 (wd b n (sk b n p)) 0).1 = 0 then clE b n (smF b n 5 (wd b n (sk b n p)) 0).2.2.2 (nI g) (nI (smF b n 5 (wd b n (sk b n p)) 0).2.2.1) else ((smF b n 5 (wd b n (sk b n p)) 0).1, (smF b n 5 (wd b n (sk b n p)) 0).2.1, 0, 0, 0)
/-- one clause from p on, the number of those before it -/
def cuE (b : Nat → Int32) (n rules cnt p : Nat) : Nat × Nat × Int32 × Int32 × Nat := match kwO b (sk b n p) (wd b n (sk b n p)) with
  | none => (1, sk b n p, 0, 0, 0)
  | some k => if 8 ≤ cnt then (5, sk b n p, 0, 0, 0) else if k = 0 then neE b n (wd b n (sk b n p)) else nuE b n rules k (wd b n (sk b n p))
/-- where the clause number c begins -/
def psE (b : Nat → Int32) (n rules : Nat) : Nat → Nat
  | 0 => 0
  | c + 1 => (cuE b n rules c (psE b n rules c)).2.2.2.2
def rsE (b : Nat → Int32) (n rules c : Nat) : Nat × Nat × Int32 × Int32 × Nat := cuE b n rules c (psE b n rules c)
def enE (b : Nat → Int32) (n rules c : Nat) : Prop := ¬ sk b n (psE b n rules c) < n
/-- the text ends behind c clauses, or at a fault in the clause number c -/
def toE (b : Nat → Int32) (n rules c : Nat) : Prop := (∀ i, i < c → ¬ enE b n rules i ∧ (rsE b n rules i).1 = 0) ∧ (enE b n rules c ∨ ¬ (rsE b n rules c).1 = 0)
theorem toE_u {b : Nat → Int32} {n rules c d : Nat} (hc : toE b n rules c) (hd : toE b n rules d) : c = d := by
  rcases Nat.lt_trichotomy c d with h | h | h
  · have := hd.1 c h
    rcases hc.2 with q | q
    · exact absurd q this.1
    · exact absurd this.2 q
  · exact h
  · have := hc.1 d h
    rcases hd.2 with q | q
    · exact absurd q this.1
    · exact absurd this.2 q
