theorem oI_0_11 : oI 0 11 = true := by decide
theorem oI_1_1 : oI 1 1 = true := by decide
theorem oI_9_7 : oI 9 7 = true := by decide
theorem oI_16_5 : oI 16 5 = true := by decide
theorem oI_22_3 : oI 22 3 = true := by decide
theorem oI_22_4 : oI 22 4 = true := by decide
theorem oI_22_5 : oI 22 5 = true := by decide
theorem oI_22_6 : oI 22 6 = true := by decide
theorem oI_22_7 : oI 22 7 = true := by decide
theorem oI_22_8 : oI 22 8 = true := by decide
theorem oI_26_6 : oI 26 6 = true := by decide
theorem oI_59_5 : oI 59 5 = true := by decide
theorem oI_65_1 : oI 65 1 = true := by decide
theorem oI_65_2 : oI 65 2 = true := by decide
theorem oI_65_5 : oI 65 5 = true := by decide
theorem oI_70_0 : oI 70 0 = true := by decide
theorem oI_70_1 : oI 70 1 = true := by decide
theorem oI_70_15 : oI 70 15 = true := by decide
theorem oI_70_20 : oI 70 20 = true := by decide
theorem oI_70_21 : oI 70 21 = true := by decide
theorem oI_70_28 : oI 70 28 = true := by decide
theorem oI_70_29 : oI 70 29 = true := by decide
theorem oI_70_30 : oI 70 30 = true := by decide
theorem oI_70_31 : oI 70 31 = true := by decide
theorem oI_70_32 : oI 70 32 = true := by decide
theorem oI_70_33 : oI 70 33 = true := by decide
theorem oI_70_37 : oI 70 37 = true := by decide
theorem oI_70_38 : oI 70 38 = true := by decide
theorem oI_70_39 : oI 70 39 = true := by decide
theorem oI_70_40 : oI 70 40 = true := by decide
theorem oI_70_41 : oI 70 41 = true := by decide
theorem oI_70_51 : oI 70 51 = true := by decide
theorem ti_m1000000 : Int32.toInt (-1000000) = -1000000 := by decide
theorem ti_m1004 : Int32.toInt (-1004) = -1004 := by decide
theorem ti_m1003 : Int32.toInt (-1003) = -1003 := by decide
theorem ti_m1002 : Int32.toInt (-1002) = -1002 := by decide
theorem ti_m1001 : Int32.toInt (-1001) = -1001 := by decide
theorem ti_m650 : Int32.toInt (-650) = -650 := by decide
theorem ti_m99 : Int32.toInt (-99) = -99 := by decide
theorem ti_m10 : Int32.toInt (-10) = -10 := by decide
theorem ti_m1 : Int32.toInt (-1) = -1 := by decide
theorem ti_0 : Int32.toInt 0 = 0 := by decide
theorem ti_1 : Int32.toInt 1 = 1 := by decide
theorem ti_2 : Int32.toInt 2 = 2 := by decide
theorem ti_3 : Int32.toInt 3 = 3 := by decide
theorem ti_4 : Int32.toInt 4 = 4 := by decide
theorem ti_5 : Int32.toInt 5 = 5 := by decide
theorem ti_6 : Int32.toInt 6 = 6 := by decide
theorem ti_7 : Int32.toInt 7 = 7 := by decide
theorem ti_8 : Int32.toInt 8 = 8 := by decide
theorem ti_9 : Int32.toInt 9 = 9 := by decide
theorem ti_10 : Int32.toInt 10 = 10 := by decide
theorem ti_12 : Int32.toInt 12 = 12 := by decide
theorem ti_14 : Int32.toInt 14 = 14 := by decide
theorem ti_15 : Int32.toInt 15 = 15 := by decide
theorem ti_20 : Int32.toInt 20 = 20 := by decide
theorem ti_24 : Int32.toInt 24 = 24 := by decide
theorem ti_30 : Int32.toInt 30 = 30 := by decide
theorem ti_31 : Int32.toInt 31 = 31 := by decide
theorem ti_32 : Int32.toInt 32 = 32 := by decide
theorem ti_40 : Int32.toInt 40 = 40 := by decide
theorem ti_44 : Int32.toInt 44 = 44 := by decide
theorem ti_48 : Int32.toInt 48 = 48 := by decide
theorem ti_57 : Int32.toInt 57 = 57 := by decide
theorem ti_59 : Int32.toInt 59 = 59 := by decide
theorem ti_63 : Int32.toInt 63 = 63 := by decide
theorem ti_64 : Int32.toInt 64 = 64 := by decide
theorem ti_72 : Int32.toInt 72 = 72 := by decide
theorem ti_96 : Int32.toInt 96 = 96 := by decide
theorem ti_97 : Int32.toInt 97 = 97 := by decide
theorem ti_98 : Int32.toInt 98 = 98 := by decide
theorem ti_99 : Int32.toInt 99 = 99 := by decide
theorem ti_100 : Int32.toInt 100 = 100 := by decide
theorem ti_101 : Int32.toInt 101 = 101 := by decide
theorem ti_102 : Int32.toInt 102 = 102 := by decide
theorem ti_105 : Int32.toInt 105 = 105 := by decide
theorem ti_107 : Int32.toInt 107 = 107 := by decide
theorem ti_108 : Int32.toInt 108 = 108 := by decide
theorem ti_109 : Int32.toInt 109 = 109 := by decide
theorem ti_110 : Int32.toInt 110 = 110 := by decide
theorem ti_111 : Int32.toInt 111 = 111 := by decide
theorem ti_112 : Int32.toInt 112 = 112 := by decide
theorem ti_114 : Int32.toInt 114 = 114 := by decide
theorem ti_115 : Int32.toInt 115 = 115 := by decide
theorem ti_116 : Int32.toInt 116 = 116 := by decide
theorem ti_117 : Int32.toInt 117 = 117 := by decide
theorem ti_119 : Int32.toInt 119 = 119 := by decide
theorem ti_120 : Int32.toInt 120 = 120 := by decide
theorem ti_121 : Int32.toInt 121 = 121 := by decide
theorem ti_122 : Int32.toInt 122 = 122 := by decide
theorem ti_160 : Int32.toInt 160 = 160 := by decide
theorem ti_168 : Int32.toInt 168 = 168 := by decide
theorem ti_216 : Int32.toInt 216 = 216 := by decide
theorem ti_222 : Int32.toInt 222 = 222 := by decide
theorem ti_240 : Int32.toInt 240 = 240 := by decide
theorem ti_255 : Int32.toInt 255 = 255 := by decide
theorem ti_262 : Int32.toInt 262 = 262 := by decide
theorem ti_302 : Int32.toInt 302 = 302 := by decide
theorem ti_400 : Int32.toInt 400 = 400 := by decide
theorem ti_495 : Int32.toInt 495 = 495 := by decide
theorem ti_650 : Int32.toInt 650 = 650 := by decide
theorem ti_991 : Int32.toInt 991 = 991 := by decide
theorem ti_999 : Int32.toInt 999 = 999 := by decide
theorem ti_1300 : Int32.toInt 1300 = 1300 := by decide
theorem ti_9100 : Int32.toInt 9100 = 9100 := by decide
theorem ti_9999 : Int32.toInt 9999 = 9999 := by decide
theorem ti_99999 : Int32.toInt 99999 = 99999 := by decide
theorem ti_1000000 : Int32.toInt 1000000 = 1000000 := by decide
theorem tj_m550 : Int64.toInt (-550) = -550 := by decide
theorem tj_m99 : Int64.toInt (-99) = -99 := by decide
theorem tj_0 : Int64.toInt 0 = 0 := by decide
theorem tj_1 : Int64.toInt 1 = 1 := by decide
theorem tj_2 : Int64.toInt 2 = 2 := by decide
theorem tj_3 : Int64.toInt 3 = 3 := by decide
theorem tj_5 : Int64.toInt 5 = 5 := by decide
theorem tj_6 : Int64.toInt 6 = 6 := by decide
theorem tj_7 : Int64.toInt 7 = 7 := by decide
theorem tj_8 : Int64.toInt 8 = 8 := by decide
theorem tj_30 : Int64.toInt 30 = 30 := by decide
theorem tj_48 : Int64.toInt 48 = 48 := by decide
theorem tj_57 : Int64.toInt 57 = 57 := by decide
theorem tj_63 : Int64.toInt 63 = 63 := by decide
theorem tj_97 : Int64.toInt 97 = 97 := by decide
theorem tj_99 : Int64.toInt 99 = 99 := by decide
theorem tj_100 : Int64.toInt 100 = 100 := by decide
theorem tj_122 : Int64.toInt 122 = 122 := by decide
theorem tj_240 : Int64.toInt 240 = 240 := by decide
theorem tj_255 : Int64.toInt 255 = 255 := by decide
theorem tj_550 : Int64.toInt 550 = 550 := by decide
theorem tj_999 : Int64.toInt 999 = 999 := by decide
theorem tj_9999 : Int64.toInt 9999 = 9999 := by decide
theorem tj_99999 : Int64.toInt 99999 = 99999 := by decide
theorem tj_4294967295 : Int64.toInt 4294967295 = 4294967295 := by decide
section O2
variable {M : xM} {fi : xP} {fv : xA → Prop} {pc : Nat} {ls : xS} {st : List Value} {S : xA}
theorem ok2_0 (b : ByteArray) (o n : Nat) (hb : b = mB M) (ho : o = mO M) (h : sn2 M b o (sg2 M b o K2 fi fv n) fi fv pc ls st S) : Ok2 M pc ls st S fi fv := ok2_seg n K2 hb ho h (fun _ _ h => by cases h)
/-- one cut at a, its own proposition P leading on -/
theorem ok2_1 (b : ByteArray) (o n a : Nat) (P : xS → List Value → xA → Prop) (hb : b = mB M) (ho : o = mO M) (hP : ∀ ls st S, P ls st S → Ok2 M a ls st S fi fv) (h : ∀ R : xS → List Value → xA → Prop, (∀ ls st S, P ls st S → R ls st S) → sn2 M b o (sg2 M b o (kc a R K2) fi fv n) fi fv pc ls st S) : Ok2 M pc ls st S fi fv := by
  refine ok2_seg n (kc a P K2) hb ho (h P (fun _ _ _ q => q)) ?_
  intro pc' P' hP' ls st S hq
  unfold kc K2 at hP'
  by_cases hpc : pc' = a
  · rw [if_pos hpc] at hP'
    cases hP'
    subst hpc
    exact hP ls st S hq
  · rw [if_neg hpc] at hP'
    cases hP'
theorem ok2_2 (b : ByteArray) (o n a a2 : Nat) (P P2 : xS → List Value → xA → Prop) (hb : b = mB M) (ho : o = mO M) (hP : ∀ ls st S, P ls st S → Ok2 M a ls st S fi fv) (hP2 : ∀ ls st S, P2 ls st S → Ok2 M a2 ls st S fi fv) (h : ∀ R R2 : xS → List Value → xA → Prop, (∀ ls st S, P ls st S → R ls st S) → (∀ ls st S, P2 ls st S → R2 ls st S) → sn2 M b o (sg2 M b o (kc a R (kc a2 R2 K2)) fi fv n) fi fv pc ls st S) : Ok2 M pc ls st S fi fv := by
  refine ok2_seg n (kc a P (kc a2 P2 K2)) hb ho (h P P2 (fun _ _ _ q => q) (fun _ _ _ q => q)) ?_
  intro pc' P' hP' ls st S hq
  unfold kc K2 at hP'
  by_cases hpc : pc' = a
  · rw [if_pos hpc] at hP'
    cases hP'
    subst hpc
    exact hP ls st S hq
  · rw [if_neg hpc] at hP'
    by_cases hpc2 : pc' = a2
    · rw [if_pos hpc2] at hP'
      cases hP'
      subst hpc2
      exact hP2 ls st S hq
    · rw [if_neg hpc2] at hP'
      cases hP'
end O2
def bI (b : Bool) : Int32 := if b = true then 1 else 0
theorem bI_t : bI true = 1 := rfl
theorem bI_f : bI false = 0 := rfl
theorem bI_0 (b : Bool) : (bI b = 0) = (b = false) := by cases b <;> simp [bI]
theorem bI_01 (b : Bool) : bI b = 0 ∨ bI b = 1 := by cases b <;> simp [bI]
theorem lt_I (x y : Int32) : (x < y) = (x.toInt < y.toInt) := propext Int32.lt_iff_toInt_lt
theorem le_I (x y : Int32) : (x ≤ y) = (x.toInt ≤ y.toInt) := propext Int32.le_iff_toInt_le
theorem eq_I (x y : Int32) : (x = y) = (x.toInt = y.toInt) := propext Int32.toInt_inj.symm
theorem lt_J (x y : Int64) : (x < y) = (x.toInt < y.toInt) := propext Int64.lt_iff_toInt_lt
theorem le_J (x y : Int64) : (x ≤ y) = (x.toInt ≤ y.toInt) := propext Int64.le_iff_toInt_le
theorem wid_I (x : Int32) : x.toInt64.toInt = x.toInt := Int32.toInt_toInt64 x
theorem lg_0l (x y : Int64) : (lg_cmp x y < 0) = (x < y) := by
  apply propext
  unfold lg_cmp
  constructor
  · intro h
    split at h
    · exact absurd h (by decide)
    · next h1 =>
      split at h
      · exact absurd h (by decide)
      · next h2 =>
        have h1' := Int64.not_lt.mp h1
        rw [le_J] at h1'
        rw [lt_J]
        have : x.toInt ≠ y.toInt := fun q => h2 (Int64.toInt_inj.mp q)
        omega
  · intro h
    rw [lt_J] at h
    rw [if_neg (by show ¬ y < x; rw [lt_J]; omega), if_neg (fun q => by rw [q] at h; omega)]
    decide
theorem lg_0g (x y : Int64) : (0 < lg_cmp x y) = (y < x) := by
  apply propext
  unfold lg_cmp
  constructor
  · intro h
    split at h
    · assumption
    · split at h <;> exact absurd h (by decide)
  · intro h
    rw [if_pos h]
    decide
