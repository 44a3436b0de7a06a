-- the abstract machine: values, heaps, layouts
abbrev xF : Type := Nat → Nat → Value
abbrev xA : Type := Nat → Nat → Int32
abbrev xL : Type := List (Nat × Nat)
abbrev xG : Type := va_G × ClassId × ClassId × Nat × (Nat → Nat)
abbrev xQ : Type := Option Value → xL → xF → xA → Prop
abbrev xS : Type := List (Option Value)
abbrev xK : Type := Nat → xS → List Value → Nat → Nat → xL → xF → xA → Prop
abbrev xC : Type := xS → List Value → Nat → Nat → xL → xF → xA → Prop
def mY (M : xM) : MethodName := M.1
def mB (M : xM) : ByteArray := M.2.1
def mN (M : xM) : Nat := M.2.2.1
def mT (M : xM) : Option FieldType := M.2.2.2.1
def mO (M : xM) : Nat := M.2.2.2.2.1
def mV (M : xM) : Nat := M.2.2.2.2.2.1
def mC (M : xM) : Nat := M.2.2.2.2.2.2.1
def mS (M : xM) : Nat := M.2.2.2.2.2.2.2.1
def mX (M : xM) : Option (Nat × (Nat → Int32)) := M.2.2.2.2.2.2.2.2
def upF (F : xF) (a k : Nat) (v : Value) : xF := fun b j => if b = a ∧ j = k then v else F b j
def upA (A : xA) (a : Nat) (f : Nat → Int32) : xA := fun b => if b = a then f else A b
def nwF (F : xF) (a : Nat) (f : Nat → Value) : xF := fun b => if b = a then f else F b
def gA (g : xG) (k : Nat) : Nat := if k < 1000 then g.2.2.2.1 + k else g.2.2.2.2 (k - 1000)
def gV (g : xG) (v : Value) : Value := match v with
  | .ref k => .ref (gA g k)
  | v => v
def gE (g : xG) (d : Nat × Nat) (f : Nat → Value) (a : Nat → Int32) : va_E := match d.1 with
  | 0 => .inl (g.2.1, 0, .inl a)
  | 1 => .inl (g.2.1, d.2, .inl a)
  | 2 => .inl (g.2.2.1, d.2, .inl a)
  | ci + 3 => .inr (ci, (List.range d.2).map fun k => gV g (f k))
def gW (g : xG) (L : xL) (F : xF) (A : xA) : va_W := (List.range L.length).map fun i => (g.2.2.2.1 + i, gE g (L.getD i (0, 0)) (F i) (A i))
def gR (g : xG) : Nat → Prop := fun q => g.2.2.2.1 ≤ q
abbrev gT (g : xG) : List (ClassId × FieldType) := [(g.2.1, .int), (g.2.2.1, .boolean)]
def gH (g : xG) (L : xL) (F : xF) (A : xA) (H : Heap) : Prop := H.size = g.2.2.2.1 + L.length ∧ L.length ≤ 1000 ∧ va_P g.1 vwCl (gW g L F A) H
def gK (g : xG) (U : State) (H : Heap) : Prop :=
  (∀ i, i < 3 → va_Z RX9 (kN i) "[I" (.ref (g.2.2.2.2 (200 + i))) (gR g) U H ∧ va_T .int (g.2.2.2.2 (200 + i)) (kX i).length (fun j => .int ((kX i).getD j 0)) (gR g) U H) ∧
  va_Z "java/lang/String" "COMPACT_STRINGS" "Z" (.int 1) (gR g) U H ∧
  vk_S 13 kLen kByt (fun i => g.2.2.2.2 i) (fun i => g.2.2.2.2 (100 + i)) (gR g) U H ∧
  (∀ i, i < 13 → vk_R RX7 (kIx.getD i 0) (kTx.getD i "") (g.2.2.2.2 i) U) ∧
  va_Zq "jdk/internal/util/Preconditions" "SIOOBE_FORMATTER" "Ljava/util/function/BiFunction;" (gR g) U H ∧
  (∀ w ∈ lw_tbl, nestW w = true → va_Nw w U)
theorem nestW_tab {w : Cond} (h : nestW w = true) : w.onTables = true := by
  cases w <;> first | rfl | (simp [nestW] at h; done)
theorem nestW_warm {w : Cond} (h : nestW w = true) {s U : State} (hW : s.WarmedH U.vm) (hZ : va_Nw w s) : va_Nw w U := by
  cases w <;> first | exact va_Nw.warmF hW hZ | exact va_Nw.warmM hW hZ | (simp [nestW] at h; done)
theorem gK.warm {g : xG} {s U : State} {H : Heap} (h : gK g s H) (hW : s.WarmedH U.vm) : gK g U H :=
  ⟨fun i hi => ⟨va_Z.moved hW.alike (h.1 i hi).1, va_T.moved hW.alike (h.1 i hi).2⟩, va_Z.moved hW.alike h.2.1, vk_S.moved hW.alike h.2.2.1, fun i hi => vk_R.warm hW (h.2.2.2.1 i hi), va_Zq.moved hW.alike h.2.2.2.2.1, fun w hw hn => nestW_warm hn hW (h.2.2.2.2.2 w hw hn)⟩
theorem gK.kept {g : xG} {U : State} {H H1 : Heap} (h : gK g U H) (hq : ∀ a : Nat, a < H.size → ¬ gR g a → H1[a]? = H[a]?) : gK g U H1 :=
  ⟨fun i hi => ⟨(h.1 i hi).1.kept hq, (h.1 i hi).2.kept hq⟩, h.2.1.kept hq, h.2.2.1.kept hq, h.2.2.2.1, h.2.2.2.2.1.kept hq, h.2.2.2.2.2⟩
theorem gK.same {g : xG} {u U : State} {H : Heap} (h : gK g u H) (hv : U.vm = u.vm) : gK g U H := by
  have ha : u.vm.Alike U.vm := by rw [hv]; exact Vm.Alike.refl _
  exact ⟨fun i hi => ⟨va_Z.moved ha (h.1 i hi).1, va_T.moved ha (h.1 i hi).2⟩, va_Z.moved ha h.2.1, vk_S.moved ha h.2.2.1, fun i hi => vk_R.same hv (h.2.2.2.1 i hi), va_Zq.moved ha h.2.2.2.2.1, fun w hw hn => va_Nw.same (nestW_tab hn) hv.symm (h.2.2.2.2.2 w hw hn)⟩
theorem gD_lt {L : xL} {i : Nat} (h : (L.getD i (0, 0)).1 ≠ 0) : i < L.length := by
  rcases Nat.lt_or_ge i L.length with q | q
  · exact q
  · exfalso
    apply h
    rw [List.getD_eq_getElem?_getD, List.getElem?_eq_none q]
    rfl
theorem gW_at (g : xG) (L : xL) (F : xF) (A : xA) {i : Nat} (h : i < L.length) : (gW g L F A)[i]? = some (g.2.2.2.1 + i, gE g (L.getD i (0, 0)) (F i) (A i)) := by
  simp [gW, List.getElem?_map, List.getElem?_range h]
theorem gW_out (g : xG) (L : xL) (F : xF) (A : xA) {i : Nat} (h : L.length ≤ i) : (gW g L F A)[i]? = none := by
  apply List.getElem?_eq_none
  simpa [gW] using h
theorem gW_len (g : xG) (L : xL) (F : xF) (A : xA) : (gW g L F A).length = L.length := by simp [gW]
theorem gW_D (g : xG) (L : xL) (F : xF) (A : xA) : va_D (gR g) (gW g L F A) := by
  refine ⟨fun i j p q hp hq e => ?_, fun k q hq => ?_⟩
  · have hi : i < L.length := by
      rcases Nat.lt_or_ge i L.length with z | z
      · exact z
      · rw [gW_out g L F A z] at hp; cases hp
    have hj : j < L.length := by
      rcases Nat.lt_or_ge j L.length with z | z
      · exact z
      · rw [gW_out g L F A z] at hq; cases hq
    rw [gW_at g L F A hi] at hp
    rw [gW_at g L F A hj] at hq
    cases hp; cases hq
    exact Nat.add_left_cancel e
  · have hk : k < L.length := by
      rcases Nat.lt_or_ge k L.length with z | z
      · exact z
      · rw [gW_out g L F A z] at hq; cases hq
    rw [gW_at g L F A hk] at hq
    cases hq
    exact Nat.le_add_right _ _
theorem gW_ext {g : xG} {L : xL} {F F' : xF} {A A' : xA} (w : va_W) (a : Nat) (v : Nat × va_E) (ha : a < L.length) (h : w = (gW g L F A).set a v) (hv : v = (g.2.2.2.1 + a, gE g (L.getD a (0, 0)) (F' a) (A' a))) (ho : ∀ b, b ≠ a → F' b = F b ∧ A' b = A b) : w = gW g L F' A' := by
  subst h
  apply List.ext_getElem?
  intro i
  by_cases hi : i < L.length
  · rw [gW_at g L F' A' hi]
    by_cases hia : i = a
    · subst hia
      rw [List.getElem?_set_self (by rw [gW_len]; exact hi), hv]
    · rw [List.getElem?_set_ne (fun q => hia q.symm), gW_at g L F A hi, (ho i hia).1, (ho i hia).2]
  · have hi' : L.length ≤ i := Nat.not_lt.mp hi
    rw [gW_out g L F' A' hi', List.getElem?_set_ne (by omega), gW_out g L F A hi']
theorem gE_obj (g : xG) (ci N : Nat) (f : Nat → Value) (a : Nat → Int32) : gE g (ci + 3, N) f a = .inr (ci, (List.range N).map fun k => gV g (f k)) := rfl
theorem gE_int (g : xG) (n : Nat) (f : Nat → Value) (a : Nat → Int32) : gE g (1, n) f a = .inl (g.2.1, n, .inl a) := rfl
theorem gE_boo (g : xG) (n : Nat) (f : Nat → Value) (a : Nat → Int32) : gE g (2, n) f a = .inl (g.2.2.1, n, .inl a) := rfl
theorem gW_setF {g : xG} {L : xL} {F : xF} {A : xA} {a ci N k : Nat} {v : Value} (hd : L.getD a (0, 0) = (ci + 3, N)) (hk : k < N) :
    (gW g L F A).set a (g.2.2.2.1 + a, .inr (ci, ((List.range N).map fun j => gV g (F a j)).set k (gV g v))) = gW g L (upF F a k v) A := by
  refine gW_ext _ a _ (gD_lt (by rw [hd]; simp)) rfl ?_ (fun b hb => ⟨?_, rfl⟩)
  · rw [hd, gE_obj]
    congr 3
    apply List.ext_getElem?
    intro i
    by_cases hi : i < N
    · by_cases hik : i = k
      · subst hik
        rw [List.getElem?_set_self (by simpa using hi)]
        simp [upF, List.getElem?_map, List.getElem?_range hi]
      · rw [List.getElem?_set_ne (fun q => hik q.symm)]
        simp [upF, List.getElem?_map, List.getElem?_range hi, hik]
    · have h1 : (((List.range N).map fun j => gV g (F a j)).set k (gV g v))[i]? = none := List.getElem?_eq_none (by simpa using Nat.not_lt.mp hi)
      have h2 : ((List.range N).map fun j => gV g (upF F a k v a j))[i]? = none := List.getElem?_eq_none (by simpa using Nat.not_lt.mp hi)
      rw [h1, h2]
  · funext j
    simp [upF, hb]
theorem gW_setI {g : xG} {L : xL} {F : xF} {A : xA} {a n : Nat} {f : Nat → Int32} (hd : L.getD a (0, 0) = (1, n)) :
    (gW g L F A).set a (g.2.2.2.1 + a, .inl (g.2.1, n, .inl f)) = gW g L F (upA A a f) := by
  refine gW_ext _ a _ (gD_lt (by rw [hd]; simp)) rfl ?_ (fun b hb => ⟨rfl, by simp [upA, hb]⟩)
  rw [hd, gE_int]
  simp [upA]
theorem gW_setZ {g : xG} {L : xL} {F : xF} {A : xA} {a n : Nat} {f : Nat → Int32} (hd : L.getD a (0, 0) = (2, n)) :
    (gW g L F A).set a (g.2.2.2.1 + a, .inl (g.2.2.1, n, .inl f)) = gW g L F (upA A a f) := by
  refine gW_ext _ a _ (gD_lt (by rw [hd]; simp)) rfl ?_ (fun b hb => ⟨rfl, by simp [upA, hb]⟩)
  rw [hd, gE_boo]
  simp [upA]
theorem gW_push (g : xG) (L : xL) (F : xF) (A : xA) (d : Nat × Nat) (f : Nat → Value) (a : Nat → Int32) :
    gW g L F A ++ [(g.2.2.2.1 + L.length, gE g d f a)] = gW g (L ++ [d]) (nwF F L.length f) (upA A L.length a) := by
  apply List.ext_getElem?
  intro i
  rcases Nat.lt_trichotomy i L.length with hi | hi | hi
  · rw [List.getElem?_append_left (by rw [gW_len]; exact hi), gW_at g L F A hi, gW_at _ _ _ _ (by simp; omega)]
    have hne : i ≠ L.length := Nat.ne_of_lt hi
    simp [nwF, upA, hne, List.getD_eq_getElem?_getD, List.getElem?_append_left hi]
  · subst hi
    rw [List.getElem?_append_right (by rw [gW_len]; exact Nat.le_refl _), gW_len, gW_at _ _ _ _ (by simp)]
    simp [nwF, upA, List.getD_eq_getElem?_getD]
  · rw [gW_out _ _ _ _ (by simp; omega)]
    apply List.getElem?_eq_none
    simp [gW]
    omega
def dfl (ci : Nat) : Nat → Value := fun k => match vwCl[ci]? with
  | some (_, T, _) => if (T k).2.2.1 = "I" then .int 0 else .null
  | none => .null
def rfT (ty : FieldType) : Prop := ∀ v : Nat, narrow ty (.ref v) = .ref v ∧ fits ty (.ref v) = true
def clGood (ci : Nat) (C : String) (T : u_T) (N : Nat) : Prop := (∀ w ∈ u_ws C T N, w ∈ lw_ok) ∧ (∀ a, a < N → ∀ b, b < N → a ≠ b → (T a).2.1 ≠ (T b).2.1) ∧ (∀ k, k < N → (T k).1 = C) ∧ xO ci = C ∧ ∃ ty : Nat → FieldType, (∀ k, k < N → parseFieldDescriptor (T k).2.2.1 = some (ty k)) ∧ (∀ k, k < N → defaultValue (ty k) = dfl ci k) ∧ (∀ k, k < N → ((T k).2.2.1 == "I") = true → ty k = .int) ∧ ∀ k, k < N → ((T k).2.2.1 == "I") = false → (∃ C', ty k = .object C') ∨ ∃ t', ty k = .array t'
def isRT (t : FieldType) : Bool := match t with
  | .object _ => true
  | .array _ => true
  | _ => false
theorem isRT_ok {t : FieldType} (h : isRT t = true) : (∃ C', t = .object C') ∨ ∃ t', t = .array t' := by
  cases t <;> simp [isRT] at h ⊢
theorem clG0 : clGood 0 RX0 TX0 17 := ⟨by decide +kernel, nmX0, by decide +kernel, rfl, tyX0, tyX0_ok, by decide +kernel, by decide +kernel, fun k hk h => isRT_ok ((by decide +kernel : ∀ k, k < 17 → ((TX0 k).2.2.1 == "I") = false → isRT (tyX0 k) = true) k hk h)⟩
theorem clG1 : clGood 1 RX1 TX1 6 := ⟨by decide +kernel, nmX1, by decide +kernel, rfl, tyX1, tyX1_ok, by decide +kernel, by decide +kernel, fun k hk h => isRT_ok ((by decide +kernel : ∀ k, k < 6 → ((TX1 k).2.2.1 == "I") = false → isRT (tyX1 k) = true) k hk h)⟩
theorem clG2 : clGood 2 RX2 TX2 5 := ⟨by decide +kernel, nmX2, by decide +kernel, rfl, tyX2, tyX2_ok, by decide +kernel, by decide +kernel, fun k hk h => isRT_ok ((by decide +kernel : ∀ k, k < 5 → ((TX2 k).2.2.1 == "I") = false → isRT (tyX2 k) = true) k hk h)⟩
theorem clG3 : clGood 3 RX3 TX3 2 := ⟨by decide +kernel, nmX3, by decide +kernel, rfl, tyX3, tyX3_ok, by decide +kernel, by decide +kernel, fun k hk h => isRT_ok ((by decide +kernel : ∀ k, k < 2 → ((TX3 k).2.2.1 == "I") = false → isRT (tyX3 k) = true) k hk h)⟩
theorem clG4 : clGood 4 RX4 TX4 6 := ⟨by decide +kernel, nmX4, by decide +kernel, rfl, tyX4, tyX4_ok, by decide +kernel, by decide +kernel, fun k hk h => isRT_ok ((by decide +kernel : ∀ k, k < 6 → ((TX4 k).2.2.1 == "I") = false → isRT (tyX4 k) = true) k hk h)⟩
theorem clG5 : clGood 5 RX5 TX5 7 := ⟨by decide +kernel, nmX5, by decide +kernel, rfl, tyX5, tyX5_ok, by decide +kernel, by decide +kernel, fun k hk h => isRT_ok ((by decide +kernel : ∀ k, k < 7 → ((TX5 k).2.2.1 == "I") = false → isRT (tyX5 k) = true) k hk h)⟩
theorem clG6 : clGood 6 RX6 TX6 8 := ⟨by decide +kernel, nmX6, by decide +kernel, rfl, tyX6, tyX6_ok, by decide +kernel, by decide +kernel, fun k hk h => isRT_ok ((by decide +kernel : ∀ k, k < 8 → ((TX6 k).2.2.1 == "I") = false → isRT (tyX6 k) = true) k hk h)⟩
theorem clG7 : clGood 7 RX7 TX7 9 := ⟨by decide +kernel, nmX7, by decide +kernel, rfl, tyX7, tyX7_ok, by decide +kernel, by decide +kernel, fun k hk h => isRT_ok ((by decide +kernel : ∀ k, k < 9 → ((TX7 k).2.2.1 == "I") = false → isRT (tyX7 k) = true) k hk h)⟩
theorem clG8 : clGood 8 RX8 TX8 6 := ⟨by decide +kernel, nmX8, by decide +kernel, rfl, tyX8, tyX8_ok, by decide +kernel, by decide +kernel, fun k hk h => isRT_ok ((by decide +kernel : ∀ k, k < 6 → ((TX8 k).2.2.1 == "I") = false → isRT (tyX8 k) = true) k hk h)⟩
theorem clG9 : clGood 9 RX9 TX9 12 := ⟨by decide +kernel, nmX9, by decide +kernel, rfl, tyX9, tyX9_ok, by decide +kernel, by decide +kernel, fun k hk h => isRT_ok ((by decide +kernel : ∀ k, k < 12 → ((TX9 k).2.2.1 == "I") = false → isRT (tyX9 k) = true) k hk h)⟩
theorem clG10 : clGood 10 RX10 TX10 60 := ⟨by decide +kernel, nmX10, by decide +kernel, rfl, tyX10, tyX10_ok, by decide +kernel, by decide +kernel, fun k hk h => isRT_ok ((by decide +kernel : ∀ k, k < 60 → ((TX10 k).2.2.1 == "I") = false → isRT (tyX10 k) = true) k hk h)⟩
theorem clOk {ci : Nat} {C : String} {T : u_T} {N : Nat} (h : vwCl[ci]? = some (C, T, N)) : clGood ci C T N := by
  match ci, h with
  | 0, h => cases h; exact clG0
  | 1, h => cases h; exact clG1
  | 2, h => cases h; exact clG2
  | 3, h => cases h; exact clG3
  | 4, h => cases h; exact clG4
  | 5, h => cases h; exact clG5
  | 6, h => cases h; exact clG6
  | 7, h => cases h; exact clG7
  | 8, h => cases h; exact clG8
  | 9, h => cases h; exact clG9
  | 10, h => cases h; exact clG10
  | k + 11, h => simp [vwCl] at h
