/-! THE CLAIM OUT OF ONE WALK OF THE LAW'S BODY. Your part is whole_start (and what it stands on); all else here is the same for every law, but numbers. -/
def R_law : String := "NineDaysLaw"
def lw_P (b : Addr) (xs : List Int32) (args : Array Value) (s : State) : Prop := args = #[.ref b] ∧ s.IntsAt b xs ∧ xs.length ≤ 3072 ∧ (Jvm.Cond.and given_1 narrow_1).before args s = true
def lw_Q (_ : Array Value) (s : State) (o : Outcome) (t : State) : Prop := o = .returned (some (.int 1)) ∧ Framed s o t [] 114 15089
def lw_Z (below : List Frame) (a : Array Value) (s : State) : State → Prop := fun t => ∃ o, t.status = .running ∧ Ended t below o ∧ lw_Q a s o t
/-- the law's own end, with 1 on the stack, nothing written that was there before, its room as the claim has it -/
theorem lw_ret {p : Program} {l : Launch} {e : Env} {s : State} {m : MethodId} {below : List Frame} {meth : Method} {c : Code} {b : Nat} (hx : p.tables.exec = Jvm.exec) (hb : c.code = code) (hr : meth.sig.returnType = ret) (hlocks : meth.locks = false) {pc : Nat} {H : Heap} {ls : Array Slot} (hdg : decode code pc = .ok (.ireturn, 1)) : W p l e room_1 s m #[Value.ref b] below meth c H [] 114 15089 (lw_Z below #[Value.ref b] s) (F0 m pc ls [.int 1]) := by
  intro T hT X
  obtain ⟨fs, hret, hrun, hended, hW, hframe⟩ := X.leave (v := some (.int 1)) (hlocks := hlocks) (fun h => by rw [hr] at h; cases h)
  have hmeth' : T.vm.method? m = some meth := X.method'
  refine ⟨T.setFrames fs, ?_, .returned (some (.int 1)), hrun, hended, rfl, ⟨_, rfl⟩, hW, hframe⟩
  jvm_step X.here [X.here.top, hx, hb, hdg, hmeth', hr, ret, narrow_b1]
  (try refine ⟨rfl, ?_⟩); (try refine ⟨rfl, ?_⟩)
  first | (intro acts; rw [hret _ acts rfl rfl rfl]) | rw [hret _ _ rfl rfl rfl]
  exact Steps.refl _
/-- what holds at the law's entry: the machine, the code, the tables' words (any of lw_tbl by 'hts w (by decide +kernel)'), the script of L ints xs at the cell b, what the Statement gives of the start (any of its parts by flat_of_before) -/
def lw_At (p : Program) (s : State) (m : MethodId) (meth : Method) (c : Code) (b L : Nat) (xs : Nat → Int32) : Prop :=
  p.tables.exec = Jvm.exec ∧ c.code = code ∧ meth.sig.returnType = ret ∧ c.maxLocals = 4 ∧ s.vm.findClass R_law = some m.cls ∧ (∀ w ∈ lw_tbl, w.before #[Value.ref b] s = true) ∧ va_X b L xs s s.heap ∧ b < s.heap.size ∧ meth.locks = false ∧ (Jvm.Cond.and given_1 narrow_1).before #[Value.ref b] s = true
abbrev fw : List Cond := flatC (Jvm.Cond.and given_1 narrow_1)
theorem fw_1 : ∀ i, i < 3 → Cond.arrayOf (.static RX9 (kN i) "[I") .int ∈ fw := by decide +kernel
theorem fw_2 : ∀ i, i < 3 → Cond.eq (.length (.static RX9 (kN i) "[I")) (.int (Int32.ofNat (kX i).length)) ∈ fw := by decide +kernel
theorem fw_3 : ∀ i, i < 3 → ∀ j, j < (kX i).length → Cond.eq (.elem (.static RX9 (kN i) "[I") (.int (Int32.ofNat j))) (.int ((kX i).getD j 0)) ∈ fw := by decide +kernel
theorem in_tb {w : Cond} (i : Nat) (h : tables_1[i]? = some w) : w ∈ lw_tbl := List.mem_append_right _ (List.mem_of_getElem? h)
def fi_4 : List Nat := [683, 656, 658]
theorem fw_4 (i : Nat) (hi : i < 3) : Cond.laysStatic RX9 (kN i) "[I" ∈ lw_tbl := in_tb (fi_4.getD i 0) ((by decide +kernel : ∀ i, i < 3 → tables_1[fi_4.getD i 0]? = some (Cond.laysStatic RX9 (kN i) "[I")) i hi)
theorem fw_5 : ∀ i, i < 13 → Cond.exactly (.string RX7 (kIx.getD i 0)) "java/lang/String" ∈ fw := by decide +kernel
theorem fw_6 : ∀ i, i < 13 → Cond.eq (.field (.string RX7 (kIx.getD i 0)) "java/lang/String" "coder" "B") (.int 0) ∈ fw := by decide +kernel
theorem fw_7 : ∀ i, i < 13 → Cond.arrayOf (.field (.string RX7 (kIx.getD i 0)) "java/lang/String" "value" "[B") .byte ∈ fw := by decide +kernel
theorem fw_8 : ∀ i, i < 13 → Cond.eq (.length (.field (.string RX7 (kIx.getD i 0)) "java/lang/String" "value" "[B")) (.int (Int32.ofNat (kLen.getD i 0))) ∈ fw := by decide +kernel
theorem fw_9 : ∀ i, i < 13 → ∀ j, j < kLen.getD i 0 → Cond.eq (.elem (.field (.string RX7 (kIx.getD i 0)) "java/lang/String" "value" "[B") (.int (Int32.ofNat j))) (.int ((kByt.getD i []).getD j 0)) ∈ fw := by decide +kernel
def fi_10 : List (List Nat) := [[0, 109, 123, 138, 0, 0, 0, 0, 152, 168, 185, 203, 224], [0, 0, 124, 139, 0, 0, 0, 0, 153, 169, 186, 204, 225], [0, 0, 0, 140, 0, 0, 0, 0, 154, 170, 187, 205, 226], [0, 0, 0, 0, 0, 0, 0, 0, 155, 171, 188, 206, 227], [91, 106, 120, 135, 0, 68, 78, 0, 149, 165, 182, 200, 221], [92, 107, 121, 136, 0, 0, 79, 0, 150, 166, 183, 201, 222], [93, 108, 122, 137, 0, 0, 0, 0, 151, 167, 184, 202, 223], [90, 105, 119, 134, 58, 67, 77, 0, 148, 164, 181, 199, 220], [0, 0, 0, 0, 0, 0, 0, 0, 0, 172, 189, 207, 228], [0, 0, 0, 0, 0, 0, 0, 0, 0, 0, 190, 208, 229], [0, 0, 0, 0, 0, 0, 0, 0, 0, 0, 0, 209, 230], [0, 0, 0, 0, 0, 0, 0, 0, 0, 0, 0, 0, 231], [0, 0, 0, 0, 0, 0, 0, 0, 0, 0, 0, 0, 0]]
theorem fq_0 : ∀ j, j < 13 → 0 ≠ j → (fi_10.getD 0 []).getD j 0 ≠ 0 → fw[(fi_10.getD 0 []).getD j 0]? = some (Cond.not (Cond.eq (.string RX7 (kIx.getD 0 0)) (.string RX7 (kIx.getD j 0)))) := by decide +kernel
theorem fq_1 : ∀ j, j < 13 → 1 ≠ j → (fi_10.getD 1 []).getD j 0 ≠ 0 → fw[(fi_10.getD 1 []).getD j 0]? = some (Cond.not (Cond.eq (.string RX7 (kIx.getD 1 0)) (.string RX7 (kIx.getD j 0)))) := by decide +kernel
theorem fq_2 : ∀ j, j < 13 → 2 ≠ j → (fi_10.getD 2 []).getD j 0 ≠ 0 → fw[(fi_10.getD 2 []).getD j 0]? = some (Cond.not (Cond.eq (.string RX7 (kIx.getD 2 0)) (.string RX7 (kIx.getD j 0)))) := by decide +kernel
theorem fq_3 : ∀ j, j < 13 → 3 ≠ j → (fi_10.getD 3 []).getD j 0 ≠ 0 → fw[(fi_10.getD 3 []).getD j 0]? = some (Cond.not (Cond.eq (.string RX7 (kIx.getD 3 0)) (.string RX7 (kIx.getD j 0)))) := by decide +kernel
theorem fq_4 : ∀ j, j < 13 → 4 ≠ j → (fi_10.getD 4 []).getD j 0 ≠ 0 → fw[(fi_10.getD 4 []).getD j 0]? = some (Cond.not (Cond.eq (.string RX7 (kIx.getD 4 0)) (.string RX7 (kIx.getD j 0)))) := by decide +kernel
theorem fq_5 : ∀ j, j < 13 → 5 ≠ j → (fi_10.getD 5 []).getD j 0 ≠ 0 → fw[(fi_10.getD 5 []).getD j 0]? = some (Cond.not (Cond.eq (.string RX7 (kIx.getD 5 0)) (.string RX7 (kIx.getD j 0)))) := by decide +kernel
theorem fq_6 : ∀ j, j < 13 → 6 ≠ j → (fi_10.getD 6 []).getD j 0 ≠ 0 → fw[(fi_10.getD 6 []).getD j 0]? = some (Cond.not (Cond.eq (.string RX7 (kIx.getD 6 0)) (.string RX7 (kIx.getD j 0)))) := by decide +kernel
theorem fq_7 : ∀ j, j < 13 → 7 ≠ j → (fi_10.getD 7 []).getD j 0 ≠ 0 → fw[(fi_10.getD 7 []).getD j 0]? = some (Cond.not (Cond.eq (.string RX7 (kIx.getD 7 0)) (.string RX7 (kIx.getD j 0)))) := by decide +kernel
theorem fq_8 : ∀ j, j < 13 → 8 ≠ j → (fi_10.getD 8 []).getD j 0 ≠ 0 → fw[(fi_10.getD 8 []).getD j 0]? = some (Cond.not (Cond.eq (.string RX7 (kIx.getD 8 0)) (.string RX7 (kIx.getD j 0)))) := by decide +kernel
theorem fq_9 : ∀ j, j < 13 → 9 ≠ j → (fi_10.getD 9 []).getD j 0 ≠ 0 → fw[(fi_10.getD 9 []).getD j 0]? = some (Cond.not (Cond.eq (.string RX7 (kIx.getD 9 0)) (.string RX7 (kIx.getD j 0)))) := by decide +kernel
theorem fq_10 : ∀ j, j < 13 → 10 ≠ j → (fi_10.getD 10 []).getD j 0 ≠ 0 → fw[(fi_10.getD 10 []).getD j 0]? = some (Cond.not (Cond.eq (.string RX7 (kIx.getD 10 0)) (.string RX7 (kIx.getD j 0)))) := by decide +kernel
theorem fq_11 : ∀ j, j < 13 → 11 ≠ j → (fi_10.getD 11 []).getD j 0 ≠ 0 → fw[(fi_10.getD 11 []).getD j 0]? = some (Cond.not (Cond.eq (.string RX7 (kIx.getD 11 0)) (.string RX7 (kIx.getD j 0)))) := by decide +kernel
theorem fq_12 : ∀ j, j < 13 → 12 ≠ j → (fi_10.getD 12 []).getD j 0 ≠ 0 → fw[(fi_10.getD 12 []).getD j 0]? = some (Cond.not (Cond.eq (.string RX7 (kIx.getD 12 0)) (.string RX7 (kIx.getD j 0)))) := by decide +kernel
theorem fq (i j : Nat) (hi : i < 13) (hj : j < 13) (hn : i ≠ j) (h0 : (fi_10.getD i []).getD j 0 ≠ 0) : Cond.not (Cond.eq (.string RX7 (kIx.getD i 0)) (.string RX7 (kIx.getD j 0))) ∈ fw := by
  match i, hi with
  | 0, _ => exact List.mem_of_getElem? (fq_0 j hj hn h0)
  | 1, _ => exact List.mem_of_getElem? (fq_1 j hj hn h0)
  | 2, _ => exact List.mem_of_getElem? (fq_2 j hj hn h0)
  | 3, _ => exact List.mem_of_getElem? (fq_3 j hj hn h0)
  | 4, _ => exact List.mem_of_getElem? (fq_4 j hj hn h0)
  | 5, _ => exact List.mem_of_getElem? (fq_5 j hj hn h0)
  | 6, _ => exact List.mem_of_getElem? (fq_6 j hj hn h0)
  | 7, _ => exact List.mem_of_getElem? (fq_7 j hj hn h0)
  | 8, _ => exact List.mem_of_getElem? (fq_8 j hj hn h0)
  | 9, _ => exact List.mem_of_getElem? (fq_9 j hj hn h0)
  | 10, _ => exact List.mem_of_getElem? (fq_10 j hj hn h0)
  | 11, _ => exact List.mem_of_getElem? (fq_11 j hj hn h0)
  | 12, _ => exact List.mem_of_getElem? (fq_12 j hj hn h0)
  | i + 13, h => exact absurd h (by omega)
theorem fr : ∀ i, i < 13 → ∀ j, j < 13 → i ≠ j → (fi_10.getD i []).getD j 0 ≠ 0 ∨ (fi_10.getD j []).getD i 0 ≠ 0 := by decide
theorem fw_10 (i : Nat) (hi : i < 13) (j : Nat) (hj : j < 13) (hn : i ≠ j) : Cond.not (Cond.eq (.string RX7 (kIx.getD i 0)) (.string RX7 (kIx.getD j 0))) ∈ fw ∨ Cond.not (Cond.eq (.string RX7 (kIx.getD j 0)) (.string RX7 (kIx.getD i 0))) ∈ fw := (fr i hi j hj hn).imp (fq i j hi hj hn) (fq j i hj hi (fun q => hn q.symm))
def fi_11 : List Nat := [635, 636, 637, 638, 624, 625, 626, 555, 650, 660, 661, 662, 663]
theorem fw_11 (i : Nat) (hi : i < 13) : Cond.stringRef RX7 (kIx.getD i 0) (kTx.getD i "") ∈ lw_tbl := in_tb (fi_11.getD i 0) ((by decide +kernel : ∀ i, i < 13 → tables_1[fi_11.getD i 0]? = some (Cond.stringRef RX7 (kIx.getD i 0) (kTx.getD i ""))) i hi)
theorem fw_12 : ∀ i, i < 13 → kLen.getD i 0 < 2 ^ 31 := by decide +kernel
theorem fw_13 : ∀ (k : Nat) (c : vw_C), vwCl[k]? = some c → Cond.instantiable c.1 c.2.2 ∈ lw_tbl := by
  intro k c h
  match k, h with
  | 0, h => cases h; exact (List.mem_filter.mp tw_220).1
  | 1, h => cases h; exact (List.mem_filter.mp tw_323).1
  | 2, h => cases h; exact (List.mem_filter.mp tw_46).1
  | 3, h => cases h; exact (List.mem_filter.mp tw_28).1
  | 4, h => cases h; exact (List.mem_filter.mp tw_297).1
  | 5, h => cases h; exact (List.mem_filter.mp tw_179).1
  | 6, h => cases h; exact (List.mem_filter.mp tw_79).1
  | 7, h => cases h; exact (List.mem_filter.mp tw_139).1
  | 8, h => cases h; exact (List.mem_filter.mp tw_113).1
  | 9, h => cases h; exact (List.mem_filter.mp tw_20).1
  | 10, h => cases h; exact (List.mem_filter.mp tw_859).1
  | k + 11, h => simp [vwCl] at h
def tmK (i : Nat) : Term := .string RX7 (kIx.getD i 0)
set_option maxHeartbeats 4000000 in
/-- from the entry, for every script of at most 3072 ints, the law comes to its end with true -/
theorem whole_start {p : Program} {e : Env} {s : State} {m : MethodId} {below : List Frame} {meth : Method} {c : Code} (l : Launch) {b L : Nat} {xs : Nat → Int32} (hL : L ≤ 3072) (hnm : meth.name = x.name) (C0 : lw_At p s m meth c b L xs) : W p l e room_1 s m #[Value.ref b] below meth c s.heap [] 0 0 (lw_Z below #[Value.ref b] s) (entryFrame m ([Value.ref b] : List Value).toArray 4) := by
  obtain ⟨hx, hb, hr, hml, hown, hts, hX, hbl, hlocks, hgv⟩ := id C0
  have hok : ∀ w ∈ lw_ok, w.before #[Value.ref b] s = true := fun w hw => hts w (List.mem_filter.mp hw).1
  have hs := flat_of_before _ hgv
  have hA : ∀ a : Nat, a < s.heap.size → ¬ (fun q : Nat => s.heap.size ≤ q) a := fun a h => Nat.not_le.mpr h
  have hcl : ∀ k : Nat, ∃ q : ClassId × (Nat → Nat), ∀ c : vw_C, vwCl[k]? = some c → u_Kn s c.1 c.2.1 c.2.2 q.1 q.2 := by
    intro k
    cases hc : vwCl[k]? with
    | none => exact ⟨((0 : Nat), fun _ => 0), fun c h => by cases h⟩
    | some c =>
      obtain ⟨C, T, N⟩ := c
      obtain ⟨cC, iS, h⟩ := u_known hok (clOk hc).1 (hts _ (fw_13 k _ hc))
      exact ⟨(cC, iS), fun c h' => by cases h'; exact h⟩
  obtain ⟨D, hD⟩ := Classical.axiomOfChoice hcl
  obtain ⟨cI, kI, pI', hI1, hI2, hI3⟩ := Cond.arrayClass_spec (args := #[Value.ref b]) (first := s) (o := none) (s := s) (idx := []) (type := .int) (hts (.arrayClass .int) (in_tb 44 (by decide +kernel)))
  obtain ⟨cZ, kZ, pZ', hZ1, hZ2, hZ3⟩ := Cond.arrayClass_spec (args := #[Value.ref b]) (first := s) (o := none) (s := s) (idx := []) (type := .boolean) (hts (.arrayClass .boolean) (in_tb 295 (by decide +kernel)))
  have hst : ∀ i : Nat, ∃ t : Nat, i < 3 → va_Z RX9 (kN i) "[I" (.ref t) (fun q : Nat => s.heap.size ≤ q) s s.heap ∧ va_T .int t (kX i).length (fun j => .int ((kX i).getD j 0)) (fun q : Nat => s.heap.size ≤ q) s s.heap := by
    intro i
    by_cases hi : i < 3
    · obtain ⟨t, h1, h2⟩ := va_Tof (f := fun j => .int ((kX i).getD j 0)) (A := fun q : Nat => s.heap.size ≤ q) (N := (kX i).length) ((by decide : ∀ i, i < 3 → (kX i).length < 2 ^ 31) i hi) (hs _ (fw_1 i hi)) (va_eqt (hs _ (fw_2 i hi))) (fun j hj => va_eqt (hs _ (fw_3 i hi j hj))) hA
      exact ⟨t, fun _ => ⟨va_Zof (hts _ (fw_4 i hi)) (hok (.initialized RX9) tw_1) h1 hA, h2⟩⟩
    · exact ⟨0, fun h => absurd h hi⟩
  obtain ⟨tS, hS3⟩ := Classical.axiomOfChoice hst
  obtain ⟨adK, adV, hV, hE⟩ := vk_Sof (N := 13) (tm := fun i => .string RX7 (kIx.getD i 0)) (len := kLen) (byt := kByt) (A := fun q : Nat => s.heap.size ≤ q) fw_12 (fun i hi => hs _ (fw_5 i hi)) (fun i hi => hs _ (fw_6 i hi)) (fun i hi => hs _ (fw_7 i hi)) (fun i hi => hs _ (fw_8 i hi)) (fun i hi j hj => hs _ (fw_9 i hi j hj)) (fun i j hi hj hn => (fw_10 i hi j hj hn).imp (hs _) (hs _)) hA
  obtain ⟨mp, hmp⟩ : ∃ mp : Nat → Nat, mp = fun k => if k < 100 then adK k else if k < 200 then adV (k - 100) else if k < 300 then tS (k - 200) else b := ⟨_, rfl⟩
  have eK : ∀ i, i < 13 → mp i = adK i := fun i hi => by rw [hmp]; exact if_pos (by omega)
  have eV : ∀ i, i < 13 → mp (100 + i) = adV i := fun i hi => by
    rw [hmp]
    show (if 100 + i < 100 then adK (100 + i) else if 100 + i < 200 then adV (100 + i - 100) else if 100 + i < 300 then tS (100 + i - 200) else b) = adV i
    rw [if_neg (by omega), if_pos (by omega), Nat.add_sub_cancel_left]
  have eS : ∀ i, i < 3 → mp (200 + i) = tS i := fun i hi => by
    rw [hmp]
    show (if 200 + i < 100 then adK (200 + i) else if 200 + i < 200 then adV (200 + i - 100) else if 200 + i < 300 then tS (200 + i - 200) else b) = tS i
    rw [if_neg (by omega), if_neg (by omega), if_pos (by omega), Nat.add_sub_cancel_left]
  have eB : mp 300 = b := by rw [hmp]; rfl
  clear hmp
  obtain ⟨g, hg⟩ : ∃ g : xG, g = ((fun k => (D k).1, fun k => (D k).2), cI, cZ, s.heap.size, mp) := ⟨_, rfl⟩
  have hg1 : g.2.2.2.1 = s.heap.size := by rw [hg]
  have hgR : gR g = fun q : Nat => s.heap.size ≤ q := by rw [hg]; rfl
  have hgm : g.2.2.2.2 = mp := by rw [hg]
  have hgB : gA g 1300 = b := by
    unfold gA
    rw [if_neg (by omega), hgm]
    exact eB
  have hK : va_K g.1 vwCl (gT g) s := by
    rw [hg]
    refine ⟨fun c q h => hD c q h, fun k q h => ?_⟩
    match k, h with
    | 0, h => cases h; exact ⟨fun n z => ⟨fun k h => (by cases h), kI, hI2, pI', hI3⟩, hI1⟩
    | 1, h => cases h; exact ⟨fun n z => ⟨fun k h => (by cases h), kZ, hZ2, pZ', hZ3⟩, hZ1⟩
    | k + 2, h => cases h
  have hG : gK g s s.heap := by
    refine ⟨fun i hi => ?_, ?_, ⟨fun i hi => ?_, fun i j hi hj q => ?_⟩, fun i hi => ?_, ?_, fun w hw hn => va_Nw.of (nestW_tab hn) (hts w hw)⟩
    · rw [hgR, hgm, eS i hi]
      exact hS3 i hi
    · rw [hgR]
      exact va_Zof (hts (.laysStatic "java/lang/String" "COMPACT_STRINGS" "Z") (in_tb 569 (by decide +kernel))) (hok _ tw_15) (va_eqt (hs (.eq (.static "java/lang/String" "COMPACT_STRINGS" "Z") (.int 1)) (by decide +kernel))) hA
    · have q := hV.1 i hi
      simp only [hgR, hgm, eK i hi, eV i hi]
      exact q
    · simp only [hgm] at q
      rw [eK i hi, eK j hj] at q
      exact hV.2 i j hi hj q
    · rw [hgm, eK i hi]
      exact vk_R.of (hts _ (fw_11 i hi)) (hE i hi)
    · rw [hgR]
      exact va_Zqof (hts (.laysStatic "jdk/internal/util/Preconditions" "SIOOBE_FORMATTER" "Ljava/util/function/BiFunction;") (in_tb 585 (by decide +kernel))) (hok _ tw_17) (hs (.isRef (.static "jdk/internal/util/Preconditions" "SIOOBE_FORMATTER" "Ljava/util/function/BiFunction;")) (by decide +kernel)) hA
  have hC : Cx (mL_law L xs) p s m #[Value.ref b] meth c g := by
    refine ⟨hx, hb, hml, hown, hok, hr, hlocks, hnm, hK, hG, by rw [hg1]; exact Nat.le_refl _, fun n f h => ?_⟩
    cases h
    rw [hgB, hgR]
    exact ⟨hX, hbl, hA b hbl⟩
  have hent := lv_entry ([.ref b]) (n := 4) (Nat.le_of_ble_eq_true rfl)
  rw [lg_entry_eq]
  generalize (lg_sl ([.ref b]) ++ List.replicate (4 - (lg_sl ([.ref b])).length) Slot.unset).toArray = sl at hent ⊢
  have hent : lv_has sl 4 [(0, .ref b)] := hent
  refine law_ok (n := L) (xs := xs) hL (fun _ _ => .null) (fun _ _ => 0) p l e s m #[Value.ref b] below meth c g (lw_Z below #[Value.ref b] s) s.heap [] sl hC ?_ ⟨by rw [hg1]; rfl, Nat.zero_le _, fun k q h => by cases h⟩ ⟨Nat.le_refl _, fun _ _ _ => rfl, fun q hq => absurd hq List.not_mem_nil⟩ ⟨hent.1, hent.2.1, Nat.le_refl _, fun i v hv => ?_⟩
  · rintro pc sl r L' F A H locs ⟨x, S, rfl, hL0, hSr, hx1⟩ hH hS hr'
    have hx1 : x = 1 := hx1
    subst hx1
    rcases hr' with ⟨v, hv, hd, -⟩ | ⟨hv, -, -⟩
    · refine va_forget (fun q hq => ?_) (lw_ret hx hb hr hlocks hd)
      have := hS.2.2 q hq
      rw [hgR] at this
      exact this
    · cases hv
  · match i, hv with
    | 0, hv =>
      cases hv
      show sl[0]? = some (.val (.ref (gA g 1300)))
      rw [hgB]
      exact hent.2.2 (0, .ref b) List.mem_cons_self
    | 1, hv => cases hv
    | 2, hv => cases hv
    | 3, hv => cases hv
    | i + 4, hv => cases hv
set_option maxHeartbeats 4000000 in
theorem lw_walk (l : Launch) (b : Addr) (xs : List Int32) : MetFree l x (headSpec (Jvm.Cond.code x code maxLocals ret :: tables_1) room_1) (lw_P b xs) (fun _ _ _ _ _ => True) lw_Q := by
  refine MetFree.of_bodyS (code := code) (maxLocals := maxLocals) (ret := ret) (by decide) ?_ ?_
  · intro args s m h hn
    obtain ⟨meth, c, h1, h2, h3, h4, h5, h6, -, -⟩ := Cond.code_spec hn (atoms_spec (ws := Jvm.Cond.code x code maxLocals ret :: tables_1) h _ List.mem_cons_self)
    exact ⟨meth, c, h1, h2, h3, h4, h5, h6⟩
  · intro p e s m args below meth c s₁ B hml0 hP _
    obtain ⟨rfl, hx, hbd, hgv⟩ := hP
    obtain ⟨scr, harrAt, hlist, hof, hsmall⟩ := hx
    obtain ⟨hcb, hkn, -, -⟩ := State.arrayAt?_spec harrAt
    have hown : s.vm.findClass R_law = some m.cls := findClass_of_methodNamed B.named
    have hts0 : ∀ c ∈ (Jvm.Cond.code x code maxLocals ret :: tables_1), c.before #[Value.ref b] s = true := atoms_spec (ws := Jvm.Cond.code x code maxLocals ret :: tables_1) B.pre
    have hts : ∀ w ∈ lw_tbl, w.before #[Value.ref b] s = true := k2_hts_sels lw_privs (fun w hw => hts0 w (List.mem_cons_of_mem _ hw)) lw_privs_ok
    have hml : c.maxLocals = 4 := B.maxLocals_eq (hts0 _ List.mem_cons_self)
    have X₀ : Stand p l e room_1 s m #[Value.ref b] below meth c s₁ [] 0 0 := Stand.of_body B
    have hh0 : s₁.heap = s.heap := by rw [B.state]; rfl
    have hsz : scr.slots.size = xs.length := by rw [← Array.length_toList, hlist, List.length_map]
    have hval : ∀ j : Nat, j < xs.length → scr.slots[j]? = some (.int (xs.getD j 0)) := fun j hj => by
      rw [← Array.getElem?_toList, hlist]
      simp [hj]
    have hbl : b < s.heap.size := (Array.getElem?_eq_some_iff.mp hcb).1
    have hX : va_X b xs.length (fun j => xs.getD j 0) s s.heap := ⟨scr, hcb, hof, hkn, hsz, hval⟩
    have K : W p l e room_1 s m #[Value.ref b] below meth c s₁.heap [] 0 0 (lw_Z below #[Value.ref b] s) (entryFrame m ([Value.ref b] : List Value).toArray 4) := by
      rw [hh0]
      exact whole_start l hbd (name_of_methodNamed B.named B.method).1 ⟨B.exec, B.bytes, B.returns, hml, hown, hts, hX, hbl, B.notSynchronized, hgv⟩
    obtain ⟨t, a1, o, b1, b2, b3⟩ := K s₁ rfl X₀
    exact ⟨t, o, a1, b1, b2, b3⟩
theorem lw_pre_spec {args : Array Value} {s : State} (h : (Jvm.Cond.and given_1 narrow_1).before args s = true) (hr : rest_1_c.before args s = true) : ∃ (b : Addr) (xs : List Int32), lw_P b xs args s := by
  have hs := flat_of_before _ h
  have hq := flat_of_before _ hr
  have hc : (Cond.count 1).before args s = true := hs _ (by decide +kernel)
  have harr : (Cond.arrayOf (.arg 0) .int).before args s = true := hs _ (by decide +kernel)
  have hle : (Cond.le (.length (.arg 0)) (.int 3072)).before args s = true := hs _ (by decide +kernel)
  have hlen : (Cond.isInt (.length (.arg 0))).before args s = true := hq _ (by decide +kernel)
  have hall : (Cond.all (.arg 0) (.isInt (.elem (.arg 0) (.index 0)))).before args s = true := hq _ (by decide +kernel)
  obtain ⟨b, xs, hb, hx⟩ := State.ints_of_pre rfl harr hlen hall
  have hsm : xs.length < 2 ^ 31 := hx.choose_spec.2.2.2
  have hev : (Term.length (.arg 0)).eval args s none [] s = some (.int xs.length.toInt32) := hx.length_eval hb
  have hv := Cond.le_ints hev (show (Term.int 3072).eval args s none [] s = some (.int 3072) from rfl)
  have hd : xs.length.toInt32 ≤ 3072 := by
    simpa [Cond.before, Cond.holds, hv] using hle
  have hN : xs.length ≤ 3072 := (Int32.ofNat_le_ofNat hsm (by decide)).mp (show Int32.ofNat xs.length ≤ Int32.ofNat 3072 from hd)
  exact ⟨b, xs, Cond.one_arg hc (show args[0]? = some (.ref b) from hb), hx, hN, h⟩
theorem lw_comes (l : Launch) : Comes l x (Jvm.Cond.code x code maxLocals ret :: tables_1) room_1 (fun tb e args s => Calls_1 tb e args s ∧ rest_1 tb e args s ∧ Pre_1 tb e args s)
    (fun _ _ args s o t => lw_Q args s o t) := by
  intro p e ha hc hk s m args below hf hfit hheap happ hpre
  obtain ⟨b, xs, hP⟩ := lw_pre_spec hpre.2.2 hpre.2.1
  obtain ⟨k, o, h1, h2, h3, hQ⟩ := lw_walk l b xs p e ha hc hk s m args below hf ((Spec.applies_iff_loose hf).mp happ).1 hP trivial
  exact ⟨k, o, h1, h2, h3, hQ⟩
theorem lw_frame {s t : State} {o : Outcome} {args : Array Value} (h : Framed s o t [] 114 15089) :
    Framed s o t (fieldLocs frame_1_writes args s ++ arrayLocs frame_1_arrays args s ++ staticLocs frame_1_statics s) 114 15089 := h
theorem lw_limb (L : Cond) (hL : ∀ (args : Array Value) (s t : State), L.after args s (.returned (some (.int 1))) t = true) :
    ArmFor flags0 classFile x code maxLocals ret World_1 tables_1 room_1 Calls_1 rest_1 Pre_1
      (fun tb e a s o t => postC L tb e a s o t ∧ Framed s o t (fieldLocs frame_1_writes a s ++ arrayLocs frame_1_arrays a s ++ staticLocs frame_1_statics s) 114 15089) := by
  intro l _ _ _ p e ha hc hk s m args below hf hfit hheap happ hpre
  obtain ⟨k, o, h1, h2, h3, rfl, hF⟩ := lw_comes l p e ha hc hk s m args below hf hfit hheap happ hpre
  exact ⟨k, _, h1, h2, h3, hL args s _, lw_frame hF⟩
theorem i_vc : Claimed_1_1 ∧ Claimed_1_2 := ⟨lw_limb limb_1_1 (fun args s t => by simp [limb_1_1, Cond.after, Cond.holds, Cond.value]), lw_limb limb_1_2 (fun args s t => Cond.after_iff.mpr (by
  first | (rw [show limb_1_2 = Cond.eq .result (.int 1) from rfl, Cond.eq_ints (x := 1) (y := 1) rfl rfl]; simp; done) | (simp [limb_1_2, Cond.value, Term.eval]; done)))⟩
