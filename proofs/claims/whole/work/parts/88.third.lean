-- the second walk of a method whose room is used up: the law's, behind the constructors
def Ok3 (M : xM) (pc : Nat) (ls : xS) (st : List Value) (S : xA) (fi : xP) (fv : xA → Prop) : Prop := ∀ (F : xF) (A : xA), Sr F A S → Ok M pc ls st (mC M) (mS M) L0 F A (Qm M fi fv)
def k3 (M : xM) (k : xW) : xK := fun pc ls st c z L F A => c = mC M ∧ z = mS M ∧ L = L0 ∧ ∃ S, Sr F A S ∧ k pc ls st S
section S3
variable {M : xM} {o : Nat} {k : xW} {fi : xP} {fv : xA → Prop} {pc len : Nat} {ls : xS} {st : List Value} {S A : xA} {F : xF}
theorem k3_i (hs : Sr F A S) (h : k pc ls st S) : k3 M k pc ls st (mC M) (mS M) L0 F A := ⟨rfl, rfl, rfl, S, hs, h⟩
theorem sC3_ok {sp : Nat} {q : Option (Nat × Nat × xM)} (hs : Sr F A S) (h : sC2 M k sp pc ls st S q) : sCl M (k3 M k) sp pc ls st (mC M) (mS M) L0 F A q := by
  unfold sC2 at h
  split at h
  · next kd n T =>
    obtain ⟨⟨h1, h2, h3⟩, h⟩ := h
    have key : ∀ (as r : List Value), (match mT T with
      | some _ => CI T as S fun x S => k (pc + 3) ls (.int x :: r) S
      | none => CV T as S fun S => k (pc + 3) ls r S) → CallOk T as L0 F A fun v L F A => k3 M k (pc + 3) ls (v.toList ++ r) (mC M + mC T) (mS M + mS T) L F A := by
      intro as r hq
      rw [h2, h3, Nat.add_zero, Nat.add_zero]
      split at hq
      · refine call_mono hs ?_ hq
        rintro v L F A ⟨x, S', rfl, rfl, hs', hk⟩
        exact k3_i hs' hk
      · refine call_mono hs ?_ hq
        rintro v L F A ⟨S', rfl, rfl, hs', hk⟩
        exact k3_i hs' hk
    refine ⟨h1, by rw [h2]; exact Nat.le_refl _, by rw [h3]; exact Nat.le_refl _, ?_⟩
    match kd, h with
    | 0, h' =>
      obtain ⟨e0, g2⟩ := h'
      obtain ⟨g3, g4, g5, g6⟩ := g2
      exact ⟨e0, g3, g4, g5, key _ _ g6⟩
    | 1, h' =>
      obtain ⟨e0, g2⟩ := h'
      obtain ⟨g3, g4, g6⟩ := g2
      exact ⟨e0, g3, g4, key _ _ g6⟩
    | 2, h' => exact h'.elim
    | 3, h' =>
      obtain ⟨e0, g2⟩ := h'
      obtain ⟨g3, g4, g5, g6⟩ := g2
      exact ⟨e0, g3, g4, g5, key _ _ g6⟩
    | 4, h' =>
      obtain ⟨e0, g2⟩ := h'
      obtain ⟨g3, g4, g6⟩ := g2
      exact ⟨e0, g3, g4, key _ _ g6⟩
    | 5, h' => exact h'.elim
    | 6, h' =>
      obtain ⟨e0, g2⟩ := h'
      obtain ⟨g3, g4, g5, g6⟩ := g2
      exact ⟨e0, g3, g4, g5, key _ _ g6⟩
    | q + 7, h' => exact h'.elim
  · exact h.elim
theorem z3_iadd (hs : Sr F A S) (h : s2 M o k fi fv (.iadd) len pc ls st S) : sop M o (k3 M k) (Qm M fi fv) (.iadd) len pc ls st (mC M) (mS M) L0 F A := by
  obtain ⟨rfl, h⟩ := h
  obtain ⟨x, y, r, rfl, h⟩ := pII_ok h
  exact ⟨rfl, k3_i hs h⟩
theorem z3_isub (hs : Sr F A S) (h : s2 M o k fi fv (.isub) len pc ls st S) : sop M o (k3 M k) (Qm M fi fv) (.isub) len pc ls st (mC M) (mS M) L0 F A := by
  obtain ⟨rfl, h⟩ := h
  obtain ⟨x, y, r, rfl, h⟩ := pII_ok h
  exact ⟨rfl, k3_i hs h⟩
theorem z3_imul (hs : Sr F A S) (h : s2 M o k fi fv (.imul) len pc ls st S) : sop M o (k3 M k) (Qm M fi fv) (.imul) len pc ls st (mC M) (mS M) L0 F A := by
  obtain ⟨rfl, h⟩ := h
  obtain ⟨x, y, r, rfl, h⟩ := pII_ok h
  exact ⟨rfl, k3_i hs h⟩
theorem z3_iand (hs : Sr F A S) (h : s2 M o k fi fv (.iand) len pc ls st S) : sop M o (k3 M k) (Qm M fi fv) (.iand) len pc ls st (mC M) (mS M) L0 F A := by
  obtain ⟨rfl, h⟩ := h
  obtain ⟨x, y, r, rfl, h⟩ := pII_ok h
  exact ⟨rfl, k3_i hs h⟩
theorem z3_ior (hs : Sr F A S) (h : s2 M o k fi fv (.ior) len pc ls st S) : sop M o (k3 M k) (Qm M fi fv) (.ior) len pc ls st (mC M) (mS M) L0 F A := by
  obtain ⟨rfl, h⟩ := h
  obtain ⟨x, y, r, rfl, h⟩ := pII_ok h
  exact ⟨rfl, k3_i hs h⟩
theorem z3_ixor (hs : Sr F A S) (h : s2 M o k fi fv (.ixor) len pc ls st S) : sop M o (k3 M k) (Qm M fi fv) (.ixor) len pc ls st (mC M) (mS M) L0 F A := by
  obtain ⟨rfl, h⟩ := h
  obtain ⟨x, y, r, rfl, h⟩ := pII_ok h
  exact ⟨rfl, k3_i hs h⟩
theorem z3_ishl (hs : Sr F A S) (h : s2 M o k fi fv (.ishl) len pc ls st S) : sop M o (k3 M k) (Qm M fi fv) (.ishl) len pc ls st (mC M) (mS M) L0 F A := by
  obtain ⟨rfl, h⟩ := h
  obtain ⟨x, y, r, rfl, h⟩ := pII_ok h
  exact ⟨rfl, k3_i hs h⟩
theorem z3_ishr (hs : Sr F A S) (h : s2 M o k fi fv (.ishr) len pc ls st S) : sop M o (k3 M k) (Qm M fi fv) (.ishr) len pc ls st (mC M) (mS M) L0 F A := by
  obtain ⟨rfl, h⟩ := h
  obtain ⟨x, y, r, rfl, h⟩ := pII_ok h
  exact ⟨rfl, k3_i hs h⟩
theorem z3_idiv (hs : Sr F A S) (h : s2 M o k fi fv (.idiv) len pc ls st S) : sop M o (k3 M k) (Qm M fi fv) (.idiv) len pc ls st (mC M) (mS M) L0 F A := by
  obtain ⟨rfl, h⟩ := h
  obtain ⟨x, y, r, rfl, h⟩ := pII_ok h
  exact ⟨rfl, h.1, k3_i hs h.2⟩
theorem z3_irem (hs : Sr F A S) (h : s2 M o k fi fv (.irem) len pc ls st S) : sop M o (k3 M k) (Qm M fi fv) (.irem) len pc ls st (mC M) (mS M) L0 F A := by
  obtain ⟨rfl, h⟩ := h
  obtain ⟨x, y, r, rfl, h⟩ := pII_ok h
  exact ⟨rfl, h.1, k3_i hs h.2⟩
theorem z3_ladd (hs : Sr F A S) (h : s2 M o k fi fv (.ladd) len pc ls st S) : sop M o (k3 M k) (Qm M fi fv) (.ladd) len pc ls st (mC M) (mS M) L0 F A := by
  obtain ⟨rfl, h⟩ := h
  obtain ⟨x, y, r, rfl, h⟩ := pJJ_ok h
  exact ⟨rfl, k3_i hs h⟩
theorem z3_lmul (hs : Sr F A S) (h : s2 M o k fi fv (.lmul) len pc ls st S) : sop M o (k3 M k) (Qm M fi fv) (.lmul) len pc ls st (mC M) (mS M) L0 F A := by
  obtain ⟨rfl, h⟩ := h
  obtain ⟨x, y, r, rfl, h⟩ := pJJ_ok h
  exact ⟨rfl, k3_i hs h⟩
theorem z3_land (hs : Sr F A S) (h : s2 M o k fi fv (.land) len pc ls st S) : sop M o (k3 M k) (Qm M fi fv) (.land) len pc ls st (mC M) (mS M) L0 F A := by
  obtain ⟨rfl, h⟩ := h
  obtain ⟨x, y, r, rfl, h⟩ := pJJ_ok h
  exact ⟨rfl, k3_i hs h⟩
theorem z3_lor (hs : Sr F A S) (h : s2 M o k fi fv (.lor) len pc ls st S) : sop M o (k3 M k) (Qm M fi fv) (.lor) len pc ls st (mC M) (mS M) L0 F A := by
  obtain ⟨rfl, h⟩ := h
  obtain ⟨x, y, r, rfl, h⟩ := pJJ_ok h
  exact ⟨rfl, k3_i hs h⟩
theorem z3_lcmp (hs : Sr F A S) (h : s2 M o k fi fv (.lcmp) len pc ls st S) : sop M o (k3 M k) (Qm M fi fv) (.lcmp) len pc ls st (mC M) (mS M) L0 F A := by
  obtain ⟨rfl, h⟩ := h
  obtain ⟨x, y, r, rfl, h⟩ := pJJ_ok h
  exact ⟨rfl, k3_i hs h⟩
theorem z3_ldiv (hs : Sr F A S) (h : s2 M o k fi fv (.ldiv) len pc ls st S) : sop M o (k3 M k) (Qm M fi fv) (.ldiv) len pc ls st (mC M) (mS M) L0 F A := by
  obtain ⟨rfl, h⟩ := h
  obtain ⟨x, y, r, rfl, h⟩ := pJJ_ok h
  exact ⟨rfl, h.1, k3_i hs h.2⟩
theorem z3_lshl (hs : Sr F A S) (h : s2 M o k fi fv (.lshl) len pc ls st S) : sop M o (k3 M k) (Qm M fi fv) (.lshl) len pc ls st (mC M) (mS M) L0 F A := by
  obtain ⟨rfl, h⟩ := h
  obtain ⟨x, y, r, rfl, h⟩ := pIJ_ok h
  exact ⟨rfl, k3_i hs h⟩
theorem z3_lshr (hs : Sr F A S) (h : s2 M o k fi fv (.lshr) len pc ls st S) : sop M o (k3 M k) (Qm M fi fv) (.lshr) len pc ls st (mC M) (mS M) L0 F A := by
  obtain ⟨rfl, h⟩ := h
  obtain ⟨x, y, r, rfl, h⟩ := pIJ_ok h
  exact ⟨rfl, k3_i hs h⟩
theorem z3_i2l (hs : Sr F A S) (h : s2 M o k fi fv (.i2l) len pc ls st S) : sop M o (k3 M k) (Qm M fi fv) (.i2l) len pc ls st (mC M) (mS M) L0 F A := by
  obtain ⟨rfl, h⟩ := h
  obtain ⟨x, r, rfl, h⟩ := pI_ok h
  exact ⟨rfl, k3_i hs h⟩
theorem z3_i2c (hs : Sr F A S) (h : s2 M o k fi fv (.i2c) len pc ls st S) : sop M o (k3 M k) (Qm M fi fv) (.i2c) len pc ls st (mC M) (mS M) L0 F A := by
  obtain ⟨rfl, h⟩ := h
  obtain ⟨x, r, rfl, h⟩ := pI_ok h
  exact ⟨rfl, k3_i hs h⟩
theorem z3_l2i (hs : Sr F A S) (h : s2 M o k fi fv (.l2i) len pc ls st S) : sop M o (k3 M k) (Qm M fi fv) (.l2i) len pc ls st (mC M) (mS M) L0 F A := by
  obtain ⟨rfl, h⟩ := h
  obtain ⟨x, r, rfl, h⟩ := pJ_ok h
  exact ⟨rfl, k3_i hs h⟩
theorem z3_dup (hs : Sr F A S) (h : s2 M o k fi fv (.dup) len pc ls st S) : sop M o (k3 M k) (Qm M fi fv) (.dup) len pc ls st (mC M) (mS M) L0 F A := by
  obtain ⟨rfl, h⟩ := h
  obtain ⟨v, r, rfl, h⟩ := pV_ok h
  exact ⟨rfl, h.1, k3_i hs h.2⟩
theorem z3_pop (hs : Sr F A S) (h : s2 M o k fi fv (.pop) len pc ls st S) : sop M o (k3 M k) (Qm M fi fv) (.pop) len pc ls st (mC M) (mS M) L0 F A := by
  obtain ⟨rfl, h⟩ := h
  obtain ⟨v, r, rfl, h⟩ := pV_ok h
  exact ⟨rfl, h.1, k3_i hs h.2⟩
theorem z3_dup_x1 (hs : Sr F A S) (h : s2 M o k fi fv (.dup_x1) len pc ls st S) : sop M o (k3 M k) (Qm M fi fv) (.dup_x1) len pc ls st (mC M) (mS M) L0 F A := by
  obtain ⟨rfl, h⟩ := h
  obtain ⟨v, w, r, rfl, h⟩ := pVV_ok h
  exact ⟨rfl, h.1, h.2.1, k3_i hs h.2.2⟩
theorem z3_dup2 (hs : Sr F A S) (h : s2 M o k fi fv (.dup2) len pc ls st S) : sop M o (k3 M k) (Qm M fi fv) (.dup2) len pc ls st (mC M) (mS M) L0 F A := by
  obtain ⟨rfl, h⟩ := h
  obtain ⟨v, w, r, rfl, h⟩ := pVV_ok h
  exact ⟨rfl, h.1, h.2.1, k3_i hs h.2.2⟩
theorem z3_iconst {n : Int} (hs : Sr F A S) (h : s2 M o k fi fv (.iconst n) len pc ls st S) : sop M o (k3 M k) (Qm M fi fv) (.iconst n) len pc ls st (mC M) (mS M) L0 F A := by
  exact ⟨h.1, k3_i hs h.2⟩
theorem z3_bipush {n : Int} (hs : Sr F A S) (h : s2 M o k fi fv (.bipush n) len pc ls st S) : sop M o (k3 M k) (Qm M fi fv) (.bipush n) len pc ls st (mC M) (mS M) L0 F A := by
  exact ⟨h.1, k3_i hs h.2⟩
theorem z3_sipush {n : Int} (hs : Sr F A S) (h : s2 M o k fi fv (.sipush n) len pc ls st S) : sop M o (k3 M k) (Qm M fi fv) (.sipush n) len pc ls st (mC M) (mS M) L0 F A := by
  exact ⟨h.1, k3_i hs h.2⟩
theorem z3_lconst {n : Fin 2} (hs : Sr F A S) (h : s2 M o k fi fv (.lconst n) len pc ls st S) : sop M o (k3 M k) (Qm M fi fv) (.lconst n) len pc ls st (mC M) (mS M) L0 F A := by
  exact ⟨h.1, k3_i hs h.2⟩
theorem z3_iload {i : Nat} (hs : Sr F A S) (h : s2 M o k fi fv (.iload i) len pc ls st S) : sop M o (k3 M k) (Qm M fi fv) (.iload i) len pc ls st (mC M) (mS M) L0 F A := by
  obtain ⟨rfl, h⟩ := h
  obtain ⟨x, hx, h⟩ := lI_ok h
  exact ⟨rfl, lI_mk hx (k3_i hs h)⟩
theorem z3_iload_n {i : Fin 4} (hs : Sr F A S) (h : s2 M o k fi fv (.iload_n i) len pc ls st S) : sop M o (k3 M k) (Qm M fi fv) (.iload_n i) len pc ls st (mC M) (mS M) L0 F A := by
  obtain ⟨rfl, h⟩ := h
  obtain ⟨x, hx, h⟩ := lI_ok h
  exact ⟨rfl, lI_mk hx (k3_i hs h)⟩
theorem z3_lload {i : Nat} (hs : Sr F A S) (h : s2 M o k fi fv (.lload i) len pc ls st S) : sop M o (k3 M k) (Qm M fi fv) (.lload i) len pc ls st (mC M) (mS M) L0 F A := by
  obtain ⟨rfl, h⟩ := h
  obtain ⟨x, hx, h⟩ := lJ_ok h
  exact ⟨rfl, lJ_mk hx (k3_i hs h)⟩
theorem z3_lload_n {i : Fin 4} (hs : Sr F A S) (h : s2 M o k fi fv (.lload_n i) len pc ls st S) : sop M o (k3 M k) (Qm M fi fv) (.lload_n i) len pc ls st (mC M) (mS M) L0 F A := by
  obtain ⟨rfl, h⟩ := h
  obtain ⟨x, hx, h⟩ := lJ_ok h
  exact ⟨rfl, lJ_mk hx (k3_i hs h)⟩
theorem z3_aload {i : Nat} (hs : Sr F A S) (h : s2 M o k fi fv (.aload i) len pc ls st S) : sop M o (k3 M k) (Qm M fi fv) (.aload i) len pc ls st (mC M) (mS M) L0 F A := by
  obtain ⟨rfl, h⟩ := h
  obtain ⟨x, hx, h⟩ := lA_ok h
  exact ⟨rfl, lA_mk hx (k3_i hs h)⟩
theorem z3_aload_n {i : Fin 4} (hs : Sr F A S) (h : s2 M o k fi fv (.aload_n i) len pc ls st S) : sop M o (k3 M k) (Qm M fi fv) (.aload_n i) len pc ls st (mC M) (mS M) L0 F A := by
  obtain ⟨rfl, h⟩ := h
  obtain ⟨x, hx, h⟩ := lA_ok h
  exact ⟨rfl, lA_mk hx (k3_i hs h)⟩
theorem z3_istore {i : Nat} (hs : Sr F A S) (h : s2 M o k fi fv (.istore i) len pc ls st S) : sop M o (k3 M k) (Qm M fi fv) (.istore i) len pc ls st (mC M) (mS M) L0 F A := by
  obtain ⟨rfl, h⟩ := h
  obtain ⟨x, r, rfl, h⟩ := pI_ok h
  exact ⟨rfl, h.1, h.2.1, k3_i hs h.2.2⟩
theorem z3_istore_n {i : Fin 4} (hs : Sr F A S) (h : s2 M o k fi fv (.istore_n i) len pc ls st S) : sop M o (k3 M k) (Qm M fi fv) (.istore_n i) len pc ls st (mC M) (mS M) L0 F A := by
  obtain ⟨rfl, h⟩ := h
  obtain ⟨x, r, rfl, h⟩ := pI_ok h
  exact ⟨rfl, h.1, h.2.1, k3_i hs h.2.2⟩
theorem z3_lstore {i : Nat} (hs : Sr F A S) (h : s2 M o k fi fv (.lstore i) len pc ls st S) : sop M o (k3 M k) (Qm M fi fv) (.lstore i) len pc ls st (mC M) (mS M) L0 F A := by
  obtain ⟨rfl, h⟩ := h
  obtain ⟨x, r, rfl, h⟩ := pJ_ok h
  exact ⟨rfl, h.1, h.2.1, k3_i hs h.2.2⟩
theorem z3_lstore_n {i : Fin 4} (hs : Sr F A S) (h : s2 M o k fi fv (.lstore_n i) len pc ls st S) : sop M o (k3 M k) (Qm M fi fv) (.lstore_n i) len pc ls st (mC M) (mS M) L0 F A := by
  obtain ⟨rfl, h⟩ := h
  obtain ⟨x, r, rfl, h⟩ := pJ_ok h
  exact ⟨rfl, h.1, h.2.1, k3_i hs h.2.2⟩
theorem z3_astore {i : Nat} (hs : Sr F A S) (h : s2 M o k fi fv (.astore i) len pc ls st S) : sop M o (k3 M k) (Qm M fi fv) (.astore i) len pc ls st (mC M) (mS M) L0 F A := by
  obtain ⟨rfl, h⟩ := h
  obtain ⟨x, r, rfl, h⟩ := pR_ok h
  exact ⟨rfl, h.1, h.2.1, k3_i hs h.2.2⟩
theorem z3_astore_n {i : Fin 4} (hs : Sr F A S) (h : s2 M o k fi fv (.astore_n i) len pc ls st S) : sop M o (k3 M k) (Qm M fi fv) (.astore_n i) len pc ls st (mC M) (mS M) L0 F A := by
  obtain ⟨rfl, h⟩ := h
  obtain ⟨x, r, rfl, h⟩ := pR_ok h
  exact ⟨rfl, h.1, h.2.1, k3_i hs h.2.2⟩
theorem z3_iinc {i : Nat} {n : Int} (hs : Sr F A S) (h : s2 M o k fi fv (.iinc i n) len pc ls st S) : sop M o (k3 M k) (Qm M fi fv) (.iinc i n) len pc ls st (mC M) (mS M) L0 F A := by
  obtain ⟨rfl, h⟩ := h
  obtain ⟨x, hx, h⟩ := lI_ok h
  exact ⟨rfl, lI_mk hx ⟨h.1, h.2.1, k3_i hs h.2.2⟩⟩
theorem z3_ifCond {cn : ClassFile.Cond} {off : Int} (hs : Sr F A S) (h : s2 M o k fi fv (.ifCond cn off) len pc ls st S) : sop M o (k3 M k) (Qm M fi fv) (.ifCond cn off) len pc ls st (mC M) (mS M) L0 F A := by
  obtain ⟨h0, h⟩ := h
  obtain ⟨x, r, rfl, h⟩ := pI_ok h
  exact ⟨h0, xif_mono (k3_i hs) (k3_i hs) h⟩
theorem z3_if_icmp {cn : ClassFile.Cond} {off : Int} (hs : Sr F A S) (h : s2 M o k fi fv (.if_icmp cn off) len pc ls st S) : sop M o (k3 M k) (Qm M fi fv) (.if_icmp cn off) len pc ls st (mC M) (mS M) L0 F A := by
  obtain ⟨h0, h⟩ := h
  obtain ⟨x, y, r, rfl, h⟩ := pII_ok h
  exact ⟨h0, xif_mono (k3_i hs) (k3_i hs) h⟩
theorem z3_goto {off : Int} (hs : Sr F A S) (h : s2 M o k fi fv (.goto off) len pc ls st S) : sop M o (k3 M k) (Qm M fi fv) (.goto off) len pc ls st (mC M) (mS M) L0 F A := by
  exact ⟨h.1, h.2.1, k3_i hs h.2.2⟩
theorem z3_tableswitch {d lo hi : Int} {offs : Array Int} (hs : Sr F A S) (h : s2 M o k fi fv (.tableswitch d lo hi offs) len pc ls st S) : sop M o (k3 M k) (Qm M fi fv) (.tableswitch d lo hi offs) len pc ls st (mC M) (mS M) L0 F A := by
  obtain ⟨x, r, rfl, h⟩ := pI_ok h
  exact ⟨h.1, swt_mono (fun _ q => k3_i hs q) _ _ h.2⟩
theorem z3_ldc_w {i : Nat} (hs : Sr F A S) (h : s2 M o k fi fv (.ldc_w i) len pc ls st S) : sop M o (k3 M k) (Qm M fi fv) (.ldc_w i) len pc ls st (mC M) (mS M) L0 F A := by
  obtain ⟨rfl, h⟩ := h
  split at h
  · next v hv => exact ⟨rfl, by rw [hv]; exact k3_i hs h⟩
  · exact h.elim
theorem z3_ldc2_w {i : Nat} (hs : Sr F A S) (h : s2 M o k fi fv (.ldc2_w i) len pc ls st S) : sop M o (k3 M k) (Qm M fi fv) (.ldc2_w i) len pc ls st (mC M) (mS M) L0 F A := by
  obtain ⟨rfl, h⟩ := h
  split at h
  · next v hv => exact ⟨rfl, by rw [hv]; exact k3_i hs h⟩
  · exact h.elim
theorem z3_ldc {i : Nat} (hs : Sr F A S) (h : s2 M o k fi fv (.ldc i) len pc ls st S) : sop M o (k3 M k) (Qm M fi fv) (.ldc i) len pc ls st (mC M) (mS M) L0 F A := by
  obtain ⟨rfl, h⟩ := h
  split at h
  · next v hv => exact ⟨rfl, by rw [hv]; exact k3_i hs h⟩
  · next hv =>
    split at h
    · next j hj => exact ⟨rfl, by rw [hv, hj]; exact k3_i hs h⟩
    · exact h.elim
theorem z3_getstatic {i : Nat} (hs : Sr F A S) (h : s2 M o k fi fv (.getstatic i) len pc ls st S) : sop M o (k3 M k) (Qm M fi fv) (.getstatic i) len pc ls st (mC M) (mS M) L0 F A := by
  obtain ⟨rfl, h⟩ := h
  split at h
  · next u q hv => exact ⟨rfl, by rw [hv]; exact k3_i hs h⟩
  · exact h.elim
theorem z3_getfield {i : Nat} (hs : Sr F A S) (h : s2 M o k fi fv (.getfield i) len pc ls st S) : sop M o (k3 M k) (Qm M fi fv) (.getfield i) len pc ls st (mC M) (mS M) L0 F A := by
  obtain ⟨rfl, h⟩ := h
  obtain ⟨a, r, rfl, h⟩ := pR_ok h
  split at h
  · next ci j n ns rf fin hc =>
    obtain ⟨⟨h1, h2⟩, h3⟩ := h
    refine ⟨rfl, ?_⟩
    show (match cpF o i with | some (ci, j, n, _, _, _) => _ | none => _)
    rw [hc]
    refine ⟨h1, h2, ?_⟩
    rw [hs.1 a (by rw [h2]; simp)]
    exact k3_i hs h3
  · next hc =>
    split at h
    · next u hu =>
      obtain ⟨⟨h1, h2⟩, h3⟩ := h
      refine ⟨rfl, ?_⟩
      show (match cpF o i with | some (ci, j, n, _, _, _) => _ | none => _)
      rw [hc, hu]
      exact ⟨h1, h2, k3_i hs h3⟩
    · exact h.elim
theorem z3_putfield {i : Nat} (hs : Sr F A S) (h : s2 M o k fi fv (.putfield i) len pc ls st S) : sop M o (k3 M k) (Qm M fi fv) (.putfield i) len pc ls st (mC M) (mS M) L0 F A := by
  obtain ⟨rfl, h⟩ := h
  obtain ⟨v, a, r, rfl, h⟩ := pVR_ok h
  split at h
  · next ci j n ns rf fin hc =>
    obtain ⟨⟨h1, h2, h3⟩, h4⟩ := h
    refine ⟨rfl, ?_⟩
    show (match cpF o i with | some (ci, j, n, ns, rf, fi) => _ | none => _)
    rw [hc]
    refine ⟨h1, h2, ?_⟩
    cases v with
    | int x =>
      obtain ⟨⟨g1, g2, g3⟩, g4⟩ := h4
      refine ⟨g1, Or.inl h3, k3_i (Sr_ob hs (by rw [h2]; simp) ?_) g4⟩
      unfold Fc
      rw [if_neg (by rw [g2]; decide), g3]
      simp [upA, upd]
    | ref b =>
      obtain ⟨⟨g1, g2, g3⟩, g4⟩ := h4
      refine ⟨g1, Or.inl h3, k3_i (Sr_ob hs (by rw [h2]; simp) ?_) g4⟩
      unfold Fc
      rw [if_pos g2]
      simp only [upA, upd, if_true]
      rw [nI_clamp (Nat.lt_trans g3 (by decide))]
    | _ => exact h4.elim
  · exact h.elim
theorem z3_iaload (hs : Sr F A S) (h : s2 M o k fi fv (.iaload) len pc ls st S) : sop M o (k3 M k) (Qm M fi fv) (.iaload) len pc ls st (mC M) (mS M) L0 F A := by
  obtain ⟨rfl, h⟩ := h
  obtain ⟨i, a, r, rfl, h2⟩ := pIR_ok h
  obtain ⟨n, f, hq, hin, h3⟩ := rdA_ok h2
  refine ⟨rfl, ?_⟩
  show rdA (ald M L0 A a 1) i (fun x => k3 M k (pc + 1) ls (Value.int x :: r) (mC M) (mS M) L0 F A)
  rw [ald_sr hs (by omega), hq]
  exact ⟨hin, k3_i hs h3⟩
theorem z3_baload (hs : Sr F A S) (h : s2 M o k fi fv (.baload) len pc ls st S) : sop M o (k3 M k) (Qm M fi fv) (.baload) len pc ls st (mC M) (mS M) L0 F A := by
  obtain ⟨rfl, h⟩ := h
  obtain ⟨i, a, r, rfl, h2⟩ := pIR_ok h
  obtain ⟨n, f, hq, hin, h3⟩ := rdA_ok h2
  refine ⟨rfl, ?_⟩
  show rdA (ald M L0 A a (if a < 1000 then 2 else 3)) i (fun x => k3 M k (pc + 1) ls (Value.int x :: r) (mC M) (mS M) L0 F A)
  have e : ald M L0 A a (if a < 1000 then 2 else 3) = ald M L0 S a (if a < 1000 then 2 else 3) := by
    by_cases ha : a < 1000
    · rw [if_pos ha]; exact ald_sr hs (by omega)
    · exact ald_s3 ha _
  rw [e, hq]
  exact ⟨hin, k3_i hs h3⟩
theorem z3_arraylength (hs : Sr F A S) (h : s2 M o k fi fv (.arraylength) len pc ls st S) : sop M o (k3 M k) (Qm M fi fv) (.arraylength) len pc ls st (mC M) (mS M) L0 F A := by
  obtain ⟨rfl, h⟩ := h
  obtain ⟨a, r, rfl, h2⟩ := pR_ok h
  obtain ⟨n, f, hq, h3⟩ := lnA_ok h2
  refine ⟨rfl, ?_⟩
  show lnA (ald M L0 A a (if a < 1000 then 1 else if a < 1200 then 3 else 1)) (fun x => k3 M k (pc + 1) ls (Value.int x :: r) (mC M) (mS M) L0 F A)
  have e : ald M L0 A a (if a < 1000 then 1 else if a < 1200 then 3 else 1) = ald M L0 S a (if a < 1000 then 1 else if a < 1200 then 3 else 1) := by
    by_cases ha : a < 1000
    · rw [if_pos ha]; exact ald_sr hs (by omega)
    · exact ald_s3 ha _
  rw [e, hq]
  exact k3_i hs h3
theorem z3_iastore (hs : Sr F A S) (h : s2 M o k fi fv (.iastore) len pc ls st S) : sop M o (k3 M k) (Qm M fi fv) (.iastore) len pc ls st (mC M) (mS M) L0 F A := by
  obtain ⟨rfl, h⟩ := h
  obtain ⟨x, i, a, r, rfl, h2⟩ := pIIR_ok h
  obtain ⟨⟨h1, h3⟩, h4, h5⟩ := h2
  refine ⟨rfl, h1, h3, h4, ?_⟩
  rw [hs.2 a (by rw [h3]; omega)]
  exact k3_i (Sr_ar hs (by rw [h3]; omega)) h5
theorem z3_bastore (hs : Sr F A S) (h : s2 M o k fi fv (.bastore) len pc ls st S) : sop M o (k3 M k) (Qm M fi fv) (.bastore) len pc ls st (mC M) (mS M) L0 F A := by
  obtain ⟨rfl, h⟩ := h
  obtain ⟨x, i, a, r, rfl, h2⟩ := pIIR_ok h
  obtain ⟨⟨h1, h3⟩, h4, h5⟩ := h2
  refine ⟨rfl, h1, h3, h4, ?_⟩
  rw [hs.2 a (by rw [h3]; omega)]
  exact k3_i (Sr_ar hs (by rw [h3]; omega)) h5
theorem z3_invokevirtual {i : Nat} (hs : Sr F A S) (h : s2 M o k fi fv (.invokevirtual i) len pc ls st S) : sop M o (k3 M k) (Qm M fi fv) (.invokevirtual i) len pc ls st (mC M) (mS M) L0 F A := by
  exact ⟨h.1, sC3_ok hs h.2⟩
theorem z3_invokestatic {i : Nat} (hs : Sr F A S) (h : s2 M o k fi fv (.invokestatic i) len pc ls st S) : sop M o (k3 M k) (Qm M fi fv) (.invokestatic i) len pc ls st (mC M) (mS M) L0 F A := by
  obtain ⟨rfl, h⟩ := h
  split at h
  · next u hu =>
    obtain ⟨h1, h⟩ := h
    refine ⟨rfl, ?_⟩
    show (match cpB o i with | some u => _ | none => _)
    rw [hu]
    refine ⟨⟨h1, Nat.le_refl _, Nat.le_refl _⟩, ?_⟩
    match u, h with
    | 0, h' =>
      obtain ⟨x, y, r, rfl, g1, g2⟩ := pII_ok h'
      exact ⟨g1, k3_i hs g2⟩
    | 1, h' =>
      obtain ⟨x, y, r, rfl, g1, g2⟩ := pII_ok h'
      exact ⟨g1, k3_i hs g2⟩
    | 2, h' =>
      obtain ⟨x, r, rfl, g1, g2⟩ := pI_ok h'
      exact ⟨g1, k3_i hs g2⟩
    | 3, h' => exact h'.elim
    | 4, h' =>
      obtain ⟨a, sp, b, dp, n, r, rfl, g1, g2, g3, g4, g5, g6, g7, g8⟩ := pCpy_ok h'
      refine ⟨g1, g2, g3, g4, g5, g6, g7, ?_⟩
      rw [ald_sr hs (by omega)]
      split at g8
      · next m f hq =>
        obtain ⟨q1, q2, q3⟩ := g8
        rw [hq]
        refine ⟨q1, q2, ?_⟩
        rw [hs.2 b (by rw [g6]; omega)]
        exact k3_i (Sr_ar hs (by rw [g6]; omega)) q3
      · exact g8.elim
    | q + 5, h' => exact h'.elim
  · next hu =>
    refine ⟨rfl, ?_⟩
    show (match cpB o i with | some u => _ | none => _)
    rw [hu]
    exact sC3_ok hs h
theorem z3_ireturn (hs : Sr F A S) (h : s2 M o k fi fv (.ireturn) len pc ls st S) : sop M o (k3 M k) (Qm M fi fv) (.ireturn) len pc ls st (mC M) (mS M) L0 F A := by
  obtain ⟨rfl, h⟩ := h
  obtain ⟨v, r, rfl, h1, h2, h3⟩ := pI_ok h
  refine ⟨rfl, h1, Nat.le_refl _, Nat.le_refl _, h2, ?_⟩
  obtain ⟨ty, e, -⟩ := h2
  unfold Qm
  rw [e]
  exact ⟨v, S, rfl, rfl, hs, h3⟩
theorem z3_return (hs : Sr F A S) (h : s2 M o k fi fv (.return_) len pc ls st S) : sop M o (k3 M k) (Qm M fi fv) (.return_) len pc ls st (mC M) (mS M) L0 F A := by
  obtain ⟨h0, h1, h2, h3⟩ := h
  refine ⟨h0, h1, Nat.le_refl _, Nat.le_refl _, h2, ?_⟩
  unfold Qm
  rw [h2]
  exact ⟨S, rfl, rfl, hs, h3⟩
theorem s3_sop {ins : Instr} (hs : Sr F A S) (h : s2 M o k fi fv ins len pc ls st S) : sop M o (k3 M k) (Qm M fi fv) ins len pc ls st (mC M) (mS M) L0 F A := by
  cases ins with
  | iadd => exact z3_iadd hs h
  | isub => exact z3_isub hs h
  | imul => exact z3_imul hs h
  | iand => exact z3_iand hs h
  | ior => exact z3_ior hs h
  | ixor => exact z3_ixor hs h
  | ishl => exact z3_ishl hs h
  | ishr => exact z3_ishr hs h
  | idiv => exact z3_idiv hs h
  | irem => exact z3_irem hs h
  | ladd => exact z3_ladd hs h
  | lmul => exact z3_lmul hs h
  | land => exact z3_land hs h
  | lor => exact z3_lor hs h
  | lcmp => exact z3_lcmp hs h
  | ldiv => exact z3_ldiv hs h
  | lshl => exact z3_lshl hs h
  | lshr => exact z3_lshr hs h
  | i2l => exact z3_i2l hs h
  | i2c => exact z3_i2c hs h
  | l2i => exact z3_l2i hs h
  | dup => exact z3_dup hs h
  | pop => exact z3_pop hs h
  | dup_x1 => exact z3_dup_x1 hs h
  | dup2 => exact z3_dup2 hs h
  | iconst => exact z3_iconst hs h
  | bipush => exact z3_bipush hs h
  | sipush => exact z3_sipush hs h
  | lconst => exact z3_lconst hs h
  | iload => exact z3_iload hs h
  | iload_n => exact z3_iload_n hs h
  | lload => exact z3_lload hs h
  | lload_n => exact z3_lload_n hs h
  | aload => exact z3_aload hs h
  | aload_n => exact z3_aload_n hs h
  | istore => exact z3_istore hs h
  | istore_n => exact z3_istore_n hs h
  | lstore => exact z3_lstore hs h
  | lstore_n => exact z3_lstore_n hs h
  | astore => exact z3_astore hs h
  | astore_n => exact z3_astore_n hs h
  | iinc => exact z3_iinc hs h
  | ifCond => exact z3_ifCond hs h
  | if_icmp => exact z3_if_icmp hs h
  | goto => exact z3_goto hs h
  | tableswitch => exact z3_tableswitch hs h
  | ldc => exact z3_ldc hs h
  | ldc_w => exact z3_ldc_w hs h
  | ldc2_w => exact z3_ldc2_w hs h
  | getstatic => exact z3_getstatic hs h
  | getfield => exact z3_getfield hs h
  | putfield => exact z3_putfield hs h
  | iaload => exact z3_iaload hs h
  | baload => exact z3_baload hs h
  | iastore => exact z3_iastore hs h
  | bastore => exact z3_bastore hs h
  | arraylength => exact z3_arraylength hs h
  | invokevirtual => exact z3_invokevirtual hs h
  | invokestatic => exact z3_invokestatic hs h
  | ireturn => exact z3_ireturn hs h
  | return_ => exact z3_return hs h
  | _ => exact h.elim
theorem sn3_ok {b : ByteArray} (hb : b = mB M) (ho : o = mO M) (hk : ∀ pc ls st S, k pc ls st S → Ok3 M pc ls st S fi fv) (h : sn2 M b o k fi fv pc ls st S) : Ok3 M pc ls st S fi fv := by
  intro F A hs
  subst hb
  unfold sn2 at h
  split at h
  · next ins len hd =>
    refine sop_ok ho ?_ hd (s3_sop hs h)
    rintro pc ls st c z L F A ⟨rfl, rfl, rfl, S, hs, hk2⟩
    exact hk pc ls st S hk2 F A hs
  · exact h.elim
theorem sg3_ok {b : ByteArray} {K : xT} (hb : b = mB M) (ho : o = mO M) (hK : ∀ pc P, K pc = some P → ∀ ls st S, P ls st S → Ok3 M pc ls st S fi fv) : ∀ n pc ls st S, sg2 M b o K fi fv n pc ls st S → Ok3 M pc ls st S fi fv
  | 0 => fun _ _ _ _ h => h.elim
  | n + 1 => fun pc ls st S h => by
    unfold sg2 at h
    split at h
    · next P hP => exact hK pc P hP ls st S h
    · exact sn3_ok hb ho (sg3_ok hb ho hK n) h
theorem ok3_seg (n : Nat) (K : xT) {b : ByteArray} (hb : b = mB M) (ho : o = mO M) (h : sn2 M b o (sg2 M b o K fi fv n) fi fv pc ls st S) (hK : ∀ pc P, K pc = some P → ∀ ls st S, P ls st S → Ok3 M pc ls st S fi fv) : Ok3 M pc ls st S fi fv :=
  sn3_ok hb ho (sg3_ok hb ho hK n) h
end S3
