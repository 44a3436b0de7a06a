-- each instruction's walk is sound
section SO
variable {M : xM} {o : Nat} {k : xK} {Q : xQ} {pc len : Nat} {ls : xS} {st : List Value} {c z : Nat} {L : xL} {F : xF} {A : xA}
abbrev KO (M : xM) (k : xK) (Q : xQ) : Prop := ∀ (pc : Nat) (ls : xS) (st : List Value) (c z : Nat) (L : xL) (F : xF) (A : xA), k pc ls st c z L F A → Ok M pc ls st c z L F A Q
theorem so_iadd (ho : o = mO M) (hk : KO M k Q) (hd : decode (mB M) pc = .ok (.iadd, len)) (h : sop M o k Q (.iadd) len pc ls st c z L F A) : Ok M pc ls st c z L F A Q := by
  obtain ⟨rfl, h⟩ := h
  obtain ⟨x, y, r, rfl, h⟩ := pII_ok h
  intro p l e s m args below meth cd g QS H locs sl C R hH hS hl
  exact lv_iadd C.1 C.2.1 hd (hk _ _ _ _ _ _ _ _ h p l e s m args below meth cd g QS H locs sl C R hH hS hl)
theorem so_isub (ho : o = mO M) (hk : KO M k Q) (hd : decode (mB M) pc = .ok (.isub, len)) (h : sop M o k Q (.isub) len pc ls st c z L F A) : Ok M pc ls st c z L F A Q := by
  obtain ⟨rfl, h⟩ := h
  obtain ⟨x, y, r, rfl, h⟩ := pII_ok h
  intro p l e s m args below meth cd g QS H locs sl C R hH hS hl
  exact lv_isub C.1 C.2.1 hd (hk _ _ _ _ _ _ _ _ h p l e s m args below meth cd g QS H locs sl C R hH hS hl)
theorem so_imul (ho : o = mO M) (hk : KO M k Q) (hd : decode (mB M) pc = .ok (.imul, len)) (h : sop M o k Q (.imul) len pc ls st c z L F A) : Ok M pc ls st c z L F A Q := by
  obtain ⟨rfl, h⟩ := h
  obtain ⟨x, y, r, rfl, h⟩ := pII_ok h
  intro p l e s m args below meth cd g QS H locs sl C R hH hS hl
  exact lv_imul C.1 C.2.1 hd (hk _ _ _ _ _ _ _ _ h p l e s m args below meth cd g QS H locs sl C R hH hS hl)
theorem so_iand (ho : o = mO M) (hk : KO M k Q) (hd : decode (mB M) pc = .ok (.iand, len)) (h : sop M o k Q (.iand) len pc ls st c z L F A) : Ok M pc ls st c z L F A Q := by
  obtain ⟨rfl, h⟩ := h
  obtain ⟨x, y, r, rfl, h⟩ := pII_ok h
  intro p l e s m args below meth cd g QS H locs sl C R hH hS hl
  exact lv_iand C.1 C.2.1 hd (hk _ _ _ _ _ _ _ _ h p l e s m args below meth cd g QS H locs sl C R hH hS hl)
theorem so_ior (ho : o = mO M) (hk : KO M k Q) (hd : decode (mB M) pc = .ok (.ior, len)) (h : sop M o k Q (.ior) len pc ls st c z L F A) : Ok M pc ls st c z L F A Q := by
  obtain ⟨rfl, h⟩ := h
  obtain ⟨x, y, r, rfl, h⟩ := pII_ok h
  intro p l e s m args below meth cd g QS H locs sl C R hH hS hl
  exact lv_ior C.1 C.2.1 hd (hk _ _ _ _ _ _ _ _ h p l e s m args below meth cd g QS H locs sl C R hH hS hl)
theorem so_ixor (ho : o = mO M) (hk : KO M k Q) (hd : decode (mB M) pc = .ok (.ixor, len)) (h : sop M o k Q (.ixor) len pc ls st c z L F A) : Ok M pc ls st c z L F A Q := by
  obtain ⟨rfl, h⟩ := h
  obtain ⟨x, y, r, rfl, h⟩ := pII_ok h
  intro p l e s m args below meth cd g QS H locs sl C R hH hS hl
  exact lv_ixor C.1 C.2.1 hd (hk _ _ _ _ _ _ _ _ h p l e s m args below meth cd g QS H locs sl C R hH hS hl)
theorem so_ishl (ho : o = mO M) (hk : KO M k Q) (hd : decode (mB M) pc = .ok (.ishl, len)) (h : sop M o k Q (.ishl) len pc ls st c z L F A) : Ok M pc ls st c z L F A Q := by
  obtain ⟨rfl, h⟩ := h
  obtain ⟨x, y, r, rfl, h⟩ := pII_ok h
  intro p l e s m args below meth cd g QS H locs sl C R hH hS hl
  exact lv_ishl C.1 C.2.1 hd (hk _ _ _ _ _ _ _ _ h p l e s m args below meth cd g QS H locs sl C R hH hS hl)
theorem so_ishr (ho : o = mO M) (hk : KO M k Q) (hd : decode (mB M) pc = .ok (.ishr, len)) (h : sop M o k Q (.ishr) len pc ls st c z L F A) : Ok M pc ls st c z L F A Q := by
  obtain ⟨rfl, h⟩ := h
  obtain ⟨x, y, r, rfl, h⟩ := pII_ok h
  intro p l e s m args below meth cd g QS H locs sl C R hH hS hl
  exact lv_ishr C.1 C.2.1 hd (hk _ _ _ _ _ _ _ _ h p l e s m args below meth cd g QS H locs sl C R hH hS hl)
theorem so_idiv (ho : o = mO M) (hk : KO M k Q) (hd : decode (mB M) pc = .ok (.idiv, len)) (h : sop M o k Q (.idiv) len pc ls st c z L F A) : Ok M pc ls st c z L F A Q := by
  obtain ⟨rfl, h⟩ := h
  obtain ⟨x, y, r, rfl, hne, h⟩ := pII_ok h
  intro p l e s m args below meth cd g QS H locs sl C R hH hS hl
  exact lv_idiv C.1 C.2.1 hd hne (hk _ _ _ _ _ _ _ _ h p l e s m args below meth cd g QS H locs sl C R hH hS hl)
theorem so_irem (ho : o = mO M) (hk : KO M k Q) (hd : decode (mB M) pc = .ok (.irem, len)) (h : sop M o k Q (.irem) len pc ls st c z L F A) : Ok M pc ls st c z L F A Q := by
  obtain ⟨rfl, h⟩ := h
  obtain ⟨x, y, r, rfl, hne, h⟩ := pII_ok h
  intro p l e s m args below meth cd g QS H locs sl C R hH hS hl
  exact lv_irem C.1 C.2.1 hd hne (hk _ _ _ _ _ _ _ _ h p l e s m args below meth cd g QS H locs sl C R hH hS hl)
theorem so_ladd (ho : o = mO M) (hk : KO M k Q) (hd : decode (mB M) pc = .ok (.ladd, len)) (h : sop M o k Q (.ladd) len pc ls st c z L F A) : Ok M pc ls st c z L F A Q := by
  obtain ⟨rfl, h⟩ := h
  obtain ⟨x, y, r, rfl, h⟩ := pJJ_ok h
  intro p l e s m args below meth cd g QS H locs sl C R hH hS hl
  exact lv_ladd C.1 C.2.1 hd (hk _ _ _ _ _ _ _ _ h p l e s m args below meth cd g QS H locs sl C R hH hS hl)
theorem so_lmul (ho : o = mO M) (hk : KO M k Q) (hd : decode (mB M) pc = .ok (.lmul, len)) (h : sop M o k Q (.lmul) len pc ls st c z L F A) : Ok M pc ls st c z L F A Q := by
  obtain ⟨rfl, h⟩ := h
  obtain ⟨x, y, r, rfl, h⟩ := pJJ_ok h
  intro p l e s m args below meth cd g QS H locs sl C R hH hS hl
  exact lv_lmul C.1 C.2.1 hd (hk _ _ _ _ _ _ _ _ h p l e s m args below meth cd g QS H locs sl C R hH hS hl)
theorem so_land (ho : o = mO M) (hk : KO M k Q) (hd : decode (mB M) pc = .ok (.land, len)) (h : sop M o k Q (.land) len pc ls st c z L F A) : Ok M pc ls st c z L F A Q := by
  obtain ⟨rfl, h⟩ := h
  obtain ⟨x, y, r, rfl, h⟩ := pJJ_ok h
  intro p l e s m args below meth cd g QS H locs sl C R hH hS hl
  exact lv_land C.1 C.2.1 hd (hk _ _ _ _ _ _ _ _ h p l e s m args below meth cd g QS H locs sl C R hH hS hl)
theorem so_lor (ho : o = mO M) (hk : KO M k Q) (hd : decode (mB M) pc = .ok (.lor, len)) (h : sop M o k Q (.lor) len pc ls st c z L F A) : Ok M pc ls st c z L F A Q := by
  obtain ⟨rfl, h⟩ := h
  obtain ⟨x, y, r, rfl, h⟩ := pJJ_ok h
  intro p l e s m args below meth cd g QS H locs sl C R hH hS hl
  exact lv_lor C.1 C.2.1 hd (hk _ _ _ _ _ _ _ _ h p l e s m args below meth cd g QS H locs sl C R hH hS hl)
theorem so_ldiv (ho : o = mO M) (hk : KO M k Q) (hd : decode (mB M) pc = .ok (.ldiv, len)) (h : sop M o k Q (.ldiv) len pc ls st c z L F A) : Ok M pc ls st c z L F A Q := by
  obtain ⟨rfl, h⟩ := h
  obtain ⟨x, y, r, rfl, hne, h⟩ := pJJ_ok h
  intro p l e s m args below meth cd g QS H locs sl C R hH hS hl
  exact lv_ldiv C.1 C.2.1 hd hne (hk _ _ _ _ _ _ _ _ h p l e s m args below meth cd g QS H locs sl C R hH hS hl)
theorem so_lcmp (ho : o = mO M) (hk : KO M k Q) (hd : decode (mB M) pc = .ok (.lcmp, len)) (h : sop M o k Q (.lcmp) len pc ls st c z L F A) : Ok M pc ls st c z L F A Q := by
  obtain ⟨rfl, h⟩ := h
  obtain ⟨x, y, r, rfl, h⟩ := pJJ_ok h
  intro p l e s m args below meth cd g QS H locs sl C R hH hS hl
  exact W.lcmp C.1 C.2.1 hd (hk _ _ _ _ _ _ _ _ h p l e s m args below meth cd g QS H locs sl C R hH hS hl)
theorem so_lshl (ho : o = mO M) (hk : KO M k Q) (hd : decode (mB M) pc = .ok (.lshl, len)) (h : sop M o k Q (.lshl) len pc ls st c z L F A) : Ok M pc ls st c z L F A Q := by
  obtain ⟨rfl, h⟩ := h
  obtain ⟨x, y, r, rfl, h⟩ := pIJ_ok h
  intro p l e s m args below meth cd g QS H locs sl C R hH hS hl
  exact lv_lshl C.1 C.2.1 hd rfl (hk _ _ _ _ _ _ _ _ h p l e s m args below meth cd g QS H locs sl C R hH hS hl)
theorem so_lshr (ho : o = mO M) (hk : KO M k Q) (hd : decode (mB M) pc = .ok (.lshr, len)) (h : sop M o k Q (.lshr) len pc ls st c z L F A) : Ok M pc ls st c z L F A Q := by
  obtain ⟨rfl, h⟩ := h
  obtain ⟨x, y, r, rfl, h⟩ := pIJ_ok h
  intro p l e s m args below meth cd g QS H locs sl C R hH hS hl
  exact lv_lshr C.1 C.2.1 hd rfl (hk _ _ _ _ _ _ _ _ h p l e s m args below meth cd g QS H locs sl C R hH hS hl)
theorem so_i2l (ho : o = mO M) (hk : KO M k Q) (hd : decode (mB M) pc = .ok (.i2l, len)) (h : sop M o k Q (.i2l) len pc ls st c z L F A) : Ok M pc ls st c z L F A Q := by
  obtain ⟨rfl, h⟩ := h
  obtain ⟨x, r, rfl, h⟩ := pI_ok h
  intro p l e s m args below meth cd g QS H locs sl C R hH hS hl
  exact lv_i2l C.1 C.2.1 hd rfl (hk _ _ _ _ _ _ _ _ h p l e s m args below meth cd g QS H locs sl C R hH hS hl)
theorem so_l2i (ho : o = mO M) (hk : KO M k Q) (hd : decode (mB M) pc = .ok (.l2i, len)) (h : sop M o k Q (.l2i) len pc ls st c z L F A) : Ok M pc ls st c z L F A Q := by
  obtain ⟨rfl, h⟩ := h
  obtain ⟨x, r, rfl, h⟩ := pJ_ok h
  intro p l e s m args below meth cd g QS H locs sl C R hH hS hl
  exact lv_l2i C.1 C.2.1 hd rfl (hk _ _ _ _ _ _ _ _ h p l e s m args below meth cd g QS H locs sl C R hH hS hl)
theorem so_i2c (ho : o = mO M) (hk : KO M k Q) (hd : decode (mB M) pc = .ok (.i2c, len)) (h : sop M o k Q (.i2c) len pc ls st c z L F A) : Ok M pc ls st c z L F A Q := by
  obtain ⟨rfl, h⟩ := h
  obtain ⟨x, r, rfl, h⟩ := pI_ok h
  intro p l e s m args below meth cd g QS H locs sl C R hH hS hl
  exact lv_i2c C.1 C.2.1 hd rfl (hk _ _ _ _ _ _ _ _ h p l e s m args below meth cd g QS H locs sl C R hH hS hl)
theorem so_dup (ho : o = mO M) (hk : KO M k Q) (hd : decode (mB M) pc = .ok (.dup, len)) (h : sop M o k Q (.dup) len pc ls st c z L F A) : Ok M pc ls st c z L F A Q := by
  obtain ⟨rfl, h⟩ := h
  obtain ⟨v, r, rfl, hv, h⟩ := pV_ok h
  intro p l e s m args below meth cd g QS H locs sl C R hH hS hl
  exact lv_dup C.1 C.2.1 hd (by rw [gV_cat]; exact hv) (hk _ _ _ _ _ _ _ _ h p l e s m args below meth cd g QS H locs sl C R hH hS hl)
theorem so_pop (ho : o = mO M) (hk : KO M k Q) (hd : decode (mB M) pc = .ok (.pop, len)) (h : sop M o k Q (.pop) len pc ls st c z L F A) : Ok M pc ls st c z L F A Q := by
  obtain ⟨rfl, h⟩ := h
  obtain ⟨v, r, rfl, hv, h⟩ := pV_ok h
  intro p l e s m args below meth cd g QS H locs sl C R hH hS hl
  exact lv_pop C.1 C.2.1 hd (by rw [gV_cat]; exact hv) (hk _ _ _ _ _ _ _ _ h p l e s m args below meth cd g QS H locs sl C R hH hS hl)
theorem so_dup_x1 (ho : o = mO M) (hk : KO M k Q) (hd : decode (mB M) pc = .ok (.dup_x1, len)) (h : sop M o k Q (.dup_x1) len pc ls st c z L F A) : Ok M pc ls st c z L F A Q := by
  obtain ⟨rfl, h⟩ := h
  obtain ⟨v, w, r, rfl, hv, hw, h⟩ := pVV_ok h
  intro p l e s m args below meth cd g QS H locs sl C R hH hS hl
  exact lv_dup_x1 C.1 C.2.1 hd (by rw [gV_cat]; exact hv) (by rw [gV_cat]; exact hw) (hk _ _ _ _ _ _ _ _ h p l e s m args below meth cd g QS H locs sl C R hH hS hl)
theorem so_dup2 (ho : o = mO M) (hk : KO M k Q) (hd : decode (mB M) pc = .ok (.dup2, len)) (h : sop M o k Q (.dup2) len pc ls st c z L F A) : Ok M pc ls st c z L F A Q := by
  obtain ⟨rfl, h⟩ := h
  obtain ⟨v, w, r, rfl, hv, hw, h⟩ := pVV_ok h
  intro p l e s m args below meth cd g QS H locs sl C R hH hS hl
  exact lv_dup2_11 C.1 C.2.1 hd (by rw [gV_cat]; exact hv) (by rw [gV_cat]; exact hw) (hk _ _ _ _ _ _ _ _ h p l e s m args below meth cd g QS H locs sl C R hH hS hl)
theorem so_iconst {n : Int} (ho : o = mO M) (hk : KO M k Q) (hd : decode (mB M) pc = .ok (.iconst n, len)) (h : sop M o k Q (.iconst n) len pc ls st c z L F A) : Ok M pc ls st c z L F A Q := by
  obtain ⟨rfl, h⟩ := h
  intro p l e s m args below meth cd g QS H locs sl C R hH hS hl
  exact lv_iconst C.1 C.2.1 hd rfl (hk _ _ _ _ _ _ _ _ h p l e s m args below meth cd g QS H locs sl C R hH hS hl)
theorem so_bipush {n : Int} (ho : o = mO M) (hk : KO M k Q) (hd : decode (mB M) pc = .ok (.bipush n, len)) (h : sop M o k Q (.bipush n) len pc ls st c z L F A) : Ok M pc ls st c z L F A Q := by
  obtain ⟨rfl, h⟩ := h
  intro p l e s m args below meth cd g QS H locs sl C R hH hS hl
  exact lv_bipush C.1 C.2.1 hd rfl (hk _ _ _ _ _ _ _ _ h p l e s m args below meth cd g QS H locs sl C R hH hS hl)
theorem so_sipush {n : Int} (ho : o = mO M) (hk : KO M k Q) (hd : decode (mB M) pc = .ok (.sipush n, len)) (h : sop M o k Q (.sipush n) len pc ls st c z L F A) : Ok M pc ls st c z L F A Q := by
  obtain ⟨rfl, h⟩ := h
  intro p l e s m args below meth cd g QS H locs sl C R hH hS hl
  exact lv_sipush C.1 C.2.1 hd rfl (hk _ _ _ _ _ _ _ _ h p l e s m args below meth cd g QS H locs sl C R hH hS hl)
theorem so_lconst {n : Fin 2} (ho : o = mO M) (hk : KO M k Q) (hd : decode (mB M) pc = .ok (.lconst n, len)) (h : sop M o k Q (.lconst n) len pc ls st c z L F A) : Ok M pc ls st c z L F A Q := by
  obtain ⟨rfl, h⟩ := h
  intro p l e s m args below meth cd g QS H locs sl C R hH hS hl
  exact lv_lconst C.1 C.2.1 hd rfl (hk _ _ _ _ _ _ _ _ h p l e s m args below meth cd g QS H locs sl C R hH hS hl)
theorem so_iload {i : Nat} (ho : o = mO M) (hk : KO M k Q) (hd : decode (mB M) pc = .ok (.iload i, len)) (h : sop M o k Q (.iload i) len pc ls st c z L F A) : Ok M pc ls st c z L F A Q := by
  obtain ⟨rfl, h⟩ := h
  obtain ⟨x, hx, h⟩ := lI_ok h
  intro p l e s m args below meth cd g QS H locs sl C R hH hS hl
  exact lv_iload C.1 C.2.1 hd (hl.2.2.2 _ _ hx) (hk _ _ _ _ _ _ _ _ h p l e s m args below meth cd g QS H locs sl C R hH hS hl)
theorem so_iload_n {i : Fin 4} (ho : o = mO M) (hk : KO M k Q) (hd : decode (mB M) pc = .ok (.iload_n i, len)) (h : sop M o k Q (.iload_n i) len pc ls st c z L F A) : Ok M pc ls st c z L F A Q := by
  obtain ⟨rfl, h⟩ := h
  obtain ⟨x, hx, h⟩ := lI_ok h
  intro p l e s m args below meth cd g QS H locs sl C R hH hS hl
  exact lv_iload_n C.1 C.2.1 hd rfl (hl.2.2.2 _ _ hx) (hk _ _ _ _ _ _ _ _ h p l e s m args below meth cd g QS H locs sl C R hH hS hl)
theorem so_lload {i : Nat} (ho : o = mO M) (hk : KO M k Q) (hd : decode (mB M) pc = .ok (.lload i, len)) (h : sop M o k Q (.lload i) len pc ls st c z L F A) : Ok M pc ls st c z L F A Q := by
  obtain ⟨rfl, h⟩ := h
  obtain ⟨x, hx, h⟩ := lJ_ok h
  intro p l e s m args below meth cd g QS H locs sl C R hH hS hl
  exact lv_lload C.1 C.2.1 hd (hl.2.2.2 _ _ hx) (hk _ _ _ _ _ _ _ _ h p l e s m args below meth cd g QS H locs sl C R hH hS hl)
theorem so_lload_n {i : Fin 4} (ho : o = mO M) (hk : KO M k Q) (hd : decode (mB M) pc = .ok (.lload_n i, len)) (h : sop M o k Q (.lload_n i) len pc ls st c z L F A) : Ok M pc ls st c z L F A Q := by
  obtain ⟨rfl, h⟩ := h
  obtain ⟨x, hx, h⟩ := lJ_ok h
  intro p l e s m args below meth cd g QS H locs sl C R hH hS hl
  exact lv_lload_n C.1 C.2.1 hd rfl (hl.2.2.2 _ _ hx) (hk _ _ _ _ _ _ _ _ h p l e s m args below meth cd g QS H locs sl C R hH hS hl)
theorem so_aload {i : Nat} (ho : o = mO M) (hk : KO M k Q) (hd : decode (mB M) pc = .ok (.aload i, len)) (h : sop M o k Q (.aload i) len pc ls st c z L F A) : Ok M pc ls st c z L F A Q := by
  obtain ⟨rfl, h⟩ := h
  obtain ⟨x, hx, h⟩ := lA_ok h
  intro p l e s m args below meth cd g QS H locs sl C R hH hS hl
  exact lv_aload C.1 C.2.1 hd (hl.2.2.2 _ _ hx) (hk _ _ _ _ _ _ _ _ h p l e s m args below meth cd g QS H locs sl C R hH hS hl)
theorem so_aload_n {i : Fin 4} (ho : o = mO M) (hk : KO M k Q) (hd : decode (mB M) pc = .ok (.aload_n i, len)) (h : sop M o k Q (.aload_n i) len pc ls st c z L F A) : Ok M pc ls st c z L F A Q := by
  obtain ⟨rfl, h⟩ := h
  obtain ⟨x, hx, h⟩ := lA_ok h
  intro p l e s m args below meth cd g QS H locs sl C R hH hS hl
  exact lv_aload_n C.1 C.2.1 hd rfl (hl.2.2.2 _ _ hx) (hk _ _ _ _ _ _ _ _ h p l e s m args below meth cd g QS H locs sl C R hH hS hl)
theorem so_istore {i : Nat} (ho : o = mO M) (hk : KO M k Q) (hd : decode (mB M) pc = .ok (.istore i, len)) (h : sop M o k Q (.istore i) len pc ls st c z L F A) : Ok M pc ls st c z L F A Q := by
  obtain ⟨rfl, h⟩ := h
  obtain ⟨x, r, rfl, hi, hB, h⟩ := pI_ok h
  intro p l e s m args below meth cd g QS H locs sl C R hH hS hl
  exact lv_istore C.1 C.2.1 hd hl.has (Nat.lt_of_lt_of_le hi hl.2.2.1) rfl (fun sl' h' => (hk _ _ _ _ _ _ _ _ h p l e s m args below meth cd g QS H locs sl' C R hH hS (hl.st1 hB h')))
theorem so_istore_n {i : Fin 4} (ho : o = mO M) (hk : KO M k Q) (hd : decode (mB M) pc = .ok (.istore_n i, len)) (h : sop M o k Q (.istore_n i) len pc ls st c z L F A) : Ok M pc ls st c z L F A Q := by
  obtain ⟨rfl, h⟩ := h
  obtain ⟨x, r, rfl, hi, hB, h⟩ := pI_ok h
  intro p l e s m args below meth cd g QS H locs sl C R hH hS hl
  exact lv_istore_n C.1 C.2.1 hd rfl hl.has (Nat.lt_of_lt_of_le hi hl.2.2.1) rfl (fun sl' h' => (hk _ _ _ _ _ _ _ _ h p l e s m args below meth cd g QS H locs sl' C R hH hS (hl.st1 hB h')))
theorem so_astore {i : Nat} (ho : o = mO M) (hk : KO M k Q) (hd : decode (mB M) pc = .ok (.astore i, len)) (h : sop M o k Q (.astore i) len pc ls st c z L F A) : Ok M pc ls st c z L F A Q := by
  obtain ⟨rfl, h⟩ := h
  obtain ⟨x, r, rfl, hi, hB, h⟩ := pR_ok h
  intro p l e s m args below meth cd g QS H locs sl C R hH hS hl
  exact lv_astore C.1 C.2.1 hd hl.has (Nat.lt_of_lt_of_le hi hl.2.2.1) rfl (fun sl' h' => (hk _ _ _ _ _ _ _ _ h p l e s m args below meth cd g QS H locs sl' C R hH hS (hl.st1 hB h')))
theorem so_astore_n {i : Fin 4} (ho : o = mO M) (hk : KO M k Q) (hd : decode (mB M) pc = .ok (.astore_n i, len)) (h : sop M o k Q (.astore_n i) len pc ls st c z L F A) : Ok M pc ls st c z L F A Q := by
  obtain ⟨rfl, h⟩ := h
  obtain ⟨x, r, rfl, hi, hB, h⟩ := pR_ok h
  intro p l e s m args below meth cd g QS H locs sl C R hH hS hl
  exact lv_astore_n C.1 C.2.1 hd rfl hl.has (Nat.lt_of_lt_of_le hi hl.2.2.1) rfl (fun sl' h' => (hk _ _ _ _ _ _ _ _ h p l e s m args below meth cd g QS H locs sl' C R hH hS (hl.st1 hB h')))
theorem so_lstore {i : Nat} (ho : o = mO M) (hk : KO M k Q) (hd : decode (mB M) pc = .ok (.lstore i, len)) (h : sop M o k Q (.lstore i) len pc ls st c z L F A) : Ok M pc ls st c z L F A Q := by
  obtain ⟨rfl, h⟩ := h
  obtain ⟨x, r, rfl, hi, hB, h⟩ := pJ_ok h
  intro p l e s m args below meth cd g QS H locs sl C R hH hS hl
  exact lv_lstore C.1 C.2.1 hd hl.has (Nat.lt_of_lt_of_le hi hl.2.2.1) rfl (fun sl' h' => (hk _ _ _ _ _ _ _ _ h p l e s m args below meth cd g QS H locs sl' C R hH hS (hl.st2 hB h')))
theorem so_lstore_n {i : Fin 4} (ho : o = mO M) (hk : KO M k Q) (hd : decode (mB M) pc = .ok (.lstore_n i, len)) (h : sop M o k Q (.lstore_n i) len pc ls st c z L F A) : Ok M pc ls st c z L F A Q := by
  obtain ⟨rfl, h⟩ := h
  obtain ⟨x, r, rfl, hi, hB, h⟩ := pJ_ok h
  intro p l e s m args below meth cd g QS H locs sl C R hH hS hl
  exact lv_lstore_n C.1 C.2.1 hd rfl hl.has (Nat.lt_of_lt_of_le hi hl.2.2.1) rfl (fun sl' h' => (hk _ _ _ _ _ _ _ _ h p l e s m args below meth cd g QS H locs sl' C R hH hS (hl.st2 hB h')))
theorem so_iinc {i : Nat} {n : Int} (ho : o = mO M) (hk : KO M k Q) (hd : decode (mB M) pc = .ok (.iinc i n, len)) (h : sop M o k Q (.iinc i n) len pc ls st c z L F A) : Ok M pc ls st c z L F A Q := by
  obtain ⟨rfl, h⟩ := h
  obtain ⟨x, hx, hi, hB, h⟩ := lI_ok h
  intro p l e s m args below meth cd g QS H locs sl C R hH hS hl
  obtain ⟨q, hq⟩ := List.getElem?_of_mem (lP_in (g := g) hx)
  exact lv_iinc C.1 C.2.1 hd hl.has hq rfl (Nat.lt_of_lt_of_le hi hl.2.2.1) rfl (fun sl' h' => (hk _ _ _ _ _ _ _ _ h p l e s m args below meth cd g QS H locs sl' C R hH hS (hl.st1 hB h')))
theorem jp_ok {pc : Nat} {off : Int} {f : Nat → Prop} (h : jp pc off f) : (pc : Int) + off = ((tg pc off : Nat) : Int) ∧ f (tg pc off) := ⟨by have := h.1; unfold tg; omega, h.2⟩
theorem so_ifCond {cn : ClassFile.Cond} {off : Int} (ho : o = mO M) (hk : KO M k Q) (hd : decode (mB M) pc = .ok (.ifCond cn off, len)) (h : sop M o k Q (.ifCond cn off) len pc ls st c z L F A) : Ok M pc ls st c z L F A Q := by
  obtain ⟨⟨rfl, h0⟩, h⟩ := h
  obtain ⟨x, r, rfl, h⟩ := pI_ok h
  have ht : (pc : Int) + off = ((tg pc off : Nat) : Int) := by unfold tg; omega
  intro p l e s m args below meth cd g QS H locs sl C R hH hS hl
  cases cn with
  | eq =>
    have h : if x = 0 then (k (tg pc off) ls r c z L F A) else (k (pc + 3) ls r c z L F A) := h
    exact lv_if_eq C.1 C.2.1 hd ht (fun hc => by rw [if_pos hc] at h; exact (hk _ _ _ _ _ _ _ _ h p l e s m args below meth cd g QS H locs sl C R hH hS hl)) (fun hc => by rw [if_neg hc] at h; exact (hk _ _ _ _ _ _ _ _ h p l e s m args below meth cd g QS H locs sl C R hH hS hl))
  | ne =>
    have h : if x = 0 then (k (pc + 3) ls r c z L F A) else (k (tg pc off) ls r c z L F A) := h
    exact lv_if_ne C.1 C.2.1 hd ht (fun hc => by rw [if_neg hc] at h; exact (hk _ _ _ _ _ _ _ _ h p l e s m args below meth cd g QS H locs sl C R hH hS hl)) (fun hc => by rw [if_pos hc] at h; exact (hk _ _ _ _ _ _ _ _ h p l e s m args below meth cd g QS H locs sl C R hH hS hl))
  | lt =>
    have h : if x < 0 then (k (tg pc off) ls r c z L F A) else (k (pc + 3) ls r c z L F A) := h
    exact lv_if_lt C.1 C.2.1 hd ht (fun hc => by rw [if_pos hc] at h; exact (hk _ _ _ _ _ _ _ _ h p l e s m args below meth cd g QS H locs sl C R hH hS hl)) (fun hc => by rw [if_neg hc] at h; exact (hk _ _ _ _ _ _ _ _ h p l e s m args below meth cd g QS H locs sl C R hH hS hl))
  | ge =>
    have h : if x < 0 then (k (pc + 3) ls r c z L F A) else (k (tg pc off) ls r c z L F A) := h
    exact lv_if_ge C.1 C.2.1 hd ht (fun hc => by rw [if_neg (Int32.not_lt.mpr hc)] at h; exact (hk _ _ _ _ _ _ _ _ h p l e s m args below meth cd g QS H locs sl C R hH hS hl)) (fun hc => by rw [if_pos (Int32.not_le.mp hc)] at h; exact (hk _ _ _ _ _ _ _ _ h p l e s m args below meth cd g QS H locs sl C R hH hS hl))
  | gt =>
    have h : if 0 < x then (k (tg pc off) ls r c z L F A) else (k (pc + 3) ls r c z L F A) := h
    exact lv_if_gt C.1 C.2.1 hd ht (fun hc => by rw [if_pos hc] at h; exact (hk _ _ _ _ _ _ _ _ h p l e s m args below meth cd g QS H locs sl C R hH hS hl)) (fun hc => by rw [if_neg hc] at h; exact (hk _ _ _ _ _ _ _ _ h p l e s m args below meth cd g QS H locs sl C R hH hS hl))
  | le =>
    have h : if 0 < x then (k (pc + 3) ls r c z L F A) else (k (tg pc off) ls r c z L F A) := h
    exact lv_if_le C.1 C.2.1 hd ht (fun hc => by rw [if_neg (Int32.not_lt.mpr hc)] at h; exact (hk _ _ _ _ _ _ _ _ h p l e s m args below meth cd g QS H locs sl C R hH hS hl)) (fun hc => by rw [if_pos (Int32.not_le.mp hc)] at h; exact (hk _ _ _ _ _ _ _ _ h p l e s m args below meth cd g QS H locs sl C R hH hS hl))
theorem so_if_icmp {cn : ClassFile.Cond} {off : Int} (ho : o = mO M) (hk : KO M k Q) (hd : decode (mB M) pc = .ok (.if_icmp cn off, len)) (h : sop M o k Q (.if_icmp cn off) len pc ls st c z L F A) : Ok M pc ls st c z L F A Q := by
  obtain ⟨⟨rfl, h0⟩, h⟩ := h
  obtain ⟨x, y, r, rfl, h⟩ := pII_ok h
  have ht : (pc : Int) + off = ((tg pc off : Nat) : Int) := by unfold tg; omega
  intro p l e s m args below meth cd g QS H locs sl C R hH hS hl
  cases cn with
  | eq =>
    have h : if x = y then (k (tg pc off) ls r c z L F A) else (k (pc + 3) ls r c z L F A) := h
    exact lv_icmp_eq C.1 C.2.1 hd ht (fun hc => by rw [if_pos hc] at h; exact (hk _ _ _ _ _ _ _ _ h p l e s m args below meth cd g QS H locs sl C R hH hS hl)) (fun hc => by rw [if_neg hc] at h; exact (hk _ _ _ _ _ _ _ _ h p l e s m args below meth cd g QS H locs sl C R hH hS hl))
  | ne =>
    have h : if x = y then (k (pc + 3) ls r c z L F A) else (k (tg pc off) ls r c z L F A) := h
    exact lv_icmp_ne C.1 C.2.1 hd ht (fun hc => by rw [if_neg hc] at h; exact (hk _ _ _ _ _ _ _ _ h p l e s m args below meth cd g QS H locs sl C R hH hS hl)) (fun hc => by rw [if_pos hc] at h; exact (hk _ _ _ _ _ _ _ _ h p l e s m args below meth cd g QS H locs sl C R hH hS hl))
  | lt =>
    have h : if x < y then (k (tg pc off) ls r c z L F A) else (k (pc + 3) ls r c z L F A) := h
    exact lv_icmp_lt C.1 C.2.1 hd ht (fun hc => by rw [if_pos hc] at h; exact (hk _ _ _ _ _ _ _ _ h p l e s m args below meth cd g QS H locs sl C R hH hS hl)) (fun hc => by rw [if_neg hc] at h; exact (hk _ _ _ _ _ _ _ _ h p l e s m args below meth cd g QS H locs sl C R hH hS hl))
  | ge =>
    have h : if x < y then (k (pc + 3) ls r c z L F A) else (k (tg pc off) ls r c z L F A) := h
    exact lv_icmp_ge C.1 C.2.1 hd ht (fun hc => by rw [if_neg (Int32.not_lt.mpr hc)] at h; exact (hk _ _ _ _ _ _ _ _ h p l e s m args below meth cd g QS H locs sl C R hH hS hl)) (fun hc => by rw [if_pos (Int32.not_le.mp hc)] at h; exact (hk _ _ _ _ _ _ _ _ h p l e s m args below meth cd g QS H locs sl C R hH hS hl))
  | gt =>
    have h : if y < x then (k (tg pc off) ls r c z L F A) else (k (pc + 3) ls r c z L F A) := h
    exact lv_icmp_gt C.1 C.2.1 hd ht (fun hc => by rw [if_pos hc] at h; exact (hk _ _ _ _ _ _ _ _ h p l e s m args below meth cd g QS H locs sl C R hH hS hl)) (fun hc => by rw [if_neg hc] at h; exact (hk _ _ _ _ _ _ _ _ h p l e s m args below meth cd g QS H locs sl C R hH hS hl))
  | le =>
    have h : if y < x then (k (pc + 3) ls r c z L F A) else (k (tg pc off) ls r c z L F A) := h
    exact lv_icmp_le C.1 C.2.1 hd ht (fun hc => by rw [if_neg (Int32.not_lt.mpr hc)] at h; exact (hk _ _ _ _ _ _ _ _ h p l e s m args below meth cd g QS H locs sl C R hH hS hl)) (fun hc => by rw [if_pos (Int32.not_le.mp hc)] at h; exact (hk _ _ _ _ _ _ _ _ h p l e s m args below meth cd g QS H locs sl C R hH hS hl))
theorem so_goto {off : Int} (ho : o = mO M) (hk : KO M k Q) (hd : decode (mB M) pc = .ok (.goto off, len)) (h : sop M o k Q (.goto off) len pc ls st c z L F A) : Ok M pc ls st c z L F A Q := by
  obtain ⟨rfl, h⟩ := h
  obtain ⟨ht, h⟩ := jp_ok h
  intro p l e s m args below meth cd g QS H locs sl C R hH hS hl
  exact lv_goto C.1 C.2.1 hd ht (hk _ _ _ _ _ _ _ _ h p l e s m args below meth cd g QS H locs sl C R hH hS hl)
theorem swt_ok {x : Int32} {pc : Nat} {f : Nat → Prop} {d : Int} : ∀ (offs : List Int) (lo : Int), -2147483648 ≤ lo → lo + (offs.length : Int) ≤ 2147483648 → swt x pc f d offs lo → ((x.toInt < lo ∨ lo + (offs.length : Int) ≤ x.toInt) ∧ jp pc d f) ∨ (lo ≤ x.toInt ∧ ∃ off, offs[(x.toInt - lo).toNat]? = some off ∧ jp pc off f)
  | [], lo, h1, h2, h => by
    left
    refine ⟨?_, h⟩
    simp
    omega
  | a :: r, lo, h1, h2, h => by
    have h : if x = Int32.ofInt lo then jp pc a f else swt x pc f d r (lo + 1) := h
    have e : (Int32.ofInt lo).toInt = lo := Int32.toInt_ofInt_of_le h1 (by simp at h2; omega)
    by_cases hx : x = Int32.ofInt lo
    · rw [if_pos hx] at h
      right
      have ex : x.toInt = lo := by rw [hx]; exact e
      exact ⟨by omega, a, by rw [ex]; simp, h⟩
    · rw [if_neg hx] at h
      have nx : x.toInt ≠ lo := fun q => hx (Int32.toInt_inj.mp (by rw [e]; exact q))
      rcases swt_ok r (lo + 1) (by omega) (by simp at h2; omega) h with ⟨h3, h4⟩ | ⟨h3, off, h4, h5⟩
      · left
        refine ⟨?_, h4⟩
        simp
        omega
      · right
        refine ⟨by omega, off, ?_, h5⟩
        rw [show (x.toInt - lo).toNat = (x.toInt - (lo + 1)).toNat + 1 by omega]
        simpa using h4
theorem so_tableswitch {d lo hi : Int} {offs : Array Int} (ho : o = mO M) (hk : KO M k Q) (hd : decode (mB M) pc = .ok (.tableswitch d lo hi offs, len)) (h : sop M o k Q (.tableswitch d lo hi offs) len pc ls st c z L F A) : Ok M pc ls st c z L F A Q := by
  obtain ⟨x, r, rfl, ⟨h1, h2, h3⟩, h⟩ := pI_ok h
  intro p l e s m args below meth cd g QS H locs sl C R hH hS hl
  rcases swt_ok offs.toList lo h1 (by omega) h with ⟨hr, h⟩ | ⟨hr, off, ho2, h⟩
  · obtain ⟨ht, h⟩ := jp_ok h
    exact lv_tableOut C.1 C.2.1 hd (by omega) ht (hk _ _ _ _ _ _ _ _ h p l e s m args below meth cd g QS H locs sl C R hH hS hl)
  · obtain ⟨ht, h⟩ := jp_ok h
    have hlt : (x.toInt - lo).toNat < offs.toList.length := (List.getElem?_eq_some_iff.mp ho2).1
    exact lv_tableIn C.1 C.2.1 hd (by omega) (by omega) (by rw [← Array.getElem?_toList]; exact ho2) ht (hk _ _ _ _ _ _ _ _ h p l e s m args below meth cd g QS H locs sl C R hH hS hl)
theorem so_ldc2_w {i : Nat} (ho : o = mO M) (hk : KO M k Q) (hd : decode (mB M) pc = .ok (.ldc2_w i, len)) (h : sop M o k Q (.ldc2_w i) len pc ls st c z L F A) : Ok M pc ls st c z L F A Q := by
  obtain ⟨rfl, h⟩ := h
  subst ho
  split at h
  · next v hv =>
    have hw : okJ _ := tJ_ok _ (lk_mem hv)
    intro p l e s m args below meth cd g QS H locs sl C R hH hS hl
    exact lv_ldc2 C.1 C.2.1 C.2.2.2.1 (C.2.2.2.2.1 _ hw) hd (hk _ _ _ _ _ _ _ _ h p l e s m args below meth cd g QS H locs sl C R hH hS hl)
  · exact h.elim
theorem so_ldc_w {i : Nat} (ho : o = mO M) (hk : KO M k Q) (hd : decode (mB M) pc = .ok (.ldc_w i, len)) (h : sop M o k Q (.ldc_w i) len pc ls st c z L F A) : Ok M pc ls st c z L F A Q := by
  obtain ⟨rfl, h⟩ := h
  subst ho
  split at h
  · next v hv =>
    have hw : okI _ := tI_ok _ (lk_mem hv)
    intro p l e s m args below meth cd g QS H locs sl C R hH hS hl
    exact lv_ldcw C.1 C.2.1 C.2.2.2.1 (C.2.2.2.2.1 _ hw) hd (hk _ _ _ _ _ _ _ _ h p l e s m args below meth cd g QS H locs sl C R hH hS hl)
  · exact h.elim
theorem so_ldc {i : Nat} (ho : o = mO M) (hk : KO M k Q) (hd : decode (mB M) pc = .ok (.ldc i, len)) (h : sop M o k Q (.ldc i) len pc ls st c z L F A) : Ok M pc ls st c z L F A Q := by
  obtain ⟨rfl, h⟩ := h
  subst ho
  split at h
  · next v hv =>
    have hw : okI _ := tI_ok _ (lk_mem hv)
    intro p l e s m args below meth cd g QS H locs sl C R hH hS hl
    exact lv_ldc C.1 C.2.1 C.2.2.2.1 (C.2.2.2.2.1 _ hw) hd (hk _ _ _ _ _ _ _ _ h p l e s m args below meth cd g QS H locs sl C R hH hS hl)
  · split at h
    · next j hj =>
      obtain ⟨hj3, e1⟩ : okT ((mO M, i), j) := tT_ok _ (lk_mem hj)
      obtain ⟨e2, e3⟩ := Prod.mk.inj e1
      simp only at e2 e3
      intro p l e s m args below meth cd g QS H locs sl C R hH hS hl
      have hR := C.2.2.2.2.2.2.2.2.2.1.2.2.2.1 j hj3
      have ea : gV g (.ref (1000 + j)) = .ref (g.2.2.2.2 j) := by
        show Value.ref (gA g (1000 + j)) = _
        unfold gA
        rw [if_neg (by omega), Nat.add_sub_cancel_left]
      have hk2 := (hk _ _ _ _ _ _ _ _ h p l e s m args below meth cd g QS H locs sl C R hH hS hl)
      rw [List.map_cons, ea] at hk2
      rw [← e3] at hR
      exact va_ldcS C.1 C.2.1 (own := RX7) (by have := C.2.2.2.1; rw [e2] at this; exact this) hR hd hk2
    · exact h.elim
theorem so_getstatic {i : Nat} (ho : o = mO M) (hk : KO M k Q) (hd : decode (mB M) pc = .ok (.getstatic i, len)) (h : sop M o k Q (.getstatic i) len pc ls st c z L F A) : Ok M pc ls st c z L F A Q := by
  obtain ⟨rfl, h⟩ := h
  subst ho
  split at h
  · next u ns hu =>
    have hw : okG ((mO M, i), (u, ns)) := tG_ok _ (lk_mem hu)
    have hu4 : u = 9 ∨ u < 3 := by
      have hall : ∀ q ∈ tG, q.2.1 = 9 ∨ q.2.1 < 3 := by decide
      exact hall _ (lk_mem hu)
    intro p l e s m args below meth cd g QS H locs sl C R hH hS hl
    have hk2 := (hk _ _ _ _ _ _ _ _ h p l e s m args below meth cd g QS H locs sl C R hH hS hl)
    rw [List.map_cons] at hk2
    have key : ∀ v, gV g (if u = 9 then .int 1 else .ref (1200 + u)) = v → va_Z (gC u) (gN u) (gD u) v (gR g) s s.heap → W p l e (mR M) s m args below meth cd H locs c z QS (F0 m pc sl (st.map (gV g))) := by
      intro v hv hZ
      rw [hv] at hk2
      cases ns with
      | false => exact va_gets C.1 C.2.1 hZ hS C.2.2.2.1 (C.2.2.2.2.1 _ hw) (fun _ hx => hx) hd hk2
      | true =>
        obtain ⟨host, hw⟩ := hw
        exact va_getsN C.1 C.2.1 hZ hS C.2.2.2.1 (C.2.2.2.2.1 _ hw) (fun _ hx => hx) hd hk2
    rcases hu4 with rfl | hu3
    · exact key (.int 1) rfl C.2.2.2.2.2.2.2.2.2.1.2.1
    · have hne : ¬ u = 9 := by omega
      refine key (.ref (g.2.2.2.2 (200 + u))) ?_ ?_
      · rw [if_neg hne]
        show Value.ref (gA g (1200 + u)) = _
        unfold gA
        rw [if_neg (by omega), show 1200 + u - 1000 = 200 + u by omega]
      · have := (C.2.2.2.2.2.2.2.2.2.1.1 u hu3).1
        unfold gC gN gD
        rw [if_neg hne, if_neg hne, if_neg hne]
        exact this
  · exact h.elim
end SO
