-- the library's own calls, and the walk as a whole
set_option maxRecDepth 100000 in
theorem tb_sMin : Cond.static Lib.Math.min.name ∈ lw_ok := in_t 436 (by decide +kernel) rfl
theorem tb_sMax : Cond.static Lib.Math.max.name ∈ lw_ok := in_t 767 (by decide +kernel) rfl
theorem tb_sAbs : Cond.static Lib.Math.abs.name ∈ lw_ok := in_t 840 (by decide +kernel) rfl
theorem tb_cMin : Cond.code Lib.Math.min.name Lib.Math.min.code 2 (some .int) ∈ lw_ok := in_t 437 (by decide +kernel) rfl
theorem tb_cMax : Cond.code Lib.Math.max.name Lib.Math.max.code 2 (some .int) ∈ lw_ok := in_t 768 (by decide +kernel) rfl
theorem tb_cAbs : Cond.code Lib.Math.abs.name Lib.Math.abs.code 1 (some .int) ∈ lw_ok := in_t 841 (by decide +kernel) rfl
theorem tb_iMath : Cond.initialized "java/lang/Math" ∈ lw_ok := in_t 14 (by decide +kernel) rfl
theorem tb_iSys : Cond.initialized "java/lang/System" ∈ lw_ok := in_t 10 (by decide +kernel) rfl
theorem tb_nCpy : Cond.native arraycopyName ∈ lw_ok := in_t 231 (by decide +kernel) rfl
theorem tb_sCpy : Cond.static arraycopyName ∈ lw_ok := in_t 230 (by decide +kernel) rfl
theorem tb_oInst : Cond.instanceMethod Lib.objectInit ∈ lw_ok := in_t 25 (by decide +kernel) rfl
theorem tb_oCode : Cond.code Lib.objectInit ⟨#[0xb1]⟩ 1 none ∈ lw_ok := in_t 26 (by decide +kernel) rfl
section SB
variable {M : xM} {o : Nat} {k : xK} {Q : xQ} {pc len : Nat} {ls : xS} {st : List Value} {c z : Nat} {L : xL} {F : xF} {A : xA}
theorem so_invokespecial {i : Nat} (ho : o = mO M) (hk : KO M k Q) (hd : decode (mB M) pc = .ok (.invokespecial i, len)) (h : sop M o k Q (.invokespecial i) len pc ls st c z L F A) : Ok M pc ls st c z L F A Q := by
  obtain ⟨rfl, h⟩ := h
  split at h
  · next u hu =>
    obtain ⟨rfl, hlv, h⟩ := h
    obtain ⟨a, r, rfl, hr, h⟩ := pR_ok h
    subst ho
    have hw : okB ((mO M, i), 3) := tB_ok _ (lk_mem hu)
    intro p l e s m args below meth cd g QS H locs sl C R hH hS hl
    have hts := C.2.2.2.2.1
    rw [List.map_cons]
    refine W.objInit C.1 C.2.1 C.2.2.2.1 (hts _ hw) (hts _ tb_oInst) (hts _ tb_oCode) (g := F0 m pc sl (gV g (.ref a) :: r.map (gV g))) rfl (hl.1.trans C.2.2.1.symm) (a := gA g a) (rest := r.map (gV g)) rfl hd hlv ?_ (hk _ _ _ _ _ _ _ _ h p l e s m args below meth cd g QS H locs sl C R hH hS hl)
    have := cat_sum (r.map (gV g))
    show 2 * 0 + _ + 12 ≤ 37 * mV M
    simp at this ⊢
    omega
  · exact so_cl ho hk (Or.inr (Or.inr ⟨rfl, hd⟩)) h
theorem so_invokevirtual {i : Nat} (ho : o = mO M) (hk : KO M k Q) (hd : decode (mB M) pc = .ok (.invokevirtual i, len)) (h : sop M o k Q (.invokevirtual i) len pc ls st c z L F A) : Ok M pc ls st c z L F A Q := by
  obtain ⟨rfl, h⟩ := h
  exact so_cl ho hk (Or.inl ⟨rfl, hd⟩) h
theorem so_invokestatic {i : Nat} (ho : o = mO M) (hk : KO M k Q) (hd : decode (mB M) pc = .ok (.invokestatic i, len)) (h : sop M o k Q (.invokestatic i) len pc ls st c z L F A) : Ok M pc ls st c z L F A Q := by
  obtain ⟨rfl, h⟩ := h
  split at h
  · next u hu =>
    obtain ⟨⟨hlv, hc1, hz1⟩, h⟩ := h
    subst ho
    have hw : okB ((mO M, i), u) := tB_ok _ (lk_mem hu)
    intro p l e s m args below meth cd g QS H locs sl C R hH hS hl
    have hts := C.2.2.2.2.1
    have hml : cd.maxLocals = sl.size := C.2.2.1.trans hl.1.symm
    have hlo : ∀ r : List Value, r.length ≤ 4 → ((r.map (gV g)).map fun v => v.category).sum + 13 ≤ (mR M).locals := by
      intro r hr
      have := cat_sum (r.map (gV g))
      show _ ≤ 37 * mV M
      simp at this ⊢
      omega
    match u, hw, h with
    | 0, hw, h' =>
      obtain ⟨x, y, r, rfl, hr, h2⟩ := pII_ok h'
      exact va_mmin C.1 C.2.1 hml C.2.2.2.1 (hts _ hw) (hts _ tb_sMin) (hts _ tb_iMath) (hts _ tb_cMin) hlv (hlo r hr) hc1 hz1 hd (hk _ _ _ _ _ _ _ _ h2 p l e s m args below meth cd g QS H locs sl C R hH hS hl)
    | 1, hw, h' =>
      obtain ⟨x, y, r, rfl, hr, h2⟩ := pII_ok h'
      exact va_mmax C.1 C.2.1 hml C.2.2.2.1 (hts _ hw) (hts _ tb_sMax) (hts _ tb_iMath) (hts _ tb_cMax) hlv (hlo r hr) hc1 hz1 hd (hk _ _ _ _ _ _ _ _ h2 p l e s m args below meth cd g QS H locs sl C R hH hS hl)
    | 2, hw, h' =>
      obtain ⟨x, r, rfl, hr, h2⟩ := pI_ok h'
      exact va_mabs C.1 C.2.1 hml C.2.2.2.1 (hts _ hw) (hts _ tb_sAbs) (hts _ tb_iMath) (hts _ tb_cAbs) hlv (hlo r hr) hc1 hz1 hd (hk _ _ _ _ _ _ _ _ h2 p l e s m args below meth cd g QS H locs sl C R hH hS hl)
    | 3, hw, h' => exact h'.elim
    | 4, hw, h' =>
      obtain ⟨a, sp, b, dp, n, r, rfl, hr, g1, g2, g3, hb, hL1, h5, h2⟩ := pCpy_ok h'
      split at h2
      · next n0 f hq =>
        obtain ⟨hne, h4, h6⟩ := h2
        have hL : L.getD b (0, 0) = (1, (L.getD b (0, 0)).2) := by rw [← hL1]
        have hat := gAt (F := F) (A := A) (g := g) hL (by simp)
        rw [gE_int] at hat
        have hsrc : ∃ (b0 : Nat) (scr : Cell), gV g (.ref a) = .ref b0 ∧ H[b0]? = some scr ∧ s.isArrayOf scr .int ∧ scr.vm ≠ .unknown ∧ n0 ≤ scr.slots.size ∧ ∀ j, j < n0 → scr.slots[j]? = some (.int (f j)) := by
          rcases ald_ok hq with ⟨ha, hLa, rfl⟩ | ⟨-, e1, -⟩ | ⟨-, b', hb', rfl, rfl, rfl⟩ | ⟨ht, -⟩
          · have hata := gAt (F := F) (A := A) (g := g) hLa (by simp)
            rw [gE_int] at hata
            have hc := hH.2.2 a _ hata
            refine ⟨_, vp_cell g.2.1 (n0, .inl (A a)), gV_ref ha, hc, (C.2.2.2.2.2.2.2.2.1.2 0 (g.2.1, .int) rfl).1 n0 (fun j => .int (A a j)), (fun q => by cases q), (by rw [vp_cell_i, arrV_size]; exact Nat.le_refl _), (fun j hj => by rw [vp_cell_i, arrV_read _ _ hj])⟩
          · exact absurd e1 hne
          · obtain ⟨scr, q1, q2, q3, q4, q5, q6, q7⟩ := (C.2.2.2.2.2.2.2.2.2.1.1 b' hb').2
            exact ⟨_, scr, gV_hi g _, by rw [hS.2.1 _ (Array.getElem?_eq_some_iff.mp q1).1 q7]; exact q1, q2, q3, q4, q6⟩
          · cases ht
        obtain ⟨b0, scr, ea, q1, q2, q3, q4, q6⟩ := hsrc
        show W p l e (mR M) s m args below meth cd H locs c z QS (F0 m pc sl (.int n :: .int dp :: gV g (.ref b) :: .int sp :: gV g (.ref a) :: r.map (gV g)))
        rw [ea, gV_ref hb]
        refine x_copy C.1 C.2.1 hml C.2.2.2.1 (hts _ hw) (hts _ tb_nCpy) (hts _ tb_sCpy) (hts _ tb_iSys) C.2.2.2.2.2.2.2.2.1 hH.2.2 (gW_D g L F A) hS q1 q2 q3 q4 q6 b 0 hat rfl g1 g2 g3 h4 h5 hlv ?_ hd (fun H1 locs1 hz hP1 hS1 => ?_)
        · have := cat_sum (r.map (gV g))
          have e7 : nativeFrameWords "java/lang/System" "arraycopy" 5 = 7 := by decide
          rw [e7]
          show _ ≤ 37 * mV M
          simp at this ⊢
          omega
        · rw [gW_setI hL] at hP1
          exact hk _ _ _ _ _ _ _ _ h6 p l e s m args below meth cd g QS H1 locs1 sl C R ⟨by rw [hz]; exact hH.1, hH.2.1, hP1⟩ hS1 hl
      · exact h2.elim
    | q + 5, hw, h' => exact h'.elim
  · exact so_cl ho hk (Or.inr (Or.inl ⟨rfl, hd⟩)) h
theorem sop_ok {ins : Instr} (ho : o = mO M) (hk : KO M k Q) (hd : decode (mB M) pc = .ok (ins, len)) (h : sop M o k Q ins len pc ls st c z L F A) : Ok M pc ls st c z L F A Q := by
  cases ins with
  | iconst => exact so_iconst ho hk hd h
  | bipush => exact so_bipush ho hk hd h
  | sipush => exact so_sipush ho hk hd h
  | lconst => exact so_lconst ho hk hd h
  | ldc => exact so_ldc ho hk hd h
  | ldc_w => exact so_ldc_w ho hk hd h
  | ldc2_w => exact so_ldc2_w ho hk hd h
  | iload => exact so_iload ho hk hd h
  | iload_n => exact so_iload_n ho hk hd h
  | lload => exact so_lload ho hk hd h
  | lload_n => exact so_lload_n ho hk hd h
  | aload => exact so_aload ho hk hd h
  | aload_n => exact so_aload_n ho hk hd h
  | istore => exact so_istore ho hk hd h
  | istore_n => exact so_istore_n ho hk hd h
  | lstore => exact so_lstore ho hk hd h
  | lstore_n => exact so_lstore_n ho hk hd h
  | astore => exact so_astore ho hk hd h
  | astore_n => exact so_astore_n ho hk hd h
  | iinc => exact so_iinc ho hk hd h
  | iadd => exact so_iadd ho hk hd h
  | isub => exact so_isub ho hk hd h
  | imul => exact so_imul ho hk hd h
  | iand => exact so_iand ho hk hd h
  | ior => exact so_ior ho hk hd h
  | ixor => exact so_ixor ho hk hd h
  | ishl => exact so_ishl ho hk hd h
  | ishr => exact so_ishr ho hk hd h
  | idiv => exact so_idiv ho hk hd h
  | irem => exact so_irem ho hk hd h
  | ladd => exact so_ladd ho hk hd h
  | lmul => exact so_lmul ho hk hd h
  | land => exact so_land ho hk hd h
  | lor => exact so_lor ho hk hd h
  | ldiv => exact so_ldiv ho hk hd h
  | lcmp => exact so_lcmp ho hk hd h
  | lshl => exact so_lshl ho hk hd h
  | lshr => exact so_lshr ho hk hd h
  | i2l => exact so_i2l ho hk hd h
  | l2i => exact so_l2i ho hk hd h
  | i2c => exact so_i2c ho hk hd h
  | dup => exact so_dup ho hk hd h
  | pop => exact so_pop ho hk hd h
  | dup_x1 => exact so_dup_x1 ho hk hd h
  | dup2 => exact so_dup2 ho hk hd h
  | ifCond => exact so_ifCond ho hk hd h
  | if_icmp => exact so_if_icmp ho hk hd h
  | goto => exact so_goto ho hk hd h
  | tableswitch => exact so_tableswitch ho hk hd h
  | getfield => exact so_getfield ho hk hd h
  | putfield => exact so_putfield ho hk hd h
  | getstatic => exact so_getstatic ho hk hd h
  | iaload => exact so_iaload ho hk hd h
  | baload => exact so_baload ho hk hd h
  | iastore => exact so_iastore ho hk hd h
  | bastore => exact so_bastore ho hk hd h
  | arraylength => exact so_arraylength ho hk hd h
  | newarray => exact so_newarray ho hk hd h
  | new => exact so_new ho hk hd h
  | invokevirtual => exact so_invokevirtual ho hk hd h
  | invokestatic => exact so_invokestatic ho hk hd h
  | invokespecial => exact so_invokespecial ho hk hd h
  | ireturn => exact so_ireturn ho hk hd h
  | return_ => exact so_return ho hk hd h
  | _ => exact h.elim
theorem sin_ok {b : ByteArray} (hb : b = mB M) (ho : o = mO M) (hk : KO M k Q) (h : sin M b o k Q pc ls st c z L F A) : Ok M pc ls st c z L F A Q := by
  subst hb
  unfold sin at h
  split at h
  · next ins len hd => exact sop_ok ho hk hd h
  · exact h.elim
theorem seg_ok {b : ByteArray} {K : Nat → Option xC} (hb : b = mB M) (ho : o = mO M) (hK : ∀ pc P, K pc = some P → ∀ ls st c z L F A, P ls st c z L F A → Ok M pc ls st c z L F A Q) : ∀ n, KO M (seg M b o K Q n) Q
  | 0 => fun _ _ _ _ _ _ _ _ h => h.elim
  | n + 1 => fun pc ls st c z L F A h => by
    unfold seg at h
    split at h
    · next P hP => exact hK pc P hP ls st c z L F A h
    · exact sin_ok hb ho (seg_ok hb ho hK n) h
/-- from a cut on: the walk with cuts K, each cut's own proposition leading on -/
theorem ok_seg {b : ByteArray} (n : Nat) (K : Nat → Option xC) (hb : b = mB M) (ho : o = mO M) (h : sin M b o (seg M b o K Q n) Q pc ls st c z L F A) (hK : ∀ pc P, K pc = some P → ∀ ls st c z L F A, P ls st c z L F A → Ok M pc ls st c z L F A Q) : Ok M pc ls st c z L F A Q :=
  sin_ok hb ho (seg_ok hb ho hK n) h
def lE (as : List Value) : xS := as.flatMap fun v => if v.category = 2 then [some v, none] else [some v]
theorem lE_args (g : xG) : ∀ (as : List Value) (i j : Nat) (v : Value), (lE as)[j]? = some (some v) → (i + j, gV g v) ∈ lv_args i (as.map (gV g))
  | [], i, j, v, h => by simp [lE] at h
  | a :: r, i, j, v, h => by
    have hcat := gV_cat g a
    unfold lE at h
    rw [List.flatMap_cons] at h
    rw [List.map_cons]
    unfold lv_args
    by_cases hc : a.category = 2
    · rw [if_pos hc] at h
      rw [if_pos (by rw [hcat]; exact hc)]
      match j, h with
      | 0, h => simp at h; subst h; exact List.mem_cons_self
      | 1, h => simp at h
      | j + 2, h =>
        have h' : (lE r)[j]? = some (some v) := by simpa [lE] using h
        have := lE_args g r (i + 2) j v h'
        rw [show i + 2 + j = i + (j + 2) by omega] at this
        exact List.mem_cons_of_mem _ this
    · rw [if_neg hc] at h
      rw [if_neg (by rw [hcat]; exact hc)]
      match j, h with
      | 0, h => simp at h; subst h; exact List.mem_cons_self
      | j + 1, h =>
        have h' : (lE r)[j]? = some (some v) := by simpa [lE] using h
        have := lE_args g r (i + 1) j v h'
        rw [show i + 1 + j = i + (j + 1) by omega] at this
        exact List.mem_cons_of_mem _ this
theorem lE_len (g : xG) (as : List Value) : (lg_sl (as.map (gV g))).length = (lE as).length := by
  induction as with
  | nil => rfl
  | cons a r ih =>
    have hcat := gV_cat g a
    simp only [lg_sl, lE, List.map_cons, List.flatMap_cons, List.length_append] at ih ⊢
    rw [ih, hcat]
    split <;> rfl
/-- a method's contract, out of its walk from the entry -/
theorem call_of (M : xM) (as : List Value) (L : xL) (F : xF) (A : xA) (Q : xQ) {ls : xS} (hls : lE as ++ List.replicate (mN M - (lE as).length) none = ls) (hln : (lE as).length ≤ mN M) (hpl : plainName (mY M).cls = true) (hown : xO (mO M) = (mY M).cls) (hx : mX M = none) (h : Ok M 0 ls [] 0 0 L F A Q) : CallOk M as L F A Q := by
  intro l g
  refine Met.ofW (cc := mB M) (maxL := mN M) (ret := mT M) hpl rfl ?_
  intro p e s m args below meth cd s₁ B hml hP
  obtain ⟨rfl, hH, hK, hG⟩ := hP
  have htw := atoms_spec (ws := mW M) B.pre
  have hts : ∀ w ∈ lw_ok, w.before (as.map (gV g)).toArray s = true := by
    intro w hw
    obtain ⟨h1, h2⟩ := List.mem_filter.mp hw
    by_cases hg : goodWord w = true
    · exact htw w (List.mem_cons_of_mem _ (List.mem_filter.mpr ⟨h1, hg⟩))
    · have hn : nestW w = true := by
        unfold xgd at h2
        simpa [hg] using h2
      exact va_Nw.use (nestW_tab hn) (hG.2.2.2.2.2 w h1 hn)
  have hC : Cx M p s m (as.map (gV g)).toArray meth cd g := ⟨B.exec, B.bytes, hml, by rw [hown]; exact findClass_of_methodNamed B.named, hts, B.returns, B.notSynchronized, (name_of_methodNamed B.named B.method).1, hK, hG, by rw [hH.1]; exact Nat.le_add_right _ _, fun n f h => by rw [hx] at h; cases h⟩
  have hent := lv_entry (as.map (gV g)) (n := mN M) (by rw [lE_len]; exact hln)
  rw [lg_entry_eq]
  generalize (lg_sl (as.map (gV g)) ++ List.replicate (mN M - (lg_sl (as.map (gV g))).length) Slot.unset).toArray = sl at hent ⊢
  refine h p l e s m _ below meth cd g _ s.heap [] sl hC ?_ hH ⟨Nat.le_refl _, fun _ _ _ => rfl, fun q hq => absurd hq List.not_mem_nil⟩ ⟨hent.1, hent.2.1, ?_, ?_⟩
  · intro pc sl r L F A H locs hQ hH2 hS2 hr
    have hq : ∀ t : State, t.heap = H → s.WarmedH t.vm → mQ g Q (as.map (gV g)).toArray s (.returned (r.map (gV g))) t := by
      intro t ht hW
      exact ⟨⟨r, L, F, A, rfl, hQ, by rw [ht]; exact hH2⟩, by rw [ht]; exact hS2.1, fun q h1 h2 => by rw [ht]; exact hS2.2.1 q h1 h2⟩
    rcases hr with ⟨v, rfl, hd, ty, hty, hn⟩ | ⟨rfl, hd, hty⟩
    · exact W.zret B.exec B.bytes (B.returns.trans hty) hn hq hS2.2.2 hd
    · exact W.vret B.exec B.bytes (B.returns.trans hty) hq hS2.2.2 hd
  · rw [← hls]
    simp
    omega
  · intro i v hv
    have hv2 : (lE as)[i]? = some (some v) := by
      rw [← hls] at hv
      by_cases hi : i < (lE as).length
      · rw [List.getElem?_append_left hi] at hv
        exact hv
      · rw [List.getElem?_append_right (Nat.not_lt.mp hi)] at hv
        rw [List.getElem?_replicate] at hv
        split at hv <;> cases hv
    have := lE_args g as 0 i v hv2
    rw [Nat.zero_add] at this
    exact hent.2.2 _ this
end SB
