-- fields, rows, new cells
section SP
variable {M : xM} {o : Nat} {k : xK} {Q : xQ} {pc len : Nat} {ls : xS} {st : List Value} {c z : Nat} {L : xL} {F : xF} {A : xA}
theorem gV_ref {g : xG} {a : Nat} (h : a < 1000) : gV g (.ref a) = .ref (g.2.2.2.1 + a) := by
  show Value.ref (gA g a) = _
  unfold gA
  rw [if_pos h]
theorem gV_hi (g : xG) (a : Nat) : gV g (.ref (1000 + a)) = .ref (g.2.2.2.2 a) := by
  show Value.ref (gA g (1000 + a)) = _
  unfold gA
  rw [if_neg (by omega), Nat.add_sub_cancel_left]
theorem dfl_V (g : xG) (ci j : Nat) : gV g (dfl ci j) = dfl ci j := by
  unfold dfl
  split
  · split <;> rfl
  · rfl
theorem gAt {g : xG} {a : Nat} {d : Nat × Nat} (hL : L.getD a (0, 0) = d) (hd : d.1 ≠ 0) : (gW g L F A)[a]? = some (g.2.2.2.1 + a, gE g d (F a) (A a)) := by
  rw [gW_at g L F A (gD_lt (by rw [hL]; exact hd)), hL]
theorem so_getfield {i : Nat} (ho : o = mO M) (hk : KO M k Q) (hd : decode (mB M) pc = .ok (.getfield i, len)) (h : sop M o k Q (.getfield i) len pc ls st c z L F A) : Ok M pc ls st c z L F A Q := by
  obtain ⟨rfl, h⟩ := h
  obtain ⟨a, r, rfl, h⟩ := pR_ok h
  subst ho
  split at h
  · next ci j n ns rf fi hc =>
    obtain ⟨ha, hL, h⟩ := h
    obtain ⟨CC, T, N, hcl, hN, hj, -, -, hw⟩ : okF ((mO M, i), (ci, j, n, ns, rf, fi)) := tF_ok _ (lk_mem hc)
    subst hN
    intro p l e s m args below meth cd g QS H locs sl C R hH hS hl
    have hat := gAt (F := F) (A := A) (g := g) hL (by simp)
    rw [gE_obj] at hat
    have hk2 := hk _ _ _ _ _ _ _ _ h p l e s m args below meth cd g QS H locs sl C R hH hS hl
    rw [List.map_cons] at hk2
    rw [List.map_cons, gV_ref ha]
    have hv : ((List.range N).map fun k => gV g (F a k))[j]? = some (gV g (F a j)) := by simp [List.getElem?_map, List.getElem?_range hj]
    have hG := clOk hcl
    cases ns with
    | false => exact va_get C.1 C.2.1 C.2.2.2.2.1 hG.1 C.2.2.2.1 C.2.2.2.2.2.2.2.2.1 hH.2.2 a hat hcl j hj (C.2.2.2.2.1 _ hw) (fun _ hx => hx) hv hd hk2
    | true =>
      obtain ⟨host, hw⟩ := hw
      exact va_getN C.1 C.2.1 C.2.2.2.2.1 hG.1 C.2.2.2.1 C.2.2.2.2.2.2.2.2.1 hH.2.2 a hat hcl j hj (C.2.2.2.2.1 _ hw) (fun _ hx => hx) hv hd hk2
  · split at h
    · next u hu =>
      obtain ⟨h1, h2, h⟩ := h
      have hw : okU ((mO M, i), u) := tU_ok _ (lk_mem hu)
      intro p l e s m args below meth cd g QS H locs sl C R hH hS hl
      have hk2 := hk _ _ _ _ _ _ _ _ h p l e s m args below meth cd g QS H locs sl C R hH hS hl
      rw [List.map_cons] at hk2
      obtain ⟨b, rfl⟩ : ∃ b, a = 1000 + b := ⟨a - 1000, by omega⟩
      rw [List.map_cons, gV_hi]
      obtain ⟨-, hco, hva, -⟩ := C.2.2.2.2.2.2.2.2.2.1.2.2.1.1 b (by omega)
      unfold okU at hw
      simp only at hw
      by_cases hu0 : u = 0
      · rw [if_pos hu0, if_pos hu0] at hw
        rw [if_pos hu0, show 1000 + b + 100 = 1000 + (100 + b) by omega, gV_hi] at hk2
        exact vk_getf C.1 C.2.1 hva hS C.2.2.2.1 (C.2.2.2.2.1 _ hw) (fun _ hx => hx) hd hk2
      · rw [if_neg hu0, if_neg hu0] at hw
        rw [if_neg hu0] at hk2
        exact vk_getf C.1 C.2.1 hco hS C.2.2.2.1 (C.2.2.2.2.1 _ hw) (fun _ hx => hx) hd hk2
    · exact h.elim
theorem so_putfield {i : Nat} (ho : o = mO M) (hk : KO M k Q) (hd : decode (mB M) pc = .ok (.putfield i, len)) (h : sop M o k Q (.putfield i) len pc ls st c z L F A) : Ok M pc ls st c z L F A Q := by
  obtain ⟨rfl, h⟩ := h
  obtain ⟨v, a, r, rfl, h⟩ := pVR_ok h
  subst ho
  split at h
  · next ci j n ns rf fi hc =>
    obtain ⟨ha, hL, hty, hfi, h⟩ := h
    obtain ⟨CC, T, N, hcl, hN, hj, hI, hff, hw⟩ : okF ((mO M, i), (ci, j, n, ns, rf, fi)) := tF_ok _ (lk_mem hc)
    subst hN
    intro p l e s m args below meth cd g QS H locs sl C R hH hS hl
    have hat := gAt (F := F) (A := A) (g := g) hL (by simp)
    rw [gE_obj] at hat
    rw [List.map_cons, List.map_cons, gV_ref ha]
    have hG := clOk hcl
    obtain ⟨hin, hnm, hdecl, hxO, ty0, hpar, -, htI, htR⟩ := id hG
    have hnf : narrow (ty0 j) (gV g v) = gV g v ∧ fits (ty0 j) (gV g v) = true := by
      cases v with
      | int x =>
        have hrf : rf = false := hty
        have := htI j hj (by rw [hI, hrf]; rfl)
        rw [this]
        exact ⟨rfl, rfl⟩
      | ref q =>
        have hrf : rf = true := hty
        rcases htR j hj (by rw [hI, hrf]; rfl) with ⟨C', e'⟩ | ⟨t', e'⟩ <;> rw [e'] <;> exact ⟨rfl, rfl⟩
      | _ => exact hty.elim
    have hlink : (Cond.fieldLink (xO (mO M)) i (T j).1 (T j).2.1 (T j).2.2.1).before args s = true ∨ ((T j).2.2.2 = false ∧ ∃ host, (Cond.fieldLinkNest (xO (mO M)) i (T j).1 (T j).2.1 (T j).2.2.1 host).before args s = true) := by
      cases ns with
      | false => exact Or.inl (C.2.2.2.2.1 _ hw)
      | true =>
        obtain ⟨host, hw⟩ := hw
        refine Or.inr ⟨?_, host, C.2.2.2.2.1 _ hw⟩
        rcases hfi with q | q
        · rw [hff]; exact q
        · cases q.1
    have hl2 : ∃ host, (Cond.fieldLink (xO (mO M)) i (T j).1 (T j).2.1 (T j).2.2.1).before args s = true ∨ ((T j).2.2.2 = false ∧ (Cond.fieldLinkNest (xO (mO M)) i (T j).1 (T j).2.1 (T j).2.2.1 host).before args s = true) := by
      rcases hlink with q | ⟨q1, host, q2⟩
      · exact ⟨"", Or.inl q⟩
      · exact ⟨host, Or.inr ⟨q1, q2⟩⟩
    obtain ⟨host, hl2⟩ := hl2
    refine x_put C.1 C.2.1 C.2.2.2.2.1 hG C.2.2.2.1 C.2.2.2.2.2.2.2.2.1 hH.2.2 (gW_D g L F A) hS a hat hcl j hj hl2 ?_ (hpar j hj) hnf.1 hnf.2 (by simpa using hj) hd (fun H1 locs1 hz hP1 hS1 => ?_)
    · rcases hfi with q | ⟨-, q2, q3⟩
      · exact Or.inl (by rw [hff]; exact q)
      · exact Or.inr ⟨by rw [C.2.2.2.2.2.2.2.1]; exact q3, by rw [hdecl j hj, q2, hxO]⟩
    · rw [gW_setF hL hj] at hP1
      exact hk _ _ _ _ _ _ _ _ h p l e s m args below meth cd g QS H1 locs1 sl C R ⟨by rw [hz]; exact hH.1, hH.2.1, hP1⟩ hS1 hl
  · exact h.elim
theorem rdA_ok {q : Option (Nat × (Nat → Int32))} {i : Int32} {f : Int32 → Prop} (h : rdA q i f) : ∃ n g, q = some (n, g) ∧ vp_in i n ∧ f (g i.toNatClampNeg) := by
  unfold rdA at h; split at h
  · exact ⟨_, _, rfl, h⟩
  · exact h.elim
theorem lnA_ok {q : Option (Nat × (Nat → Int32))} {f : Int32 → Prop} (h : lnA q f) : ∃ n g, q = some (n, g) ∧ f (Int32.ofNat n) := by
  unfold lnA at h; split at h
  · exact ⟨_, _, rfl, h⟩
  · exact h.elim
theorem ald_ok {a t n : Nat} {f : Nat → Int32} (h : ald M L A a t = some (n, f)) : (a < 1000 ∧ L.getD a (0, 0) = (t, n) ∧ f = A a) ∨ (t = 1 ∧ a = 1300 ∧ mX M = some (n, f)) ∨ (t = 1 ∧ ∃ b, b < 3 ∧ a = 1000 + (200 + b) ∧ n = (kX b).length ∧ f = fun j => (kX b).getD j 0) ∨ (t = 3 ∧ ∃ b, b < 13 ∧ a = 1000 + (100 + b) ∧ n = kLen.getD b 0 ∧ f = fun j => (kByt.getD b []).getD j 0) := by
  unfold ald at h
  split at h
  · next ha =>
    left
    split at h
    · next ht =>
      cases h
      exact ⟨ha, by rw [← ht], rfl⟩
    · cases h
  · next ha =>
    right
    split at h
    · next ht =>
      split at h
      · next hb => exact Or.inl ⟨ht, hb, h⟩
      · split at h
        · next hb =>
          obtain ⟨h1, h2⟩ := Prod.mk.inj (Option.some.inj h)
          exact Or.inr (Or.inl ⟨ht, a - 1200, by omega, by omega, h1.symm, h2.symm⟩)
        · cases h
    · split at h
      · next ht =>
        split at h
        · next hb =>
          obtain ⟨h1, h2⟩ := Prod.mk.inj (Option.some.inj h)
          exact Or.inr (Or.inr ⟨ht, a - 1100, by omega, by omega, h1.symm, h2.symm⟩)
        · cases h
      · cases h
theorem so_iaload (ho : o = mO M) (hk : KO M k Q) (hd : decode (mB M) pc = .ok (.iaload, len)) (h : sop M o k Q .iaload len pc ls st c z L F A) : Ok M pc ls st c z L F A Q := by
  obtain ⟨rfl, h⟩ := h
  obtain ⟨i, a, r, rfl, h2⟩ := pIR_ok h
  obtain ⟨n, f, hq, hin, h3⟩ := rdA_ok h2
  clear h h2
  have h := h3
  intro p l e s m args below meth cd g QS H locs sl C R hH hS hl
  have hk2 := hk _ _ _ _ _ _ _ _ h p l e s m args below meth cd g QS H locs sl C R hH hS hl
  rcases ald_ok hq with ⟨ha, hL, rfl⟩ | ⟨-, rfl, hx⟩ | ⟨-, b, hb, rfl, rfl, rfl⟩ | ⟨ht, -⟩
  · have hat := gAt (F := F) (A := A) (g := g) hL (by simp)
    rw [gE_int] at hat
    rw [List.map_cons, List.map_cons, gV_ref ha]
    exact va_iald C.1 C.2.1 C.2.2.2.2.2.2.2.2.1 hH.2.2 a 0 hat rfl hin hd hk2
  · obtain ⟨x1, x2, x3⟩ := C.2.2.2.2.2.2.2.2.2.2.2 n f hx
    exact va_sld C.1 C.2.1 x1 x2 x3 hS hin hd hk2
  · rw [List.map_cons, List.map_cons, gV_hi]
    exact va_ti C.1 C.2.1 (C.2.2.2.2.2.2.2.2.2.1.1 b hb).2 hS hin rfl hd hk2
  · cases ht
theorem so_baload (ho : o = mO M) (hk : KO M k Q) (hd : decode (mB M) pc = .ok (.baload, len)) (h : sop M o k Q .baload len pc ls st c z L F A) : Ok M pc ls st c z L F A Q := by
  obtain ⟨rfl, h⟩ := h
  obtain ⟨i, a, r, rfl, h2⟩ := pIR_ok h
  obtain ⟨n, f, hq, hin, h3⟩ := rdA_ok h2
  clear h h2
  have h := h3
  intro p l e s m args below meth cd g QS H locs sl C R hH hS hl
  have hk2 := hk _ _ _ _ _ _ _ _ h p l e s m args below meth cd g QS H locs sl C R hH hS hl
  rcases ald_ok hq with ⟨ha, hL, rfl⟩ | ⟨ht, -⟩ | ⟨ht, -⟩ | ⟨-, b, hb, rfl, rfl, rfl⟩
  · rw [if_pos ha] at hL
    have hat := gAt (F := F) (A := A) (g := g) hL (by simp)
    rw [gE_boo] at hat
    rw [List.map_cons, List.map_cons, gV_ref ha]
    exact va_zald C.1 C.2.1 C.2.2.2.2.2.2.2.2.1 hH.2.2 a 1 hat rfl hin hd hk2
  · split at ht <;> cases ht
  · split at ht <;> cases ht
  · rw [List.map_cons, List.map_cons, gV_hi]
    exact va_tb C.1 C.2.1 (C.2.2.2.2.2.2.2.2.2.1.2.2.1.1 b hb).2.2.2 hS hin rfl hd hk2
theorem so_arraylength (ho : o = mO M) (hk : KO M k Q) (hd : decode (mB M) pc = .ok (.arraylength, len)) (h : sop M o k Q .arraylength len pc ls st c z L F A) : Ok M pc ls st c z L F A Q := by
  obtain ⟨rfl, h⟩ := h
  obtain ⟨a, r, rfl, h2⟩ := pR_ok h
  obtain ⟨n, f, hq, h3⟩ := lnA_ok h2
  clear h h2
  have h := h3
  intro p l e s m args below meth cd g QS H locs sl C R hH hS hl
  have hk2 := hk _ _ _ _ _ _ _ _ h p l e s m args below meth cd g QS H locs sl C R hH hS hl
  rcases ald_ok hq with ⟨ha, hL, rfl⟩ | ⟨-, rfl, hx⟩ | ⟨-, b, hb, rfl, rfl, rfl⟩ | ⟨-, b, hb, rfl, rfl, rfl⟩
  · rw [if_pos ha] at hL
    have hat := gAt (F := F) (A := A) (g := g) hL (by simp)
    rw [gE_int] at hat
    rw [List.map_cons, gV_ref ha]
    exact va_alen C.1 C.2.1 C.2.2.2.2.2.2.2.2.1 hH.2.2 a 0 hat rfl rfl hd hk2
  · obtain ⟨x1, x2, x3⟩ := C.2.2.2.2.2.2.2.2.2.2.2 n f hx
    exact va_slen C.1 C.2.1 x1 x2 x3 hS hd hk2
  · rw [List.map_cons, gV_hi]
    exact va_tlen C.1 C.2.1 (C.2.2.2.2.2.2.2.2.2.1.1 b hb).2 hS rfl hd hk2
  · rw [List.map_cons, gV_hi]
    exact va_tlen C.1 C.2.1 (C.2.2.2.2.2.2.2.2.2.1.2.2.1.1 b hb).2.2.2 hS rfl hd hk2
theorem so_iastore (ho : o = mO M) (hk : KO M k Q) (hd : decode (mB M) pc = .ok (.iastore, len)) (h : sop M o k Q .iastore len pc ls st c z L F A) : Ok M pc ls st c z L F A Q := by
  obtain ⟨rfl, h⟩ := h
  obtain ⟨x, i, a, r, rfl, ha, hL1, hin, h⟩ := pIIR_ok h
  intro p l e s m args below meth cd g QS H locs sl C R hH hS hl
  have hL : L.getD a (0, 0) = (1, (L.getD a (0, 0)).2) := by rw [← hL1]
  have hat := gAt (F := F) (A := A) (g := g) hL (by simp)
  rw [gE_int] at hat
  rw [List.map_cons, List.map_cons, List.map_cons, gV_ref ha]
  refine x_iast C.1 C.2.1 C.2.2.2.2.2.2.2.2.1 hH.2.2 (gW_D g L F A) hS a 0 hat rfl hin hd (fun H1 locs1 hz hP1 hS1 => ?_)
  rw [gW_setI hL] at hP1
  exact hk _ _ _ _ _ _ _ _ h p l e s m args below meth cd g QS H1 locs1 sl C R ⟨by rw [hz]; exact hH.1, hH.2.1, hP1⟩ hS1 hl
theorem so_bastore (ho : o = mO M) (hk : KO M k Q) (hd : decode (mB M) pc = .ok (.bastore, len)) (h : sop M o k Q .bastore len pc ls st c z L F A) : Ok M pc ls st c z L F A Q := by
  obtain ⟨rfl, h⟩ := h
  obtain ⟨x, i, a, r, rfl, ha, hL1, hin, h⟩ := pIIR_ok h
  intro p l e s m args below meth cd g QS H locs sl C R hH hS hl
  have hL : L.getD a (0, 0) = (2, (L.getD a (0, 0)).2) := by rw [← hL1]
  have hat := gAt (F := F) (A := A) (g := g) hL (by simp)
  rw [gE_boo] at hat
  rw [List.map_cons, List.map_cons, List.map_cons, gV_ref ha]
  refine x_zast C.1 C.2.1 C.2.2.2.2.2.2.2.2.1 hH.2.2 (gW_D g L F A) hS a 1 hat rfl hin hd (fun H1 locs1 hz hP1 hS1 => ?_)
  rw [gW_setZ hL] at hP1
  exact hk _ _ _ _ _ _ _ _ h p l e s m args below meth cd g QS H1 locs1 sl C R ⟨by rw [hz]; exact hH.1, hH.2.1, hP1⟩ hS1 hl
theorem so_new {i : Nat} (ho : o = mO M) (hk : KO M k Q) (hd : decode (mB M) pc = .ok (.new i, len)) (h : sop M o k Q (.new i) len pc ls st c z L F A) : Ok M pc ls st c z L F A Q := by
  obtain ⟨rfl, h⟩ := h
  subst ho
  split at h
  · next ci n hc =>
    obtain ⟨hlt, hc1, hz1, h⟩ := h
    obtain ⟨CC, T, hcl, w1, w2, w3⟩ : okC ((mO M, i), (ci, n)) := tC_ok _ (lk_mem hc)
    intro p l e s m args below meth cd g QS H locs sl C R hH hS hl
    have hG := clOk hcl
    refine x_new C.1 C.2.1 C.2.2.2.2.1 hG C.2.2.2.1 (C.2.2.2.2.1 _ w1) (C.2.2.2.2.1 _ w2) (C.2.2.2.2.1 _ w3) C.2.2.2.2.2.2.2.2.1 hH.2.2 hS hcl (fs := (List.range n).map fun k => gV g (dfl ci k)) (fun j hj => ?_) hc1 hz1 hd (fun H1 hz hP1 hS1 => ?_)
    · have : vp_V ((List.range n).map fun k => gV g (dfl ci k)) j = gV g (dfl ci j) := by simp [vp_V, List.getElem?_map, List.getElem?_range hj]
      rw [this, dfl_V]
    · have e1 : H.size = g.2.2.2.1 + L.length := hH.1
      have hpu := gW_push g L F A (ci + 3, n) (dfl ci) (A L.length)
      rw [gE_obj, ← e1] at hpu
      rw [hpu] at hP1
      have eA : upA A L.length (A L.length) = A := by funext b; unfold upA; split <;> simp_all
      rw [eA] at hP1
      have hk2 := hk _ _ _ _ _ _ _ _ h p l e s m args below meth cd g QS H1 locs sl C R ⟨by rw [hz, e1, List.length_append]; rfl, by rw [List.length_append]; exact hlt, hP1⟩ hS1 hl
      rw [List.map_cons, gV_ref hlt, ← e1] at hk2
      exact hk2
  · exact h.elim
theorem tA_int : Cond.arrayClass (newarray.typeOf .int) ∈ lw_ok := in_t 44 (by decide +kernel) rfl
theorem tA_boo : Cond.arrayClass (newarray.typeOf .boolean) ∈ lw_ok := in_t 295 (by decide +kernel) rfl
theorem so_newarray {t : ArrayType} (ho : o = mO M) (hk : KO M k Q) (hd : decode (mB M) pc = .ok (.newarray t, len)) (h : sop M o k Q (.newarray t) len pc ls st c z L F A) : Ok M pc ls st c z L F A Q := by
  obtain ⟨rfl, h⟩ := h
  obtain ⟨n, r, rfl, hlt, hn0, hn1, hc1, hz1, ht, h⟩ := pI_ok h
  intro p l e s m args below meth cd g QS H locs sl C R hH hS hl
  have e1 : H.size = g.2.2.2.1 + L.length := hH.1
  rw [List.map_cons]
  have hK := C.2.2.2.2.2.2.2.2.1
  rcases ht with rfl | rfl
  · have hcA : s.vm.findClass ("[" ++ (newarray.typeOf .int).toString) = some g.2.1 := (hK.2 0 (g.2.1, .int) rfl).2
    refine x_newa (atype := .int) C.1 C.2.1 (C.2.2.2.2.1 _ tA_int) hH.2.2 hS hcA (a0 := (n.toNatClampNeg, .inl (fun _ => 0))) rfl hn0 rfl (by show _ * 4 ≤ _; omega) hc1 hz1 hd (fun H1 hz hP1 hS1 => ?_)
    have hpu := gW_push g L F A (1, n.toNatClampNeg) (F L.length) (fun _ => 0)
    rw [gE_int, ← e1] at hpu
    rw [hpu] at hP1
    have eF : nwF F L.length (F L.length) = F := by funext b; unfold nwF; split <;> simp_all
    rw [eF] at hP1
    have hk2 := hk _ _ _ _ _ _ _ _ h p l e s m args below meth cd g QS H1 locs sl C R ⟨by rw [hz, e1, List.length_append]; rfl, by rw [List.length_append]; exact hlt, hP1⟩ hS1 hl
    rw [List.map_cons, gV_ref hlt, ← e1] at hk2
    exact hk2
  · have hcA : s.vm.findClass ("[" ++ (newarray.typeOf .boolean).toString) = some g.2.2.1 := (hK.2 1 (g.2.2.1, .boolean) rfl).2
    refine x_newa (atype := .boolean) C.1 C.2.1 (C.2.2.2.2.1 _ tA_boo) hH.2.2 hS hcA (a0 := (n.toNatClampNeg, .inl (fun _ => 0))) rfl hn0 rfl (by show _ * 1 ≤ _; omega) hc1 hz1 hd (fun H1 hz hP1 hS1 => ?_)
    have hpu := gW_push g L F A (2, n.toNatClampNeg) (F L.length) (fun _ => 0)
    rw [gE_boo, ← e1] at hpu
    rw [hpu] at hP1
    have eF : nwF F L.length (F L.length) = F := by funext b; unfold nwF; split <;> simp_all
    rw [eF] at hP1
    have hk2 := hk _ _ _ _ _ _ _ _ h p l e s m args below meth cd g QS H1 locs sl C R ⟨by rw [hz, e1, List.length_append]; rfl, by rw [List.length_append]; exact hlt, hP1⟩ hS1 hl
    rw [List.map_cons, gV_ref hlt, ← e1] at hk2
    exact hk2
theorem so_ireturn (ho : o = mO M) (hk : KO M k Q) (hd : decode (mB M) pc = .ok (.ireturn, len)) (h : sop M o k Q .ireturn len pc ls st c z L F A) : Ok M pc ls st c z L F A Q := by
  obtain ⟨rfl, h⟩ := h
  obtain ⟨v, r, rfl, rfl, hc1, hz1, hr, h⟩ := pI_ok h
  intro p l e s m args below meth cd g QS H locs sl C R hH hS hl
  exact W.widen hc1 hz1 (R pc sl (some (.int v)) L F A H locs h hH hS (Or.inl ⟨v, rfl, hd, hr⟩))
theorem so_return (ho : o = mO M) (hk : KO M k Q) (hd : decode (mB M) pc = .ok (.return_, len)) (h : sop M o k Q .return_ len pc ls st c z L F A) : Ok M pc ls st c z L F A Q := by
  obtain ⟨rfl, rfl, hc1, hz1, hr, h⟩ := h
  intro p l e s m args below meth cd g QS H locs sl C R hH hS hl
  exact W.widen hc1 hz1 (R pc sl none L F A H locs h hH hS (Or.inr ⟨rfl, hd, hr⟩))
end SP
