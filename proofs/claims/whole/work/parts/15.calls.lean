-- calls
section SC
variable {M : xM} {o : Nat} {k : xK} {Q : xQ} {pc len : Nat} {ls : xS} {st : List Value} {c z : Nat} {L : xL} {F : xF} {A : xA}
theorem x_call {p : Program} {l : Launch} {e : Env} {R : Room} {s : State} {m : MethodId} {args : Array Value} {below : List Frame} {meth : Method} {cd : Code} {H : Heap} {locs : List Loc} {cells slots mc ms : Nat} {g : xG} {Q' : xQ} {a : Array Value} {sl : Array Slot} {st0 rest : List Value} {QS : State → Prop}
    (hr : va_Run p l e R s m args below meth cd H locs cells slots mc ms (F0 m pc sl st0) rest (mQ g Q' a) (gR g)) (hS : va_S (gR g) s.heap H locs)
    (kk : ∀ (r : Option Value) (L' : xL) (F' : xF) (A' : xA) (H1 : Heap) (locs1 : List Loc), Q' r L' F' A' → gH g L' F' A' H1 → va_S (gR g) s.heap H1 locs1 → W p l e R s m args below meth cd H1 locs1 (cells + mc) (slots + ms) QS (F0 m (pc + 3) sl ((r.map (gV g)).toList ++ rest))) : W p l e R s m args below meth cd H locs cells slots QS (F0 m pc sl st0) := by
  intro T hT X
  obtain ⟨v, st₀, t, T', Ls, h0, X', hL, e1, e2, ⟨⟨r, L', F', A', hv, hq, hw⟩, hz, hkp⟩, st⟩ := hr T hT X
  have hv2 : v = r.map (gV g) := by injection hv
  subst hv2
  rw [h0] at hz hkp
  obtain ⟨t2, a1, b1⟩ := kk r L' F' A' T'.heap (locs ++ Ls) hq (by rw [e1]; exact hw) ⟨Nat.le_trans hS.1 (by rw [e1]; exact hz), fun q h1 h2 => by rw [e1, hkp q (Nat.lt_of_lt_of_le h1 hS.1) h2]; exact hS.2.1 q h1 h2, fun q hq => (List.mem_append.mp hq).elim (hS.2.2 q) (hL q)⟩ T' rfl X'
  exact ⟨t2, st t2 a1, b1⟩
theorem mP_blind (g : xG) (as : List Value) (L : xL) (F : xF) (A : xA) : FrameBlind (mP g as L F A) := by
  intro a U gg mk h
  exact ⟨h.1, h.2.1, va_K.moved (u := U) (U := U.calling gg mk a) (Vm.Alike.refl U.vm) h.2.2.1, gK.same (u := U) (U := U.calling gg mk a) h.2.2.2 rfl⟩
theorem mP_at {p : Program} {s : State} {m : MethodId} {args : Array Value} {meth : Method} {cd : Code} {g : xG} {H : Heap} {locs : List Loc} (C : Cx M p s m args meth cd g) (hH : gH g L F A H) (hS : va_S (gR g) s.heap H locs) (as : List Value) : ∀ U : State, U.heap = H → s.WarmedH U.vm → mP g as L F A (as.map (gV g)).toArray U := by
  intro U hU hW
  refine ⟨rfl, by rw [hU]; exact hH, va_K.moved hW.alike C.2.2.2.2.2.2.2.2.1, ?_⟩
  rw [hU]
  exact (C.2.2.2.2.2.2.2.2.2.1.kept hS.2.1).warm hW
theorem mW_good {T : xM} (h : Cond.code (mY T) (mB T) (mN T) (mT T) ∈ lw_ok) : GoodIn lw_ok (mW T) := by
  intro w hw
  rcases List.mem_cons.mp hw with rfl | hw
  · exact ⟨h, good_of_word rfl⟩
  · obtain ⟨h1, h2⟩ := List.mem_filter.mp hw
    exact ⟨List.mem_filter.mpr ⟨h1, by unfold xgd; rw [h2]; rfl⟩, good_of_word h2⟩
theorem cat_sum (l : List Value) : (l.map fun v => v.category).sum ≤ 2 * l.length := by
  induction l with
  | nil => exact Nat.le_refl 0
  | cons a r ih =>
    have : a.category ≤ 2 := by rcases lv_cat a with h | h <;> omega
    simp only [List.map_cons, List.sum_cons, List.length_cons]
    omega
theorem cat_gV (g : xG) (v : Value) : (gV g v).category = v.category := by cases v <;> rfl
theorem cat_8 (g : xG) {r : List Value} (h : r.length ≤ 4 ∨ (r.length ≤ 8 ∧ ∀ v ∈ r, v.category = 1)) : ((r.map (gV g)).map fun v => v.category).sum ≤ 8 := by
  rcases h with h | ⟨h, h2⟩
  · have := cat_sum (r.map (gV g))
    rw [List.length_map] at this
    omega
  · have key : ∀ l : List Value, (∀ v ∈ l, v.category = 1) → ((l.map (gV g)).map fun v => v.category).sum = l.length := by
      intro l
      induction l with
      | nil => intro _; rfl
      | cons a t ih =>
        intro hl
        simp only [List.map_cons, List.sum_cons, List.length_cons]
        rw [ih (fun v hv => hl v (List.mem_cons_of_mem a hv)), cat_gV, hl a List.mem_cons_self]
        omega
    rw [key r h2]
    exact h
theorem stN_ok {n : Nat} {st : List Value} {f : List Value → List Value → Prop} (h : stN n st f) : ∃ as r, as.length = n ∧ st = as.reverse ++ r ∧ (r.length ≤ 4 ∨ (r.length ≤ 8 ∧ ∀ v ∈ r, v.category = 1)) ∧ f as r := by
  obtain ⟨h1, h2, h3⟩ := h
  exact ⟨(st.take n).reverse, st.drop n, by simp; omega, by simp, h2, h3⟩
theorem so_cl {i sp : Nat} (ho : o = mO M) (hk : KO M k Q) (hsp : (sp = 0 ∧ decode (mB M) pc = .ok (.invokevirtual i, 3)) ∨ (sp = 1 ∧ decode (mB M) pc = .ok (.invokestatic i, 3)) ∨ (sp = 2 ∧ decode (mB M) pc = .ok (.invokespecial i, 3))) (h : sCl M k sp pc ls st c z L F A (cpM o i)) : Ok M pc ls st c z L F A Q := by
  subst ho
  unfold sCl at h
  split at h
  · next kd n T hq =>
    obtain ⟨hlv, hcc, hzz, h⟩ := h
    have hok : okM ((mO M, i), (kd, n, T)) := tM_ok _ (lk_mem hq)
    obtain ⟨hpar, hml, hmh, hcode, hini, hpl, hkd⟩ := hok
    have hG := mW_good (T := T) hcode
    have hRm : (mR T).frames + 1 ≤ (mR M).frames ∧ 8 + (mN T + 11) + (mR T).locals ≤ (mR M).locals := by
      refine ⟨hlv, ?_⟩
      show 8 + (T.2.2.1 + 11) + 37 * mV T ≤ 37 * mV M
      omega
    intro p l e s m args below meth cd g QS H locs sl C R hH hS hl
    have hts := C.2.2.2.2.1
    have hfx : CallFix p m cd (mB M) (mN M) s args lw_ok (xO (mO M)) := ⟨C.1, C.2.1, C.2.2.1, C.2.2.2.1, hts⟩
    have kk : ∀ (r : List Value) (Q' : xQ), (∀ v L F A, Q' v L F A → k (pc + 3) ls (v.toList ++ r) (c + mC T) (z + mS T) L F A) → ∀ (v : Option Value) (L' : xL) (F' : xF) (A' : xA) (H1 : Heap) (locs1 : List Loc), Q' v L' F' A' → gH g L' F' A' H1 → va_S (gR g) s.heap H1 locs1 → W p l e (mR M) s m args below meth cd H1 locs1 (c + mC T) (z + mS T) QS (F0 m (pc + 3) sl ((v.map (gV g)).toList ++ r.map (gV g))) := by
      intro r Q' hQ v L' F' A' H1 locs1 hv hH1 hS1
      have hk2 := hk _ _ _ _ _ _ _ _ (hQ v L' F' A' hv) p l e s m args below meth cd g QS H1 locs1 sl C R hH1 hS1 hl
      rw [List.map_append] at hk2
      cases v <;> exact hk2
    have rec2 : ∀ b, b < 1000 → (L.getD b (0, 0)).1 = mO T + 3 → xO (mO T) = T.1.cls → mO T < 11 → ∃ cellB : Cell, H[g.2.2.2.1 + b]? = some cellB ∧ cellB.vm.isStatics = false ∧ s.vm.findClass T.1.cls = some cellB.cls := by
      intro b hb hL hx h11
      have hL2 : L.getD b (0, 0) = (mO T + 3, (L.getD b (0, 0)).2) := by rw [← hL]
      have hat := gAt (F := F) (A := A) (g := g) hL2 (by simp)
      rw [gE_obj] at hat
      obtain ⟨q, hqc⟩ : ∃ q, vwCl[mO T]? = some q := ⟨_, List.getElem?_eq_getElem h11⟩
      have hr := va_recv C.2.2.2.2.2.2.2.2.1 hH.2.2 hqc hat
      obtain ⟨CC, TT, NN⟩ := q
      have := (clOk hqc).2.2.2.1
      rw [hx] at this
      rw [this]
      exact hr
    have hall : ∀ q ∈ tM, (q.2.1 = 0 ∨ q.2.1 = 3 → xO (mO q.2.2.2) = q.2.2.2.1.cls ∧ mO q.2.2.2 < 11) ∧ (q.2.1 = 6 → q.2.2.2.1.cls = "java/lang/String") := by decide +kernel
    have hall := hall _ (lk_mem hq)
    match kd, hkd, h, hall with
    | 0, hkd, h', hall =>
      obtain ⟨rfl, h2⟩ := h'
      have hd : decode (mB M) pc = .ok (.invokevirtual i, 3) := by rcases hsp with q | q | q <;> first | exact q.2 | cases q.1
      obtain ⟨as, r, hn, rfl, hr4, ⟨b, hb, hb1, hb2⟩, hC⟩ := stN_ok h2
      obtain ⟨as', rfl⟩ : ∃ as', as = .ref b :: as' := by
        cases as with
        | nil => cases hb
        | cons a t => cases hb; exact ⟨t, rfl⟩
      have hx := hall.1 (Or.inl rfl)
      have hM := hC l g
      refine x_call (va_runV (As := as'.map (gV g)) (rest := r.map (gV g)) (b := g.2.2.2.1 + b) (C := T.1.cls) hfx hM ⟨callB_of n hts hG rfl rfl rfl (hts _ hini) (hts _ hkd.1) ⟨hmh.1, hmh.2, hpar⟩ hRm, hts _ hkd.2.1, hts _ hkd.2.2⟩ ⟨mP_blind g _ L F A, rec2 b hb1 hb2 hx.1 hx.2, ?_⟩ rfl (by simpa using hn) hl.1 ?_ (lv_room (by have := cat_8 g hr4; simp at this ⊢; omega)) hd ⟨hcc, hzz⟩) hS (kk r _ (fun _ _ _ _ hv => hv))
      · intro U hU hW
        have := mP_at C hH hS (.ref b :: as') U hU hW
        rw [List.map_cons, gV_ref hb1] at this
        exact this
      · show (((Value.ref b :: as').reverse ++ r).map (gV g)) = _
        simp [gV_ref hb1]
    | 1, hkd, h', hall =>
      obtain ⟨rfl, h2⟩ := h'
      have hd : decode (mB M) pc = .ok (.invokestatic i, 3) := by rcases hsp with q | q | q <;> first | exact q.2 | cases q.1
      obtain ⟨as, r, hn, rfl, hr4, hC⟩ := stN_ok h2
      have hM := hC l g
      refine x_call (va_runS (As := as.map (gV g)) (rest := r.map (gV g)) hfx hM ⟨callB_of n hts hG rfl rfl rfl (hts _ hini) (hts _ hkd.1) ⟨hmh.1, hmh.2, hpar⟩ hRm, hts _ hkd.2⟩ ⟨mP_blind g _ L F A, mP_at C hH hS as⟩ rfl (by simpa using hn) hl.1 ?_ (lv_room (by have := cat_8 g hr4; simp at this ⊢; omega)) hd ⟨hcc, hzz⟩) hS (kk r _ (fun _ _ _ _ hv => hv))
      show ((as.reverse ++ r).map (gV g)) = _
      simp
    | 2, hkd, h', hall =>
      obtain ⟨rfl, h2⟩ := h'
      have hd : decode (mB M) pc = .ok (.invokespecial i, 3) := by rcases hsp with q | q | q <;> first | exact q.2 | cases q.1
      obtain ⟨as, r, hn, rfl, hr4, hnone, ⟨b, hb⟩, hC⟩ := stN_ok h2
      obtain ⟨as', rfl⟩ : ∃ as', as = .ref b :: as' := by
        cases as with
        | nil => cases hb
        | cons a t => cases hb; exact ⟨t, rfl⟩
      have hM := hC l g
      have hw : mW T = Cond.code (mY T) (mB T) (mN T) none :: lw_g := by unfold mW; rw [hnone]
      refine x_call (va_runI (As := as'.map (gV g)) (rest := r.map (gV g)) (b := gA g b) hfx hM ⟨callB_of n hts hG hw rfl rfl (hts _ hini) (hts _ hkd.1) ⟨hmh.1, hmh.2, hpar⟩ hRm, hkd.2.2, hts _ hkd.2.1⟩ ⟨mP_blind g _ L F A, mP_at C hH hS (.ref b :: as')⟩ rfl (by simpa using hn) hl.1 ?_ (lv_room (by have := cat_8 g hr4; simp at this ⊢; omega)) hd ⟨hcc, hzz⟩) hS (kk r _ (fun _ _ _ _ hv => hv))
      show (((Value.ref b :: as').reverse ++ r).map (gV g)) = _
      simp [gV]
    | 3, hkd, h', hall =>
      obtain ⟨rfl, h2⟩ := h'
      have hd : decode (mB M) pc = .ok (.invokevirtual i, 3) := by rcases hsp with q | q | q <;> first | exact q.2 | cases q.1
      obtain ⟨as, r, hn, rfl, hr4, ⟨b, hb, hb1, hb2⟩, hC⟩ := stN_ok h2
      obtain ⟨as', rfl⟩ : ∃ as', as = .ref b :: as' := by
        cases as with
        | nil => cases hb
        | cons a t => cases hb; exact ⟨t, rfl⟩
      have hx := hall.1 (Or.inr rfl)
      have hM := hC l g
      obtain ⟨⟨host, hk1⟩, hk2, hk3⟩ := hkd
      refine x_call (va_runVN (As := as'.map (gV g)) (rest := r.map (gV g)) (b := g.2.2.2.1 + b) (C := T.1.cls) hfx hM ⟨va_cnB n hts hG rfl rfl rfl (va_Nw.of rfl (hts _ hk1)) (hts _ hini) ⟨hmh.1, hmh.2, hpar⟩ hRm, hts _ hk2, hts _ hk3⟩ ⟨mP_blind g _ L F A, rec2 b hb1 hb2 hx.1 hx.2, ?_⟩ rfl (by simpa using hn) hl.1 ?_ (lv_room (by have := cat_8 g hr4; simp at this ⊢; omega)) hd ⟨hcc, hzz⟩) hS (kk r _ (fun _ _ _ _ hv => hv))
      · intro U hU hW
        have := mP_at C hH hS (.ref b :: as') U hU hW
        rw [List.map_cons, gV_ref hb1] at this
        exact this
      · show (((Value.ref b :: as').reverse ++ r).map (gV g)) = _
        simp [gV_ref hb1]
    | 4, hkd, h', hall =>
      obtain ⟨rfl, h2⟩ := h'
      have hd : decode (mB M) pc = .ok (.invokestatic i, 3) := by rcases hsp with q | q | q <;> first | exact q.2 | cases q.1
      obtain ⟨as, r, hn, rfl, hr4, hC⟩ := stN_ok h2
      have hM := hC l g
      obtain ⟨⟨host, hk1⟩, hk2⟩ := hkd
      refine x_call (va_runSN (As := as.map (gV g)) (rest := r.map (gV g)) hfx hM ⟨va_cnB n hts hG rfl rfl rfl (va_Nw.of rfl (hts _ hk1)) (hts _ hini) ⟨hmh.1, hmh.2, hpar⟩ hRm, hts _ hk2, trivial⟩ ⟨mP_blind g _ L F A, mP_at C hH hS as⟩ rfl (by simpa using hn) hl.1 ?_ (lv_room (by have := cat_8 g hr4; simp at this ⊢; omega)) hd ⟨hcc, hzz⟩) hS (kk r _ (fun _ _ _ _ hv => hv))
      show ((as.reverse ++ r).map (gV g)) = _
      simp
    | 5, hkd, h', hall =>
      obtain ⟨rfl, h2⟩ := h'
      have hd : decode (mB M) pc = .ok (.invokespecial i, 3) := by rcases hsp with q | q | q <;> first | exact q.2 | cases q.1
      obtain ⟨as, r, hn, rfl, hr4, hnone, ⟨b, hb⟩, hC⟩ := stN_ok h2
      obtain ⟨as', rfl⟩ : ∃ as', as = .ref b :: as' := by
        cases as with
        | nil => cases hb
        | cons a t => cases hb; exact ⟨t, rfl⟩
      have hM := hC l g
      obtain ⟨⟨host, hk1⟩, hk2, hk3⟩ := hkd
      have hw : mW T = Cond.code (mY T) (mB T) (mN T) none :: lw_g := by unfold mW; rw [hnone]
      refine x_call (va_runIN (As := as'.map (gV g)) (rest := r.map (gV g)) (b := gA g b) hfx hM ⟨va_cnB n hts hG hw rfl rfl (va_Nw.of rfl (hts _ hk1)) (hts _ hini) ⟨hmh.1, hmh.2, hpar⟩ hRm, hk3, hts _ hk2⟩ ⟨mP_blind g _ L F A, mP_at C hH hS (.ref b :: as')⟩ rfl (by simpa using hn) hl.1 ?_ (lv_room (by have := cat_8 g hr4; simp at this ⊢; omega)) hd ⟨hcc, hzz⟩) hS (kk r _ (fun _ _ _ _ hv => hv))
      show (((Value.ref b :: as').reverse ++ r).map (gV g)) = _
      simp [gV]
    | 6, hkd, h', hall =>
      obtain ⟨rfl, h2⟩ := h'
      have hd : decode (mB M) pc = .ok (.invokevirtual i, 3) := by rcases hsp with q | q | q <;> first | exact q.2 | cases q.1
      obtain ⟨as, r, hn, rfl, hr4, ⟨b, hb, hb1, hb2⟩, hC⟩ := stN_ok h2
      obtain ⟨as', rfl⟩ : ∃ as', as = .ref b :: as' := by
        cases as with
        | nil => cases hb
        | cons a t => cases hb; exact ⟨t, rfl⟩
      obtain ⟨b', rfl⟩ : ∃ b' : Nat, b = 1000 + b' := ⟨b - 1000, (Nat.add_sub_cancel' hb1).symm⟩
      have hx : T.1.cls = "java/lang/String" := hall.2 rfl
      have hM := hC l g
      have hb3 : b' < 13 := Nat.lt_of_add_lt_add_left (n := 1000) hb2
      have hrc := vk_recv C.2.2.2.2.2.2.2.2.2.1.2.2.1 (i := b') hb3 hS
      rw [← hx] at hrc
      refine x_call (va_runV (As := as'.map (gV g)) (rest := r.map (gV g)) (b := g.2.2.2.2 b') (C := T.1.cls) hfx hM ⟨callB_of n hts hG rfl rfl rfl (hts _ hini) (hts _ hkd.1) ⟨hmh.1, hmh.2, hpar⟩ hRm, hts _ hkd.2.1, hts _ hkd.2.2⟩ ⟨mP_blind g _ L F A, hrc, ?_⟩ rfl (by simpa using hn) hl.1 ?_ (lv_room (by have := cat_8 g hr4; simp at this ⊢; omega)) hd ⟨hcc, hzz⟩) hS (kk r _ (fun _ _ _ _ hv => hv))
      · intro U hU hW
        have := mP_at C hH hS (.ref (1000 + b') :: as') U hU hW
        rw [List.map_cons, gV_hi] at this
        exact this
      · show (((Value.ref (1000 + b') :: as').reverse ++ r).map (gV g)) = _
        simp [gV_hi]
    | q + 7, hkd, h', hall => exact hkd.elim
  · exact h.elim
end SC
