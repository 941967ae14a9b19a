def zq_str : List (Nat × String) := [(78, "no such cell"), (93, "a pin"), (110, "not a place for a pin"), (113, "no more nets"), (126, "no such net"), (135, "not so many pushes"), (155, "no such cell or net"), (160, "no such place"), (165, "no such kind"), (174, "no such shape"), (176, "no such what")]
/-! throws: statics that nobody writes, the face's words, the text constants; a contract whose end is a throw -/
def zq_st (C n d : String) (A : Nat → Prop) (U : State) (H : Heap) : Prop :=
  ∃ (c : ClassId) (k : Class) (i : Nat) (f : Field) (a : Nat) (cell : Cell) (v : Value), U.vm.findClass C = some c ∧ U.fieldFound? C n d = some (c, k, i, f) ∧ f.isStatic = true ∧ k.statics = some a ∧ k.staticTypes[f.slot]? = some f.type ∧ H[a]? = some cell ∧ cell.vm.isStatics = true ∧ cell.cls = c ∧ f.slot < cell.slots.size ∧ cell.slots[f.slot]? = some v ∧ v.isRef = true ∧ ¬ A a
theorem zq_st.moved {C n d : String} {A : Nat → Prop} {u U : State} {H : Heap} (hvm : u.vm.Alike U.vm) (h : zq_st C n d A u H) : zq_st C n d A U H := by
  obtain ⟨c, k, i, f, a, cell, v, h1, h2, h3, h4, h5, h6⟩ := h
  obtain ⟨k', hi', he⟩ := State.fieldFound?_setVm hvm h2
  exact ⟨c, k', i, f, a, cell, v, by rw [hvm.findClass]; exact h1, hi', h3, by rw [he]; exact h4, by rw [he]; exact h5, h6⟩
theorem zq_st.kept {C n d : String} {A : Nat → Prop} {U : State} {H H1 : Heap} (h : zq_st C n d A U H) (hq : ∀ a : Nat, a < H.size → ¬ A a → H1[a]? = H[a]?) : zq_st C n d A U H1 := by
  obtain ⟨c, k, i, f, a, cell, v, h1, h2, h3, h4, h5, h6, h7, h8, h9, h10, h11, h12⟩ := h
  exact ⟨c, k, i, f, a, cell, v, h1, h2, h3, h4, h5, by rw [hq a (Array.getElem?_eq_some_iff.mp h6).1 h12]; exact h6, h7, h8, h9, h10, h11, h12⟩
theorem zq_st.narrow {C n d : String} {A B : Nat → Prop} {U : State} {H : Heap} (h : zq_st C n d A U H) (hAB : ∀ q, B q → A q) : zq_st C n d B U H := by
  obtain ⟨c, k, i, f, a, cell, v, h1, h2, h3, h4, h5, h6, h7, h8, h9, h10, h11, h12⟩ := h
  exact ⟨c, k, i, f, a, cell, v, h1, h2, h3, h4, h5, h6, h7, h8, h9, h10, h11, fun z => h12 (hAB a z)⟩
theorem zq_st.lays {C n d : String} {A : Nat → Prop} {U : State} {args : Array Value} (h : zq_st C n d A U U.heap) : (Cond.laysStatic C n d).before args U = true := by
  obtain ⟨c, k, i, f, a, cell, v, h1, h2, h3, h4, h5, h6, h7, h8, h9, h10, h11, h12⟩ := h
  simp [Cond.before, Cond.holds, Cond.value, h1, h2, h3, h4, h5, h6, h7, h8, h9]
theorem zq_st.isRef {C n d : String} {A : Nat → Prop} {U : State} {args : Array Value} (h : zq_st C n d A U U.heap) : (Cond.isRef (.static C n d)).before args U = true := by
  obtain ⟨c, k, i, f, a, cell, v, h1, h2, h3, h4, h5, h6, h7, h8, h9, h10, h11, h12⟩ := h
  cases v <;> simp [Value.isRef] at h11 <;> simp [Cond.before, Cond.holds, Cond.value, Term.eval, State.fieldNamed?, h2, h3, h4, h6, h7, h10]
theorem zq_st.of {C n d : String} {A : Nat → Prop} {s : State} {args : Array Value} (hl : (Cond.laysStatic C n d).before args s = true) (hr : (Cond.isRef (.static C n d)).before args s = true) (hA : ∀ a : Nat, a < s.heap.size → ¬ A a) : zq_st C n d A s s.heap := by
  obtain ⟨c, k, i, f, a, cell, hc, hi, hst, ha, hcell, hs, hcls, hlt, hty⟩ := Cond.laysStatic_spec hl
  cases hv : (Term.static C n d).eval args s none [] s with
  | none => simp [Cond.before, Cond.holds, Cond.value, hv] at hr
  | some v =>
    obtain ⟨-, a', cell', ha', hcell', -, hslot⟩ := Term.static_spec hi hv
    cases ha.symm.trans ha'
    cases hcell.symm.trans hcell'
    refine ⟨c, k, i, f, a, cell, v, hc, hi, hst, ha, hty, hcell, hs, hcls, hlt, hslot, ?_, hA a (Array.getElem?_eq_some_iff.mp hcell).1⟩
    cases v <;> simp [Cond.before, Cond.holds, Cond.value, hv] at hr <;> rfl
def zq_fc : List Cond := lw_tbl.filter Cond.faceAtom
theorem zq_fc_on {t : Cond} (h : t ∈ zq_fc) : t.onTables = true := by
  have h2 := (List.mem_filter.mp h).2
  cases t <;> simp [Cond.faceAtom] at h2 <;> rfl
theorem zq_fc_keep {t : Cond} (h : t ∈ zq_fc) : t.keepsFace = true := by
  have h2 := (List.mem_filter.mp h).2
  cases t <;> first | (simp [Cond.faceAtom] at h2; done) | (show (Cond.keeps _ || Cond.faceAtom _) = true; rw [h2, Bool.or_true])
def zq_nc : List (String × String) := [("java/lang/IllegalStateException", "java/lang/IndexOutOfBoundsException"), ("java/lang/IllegalArgumentException", "java/lang/IndexOutOfBoundsException"), ("java/lang/IllegalStateException", "java/lang/IllegalArgumentException")]
def zq_E (A : Nat → Prop) (U : State) (H : Heap) : Prop :=
  zq_st "java/lang/Throwable" "UNASSIGNED_STACK" "[Ljava/lang/StackTraceElement;" A U H ∧ zq_st "java/lang/Throwable" "SUPPRESSED_SENTINEL" "Ljava/util/List;" A U H ∧ (∀ t ∈ zq_fc, t.before #[] U = true) ∧ (∀ q ∈ zq_str, ∃ a, vk_R "GridRouter" q.1 q.2 a U) ∧ ∀ q ∈ zq_nc, va_Nc q.1 q.2 U
theorem zq_E.warm {A : Nat → Prop} {s U : State} {H : Heap} (hW : s.WarmedH U.vm) (h : zq_E A s s.heap) (hq : ∀ a : Nat, a < s.heap.size → ¬ A a → H[a]? = s.heap[a]?) : zq_E A U H := by
  obtain ⟨h1, h2, h3, h4, h5⟩ := h
  refine ⟨(h1.moved hW.alike).kept hq, (h2.moved hW.alike).kept hq, fun t ht => ?_, fun q hq => ?_, fun q hq => va_Nc.moved hW.alike (h5 q hq)⟩
  · exact va_tabs (zq_fc_on ht) (u := s.setVm U.vm) rfl (Cond.before_shiftedFace (State.Shifted.of_warmed hW) t (zq_fc_keep ht) (h3 t ht))
  · obtain ⟨a, ha⟩ := h4 q hq
    exact ⟨a, vk_R.warm hW ha⟩
theorem zq_E.narrow {A B : Nat → Prop} {U : State} {H : Heap} (h : zq_E A U H) (hAB : ∀ q, B q → A q) : zq_E B U H := ⟨h.1.narrow hAB, h.2.1.narrow hAB, h.2.2⟩
def zq_xn (c : Nat) : String := if c = 1 then "java/lang/IndexOutOfBoundsException" else if c = 2 then "java/lang/IllegalArgumentException" else "java/lang/IllegalStateException"
def zq_ns : List String := ["java/lang/RuntimeException", "java/lang/Exception"]
def zq_sa : List Cond := [.laysStatic "java/lang/Throwable" "UNASSIGNED_STACK" "[Ljava/lang/StackTraceElement;", .laysStatic "java/lang/Throwable" "SUPPRESSED_SENTINEL" "Ljava/util/List;", .isRef (.static "java/lang/Throwable" "UNASSIGNED_STACK" "[Ljava/lang/StackTraceElement;"), .isRef (.static "java/lang/Throwable" "SUPPRESSED_SENTINEL" "Ljava/util/List;")]
def zq_PX (w : zW) (vs : List Value) (σ : zG) : Array Value → State → Prop := fun v U => zq_Pc w vs σ v U ∧ zq_E (zq_A w) U U.heap
def zq_QX (w : zW) (T : Nat → zG → Prop) : Array Value → State → Outcome → State → Prop := fun _ st oc t => ∃ (c : Nat) (q : Addr) (cell : Cell) (σ' : zG), oc = .threw q ∧ t.heap[q]? = some cell ∧ cell.vm.isStatics = false ∧ st.vm.findClass (zq_xn c) = some cell.cls ∧ T c σ' ∧ va_P w.1 vwCl (zq_w w σ') t.heap ∧ va_F zq_0 st t
def zq_MX (l : Launch) (w : zW) (y : MethodName) (cc : ByteArray) (nL : Nat) (ret : Option FieldType) (rm : Room) (vs : List Value) (σ : zG) (T : Nat → zG → Prop) : Prop :=
  MetFree l y (headSpec (.code y cc nL ret :: zq_T) rm) (zq_PX w vs σ) (fun _ _ _ _ _ => True) (fun a st o t => zq_QX w T a st o t ∧ FramedT st o t [] 1 6)
def zq_RX (x : zC) (w : zW) (T : Nat → zG → Prop) : Prop :=
  (zc_h x).locks = false ∧ zc_A x = zq_0 ∧ zc_Q x = (fun t => ∃ o, t.status = .running ∧ Ended t (zc_b x) o ∧ zq_QX w T (zc_a x) (zc_s x) o t ∧ FramedT (zc_s x) o t [] 1 6) ∧ (∀ pc, ∀ z ∈ (zc_c x).exceptionTable.toList, covers z pc = false) ∧ (zc_e x).platform.stackTraces = false ∧ zq_E (zq_A w) (zc_s x) (zc_s x).heap
def zq_Px (g : zS) (o : Nat → Int64) (post : Nat → zS → Prop) : Nat → zG → Prop := fun c σ => ∃ z : zS, σ = (z, g, o) ∧ post c z
theorem zq_blindX (w : zW) (vs : List Value) (σ : zG) : FrameBlind (zq_PX w vs σ) := fun a U g mk q => ⟨zq_blind w vs σ a U g mk q.1, zq_E.warm (s := U) (U := U.calling g mk a) (State.WarmedH.refl U) q.2 (fun _ _ _ => rfl)⟩
theorem zq_mk_X {l : Launch} {w : zW} {y : MethodName} {cc : ByteArray} {nL : Nat} {ret : Option FieldType} {rm : Room} {vs : List Value} {σ : zG} {T : Nat → zG → Prop} (hy : plainName y.cls = true) (hc : ∀ v ∈ vs, v.category = 1) (hn : vs.length ≤ nL) (hfl : l.flags = pinnedFlags ++ [noTraceFlag]) (hAp : zq_Ap w)
    (walk : ∀ x : zC, zc_l x = l → zq_G x w y.cls cc nL rm → zq_RX x w T → zq_W x w 0 0 σ 0 (zq_V0 vs nL) []) : zq_MX l w y cc nL ret rm vs σ T := by
  refine MetFree.of_bodyS (code := cc) (maxLocals := nL) (ret := ret) hy ?_ ?_
  · intro args s m h hn'
    obtain ⟨meth, c, h1, h2, h3, h4, h5, h6, -, -⟩ := Cond.code_spec hn' (atoms_spec (ws := .code y cc nL ret :: zq_T) h _ List.mem_cons_self)
    exact ⟨meth, c, h1, h2, h3, h4, h5, h6⟩
  · intro p e s m args below meth c s₁ B hml hP _
    obtain ⟨⟨rfl, hPw, hK⟩, hE⟩ := hP
    have hts := atoms_spec (ws := .code y cc nL ret :: zq_T) B.pre
    have hown : s.vm.findClass y.cls = some m.cls := findClass_of_methodNamed B.named
    have hcodeV := hts _ List.mem_cons_self
    have hh0 : s₁.heap = s.heap := by rw [B.state]; rfl
    have hx := walk (p, l, e, (headSpec (.code y cc nL ret :: zq_T) rm).room, s, m, vs.toArray, below, meth, c, (fun t => ∃ o, t.status = .running ∧ Ended t below o ∧ zq_QX w T vs.toArray s o t ∧ FramedT s o t [] 1 6), zq_0) rfl ⟨B.exec, B.bytes, hml, hown, fun t ht => hts t (List.mem_cons_of_mem _ ht), hK, rfl⟩ ⟨B.notSynchronized, rfl, rfl, fun pc => covers_of_empty (B.noHandlers hcodeV) pc, Launch.traces_off hfl B.admits, hE⟩
    obtain ⟨t, a1, o, b1, b2, b3⟩ := hx _ s.heap [] (zq_entry vs nL hn hc) hPw (hAp σ) va_S.rf s₁ hh0 (Stand.of_body B)
    exact ⟨t, o, by rw [lg_entry_eq]; exact a1, b1, b2, b3⟩
theorem zq_same0 {s t : State} {k n : Nat} (h : s.sameButNew t [] k n) {a : Nat} (ha : a < s.heap.size) : t.heap[a]? = s.heap[a]? := by
  have hc : s.heap[a]? = some s.heap[a] := Array.getElem?_eq_getElem ha
  obtain ⟨c', h1, h2, -, h4⟩ := h.2.2.2.2.2 a _ hc
  have hs : c'.slots = s.heap[a].slots := Array.ext_getElem? (fun i => h4 i List.not_mem_nil)
  rw [hs] at h2
  rw [h1, hc, h2]
theorem zr_throw {x : zC} {w : zW} {cc : ByteArray} {nL : Nat} {rm : Room} {σ : zG} {pc : Nat} {V : List (Option Value)} {T : Nat → zG → Prop} {X tx : String} {ia ib ic cd : Nat} (hG : zq_G x w "GridRouter" cc nL rm) (hR : zq_RX x w T) (hX : zq_xn cd = X) (t1 : Cond.classLink "GridRouter" ia X ∈ zq_T) (t2 : Cond.instantiable X 6 ∈ zq_T) (t3 : Cond.initialized X ∈ zq_T) (hs : (ib, tx) ∈ zq_str) (hfit : Bundle.fit X = true) (ho : ∀ a ∈ Bundle.ownAtoms "GridRouter" ic X zq_ns, a ∈ zq_T ∨ a ∈ zq_fc ∨ a ∈ zq_sa)
    (hRm : 6 ≤ rm.frames ∧ 110 ≤ rm.locals ∧ 1 ≤ rm.cells ∧ 6 ≤ rm.slots) (hV : V.length = nL) (d0 : decode cc pc = .ok (.new ia, 3)) (d1 : decode cc (pc + 3) = .ok (.dup, 1)) (d2 : decode cc (pc + 3 + 1) = .ok (.ldc ib, 2)) (d3 : decode cc (pc + 3 + 1 + 2) = .ok (.invokespecial ic, 3)) (d4 : decode cc (pc + 3 + 1 + 2 + 3) = .ok (.athrow, 1)) (h : T cd σ) : zq_W x w 0 0 σ pc V [] := by
  intro ls H locs hl hP hD hS
  have hRR : zc_R x = rm := hG.2.2.2.2.2.2
  obtain ⟨r1, r2, r3, r4, r5, r6⟩ := hR
  have ht := hG.2.2.2.2.1
  rw [r2] at hS
  have hlocs : locs = [] := by
    cases locs with
    | nil => rfl
    | cons a t => exact (hS.2.2 a List.mem_cons_self).elim
  subst hlocs
  intro T0 hT0 X0
  have hsz : H.size ≤ (zc_s x).heap.size := by
    have := X0.heapSize
    rw [hT0] at this
    simpa using this
  refine (show W (zc_p x) (zc_l x) (zc_e x) (zc_R x) (zc_s x) (zc_m x) (zc_a x) (zc_b x) (zc_h x) (zc_c x) H [] 0 0 (zc_Q x) (F0 (zc_m x) pc ls []) from ?_) T0 hT0 X0
  refine W.newc hG.1 hG.2.1 hG.2.2.2.1 (ht _ t1) (ht _ t2) (ht _ t3) rfl d0 (by rw [hRR]; simpa using hRm.2.2.1) (by rw [hRR]; simpa using hRm.2.2.2) (fun cC kC hfX hkX hord hn6 => ?_)
  refine W.eq (g2 := F0 (zc_m x) (pc + 3) ls [.ref H.size]) rfl ?_
  refine lv_dup hG.1 hG.2.1 d1 rfl ?_
  obtain ⟨q, hq⟩ := r6.2.2.2.1 (ib, tx) hs
  refine va_ldcS hG.1 hG.2.1 hG.2.2.2.1 hq d2 ?_
  intro T1 hT1 X1
  have hcell : T1.heap[H.size]? = some (freshCell cC kC) := by
    rw [hT1]
    simp [freshCell]
  have hat : ∀ a ∈ Bundle.ownAtoms "GridRouter" ic X zq_ns, a.before (zc_a x) (zc_s x) = true := by
    intro a ha
    rcases ho a ha with h1 | h1 | h1
    · exact ht a h1
    · exact va_tabs (zq_fc_on h1) rfl (r6.2.2.1 a h1)
    · simp only [zq_sa, List.mem_cons, List.not_mem_nil, or_false] at h1
      rcases h1 with rfl | rfl | rfl | rfl
      · exact r6.1.lays
      · exact r6.2.1.lays
      · exact r6.1.isRef
      · exact r6.2.1.isRef
  obtain ⟨U, hsteps, hrun, hend, hW, hsame, ce, hce, K⟩ := X1.ctorThrowS hG.1 r5 (own := "GridRouter") (cls := X) (names := zq_ns) (ic := ic) hG.2.2.2.1 hfit (by decide +kernel) hat (fun y hy => by cases hy) hfX hkX hcell hS.1 (msg := .ref q) rfl
    (g := F0 (zc_m x) (pc + 3 + 1 + 2) ls [.ref q, .ref H.size, .ref H.size]) rfl ((hl.1.trans hV).trans hG.2.2.1.symm) rfl rfl (rest := []) rfl (by rw [hG.2.1]; exact d3) (by rw [hG.2.1]; exact d4) (r4 _) (by rw [hRR]; exact Nat.lt_of_lt_of_le (by decide) hRm.1) (by rw [hRR]; exact Nat.le_trans (Nat.le_of_ble_eq_true rfl) hRm.2.1) r1
  rw [r3]
  have hsm : ∀ a, a < (zc_s x).heap.size → U.heap[a]? = (zc_s x).heap[a]? := fun a ha => zq_same0 hsame ha
  refine ⟨U, hsteps, .threw H.size, hrun, hend, ⟨cd, H.size, ce, σ, rfl, hce, by rw [K.vm]; rfl, by rw [hX]; exact K.cls, h, hP.kept (fun k z hz => ?_), hsame.2.1, fun a ha _ => hsm a ha⟩, ⟨_, rfl⟩, hW, hsame⟩
  have h1 : z.1 < H.size := (hP k z hz).lt
  rw [hsm z.1 (Nat.lt_of_lt_of_le h1 hsz), hS.2.1 z.1 (Nat.lt_of_lt_of_le h1 hsz) (fun h => h)]
theorem zq_own_p {L : List Cond} (ps : List Nat) (hp : L.filter (fun a => !(decide (a ∈ zq_sa))) = ps.filterMap (fun i => tables_1[i]?)) (hg : L.all (fun a => goodWord a || a.faceAtom || decide (a ∈ zq_sa)) = true) : ∀ a ∈ L, a ∈ zq_T ∨ a ∈ zq_fc ∨ a ∈ zq_sa := by
  intro a ha
  by_cases h : a ∈ zq_sa
  · exact Or.inr (Or.inr h)
  · have h1 : a ∈ L.filter (fun a => !(decide (a ∈ zq_sa))) := List.mem_filter.mpr ⟨ha, by simp [h]⟩
    rw [hp] at h1
    obtain ⟨i, -, hi⟩ := List.mem_filterMap.mp h1
    have hm : a ∈ lw_tbl := List.mem_append_right _ (List.mem_of_getElem? hi)
    have hg' := List.all_eq_true.mp hg a ha
    simp only [h, decide_false, Bool.or_false, Bool.or_eq_true] at hg'
    rcases hg' with h2 | h2
    · exact Or.inl (List.mem_filter.mpr ⟨hm, h2⟩)
    · exact Or.inr (Or.inl (List.mem_filter.mpr ⟨hm, h2⟩))
abbrev zq_rx (f l : Nat) : Room := { frames := f, cells := 1, slots := 6, locals := l }

theorem zq_own1 : ∀ a ∈ Bundle.ownAtoms "GridRouter" 80 "java/lang/IndexOutOfBoundsException" zq_ns, a ∈ zq_T ∨ a ∈ zq_fc ∨ a ∈ zq_sa := zq_own_p [13, 379, 388, 392, 395, 397, 380, 381, 27, 28, 382, 387, 393, 413, 369, 414, 371, 415, 373, 383, 385, 375, 409, 410, 412, 375, 400, 401, 402, 403, 361, 403, 404, 405, 406, 363, 406, 407, 408, 409, 365, 399, 358, 359, 366, 367, 368, 370, 372, 374, 378, 377, 376] (by decide +kernel) (by decide +kernel)
theorem zq_own2 : ∀ a ∈ Bundle.ownAtoms "GridRouter" 112 "java/lang/IllegalArgumentException" zq_ns, a ∈ zq_T ∨ a ∈ zq_fc ∨ a ∈ zq_sa := zq_own_p [13, 379, 388, 392, 395, 397, 380, 381, 27, 28, 382, 387, 393, 413, 369, 414, 371, 415, 373, 383, 385, 375, 409, 410, 412, 375, 472, 473, 474, 403, 361, 403, 404, 405, 406, 363, 406, 407, 408, 409, 365, 471, 462, 463, 464, 390, 465, 466, 467, 468, 378, 377, 469] (by decide +kernel) (by decide +kernel)
theorem zq_own3 : ∀ a ∈ Bundle.ownAtoms "GridRouter" 95 "java/lang/IllegalStateException" zq_ns, a ∈ zq_T ∨ a ∈ zq_fc ∨ a ∈ zq_sa := zq_own_p [13, 379, 388, 392, 395, 397, 380, 381, 27, 28, 382, 387, 393, 413, 369, 414, 371, 415, 373, 383, 385, 375, 409, 410, 412, 375, 440, 441, 442, 403, 361, 403, 404, 405, 406, 363, 406, 407, 408, 409, 365, 439, 430, 431, 432, 391, 433, 434, 435, 436, 378, 377, 437] (by decide +kernel) (by decide +kernel)
