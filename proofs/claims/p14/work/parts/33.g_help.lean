/-! the law's helpers: a call of the class in a 'try', its answer laid into the row of one long -/
def zq_PH (g : zS) (post : Int32 → zS → (Nat → Int64) → Prop) : Option Value → zG → Prop := fun r σ => ∃ (v : Int32) (z : zS) (o : Nat → Int64), r = some (.int v) ∧ σ = (z, g, o) ∧ post v z o
def zq_MH (l : Launch) (w : zW) (y : MethodName) (cc : ByteArray) (nL : Nat) (hh : List (Nat × Nat × Nat × Nat)) (rm : Room) (vs : List Value) (σ : zG) (P : Option Value → zG → Prop) : Prop :=
  Met l y (.codeWith y cc nL (some .int) hh :: zq_T) rm (zq_PX w vs σ) (zq_Qc w (zq_A w) P) 1 6 (zq_A w)
def zq_RH (x : zC) (w : zW) (hh : List (Nat × Nat × Nat × Nat)) (P : Option Value → zG → Prop) : Prop :=
  (zc_h x).sig.returnType = some .int ∧ (zc_h x).locks = false ∧ zc_A x = zq_A w ∧ zc_Q x = MQ (zc_b x) (zq_Qc w (zq_A w) P) (zc_a x) (zc_s x) 1 6 (zq_A w) ∧ (zc_c x).exceptionTable.toList.map (fun h => (h.startPc, h.endPc, h.handlerPc, h.catchType)) = hh ∧ (zc_e x).platform.magicAccessors = ({} : Platform).magicAccessors ∧ zq_E (zq_A w) (zc_s x) (zc_s x).heap
theorem zq_mk_H {l : Launch} {w : zW} {y : MethodName} {cc : ByteArray} {nL : Nat} {hh : List (Nat × Nat × Nat × Nat)} {rm : Room} {vs : List Value} {σ : zG} {P : Option Value → zG → Prop} (hy : plainName y.cls = true) (hc : ∀ v ∈ vs, v.category = 1) (hn : vs.length ≤ nL) (hAp : zq_Ap w)
    (walk : ∀ x : zC, zc_l x = l → zq_G x w y.cls cc nL rm → zq_RH x w hh P → zq_W x w 0 0 σ 0 (zq_V0 vs nL) []) : zq_MH l w y cc nL hh rm vs σ P := by
  refine va_MetW (cc := cc) (maxL := nL) (ret := some .int) (hh := hh) hy rfl ?_
  intro p e s m args below meth c s₁ B hml hP
  obtain ⟨⟨rfl, hPw, hK⟩, hE⟩ := hP
  have hts := atoms_spec (ws := .codeWith y cc nL (some .int) hh :: zq_T) B.pre
  have hown : s.vm.findClass y.cls = some m.cls := findClass_of_methodNamed B.named
  obtain ⟨m9, meth9, c9, hn9, h1, h2, -, -, htab, -, -, -⟩ := Cond.codeWith_spec (hts _ List.mem_cons_self)
  cases B.named.symm.trans hn9
  cases B.method.symm.trans h1
  cases (Stand.of_body B).code.symm.trans h2
  have hx := walk (p, l, e, (headSpec (.codeWith y cc nL (some .int) hh :: zq_T) rm).room, s, m, vs.toArray, below, meth, c, MQ below (zq_Qc w (zq_A w) P) vs.toArray s 1 6 (zq_A w), zq_A w) rfl ⟨B.exec, B.bytes, hml, hown, fun t ht => hts t (List.mem_cons_of_mem _ ht), hK, rfl⟩ ⟨B.returns, B.notSynchronized, rfl, rfl, htab, by rw [B.admits.platform], hE⟩
  rw [lg_entry_eq]
  exact hx _ s.heap [] (zq_entry vs nL hn hc) hPw (hAp σ) va_S.rf
section ZH
variable {x : zC} {w : zW} {own : String} {cc : ByteArray} {nL : Nat} {rm : Room} {k n : Nat} {σ : zG} {pc : Nat} {V : List (Option Value)} {st : List Value} {P : Option Value → zG → Prop} {hh : List (Nat × Nat × Nat × Nat)}
theorem zr_hret (hG : zq_G x w own cc nL rm) (hR : zq_RH x w hh P) {v : Int32} (hd : decode cc pc = .ok (.ireturn, 1)) (hp : P (some (.int v)) σ) : zq_W x w 1 6 σ pc V [.int v] := by
  intro ls H locs hl hP hD hS
  obtain ⟨h1, h2, h3, h4, -⟩ := hR
  rw [h4]
  rw [h3] at hS
  exact W.iret hG.1 hG.2.1 h1 (fun t ht hW => ⟨_, σ, rfl, hp, by rw [ht]; exact hP, hS.F ht⟩) hS.2.2 hd h2
theorem zr_widen {k' n' : Nat} (h1 : k ≤ k') (h2 : n ≤ n') (kk : zq_W x w k' n' σ pc V st) : zq_W x w k n σ pc V st :=
  fun ls H locs hl hP hD hS => W.widen h1 h2 (kk ls H locs hl hP hD hS)
theorem zr_lconst (hG : zq_G x w own cc nL rm) {i : Fin 2} {v : Int64} (hd : decode cc pc = .ok (.lconst i, 1)) (hv : Int64.ofNat (i : Nat) = v) (kk : zq_W x w k n σ (pc + 1) V (.long v :: st)) : zq_W x w k n σ pc V st :=
  fun ls H locs hl hP hD hS => lv_lconst hG.1 hG.2.1 hd hv (kk ls H locs hl hP hD hS)
theorem zr_i2l (hG : zq_G x w own cc nL rm) {a : Int32} (hd : decode cc pc = .ok (.i2l, 1)) (kk : zq_W x w k n σ (pc + 1) V (.long a.toInt64 :: st)) : zq_W x w k n σ pc V (.int a :: st) :=
  fun ls H locs hl hP hD hS => lv_i2l hG.1 hG.2.1 hd rfl (kk ls H locs hl hP hD hS)
theorem zu_40 {c g : zS} {o : Nat → Int64} {v : Int64} (hG : zq_G x w own cc nL rm) (hW : zq_Wr x w) (hd : decode cc pc = .ok (.lastore, 1)) (kk : zq_W x w k n (c, g, vp_updL o (0 : Int32).toNatClampNeg v) (pc + 1) V st) : zq_W x w k n (c, g, o) pc V (.long v :: .int 0 :: .ref (w.2.1 40) :: st) :=
  zr_last hG (hW _) 40 2 rfl rfl (by unfold vp_in; decide) (zq_w w (c, g, vp_updL o (0 : Int32).toNatClampNeg v)) rfl hd kk
theorem zl_40 {c g : zS} {o : Nat → Int64} (hG : zq_G x w own cc nL rm) (hd : decode cc pc = .ok (.laload, 1)) (kk : zq_W x w k n (c, g, o) (pc + 1) V (.long (o (0 : Int32).toNatClampNeg) :: st)) : zq_W x w k n (c, g, o) pc V (.int 0 :: .ref (w.2.1 40) :: st) :=
  zr_lald hG 40 2 rfl rfl (by unfold vp_in; decide) hd kk
/-! the table's rows as numbers -/
def zq_ht (pl : Platform) (s0 : State) (d : ClassId) (pc : Nat) (th : ClassId) (hp : Nat) : List (Nat × Nat × Nat × Nat) → Prop
  | [] => False
  | r :: t => (decide (r.1 ≤ pc) && decide (pc < r.2.1)) = true ∧ r.2.2.2 ≠ 0 ∧ ∃ c, s0.vm.ClassLinks pl d r.2.2.2 c ∧ ((s0.vm.assignable th c = true ∧ r.2.2.1 = hp) ∨ (s0.vm.assignable th c = false ∧ zq_ht pl s0 d pc th hp t))
theorem zq_ht.hit {pl : Platform} {s0 : State} {d : ClassId} {pc : Nat} {th : ClassId} {hp : Nat} : ∀ (L : List ExceptionTableEntry) (hh : List (Nat × Nat × Nat × Nat)), L.map (fun h => (h.startPc, h.endPc, h.handlerPc, h.catchType)) = hh → zq_ht pl s0 d pc th hp hh → zq_hit pl s0 d pc th hp L
  | [], hh, e, h => by
    subst e
    exact h.elim
  | r :: t, hh, e, h => by
    subst e
    obtain ⟨h1, h2, c, h3, h4⟩ := h
    refine Or.inr ⟨h1, h2, c, h3, ?_⟩
    rcases h4 with h4 | ⟨h4, h5⟩
    · exact Or.inl h4
    · exact Or.inr ⟨h4, zq_ht.hit t _ rfl h5⟩
theorem zq_h1 (hG : zq_G x w "GridRouterLaw" cc nL rm) (hR : zq_RH x w hh P) {X : String} {sp ep hp idx : Nat} {th : ClassId} {t : List (Nat × Nat × Nat × Nat)} (hf : (zc_s x).vm.findClass X = some th) (hl : Cond.classLink "GridRouterLaw" idx X ∈ zq_T) (hX : Cond.castable X X ∈ zq_fc) (h0 : idx ≠ 0) (hc : (decide (sp ≤ pc) && decide (pc < ep)) = true) : zq_ht (zc_e x).platform (zc_s x) (zc_m x).cls pc th hp ((sp, ep, hp, idx) :: t) := by
  obtain ⟨c', hc', hcl⟩ := Cond.classLink_spec hG.2.2.2.1 (hG.2.2.2.2.1 _ hl) (zc_e x).platform hR.2.2.2.2.2.1
  obtain ⟨c3, c4, hc3, hc4, has⟩ := Cond.castable_spec (hR.2.2.2.2.2.2.2.2.1 _ hX)
  cases hf.symm.trans hc3
  cases hf.symm.trans hc4
  cases hf.symm.trans hc'
  exact ⟨hc, h0, th, hcl, Or.inl ⟨has, rfl⟩⟩
theorem zq_h2 (hG : zq_G x w "GridRouterLaw" cc nL rm) (hR : zq_RH x w hh P) {X Y : String} {sp ep hq hp idx : Nat} {th : ClassId} {t : List (Nat × Nat × Nat × Nat)} (hf : (zc_s x).vm.findClass X = some th) (hl : Cond.classLink "GridRouterLaw" idx Y ∈ zq_T) (hX : (X, Y) ∈ zq_nc) (h0 : idx ≠ 0) (hc : (decide (sp ≤ pc) && decide (pc < ep)) = true) (ht : zq_ht (zc_e x).platform (zc_s x) (zc_m x).cls pc th hp t) : zq_ht (zc_e x).platform (zc_s x) (zc_m x).cls pc th hp ((sp, ep, hq, idx) :: t) := by
  obtain ⟨c', hc', hcl⟩ := Cond.classLink_spec hG.2.2.2.1 (hG.2.2.2.2.1 _ hl) (zc_e x).platform hR.2.2.2.2.2.1
  obtain ⟨c3, c4, hc3, hc4, has⟩ := hR.2.2.2.2.2.2.2.2.2.2 (X, Y) hX
  cases hf.symm.trans hc3
  cases hc'.symm.trans hc4
  exact ⟨hc, h0, c', hcl, Or.inr ⟨has, ht⟩⟩
end ZH
