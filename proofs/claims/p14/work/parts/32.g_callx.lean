/-- a call of a method of the class that throws, caught by the calling method's own table -/
theorem zr_callX {x : zC} {w : zW} {own : String} {cc : ByteArray} {nL : Nat} {rm : Room} {k n : Nat} {σ : zG} {pc : Nat} {V : List (Option Value)} {st : List Value} {T : Nat → zG → Prop} (hG : zq_G x w own cc nL rm) (hA : zc_A x = zq_A w) (hE : zq_E (zq_A w) (zc_s x) (zc_s x).heap) {y : MethodName} {bytes : ByteArray} {maxL : Nat} {ret : Option FieldType} {rm' : Room} {index b ci : Nat} {As rest fs : List Value} {q : vw_C} (hM : zq_MX (zc_l x) w y bytes maxL ret rm' (.ref b :: As) σ T) (q0 : Nat) (he : (zq_w w σ)[q0]? = some (b, .inr (ci, fs))) (hc : vwCl[ci]? = some q) (hq : q.1 = y.cls) (hw : zq_gV own index y bytes maxL ret)
    (hdd : y.cls ≠ "java/lang/invoke/MethodHandle" ∧ y.cls ≠ "java/lang/invoke/VarHandle" ∧ (parseMethodDescriptor y.desc).map (fun d => d.parameters.length) = some As.length) (hRm : rm'.cells = 1 ∧ rm'.slots = 6 ∧ rm'.frames + 1 ≤ rm.frames ∧ 8 + (maxL + 11) + rm'.locals ≤ rm.locals) (hk : k + 1 ≤ rm.cells ∧ n + 6 ≤ rm.slots) (hV : V.length = nL) (hst : (rest.map fun v => v.category).sum ≤ 8) (hd : decode cc pc = .ok (.invokevirtual index, 3)) (hs : st = As.reverse ++ .ref b :: rest) (hp : Nat → Nat)
    (hh : ∀ (cd : Nat) (σ' : zG), T cd σ' → ∀ th, (zc_s x).vm.findClass (zq_xn cd) = some th → zq_hit (zc_e x).platform (zc_s x) (zc_m x).cls pc th (hp cd) (zc_c x).exceptionTable.toList)
    (kk : ∀ (cd a : Nat) (σ' : zG), T cd σ' → zq_W x w (k + 1) (n + 6) σ' (hp cd) V [.ref a]) : zq_W x w k n σ pc V st := by
  intro ls H locs hl hP hD hS
  subst hs
  intro T0 hT X
  have hRR : zc_R x = rm := hG.2.2.2.2.2.2
  have hts := hG.2.2.2.2.1
  have hgood := hw.good
  obtain ⟨w1, w2, w3, w4, w5⟩ := hw
  obtain ⟨mk, methM, hnamed, hmethM, hstM, habM⟩ := Cond.instanceMethod_spec (hts _ w2)
  obtain ⟨methM', cM, hmethM', hcM, -, hlM, -, -, -, hsigM⟩ := Cond.code_spec hnamed (hts _ w5)
  cases hmethM.symm.trans hmethM'
  obtain ⟨c2, r2, m2, q1, q2, q3, q4, kP, hkP, hkPi⟩ := Cond.selects_spec (hts _ w3)
  obtain ⟨cellB, hcB, hoB, hclB⟩ := va_recv hG.2.2.2.2.2.1 hP hc he
  rw [hq] at hclB
  cases hclB.symm.trans q1
  cases (State.methodFound?_of_named hnamed ⟨hdd.1, hdd.2.1⟩).symm.trans q2
  cases hnamed.symm.trans q3
  have hselP : selectMethod (zc_e x).platform (zc_s x).vm cellB.cls mk = .method mk := by rw [Launch.admits_selectMethod X.admits]; exact q4
  have hlen : As.length = methM.sig.parameters.length := by
    have h2 := hdd.2.2
    rw [hsigM] at h2
    exact (Option.some.inj h2).symm
  obtain ⟨vm₁, X₁, hstep₁⟩ := X.invokevirtual hG.1 hG.2.2.2.1 (hts _ w1) hnamed hmethM hstM hkP hkPi ⟨hdd.1, hdd.2.1⟩ (a := b) (cell := cellB) (by rw [hT]; exact hcB) (fun z h => by rw [h] at hoB; cases hoB) hselP hmethM habM hkP hkPi (g := F0 (zc_m x) pc ls (As.reverse ++ .ref b :: rest)) rfl (argsL := As) (rest := rest) hlen rfl (by rw [hG.2.1]; exact hd)
  have hn := X₁.named hnamed
  obtain ⟨kY, hkY, -⟩ := className_of_methodNamed hn
  have hini : (Cond.initialized y.cls).before #[] (T0.setVm vm₁) = true := word_at X₁.warmed (Or.inl (by first | rfl | simp [Cond.onTables, Cond.keeps, Cond.steady])) (hts _ w4)
  have hinitY : kY.init = .initialized := Cond.initialized_spec (findClass_of_methodNamed hn) hkY hini
  have hmU : (T0.setVm vm₁).vm.method? mk = some methM := by rw [X₁.warmed.alike.method?]; exact hmethM
  have hat : At (T0.setVm vm₁) (zc_m x) (zc_c x) (zc_b x) := X₁.here
  have hpre : (headSpec (.code y bytes maxL ret :: zq_T) rm').pre.before (Value.ref b :: As).toArray (T0.setVm vm₁) = true :=
    atoms_intro fun t ht => pay_in hts (fun t ht => hgood t (by unfold wsV; exact List.mem_append_right _ ht)) t ht _ _ X₁.warmed
  have hroom := X₁.room_calling (g := F0 (zc_m x) pc ls rest) (m' := mk) (args' := (Value.ref b :: As).toArray) (R' := rm') ((hl.1.trans hV).trans hG.2.2.1.symm) hmU hcM (by rw [hRR]; exact hRm.2.2.1) (by rw [hRR, hlM]; exact Nat.le_trans (Nat.add_le_add_right (Nat.add_le_add_right (lv_room (m := zc_m x) (pc := pc) (ls := ls) (rest := rest) hst) _) _) hRm.2.2.2) (by rw [hRR, hRm.1]; exact hk.1) (by rw [hRR, hRm.2.1]; exact hk.2)
  have happ : (headSpec (.code y bytes maxL ret :: zq_T) rm').appliesLoose y (zc_e x).platform ((T0.setVm vm₁).calling (F0 (zc_m x) pc ls rest) mk (Value.ref b :: As).toArray) = true :=
    Spec.appliesLoose_calling (g := F0 (zc_m x) pc ls rest) hat (by rw [hG.2.1]; exact hd) hn hkY hinitY hroom hpre
  obtain ⟨mid, hmid⟩ := hat.above
  have hfr : ((T0.setVm vm₁).setTop (F0 (zc_m x) pc ls rest)).frames = (.java (F0 (zc_m x) pc ls rest) :: mid) ++ zc_b x := by rw [State.frames_setTop' _ hat.top, hmid]; rfl
  have hh0 : (T0.setVm vm₁).heap = H := hT
  have hPX : zq_PX w (.ref b :: As) σ (Value.ref b :: As).toArray ((T0.setVm vm₁).calling (F0 (zc_m x) pc ls rest) mk (Value.ref b :: As).toArray) :=
    zq_blindX w _ σ _ _ _ _ ⟨⟨rfl, by rw [hh0]; exact hP, va_K.moved X₁.warmed.alike hG.2.2.2.2.2.1⟩, zq_E.warm X₁.warmed hE (fun a h1 h2 => by rw [hh0]; exact hS.2.1 a h1 (by rw [hA]; exact h2))⟩
  obtain ⟨o, s₂, hsteps, -, hend, ⟨⟨cd, a, cell, σ', rfl, hcell, hob, hfc, hT', hPw, hF⟩, -, hW₂, hsb⟩⟩ := Steps.callFree hM (zc_p x) X₁.admits X₁.cas X₁.clock (acts := []) hfr happ hPX trivial
  rw [State.frames_setTop' _ hat.top] at hend
  have hend' : s₂.frames = .throwing a :: .java (F0 (zc_m x) pc ls rest) :: zc_b x := by rw [show s₂.frames = _ from hend, X₁.tail]
  obtain ⟨e2, b2, b3, b4, b5, b6⟩ := hsb
  have e3 : s₂ = ({ ((T0.setVm vm₁).calling (F0 (zc_m x) pc ls rest) mk (Value.ref b :: As).toArray).setFrames s₂.frames with heap := s₂.heap, slotsUsed := s₂.slotsUsed } : State).setVm s₂.vm := by
    have e4 := congrArg (fun z : State => z.setVm s₂.vm) e2
    exact e4
  have hW' : (T0.setVm vm₁).WarmedH s₂.vm := hW₂
  obtain ⟨g₀, hfrU⟩ := X₁.frames_eq
  have hsame : (T0.setVm vm₁).sameButNew ({ (T0.setVm vm₁) with heap := s₂.heap, slotsUsed := s₂.slotsUsed } : State) [] 1 6 := by
    refine ⟨?_, b2, b3, b4, b5, b6⟩
    obtain ⟨t, ht, -⟩ := State.frames_cons hfrU
    show ({ (T0.setVm vm₁) with heap := s₂.heap, slotsUsed := s₂.slotsUsed } : State) = { (T0.setVm vm₁).setFrames (T0.setVm vm₁).frames with heap := s₂.heap, slotsUsed := s₂.slotsUsed }
    rw [State.setFrames_self ht]
  have X' : Stand (zc_p x) (zc_l x) (zc_e x) (zc_R x) (zc_s x) (zc_m x) (zc_a x) (zc_b x) (zc_h x) (zc_c x) ((({ (T0.setVm vm₁) with heap := s₂.heap, slotsUsed := s₂.slotsUsed } : State)).setVm s₂.vm) (locs ++ []) (k + 1) (n + 6) :=
    ⟨X₁.admits, X₁.cas, X₁.clock, X₁.frames, X₁.room, X₁.hears, X₁.method, X₁.code, (X₁.here.setHeapUsed s₂.heap s₂.slotsUsed).setVm hW'.alike, X₁.tail, State.WarmedH.trans X₁.warmed hW', X₁.limits, X₁.bytes, X₁.same.trans (hsame.setVm (zc_s x).vm)⟩
  rw [List.append_nil] at X'
  have hs2 : s₂ = ((({ (T0.setVm vm₁) with heap := s₂.heap, slotsUsed := s₂.slotsUsed } : State)).setVm s₂.vm).setFrames (.throwing a :: .java (F0 (zc_m x) pc ls rest) :: zc_b x) := by
    refine e3.trans ?_
    rw [hend', State.calling_eq hat.top, State.setFrames_setFrames]
    rfl
  have hfc' : (zc_s x).vm.findClass (zq_xn cd) = some cell.cls := by
    have h1 : (T0.setVm vm₁).vm.findClass (zq_xn cd) = some cell.cls := hfc
    rw [X₁.warmed.alike.findClass] at h1
    exact h1
  obtain ⟨vm', X'', st2⟩ := zq_caught X' (a := a) (g := F0 (zc_m x) pc ls rest) rfl (cell := cell) hcell hob (Vm.classAt_of_findClass hfc') (hh cd σ' hT' cell.cls hfc')
  have hsz : H.size ≤ s₂.heap.size := by
    rw [← hh0]
    exact hF.1
  have hkp : ∀ q, q < H.size → s₂.heap[q]? = H[q]? := fun q hq => by
    rw [← hh0] at hq ⊢
    exact hF.2 q hq (fun h => h)
  obtain ⟨t2, a1, b1⟩ := kk cd a σ' hT' ls s₂.heap locs hl hPw (zq_D_ad hD (by rw [zq_ad, zq_ad])) ⟨Nat.le_trans hS.1 hsz, fun q h1 h2 => by rw [hkp q (Nat.lt_of_lt_of_le h1 hS.1)]; exact hS.2.1 q h1 h2, hS.2.2⟩ _ (by rfl) X''
  refine ⟨t2, hstep₁ _ (fun acts => ?_), b1⟩
  rw [doInvoke_state]
  refine Steps.trans hsteps ?_
  rw [hs2]
  exact st2 _ a1
