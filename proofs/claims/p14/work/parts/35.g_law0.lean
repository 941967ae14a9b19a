/-! rows of the law: the script, calls of its helpers, its end -/
section ZL
variable {x : zC} {w : zW} {own : String} {cc : ByteArray} {nL : Nat} {rm : Room} {k n : Nat} {σ : zG} {pc : Nat} {V : List (Option Value)} {st : List Value} {P : Option Value → zG → Prop} {F : Nat → Prop}
theorem zr_sld {b L : Nat} {xs : Nat → Int32} (hG : zq_G x w own cc nL rm) (hX : va_X b L xs (zc_s x) (zc_s x).heap) (hbl : b < (zc_s x).heap.size) (hbA : ¬ zc_A x b) {i : Int32} (hi : vp_in i L) (hd : decode cc pc = .ok (.iaload, 1)) (kk : zq_W x w k n σ (pc + 1) V (.int (xs i.toNatClampNeg) :: st)) : zq_W x w k n σ pc V (.int i :: .ref b :: st) :=
  fun ls H locs hl hP hD hS => va_sld hG.1 hG.2.1 hX hbl hbA hS hi hd (kk ls H locs hl hP hD hS)
theorem zr_slen {b L : Nat} {xs : Nat → Int32} (hG : zq_G x w own cc nL rm) (hX : va_X b L xs (zc_s x) (zc_s x).heap) (hbl : b < (zc_s x).heap.size) (hbA : ¬ zc_A x b) (hd : decode cc pc = .ok (.arraylength, 1)) (kk : zq_W x w k n σ (pc + 1) V (.int (Int32.ofNat L) :: st)) : zq_W x w k n σ pc V (.ref b :: st) :=
  fun ls H locs hl hP hD hS => va_slen hG.1 hG.2.1 hX hbl hbA hS hd (kk ls H locs hl hP hD hS)
theorem zr_pop (hG : zq_G x w own cc nL rm) {v : Value} (hc : v.category = 1) (hd : decode cc pc = .ok (.pop, 1)) (kk : zq_W x w k n σ (pc + 1) V st) : zq_W x w k n σ pc V (v :: st) :=
  fun ls H locs hl hP hD hS => lv_pop hG.1 hG.2.1 hd hc (kk ls H locs hl hP hD hS)
theorem zr_lcmp (hG : zq_G x w own cc nL rm) {a b : Int64} (hd : decode cc pc = .ok (.lcmp, 1)) (kk : zq_W x w k n σ (pc + 1) V (.int (lg_cmp a b) :: st)) : zq_W x w k n σ pc V (.long b :: .long a :: st) :=
  fun ls H locs hl hP hD hS => W.lcmp hG.1 hG.2.1 hd (kk ls H locs hl hP hD hS)
theorem zq_go2 {mc ms : Nat} {H : Heap} {locs : List Loc} {ls : Array Slot} {rest : List Value} {a : Array Value} (hF : ∀ q, F q → zc_A x q) (hl : zq_L ls V) (hD : va_D (fun _ => True) (zq_w w σ)) (hS : va_S (zc_A x) (zc_s x).heap H locs)
    (hr : va_Run (zc_p x) (zc_l x) (zc_e x) (zc_R x) (zc_s x) (zc_m x) (zc_a x) (zc_b x) (zc_h x) (zc_c x) H locs k n mc ms (F0 (zc_m x) pc ls st) rest (zq_Qc w F P a) F)
    (kk : ∀ r σ', P r σ' → zq_W x w (k + mc) (n + ms) σ' (pc + 3) V (r.toList ++ rest)) : W (zc_p x) (zc_l x) (zc_e x) (zc_R x) (zc_s x) (zc_m x) (zc_a x) (zc_b x) (zc_h x) (zc_c x) H locs k n (zc_Q x) (F0 (zc_m x) pc ls st) := by
  intro T hT X
  obtain ⟨v, st₀, t, T', L, h0, X', hL, e1, e2, ⟨r, σ', hv, hp, hB, hz, hk⟩, st⟩ := hr T hT X
  cases hv
  rw [h0] at hz hk
  obtain ⟨t2, a1, b1⟩ := kk v σ' hp ls T'.heap (locs ++ L) hl (by rw [e1]; exact hB) (zq_D_ad hD (by rw [zq_ad, zq_ad]))
    ⟨Nat.le_trans hS.1 (by rw [e1]; exact hz), fun q h1 h2 => by rw [e1, hk q (Nat.lt_of_lt_of_le h1 hS.1) (fun z => h2 (hF q z))]; exact hS.2.1 q h1 h2, fun q hq => by
      rcases List.mem_append.mp hq with h | h
      · exact hS.2.2 q h
      · exact hF _ (hL q h)⟩ T' rfl X'
  exact ⟨t2, st t2 a1, b1⟩
def zq_gH (own : String) (index : Nat) (y : MethodName) (bytes : ByteArray) (maxL : Nat) (hh : List (Nat × Nat × Nat × Nat)) : Prop :=
  Cond.methodLink own index y ∈ zq_T ∧ Cond.static y ∈ zq_T ∧ Cond.initialized own ∈ zq_T ∧ Cond.codeWith y bytes maxL (some .int) hh ∈ zq_T
theorem zr_callH (hG : zq_G x w own cc nL rm) (hF : ∀ q, zq_A w q → zc_A x q) (hE : zq_E (zq_A w) (zc_s x) (zc_s x).heap) (hA0 : ∀ a : Nat, a < (zc_s x).heap.size → ¬ zc_A x a) {y : MethodName} {bytes : ByteArray} {maxL : Nat} {hh : List (Nat × Nat × Nat × Nat)} {rm' : Room} {index : Nat} {As rest : List Value} (hM : zq_MH (zc_l x) w y bytes maxL hh rm' As σ P) (hq : y.cls = own) (hw : zq_gH own index y bytes maxL hh)
    (hdd : y.cls ≠ "java/lang/invoke/MethodHandle" ∧ y.cls ≠ "java/lang/invoke/VarHandle" ∧ (parseMethodDescriptor y.desc).map (fun d => d.parameters.length) = some As.length) (hRm : rm'.cells = 1 ∧ rm'.slots = 6 ∧ rm'.frames + 1 ≤ rm.frames ∧ 8 + (maxL + 11) + rm'.locals ≤ rm.locals) (hk : k + 1 ≤ rm.cells ∧ n + 6 ≤ rm.slots) (hV : V.length = nL) (hst : (rest.map fun v => v.category).sum ≤ 8) (hd : decode cc pc = .ok (.invokestatic index, 3)) (hs : st = As.reverse ++ rest)
    (kk : ∀ r σ', P r σ' → zq_W x w (k + 1) (n + 6) σ' (pc + 3) V (r.toList ++ rest)) : zq_W x w k n σ pc V st := by
  intro ls H locs hl hP hD hS
  subst hs
  have hR : zc_R x = rm := hG.2.2.2.2.2.2
  have hts := hG.2.2.2.2.1
  obtain ⟨w1, w2, w3, w4⟩ := hw
  have hgood : GoodIn zq_T (.codeWith y bytes maxL (some .int) hh :: zq_T) := fun t ht => by
    have hm : t ∈ zq_T := by
      rcases List.mem_cons.mp ht with rfl | ht
      · exact w4
      · exact ht
    exact ⟨hm, zq_good t hm⟩
  have hini : (Cond.initialized y.cls).before (zc_a x) (zc_s x) = true := by rw [hq]; exact hts _ w3
  refine zq_go2 (mc := 1) (ms := 6) (a := As.toArray) hF hl hD hS ?_ kk
  intro T hT X
  have hK : Back (zc_l x) (zc_R x) (zc_p x) (zc_e x) (zc_b x) (zc_s x) (zc_a x) y 3 8 (PreOf (zc_R x) 1 6 (zq_PX w As σ)) (PostOf (zq_Qc w (zq_A w) P) 1 6 (zq_A w)) :=
    va_backW hM (zq_blindX w As σ) hRm.1 hRm.2.1 (by rw [hR]; exact hRm.2.2.1) (by rw [hR]; exact hRm.2.2.2) (pay_in hts hgood) List.mem_cons_self (fun a' U hW => word_at hW (Or.inl (by first | rfl | simp [Cond.onTables, Cond.keeps, Cond.steady])) hini)
  obtain ⟨mk, methM, cM, hnamed, hmethM, -, -, -, -, -, -, hsigM⟩ := Cond.codeWith_spec (hts _ w4)
  have hstatic : methM.isStatic = true := Cond.static_spec hnamed hmethM (hts _ w2)
  obtain ⟨kP, hkP, -⟩ := className_of_methodNamed hnamed
  have hinitP : kP.init = .initialized := Cond.initialized_spec (findClass_of_methodNamed hnamed) hkP hini
  have hlen : As.length = methM.sig.parameters.length := by
    have h2 := hdd.2.2
    rw [hsigM] at h2
    exact (Option.some.inj h2).symm
  obtain ⟨vm₁, X₁, hstep₁⟩ := X.invokestatic hG.1 hG.2.2.2.1 (hts _ w1) hnamed hmethM hstatic hkP hinitP ⟨hdd.1, hdd.2.1⟩ (g := F0 (zc_m x) pc ls (As.reverse ++ rest)) rfl (argsL := As) (rest := rest) hlen rfl (by rw [hG.2.1]; exact hd)
  have hpx : zq_PX w As σ As.toArray (T.setVm vm₁) := ⟨⟨rfl, by rw [show (T.setVm vm₁).heap = H from hT]; exact hP, va_K.moved X₁.warmed.alike hG.2.2.2.2.2.1⟩, zq_E.warm X₁.warmed hE (fun a h1 h2 => by rw [show (T.setVm vm₁).heap = H from hT]; exact hS.2.1 a h1 (hA0 a h1))⟩
  obtain ⟨v, ⟨U', l2, c2, s2⟩, X', ⟨g', mk', t, L, e1, e2, hqq, h1, hL, h2, h3⟩, hsteps⟩ := hK (zc_m x) (zc_h x) (zc_c x) ⟨T.setVm vm₁, locs, k, n⟩ (F0 (zc_m x) pc ls rest) (.invokestatic index) mk As.toArray X₁ rfl ((hl.1.trans hV).trans hG.2.2.1.symm) (by rw [hG.2.1]; exact hd) (lv_room hst) (X₁.named hnamed) ⟨by rw [hR]; exact hk.1, by rw [hR]; exact hk.2, hpx⟩
  dsimp only [Pt.U, Pt.locs, Pt.cells, Pt.slots] at X' e1 e2 h1 h2 h3 hsteps
  subst h1; subst h2; subst h3
  exact ⟨v, (T.setVm vm₁).calling g' mk' As.toArray, t, U', L, hT, X', hL, e1, e2, hqq, fun target h => hstep₁ _ fun acts => by rw [doInvoke_state]; exact hsteps.trans h⟩
end ZL

/-- what the law's walk stands on: its context, the script, its end -/
def zq_LW (x : zC) (w : zW) (b L : Nat) (xs : Nat → Int32) (k0 n0 : Nat) : Prop :=
  zq_G x w "GridRouterLaw" zc_La_law 7 room_1 ∧ zq_Wr x w ∧ zq_Ap w ∧ zq_E (zq_A w) (zc_s x) (zc_s x).heap ∧ (∀ a : Nat, a < (zc_s x).heap.size → ¬ zc_A x a) ∧ va_X b L xs (zc_s x) (zc_s x).heap ∧ b < (zc_s x).heap.size ∧ ¬ zc_A x b ∧ (∀ (k n : Nat) (σ : zG) (pc : Nat) (V : List (Option Value)), k ≤ 601024 → n ≤ 7293000 → decode zc_La_law pc = .ok (.ireturn, 1) → zq_W x w k n σ pc V [.int 1]) ∧ (zc_l x).flags = pinnedFlags ++ [noTraceFlag] ∧ k0 + 1001 ≤ 601024 ∧ n0 + 6006 ≤ 7293000
theorem zgh_70 : zq_gH "GridRouterLaw" 70 zy_La_h_block zc_La_h_block 6 [(0, 19, 22, 13), (0, 19, 26, 15)] := ⟨tk_340, tk_341, tk_0, tk_342⟩
theorem zgh_74 : zq_gH "GridRouterLaw" 74 zy_La_h_net zc_La_h_net 9 [(0, 18, 21, 13), (0, 18, 25, 21), (0, 18, 29, 15)] := ⟨tk_445, tk_446, tk_0, tk_447⟩
theorem zgh_78 : zq_gH "GridRouterLaw" 78 zy_La_h_route zc_La_h_route 4 [(0, 9, 12, 13)] := ⟨tk_482, tk_483, tk_0, tk_484⟩
theorem zgh_82 : zq_gH "GridRouterLaw" 82 zy_La_h_push zc_La_h_push 4 [(0, 9, 12, 13)] := ⟨tk_567, tk_568, tk_0, tk_569⟩
theorem zgh_89 : zq_gH "GridRouterLaw" 89 zy_La_h_rip zc_La_h_rip 3 [(0, 5, 8, 13)] := ⟨tk_667, tk_668, tk_0, tk_669⟩
theorem zgh_93 : zq_gH "GridRouterLaw" 93 zy_La_h_paint zc_La_h_paint 6 [(0, 9, 12, 13)] := ⟨tk_675, tk_676, tk_0, tk_677⟩
theorem zgh_97 : zq_gH "GridRouterLaw" 97 zy_La_h_stitch zc_La_h_stitch 5 [(0, 17, 20, 13)] := ⟨tk_683, tk_684, tk_0, tk_685⟩
theorem zgh_101 : zq_gH "GridRouterLaw" 101 zy_La_h_cell zc_La_h_cell 6 [(0, 12, 15, 13)] := ⟨tk_692, tk_693, tk_0, tk_694⟩
theorem zgh_104 : zq_gH "GridRouterLaw" 104 zy_La_h_via zc_La_h_via 5 [(0, 17, 20, 13)] := ⟨tk_699, tk_700, tk_0, tk_701⟩
theorem zgh_107 : zq_gH "GridRouterLaw" 107 zy_La_h_faults zc_La_h_faults 4 [(0, 9, 12, 21)] := ⟨tk_706, tk_707, tk_0, tk_708⟩
theorem zgh_115 : zq_gH "GridRouterLaw" 115 zy_La_h_shape zc_La_h_shape 5 [(0, 10, 13, 13), (0, 10, 17, 21)] := ⟨tk_735, tk_736, tk_0, tk_737⟩
theorem zgh_85 : zq_gH "GridRouterLaw" 85 zy_La_h_all zc_La_h_all 5 [(0, 10, 13, 21)] := ⟨tk_592, tk_593, tk_0, tk_594⟩
