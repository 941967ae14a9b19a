section ZS
variable {x : zC} {D : va_G} {tys : List (ClassId × FieldType)} {ws : va_W} {own : String} {cc : ByteArray} {nL : Nat} {rm : Room} {k n : Nat} {pc : Nat} {V : List (Option Value)} {st : List Value}
theorem zi_sld {b L : Nat} {xs : Nat → Int32} (hG : zq_H x D tys own cc nL rm) (hX : va_X b L xs (zc_s x) (zc_s x).heap) (hbl : b < (zc_s x).heap.size) (hbA : ¬ zc_A x b) {i : Int32} (hi : vp_in i L) (hd : decode cc pc = .ok (.iaload, 1)) (kk : zq_U x D tys ws k n (pc + 1) V (.int (xs i.toNatClampNeg) :: st)) : zq_U x D tys ws k n pc V (.int i :: .ref b :: st) :=
  fun ls H locs hl hP hD hS => va_sld hG.1 hG.2.1 hX hbl hbA hS hi hd (kk ls H locs hl hP hD hS)
theorem zi_slen {b L : Nat} {xs : Nat → Int32} (hG : zq_H x D tys own cc nL rm) (hX : va_X b L xs (zc_s x) (zc_s x).heap) (hbl : b < (zc_s x).heap.size) (hbA : ¬ zc_A x b) (hd : decode cc pc = .ok (.arraylength, 1)) (kk : zq_U x D tys ws k n (pc + 1) V (.int (Int32.ofNat L) :: st)) : zq_U x D tys ws k n pc V (.ref b :: st) :=
  fun ls H locs hl hP hD hS => va_slen hG.1 hG.2.1 hX hbl hbA hS hd (kk ls H locs hl hP hD hS)
end ZS
/-- a cell of the script, 0 behind its end -/
def zl_sc (L : Nat) (xs : Nat → Int32) (k : Nat) : Int32 := if k < L then xs k else 0
def zl_Ps (D : va_G) (tys : List (ClassId × FieldType)) (b L : Nat) (xs : Nat → Int32) (sz k : Nat) : Array Value → State → Prop := va_Pc [.ref b, .int (nI k)] (fun U => U.heap.size = sz ∧ va_X b L xs U U.heap ∧ b < sz ∧ va_K D vwCl tys U)
theorem zl_blind (D : va_G) (tys : List (ClassId × FieldType)) (b L : Nat) (xs : Nat → Int32) (sz k : Nat) : FrameBlind (zl_Ps D tys b L xs sz k) := fun a U g mk q => by
  obtain ⟨q0, q1, qX, qb, qK⟩ := q
  exact ⟨q0, q1, va_X.moved (u := U) (U := U.calling g mk a) (Vm.Alike.refl U.vm) qX, qb, va_K.moved (u := U) (U := U.calling g mk a) (Vm.Alike.refl U.vm) qK⟩
def zl_Qs (L : Nat) (xs : Nat → Int32) (sz k : Nat) : Array Value → State → Outcome → State → Prop := va_Qi (fun r (_ : Unit) => r = zl_sc L xs k) (fun _ _ => True) (fun q => sz ≤ q)
theorem zk_scr (l : Launch) (D : va_G) (tys : List (ClassId × FieldType)) (b L : Nat) (xs : Nat → Int32) (sz k : Nat) (hk : k < 4) (hL : L < 2 ^ 31) : Met l zy_La_scr (.code zy_La_scr zc_La_scr 2 (some .int) :: zq_T) (zq_rc 0 0 0 0) (zl_Ps D tys b L xs sz k) (zl_Qs L xs sz k) 0 0 (fun q => sz ≤ q) := by
  refine Met.ofW (cc := zc_La_scr) (maxL := 2) (ret := some .int) (by decide) rfl ?_
  intro p e s m args below meth c s₁ B hml hv
  obtain ⟨rfl, hsz, hX, hb, hK⟩ := hv
  subst hsz
  have hts := atoms_spec (ws := .code zy_La_scr zc_La_scr 2 (some .int) :: zq_T) B.pre
  have hown : s.vm.findClass zy_La_scr.cls = some m.cls := findClass_of_methodNamed B.named
  obtain ⟨x, hx⟩ : ∃ x : zC, x = (p, l, e, (headSpec (.code zy_La_scr zc_La_scr 2 (some .int) :: zq_T) (zq_rc 0 0 0 0)).room, s, m, ([.ref b, .int (nI k)] : List Value).toArray, below, meth, c, MQ below (zl_Qs L xs s.heap.size k) ([.ref b, .int (nI k)] : List Value).toArray s 0 0 (fun q => s.heap.size ≤ q), fun q => s.heap.size ≤ q) := ⟨_, rfl⟩
  have hG : zq_H x D tys "GridRouterLaw" zc_La_scr 2 (zq_rc 0 0 0 0) := by rw [hx]; exact ⟨B.exec, B.bytes, hml, hown, fun t ht => hts t (List.mem_cons_of_mem _ ht), hK, rfl⟩
  have hXx : va_X b L xs (zc_s x) (zc_s x).heap := by rw [hx]; exact hX
  have hbx : b < (zc_s x).heap.size := by rw [hx]; exact hb
  have hAx : ¬ zc_A x b := by rw [hx]; exact Nat.not_le.mpr hb
  have hret : ∀ v, v = zl_sc L xs k → ∀ V, zq_U x D tys [] 0 0 13 V [.int v] := by
    intro v hv V ls H locs hl hP hD hS
    rw [hx] at hS ⊢
    exact W.iret B.exec B.bytes B.returns (fun t ht hW => ⟨⟨v, (), rfl, hv, trivial⟩, hS.F ht⟩) hS.2.2 zd_La_scr_13 B.notSynchronized
  have walk : zq_U x D tys [] 0 0 0 (zq_V0 [.ref b, .int (nI k)] 2) [] := by
    refine zi_iload_n hG zd_La_scr_0 rfl rfl ?_
    refine zi_aload_n hG zd_La_scr_1 rfl rfl ?_
    refine zi_slen hG hXx hbx hAx zd_La_scr_2 ?_
    refine zi_icmp_ge hG 12 zd_La_scr_3 (by decide) (fun hc => ?_) (fun hc => ?_)
    · have hc := (nI_leI (a := L) (b := k) hL (by omega)).mp hc
      refine zi_iconst hG (v := 0) zd_La_scr_12 (by decide) ?_
      exact hret 0 (if_neg (by omega)).symm _
    · have hc : ¬ L ≤ k := fun h => hc ((nI_leI (a := L) (b := k) hL (by omega)).mpr h)
      refine zi_aload_n hG zd_La_scr_6 rfl rfl ?_
      refine zi_iload_n hG zd_La_scr_7 rfl rfl ?_
      refine zi_sld hG hXx hbx hAx (vp_in_nI (show k < L by omega) hL) zd_La_scr_8 ?_
      refine zi_goto hG 13 zd_La_scr_9 (by decide) ?_
      exact hret _ (by rw [nI_clamp (by omega)]; exact (if_pos (by omega)).symm) _
  rw [lg_entry_eq]
  have r := walk _ s.heap [] (zq_entry [.ref b, .int (nI k)] 2 (Nat.le_of_ble_eq_true rfl) (by simp [Value.category])) (fun i q h => by simp at h) ⟨fun i j p q h => by simp at h, fun i q h => by simp at h⟩ (by rw [hx]; exact va_S.rf)
  rw [hx] at r
  exact r
theorem zi_callC {x : zC} {D : va_G} {tys : List (ClassId × FieldType)} {ws : va_W} {cc : ByteArray} {nL : Nat} {rm : Room} {k n : Nat} {pc : Nat} {V : List (Option Value)} {rest : List Value} {b L : Nat} {xs : Nat → Int32} (hG : zq_H x D tys "GridRouterLaw" cc nL rm) (hA : ∀ q, (zc_s x).heap.size ≤ q → zc_A x q) (hX : va_X b L xs (zc_s x) (zc_s x).heap) (hbl : b < (zc_s x).heap.size) (hbA : ¬ zc_A x b) (hL : L < 2 ^ 31) {index i : Nat} (hi : i < 4)
    (hw : Cond.methodLink "GridRouterLaw" index zy_La_scr ∈ zq_T ∧ Cond.static zy_La_scr ∈ zq_T ∧ Cond.initialized "GridRouterLaw" ∈ zq_T ∧ Cond.code zy_La_scr zc_La_scr 2 (some .int) ∈ zq_T) (hRm : 1 ≤ rm.frames ∧ 21 ≤ rm.locals) (hk : k ≤ rm.cells ∧ n ≤ rm.slots) (hV : V.length = nL) (hst : (rest.map fun v => v.category).sum ≤ 8) (hd : decode cc pc = .ok (.invokestatic index, 3))
    (kk : zq_U x D tys ws k n (pc + 3) V (.int (zl_sc L xs i) :: rest)) : zq_U x D tys ws k n pc V (.int (nI i) :: .ref b :: rest) := by
  intro ls H locs hl hP hD hS
  have hR : zc_R x = rm := hG.2.2.2.2.2.2
  have ht := hG.2.2.2.2.1
  have hgd : GoodIn zq_T (.code zy_La_scr zc_La_scr 2 (some .int) :: zq_T) := fun t htt => by
    have hm : t ∈ zq_T := by
      rcases List.mem_cons.mp htt with rfl | htt
      · exact hw.2.2.2
      · exact htt
    exact ⟨hm, zq_good t hm⟩
  have hbH : b < H.size := Nat.lt_of_lt_of_le hbl hS.1
  refine va_calli (a := ([.ref b, .int (nI i)] : List Value).toArray) (A1 := fun q => H.size ≤ q) (va_runS (nL := nL) (cc := cc) (As := [.ref b, .int (nI i)]) (rest := rest) ⟨hG.1, hG.2.1, hG.2.2.1, hG.2.2.2.1, ht⟩ (zk_scr (zc_l x) D tys b L xs H.size i hi hL) ⟨callB_of 2 ht hgd rfl rfl rfl (ht _ hw.2.2.1) (ht _ hw.1) zdd_La_scr (by rw [hR]; exact ⟨hRm.1, hRm.2⟩), ht _ hw.2.1⟩ ⟨zl_blind D tys b L xs H.size i, fun U hU hW => ⟨rfl, by rw [hU], by rw [hU]; exact (hX.kept (hS.2.1 b hbl hbA)).moved hW.alike, hbH, va_K.moved hW.alike hG.2.2.2.2.2.1⟩⟩ rfl rfl (hl.1.trans hV) rfl (lv_room hst) hd (by rw [hR]; exact hk)) hS (fun q h1 h2 => absurd h1 (Nat.not_lt.mpr h2)) (fun q h => hA q (Nat.le_trans hS.1 h)) (fun r u t H1 locs1 ht1 hvm hp _ hz hk1 hS1 => ?_)
  subst hp
  exact kk ls H1 locs1 hl (fun i q hq => (hP i q hq).kept (hk1 q.1 (hP i q hq).lt (Nat.not_le.mpr (hP i q hq).lt))) hD hS1
/-! the tables at the entry -/
theorem zl_ar {s : State} {A : Array Value} {ty : FieldType} (hp : ∀ C, ty ≠ .object C) (h : (Cond.arrayClass ty).before A s = true) : ∃ cA, ArrOfT s cA ty ∧ va_RA s cA ty := by
  obtain ⟨c, k, comp, h1, h2, h3⟩ := Cond.arrayClass_spec h
  exact ⟨c, fun n z => ⟨fun k h => (by cases h), k, h2, comp, h3⟩, by cases ty <;> first | exact h1 | exact absurd rfl (hp _)⟩
theorem zl_K {s : State} {A : Array Value} (ht : ∀ t ∈ zq_T, t.before A s = true) : ∃ (D : va_G) (tI tZ tL : ClassId), va_K D vwCl [(tI, .int), (tZ, .boolean), (tL, .long)] s := by
  obtain ⟨cC0, iS0, h0⟩ := u_known ht zi0 (ht _ tk_22)
  have h : ∀ c : Nat, ∃ (cC : ClassId) (iS : Nat → Nat), ∀ q, vwCl[c]? = some q → u_Kn s q.1 q.2.1 q.2.2 cC iS := by
    intro c
    match c with
    | 0 =>
      obtain ⟨cC, iS, h⟩ := u_known ht zi0 (ht _ tk_22)
      exact ⟨cC, iS, fun q hq => by cases hq; exact h⟩
    | 1 =>
      obtain ⟨cC, iS, h⟩ := u_known ht zi1 (ht _ tk_30)
      exact ⟨cC, iS, fun q hq => by cases hq; exact h⟩
    | 2 =>
      obtain ⟨cC, iS, h⟩ := u_known ht zi2 (ht _ tk_77)
      exact ⟨cC, iS, fun q hq => by cases hq; exact h⟩
    | 3 =>
      obtain ⟨cC, iS, h⟩ := u_known ht zi3 (ht _ tk_115)
      exact ⟨cC, iS, fun q hq => by cases hq; exact h⟩
    | 4 =>
      obtain ⟨cC, iS, h⟩ := u_known ht zi4 (ht _ tk_144)
      exact ⟨cC, iS, fun q hq => by cases hq; exact h⟩
    | 5 =>
      obtain ⟨cC, iS, h⟩ := u_known ht zi5 (ht _ tk_170)
      exact ⟨cC, iS, fun q hq => by cases hq; exact h⟩
    | 6 =>
      obtain ⟨cC, iS, h⟩ := u_known ht zi6 (ht _ tk_198)
      exact ⟨cC, iS, fun q hq => by cases hq; exact h⟩
    | 7 =>
      obtain ⟨cC, iS, h⟩ := u_known ht zi7 (ht _ tk_204)
      exact ⟨cC, iS, fun q hq => by cases hq; exact h⟩
    | 8 =>
      obtain ⟨cC, iS, h⟩ := u_known ht zi8 (ht _ tk_217)
      exact ⟨cC, iS, fun q hq => by cases hq; exact h⟩
    | 9 =>
      obtain ⟨cC, iS, h⟩ := u_known ht zi9 (ht _ tk_287)
      exact ⟨cC, iS, fun q hq => by cases hq; exact h⟩
    | 10 =>
      obtain ⟨cC, iS, h⟩ := u_known ht zi10 (ht _ tk_758)
      exact ⟨cC, iS, fun q hq => by cases hq; exact h⟩
    | n + 11 => exact ⟨cC0, iS0, fun q hq => by cases hq⟩
  obtain ⟨tI, tI1, tI2⟩ := zl_ar (fun C h => by cases h) (ht _ tk_75)
  obtain ⟨tZ, tZ1, tZ2⟩ := zl_ar (fun C h => by cases h) (ht _ tk_142)
  obtain ⟨tL, tL1, tL2⟩ := zl_ar (fun C h => by cases h) (ht _ tk_984)
  refine ⟨(fun c => (h c).choose, fun c => (h c).choose_spec.choose), tI, tZ, tL, fun c q hq => (h c).choose_spec.choose_spec q hq, fun k q hq => ?_⟩
  match k with
  | 0 => cases hq; exact ⟨tI1, tI2⟩
  | 1 => cases hq; exact ⟨tZ1, tZ2⟩
  | 2 => cases hq; exact ⟨tL1, tL2⟩
  | n + 3 => cases hq
theorem zl_E {s : State} {b : Nat} {A : Nat → Prop} (hts : ∀ w ∈ lw_tbl, w.before #[Value.ref b] s = true) (hgv : (Jvm.Cond.and given_1 narrow_1).before #[Value.ref b] s = true) (hA : ∀ a : Nat, a < s.heap.size → ¬ A a) : zq_E A s s.heap := by
  have hf := flat_of_before _ hgv
  refine ⟨zq_st.of (hts _ (List.mem_append_right _ (List.mem_of_getElem? (i := 384) (by decide +kernel)))) (hf _ (by decide +kernel)) hA, zq_st.of (hts _ (List.mem_append_right _ (List.mem_of_getElem? (i := 386) (by decide +kernel)))) (hf _ (by decide +kernel)) hA, fun t ht => va_tabs (zq_fc_on ht) rfl (hts t (List.mem_filter.mp ht).1), fun q hq => ?_, fun q hq => ?_⟩
  · simp only [zq_str, List.mem_cons, List.not_mem_nil, or_false] at hq
    rcases hq with rfl | rfl | rfl | rfl | rfl | rfl | rfl | rfl | rfl | rfl | rfl
    · obtain ⟨a, c, cell, k, q1, -⟩ := Cond.exactly_spec (hf (Cond.exactly (.string "GridRouter" 78) "java/lang/String") (by decide +kernel))
      exact ⟨a, vk_R.of (hts _ (List.mem_append_right _ (List.mem_of_getElem? (i := 398) (by decide +kernel)))) q1⟩
    · obtain ⟨a, c, cell, k, q1, -⟩ := Cond.exactly_spec (hf (Cond.exactly (.string "GridRouter" 93) "java/lang/String") (by decide +kernel))
      exact ⟨a, vk_R.of (hts _ (List.mem_append_right _ (List.mem_of_getElem? (i := 438) (by decide +kernel)))) q1⟩
    · obtain ⟨a, c, cell, k, q1, -⟩ := Cond.exactly_spec (hf (Cond.exactly (.string "GridRouter" 110) "java/lang/String") (by decide +kernel))
      exact ⟨a, vk_R.of (hts _ (List.mem_append_right _ (List.mem_of_getElem? (i := 470) (by decide +kernel)))) q1⟩
    · obtain ⟨a, c, cell, k, q1, -⟩ := Cond.exactly_spec (hf (Cond.exactly (.string "GridRouter" 113) "java/lang/String") (by decide +kernel))
      exact ⟨a, vk_R.of (hts _ (List.mem_append_right _ (List.mem_of_getElem? (i := 477) (by decide +kernel)))) q1⟩
    · obtain ⟨a, c, cell, k, q1, -⟩ := Cond.exactly_spec (hf (Cond.exactly (.string "GridRouter" 126) "java/lang/String") (by decide +kernel))
      exact ⟨a, vk_R.of (hts _ (List.mem_append_right _ (List.mem_of_getElem? (i := 493) (by decide +kernel)))) q1⟩
    · obtain ⟨a, c, cell, k, q1, -⟩ := Cond.exactly_spec (hf (Cond.exactly (.string "GridRouter" 135) "java/lang/String") (by decide +kernel))
      exact ⟨a, vk_R.of (hts _ (List.mem_append_right _ (List.mem_of_getElem? (i := 599) (by decide +kernel)))) q1⟩
    · obtain ⟨a, c, cell, k, q1, -⟩ := Cond.exactly_spec (hf (Cond.exactly (.string "GridRouter" 155) "java/lang/String") (by decide +kernel))
      exact ⟨a, vk_R.of (hts _ (List.mem_append_right _ (List.mem_of_getElem? (i := 682) (by decide +kernel)))) q1⟩
    · obtain ⟨a, c, cell, k, q1, -⟩ := Cond.exactly_spec (hf (Cond.exactly (.string "GridRouter" 160) "java/lang/String") (by decide +kernel))
      exact ⟨a, vk_R.of (hts _ (List.mem_append_right _ (List.mem_of_getElem? (i := 691) (by decide +kernel)))) q1⟩
    · obtain ⟨a, c, cell, k, q1, -⟩ := Cond.exactly_spec (hf (Cond.exactly (.string "GridRouter" 165) "java/lang/String") (by decide +kernel))
      exact ⟨a, vk_R.of (hts _ (List.mem_append_right _ (List.mem_of_getElem? (i := 713) (by decide +kernel)))) q1⟩
    · obtain ⟨a, c, cell, k, q1, -⟩ := Cond.exactly_spec (hf (Cond.exactly (.string "GridRouter" 174) "java/lang/String") (by decide +kernel))
      exact ⟨a, vk_R.of (hts _ (List.mem_append_right _ (List.mem_of_getElem? (i := 746) (by decide +kernel)))) q1⟩
    · obtain ⟨a, c, cell, k, q1, -⟩ := Cond.exactly_spec (hf (Cond.exactly (.string "GridRouter" 176) "java/lang/String") (by decide +kernel))
      exact ⟨a, vk_R.of (hts _ (List.mem_append_right _ (List.mem_of_getElem? (i := 747) (by decide +kernel)))) q1⟩
  · simp only [zq_nc, List.mem_cons, List.not_mem_nil, or_false] at hq
    rcases hq with rfl | rfl | rfl
    · exact va_Nc.of (hf _ (by decide +kernel))
    · exact va_Nc.of (hf _ (by decide +kernel))
    · exact va_Nc.of (hf _ (by decide +kernel))
theorem zl_nst {s : State} {b : Nat} (hts : ∀ w ∈ lw_tbl, w.before #[Value.ref b] s = true) : va_Nw zq_nst s := va_Nw.of rfl (hts _ (List.mem_append_right _ (List.mem_of_getElem? (i := 205) (by decide +kernel))))
/-- a part of a number -/
theorem zl_and (a : Int32) (M : Nat) : ∃ j, j ≤ M ∧ a &&& nI M = nI j := by
  refine ⟨a.toBitVec.toNat &&& (BitVec.ofNat 32 M).toNat, Nat.le_trans Nat.and_le_right (by simp [BitVec.toNat_ofNat]; exact Nat.mod_le _ _), ?_⟩
  apply Int32.toBitVec_inj.mp
  apply BitVec.eq_of_toNat_eq
  rw [Int32.toBitVec_and, BitVec.toNat_and]
  show _ = (BitVec.ofNat 32 _).toNat
  rw [BitVec.toNat_ofNat]
  show a.toBitVec.toNat &&& (BitVec.ofNat 32 M).toNat = _
  refine (Nat.mod_eq_of_lt (Nat.lt_of_le_of_lt Nat.and_le_left a.toBitVec.isLt)).symm
theorem zl_dim (a : Int32) : ∃ W, 2 ≤ W ∧ W ≤ 9 ∧ 2 + (a &&& 7) = nI W := by
  obtain ⟨j, hj, e⟩ := zl_and a 7
  exact ⟨2 + j, by omega, by omega, by rw [show (7 : Int32) = nI 7 from rfl, e]; exact nI_add 2 j⟩
/-- from a world that grew to the world of a state -/
theorem zl_toW {x : zC} {w : zW} {k n : Nat} {σ : zG} {pc : Nat} {V : List (Option Value)} {st : List Value} (kk : va_D (zc_A x) (zq_w w σ) → zq_W x w k n σ pc V st) : zq_U x w.1 (zq_ty w) (zq_w w σ) k n pc V st :=
  fun ls H locs hl hP hD hS => kk hD ls H locs hl hP (hD.weaken (fun _ _ _ _ => trivial)) hS
theorem zl_Wr {x : zC} {w : zW} {σ : zG} (h : va_D (zc_A x) (zq_w w σ)) : zq_Wr x w := fun σ' k q hq => (zq_D_ad (ws' := zq_w w σ') h (by rw [zq_ad, zq_ad])).2 k q hq
theorem zl_Ap {A : Nat → Prop} {w : zW} {σ : zG} (h : va_D A (zq_w w σ)) : zq_Ap w := fun σ' => (zq_D_ad (ws' := zq_w w σ') h (by rw [zq_ad, zq_ad])).weaken (fun _ _ _ _ => trivial)
