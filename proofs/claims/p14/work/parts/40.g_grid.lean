
theorem zi_callV {x : zC} {D : va_G} {tys : List (ClassId × FieldType)} {ws : va_W} {own : String} {cc : ByteArray} {nL : Nat} {rm : Room} {k n : Nat} {pc : Nat} {V : List (Option Value)} {st : List Value} (hG : zq_H x D tys own cc nL rm) (hZ : va_Nw zq_nst (zc_s x)) (hA : ∀ q, (zc_s x).heap.size ≤ q → zc_A x q) {y : MethodName} {bytes : ByteArray} {maxL : Nat} {rm' : Room} {index b mc ms : Nat} {As rest : List Value} {wc : va_W} {P : va_W → Prop} (hM : zq_MI (zc_l x) D tys y bytes maxL rm' (.ref b :: As) wc P mc ms) (wr : va_W) (ps rs : List Nat) (hps : ps.map (fun i => ws[i]?) = wc.map some) (hrs : rs.map (fun i => ws[i]?) = wr.map some) (h0 : va_nd ps = true) (h1 : va_nd rs = true) (h2 : ∀ i ∈ rs, i ∉ ps) (q0 : Nat) {ci : Nat} {fs : List Value} {q : vw_C} (he : ws[q0]? = some (b, .inr (ci, fs))) (hc : vwCl[ci]? = some q) (hq : q.1 = y.cls) (hw : zq_gV own index y bytes maxL none)
    (hdd : y.cls ≠ "java/lang/invoke/MethodHandle" ∧ y.cls ≠ "java/lang/invoke/VarHandle" ∧ (parseMethodDescriptor y.desc).map (fun d => d.parameters.length) = some As.length) (hRm : rm'.cells = mc ∧ rm'.slots = ms ∧ rm'.frames + 1 ≤ rm.frames ∧ 8 + (maxL + 11) + rm'.locals ≤ rm.locals) (hk : k + mc ≤ rm.cells ∧ n + ms ≤ rm.slots) (hV : V.length = nL) (hst : (rest.map fun v => v.category).sum ≤ 8) (hd : decode cc pc = .ok (.invokevirtual index, 3)) (hs : st = As.reverse ++ .ref b :: rest)
    (kk : ∀ ws', P ws' → zq_U x D tys (wr ++ ws') (k + mc) (n + ms) (pc + 3) V rest) : zq_U x D tys ws k n pc V st := by
  intro ls H locs hl hP hD hS
  subst hs
  have hR : zc_R x = rm := hG.2.2.2.2.2.2
  have ht := hG.2.2.2.2.1
  have hrec := va_recv hG.2.2.2.2.2.1 hP hc he
  rw [hq] at hrec
  exact zi_go hA hl hP hD hS ps rs hps hrs h1 h2 (va_runV (nL := nL) (cc := cc) (As := As) (rest := rest) ⟨hG.1, hG.2.1, hG.2.2.1, hG.2.2.2.1, ht⟩ (hM H.size) (cwV As.length ht hw.good rfl hRm.1 hRm.2.1 ⟨rfl, hdd⟩ (by rw [hR]; exact ⟨hRm.2.2.1, hRm.2.2.2⟩)) ⟨zi_blind _ wc H.size, hrec, zi_pre hG hZ hP hD ps hps h0⟩ rfl rfl (hl.1.trans hV) rfl (lv_room hst) hd (by rw [hR]; exact hk)) kk
theorem nI_sub {a b : Nat} (h : b ≤ a) : nI a - nI b = nI (a - b) := by
  have e : nI (a - b) + nI b = nI a := by rw [nI_add, Nat.sub_add_cancel h]
  rw [← e, Int32.add_sub_cancel]
theorem nI_mul (a b : Nat) : nI a * nI b = nI (a * b) := (Int32.ofNat_mul a b).symm
theorem zg_st {f : Nat → Int32} {i j : Nat} {v : Int32} (hi : i < 2 ^ 31) : upd f (nI i).toNatClampNeg v j = if j = i then v else f j := by
  rw [nI_clamp hi]
  by_cases e : j = i
  · rw [if_pos e, e, pk_us]
  · rw [if_neg e, pk_un e]
/-- the next cell in a direction -/
def zg_B (W H c d : Nat) : Int32 :=
  if d = 0 then (if 0 < c % W then nI (c - 1) else -1) else if d = 1 then (if c % W + 1 < W then nI (c + 1) else -1) else if d = 2 then (if 0 < c / W % H then nI (c - W) else -1) else if d = 3 then (if c / W % H + 1 < H then nI (c + W) else -1) else if c < W * H then nI (c + W * H) else nI (c - W * H)
def zg_I (W H c : Nat) (fx fy fb : Nat → Int32) : Prop := ∀ j, j < c → fx j = nI (j % W) ∧ fy j = nI (j / W % H) ∧ ∀ d, d < 5 → fb (j * 5 + d) = zg_B W H j d
theorem zg_c {W H l y x : Nat} (hl : l < 2) (hy : y < H) (hx : x < W) : (l * H + y) * W + x < 2 * (W * H) ∧ ((l * H + y) * W + x) % W = x ∧ ((l * H + y) * W + x) / W % H = y := by
  refine ⟨?_, ?_, ?_⟩
  · have h1 : l * H + y + 1 ≤ 2 * H := by
      have : l = 0 ∨ l = 1 := by omega
      rcases this with rfl | rfl <;> omega
    have h2 := Nat.mul_le_mul_right W h1
    rw [Nat.add_mul, Nat.one_mul, Nat.mul_assoc, Nat.mul_comm H W] at h2
    omega
  · rw [Nat.add_comm, Nat.add_mul_mod_self_right, Nat.mod_eq_of_lt hx]
  · rw [Nat.add_comm, Nat.add_mul_div_right _ _ (by omega), Nat.div_eq_of_lt hx, Nat.zero_add, Nat.add_comm, Nat.add_mul_mod_self_right, Nat.mod_eq_of_lt hy]
set_option maxHeartbeats 4000000 in
set_option maxRecDepth 100000 in
theorem zk_Grid_link (l : Launch) (D : va_G) (tI tZ tL : ClassId) (q W H A C B ga gb gc c x y : Nat) (f0 : Nat → Int32) (hW : W ≤ 9) (hH : H ≤ 9) (hA : A ≤ 81) (hC : C = 2 * A) (hB : B = C * 5) (hcC : c < C) (hx : x < W) (hy : y < H) (hxc : x ≤ c) (hyc : 0 < y → W ≤ c) : zq_MI l D [(tI, .int), (tZ, .boolean), (tL, .long)] zy_Grid_link zc_Grid_link 5 (zq_rc 0 0 0 0) [.ref q, .int (nI c), .int (nI x), .int (nI y)] [(q, .inr (1, [.int (nI W), .int (nI H), .int (nI A), .int (nI C), .ref ga, .ref gb, .ref gc])), (gc, .inl (tI, B, .inl f0))] (fun ws => ∃ f, ws = [(q, .inr (1, [.int (nI W), .int (nI H), .int (nI A), .int (nI C), .ref ga, .ref gb, .ref gc])), (gc, .inl (tI, B, .inl f))] ∧ (∀ j, j < c * 5 → f j = f0 j) ∧ f (c * 5 + 0) = (if 0 < x then nI (c - 1) else -1) ∧ f (c * 5 + 1) = (if x + 1 < W then nI (c + 1) else -1) ∧ f (c * 5 + 2) = (if 0 < y then nI (c - W) else -1) ∧ f (c * 5 + 3) = (if y + 1 < H then nI (c + W) else -1) ∧ f (c * 5 + 4) = (if c < A then nI (c + A) else nI (c - A))) 0 0 := by
  refine zq_mk_I (by decide) (by simp [Value.category]) (Nat.le_of_ble_eq_true rfl) (fun xx hx0 hG hR hin => ?_)
  subst hx0
  have hG : zq_H xx D [(tI, .int), (tZ, .boolean), (tL, .long)] "GridRouter$Grid" zc_Grid_link 5 (zq_rc 0 0 0 0) := hG
  have t4 : ∀ (f : Nat → Int32) (v : Int32), ((∀ j, j < c * 5 → f j = f0 j) ∧ f (c * 5 + 0) = (if 0 < x then nI (c - 1) else -1) ∧ f (c * 5 + 1) = (if x + 1 < W then nI (c + 1) else -1) ∧ f (c * 5 + 2) = (if 0 < y then nI (c - W) else -1) ∧ f (c * 5 + 3) = (if y + 1 < H then nI (c + W) else -1)) → v = (if c < A then nI (c + A) else nI (c - A)) → zq_U xx D [(tI, .int), (tZ, .boolean), (tL, .long)] [(q, .inr (1, [.int (nI W), .int (nI H), .int (nI A), .int (nI C), .ref ga, .ref gb, .ref gc])), (gc, .inl (tI, B, .inl f))] 0 0 134 [some (.ref q), some (.int (nI c)), some (.int (nI x)), some (.int (nI y)), some (.int (nI (c * 5)))] [.int v, .int (nI (c * 5 + 4)), .ref gc] := by
    intro f v hf hv
    refine zi_iast hG 1 0 rfl rfl (vp_in_nI (show c * 5 + 4 < B by omega) (by omega)) [(q, .inr (1, [.int (nI W), .int (nI H), .int (nI A), .int (nI C), .ref ga, .ref gb, .ref gc])), (gc, .inl (tI, B, .inl (upd f (nI (c * 5 + 4)).toNatClampNeg v)))] rfl zd_Grid_link_134 ?_
    have hf2 : (∀ j, j < c * 5 → (upd f (nI (c * 5 + 4)).toNatClampNeg v) j = f0 j) ∧ (upd f (nI (c * 5 + 4)).toNatClampNeg v) (c * 5 + 0) = (if 0 < x then nI (c - 1) else -1) ∧ (upd f (nI (c * 5 + 4)).toNatClampNeg v) (c * 5 + 1) = (if x + 1 < W then nI (c + 1) else -1) ∧ (upd f (nI (c * 5 + 4)).toNatClampNeg v) (c * 5 + 2) = (if 0 < y then nI (c - W) else -1) ∧ (upd f (nI (c * 5 + 4)).toNatClampNeg v) (c * 5 + 3) = (if y + 1 < H then nI (c + W) else -1) ∧ (upd f (nI (c * 5 + 4)).toNatClampNeg v) (c * 5 + 4) = (if c < A then nI (c + A) else nI (c - A)) := by
      have hs : ∀ j, upd f (nI (c * 5 + 4)).toNatClampNeg v j = if j = c * 5 + 4 then v else f j := fun j => zg_st (by omega)
      refine ⟨fun j hj => ?_, ?_, ?_, ?_, ?_, ?_⟩
      · rw [hs, if_neg (by omega)]; exact hf.1 j hj
      · rw [hs, if_neg (by omega)]; exact hf.2.1
      · rw [hs, if_neg (by omega)]; exact hf.2.2.1
      · rw [hs, if_neg (by omega)]; exact hf.2.2.2.1
      · rw [hs, if_neg (by omega)]; exact hf.2.2.2.2
      · rw [hs, if_pos rfl]; exact hv
    exact zi_vret hG hR zd_Grid_link_135 ⟨_, rfl, hf2.1, hf2.2.1, hf2.2.2.1, hf2.2.2.2.1, hf2.2.2.2.2.1, hf2.2.2.2.2.2⟩
  have t3 : ∀ (f : Nat → Int32) (v : Int32), ((∀ j, j < c * 5 → f j = f0 j) ∧ f (c * 5 + 0) = (if 0 < x then nI (c - 1) else -1) ∧ f (c * 5 + 1) = (if x + 1 < W then nI (c + 1) else -1) ∧ f (c * 5 + 2) = (if 0 < y then nI (c - W) else -1)) → v = (if y + 1 < H then nI (c + W) else -1) → zq_U xx D [(tI, .int), (tZ, .boolean), (tL, .long)] [(q, .inr (1, [.int (nI W), .int (nI H), .int (nI A), .int (nI C), .ref ga, .ref gb, .ref gc])), (gc, .inl (tI, B, .inl f))] 0 0 102 [some (.ref q), some (.int (nI c)), some (.int (nI x)), some (.int (nI y)), some (.int (nI (c * 5)))] [.int v, .int (nI (c * 5 + 3)), .ref gc] := by
    intro f v hf hv
    refine zi_iast hG 1 0 rfl rfl (vp_in_nI (show c * 5 + 3 < B by omega) (by omega)) [(q, .inr (1, [.int (nI W), .int (nI H), .int (nI A), .int (nI C), .ref ga, .ref gb, .ref gc])), (gc, .inl (tI, B, .inl (upd f (nI (c * 5 + 3)).toNatClampNeg v)))] rfl zd_Grid_link_102 ?_
    have hf2 : (∀ j, j < c * 5 → (upd f (nI (c * 5 + 3)).toNatClampNeg v) j = f0 j) ∧ (upd f (nI (c * 5 + 3)).toNatClampNeg v) (c * 5 + 0) = (if 0 < x then nI (c - 1) else -1) ∧ (upd f (nI (c * 5 + 3)).toNatClampNeg v) (c * 5 + 1) = (if x + 1 < W then nI (c + 1) else -1) ∧ (upd f (nI (c * 5 + 3)).toNatClampNeg v) (c * 5 + 2) = (if 0 < y then nI (c - W) else -1) ∧ (upd f (nI (c * 5 + 3)).toNatClampNeg v) (c * 5 + 3) = (if y + 1 < H then nI (c + W) else -1) := by
      have hs : ∀ j, upd f (nI (c * 5 + 3)).toNatClampNeg v j = if j = c * 5 + 3 then v else f j := fun j => zg_st (by omega)
      refine ⟨fun j hj => ?_, ?_, ?_, ?_, ?_⟩
      · rw [hs, if_neg (by omega)]; exact hf.1 j hj
      · rw [hs, if_neg (by omega)]; exact hf.2.1
      · rw [hs, if_neg (by omega)]; exact hf.2.2.1
      · rw [hs, if_neg (by omega)]; exact hf.2.2.2
      · rw [hs, if_pos rfl]; exact hv
    refine zi_aload_n hG zd_Grid_link_103 rfl rfl ?_
    refine zi_get hG zi1 0 rfl rfl 6 (by decide) rfl tk_58 rfl zd_Grid_link_104 ?_
    refine zi_iload hG zd_Grid_link_107 rfl ?_
    refine zi_iconst hG (v := nI 4) zd_Grid_link_109 (by decide) ?_
    refine zi_iadd hG zd_Grid_link_110 ?_
    refine zi_eqi (nI_add (c * 5) 4) ?_
    refine zi_iload_n hG zd_Grid_link_111 rfl rfl ?_
    refine zi_aload_n hG zd_Grid_link_112 rfl rfl ?_
    refine zi_get hG zi1 0 rfl rfl 2 (by decide) rfl tk_42 rfl zd_Grid_link_113 ?_
    refine zi_icmp_ge hG 128 zd_Grid_link_116 (by decide) (fun hc => ?_) (fun hc => ?_)
    · have hc := (nI_leI (by omega) (by omega)).mp hc
      refine zi_iload_n hG zd_Grid_link_128 rfl rfl ?_
      refine zi_aload_n hG zd_Grid_link_129 rfl rfl ?_
      refine zi_get hG zi1 0 rfl rfl 2 (by decide) rfl tk_42 rfl zd_Grid_link_130 ?_
      refine zi_isub hG zd_Grid_link_133 ?_
      exact t4 _ _ hf2 (by rw [if_neg (by omega), nI_sub hc])
    · have hc : ¬ A ≤ c := fun h => hc ((nI_leI (by omega) (by omega)).mpr h)
      refine zi_iload_n hG zd_Grid_link_119 rfl rfl ?_
      refine zi_aload_n hG zd_Grid_link_120 rfl rfl ?_
      refine zi_get hG zi1 0 rfl rfl 2 (by decide) rfl tk_42 rfl zd_Grid_link_121 ?_
      refine zi_iadd hG zd_Grid_link_124 ?_
      refine zi_goto hG 134 zd_Grid_link_125 (by decide) ?_
      exact t4 _ _ hf2 (by rw [if_pos (by omega), nI_add])
  have t2 : ∀ (f : Nat → Int32) (v : Int32), ((∀ j, j < c * 5 → f j = f0 j) ∧ f (c * 5 + 0) = (if 0 < x then nI (c - 1) else -1) ∧ f (c * 5 + 1) = (if x + 1 < W then nI (c + 1) else -1)) → v = (if 0 < y then nI (c - W) else -1) → zq_U xx D [(tI, .int), (tZ, .boolean), (tL, .long)] [(q, .inr (1, [.int (nI W), .int (nI H), .int (nI A), .int (nI C), .ref ga, .ref gb, .ref gc])), (gc, .inl (tI, B, .inl f))] 0 0 73 [some (.ref q), some (.int (nI c)), some (.int (nI x)), some (.int (nI y)), some (.int (nI (c * 5)))] [.int v, .int (nI (c * 5 + 2)), .ref gc] := by
    intro f v hf hv
    refine zi_iast hG 1 0 rfl rfl (vp_in_nI (show c * 5 + 2 < B by omega) (by omega)) [(q, .inr (1, [.int (nI W), .int (nI H), .int (nI A), .int (nI C), .ref ga, .ref gb, .ref gc])), (gc, .inl (tI, B, .inl (upd f (nI (c * 5 + 2)).toNatClampNeg v)))] rfl zd_Grid_link_73 ?_
    have hf2 : (∀ j, j < c * 5 → (upd f (nI (c * 5 + 2)).toNatClampNeg v) j = f0 j) ∧ (upd f (nI (c * 5 + 2)).toNatClampNeg v) (c * 5 + 0) = (if 0 < x then nI (c - 1) else -1) ∧ (upd f (nI (c * 5 + 2)).toNatClampNeg v) (c * 5 + 1) = (if x + 1 < W then nI (c + 1) else -1) ∧ (upd f (nI (c * 5 + 2)).toNatClampNeg v) (c * 5 + 2) = (if 0 < y then nI (c - W) else -1) := by
      have hs : ∀ j, upd f (nI (c * 5 + 2)).toNatClampNeg v j = if j = c * 5 + 2 then v else f j := fun j => zg_st (by omega)
      refine ⟨fun j hj => ?_, ?_, ?_, ?_⟩
      · rw [hs, if_neg (by omega)]; exact hf.1 j hj
      · rw [hs, if_neg (by omega)]; exact hf.2.1
      · rw [hs, if_neg (by omega)]; exact hf.2.2
      · rw [hs, if_pos rfl]; exact hv
    refine zi_aload_n hG zd_Grid_link_74 rfl rfl ?_
    refine zi_get hG zi1 0 rfl rfl 6 (by decide) rfl tk_58 rfl zd_Grid_link_75 ?_
    refine zi_iload hG zd_Grid_link_78 rfl ?_
    refine zi_iconst hG (v := nI 3) zd_Grid_link_80 (by decide) ?_
    refine zi_iadd hG zd_Grid_link_81 ?_
    refine zi_eqi (nI_add (c * 5) 3) ?_
    refine zi_iload_n hG zd_Grid_link_82 rfl rfl ?_
    refine zi_aload_n hG zd_Grid_link_83 rfl rfl ?_
    refine zi_get hG zi1 0 rfl rfl 1 (by decide) rfl tk_41 rfl zd_Grid_link_84 ?_
    refine zi_iconst hG (v := nI 1) zd_Grid_link_87 (by decide) ?_
    refine zi_isub hG zd_Grid_link_88 ?_
    refine zi_eqi (nI_sub (show 1 ≤ H by omega)) ?_
    refine zi_icmp_ge hG 101 zd_Grid_link_89 (by decide) (fun hc => ?_) (fun hc => ?_)
    · have hc := (nI_leI (by omega) (by omega)).mp hc
      refine zi_iconst hG (v := -1) zd_Grid_link_101 (by decide) ?_
      exact t3 _ _ hf2 (by rw [if_neg (by omega)])
    · have hc : ¬ H - 1 ≤ y := fun h => hc ((nI_leI (by omega) (by omega)).mpr h)
      refine zi_iload_n hG zd_Grid_link_92 rfl rfl ?_
      refine zi_aload_n hG zd_Grid_link_93 rfl rfl ?_
      refine zi_get hG zi1 0 rfl rfl 0 (by decide) rfl tk_39 rfl zd_Grid_link_94 ?_
      refine zi_iadd hG zd_Grid_link_97 ?_
      refine zi_goto hG 102 zd_Grid_link_98 (by decide) ?_
      exact t3 _ _ hf2 (by rw [if_pos (by omega), nI_add])
  have t1 : ∀ (f : Nat → Int32) (v : Int32), ((∀ j, j < c * 5 → f j = f0 j) ∧ f (c * 5 + 0) = (if 0 < x then nI (c - 1) else -1)) → v = (if x + 1 < W then nI (c + 1) else -1) → zq_U xx D [(tI, .int), (tZ, .boolean), (tL, .long)] [(q, .inr (1, [.int (nI W), .int (nI H), .int (nI A), .int (nI C), .ref ga, .ref gb, .ref gc])), (gc, .inl (tI, B, .inl f))] 0 0 50 [some (.ref q), some (.int (nI c)), some (.int (nI x)), some (.int (nI y)), some (.int (nI (c * 5)))] [.int v, .int (nI (c * 5 + 1)), .ref gc] := by
    intro f v hf hv
    refine zi_iast hG 1 0 rfl rfl (vp_in_nI (show c * 5 + 1 < B by omega) (by omega)) [(q, .inr (1, [.int (nI W), .int (nI H), .int (nI A), .int (nI C), .ref ga, .ref gb, .ref gc])), (gc, .inl (tI, B, .inl (upd f (nI (c * 5 + 1)).toNatClampNeg v)))] rfl zd_Grid_link_50 ?_
    have hf2 : (∀ j, j < c * 5 → (upd f (nI (c * 5 + 1)).toNatClampNeg v) j = f0 j) ∧ (upd f (nI (c * 5 + 1)).toNatClampNeg v) (c * 5 + 0) = (if 0 < x then nI (c - 1) else -1) ∧ (upd f (nI (c * 5 + 1)).toNatClampNeg v) (c * 5 + 1) = (if x + 1 < W then nI (c + 1) else -1) := by
      have hs : ∀ j, upd f (nI (c * 5 + 1)).toNatClampNeg v j = if j = c * 5 + 1 then v else f j := fun j => zg_st (by omega)
      refine ⟨fun j hj => ?_, ?_, ?_⟩
      · rw [hs, if_neg (by omega)]; exact hf.1 j hj
      · rw [hs, if_neg (by omega)]; exact hf.2
      · rw [hs, if_pos rfl]; exact hv
    refine zi_aload_n hG zd_Grid_link_51 rfl rfl ?_
    refine zi_get hG zi1 0 rfl rfl 6 (by decide) rfl tk_58 rfl zd_Grid_link_52 ?_
    refine zi_iload hG zd_Grid_link_55 rfl ?_
    refine zi_iconst hG (v := nI 2) zd_Grid_link_57 (by decide) ?_
    refine zi_iadd hG zd_Grid_link_58 ?_
    refine zi_eqi (nI_add (c * 5) 2) ?_
    refine zi_iload_n hG zd_Grid_link_59 rfl rfl ?_
    refine zi_if_le hG 72 zd_Grid_link_60 (by decide) (fun hc => ?_) (fun hc => ?_)
    · have hc : y = 0 := by
        refine Nat.eq_zero_of_not_pos (fun h => nI_nle h (by omega) hc)
      refine zi_iconst hG (v := -1) zd_Grid_link_72 (by decide) ?_
      exact t2 _ _ hf2 (by rw [if_neg (by omega)])
    · have hc : 0 < y := Nat.pos_of_ne_zero (fun e => hc (by subst e; decide))
      refine zi_iload_n hG zd_Grid_link_63 rfl rfl ?_
      refine zi_aload_n hG zd_Grid_link_64 rfl rfl ?_
      refine zi_get hG zi1 0 rfl rfl 0 (by decide) rfl tk_39 rfl zd_Grid_link_65 ?_
      refine zi_isub hG zd_Grid_link_68 ?_
      refine zi_goto hG 73 zd_Grid_link_69 (by decide) ?_
      exact t2 _ _ hf2 (by rw [if_pos hc, nI_sub (hyc hc)])
  have t0 : ∀ (f : Nat → Int32) (v : Int32), ((∀ j, j < c * 5 → f j = f0 j)) → v = (if 0 < x then nI (c - 1) else -1) → zq_U xx D [(tI, .int), (tZ, .boolean), (tL, .long)] [(q, .inr (1, [.int (nI W), .int (nI H), .int (nI A), .int (nI C), .ref ga, .ref gb, .ref gc])), (gc, .inl (tI, B, .inl f))] 0 0 24 [some (.ref q), some (.int (nI c)), some (.int (nI x)), some (.int (nI y)), some (.int (nI (c * 5)))] [.int v, .int (nI (c * 5 + 0)), .ref gc] := by
    intro f v hf hv
    refine zi_iast hG 1 0 rfl rfl (vp_in_nI (show c * 5 + 0 < B by omega) (by omega)) [(q, .inr (1, [.int (nI W), .int (nI H), .int (nI A), .int (nI C), .ref ga, .ref gb, .ref gc])), (gc, .inl (tI, B, .inl (upd f (nI (c * 5 + 0)).toNatClampNeg v)))] rfl zd_Grid_link_24 ?_
    have hf2 : (∀ j, j < c * 5 → (upd f (nI (c * 5 + 0)).toNatClampNeg v) j = f0 j) ∧ (upd f (nI (c * 5 + 0)).toNatClampNeg v) (c * 5 + 0) = (if 0 < x then nI (c - 1) else -1) := by
      have hs : ∀ j, upd f (nI (c * 5 + 0)).toNatClampNeg v j = if j = c * 5 + 0 then v else f j := fun j => zg_st (by omega)
      refine ⟨fun j hj => ?_, ?_⟩
      · rw [hs, if_neg (by omega)]; exact hf j hj
      · rw [hs, if_pos rfl]; exact hv
    refine zi_aload_n hG zd_Grid_link_25 rfl rfl ?_
    refine zi_get hG zi1 0 rfl rfl 6 (by decide) rfl tk_58 rfl zd_Grid_link_26 ?_
    refine zi_iload hG zd_Grid_link_29 rfl ?_
    refine zi_iconst hG (v := nI 1) zd_Grid_link_31 (by decide) ?_
    refine zi_iadd hG zd_Grid_link_32 ?_
    refine zi_eqi (nI_add (c * 5) 1) ?_
    refine zi_iload_n hG zd_Grid_link_33 rfl rfl ?_
    refine zi_aload_n hG zd_Grid_link_34 rfl rfl ?_
    refine zi_get hG zi1 0 rfl rfl 0 (by decide) rfl tk_39 rfl zd_Grid_link_35 ?_
    refine zi_iconst hG (v := nI 1) zd_Grid_link_38 (by decide) ?_
    refine zi_isub hG zd_Grid_link_39 ?_
    refine zi_eqi (nI_sub (show 1 ≤ W by omega)) ?_
    refine zi_icmp_ge hG 49 zd_Grid_link_40 (by decide) (fun hc => ?_) (fun hc => ?_)
    · have hc := (nI_leI (by omega) (by omega)).mp hc
      refine zi_iconst hG (v := -1) zd_Grid_link_49 (by decide) ?_
      exact t1 _ _ hf2 (by rw [if_neg (by omega)])
    · have hc : ¬ W - 1 ≤ x := fun h => hc ((nI_leI (by omega) (by omega)).mpr h)
      refine zi_iload_n hG zd_Grid_link_43 rfl rfl ?_
      refine zi_iconst hG (v := nI 1) zd_Grid_link_44 (by decide) ?_
      refine zi_iadd hG zd_Grid_link_45 ?_
      refine zi_goto hG 50 zd_Grid_link_46 (by decide) ?_
      exact t1 _ _ hf2 (by rw [if_pos (by omega), nI_add])
  refine zi_iload_n hG zd_Grid_link_0 rfl rfl ?_
  refine zi_iconst hG (v := nI 5) zd_Grid_link_1 (by decide) ?_
  refine zi_imul hG zd_Grid_link_2 ?_
  refine zi_eqi (nI_mul c 5) ?_
  refine zi_istore hG [some (.ref q), some (.int (nI c)), some (.int (nI x)), some (.int (nI y)), some (.int (nI (c * 5)))] zd_Grid_link_3 (Nat.le_of_ble_eq_true rfl) rfl ?_
  refine zi_aload_n hG zd_Grid_link_5 rfl rfl ?_
  refine zi_get hG zi1 0 rfl rfl 6 (by decide) rfl tk_58 rfl zd_Grid_link_6 ?_
  refine zi_iload hG zd_Grid_link_9 rfl ?_
  refine zi_iconst hG (v := nI 0) zd_Grid_link_11 (by decide) ?_
  refine zi_iadd hG zd_Grid_link_12 ?_
  refine zi_eqi (nI_add (c * 5) 0) ?_
  refine zi_iload_n hG zd_Grid_link_13 rfl rfl ?_
  refine zi_if_le hG 23 zd_Grid_link_14 (by decide) (fun hc => ?_) (fun hc => ?_)
  · have hc : x = 0 := by
      refine Nat.eq_zero_of_not_pos (fun h => nI_nle h (by omega) hc)
    refine zi_iconst hG (v := -1) zd_Grid_link_23 (by decide) ?_
    exact t0 _ _ (fun _ _ => rfl) (by rw [if_neg (by omega)])
  · have hc : 0 < x := Nat.pos_of_ne_zero (fun e => hc (by subst e; decide))
    refine zi_iload_n hG zd_Grid_link_17 rfl rfl ?_
    refine zi_iconst hG (v := nI 1) zd_Grid_link_18 (by decide) ?_
    refine zi_isub hG zd_Grid_link_19 ?_
    refine zi_goto hG 24 zd_Grid_link_20 (by decide) ?_
    exact t0 _ _ (fun _ _ => rfl) (by rw [if_pos hc, nI_sub (by omega)])

set_option maxHeartbeats 4000000 in
set_option maxRecDepth 100000 in
theorem zk_Grid_init (l : Launch) (D : va_G) (tI tZ tL : ClassId) (q W H A C B : Nat) (hW2 : 2 ≤ W) (hW9 : W ≤ 9) (hH2 : 2 ≤ H) (hH9 : H ≤ 9) (hAe : A = W * H) (hA81 : A ≤ 81) (hC : C = 2 * A) (hB : B = C * 5) : zq_MI l D [(tI, .int), (tZ, .boolean), (tL, .long)] zy_Grid_init zc_Grid_init 7 (zq_rc 1 3 1134 40) [.ref q, .int (nI W), .int (nI H)] [(q, .inr (1, [.int 0, .int 0, .int 0, .int 0, .null, .null, .null]))] (fun ws => ∃ (p1 p2 p3 : Nat) (fx fy fb : Nat → Int32), ws = [(q, .inr (1, [.int (nI W), .int (nI H), .int (nI A), .int (nI C), .ref p1, .ref p2, .ref p3])), (p1, .inl (tI, C, .inl fx)), (p2, .inl (tI, C, .inl fy)), (p3, .inl (tI, B, .inl fb))] ∧ zg_I W H C fx fy fb) 3 1134 := by
  refine zq_mk_I (by decide) (by simp [Value.category]) (Nat.le_of_ble_eq_true rfl) (fun x hx hG hR hin => ?_)
  subst hx
  have hG : zq_H x D [(tI, .int), (tZ, .boolean), (tL, .long)] "GridRouter$Grid" zc_Grid_init 7 (zq_rc 1 3 1134 40) := hG
  have hin : (zc_h x).name = "<init>" := hin
  have hA := hR.hA
  refine zi_aload_n hG zd_Grid_init_0 rfl rfl ?_
  refine zi_obj hG tk_34 tk_27 tk_28 rfl ⟨by decide, (Nat.le_of_ble_eq_true rfl)⟩ zd_Grid_init_1 ?_
  refine zi_aload_n hG zd_Grid_init_4 rfl rfl ?_
  refine zi_iload_n hG zd_Grid_init_5 rfl rfl ?_
  refine zi_putF hG hin zi1 zt1 zk1 zn1 0 rfl rfl 0 (by decide) rfl tk_39 rfl (ty := .int) (by decide +kernel) rfl rfl (Nat.le_of_ble_eq_true rfl) [(q, .inr (1, [.int (nI W), .int 0, .int 0, .int 0, .null, .null, .null]))] rfl zd_Grid_init_6 ?_
  refine zi_aload_n hG zd_Grid_init_9 rfl rfl ?_
  refine zi_iload_n hG zd_Grid_init_10 rfl rfl ?_
  refine zi_putF hG hin zi1 zt1 zk1 zn1 0 rfl rfl 1 (by decide) rfl tk_41 rfl (ty := .int) (by decide +kernel) rfl rfl (Nat.le_of_ble_eq_true rfl) [(q, .inr (1, [.int (nI W), .int (nI H), .int 0, .int 0, .null, .null, .null]))] rfl zd_Grid_init_11 ?_
  refine zi_aload_n hG zd_Grid_init_14 rfl rfl ?_
  refine zi_iload_n hG zd_Grid_init_15 rfl rfl ?_
  refine zi_iload_n hG zd_Grid_init_16 rfl rfl ?_
  refine zi_imul hG zd_Grid_init_17 ?_
  refine zi_eqi (b := (nI A)) (by rw [nI_mul, ← hAe]) ?_
  refine zi_putF hG hin zi1 zt1 zk1 zn1 0 rfl rfl 2 (by decide) rfl tk_42 rfl (ty := .int) (by decide +kernel) rfl rfl (Nat.le_of_ble_eq_true rfl) [(q, .inr (1, [.int (nI W), .int (nI H), .int (nI A), .int 0, .null, .null, .null]))] rfl zd_Grid_init_18 ?_
  refine zi_aload_n hG zd_Grid_init_21 rfl rfl ?_
  refine zi_iconst hG (v := (2 : Int32)) zd_Grid_init_22 (by decide) ?_
  refine zi_aload_n hG zd_Grid_init_23 rfl rfl ?_
  refine zi_get hG zi1 0 rfl rfl 2 (by decide) rfl tk_42 rfl zd_Grid_init_24 ?_
  refine zi_imul hG zd_Grid_init_27 ?_
  refine zi_eqi (b := (nI C)) (by rw [hC]; exact nI_mul 2 A) ?_
  refine zi_putF hG hin zi1 zt1 zk1 zn1 0 rfl rfl 3 (by decide) rfl tk_47 rfl (ty := .int) (by decide +kernel) rfl rfl (Nat.le_of_ble_eq_true rfl) [(q, .inr (1, [.int (nI W), .int (nI H), .int (nI A), .int (nI C), .null, .null, .null]))] rfl zd_Grid_init_28 ?_
  refine zi_aload_n hG zd_Grid_init_31 rfl rfl ?_
  refine zi_aload_n hG zd_Grid_init_32 rfl rfl ?_
  refine zi_get hG zi1 0 rfl rfl 3 (by decide) rfl tk_47 rfl zd_Grid_init_33 ?_
  refine zi_newa hG hA (ty := .int) rfl tk_75 (fun C h => by cases h) 0 rfl (N := C) (a0 := (C, .inl (fun _ => 0))) (fun cA => rfl) (nI_pos (by omega)) (nI_clamp (by omega)) (by show _ * _ ≤ _; simp only [componentBytes]; omega) ⟨by decide, by show _ ≤ 1134; omega⟩ zd_Grid_init_36 (fun p1 => ?_)
  refine zi_widen (k' := 1) (n' := 162) (by omega) (by omega) ?_
  show zq_U x D [(tI, .int), (tZ, .boolean), (tL, .long)] [(q, .inr (1, [.int (nI W), .int (nI H), .int (nI A), .int (nI C), .null, .null, .null])), (p1, .inl (tI, C, .inl (fun _ => 0)))] 1 162 38 [some (.ref q), some (.int (nI W)), some (.int (nI H)), none, none, none, none] [.ref p1, .ref q]
  refine zi_putF hG hin zi1 zt1 zk1 zn1 0 rfl rfl 4 (by decide) rfl tk_52 rfl (ty := .array .int) (by decide +kernel) rfl rfl (Nat.le_of_ble_eq_true rfl) [(q, .inr (1, [.int (nI W), .int (nI H), .int (nI A), .int (nI C), .ref p1, .null, .null])), (p1, .inl (tI, C, .inl (fun _ => 0)))] rfl zd_Grid_init_38 ?_
  refine zi_aload_n hG zd_Grid_init_41 rfl rfl ?_
  refine zi_aload_n hG zd_Grid_init_42 rfl rfl ?_
  refine zi_get hG zi1 0 rfl rfl 3 (by decide) rfl tk_47 rfl zd_Grid_init_43 ?_
  refine zi_newa hG hA (ty := .int) rfl tk_75 (fun C h => by cases h) 0 rfl (N := C) (a0 := (C, .inl (fun _ => 0))) (fun cA => rfl) (nI_pos (by omega)) (nI_clamp (by omega)) (by show _ * _ ≤ _; simp only [componentBytes]; omega) ⟨by decide, by show _ ≤ 1134; omega⟩ zd_Grid_init_46 (fun p2 => ?_)
  refine zi_widen (k' := 2) (n' := 324) (by omega) (by omega) ?_
  show zq_U x D [(tI, .int), (tZ, .boolean), (tL, .long)] [(q, .inr (1, [.int (nI W), .int (nI H), .int (nI A), .int (nI C), .ref p1, .null, .null])), (p1, .inl (tI, C, .inl (fun _ => 0))), (p2, .inl (tI, C, .inl (fun _ => 0)))] 2 324 48 [some (.ref q), some (.int (nI W)), some (.int (nI H)), none, none, none, none] [.ref p2, .ref q]
  refine zi_putF hG hin zi1 zt1 zk1 zn1 0 rfl rfl 5 (by decide) rfl tk_55 rfl (ty := .array .int) (by decide +kernel) rfl rfl (Nat.le_of_ble_eq_true rfl) [(q, .inr (1, [.int (nI W), .int (nI H), .int (nI A), .int (nI C), .ref p1, .ref p2, .null])), (p1, .inl (tI, C, .inl (fun _ => 0))), (p2, .inl (tI, C, .inl (fun _ => 0)))] rfl zd_Grid_init_48 ?_
  refine zi_aload_n hG zd_Grid_init_51 rfl rfl ?_
  refine zi_aload_n hG zd_Grid_init_52 rfl rfl ?_
  refine zi_get hG zi1 0 rfl rfl 3 (by decide) rfl tk_47 rfl zd_Grid_init_53 ?_
  refine zi_iconst hG (v := (5 : Int32)) zd_Grid_init_56 (by decide) ?_
  refine zi_imul hG zd_Grid_init_57 ?_
  refine zi_eqi (b := (nI B)) (by rw [hB]; exact nI_mul C 5) ?_
  refine zi_newa hG hA (ty := .int) rfl tk_75 (fun C h => by cases h) 0 rfl (N := B) (a0 := (B, .inl (fun _ => 0))) (fun cA => rfl) (nI_pos (by omega)) (nI_clamp (by omega)) (by show _ * _ ≤ _; simp only [componentBytes]; omega) ⟨by decide, by show _ ≤ 1134; omega⟩ zd_Grid_init_58 (fun p3 => ?_)
  refine zi_widen (k' := 3) (n' := 1134) (by omega) (by omega) ?_
  show zq_U x D [(tI, .int), (tZ, .boolean), (tL, .long)] [(q, .inr (1, [.int (nI W), .int (nI H), .int (nI A), .int (nI C), .ref p1, .ref p2, .null])), (p1, .inl (tI, C, .inl (fun _ => 0))), (p2, .inl (tI, C, .inl (fun _ => 0))), (p3, .inl (tI, B, .inl (fun _ => 0)))] 3 1134 60 [some (.ref q), some (.int (nI W)), some (.int (nI H)), none, none, none, none] [.ref p3, .ref q]
  refine zi_putF hG hin zi1 zt1 zk1 zn1 0 rfl rfl 6 (by decide) rfl tk_58 rfl (ty := .array .int) (by decide +kernel) rfl rfl (Nat.le_of_ble_eq_true rfl) [(q, .inr (1, [.int (nI W), .int (nI H), .int (nI A), .int (nI C), .ref p1, .ref p2, .ref p3])), (p1, .inl (tI, C, .inl (fun _ => 0))), (p2, .inl (tI, C, .inl (fun _ => 0))), (p3, .inl (tI, B, .inl (fun _ => 0)))] rfl zd_Grid_init_60 ?_
  show zq_U x D [(tI, .int), (tZ, .boolean), (tL, .long)] [(q, .inr (1, [.int (nI W), .int (nI H), .int (nI A), .int (nI C), .ref p1, .ref p2, .ref p3])), (p1, .inl (tI, C, .inl (fun _ => 0))), (p2, .inl (tI, C, .inl (fun _ => 0))), (p3, .inl (tI, B, .inl (fun _ => 0)))] 3 1134 63 [some (.ref q), some (.int (nI W)), some (.int (nI H)), none, none, none, none] []
  have lx : ∀ (d x0 y l : Nat) (fx fy fb : Nat → Int32), x0 + d = W → y < H → l < 2 → zg_I W H ((l * H + y) * W + x0) fx fy fb → (∀ fx fy fb : Nat → Int32, zg_I W H ((l * H + y) * W + W) fx fy fb → zq_U x D [(tI, .int), (tZ, .boolean), (tL, .long)] [(q, .inr (1, [.int (nI W), .int (nI H), .int (nI A), .int (nI C), .ref p1, .ref p2, .ref p3])), (p1, .inl (tI, C, .inl fx)), (p2, .inl (tI, C, .inl fy)), (p3, .inl (tI, B, .inl fb))] 3 1134 126 [some (.ref q), some (.int (nI W)), some (.int (nI H)), some (.int (nI ((l * H + y) * W + W))), some (.int (nI (l))), some (.int (nI (y))), some (.int (nI (W)))] []) → zq_U x D [(tI, .int), (tZ, .boolean), (tL, .long)] [(q, .inr (1, [.int (nI W), .int (nI H), .int (nI A), .int (nI C), .ref p1, .ref p2, .ref p3])), (p1, .inl (tI, C, .inl fx)), (p2, .inl (tI, C, .inl fy)), (p3, .inl (tI, B, .inl fb))] 3 1134 86 [some (.ref q), some (.int (nI W)), some (.int (nI H)), some (.int (nI ((l * H + y) * W + x0))), some (.int (nI (l))), some (.int (nI (y))), some (.int (nI (x0)))] [] := by
    intro d
    induction d with
    | zero =>
      intro x0 y l fx fy fb h1 hy hl hI kk
      have e : x0 = W := by omega
      subst e
      refine zi_iload hG zd_Grid_init_86 rfl ?_
      refine zi_iload_n hG zd_Grid_init_88 rfl rfl ?_
      refine zi_icmp_ge hG 126 zd_Grid_init_89 (by decide) (fun hc => ?_) (fun hc => ?_)
      · exact kk fx fy fb hI
      · exact absurd (nI_le (Nat.le_refl _) (by omega)) hc
    | succ d ih =>
      intro x0 y l fx fy fb h1 hy hl hI kk
      obtain ⟨hcl, hcm, hcd⟩ := zg_c (x := x0) hl hy (show x0 < W by omega)
      have hyc : 0 < y → W ≤ (l * H + y) * W + x0 := fun h => Nat.le_trans (Nat.le_mul_of_pos_left W (show 0 < l * H + y by omega)) (Nat.le_add_right _ _)
      obtain ⟨cc, hce⟩ : ∃ cc, (l * H + y) * W + x0 = cc := ⟨_, rfl⟩
      rw [hce] at hcl hcm hcd hyc hI ⊢
      refine zi_iload hG zd_Grid_init_86 rfl ?_
      refine zi_iload_n hG zd_Grid_init_88 rfl rfl ?_
      refine zi_icmp_ge hG 126 zd_Grid_init_89 (by decide) (fun hc => ?_) (fun hc => ?_)
      · exact absurd hc (nI_ge (show x0 < W by omega) (by omega))
      refine zi_aload_n hG zd_Grid_init_92 rfl rfl ?_
      refine zi_get hG zi1 0 rfl rfl 4 (by decide) rfl tk_52 rfl zd_Grid_init_93 ?_
      refine zi_iload_n hG zd_Grid_init_96 rfl rfl ?_
      refine zi_iload hG zd_Grid_init_97 rfl ?_
      refine zi_iast hG 1 0 rfl rfl (vp_in_nI (show cc < C by omega) (by omega)) [(q, .inr (1, [.int (nI W), .int (nI H), .int (nI A), .int (nI C), .ref p1, .ref p2, .ref p3])), (p1, .inl (tI, C, .inl (upd fx (nI cc).toNatClampNeg (nI x0)))), (p2, .inl (tI, C, .inl fy)), (p3, .inl (tI, B, .inl fb))] rfl zd_Grid_init_99 ?_
      refine zi_aload_n hG zd_Grid_init_100 rfl rfl ?_
      refine zi_get hG zi1 0 rfl rfl 5 (by decide) rfl tk_55 rfl zd_Grid_init_101 ?_
      refine zi_iload_n hG zd_Grid_init_104 rfl rfl ?_
      refine zi_iload hG zd_Grid_init_105 rfl ?_
      refine zi_iast hG 2 0 rfl rfl (vp_in_nI (show cc < C by omega) (by omega)) [(q, .inr (1, [.int (nI W), .int (nI H), .int (nI A), .int (nI C), .ref p1, .ref p2, .ref p3])), (p1, .inl (tI, C, .inl (upd fx (nI cc).toNatClampNeg (nI x0)))), (p2, .inl (tI, C, .inl (upd fy (nI cc).toNatClampNeg (nI y)))), (p3, .inl (tI, B, .inl fb))] rfl zd_Grid_init_107 ?_
      refine zi_aload_n hG zd_Grid_init_108 rfl rfl ?_
      refine zi_iload_n hG zd_Grid_init_109 rfl rfl ?_
      refine zi_iload hG zd_Grid_init_110 rfl ?_
      refine zi_iload hG zd_Grid_init_112 rfl ?_
      refine zi_callV hG hR.2.2.2.2 hA (As := [.int (nI cc), .int (nI x0), .int (nI y)]) (rest := []) (zk_Grid_link (zc_l x) D tI tZ tL q W H A C B p1 p2 p3 cc x0 y fb hW9 hH9 (by omega) hC hB (by omega) (by omega) hy (by omega) hyc) [(p1, .inl (tI, C, .inl (upd fx (nI cc).toNatClampNeg (nI x0)))), (p2, .inl (tI, C, .inl (upd fy (nI cc).toNatClampNeg (nI y))))] [0, 3] [1, 2] rfl rfl (by decide) (by decide) (by decide) 0 rfl rfl rfl ⟨tk_35, tk_37, ts_0, tk_2, tk_38⟩ zdd_Grid_link ⟨rfl, rfl, by decide, by decide⟩ ⟨by decide, by decide⟩ rfl (Nat.le_of_ble_eq_true rfl) zd_Grid_init_114 rfl (fun ws' hw => ?_)
      obtain ⟨fb2, rfl, hb0, hb1, hb2, hb3, hb4, hb5⟩ := hw
      refine zi_perm [(q, .inr (1, [.int (nI W), .int (nI H), .int (nI A), .int (nI C), .ref p1, .ref p2, .ref p3])), (p1, .inl (tI, C, .inl (upd fx (nI cc).toNatClampNeg (nI x0)))), (p2, .inl (tI, C, .inl (upd fy (nI cc).toNatClampNeg (nI y)))), (p3, .inl (tI, B, .inl fb2))] [2, 0, 1, 3] rfl (by decide) ?_
      refine zi_iinc hG (u := 1) [some (.ref q), some (.int (nI W)), some (.int (nI H)), some (.int (nI (cc + 1))), some (.int (nI (l))), some (.int (nI (y))), some (.int (nI (x0)))] zd_Grid_init_117 rfl (by decide) (Nat.le_of_ble_eq_true rfl) (by rw [nI_1]; rfl) ?_
      refine zi_iinc hG (u := 1) [some (.ref q), some (.int (nI W)), some (.int (nI H)), some (.int (nI (cc + 1))), some (.int (nI (l))), some (.int (nI (y))), some (.int (nI (x0 + 1)))] zd_Grid_init_120 rfl (by decide) (Nat.le_of_ble_eq_true rfl) (by rw [nI_1]; rfl) ?_
      refine zi_goto hG 86 zd_Grid_init_123 (by decide) ?_
      have hce2 : (l * H + y) * W + (x0 + 1) = cc + 1 := by rw [← hce]; rfl
      have hI2 : zg_I W H (cc + 1) (upd fx (nI cc).toNatClampNeg (nI x0)) (upd fy (nI cc).toNatClampNeg (nI y)) fb2 := by
        intro j hj
        rw [zg_st (show cc < 2 ^ 31 by omega), zg_st (show cc < 2 ^ 31 by omega)]
        by_cases e : j = cc
        · subst e
          rw [if_pos rfl, if_pos rfl, hcm, hcd]
          refine ⟨rfl, rfl, fun d hd => ?_⟩
          have : d = 0 ∨ d = 1 ∨ d = 2 ∨ d = 3 ∨ d = 4 := by omega
          unfold zg_B
          rw [hcm, hcd]
          rcases this with rfl | rfl | rfl | rfl | rfl
          · simpa using hb1
          · simpa using hb2
          · simpa using hb3
          · simpa using hb4
          · rw [← hAe]; simpa using hb5
        · rw [if_neg e, if_neg e]
          obtain ⟨i1, i2, i3⟩ := hI j (by omega)
          exact ⟨i1, i2, fun d hd => by rw [hb0 _ (by omega)]; exact i3 d hd⟩
      have r := ih (x0 + 1) y l _ _ fb2 (by omega) hy hl (by rw [hce2]; exact hI2) kk
      rw [hce2] at r
      exact r
  have ly : ∀ (d y l : Nat) (fx fy fb : Nat → Int32), y + d = H → l < 2 → zg_I W H ((l * H + y) * W) fx fy fb → (∀ fx fy fb : Nat → Int32, zg_I W H ((l * H + H) * W) fx fy fb → zq_U x D [(tI, .int), (tZ, .boolean), (tL, .long)] [(q, .inr (1, [.int (nI W), .int (nI H), .int (nI A), .int (nI C), .ref p1, .ref p2, .ref p3])), (p1, .inl (tI, C, .inl fx)), (p2, .inl (tI, C, .inl fy)), (p3, .inl (tI, B, .inl fb))] 3 1134 132 [some (.ref q), some (.int (nI W)), some (.int (nI H)), some (.int (nI ((l * H + H) * W))), some (.int (nI (l))), some (.int (nI (H))), none] []) → zq_U x D [(tI, .int), (tZ, .boolean), (tL, .long)] [(q, .inr (1, [.int (nI W), .int (nI H), .int (nI A), .int (nI C), .ref p1, .ref p2, .ref p3])), (p1, .inl (tI, C, .inl fx)), (p2, .inl (tI, C, .inl fy)), (p3, .inl (tI, B, .inl fb))] 3 1134 77 [some (.ref q), some (.int (nI W)), some (.int (nI H)), some (.int (nI ((l * H + y) * W))), some (.int (nI (l))), some (.int (nI (y))), none] [] := by
    intro d
    induction d with
    | zero =>
      intro y l fx fy fb h1 hl hI kk
      have e : y = H := by omega
      subst e
      refine zi_iload hG zd_Grid_init_77 rfl ?_
      refine zi_iload_n hG zd_Grid_init_79 rfl rfl ?_
      refine zi_icmp_ge hG 132 zd_Grid_init_80 (by decide) (fun hc => ?_) (fun hc => ?_)
      · exact kk fx fy fb hI
      · exact absurd (nI_le (Nat.le_refl _) (by omega)) hc
    | succ d ih =>
      intro y l fx fy fb h1 hl hI kk
      refine zi_iload hG zd_Grid_init_77 rfl ?_
      refine zi_iload_n hG zd_Grid_init_79 rfl rfl ?_
      refine zi_icmp_ge hG 132 zd_Grid_init_80 (by decide) (fun hc => ?_) (fun hc => ?_)
      · exact absurd hc (nI_ge (show y < H by omega) (by omega))
      refine zi_iconst hG (v := nI 0) zd_Grid_init_83 (by decide) ?_
      refine zi_istore hG [some (.ref q), some (.int (nI W)), some (.int (nI H)), some (.int (nI ((l * H + y) * W))), some (.int (nI (l))), some (.int (nI (y))), some (.int (nI (0)))] zd_Grid_init_84 (Nat.le_of_ble_eq_true rfl) rfl ?_
      refine lx W 0 y l fx fy fb (by omega) (by omega) hl hI (fun fx fy fb hI2 => ?_)
      have he : (l * H + y) * W + W = (l * H + (y + 1)) * W := (Nat.succ_mul _ _).symm
      rw [he] at hI2
      rw [he]
      refine zi_iinc hG (u := 1) [some (.ref q), some (.int (nI W)), some (.int (nI H)), some (.int (nI ((l * H + (y + 1)) * W))), some (.int (nI (l))), some (.int (nI (y + 1))), some (.int (nI (W)))] zd_Grid_init_126 rfl (by decide) (Nat.le_of_ble_eq_true rfl) (by rw [nI_1]; rfl) ?_
      refine zi_goto hG 77 zd_Grid_init_129 (by decide) ?_
      exact zi_mask [true, true, true, true, true, true, false] (ih (y + 1) l fx fy fb (by omega) hl hI2 kk)
  have ll : ∀ (d l : Nat) (fx fy fb : Nat → Int32), l + d = 2 → zg_I W H (l * H * W) fx fy fb → zq_U x D [(tI, .int), (tZ, .boolean), (tL, .long)] [(q, .inr (1, [.int (nI W), .int (nI H), .int (nI A), .int (nI C), .ref p1, .ref p2, .ref p3])), (p1, .inl (tI, C, .inl fx)), (p2, .inl (tI, C, .inl fy)), (p3, .inl (tI, B, .inl fb))] 3 1134 68 [some (.ref q), some (.int (nI W)), some (.int (nI H)), some (.int (nI (l * H * W))), some (.int (nI (l))), none, none] [] := by
    intro d
    induction d with
    | zero =>
      intro l fx fy fb h1 hI
      have e : l = 2 := by omega
      subst e
      refine zi_iload hG zd_Grid_init_68 rfl ?_
      refine zi_iconst hG (v := nI 2) zd_Grid_init_70 (by decide) ?_
      refine zi_icmp_ge hG 138 zd_Grid_init_71 (by decide) (fun hc => ?_) (fun hc => ?_)
      · exact zi_vret hG hR zd_Grid_init_138 ⟨_, _, _, _, _, _, rfl, by rw [show C = 2 * H * W by rw [hC, hAe, Nat.mul_assoc, Nat.mul_comm W H]]; exact hI⟩
      · exact absurd (nI_le (Nat.le_refl _) (by omega)) hc
    | succ d ih =>
      intro l fx fy fb h1 hI
      refine zi_iload hG zd_Grid_init_68 rfl ?_
      refine zi_iconst hG (v := nI 2) zd_Grid_init_70 (by decide) ?_
      refine zi_icmp_ge hG 138 zd_Grid_init_71 (by decide) (fun hc => ?_) (fun hc => ?_)
      · exact absurd hc (nI_ge (show l < 2 by omega) (by omega))
      refine zi_iconst hG (v := nI 0) zd_Grid_init_74 (by decide) ?_
      refine zi_istore hG [some (.ref q), some (.int (nI W)), some (.int (nI H)), some (.int (nI ((l * H + 0) * W))), some (.int (nI (l))), some (.int (nI (0))), none] zd_Grid_init_75 (Nat.le_of_ble_eq_true rfl) rfl ?_
      refine ly H 0 l fx fy fb (by omega) (by omega) hI (fun fx fy fb hI2 => ?_)
      have he : (l * H + H) * W = (l + 1) * H * W := by rw [Nat.succ_mul]
      rw [he] at hI2
      rw [he]
      refine zi_iinc hG (u := 1) [some (.ref q), some (.int (nI W)), some (.int (nI H)), some (.int (nI ((l + 1) * H * W))), some (.int (nI (l + 1))), some (.int (nI (H))), none] zd_Grid_init_132 rfl (by decide) (Nat.le_of_ble_eq_true rfl) (by rw [nI_1]; rfl) ?_
      refine zi_goto hG 68 zd_Grid_init_135 (by decide) ?_
      exact zi_mask [true, true, true, true, true, false, false] (ih (l + 1) fx fy fb (by omega) hI2)
  refine zi_iconst hG (v := nI 0) zd_Grid_init_63 (by decide) ?_
  refine zi_istore_n hG [some (.ref q), some (.int (nI W)), some (.int (nI H)), some (.int (nI 0)), none, none, none] zd_Grid_init_64 rfl (Nat.le_of_ble_eq_true rfl) rfl ?_
  refine zi_iconst hG (v := nI 0) zd_Grid_init_65 (by decide) ?_
  refine zi_istore hG [some (.ref q), some (.int (nI W)), some (.int (nI H)), some (.int (nI 0)), some (.int (nI 0)), none, none] zd_Grid_init_66 (Nat.le_of_ble_eq_true rfl) rfl ?_
  have e0 : 0 * H * W = 0 := by rw [Nat.zero_mul, Nat.zero_mul]
  have r := ll 2 0 (fun _ => 0) (fun _ => 0) (fun _ => 0) rfl (by rw [e0]; exact fun j hj => absurd hj (Nat.not_lt_zero j))
  rw [e0] at r
  exact r
