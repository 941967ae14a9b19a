/-! both sides: same measures, nets, pins and blocks -/
def zE (W H n : Nat) (ln : Nat → Nat) (c g : zS) : Prop := zI W H n ln c ∧ zM W H n g ∧ g.1 3 = c.1 5 ∧ ∀ i, i < 2 * (W * H) → c.2 5 i = g.2 1 i ∧ c.2 8 i = g.2 0 i
section ZU
variable {W H n : Nat} {ln : Nat → Nat} {c c' g g' : zS}
theorem zE.v (h : zE W H n ln c g) : zp_V W H c g := ⟨h.1.d, h.1.s0, h.1.s1, h.1.s2, h.1.s3, h.2.1.w0, h.2.1.w1, h.2.2.1⟩
theorem zE.tr (h : zE W H n ln c g) (hJ : zJ W H n ln c c') (hO : zO W H n g g') : zE W H n ln c' g' := by
  refine ⟨hJ.1, hO.1, ?_, fun i hi => ?_⟩
  · rw [hO.2.1 3 (by omega), (hJ.2 5 (by omega)).1]
    exact h.2.2.1
  · rw [hO.2.2 1 (by omega), hO.2.2 0 (by omega), (hJ.2 5 (by omega)).2, (hJ.2 8 (by omega)).2]
    exact h.2.2.2 i hi
theorem zb_K_eq {sp sp' : Int32} {f f' : Nat → Int32} (hs : sp' = sp) (hf : ∀ i, i < 2 * (W * H) → f i = f' i) {i : Nat} (hi : i < 2 * (W * H)) {m m' : Int32} (hm : ∀ j, j < 2 * (W * H) → ¬ f j = -1 → (¬ f j = m ↔ ¬ f j = m')) : zb_K W H sp f i m ↔ zb_K W H sp' f' i m' := by
  subst hs
  constructor
  · rintro (⟨k1, k2⟩ | ⟨k1, d, hd, j, hj, k2, k3, k4⟩)
    · rw [hf i hi] at k1
      refine Or.inl ⟨k1, ?_⟩
      have := (hm i hi (by rw [hf i hi]; exact k1)).mp k2
      rw [hf i hi] at this
      exact this
    · refine Or.inr ⟨k1, d, hd, j, hj, k2, by rw [← hf j hj]; exact k3, ?_⟩
      have := (hm j hj k3).mp k4
      rw [hf j hj] at this
      exact this
  · rintro (⟨k1, k2⟩ | ⟨k1, d, hd, j, hj, k2, k3, k4⟩)
    · rw [← hf i hi] at k1 k2
      exact Or.inl ⟨k1, (hm i hi k1).mpr k2⟩
    · rw [← hf j hj] at k3 k4
      exact Or.inr ⟨k1, d, hd, j, hj, k2, k3, (hm j hj k3).mpr k4⟩
theorem zE.kn (h : zE W H n ln c g) {i : Nat} (hi : i < 2 * (W * H)) : zb_K W H (c.1 5) (c.2 5) i (nI n) ↔ zb_K W H (g.1 3) (g.2 1) i (-1) := by
  have h6 := h.1.n6
  refine zb_K_eq h.2.2.1 (fun i hi => (h.2.2.2 i hi).1) hi (fun j hj hne => ⟨fun _ => hne, fun _ e => ?_⟩)
  have := h.1.own (k := 5) (by omega) hj
  rw [h.1.ci hj] at this
  rcases this with e' | ⟨m, hm, e'⟩
  · exact hne e'
  · rw [e'] at e
    have := (nI_eq (by omega) (by omega)).mp e
    omega
theorem zI.blk (h : zI W H n ln c) {i v : Int32} : zI W H n ln (zs_a c 8 i (vp_nar .boolean v)) := h.put (by omega) (zb_Rb (by omega))
theorem zM.blk (h : zM W H n g) {i v : Int32} : zM W H n (zs_a g 0 i v) := by
  have e : ∀ k, k ≠ 0 → (zs_a g 0 i v).2 k = g.2 k := fun k hk => zs_an hk
  refine ⟨h.1, h.2.1, h.2.2.1, ?_, ?_, ?_⟩
  · rw [e 1 (by omega), e 2 (by omega), e 5 (by omega)]
    exact h.2.2.2.1
  · rw [e 1 (by omega), e 8 (by omega), e 9 (by omega)]
    exact h.2.2.2.2.1
  · rw [e 1 (by omega), e 8 (by omega), e 9 (by omega)]
    exact h.2.2.2.2.2
theorem zE.code (h : zE W H n ln c g) {v : Int32} : zE W H n ln c (zs_s g 4 v) := h.tr (zJ.rf h.1) ((zO.rf h.2.1).num (by omega))
theorem zE.blk (h : zE W H n ln c g) {i : Nat} (hi : i < 2 * (W * H)) {v : Int32} : zE W H n ln (zs_a c 8 (nI i) (vp_nar .boolean v)) (zs_a g 0 (nI i) (vp_nar .boolean v)) := by
  refine ⟨h.1.blk, h.2.1.blk, h.2.2.1, fun j hj => ⟨?_, ?_⟩⟩
  · rw [zs_an (by omega), zs_an (by omega)]
    exact (h.2.2.2 j hj).1
  · rw [zs_a2, if_pos rfl, zs_a2, if_pos rfl]
    by_cases e : j = (nI i).toNatClampNeg
    · rw [e, pk_us, pk_us]
    · rw [pk_un e, pk_un e]
      exact (h.2.2.2 j hj).2
theorem zy_block (h : zE W H n ln c g) {a1 a2 a3 : Int32} {o : Nat → Int64} {post : Int32 → zS → (Nat → Int64) → Int32 → zS → Prop} {K : Int32 → zS → (Nat → Int64) → Prop} (hK : ∀ k c' o', zw_Mo_block a1 a2 a3 g (fun r g' => post k c' o' r g') → K k c' o') (hp : ∀ k c' o' r g', zE W H n ln c' g' → g'.1 4 = k → (k = 0 → o' 0 = if r = 0 then 0 else 1) → post k c' o' r g') : zw_La_h_block ln a1 a2 a3 c o K := by
  have hC := h.1.C
  rcases zp_cell h.v a1 a2 a3 with ⟨i, hi, hz, hc, hg⟩ | ⟨hz, hg⟩
  · have ic5 := h.1.ic (k := 5) (by omega) (by omega) hi
    have ic8 := h.1.ic (k := 8) (by omega) (by omega) hi
    have ci := h.1.ci hi
    have mi := h.2.1.ic hi
    by_cases e5 : c.2 5 i = -1
    · have e1 : g.2 1 i = -1 := by rw [← (h.2.2.2 i hi).1]; exact e5
      -- a block set or taken away
      have go : ∀ v : Int32, (∀ po : Int32 → zS → Prop, po (vp_nar .boolean v) (zs_a (zs_s g 4 0) 0 (nI i) (vp_nar .boolean v)) → zw_Mo_block a1 a2 a3 g po) → zw_Gr_block_86 ln (fun r z1 => K 0 z1 (vp_updL o (0 : Int32).toNatClampNeg (if r = 0 then 0 else 1))) (nI i) v (nI i) c := fun v hv => by
        refine ⟨ic8, ic8, ?_⟩
        rw [zs_aa]
        refine ⟨zb_bn (zb_nar v), hK _ _ _ (hv _ (hp _ _ _ _ _ (h.code.blk hi) ?_ (fun _ => ?_)))⟩
        · exact (zs_ss : (zs_s g 4 0).1 4 = 0)
        · show vp_updL o 0 _ 0 = _
          unfold vp_updL
          rw [if_pos rfl]
      have mo : ∀ v : Int32, (v = if g.2 0 i = 0 then 1 else 0) → ∀ po : Int32 → zS → Prop, po (vp_nar .boolean v) (zs_a (zs_s g 4 0) 0 (nI i) (vp_nar .boolean v)) → zw_Mo_block a1 a2 a3 g po := fun v hv po hpo => by
        have f69 : zw_Mo_block_69 po (nI i) v (nI i) (zs_s g 4 0) := by
          refine ⟨mi, mi, ?_⟩
          rw [zs_aa]
          exact ⟨zb_bn (zb_nar v), hpo⟩
        refine hg _ (zp_fin (zp_n1 (by omega)) ⟨mi, ?_⟩)
        rw [ci]
        refine zp_if e1 (zp_if (by rw [zs_ss]; decide) ⟨mi, ?_⟩)
        rw [show (zs_s g 4 0).2 0 = g.2 0 from rfl, ci]
        by_cases e0 : g.2 0 i = 0
        · rw [if_pos e0] at hv
          subst hv
          exact zp_fi e0 f69
        · rw [if_neg e0] at hv
          subst hv
          exact zp_fin e0 f69
      refine Or.inl (hz ln _ (zp_fin (by decide) (hc ln _ ⟨ic5, ?_⟩)))
      rw [ci]
      refine zp_if e5 ⟨ic8, ?_⟩
      have e80 := (h.2.2.2 i hi).2
      by_cases e8 : c.2 8 i = 0
      · exact zp_fi e8 (go 1 (mo 1 (by rw [if_pos (by rw [← e80]; exact e8)])))
      · exact zp_fin e8 (go 0 (mo 0 (by rw [if_neg (by rw [← e80]; exact e8)])))
    · have e1 : ¬ g.2 1 i = -1 := by rw [← (h.2.2.2 i hi).1]; exact e5
      refine Or.inr (hz ln _ (zp_fin (by decide) (hc ln _ ⟨ic5, ?_⟩)))
      rw [ci]
      refine zp_ifn e5 (Or.inr ⟨rfl, hK _ _ _ (hg _ (zp_fin (zp_n1 (by omega)) ⟨mi, ?_⟩))⟩)
      rw [ci]
      exact zp_ifn e1 (zp_ifn (by rw [zs_ss]; decide) ⟨zp_b0, hp _ _ _ _ _ h.code zs_ss (fun e => absurd e (by decide))⟩)
  · exact Or.inr (hz ln _ (zp_fi rfl (Or.inl ⟨rfl, hK _ _ _ (hg _ (zp_fi rfl (zp_ifn (by rw [zs_ss]; decide) ⟨zp_b0, hp _ _ _ _ _ h.code zs_ss (fun e => absurd e (by decide))⟩)))⟩)))
theorem zy_paint (h : zE W H n ln c g) {a1 a2 a3 a4 : Int32} {o : Nat → Int64} {post : Int32 → zS → (Nat → Int64) → zS → Prop} {K : Int32 → zS → (Nat → Int64) → Prop} (hK : ∀ k c' o', zw_Mo_paint a1 a2 a3 a4 g (fun g' => post k c' o' g') → K k c' o') (hp : ∀ k c' g', zE W H n ln c' g' → g'.1 4 = k → post k c' o g') : zw_La_h_paint ln a1 a2 a3 a4 c o K := by
  have hC := h.1.C
  have bad : ∀ r, zw_Mo_paint_35 (fun g' => post 1 c o g') a4 r g := fun r => zp_fin (by rw [zs_ss]; decide) (hp _ _ _ h.code zs_ss)
  rcases zp_cell h.v a1 a2 a3 with ⟨i, hi, hz, hc, hg⟩ | ⟨hz, hg⟩
  · have good : (a4 = -1 ∨ zb_n n a4) → post 0 (zs_a c 6 (nI i) a4) o (zs_a (zs_s g 4 0) 2 (nI i) a4) := fun ha => by
      refine hp _ _ _ (h.tr ((zJ.rf h.1).put (k := 6) (by omega) (by omega) ?_) (((zO.rf h.2.1).num (k := 4) (v := 0) (by omega)).own ha)) (zs_ss : (zs_s g 4 0).1 4 = 0)
      unfold zb_R
      rw [if_neg (by omega), if_pos (by omega)]
      exact ha
    have mo : ∀ po : zS → Prop, po (zs_a (zs_s g 4 0) 2 (nI i) a4) → zw_Mo_paint_31 po a4 (nI i) g := fun po hpo => zp_fi (by rw [zs_ss]) ⟨h.2.1.ic hi, hpo⟩
    have i6 := h.1.ic (k := 6) (by omega) (by omega) hi
    have nn : ¬ nI i = -1 := zp_n1 (by omega)
    by_cases e4 : a4 = -1
    · exact Or.inl (hz ln _ (zp_ifn (by decide) (zp_if e4 (hc ln _ ⟨i6, hK _ _ _ (hg _ (zp_ifn nn (zp_if e4 (mo _ (good (Or.inl e4))))))⟩))))
    · rcases zd_isNet h.2.1 a4 with ⟨m, hm, em, hn⟩ | ⟨hno, hn⟩
      · rcases zc_has h.1 a4 with ⟨m', hm', em', hn'⟩ | ⟨hno', _⟩
        · exact Or.inl (hz ln _ (zp_ifn (by decide) (zp_ifn e4 (hn' _ (zp_fin (by decide) (hc ln _ ⟨i6, hK _ _ _ (hg _ (zp_ifn nn (zp_ifn e4 (hn _ (zp_ifn (by decide) (mo _ (good (Or.inr ⟨m, hm, em⟩))))))))⟩))))))
        · exact absurd em (hno' m hm)
      · rcases zc_has h.1 a4 with ⟨m', hm', em', _⟩ | ⟨_, hn'⟩
        · exact absurd em' (hno m' hm')
        · exact Or.inr (hz ln _ (zp_ifn (by decide) (zp_ifn e4 (hn' _ (zp_fi rfl ⟨rfl, hK _ _ _ (hg _ (zp_ifn nn (zp_ifn e4 (hn _ (zp_if rfl (bad _))))))⟩)))))
  · exact Or.inr (hz ln _ (zp_if rfl ⟨rfl, hK _ _ _ (hg _ (zp_if rfl (bad _)))⟩))
theorem zy_cell (h : zE W H n ln c g) {a1 a2 a3 : Int32} {o : Nat → Int64} {post : Int32 → zS → (Nat → Int64) → Int32 → zS → Prop} {K : Int32 → zS → (Nat → Int64) → Prop} (hK : ∀ k c' o', zw_Mo_cell a1 a2 a3 g (fun r g' => post k c' o' r g') → K k c' o') (h0 : ∀ i, i < 2 * (W * H) → zE W H n ln c (zs_s g 4 0) → post 0 c (vp_updL o 0 (c.2 6 i).toInt64) (g.2 2 i) (zs_s g 4 0)) (h1 : zE W H n ln c (zs_s g 4 1) → post 1 c o 0 (zs_s g 4 1)) : zw_La_h_cell ln a1 a2 a3 c o K := by
  have hC := h.1.C
  rcases zp_cell h.v a1 a2 a3 with ⟨i, hi, hz, hc, hg⟩ | ⟨hz, hg⟩
  · refine Or.inl (hz ln _ (zp_fin (by decide) (hc ln _ ⟨h.1.ic (k := 6) (by omega) (by omega) hi, hK _ _ _ (hg _ (zp_fin (zp_n1 (by omega)) (zp_fi (by rw [zs_ss]) ⟨h.2.1.ic hi, ?_⟩)))⟩)))
    rw [h.1.ci hi]
    exact h0 i hi h.code
  · exact Or.inr (hz ln _ (zp_fi rfl ⟨rfl, hK _ _ _ (hg _ (zp_fi rfl (zp_fin (by rw [zs_ss]; decide) (h1 h.code))))⟩))
theorem zp_pl {W H x y : Nat} (hx : x < W) (hy : y < H) : y * W + x < W * H := by
  have h1 : (y + 1) * W ≤ H * W := Nat.mul_le_mul_right W hy
  rw [Nat.succ_mul, Nat.mul_comm H W] at h1
  omega
theorem zp_ca0 (h : zE W H n ln c g) {x y : Nat} {post : Int32 → zS → Prop} (hp : post (nI (y * W + x)) c) : zw_Grid_cellAt ln (0 : Int32) (nI x) (nI y) c post := by
  show post (((0 : Int32) * (c.1 2)) + (nI y * (c.1 0)) + nI x) c
  rw [h.1.s2, h.1.s0, show (0 : Int32) = nI 0 from rfl, nI_mul, nI_mul, nI_add, nI_add, Nat.zero_mul, Nat.zero_add]
  exact hp
theorem zy_stitch (h : zE W H n ln c g) {a1 a2 : Int32} {o : Nat → Int64} {post : Int32 → zS → (Nat → Int64) → Int32 → zS → Prop} {K : Int32 → zS → (Nat → Int64) → Prop} (hK : ∀ k c' o', zw_Mo_stitch a1 a2 g (fun r g' => post k c' o' r g') → K k c' o') (hp : ∀ k c' o' r g', zE W H n ln c' g' → post k c' o' r g') : zw_La_h_stitch ln a1 a2 c o K := by
  have hC := h.1.C
  have hd := h.1.d
  rcases zp_place h.v a1 a2 with ⟨x, y, hx, hy, rfl, rfl, hz, hg⟩ | ⟨hz, hg⟩
  · have hpl : y * W + x < W * H := zp_pl hx hy
    have i7 := h.1.i7 hpl
    have i81 := h.2.1.i81 hpl
    have ei : ∀ v, (nI y * ((zs_s g 4 v).1 0)) + nI x = nI (y * W + x) := fun v => by
      rw [zs_sn (by omega), h.2.1.w0, nI_mul, nI_add]
    have mo : ∀ v (k : Int32) (c' : zS) (o' : Nat → Int64), zE W H n ln c' (zs_a (zs_s g 4 0) 3 (nI (y * W + x)) (vp_nar .boolean v)) → zw_Mo_stitch_60 (fun r g' => post k c' o' r g') (nI x) (nI y) v (nI (y * W + x)) (zs_s g 4 0) := fun v k c' o' hE => by
      refine ⟨i81, ?_⟩
      rw [show (zs_a (zs_s g 4 0) 3 (nI (y * W + x)) (vp_nar .boolean v)).1 0 = (zs_s g 4 0).1 0 from rfl, ei, zs_aa]
      exact ⟨i81, zb_bn (zb_nar v), hp _ _ _ _ _ hE⟩
    have st : ∀ v v', zE W H n ln (zs_a c 7 (nI (y * W + x)) (vp_nar .boolean v)) (zs_a (zs_s g 4 0) 3 (nI (y * W + x)) (vp_nar .boolean v')) := fun v v' => h.tr ((zJ.rf h.1).put (k := 7) (by omega) (by omega) (zb_Rb (by omega))) (((zO.rf h.2.1).num (k := 4) (v := 0) (by omega)).put (by omega))
    have ref : ∀ v (k : Int32) (o' : Nat → Int64), zw_Mo_stitch (nI x) (nI y) g (fun r g' => post k (zs_a c 7 (nI (y * W + x)) (vp_nar .boolean v)) o' r g') := fun v k o' => by
      refine hg _ (zp_ifn (by decide) (zp_if (by rw [zs_ss]; decide) ?_))
      rw [ei]
      refine ⟨i81, ?_⟩
      by_cases e3 : (zs_s g 4 0).2 3 (nI (y * W + x)).toNatClampNeg = 0
      · exact zp_fi e3 (mo 1 _ _ _ (st _ _))
      · exact zp_fin e3 (mo 0 _ _ _ (st _ _))
    have cl : ∀ v, zw_Gr_stitch_58 ln (fun r z1 => K 0 z1 (vp_updL o (0 : Int32).toNatClampNeg (if r = 0 then 0 else 1))) (nI (y * W + x)) v (nI (y * W + x)) c := fun v => by
      refine ⟨i7, i7, ?_⟩
      rw [zs_aa]
      exact ⟨zb_bn (zb_nar v), hK _ _ _ (ref v _ _)⟩
    refine Or.inl (hz ln _ (zp_fin (by decide) (zp_ca0 h ⟨i7, ?_⟩)))
    by_cases e7 : c.2 7 (nI (y * W + x)).toNatClampNeg = 0
    · exact zp_fi e7 (cl 1)
    · exact zp_fin e7 (cl 0)
  · exact Or.inr (hz ln _ (zp_fi rfl ⟨rfl, hK _ _ _ (hg _ (zp_if rfl (zp_ifn (by rw [zs_ss]; decide) ⟨zp_b0, hp _ _ _ _ _ h.code⟩)))⟩))
theorem zy_via (h : zE W H n ln c g) {a1 a2 : Int32} {o : Nat → Int64} {post : Int32 → zS → (Nat → Int64) → Int32 → zS → Prop} {K : Int32 → zS → (Nat → Int64) → Prop} (hK : ∀ k c' o', zw_Mo_via a1 a2 g (fun r g' => post k c' o' r g') → K k c' o') (hp : ∀ k c' o' r g', zE W H n ln c' g' → post k c' o' r g') : zw_La_h_via ln a1 a2 c o K := by
  rcases zp_place h.v a1 a2 with ⟨x, y, hx, hy, rfl, rfl, hz, hg⟩ | ⟨hz, hg⟩
  · have hpl : y * W + x < W * H := zp_pl hx hy
    have ei : ∀ v, (nI y * ((zs_s g 4 v).1 0)) + nI x = nI (y * W + x) := fun v => by
      rw [zs_sn (by omega), h.2.1.w0, nI_mul, nI_add]
    refine Or.inl (hz ln _ (zp_fin (by decide) (zp_ca0 h ⟨h.1.i7 hpl, zb_bn (h.1.vb hpl), hK _ _ _ (hg _ (zp_ifn (by decide) (zp_fi (by rw [zs_ss]) ?_)))⟩)))
    rw [ei]
    refine ⟨h.2.1.i81 hpl, ?_⟩
    by_cases e3 : (zs_s g 4 0).2 3 (nI (y * W + x)).toNatClampNeg = 0
    · exact zp_if e3 ⟨zp_b0, hp _ _ _ _ _ h.code⟩
    · exact zp_ifn e3 ⟨zp_b1, hp _ _ _ _ _ h.code⟩
  · exact Or.inr (hz ln _ (zp_fi rfl ⟨rfl, hK _ _ _ (hg _ (zp_if rfl (zp_fin (by rw [zs_ss]; decide) ⟨zp_b0, hp _ _ _ _ _ h.code⟩)))⟩))
/-! a net more -/
theorem zI.lift (h : zI W H n ln c) (hn : n < 6) : zI W H (n + 1) ln (zs_s c 4 (nI (n + 1))) := by
  have ne : ∀ j, j ≠ 4 → (zs_s c 4 (nI (n + 1))).1 j = c.1 j := fun j hj => zs_sn hj
  have up : ∀ v, zb_n n v → zb_n (n + 1) v := fun v ⟨m, hm, e⟩ => ⟨m, by omega, e⟩
  refine ⟨h.1, by omega, h.2.2.1, ⟨?_, ?_, ?_, ?_, zs_ss⟩, h.t, fun k j hj => ?_, ?_, ?_⟩
  · rw [ne 0 (by omega)]
    exact h.s0
  · rw [ne 1 (by omega)]
    exact h.s1
  · rw [ne 2 (by omega)]
    exact h.s2
  · rw [ne 3 (by omega)]
    exact h.s3
  · have r := h.r hj
    show zb_R W H (n + 1) k (c.2 k j)
    unfold zb_R at r ⊢
    by_cases e1 : k = 3 ∨ k = 4 ∨ k = 10 ∨ k = 12 ∨ k = 15
    · rw [if_pos e1] at r ⊢
      exact r
    · rw [if_neg e1] at r ⊢
      by_cases e2 : k = 5 ∨ k = 6
      · rw [if_pos e2] at r ⊢
        exact r.imp id (up _)
      · rw [if_neg e2] at r ⊢
        exact r
  · rw [ne 7 (by omega)]
    exact h.s7
  · rw [ne 11 (by omega)]
    obtain ⟨m, k1, k2, k3, k4⟩ := h.ll
    exact ⟨m, k1, k2, fun i hi => up _ (k3 i hi), k4⟩
theorem zM.net (h : zM W H n g) (hn : n < 6) {c1 c2 : Nat} (hc1 : c1 < 2 * (W * H)) (hc2 : c2 < 2 * (W * H)) (p1 : g.2 1 c1 = -1) (p2 : g.2 1 c2 = -1) (e0 : g'.1 0 = g.1 0) (e1 : g'.1 1 = g.1 1) (e2 : g'.1 2 = g.1 2) (e5 : g'.1 5 = nI (n + 1)) (r1 : g'.2 1 = upd (upd (g.2 1) c1 (nI n)) c2 (nI n)) (r2 : g'.2 2 = upd (upd (g.2 2) c1 (nI n)) c2 (nI n)) (r5 : g'.2 5 = g.2 5) (r8 : g'.2 8 = upd (g.2 8) n (nI c1)) (r9 : g'.2 9 = upd (g.2 9) n (nI c2)) : zM W H (n + 1) g' := by
  have hC := h.C
  have up : ∀ v, v = -1 ∨ zb_n n v → v = -1 ∨ zb_n (n + 1) v := fun v hv => hv.imp id (fun ⟨m, hm, e⟩ => ⟨m, by omega, e⟩)
  have u2 : ∀ (f : Nat → Int32) c, (∀ c, c < 2 * (W * H) → f c = -1 ∨ zb_n n (f c)) → c < 2 * (W * H) → upd (upd f c1 (nI n)) c2 (nI n) c = -1 ∨ zb_n (n + 1) (upd (upd f c1 (nI n)) c2 (nI n) c) := fun f c hf hc => by
    by_cases e : c = c2
    · rw [e, pk_us]
      exact Or.inr ⟨n, by omega, rfl⟩
    · rw [pk_un e]
      by_cases e' : c = c1
      · rw [e', pk_us]
        exact Or.inr ⟨n, by omega, rfl⟩
      · rw [pk_un e']
        exact up _ (hf c hc)
  refine ⟨h.1, by omega, ⟨by rw [e0]; exact h.w0, by rw [e1]; exact h.w1, e5, by rw [e2]; exact h.vc⟩, fun c hc => ⟨?_, ?_, by rw [r5]; exact h.mk hc⟩, fun k hk => ?_, fun c k hc hk e => ?_⟩
  · rw [r1]
    exact u2 _ c (fun c hc => h.pin hc) hc
  · rw [r2]
    exact u2 _ c (fun c hc => h.own hc) hc
  · rw [r1, r8, r9]
    by_cases ek : k = n
    · subst ek
      rw [pk_us, pk_us]
      refine ⟨c1, c2, hc1, hc2, rfl, rfl, ?_, pk_us⟩
      by_cases e : c1 = c2
      · rw [e, pk_us]
      · rw [pk_un e, pk_us]
    · rw [pk_un ek, pk_un ek]
      obtain ⟨a, b, ha, hb, e8, e9, pa, pb⟩ := h.ends (k := k) (by omega)
      have na : ∀ x, g.2 1 x = nI k → upd (upd (g.2 1) c1 (nI n)) c2 (nI n) x = nI k := fun x hx => by
        have n2 : x ≠ c2 := fun e => by rw [e, p2] at hx; exact zp_n1 (c := k) (by omega) hx.symm
        have n1 : x ≠ c1 := fun e => by rw [e, p1] at hx; exact zp_n1 (c := k) (by omega) hx.symm
        rw [pk_un n2, pk_un n1]
        exact hx
      exact ⟨a, b, ha, hb, e8, e9, na a pa, na b pb⟩
  · rw [r1] at e
    rw [r8, r9]
    by_cases ec2 : c = c2
    · rw [ec2, pk_us] at e
      have : k = n := ((nI_eq (by omega) (by omega)).mp e).symm
      rw [this, pk_us, pk_us, ec2]
      exact Or.inr rfl
    · rw [pk_un ec2] at e
      by_cases ec1 : c = c1
      · rw [ec1, pk_us] at e
        have : k = n := ((nI_eq (by omega) (by omega)).mp e).symm
        rw [this, pk_us, pk_us, ec1]
        exact Or.inl rfl
      · rw [pk_un ec1] at e
        have ekn : k ≠ n := fun ek => by
          rcases h.pin hc with e' | ⟨m, hm, e'⟩
          · rw [e'] at e
            exact zp_n1 (c := k) (by omega) e.symm
          · rw [e'] at e
            have := (nI_eq (by omega) (by omega)).mp e
            omega
        rw [pk_un ekn, pk_un ekn]
        exact h.conv hc (by omega) e
end ZU
