/-! the first call on a fresh object: both sides answer alike -/
def zp_F (W H : Nat) (ln : Nat → Nat) (z g : zS) : Prop := (zp_V W H z g) ∧ (ln 2 = 2 * (W * H) * 5) ∧ (ln 3 = 6) ∧ (ln 4 = 6) ∧ (ln 5 = 2 * (W * H)) ∧ (ln 6 = 2 * (W * H)) ∧ (ln 7 = W * H) ∧ (ln 8 = 2 * (W * H)) ∧ (z.1 4 = 0) ∧ (z.1 11 = 0) ∧ (g.1 5 = 0) ∧ (∀ j, j < 2 * (W * H) → z.2 5 j = -1) ∧ (∀ j, j < 2 * (W * H) → z.2 6 j = -1) ∧ (∀ j, z.2 7 j = 0) ∧ (∀ j, z.2 8 j = 0) ∧ (∀ c, c < 2 * (W * H) → ∀ d, d < 5 → z.2 2 (c * 5 + d) = zg_B W H c d) ∧ (∀ j, j < 162 → g.2 1 j = -1) ∧ (∀ j, j < 162 → g.2 2 j = -1) ∧ (∀ j, g.2 3 j = 0) ∧ (∀ j, g.2 0 j = 0)
theorem zp_F.V {W H : Nat} {ln : Nat → Nat} {z g : zS} (h : zp_F W H ln z g) : zp_V W H z g := h.1
theorem zp_F.l2 {W H : Nat} {ln : Nat → Nat} {z g : zS} (h : zp_F W H ln z g) : ln 2 = 2 * (W * H) * 5 := h.2.1
theorem zp_F.l3 {W H : Nat} {ln : Nat → Nat} {z g : zS} (h : zp_F W H ln z g) : ln 3 = 6 := h.2.2.1
theorem zp_F.l4 {W H : Nat} {ln : Nat → Nat} {z g : zS} (h : zp_F W H ln z g) : ln 4 = 6 := h.2.2.2.1
theorem zp_F.l5 {W H : Nat} {ln : Nat → Nat} {z g : zS} (h : zp_F W H ln z g) : ln 5 = 2 * (W * H) := h.2.2.2.2.1
theorem zp_F.l6 {W H : Nat} {ln : Nat → Nat} {z g : zS} (h : zp_F W H ln z g) : ln 6 = 2 * (W * H) := h.2.2.2.2.2.1
theorem zp_F.l7 {W H : Nat} {ln : Nat → Nat} {z g : zS} (h : zp_F W H ln z g) : ln 7 = W * H := h.2.2.2.2.2.2.1
theorem zp_F.l8 {W H : Nat} {ln : Nat → Nat} {z g : zS} (h : zp_F W H ln z g) : ln 8 = 2 * (W * H) := h.2.2.2.2.2.2.2.1
theorem zp_F.n4 {W H : Nat} {ln : Nat → Nat} {z g : zS} (h : zp_F W H ln z g) : z.1 4 = 0 := h.2.2.2.2.2.2.2.2.1
theorem zp_F.n11 {W H : Nat} {ln : Nat → Nat} {z g : zS} (h : zp_F W H ln z g) : z.1 11 = 0 := h.2.2.2.2.2.2.2.2.2.1
theorem zp_F.m5 {W H : Nat} {ln : Nat → Nat} {z g : zS} (h : zp_F W H ln z g) : g.1 5 = 0 := h.2.2.2.2.2.2.2.2.2.2.1
theorem zp_F.p {W H : Nat} {ln : Nat → Nat} {z g : zS} (h : zp_F W H ln z g) : ∀ j, j < 2 * (W * H) → z.2 5 j = -1 := h.2.2.2.2.2.2.2.2.2.2.2.1
theorem zp_F.o {W H : Nat} {ln : Nat → Nat} {z g : zS} (h : zp_F W H ln z g) : ∀ j, j < 2 * (W * H) → z.2 6 j = -1 := h.2.2.2.2.2.2.2.2.2.2.2.2.1
theorem zp_F.v {W H : Nat} {ln : Nat → Nat} {z g : zS} (h : zp_F W H ln z g) : ∀ j, z.2 7 j = 0 := h.2.2.2.2.2.2.2.2.2.2.2.2.2.1
theorem zp_F.b {W H : Nat} {ln : Nat → Nat} {z g : zS} (h : zp_F W H ln z g) : ∀ j, z.2 8 j = 0 := h.2.2.2.2.2.2.2.2.2.2.2.2.2.2.1
theorem zp_F.t {W H : Nat} {ln : Nat → Nat} {z g : zS} (h : zp_F W H ln z g) : ∀ c, c < 2 * (W * H) → ∀ d, d < 5 → z.2 2 (c * 5 + d) = zg_B W H c d := h.2.2.2.2.2.2.2.2.2.2.2.2.2.2.2.1
theorem zp_F.gp {W H : Nat} {ln : Nat → Nat} {z g : zS} (h : zp_F W H ln z g) : ∀ j, j < 162 → g.2 1 j = -1 := h.2.2.2.2.2.2.2.2.2.2.2.2.2.2.2.2.1
theorem zp_F.go {W H : Nat} {ln : Nat → Nat} {z g : zS} (h : zp_F W H ln z g) : ∀ j, j < 162 → g.2 2 j = -1 := h.2.2.2.2.2.2.2.2.2.2.2.2.2.2.2.2.2.1
theorem zp_F.gv {W H : Nat} {ln : Nat → Nat} {z g : zS} (h : zp_F W H ln z g) : ∀ j, g.2 3 j = 0 := h.2.2.2.2.2.2.2.2.2.2.2.2.2.2.2.2.2.2.1
theorem zp_F.gb {W H : Nat} {ln : Nat → Nat} {z g : zS} (h : zp_F W H ln z g) : ∀ j, g.2 0 j = 0 := h.2.2.2.2.2.2.2.2.2.2.2.2.2.2.2.2.2.2.2
section ZP1
variable {W H : Nat} {ln : Nat → Nat} {z g : zS}
theorem zp_F.dims (hF : zp_F W H ln z g) : 2 ≤ W ∧ W ≤ 9 ∧ 2 ≤ H ∧ H ≤ 9 ∧ W * H ≤ 81 := hF.V.1
theorem zp_F.C (hF : zp_F W H ln z g) : 2 * (W * H) ≤ 162 := by have := hF.V.1; omega
theorem zp_F.ci (hF : zp_F W H ln z g) {c : Nat} (hc : c < 2 * (W * H)) : (nI c).toNatClampNeg = c := nI_clamp (by have := hF.C; omega)
theorem zp_F.i5 (hF : zp_F W H ln z g) {c : Nat} (hc : c < 2 * (W * H)) : vp_in (nI c) (ln 5) := by rw [hF.l5]; exact vp_in_nI hc (by have := hF.C; omega)
theorem zp_F.i6 (hF : zp_F W H ln z g) {c : Nat} (hc : c < 2 * (W * H)) : vp_in (nI c) (ln 6) := by rw [hF.l6]; exact vp_in_nI hc (by have := hF.C; omega)
theorem zp_F.i7 (hF : zp_F W H ln z g) {c : Nat} (hc : c < W * H) : vp_in (nI c) (ln 7) := by rw [hF.l7]; exact vp_in_nI hc (by have := hF.C; omega)
theorem zp_F.i8 (hF : zp_F W H ln z g) {c : Nat} (hc : c < 2 * (W * H)) : vp_in (nI c) (ln 8) := by rw [hF.l8]; exact vp_in_nI hc (by have := hF.C; omega)
theorem zp_F.im (hF : zp_F W H ln z g) {c : Nat} (hc : c < 2 * (W * H)) : vp_in (nI c) 162 := vp_in_nI (by have := hF.C; omega) (by decide)
theorem zp_F.im8 (hF : zp_F W H ln z g) {c : Nat} (hc : c < W * H) : vp_in (nI c) 81 := vp_in_nI (by have := hF.dims; omega) (by decide)
theorem zp_F.pc (hF : zp_F W H ln z g) {c : Nat} (hc : c < 2 * (W * H)) : z.2 5 (nI c).toNatClampNeg = -1 := by rw [hF.ci hc]; exact hF.p c hc
theorem zp_F.oc (hF : zp_F W H ln z g) {c : Nat} (hc : c < 2 * (W * H)) : z.2 6 (nI c).toNatClampNeg = -1 := by rw [hF.ci hc]; exact hF.o c hc
theorem zp_F.gpc (hF : zp_F W H ln z g) {c : Nat} (hc : c < 2 * (W * H)) : g.2 1 (nI c).toNatClampNeg = -1 := by rw [hF.ci hc]; exact hF.gp c (by have := hF.C; omega)
theorem zp_F.goc (hF : zp_F W H ln z g) {c : Nat} (hc : c < 2 * (W * H)) : g.2 2 (nI c).toNatClampNeg = -1 := by rw [hF.ci hc]; exact hF.go c (by have := hF.C; omega)
theorem zp_F.n1 (hF : zp_F W H ln z g) {c : Nat} (hc : c < 2 * (W * H)) : ¬ nI c = -1 := zp_n1 (by have := hF.C; omega)
theorem zp_F.has (hF : zp_F W H ln z g) {a : Int32} {post : Int32 → zS → Prop} (h : post 0 z) : zw_Nets_has ln a z post := by
  by_cases c1 : a < 0
  · exact zp_if c1 ⟨zp_b0, h⟩
  · refine zp_ifn c1 (zp_if ?_ ⟨zp_b0, h⟩)
    rw [hF.n4]
    exact Int32.not_lt.mp c1
theorem zp_F.isNet (hF : zp_F W H ln z g) {a : Int32} {post : Int32 → zS → Prop} (h : post 0 g) : zw_Mo_isNet a g post := by
  by_cases c1 : a < 0
  · exact zp_if c1 ⟨zp_b0, h⟩
  · refine zp_ifn c1 (zp_if ?_ ⟨zp_b0, h⟩)
    rw [hF.m5]
    exact Int32.not_lt.mp c1
theorem zp_F.close (hF : zp_F W H ln z g) {c : Nat} (hc : c < 2 * (W * H)) {a : Int32} {post : Int32 → zS → Prop} (h : post 0 z) : zw_Rules_isClose_8 ln (nI c) a z post := by
  have hC := hF.C
  refine ⟨hF.i5 hc, zp_if (hF.pc hc) ?_⟩
  have key : ∀ lim : Nat, lim ≤ 4 → zw_Rules_isClose_8_33 ln post a (nI c * 5) (nI lim) z := by
    intro lim hlim
    refine zq_Lp_I (I := fun q => ∃ d, d ≤ lim ∧ q = (a, nI c * 5, nI lim, nI d, z)) (μ := fun q => 4 - q.2.2.2.1.toNatClampNeg) ?_ ⟨0, Nat.zero_le _, rfl⟩
    rintro k q ⟨d, hd, rfl⟩ hk
    have next : d < lim → zw_Rules_isClose_8_84 ln post k a (nI c * 5) (nI lim) (nI d) z := fun hlt => by
      refine hk _ ⟨d + 1, by omega, by rw [nI_1]⟩ ?_
      show 4 - (nI d + 1).toNatClampNeg < 4 - (nI d).toNatClampNeg
      rw [nI_1, nI_clamp (by omega), nI_clamp (by omega)]
      omega
    by_cases hl : lim ≤ d
    · exact zp_if (nI_le hl (by omega)) ⟨zp_b0, h⟩
    refine zp_ifn (nI_ge (by omega) (by omega)) ?_
    have e : nI c * 5 + nI d = nI (c * 5 + d) := by rw [show (5 : Int32) = nI 5 from rfl, nI_mul, nI_add]
    rw [e, nI_clamp (by omega), hF.t c hc d (by omega)]
    refine ⟨by rw [hF.l2]; exact vp_in_nI (by omega) (by omega), ?_⟩
    rcases zg_B_in (W := W) (H := H) (c := c) (d := d) (by have := hF.dims; omega) (by have := hF.dims; omega) hc with h1 | ⟨c', hc', h1⟩
    · rw [h1]
      exact zp_if rfl (next (by omega))
    · rw [h1]
      exact zp_ifn (hF.n1 hc') ⟨hF.i5 hc', zp_if (hF.pc hc') (next (by omega))⟩
  by_cases h5 : z.1 5 = 0
  · exact zp_if h5 (key 0 (by omega))
  · exact zp_ifn h5 (key 4 (by omega))
theorem zp_F.barred (hF : zp_F W H ln z g) {c : Nat} (hc : c < 2 * (W * H)) {a : Int32} {post : Int32 → zS → Prop} (h : post 0 z) : zw_Rules_isBarred ln (nI c) a z post :=
  ⟨hF.i8 hc, zp_fi (hF.b _) (hF.close hc (zp_if rfl ⟨zp_b0, h⟩))⟩
theorem zp_F.mbarred (hF : zp_F W H ln z g) {c : Nat} (hc : c < 2 * (W * H)) {post : Int32 → zS → Prop} (h : post 0 g) : zw_Mo_isBarred (nI c) (-1) g post := by
  obtain ⟨⟨w2, w9, h2, h9, ha⟩, -, -, -, -, g0, g1, -⟩ := hF.V
  refine ⟨hF.im hc, zp_fi (hF.gb _) ⟨hF.im hc, zp_if (hF.gpc hc) ⟨zp_b0, zp_if rfl ?_⟩⟩⟩
  refine zq_Lp_I (I := fun q => ∃ d, d ≤ 4 ∧ q = (nI c, -1, 0, nI d, g)) (μ := fun q => 4 - q.2.2.2.1.toNatClampNeg) ?_ ⟨0, Nat.zero_le _, rfl⟩
  rintro k q ⟨d, hd, rfl⟩ hk
  have next : d < 4 → zw_Mo_isBarred_81 post k (nI c) (-1) (nI d) g := fun hlt => by
    refine hk _ ⟨d + 1, by omega, by rw [nI_1]⟩ ?_
    show 4 - (nI d + 1).toNatClampNeg < 4 - (nI d).toNatClampNeg
    rw [nI_1, nI_clamp (by omega), nI_clamp (by omega)]
    omega
  by_cases hl : 4 ≤ d
  · exact zp_if (show nI 4 ≤ nI d from nI_le hl (by omega)) ⟨zp_b0, h⟩
  refine zp_ifn (show ¬ nI 4 ≤ nI d from nI_ge (by omega) (by omega)) ?_
  by_cases h3 : g.1 3 = 0
  · exact zp_if h3 ⟨zp_b0, h⟩
  refine zp_ifn h3 (zp_side w2 w9 h2 h9 ha g0 g1 hc (by omega) (zp_fi rfl ?_))
  rcases zg_B_in (W := W) (H := H) (c := c) (d := d) w2 h2 hc with h1 | ⟨c', hc', h1⟩
  · rw [h1]
    exact zp_if rfl (next (by omega))
  · rw [h1]
    exact zp_ifn (hF.n1 hc') ⟨hF.im hc', zp_if (hF.gpc hc') ⟨zp_b0, zp_if rfl (next (by omega))⟩⟩
/-! loops over the cells -/
theorem zp_F.isStart (hF : zp_F W H ln z g) {c : Nat} (hc : c < 2 * (W * H)) {post : Int32 → zS → Prop} (h : post 0 z) : zw_Shapes_isStart ln (nI c) z post := by
  have hC := hF.C
  refine ⟨hF.i6 hc, ?_, zp_if (hF.oc hc) ⟨zp_b0, h⟩⟩
  rw [show (5 : Int32) = nI 5 from rfl, show (0 : Int32) = nI 0 from rfl, nI_mul, nI_add, hF.l2]
  exact vp_in_nI (by omega) (by omega)
theorem zp_F.count (hF : zp_F W H ln z g) {post : Int32 → zS → Prop} (h : post 0 z) : zw_Shapes_count ln z post := by
  have hC := hF.C
  obtain ⟨-, -, -, -, z3, -, -, -⟩ := hF.V
  refine zq_Lp_I (I := fun q => ∃ c, c ≤ 2 * (W * H) ∧ q = (0, nI c, z)) (μ := fun q => 162 - q.2.1.toNatClampNeg) ?_ ⟨0, Nat.zero_le _, rfl⟩
  rintro k q ⟨c, hc, rfl⟩ hk
  by_cases hl : 2 * (W * H) ≤ c
  · exact zp_if (by rw [z3]; exact nI_le hl (by omega)) h
  refine zp_ifn (by rw [z3]; exact nI_ge (by omega) (by omega)) (hF.isStart (by omega) (zp_if rfl (hk _ ⟨c + 1, by omega, by rw [nI_1]⟩ ?_)))
  show 162 - (nI c + 1).toNatClampNeg < 162 - (nI c).toNatClampNeg
  rw [nI_1, nI_clamp (by omega), nI_clamp (by omega)]
  omega
theorem zp_F.startOf (hF : zp_F W H ln z g) {a : Int32} {post : Int32 → zS → Prop} (h : post (-1) z) : zw_Shapes_startOf ln a z post := by
  have hC := hF.C
  obtain ⟨-, -, -, -, z3, -, -, -⟩ := hF.V
  refine zq_Lp_I (I := fun q => ∃ c, c ≤ 2 * (W * H) ∧ q = (a, 0, nI c, z)) (μ := fun q => 162 - q.2.2.1.toNatClampNeg) ?_ ⟨0, Nat.zero_le _, rfl⟩
  rintro k q ⟨c, hc, rfl⟩ hk
  by_cases hl : 2 * (W * H) ≤ c
  · exact zp_if (by rw [z3]; exact nI_le hl (by omega)) h
  refine zp_ifn (by rw [z3]; exact nI_ge (by omega) (by omega)) (hF.isStart (by omega) (zp_if rfl (hk _ ⟨c + 1, by omega, by rw [nI_1]⟩ ?_)))
  show 162 - (nI c + 1).toNatClampNeg < 162 - (nI c).toNatClampNeg
  rw [nI_1, nI_clamp (by omega), nI_clamp (by omega)]
  omega
theorem zp_F.misplaced (hF : zp_F W H ln z g) {post : Int32 → zS → Prop} (h : post 0 z) : zw_Checker_misplaced ln z post := by
  have hC := hF.C
  obtain ⟨-, -, -, -, z3, -, -, -⟩ := hF.V
  refine zq_Lp_I (I := fun q => ∃ c, c ≤ 2 * (W * H) ∧ q = (0, nI c, z)) (μ := fun q => 162 - q.2.1.toNatClampNeg) ?_ ⟨0, Nat.zero_le _, rfl⟩
  rintro k q ⟨c, hc, rfl⟩ hk
  by_cases hl : 2 * (W * H) ≤ c
  · exact zp_if (by rw [z3]; exact nI_le hl (by omega)) h
  refine zp_ifn (by rw [z3]; exact nI_ge (by omega) (by omega)) ⟨hF.i6 (by omega), hF.i5 (by omega), zp_if (hF.oc (by omega)) (hk _ ⟨c + 1, by omega, by rw [nI_1]⟩ ?_)⟩
  show 162 - (nI c + 1).toNatClampNeg < 162 - (nI c).toNatClampNeg
  rw [nI_1, nI_clamp (by omega), nI_clamp (by omega)]
  omega
theorem zp_F.clash (hF : zp_F W H ln z g) {c : Nat} (hc : c < 2 * (W * H)) {a : Int32} {post : Int32 → zS → Prop} (h : post 0 z) : zw_Checker_clash ln (nI c) a z post := by
  by_cases ha : a = -1
  · exact zp_if ha h
  · exact zp_ifn ha ⟨hF.i6 hc, zp_if (hF.oc hc) h⟩
theorem zp_F.next (hF : zp_F W H ln z g) {c d : Nat} (hc : c < 2 * (W * H)) (hd : d < 5) {post : Int32 → zS → Prop} (h : post (zg_B W H c d) z) : zw_Grid_next ln (nI c) (nI d) z post := by
  have hC := hF.C
  have e : nI c * 5 + nI d = nI (c * 5 + d) := by rw [show (5 : Int32) = nI 5 from rfl, nI_mul, nI_add]
  unfold zw_Grid_next
  rw [e, nI_clamp (by omega), hF.t c hc d hd, hF.l2]
  exact ⟨vp_in_nI (by omega) (by omega), h⟩
theorem zp_F.crowded (hF : zp_F W H ln z g) {post : Int32 → zS → Prop} (h : post 0 z) : zw_Checker_crowded ln z post := by
  have hC := hF.C
  obtain ⟨-, -, -, -, z3, -, -, -⟩ := hF.V
  by_cases h5 : z.1 5 = 0
  · exact zp_if h5 h
  refine zp_ifn h5 ?_
  refine zq_Lp_I (I := fun q => ∃ c, c ≤ 2 * (W * H) ∧ q = (0, nI c, z)) (μ := fun q => 162 - q.2.1.toNatClampNeg) ?_ ⟨0, Nat.zero_le _, rfl⟩
  rintro k q ⟨c, hc, rfl⟩ hk
  by_cases hl : 2 * (W * H) ≤ c
  · exact zp_if (by rw [z3]; exact nI_le hl (by omega)) h
  refine zp_ifn (by rw [z3]; exact nI_ge (by omega) (by omega)) (hF.next (d := 1) (by omega) (by omega) (hF.clash (by omega) (hF.next (d := 3) (by omega) (by omega) (hF.clash (by omega) (hk _ ⟨c + 1, by omega, by rw [nI_1]; rfl⟩ ?_)))))
  show 162 - (nI c + 1).toNatClampNeg < 162 - (nI c).toNatClampNeg
  rw [nI_1, nI_clamp (by omega), nI_clamp (by omega)]
  omega
theorem zp_F.badVias (hF : zp_F W H ln z g) {post : Int32 → zS → Prop} (h : post 0 z) : zw_Checker_badVias ln z post := by
  have hC := hF.C
  obtain ⟨-, -, -, z2, -, -, -, -⟩ := hF.V
  refine zq_Lp_I (I := fun q => ∃ c, c ≤ W * H ∧ q = (0, nI c, z)) (μ := fun q => 162 - q.2.1.toNatClampNeg) ?_ ⟨0, Nat.zero_le _, rfl⟩
  rintro k q ⟨c, hc, rfl⟩ hk
  by_cases hl : W * H ≤ c
  · exact zp_if (by rw [z2]; exact nI_le hl (by omega)) h
  refine zp_ifn (by rw [z2]; exact nI_ge (by omega) (by omega)) ⟨hF.i7 (by omega), zp_if (hF.v _) (hk _ ⟨c + 1, by omega, by rw [nI_1]⟩ ?_)⟩
  show 162 - (nI c + 1).toNatClampNeg < 162 - (nI c).toNatClampNeg
  rw [nI_1, nI_clamp (by omega), nI_clamp (by omega)]
  omega
theorem zp_F.loose (hF : zp_F W H ln z g) {post : Int32 → zS → Prop} (h : post 0 z) : zw_Checker_loose ln z post := ⟨1, zp_if (by rw [hF.n4]; decide) h⟩
end ZP1
/-- the reference's state behind a call that sets its code: still as it was else -/
def zp_M (W H : Nat) (g : zS) : Prop := (2 ≤ W ∧ W ≤ 9 ∧ 2 ≤ H ∧ H ≤ 9 ∧ W * H ≤ 81) ∧ (g.1 0 = nI W) ∧ (g.1 1 = nI H) ∧ (g.1 5 = 0) ∧ (∀ j, j < 162 → g.2 1 j = -1) ∧ (∀ j, j < 162 → g.2 2 j = -1) ∧ (∀ j, g.2 3 j = 0) ∧ (∀ j, g.2 0 j = 0)
theorem zp_M.d {W H : Nat} {g : zS} (h : zp_M W H g) : 2 ≤ W ∧ W ≤ 9 ∧ 2 ≤ H ∧ H ≤ 9 ∧ W * H ≤ 81 := h.1
theorem zp_M.g0 {W H : Nat} {g : zS} (h : zp_M W H g) : g.1 0 = nI W := h.2.1
theorem zp_M.g1 {W H : Nat} {g : zS} (h : zp_M W H g) : g.1 1 = nI H := h.2.2.1
theorem zp_M.m5 {W H : Nat} {g : zS} (h : zp_M W H g) : g.1 5 = 0 := h.2.2.2.1
theorem zp_M.gp {W H : Nat} {g : zS} (h : zp_M W H g) : ∀ j, j < 162 → g.2 1 j = -1 := h.2.2.2.2.1
theorem zp_M.go {W H : Nat} {g : zS} (h : zp_M W H g) : ∀ j, j < 162 → g.2 2 j = -1 := h.2.2.2.2.2.1
theorem zp_M.gv {W H : Nat} {g : zS} (h : zp_M W H g) : ∀ j, g.2 3 j = 0 := h.2.2.2.2.2.2.1
theorem zp_M.gb {W H : Nat} {g : zS} (h : zp_M W H g) : ∀ j, g.2 0 j = 0 := h.2.2.2.2.2.2.2
theorem zp_F.M {W H : Nat} {ln : Nat → Nat} {z g : zS} (hF : zp_F W H ln z g) (k : Nat) (hk : k ≠ 0 ∧ k ≠ 1 ∧ k ≠ 5) (v : Int32) : zp_M W H (zs_s g k v) :=
  ⟨hF.V.1, by rw [zs_sn (Ne.symm hk.1)]; exact hF.V.2.2.2.2.2.1, by rw [zs_sn (Ne.symm hk.2.1)]; exact hF.V.2.2.2.2.2.2.1, by rw [zs_sn (Ne.symm hk.2.2)]; exact hF.m5, hF.gp, hF.go, hF.gv, hF.gb⟩
theorem zp_M.s {W H : Nat} {g : zS} (h : zp_M W H g) (k : Nat) (hk : k ≠ 0 ∧ k ≠ 1 ∧ k ≠ 5) (v : Int32) : zp_M W H (zs_s g k v) :=
  ⟨h.d, by rw [zs_sn (Ne.symm hk.1)]; exact h.g0, by rw [zs_sn (Ne.symm hk.2.1)]; exact h.g1, by rw [zs_sn (Ne.symm hk.2.2)]; exact h.m5, h.gp, h.go, h.gv, h.gb⟩
section ZP2
variable {W H : Nat} {g : zS}
theorem zp_M.many (hM : zp_M W H g) {post : Int32 → zS → Prop} (h : post (nI (2 * (W * H))) g) : zw_Mo_many g post := zp_many hM.g0 hM.g1 h
theorem zp_M.oc (hM : zp_M W H g) {c : Nat} (hc : c < 2 * (W * H)) : g.2 2 (nI c).toNatClampNeg = -1 := by rw [nI_clamp (by have := hM.d; omega)]; exact hM.go c (by have := hM.d; omega)
theorem zp_M.im (hM : zp_M W H g) {c : Nat} (hc : c < 2 * (W * H)) : vp_in (nI c) 162 := vp_in_nI (by have := hM.d; omega) (by decide)
theorem zp_M.begins (hM : zp_M W H g) {c : Nat} (hc : c < 2 * (W * H)) {post : Int32 → zS → Prop} (h : post 0 g) : zw_Mo_begins (nI c) g post := ⟨hM.im hc, zp_if (hM.oc hc) ⟨zp_b0, h⟩⟩
theorem zp_M.shapes (hM : zp_M W H g) {post : Int32 → zS → Prop} (h : post 0 g) : zq_Lp (zw_Mo_shapes_9 post) (0, 0, g) := by
  have hd := hM.d
  refine zq_Lp_I (I := fun q => ∃ c, c ≤ 2 * (W * H) ∧ q = (0, nI c, g)) (μ := fun q => 162 - q.2.1.toNatClampNeg) ?_ ⟨0, Nat.zero_le _, rfl⟩
  rintro k q ⟨c, hc, rfl⟩ hk
  unfold zw_Mo_shapes_9
  dsimp only
  refine hM.many ?_
  by_cases hl : 2 * (W * H) ≤ c
  · exact zp_if (nI_le hl (by omega)) h
  refine zp_ifn (nI_ge (by omega) (by omega)) (hM.begins (by omega) (zp_if rfl (hk _ ⟨c + 1, by omega, by rw [nI_1]⟩ ?_)))
  show 162 - (nI c + 1).toNatClampNeg < 162 - (nI c).toNatClampNeg
  rw [nI_1, nI_clamp (by omega), nI_clamp (by omega)]
  omega
theorem zp_M.shape (hM : zp_M W H g) {a1 a2 : Int32} {post : Int32 → zS → Prop} (h : post 0 (zs_s g 4 1)) : zq_Lp (zw_Mo_shape_13 post) (a2, -1, a1, 0, g) := by
  have hd := hM.d
  refine zq_Lp_I (I := fun q => ∃ c, c ≤ 2 * (W * H) ∧ q = (a2, -1, a1, nI c, g)) (μ := fun q => 162 - q.2.2.2.1.toNatClampNeg) ?_ ⟨0, Nat.zero_le _, rfl⟩
  rintro k q ⟨c, hc, rfl⟩ hk
  unfold zw_Mo_shape_13
  dsimp only
  refine hM.many ?_
  by_cases hl : 2 * (W * H) ≤ c
  · exact zp_if (nI_le hl (by omega)) (zp_fi rfl h)
  refine zp_ifn (nI_ge (by omega) (by omega)) (zp_fi rfl (hM.begins (by omega) (zp_fi rfl (hk _ ⟨c + 1, by omega, by rw [nI_1]⟩ ?_))))
  show 162 - (nI c + 1).toNatClampNeg < 162 - (nI c).toNatClampNeg
  rw [nI_1, nI_clamp (by omega), nI_clamp (by omega)]
  omega
theorem zp_M.fl (hM : zp_M W H g) {a : Int32} {post : Int32 → zS → Prop} (h : post 0 g) : zq_Lp (zw_Mo_faults_51 post) (a, 0, 0, g) := by
  have hd := hM.d
  refine zq_Lp_I (I := fun q => ∃ c, c ≤ 2 * (W * H) ∧ q = (a, 0, nI c, g)) (μ := fun q => 162 - q.2.2.1.toNatClampNeg) ?_ ⟨0, Nat.zero_le _, rfl⟩
  rintro k q ⟨c, hc, rfl⟩ hk
  unfold zw_Mo_faults_51
  dsimp only
  refine hM.many ?_
  by_cases hl : 2 * (W * H) ≤ c
  · exact zp_if (nI_le hl (by omega)) h
  have nx : zw_Mo_faults_187 post k a 0 (nI c) g := by
    refine hk _ ⟨c + 1, by omega, by rw [nI_1]⟩ ?_
    show 162 - (nI c + 1).toNatClampNeg < 162 - (nI c).toNatClampNeg
    rw [nI_1, nI_clamp (by omega), nI_clamp (by omega)]
    omega
  have n2 : zw_Mo_faults_164 post k a 0 (nI c) 0 g := ⟨fun _ => zp_if rfl nx, fun _ => zp_if rfl nx⟩
  refine zp_ifn (nI_ge (by omega) (by omega)) ⟨hM.im (by omega), zp_if (hM.oc (by omega)) ?_⟩
  by_cases hw : g.1 0 * g.1 1 ≤ nI c
  · exact zp_if hw n2
  refine zp_ifn hw ⟨?_, zp_if (hM.gv _) n2⟩
  rw [hM.g0, hM.g1, nI_mul] at hw
  have : ¬ W * H ≤ c := fun h => hw (nI_le h (by omega))
  exact vp_in_nI (by omega) (by decide)
theorem zp_M.near (hM : zp_M W H g) {post : Int32 → zS → Prop} (h : post 0 g) : zw_Mo_countNear g post := by
  obtain ⟨w2, w9, h2, h9, ha⟩ := hM.d
  refine zq_Lp_I (I := fun q => ∃ c, c ≤ 2 * (W * H) ∧ q = (0, nI c, g)) (μ := fun q => 162 - q.2.1.toNatClampNeg) ?_ ⟨0, Nat.zero_le _, rfl⟩
  rintro k q ⟨c, hc, rfl⟩ hk
  unfold zw_Mo_countNear_4
  dsimp only
  refine hM.many ?_
  by_cases hl : 2 * (W * H) ≤ c
  · exact zp_if (nI_le hl (by omega)) h
  refine zp_ifn (nI_ge (by omega) (by omega)) ?_
  by_cases h3 : g.1 3 = 0
  · exact zp_if h3 h
  refine zp_ifn h3 ?_
  refine zq_Lp_I (I := fun q => ∃ d, (d = 1 ∨ d = 3 ∨ d = 5) ∧ q = (0, nI c, nI d, g)) (μ := fun q => 6 - q.2.2.1.toNatClampNeg) ?_ ⟨1, Or.inl rfl, rfl⟩
  rintro k2 q ⟨d, hd, rfl⟩ hk2
  by_cases h4 : 4 ≤ d
  · refine zp_if (show nI 4 ≤ nI d from nI_le h4 (by omega)) (hk _ ⟨c + 1, by omega, by rw [nI_1]⟩ ?_)
    show 162 - (nI c + 1).toNatClampNeg < 162 - (nI c).toNatClampNeg
    rw [nI_1, nI_clamp (by omega), nI_clamp (by omega)]
    omega
  have nx : zw_Mo_countNear_72 post k k2 0 (nI c) (nI d) g := by
    refine hk2 _ ⟨d + 2, by omega, by rw [show (2 : Int32) = nI 2 from rfl, nI_add]⟩ ?_
    show 6 - (nI d + nI 2).toNatClampNeg < 6 - (nI d).toNatClampNeg
    rw [nI_add, nI_clamp (by omega), nI_clamp (by omega)]
    omega
  refine zp_ifn (show ¬ nI 4 ≤ nI d from nI_ge (by omega) (by omega)) (zp_side w2 w9 h2 h9 ha hM.g0 hM.g1 (by omega) (by omega) ?_)
  by_cases hb : zg_B W H c d = -1
  · exact zp_if hb nx
  · exact zp_ifn hb ⟨hM.im (by omega), zp_if (hM.oc (by omega)) nx⟩
theorem zp_M.opn (hM : zp_M W H g) {post : Int32 → zS → Prop} (h : post 0 g) : zw_Mo_countOpen g post := ⟨1, zp_if (by rw [hM.m5]; decide) h⟩
end ZP2
