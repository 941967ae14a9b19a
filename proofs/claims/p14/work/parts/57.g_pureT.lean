/-! the reference's counts, shapes and face -/
section ZT
variable {W H n : Nat} {g g0 : zS}
theorem zd_countNear (h : zM W H n g) {post : Int32 → zS → Prop} (hp : ∀ r, post r g) : zw_Mo_countNear g post := by
  have hC := h.C
  refine zq_Lp_I (I := fun q => ∃ v c, c ≤ 2 * (W * H) ∧ q = (v, nI c, g)) (μ := fun q => 2 * (W * H) - q.2.1.toNatClampNeg) ?_ ⟨0, 0, Nat.zero_le _, rfl⟩
  rintro k q ⟨v, c, hc, rfl⟩ hk
  unfold zw_Mo_countNear_4
  dsimp only
  refine zd_many h ?_
  by_cases hl : 2 * (W * H) ≤ c
  · exact zp_if (nI_le hl (by omega)) (hp _)
  have hl' : c < 2 * (W * H) := by omega
  refine zp_ifn (nI_ge hl' (by omega)) ?_
  by_cases e3 : g.1 3 = 0
  · exact zp_if e3 (hp _)
  refine zp_ifn e3 ?_
  refine zq_Lp_I (I := fun q => ∃ v s, s ≤ 5 ∧ q = (v, nI c, nI s, g)) (μ := fun q => 6 - q.2.2.1.toNatClampNeg) ?_ ⟨v, 1, by omega, rfl⟩
  rintro k2 q2 ⟨v2, s, hs, rfl⟩ hk2
  by_cases hl2 : 4 ≤ s
  · exact zp_if (nI_le (a := 4) hl2 (by omega)) (hk _ ⟨v2, c + 1, hl', by rw [nI_1]⟩ (zm_lt hl' (by omega)))
  have go : ∀ v, zw_Mo_countNear_72 post k k2 v (nI c) (nI s) g := fun v => by
    have e2 : nI s + (2 : Int32) = nI (s + 2) := nI_add s 2
    unfold zw_Mo_countNear_72
    rw [e2]
    refine hk2 _ ⟨v, s + 2, by omega, rfl⟩ ?_
    show 6 - (nI (s + 2)).toNatClampNeg < 6 - (nI s).toNatClampNeg
    rw [nI_clamp (by omega), nI_clamp (by omega)]
    omega
  refine zp_ifn (nI_ge (b := 4) (by omega) (by omega)) (zd_sd h hl' (by omega) (fun _ => zp_if rfl (go _)) (fun c' hc' _ => zp_ifn (zp_n1 (by omega)) ⟨h.ic hl', ?_⟩))
  by_cases e : g.2 2 (nI c).toNatClampNeg = -1
  · exact zp_if e (go _)
  · exact zp_ifn e ⟨h.ic hc', h.ic hl', zd_other (fun _ _ => zp_ifn (by decide) (go _)) (fun _ => zp_if rfl (go _))⟩
theorem zd_faults (h : zM W H n g) {a : Int32} {post : Int32 → zS → Prop} (hp : ∀ r g', zO W H n g g' → g'.1 4 = (if a < 0 ∨ ¬ a ≤ 3 then 1 else 0) → post r g') : zw_Mo_faults a g post := by
  have hC := h.C
  have bad : (a < 0 ∨ ¬ a ≤ 3) → zw_Mo_faults_10 post a g := fun hx => zp_ifn (by rw [zs_ss]; decide) (hp _ _ ((zO.rf h).num (by omega)) (by rw [zs_ss, if_pos hx]))
  by_cases c1 : a < 0
  · exact zp_if c1 (bad (Or.inl c1))
  by_cases c2 : a ≤ 3
  · rw [if_neg (fun hx => hx.elim c1 (fun hy => hy c2))] at hp
    have hO : zO W H n g (zs_s g 4 0) := (zO.rf h).num (by omega)
    have h4 : (zs_s g 4 0).1 4 = 0 := zs_ss
    refine zp_ifn c1 (zp_if c2 (zp_if (by rw [zs_ss]; decide) ?_))
    generalize zs_s g 4 0 = g1 at hO h4
    by_cases a3 : a = 3
    · exact zp_fi a3 (zd_countOpen hO.1 (fun r g2 hO2 h42 => hp _ _ (hO.tr hO2) (h42.trans h4)))
    refine zp_fin a3 ?_
    by_cases a1 : a = 1
    · exact zp_fi a1 (zd_countNear hO.1 (fun r => hp _ _ hO h4))
    refine zp_fin a1 ?_
    refine zq_Lp_I (I := fun q => ∃ v c, c ≤ 2 * (W * H) ∧ q = (a, v, nI c, g1)) (μ := fun q => 2 * (W * H) - q.2.2.1.toNatClampNeg) ?_ ⟨0, 0, Nat.zero_le _, rfl⟩
    rintro k q ⟨v, c, hc, rfl⟩ hk
    unfold zw_Mo_faults_51
    dsimp only
    refine zd_many hO.1 ?_
    by_cases hl : 2 * (W * H) ≤ c
    · exact zp_if (nI_le hl (by omega)) (hp _ _ hO h4)
    have hl' : c < 2 * (W * H) := by omega
    have ic := h.ic hl'
    have go : ∀ v, zw_Mo_faults_187 post k a v (nI c) g1 := fun v => hk _ ⟨v, c + 1, hl', by rw [nI_1]⟩ (zm_lt hl' (by omega))
    have g165 : ∀ s u, zw_Mo_faults_165 post k a v (nI c) s u g1 := fun s u => by
      by_cases a0 : a = 0
      · refine zp_fi a0 ?_
        by_cases es : s = 0
        · exact zp_if es (go _)
        · exact zp_ifn es (go _)
      · refine zp_fin a0 ?_
        by_cases eu : u = 0
        · exact zp_if eu (go _)
        · exact zp_ifn eu (go _)
    have g101 : ∀ s, zw_Mo_faults_101 post k a v (nI c) s g1 := fun s => by
      have e01 : g1.1 0 * g1.1 1 = nI (W * H) := by rw [hO.1.w0, hO.1.w1, nI_mul]
      unfold zw_Mo_faults_101
      rw [e01]
      by_cases hlA : W * H ≤ c
      · exact zp_if (nI_le hlA (by omega)) (g165 _ _)
      refine zp_ifn (nI_ge (by omega) (by omega)) ⟨h.i81 (by omega), ?_⟩
      by_cases e3 : g1.2 3 (nI c).toNatClampNeg = 0
      · exact zp_if e3 (g165 _ _)
      refine zp_ifn e3 ⟨ic, ?_⟩
      by_cases e2 : g1.2 2 (nI c).toNatClampNeg = -1
      · exact zp_if e2 (g165 _ _)
      refine zp_ifn e2 ⟨ic, by rw [nI_add]; exact h.ic (by omega), ?_⟩
      by_cases e4 : g1.2 2 (nI c).toNatClampNeg = g1.2 2 (nI c + nI (W * H)).toNatClampNeg
      · exact zp_if e4 (g165 _ _)
      · exact zp_ifn e4 (g165 _ _)
    refine zp_ifn (nI_ge hl' (by omega)) ⟨ic, ?_⟩
    by_cases e2 : g1.2 2 (nI c).toNatClampNeg = -1
    · exact zp_if e2 (g101 _)
    refine zp_ifn e2 ⟨ic, ?_⟩
    by_cases e0 : g1.2 0 (nI c).toNatClampNeg = 0
    · exact zp_fi e0 ⟨ic, ic, zd_other (fun _ _ => zp_ifn (by decide) (g101 _)) (fun _ => zp_if rfl (g101 _))⟩
    · exact zp_fin e0 (g101 _)
  · exact zp_ifn c1 (zp_ifn c2 (bad (Or.inr c2)))
theorem zd_begins (h : zM W H n g) {c : Nat} (hc : c < 2 * (W * H)) {post : Int32 → zS → Prop} (h1 : zb_st W H (g.2 2) c → post 1 g) (h0 : ¬ zb_st W H (g.2 2) c → post 0 g) : zw_Mo_begins (nI c) g post := by
  have hC := h.C
  have hd := h.d
  have eB : zg_B W H c 0 = if 0 < c % W then nI (c - 1) else -1 := rfl
  refine ⟨h.ic hc, ?_⟩
  rw [h.ci hc]
  by_cases e2 : g.2 2 c = -1
  · exact zp_if e2 ⟨zp_b0, h0 (fun hs => hs.1 e2)⟩
  refine zp_ifn e2 ?_
  rw [h.w0, nI_mod (by omega) (by omega)]
  refine ⟨nI_ne0 (by omega) (by omega), ?_⟩
  by_cases em : c % W = 0
  · rw [if_neg (by omega)] at eB
    exact zp_if (by rw [em]; rfl) ⟨zp_b1, h1 ⟨e2, Or.inl eB⟩⟩
  · have hm := Nat.mod_le c W
    have hmm := Nat.mod_lt c (show 0 < W by omega)
    rw [if_pos (by omega)] at eB
    have e1 : nI c - (1 : Int32) = nI (c - 1) := nI_sub (b := 1) (by omega)
    refine zp_ifn (nI_ne0 (by omega) (by omega)) ?_
    rw [e1, h.ci (by omega)]
    refine ⟨h.ic (by omega), h.ic hc, ?_⟩
    have e3 : (zg_B W H c 0).toNatClampNeg = c - 1 := by rw [eB]; exact h.ci (by omega)
    by_cases e4 : g.2 2 (c - 1) = g.2 2 c
    · refine zp_if e4 ⟨zp_b0, h0 (fun hs => ?_)⟩
      rcases hs.2 with k1 | k1
      · exact zp_n1 (c := c - 1) (by omega) (eB.symm.trans k1)
      · rw [e3] at k1
        exact k1 e4
    · exact zp_ifn e4 ⟨zp_b1, h1 ⟨e2, Or.inr (by rw [e3]; exact e4)⟩⟩
theorem zd_shapes (h : zM W H n g) {post : Int32 → zS → Prop} (hp : post (nI (zb_sn W H (g.2 2) (2 * (W * H)))) (zs_s g 4 0)) : zw_Mo_shapes g post := by
  have hC := h.C
  have hO : zO W H n g (zs_s g 4 0) := (zO.rf h).num (by omega)
  refine zq_Lp_I (I := fun q => ∃ c, c ≤ 2 * (W * H) ∧ q = (nI (zb_sn W H (g.2 2) c), nI c, zs_s g 4 0)) (μ := fun q => 2 * (W * H) - q.2.1.toNatClampNeg) ?_ ⟨0, Nat.zero_le _, rfl⟩
  rintro k q ⟨c, hc, rfl⟩ hk
  unfold zw_Mo_shapes_9
  dsimp only
  refine zd_many hO.1 ?_
  by_cases hl : 2 * (W * H) ≤ c
  · have e : c = 2 * (W * H) := by omega
    subst e
    exact zp_if (nI_le hl (by omega)) hp
  have hl' : c < 2 * (W * H) := by omega
  refine zp_ifn (nI_ge hl' (by omega)) (zd_begins hO.1 hl' (fun hs => ?_) (fun hs => ?_))
  · exact zp_ifn (by decide) (hk _ ⟨c + 1, hl', by rw [nI_1, nI_1, zb_sn_1 (f := g.2 2) hs]⟩ (zm_lt hl' (by omega)))
  · exact zp_if rfl (hk _ ⟨c + 1, hl', by rw [nI_1, zb_sn_0 (f := g.2 2) hs]⟩ (zm_lt hl' (by omega)))
theorem zd_shape (h : zM W H n g) {a b : Int32} {post : Int32 → zS → Prop} (hp : ∀ r g', zO W H n g g' → post r g') : zw_Mo_shape a b g post := by
  have hC := h.C
  have hd := h.d
  have hO : zO W H n g (zs_s g 4 0) := (zO.rf h).num (by omega)
  unfold zw_Mo_shape
  generalize zs_s g 4 0 = g1 at hO
  have n0 : ¬ g1.1 0 = 0 := by rw [hO.1.w0]; exact nI_ne0 (by omega) (by omega)
  have n1 : ¬ g1.1 1 = 0 := by rw [hO.1.w1]; exact nI_ne0 (by omega) (by omega)
  have n2 : ¬ g1.1 0 * g1.1 1 = 0 := by rw [hO.1.w0, hO.1.w1, nI_mul]; exact nI_ne0 (Nat.mul_pos (by omega) (by omega)) (by omega)
  have p1 : ∀ r, post r g1 := fun r => hp _ _ hO
  have fin : ∀ v, (v = -1 ∨ zb_c W H v) → zw_Mo_shape_56 post b v g1 := by
    rintro v (rfl | ⟨c, hc, rfl⟩)
    · exact zp_fi rfl (hp _ _ (hO.num (by omega)))
    refine zp_fin (zp_n1 (by omega)) ?_
    refine zq_Lp_I (I := fun q => ∃ e, e < 2 * (W * H) ∧ q = (b, nI c, nI e, g1)) (μ := fun q => 2 * (W * H) - q.2.2.1.toNatClampNeg) ?_ ⟨c, hc, rfl⟩
    rintro k q ⟨e, he, rfl⟩ hk
    have out : zw_Mo_shape_110 post b (nI c) (nI e) g1 := ⟨fun _ => ⟨n2, p1 _⟩, fun _ => ⟨n0, n1, p1 _⟩, fun _ => ⟨n0, p1 _⟩, fun _ => ⟨n0, p1 _⟩, fun _ => ⟨h.ic hc, p1 _⟩, fun _ => hp _ _ (hO.num (by omega))⟩
    refine ⟨n0, ?_⟩
    have hW : 0 < W := by omega
    have hm := Nat.mod_lt e hW
    have e1 : nI W - (1 : Int32) = nI (W - 1) := nI_sub (b := 1) (by omega)
    rw [hO.1.w0, nI_mod (by omega) (by omega), e1]
    by_cases hl : W - 1 ≤ e % W
    · exact zp_if (nI_le hl (by omega)) out
    have he1 : e + 1 < 2 * (W * H) := by
      obtain ⟨l, y, x, hl', hy, hx, ee, ex, _, _⟩ := zg_dec (W := W) (H := H) hW (by omega) he
      have := (zg_c (W := W) (H := H) (x := x + 1) hl' hy (by omega)).1
      omega
    refine zp_ifn (nI_ge (by omega) (by omega)) ⟨by rw [nI_1]; exact h.ic he1, h.ic hc, ?_⟩
    by_cases e2 : g1.2 2 (nI e + 1).toNatClampNeg = g1.2 2 (nI c).toNatClampNeg
    · exact zp_fi e2 (hk _ ⟨e + 1, he1, by rw [nI_1]⟩ (zm_lt he (by omega)))
    · exact zp_fin e2 out
  refine zq_Lp_I (I := fun q => ∃ v l c, c ≤ 2 * (W * H) ∧ (v = -1 ∨ zb_c W H v) ∧ q = (b, v, l, nI c, g1)) (μ := fun q => 2 * (W * H) - q.2.2.2.1.toNatClampNeg) ?_ ⟨-1, a, 0, Nat.zero_le _, Or.inl rfl, rfl⟩
  rintro k q ⟨v, l, c, hc, hv, rfl⟩ hk
  unfold zw_Mo_shape_13
  dsimp only
  refine zd_many hO.1 ?_
  by_cases hl : 2 * (W * H) ≤ c
  · exact zp_if (nI_le hl (by omega)) (fin v hv)
  have hl' : c < 2 * (W * H) := by omega
  have go : ∀ v l, (v = -1 ∨ zb_c W H v) → zw_Mo_shape_50 post k b v l (nI c) g1 := fun v l hv => hk _ ⟨v, l, c + 1, hl', hv, by rw [nI_1]⟩ (zm_lt hl' (by omega))
  refine zp_ifn (nI_ge hl' (by omega)) ?_
  by_cases ev : v = -1
  · refine zp_fi ev (zd_begins hO.1 hl' (fun _ => zp_fin (by decide) ?_) (fun _ => zp_fi rfl (go _ _ hv)))
    by_cases el : l = 0
    · exact zp_fi el (go _ _ (Or.inr ⟨c, hl', rfl⟩))
    · exact zp_fin el (go _ _ hv)
  · exact zp_fin ev (fin v hv)
theorem zd_isNet (h : zM W H n g) (a : Int32) : (∃ m, m < n ∧ a = nI m ∧ ∀ post : Int32 → zS → Prop, post 1 g → zw_Mo_isNet a g post) ∨ ((∀ m, m < n → ¬ a = nI m) ∧ ∀ post : Int32 → zS → Prop, post 0 g → zw_Mo_isNet a g post) := by
  have h6 := h.n6
  by_cases c1 : a < 0
  · exact Or.inr ⟨fun m hm e => nI_pos (n := m) (by omega) (e ▸ c1), fun post hp => zp_if c1 ⟨zp_b0, hp⟩⟩
  by_cases c2 : g.1 5 ≤ a
  · refine Or.inr ⟨fun m hm e => ?_, fun post hp => zp_ifn c1 (zp_if c2 ⟨zp_b0, hp⟩)⟩
    rw [h.w5, e] at c2
    exact nI_ge hm (by omega) c2
  · obtain ⟨m, hm, e⟩ := zp_nat (N := n) (by omega) c1 (by rw [← h.w5]; exact c2)
    exact Or.inl ⟨m, hm, e, fun post hp => zp_ifn c1 (zp_ifn c2 ⟨zp_b1, hp⟩)⟩
theorem zd_route (h : zM W H n g) {a : Int32} {post : Int32 → zS → Prop} (hp : ∀ r g', zO W H n g g' → post r g') : zw_Mo_route a g post := by
  have hO : ∀ v, zO W H n g (zs_s g 4 v) := fun v => (zO.rf h).num (by omega)
  rcases zd_isNet h a with ⟨m, hm, rfl, hh⟩ | ⟨_, hh⟩
  · exact hh _ (zp_ifn (by decide) (zp_fi (by rw [zs_ss]) (zd_find (hO 0).1 hm (fun r g' hO' _ _ => hp _ _ ((hO 0).tr hO')))))
  · exact hh _ (zp_if rfl (zp_fin (by rw [zs_ss]; decide) (hp _ _ (hO 1))))
theorem zd_push (h : zM W H n g) {a : Int32} {post : Int32 → zS → Prop} (hp : ∀ r g', zO W H n g g' → post r g') : zw_Mo_push a g post := by
  have hO : ∀ v, zO W H n g (zs_s g 4 v) := fun v => (zO.rf h).num (by omega)
  rcases zd_isNet h a with ⟨m, hm, rfl, hh⟩ | ⟨_, hh⟩
  · exact hh _ (zp_ifn (by decide) (zp_fi (by rw [zs_ss]) (zd_find (hO 0).1 hm (fun r g' hO' _ _ => hp _ _ ((hO 0).tr hO')))))
  · exact hh _ (zp_if rfl (zp_fin (by rw [zs_ss]; decide) (hp _ _ (hO 1))))
theorem zd_rip (h : zM W H n g) {a : Int32} {post : zS → Prop} (h0 : (∃ m, m < n ∧ a = nI m) → ∀ g', zO W H n g g' → g'.1 4 = 0 → post g') (h1 : (∀ m, m < n → ¬ a = nI m) → ∀ g', zO W H n g g' → g'.1 4 = 1 → post g') : zw_Mo_rip a g post := by
  have hO : ∀ v, zO W H n g (zs_s g 4 v) := fun v => (zO.rf h).num (by omega)
  rcases zd_isNet h a with ⟨m, hm, rfl, hh⟩ | ⟨hn, hh⟩
  · exact hh _ (zp_ifn (by decide) (zp_fi (by rw [zs_ss]) (zd_clear (hO 0).1 hm (fun g' hO' hCl => h0 ⟨m, hm, rfl⟩ _ ((hO 0).tr hO') (by rw [hCl.1, zs_ss])))))
  · exact hh _ (zp_if rfl (zp_fin (by rw [zs_ss]; decide) (h1 hn _ (hO 1) zs_ss)))
end ZT
