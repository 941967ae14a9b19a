/-! the system's way finder and router -/
section ZE
variable {W H n : Nat} {ln : Nat → Nat} {z z0 : zS}
theorem zb_Q14 {W H : Nat} {z : zS} (h : zb_Q W H z) {i v : Int32} : zb_Q W H (zs_a z 14 i v) := by
  obtain ⟨a, b, ha, hb, e9, e10⟩ := h
  exact ⟨a, b, ha, by rw [zs_an (by omega)]; exact hb, e9, e10⟩
theorem zc_spreadFrom (h : zI W H n ln z) (hQ : zb_Q W H z) {c : Nat} (hc : c < 2 * (W * H)) {post : zS → Prop} (hp : ∀ z', zJ W H n ln z z' → zb_Q W H z' → post z') : zw_WayFinder_spreadFrom ln (nI c) z post := by
  have hC := h.C
  refine zq_Lp_I (I := fun q => ∃ d z', d ≤ 5 ∧ zJ W H n ln z z' ∧ zb_Q W H z' ∧ q = (nI c, nI d, z')) (μ := fun q => 5 - q.2.1.toNatClampNeg) ?_ ⟨0, z, Nat.zero_le _, zJ.rf h, hQ, rfl⟩
  rintro k q ⟨d, z', hd, hJ, hQ', rfl⟩ hk
  have h' := hJ.1
  have go : d < 5 → ∀ z'', zJ W H n ln z z'' → zb_Q W H z'' → zw_WayFinder_spreadFrom_77 ln post k (nI c) (nI d) z'' := fun hl z'' hJ' hq => hk _ ⟨d + 1, z'', hl, hJ', hq, by rw [nI_1]⟩ (zm_lt hl (by omega))
  by_cases hl : 5 ≤ d
  · exact zp_if (nI_le (a := 5) hl (by omega)) (hp z' hJ hQ')
  have hl' : d < 5 := by omega
  refine zp_ifn (nI_ge (b := 5) hl' (by omega)) (zc_nx h' hc hl' (fun _ => zp_if rfl (go hl' _ hJ hQ')) (fun c' hc' _ => zp_ifn (zp_n1 (by omega)) ⟨h'.ic (k := 13) (by omega) (by omega) hc', ?_⟩))
  by_cases e : z'.2 13 (nI c').toNatClampNeg = -1
  · exact zp_if e (go hl' _ hJ hQ')
  refine zp_ifn e ⟨h'.ic (k := 14) (by omega) (by omega) hc, zc_step hl' (fun r hr => ⟨h'.ic (k := 13) (by omega) (by omega) hc', h'.ic (k := 14) (by omega) (by omega) hc', ?_⟩)⟩
  by_cases e1 : z'.2 14 (nI c').toNatClampNeg ≤ z'.2 14 (nI c).toNatClampNeg + r + z'.2 13 (nI c').toNatClampNeg
  · exact zp_if e1 (go hl' _ hJ hQ')
  · have hJ1 := hJ.put (k := 14) (i := nI c') (v := z'.2 14 (nI c).toNatClampNeg + r + z'.2 13 (nI c').toNatClampNeg) (by omega) (by omega) (zb_Rt (by omega))
    exact zp_ifn e1 ⟨h'.ic (k := 14) (by omega) (by omega) hc', zc_enqueue hJ1.1 (zb_Q14 hQ') hc' (fun z'' hJ2 hQ2 => go hl' _ (hJ1.tr hJ2) hQ2)⟩
theorem zc_spread (h : zI W H n ln z) {c : Nat} (hc : c < 2 * (W * H)) {post : zS → Prop} (hp : ∀ z', zJ W H n ln z z' → post z') : zw_WayFinder_spread ln (nI c) z post := by
  have hC := h.C
  refine zq_Lp_I (I := fun q => ∃ d z', d ≤ 2 * (W * H) ∧ zJ W H n ln z z' ∧ q = (nI c, nI d, z')) (μ := fun q => 2 * (W * H) - q.2.1.toNatClampNeg) ?_ ⟨0, z, Nat.zero_le _, zJ.rf h, rfl⟩
  rintro k q ⟨d, z', hd, hJ, rfl⟩ hk
  have h' := hJ.1
  by_cases hl : 2 * (W * H) ≤ d
  · have hJ1 := ((hJ.num (k := 9) (v := 0) (by omega)).num (k := 10) (v := 0) (by omega)).put (k := 14) (i := nI c) (v := 0) (by omega) (by omega) (zb_Rt (by omega))
    refine zp_if (by rw [h'.s3]; exact nI_le hl (by omega)) ⟨h'.ic (k := 14) (by omega) (by omega) hc, zc_enqueue hJ1.1 ⟨0, 0, by omega, Nat.zero_le _, rfl, rfl⟩ hc (fun z2 hJ2 hQ2 => ?_)⟩
    have hJ2' := hJ1.tr hJ2
    have hsq : 2 * (W * H) * (2 * (W * H)) ≤ 162 * 162 := Nat.mul_le_mul hC hC
    rw [hJ2.1.s3, nI_mul]
    refine zq_Lp_I (I := fun q => ∃ t z3, t ≤ 2 * (W * H) * (2 * (W * H)) ∧ zJ W H n ln z z3 ∧ zb_Q W H z3 ∧ q = (nI (2 * (W * H) * (2 * (W * H))), nI t, z3)) (μ := fun q => 2 * (W * H) * (2 * (W * H)) - q.2.1.toNatClampNeg) ?_ ⟨0, z2, Nat.zero_le _, hJ2', hQ2, rfl⟩
    rintro k3 q3 ⟨t, z3, ht, hJ3, hQ3, rfl⟩ hk3
    by_cases hl3 : 2 * (W * H) * (2 * (W * H)) ≤ t
    · exact zp_if (nI_le hl3 (by omega)) (hp _ hJ3)
    refine zp_ifn (nI_ge (by omega) (by omega)) ?_
    by_cases h10 : z3.1 10 ≤ 0
    · exact zp_if h10 (hp _ hJ3)
    · exact zp_ifn h10 (zc_dequeue hJ3.1 hQ3 h10 (fun c4 z4 hc4 hJ4 hQ4 => zc_spreadFrom hJ4.1 hQ4 hc4 (fun z5 hJ5 hQ5 => hk3 _ ⟨t + 1, z5, by omega, (hJ3.tr hJ4).tr hJ5, hQ5, by rw [nI_1]⟩ (zm_lt (by omega) (by omega)))))
  · have hl' : d < 2 * (W * H) := by omega
    refine zp_ifn (by rw [h'.s3]; exact nI_ge hl' (by omega)) ⟨h'.ic (k := 14) (by omega) (by omega) hl', h'.ic (k := 16) (by omega) (by omega) hl', hk _ ⟨d + 1, _, hl', (hJ.put (k := 14) (by omega) (by omega) (zb_Rt (by omega))).put (k := 16) (by omega) (by omega) (zb_Rt (by omega)), by rw [nI_1]⟩ (zm_lt hl' (by omega))⟩
theorem zc_pred (h : zI W H n ln z) {c : Nat} (hc : c < 2 * (W * H)) {post : Int32 → zS → Prop} (hp : ∀ c', c' < 2 * (W * H) → post (nI c') z) : zw_WayFinder_predecessor ln (nI c) z post := by
  have hC := h.C
  refine zq_Lp_I (I := fun q => ∃ d, d ≤ 5 ∧ q = (nI c, nI d, z)) (μ := fun q => 5 - q.2.1.toNatClampNeg) ?_ ⟨0, Nat.zero_le _, rfl⟩
  rintro k q ⟨d, hd, rfl⟩ hk
  by_cases hl : 5 ≤ d
  · exact zp_if (nI_le (a := 5) hl (by omega)) (hp c hc)
  have hl' : d < 5 := by omega
  have go : zw_WayFinder_predecessor_52 ln post k (nI c) (nI d) z := hk _ ⟨d + 1, hl', by rw [nI_1]⟩ (zm_lt hl' (by omega))
  refine zp_ifn (nI_ge (b := 5) hl' (by omega)) (zc_nx h hc hl' (fun _ => zp_if rfl go) (fun c' hc' _ => zp_ifn (zp_n1 (by omega)) ⟨h.ic (k := 14) (by omega) (by omega) hc', zc_step hl' (fun r hr => ⟨h.ic (k := 13) (by omega) (by omega) hc, h.ic (k := 14) (by omega) (by omega) hc, ?_⟩)⟩))
  by_cases e : z.2 14 (nI c').toNatClampNeg + r + z.2 13 (nI c).toNatClampNeg = z.2 14 (nI c).toNatClampNeg
  · exact zp_fi e (hp c' hc')
  · exact zp_fin e go
theorem zJ.len {W H n : Nat} {ln : Nat → Nat} {z z0 : zS} (h : zJ W H n ln z0 z) {m : Nat} (hm : m ≤ 2 * (W * H)) {v : Int32} (hv : v = nI m) : zJ W H n ln z0 (zs_s z 7 v) := ⟨h.1.len hm hv, h.2.num (by omega)⟩
theorem zc_trace (h : zI W H n ln z) {a c : Nat} (hc : c < 2 * (W * H)) {post : zS → Prop} (hp : ∀ z', zJ W H n ln z z' → post z') : zw_WayFinder_trace ln (nI a) (nI c) z post := by
  have hC := h.C
  have hd := h.d
  have hpos : 0 < W * H := Nat.mul_pos (by omega) (by omega)
  have hJ0 := ((zJ.rf h).put (k := 12) (i := 0) (v := nI c) (by omega) (by omega) (zb_Rc (by omega) hc)).len (m := 1) (by omega) (v := 1) rfl
  refine ⟨h.ic (k := 12) (c := 0) (by omega) (by omega) (by omega), ?_⟩
  refine zq_Lp_I (I := fun q => ∃ s d z', s ≤ 2 * (W * H) ∧ d < 2 * (W * H) ∧ z'.1 7 = nI s ∧ zJ W H n ln z z' ∧ q = (nI a, nI d, z')) (μ := fun q => 2 * (W * H) - (q.2.2.1 7).toNatClampNeg) ?_ ⟨1, c, _, by omega, hc, rfl, hJ0, rfl⟩
  rintro k q ⟨s, d, z', hs, hd', es, hJ, rfl⟩ hk
  have h' := hJ.1
  by_cases hl : 2 * (W * H) ≤ s
  · exact zp_if (by rw [h'.s3, es]; exact nI_le hl (by omega)) (hp _ hJ)
  refine zp_ifn (by rw [h'.s3, es]; exact nI_ge (by omega) (by omega)) ?_
  by_cases e : nI d = nI a
  · exact zp_if e (hp _ hJ)
  refine zp_ifn e (zc_pred h' hd' (fun c' hc' => ?_))
  have e1 : z'.1 7 + 1 = nI (s + 1) := by rw [es, nI_1]
  refine ⟨by rw [es]; exact h'.ic (k := 12) (by omega) (by omega) (by omega), hk _ ⟨s + 1, c', _, by omega, hc', ?_, (hJ.put (k := 12) (by omega) (by omega) (zb_Rc (by omega) hc')).len (m := s + 1) (by omega) e1, rfl⟩ ?_⟩
  · rw [zs_ss]
    exact e1
  · show 2 * (W * H) - ((zs_s (zs_a z' 12 (z'.1 7) (nI c')) 7 (z'.1 7 + 1)).1 7).toNatClampNeg < 2 * (W * H) - (z'.1 7).toNatClampNeg
    rw [zs_ss, es]
    exact zm_lt (by omega) (by omega)
theorem zc_find (h : zI W H n ln z) {m : Nat} (hm : m < n) {a : Int32} {post : Int32 → zS → Prop} (hp : ∀ r z', zJ W H n ln z z' → post r z') : zw_WayFinder_find ln (nI m) a z post := by
  have hC := h.C
  have h6 := h.n6
  refine zq_Lp_I (I := fun q => ∃ c z', c ≤ 2 * (W * H) ∧ zJ W H n ln z z' ∧ q = (nI m, a, nI c, z')) (μ := fun q => 2 * (W * H) - q.2.2.1.toNatClampNeg) ?_ ⟨0, z, Nat.zero_le _, zJ.rf h, rfl⟩
  rintro k q ⟨c, z', hc, hJ, rfl⟩ hk
  have h' := hJ.1
  by_cases hl : 2 * (W * H) ≤ c
  · obtain ⟨p, hpC, ep⟩ := h'.pin (k := 3) (m := m) (by omega) (by omega)
    refine zp_if (by rw [h'.s3]; exact nI_le hl (by omega)) ⟨h'.i6 (by omega) (by omega), ?_⟩
    rw [ep]
    refine zc_spread h' hpC (fun z1 hJ1 => ?_)
    have hJ' := hJ.tr hJ1
    obtain ⟨p1, hp1, e1⟩ := hJ1.1.pin (k := 3) (m := m) (by omega) (by omega)
    obtain ⟨p2, hp2, e2⟩ := hJ1.1.pin (k := 4) (m := m) (by omega) (by omega)
    refine ⟨h'.i6 (by omega) (by omega), by rw [e2]; exact h'.ic (k := 14) (by omega) (by omega) hp2, ?_⟩
    by_cases e : z1.2 14 (z1.2 4 (nI m).toNatClampNeg).toNatClampNeg = 1000000
    · exact zp_fi e (hp _ _ (hJ'.len (m := 0) (by omega) rfl))
    · refine zp_fin e ⟨h'.i6 (by omega) (by omega), h'.i6 (by omega) (by omega), ?_⟩
      rw [e1, e2]
      exact zc_trace hJ1.1 hp2 (fun z2 hJ2 => hp _ _ (hJ'.tr hJ2))
  · have hl' : c < 2 * (W * H) := by omega
    have go : ∀ r, zw_WayFinder_find_37 ln post k (nI m) a (nI c) r (nI c) z' := fun r => ⟨h'.ic (k := 13) (by omega) (by omega) hl', hk _ ⟨c + 1, _, hl', hJ.put (k := 13) (by omega) (by omega) (zb_Rt (by omega)), by rw [nI_1]⟩ (zm_lt hl' (by omega))⟩
    refine zp_ifn (by rw [h'.s3]; exact nI_ge hl' (by omega)) ?_
    by_cases e : a = 0
    · exact zp_if e (zc_free h' hl' (fun r _ => go r))
    · exact zp_ifn e (zc_push h' hl' (fun r _ => go r))
theorem zc_lay (h : zI W H n ln z) {m : Nat} (hm : m < n) {post : Int32 → zS → Prop} (hp : ∀ r z', zJ W H n ln z z' → post r z') : zw_Router_lay ln (nI m) z post := by
  refine zc_strip h hm (fun z1 hJ1 => zc_find hJ1.1 hm (fun r z2 hJ2 => ?_))
  by_cases e : r = -1
  · exact zp_if e (hp _ _ (hJ1.tr hJ2))
  · exact zp_ifn e (zc_layWay hJ2.1 hm (fun z3 hJ3 => hp _ _ ((hJ1.tr hJ2).tr hJ3)))
theorem zc_mark (h : zI W H n ln z) {a : Int32} (ha : a = -1 ∨ zb_c W H a) {m : Int32} {post : zS → Prop} (hp : ∀ z', zJ W H n ln z z' → post z') : zw_Router_markHolder ln a m z post := by
  have h6 := h.n6
  rcases ha with rfl | ⟨c, hc, rfl⟩
  · exact zp_if rfl (hp _ (zJ.rf h))
  refine zp_ifn (zp_n1 (by have := h.C; omega)) ⟨h.ic (k := 6) (by omega) (by omega) hc, ?_⟩
  rcases h.own (k := 6) (by omega) hc with e | ⟨o, ho, e⟩
  · exact zp_if e (hp _ (zJ.rf h))
  refine zp_ifn (by rw [e]; exact zp_n1 (by omega)) ⟨h.ic (k := 6) (by omega) (by omega) hc, ?_⟩
  by_cases e1 : z.2 6 (nI c).toNatClampNeg = m
  · exact zp_if e1 (hp _ (zJ.rf h))
  · exact zp_ifn e1 ⟨h.ic (k := 6) (by omega) (by omega) hc, by rw [e]; exact h.i6 (by omega) (by omega), hp _ ((zJ.rf h).put (k := 9) (by omega) (by omega) (zb_Rt (by omega)))⟩
theorem zc_next' (h : zI W H n ln z) {c d : Nat} (hc : c < 2 * (W * H)) (hd : d < 5) {post : Int32 → zS → Prop} (hp : ∀ r, r = -1 ∨ zb_c W H r → post r z) : zw_Grid_next ln (nI c) (nI d) z post :=
  zc_nx h hc hd (fun _ => hp _ (Or.inl rfl)) (fun c' hc' _ => hp _ (Or.inr ⟨c', hc', rfl⟩))
theorem zc_markOut (h : zI W H n ln z) {m : Int32} {post : zS → Prop} (hp : ∀ z', zJ W H n ln z z' → post z') : zw_Router_markPushedOut ln m z post := by
  have hC := h.C
  refine zq_Lp_I (I := fun q => ∃ c z', c ≤ 6 ∧ zJ W H n ln z z' ∧ q = (m, nI c, z')) (μ := fun q => 6 - q.2.1.toNatClampNeg) ?_ ⟨0, z, Nat.zero_le _, zJ.rf h, rfl⟩
  rintro k q ⟨c, z', hc, hJ, rfl⟩ hk
  have h' := hJ.1
  by_cases hl : 6 ≤ c
  · refine zp_if (nI_le (a := 6) hl (by omega)) ?_
    refine zq_Lp_I (I := fun q => ∃ c z', c ≤ 2 * (W * H) ∧ zJ W H n ln z z' ∧ q = (m, nI c, z')) (μ := fun q => 2 * (W * H) - q.2.1.toNatClampNeg) ?_ ⟨0, z', Nat.zero_le _, hJ, rfl⟩
    rintro k1 q1 ⟨c1, z1, hc1, hJ1, rfl⟩ hk1
    obtain ⟨s, hs, es⟩ := hJ1.1.s7
    by_cases hl1 : s ≤ c1
    · exact zp_if (by rw [es]; exact nI_le hl1 (by omega)) (hp _ hJ1)
    have hl1' : c1 < 2 * (W * H) := by omega
    obtain ⟨d, hd, ed⟩ := hJ1.1.cell (k := 12) (by omega) hl1'
    refine zp_ifn (by rw [es]; exact nI_ge (by omega) (by omega)) ⟨h.ic (k := 12) (by omega) (by omega) hl1', ?_⟩
    rw [ed]
    refine zc_mark hJ1.1 (Or.inr ⟨d, hd, rfl⟩) (fun z2 hJ2 => ?_)
    have go : ∀ z3, zJ W H n ln z z3 → zw_Router_markPushedOut_90 ln post k1 m (nI c1) z3 := fun z3 hJ3 => hk1 _ ⟨c1 + 1, z3, hl1', hJ3, by rw [nI_1]⟩ (zm_lt hl1' (by omega))
    have hJ2' := hJ1.tr hJ2
    by_cases e5 : z2.1 5 = 0
    · exact zp_if e5 (go _ hJ2')
    refine zp_ifn e5 ?_
    refine zq_Lp_I (I := fun q => ∃ e z', e ≤ 4 ∧ zJ W H n ln z z' ∧ q = (m, nI c1, nI d, nI e, z')) (μ := fun q => 4 - q.2.2.2.1.toNatClampNeg) ?_ ⟨0, z2, Nat.zero_le _, hJ2', rfl⟩
    rintro k3 q3 ⟨e, z3, he, hJ3, rfl⟩ hk3
    by_cases hl3 : 4 ≤ e
    · exact zp_if (nI_le (a := 4) hl3 (by omega)) (go _ hJ3)
    · exact zp_ifn (nI_ge (b := 4) (by omega) (by omega)) (zc_next' hJ3.1 hd (by omega) (fun r hr => zc_mark hJ3.1 hr (fun z4 hJ4 => hk3 _ ⟨e + 1, z4, by omega, hJ3.tr hJ4, by rw [nI_1]⟩ (zm_lt (by omega) (by omega)))))
  · exact zp_ifn (nI_ge (b := 6) (by omega) (by omega)) ⟨h'.i6 (by omega) (by omega), hk _ ⟨c + 1, _, by omega, hJ.put (k := 9) (by omega) (by omega) (zb_Rt (by omega)), by rw [nI_1]⟩ (zm_lt (by omega) (by omega))⟩
theorem zc_stripOut (h : zI W H n ln z) {post : zS → Prop} (hp : ∀ z', zJ W H n ln z z' → post z') : zw_Router_stripPushedOut ln z post := by
  have hC := h.C
  have h6 := h.n6
  refine zq_Lp_I (I := fun q => ∃ c z', c ≤ n ∧ zJ W H n ln z z' ∧ q = (nI c, z')) (μ := fun q => n - q.1.toNatClampNeg) ?_ ⟨0, z, Nat.zero_le _, zJ.rf h, rfl⟩
  rintro k q ⟨c, z', hc, hJ, rfl⟩ hk
  have h' := hJ.1
  by_cases hl : n ≤ c
  · refine zp_if (by rw [h'.s4]; exact nI_le hl (by omega)) ?_
    refine zq_Lp_I (I := fun q => ∃ c z', c ≤ n ∧ zJ W H n ln z z' ∧ q = (nI c, z')) (μ := fun q => n - q.1.toNatClampNeg) ?_ ⟨0, z', Nat.zero_le _, hJ, rfl⟩
    rintro k1 q1 ⟨c1, z1, hc1, hJ1, rfl⟩ hk1
    by_cases hl1 : n ≤ c1
    · exact zp_if (by rw [hJ1.1.s4]; exact nI_le hl1 (by omega)) (hp _ hJ1)
    have go : ∀ z2, zJ W H n ln z z2 → zw_Router_stripPushedOut_66 ln post k1 (nI c1) z2 := fun z2 hJ2 => hk1 _ ⟨c1 + 1, z2, by omega, hJ2, by rw [nI_1]⟩ (zm_lt (by omega) (by omega))
    refine zp_ifn (by rw [hJ1.1.s4]; exact nI_ge (by omega) (by omega)) ⟨h.i6 (by omega) (by omega), ?_⟩
    by_cases e : z1.2 9 (nI c1).toNatClampNeg = 0
    · exact zp_if e (go _ hJ1)
    · exact zp_ifn e (zc_restore hJ1.1 (by omega) (fun z2 hJ2 => go _ (hJ1.tr hJ2)))
  · have go : ∀ z2, zJ W H n ln z z2 → zw_Router_stripPushedOut_30 ln post k (nI c) z2 := fun z2 hJ2 => hk _ ⟨c + 1, z2, by omega, hJ2, by rw [nI_1]⟩ (zm_lt (by omega) (by omega))
    refine zp_ifn (by rw [h'.s4]; exact nI_ge (by omega) (by omega)) ⟨h.i6 (by omega) (by omega), ?_⟩
    by_cases e : z'.2 9 (nI c).toNatClampNeg = 0
    · exact zp_if e (go _ hJ)
    · exact zp_ifn e (zc_clear h' (fun z2 hJ2 => go _ (hJ.tr hJ2)))
theorem zc_shove (h : zI W H n ln z) {m : Nat} (hm : m < n) {post : Int32 → zS → Prop} (hp : ∀ r z', zJ W H n ln z z' → post r z') : zw_Router_shove ln (nI m) z post := by
  refine zc_strip h hm (fun z1 hJ1 => zc_find hJ1.1 hm (fun r z2 hJ2 => ?_))
  have hJ2' := hJ1.tr hJ2
  by_cases e : r = -1
  · exact zp_if e (hp _ _ hJ2')
  · exact zp_ifn e (zc_markOut hJ2.1 (fun z3 hJ3 => zc_stripOut hJ3.1 (fun z4 hJ4 => zc_layWay hJ4.1 hm (fun z5 hJ5 => hp _ _ (((hJ2'.tr hJ3).tr hJ4).tr hJ5)))))
end ZE
