/-! the system's checker, line and shapes -/
section ZF
variable {W H n : Nat} {ln : Nat → Nat} {z z0 : zS}
/-- found cells: no more than are seen -/
def zb_S (W H : Nat) (z : zS) : Prop := ∃ a, a ≤ zb_ct (z.2 11) (2 * (W * H)) ∧ z.1 6 = nI a
theorem zc_reach (h : zI W H n ln z) (hS : zb_S W H z) {a : Int32} (ha : a = -1 ∨ zb_c W H a) {m : Int32} {post : zS → Prop} (hp : ∀ z', zJ W H n ln z z' → zb_S W H z' → post z') : zw_Checker_reach ln a m z post := by
  have hC := h.C
  rcases ha with rfl | ⟨c, hc, rfl⟩
  · exact zp_if rfl (hp _ (zJ.rf h) hS)
  refine zp_ifn (zp_n1 (by omega)) ⟨h.ic (k := 11) (by omega) (by omega) hc, ?_⟩
  by_cases e : z.2 11 (nI c).toNatClampNeg = 0
  · refine zp_fi e ⟨h.ic (k := 6) (by omega) (by omega) hc, ?_⟩
    by_cases e1 : z.2 6 (nI c).toNatClampNeg = m
    · obtain ⟨a, ha, ea⟩ := hS
      have h1 := zb_ct_le (upd (z.2 11) c (vp_nar .boolean 1)) (2 * (W * H))
      have h2 := zb_ct_up (f := z.2 11) (i := c) (v := vp_nar .boolean 1) hc
      rw [h.ci hc] at e
      rw [if_pos e, if_neg (by decide)] at h2
      have e6 : (zs_a z 11 (nI c) (vp_nar .boolean 1)).1 6 = nI a := ea
      refine zp_fi e1 ⟨h.ic (k := 11) (by omega) (by omega) hc, by rw [e6]; exact h.ic (k := 10) (by omega) (by omega) (by omega), ?_⟩
      refine hp _ ((((zJ.rf h).put (k := 11) (by omega) (by omega) (zb_Rb (by omega))).put (k := 10) (by omega) (by omega) (zb_Rc (by omega) hc)).num (by omega)) ⟨a + 1, ?_, ?_⟩
      · show a + 1 ≤ zb_ct ((zs_a (zs_a z 11 (nI c) (vp_nar .boolean 1)) 10 (z.1 6) (nI c)).2 11) _
        rw [zs_an (by omega), zs_a2, if_pos rfl, h.ci hc]
        omega
      · rw [zs_ss]
        show z.1 6 + 1 = _
        rw [ea, nI_1]
    · exact zp_fin e1 (hp _ (zJ.rf h) hS)
  · exact zp_fin e (hp _ (zJ.rf h) hS)
theorem zc_reachFrom (h : zI W H n ln z) (hS : zb_S W H z) {c : Nat} (hc : c < 2 * (W * H)) {m : Int32} {post : zS → Prop} (hp : ∀ z', zJ W H n ln z z' → zb_S W H z' → post z') : zw_Checker_reachFrom ln (nI c) m z post := by
  have hC := h.C
  refine zq_Lp_I (I := fun q => ∃ d z', d ≤ 4 ∧ zJ W H n ln z z' ∧ zb_S W H z' ∧ q = (nI c, m, nI d, z')) (μ := fun q => 4 - q.2.2.1.toNatClampNeg) ?_ ⟨0, z, Nat.zero_le _, zJ.rf h, hS, rfl⟩
  rintro k q ⟨d, z', hd, hJ, hS', rfl⟩ hk
  have h' := hJ.1
  by_cases hl : 4 ≤ d
  · refine zp_if (nI_le (a := 4) hl (by omega)) (zc_placeOf h' hc (fun p hp1 _ => ⟨h'.i7 hp1, ?_⟩))
    by_cases e : z'.2 7 (nI p).toNatClampNeg = 0
    · exact zp_if e (hp _ hJ hS')
    · exact zp_ifn e (zc_next' h' hc (d := 4) (by omega) (fun r hr => zc_reach h' hS' hr (fun z2 hJ2 hS2 => hp _ (hJ.tr hJ2) hS2)))
  · exact zp_ifn (nI_ge (b := 4) (by omega) (by omega)) (zc_next' h' hc (by omega) (fun r hr => zc_reach h' hS' hr (fun z2 hJ2 hS2 => hk _ ⟨d + 1, z2, by omega, hJ.tr hJ2, hS2, by rw [nI_1]⟩ (zm_lt (by omega) (by omega)))))
theorem zc_joined (h : zI W H n ln z) {m : Nat} (hm : m < n) {post : Int32 → zS → Prop} (hp : ∀ r z', zJ W H n ln z z' → post r z') : zw_Checker_isJoined ln (nI m) z post := by
  have hC := h.C
  have h6 := h.n6
  refine zq_Lp_I (I := fun q => ∃ c z', c ≤ 2 * (W * H) ∧ zJ W H n ln z z' ∧ q = (nI m, nI c, z')) (μ := fun q => 2 * (W * H) - q.2.1.toNatClampNeg) ?_ ⟨0, z, Nat.zero_le _, zJ.rf h, rfl⟩
  rintro k q ⟨c, z', hc, hJ, rfl⟩ hk
  have h' := hJ.1
  by_cases hl : 2 * (W * H) ≤ c
  · obtain ⟨p, hpC, ep⟩ := h'.pin (k := 3) (m := m) (by omega) (by omega)
    have hJ0 := hJ.num (k := 6) (v := 0) (by omega)
    have ep' : (zs_s z' 6 0).2 3 (nI m).toNatClampNeg = nI p := ep
    refine zp_if (by rw [h'.s3]; exact nI_le hl (by omega)) ⟨h'.i6 (by omega) (by omega), ?_⟩
    rw [ep']
    refine zc_reach hJ0.1 ⟨0, Nat.zero_le _, rfl⟩ (Or.inr ⟨p, hpC, rfl⟩) (fun z1 hJ1 hS1 => ?_)
    refine zq_Lp_I (I := fun q => ∃ c z', c ≤ 2 * (W * H) ∧ zJ W H n ln z z' ∧ zb_S W H z' ∧ q = (nI m, nI c, z')) (μ := fun q => 2 * (W * H) - q.2.1.toNatClampNeg) ?_ ⟨0, z1, Nat.zero_le _, hJ0.tr hJ1, hS1, rfl⟩
    rintro k2 q2 ⟨c2, z2, hc2, hJ2, hS2, rfl⟩ hk2
    have fin : zw_Checker_isJoined_83 ln post (nI m) z2 := by
      obtain ⟨p2, hp2, e2⟩ := hJ2.1.pin (k := 4) (m := m) (by omega) (by omega)
      refine ⟨h.i6 (by omega) (by omega), by rw [e2]; exact h.ic (k := 11) (by omega) (by omega) hp2, ?_, hp _ _ hJ2⟩
      rw [e2]
      exact zb_bn (hJ2.1.bool (k := 11) (by omega) hp2)
    by_cases e1 : z2.1 6 ≤ nI c2
    · exact zp_if e1 fin
    refine zp_ifn e1 ?_
    by_cases hl2 : 2 * (W * H) ≤ c2
    · exact zp_if (by rw [hJ2.1.s3]; exact nI_le hl2 (by omega)) fin
    have hl2' : c2 < 2 * (W * H) := by omega
    obtain ⟨d, hd, ed⟩ := hJ2.1.cell (k := 10) (by omega) hl2'
    refine zp_ifn (by rw [hJ2.1.s3]; exact nI_ge hl2' (by omega)) ⟨h.ic (k := 10) (by omega) (by omega) hl2', ?_⟩
    rw [ed]
    exact zc_reachFrom hJ2.1 hS2 hd (fun z3 hJ3 hS3 => hk2 _ ⟨c2 + 1, z3, hl2', hJ2.tr hJ3, hS3, by rw [nI_1]⟩ (zm_lt hl2' (by omega)))
  · have hl' : c < 2 * (W * H) := by omega
    exact zp_ifn (by rw [h'.s3]; exact nI_ge hl' (by omega)) ⟨h'.ic (k := 11) (by omega) (by omega) hl', hk _ ⟨c + 1, _, hl', hJ.put (k := 11) (by omega) (by omega) (zb_Rb (by omega)), by rw [nI_1]⟩ (zm_lt hl' (by omega))⟩
theorem zc_loose (h : zI W H n ln z) {post : Int32 → zS → Prop} (hp : ∀ r z', zJ W H n ln z z' → post r z') : zw_Checker_loose ln z post := by
  have h6 := h.n6
  refine zq_Lp_I (I := fun q => ∃ v c z', c ≤ n ∧ zJ W H n ln z z' ∧ q = (v, nI c, z')) (μ := fun q => n - q.2.1.toNatClampNeg) ?_ ⟨0, 0, z, Nat.zero_le _, zJ.rf h, rfl⟩
  rintro k q ⟨v, c, z', hc, hJ, rfl⟩ hk
  by_cases hl : n ≤ c
  · exact zp_if (by rw [hJ.1.s4]; exact nI_le hl (by omega)) (hp _ _ hJ)
  have go : ∀ v z2, zJ W H n ln z z2 → zw_Checker_loose_26 ln post k v (nI c) z2 := fun v z2 hJ2 => hk _ ⟨v, c + 1, z2, by omega, hJ2, by rw [nI_1]⟩ (zm_lt (by omega) (by omega))
  refine zp_ifn (by rw [hJ.1.s4]; exact nI_ge (by omega) (by omega)) (zc_joined hJ.1 (by omega) (fun r z2 hJ2 => ?_))
  by_cases e : r = 0
  · exact zp_fi e (go _ _ (hJ.tr hJ2))
  · exact zp_fin e (go _ _ (hJ.tr hJ2))
/-! the line -/
theorem zI.line (h : zI W H n ln z) {z' : zS} (h1 : ∀ k, k ≠ 11 → z'.1 k = z.1 k) (h2 : ∀ k, k ≠ 17 → z'.2 k = z.2 k) (hL : zb_L n (z'.1 11) (z'.2 17)) : zI W H n ln z' := by
  refine ⟨h.1, h.2.1, h.2.2.1, ?_, ?_, fun k j hj => ?_, ?_, hL⟩
  · rw [h1 0 (by omega), h1 1 (by omega), h1 2 (by omega), h1 3 (by omega), h1 4 (by omega)]
    exact h.2.2.2.1
  · rw [h2 0 (by omega), h2 1 (by omega), h2 2 (by omega)]
    exact h.t
  · by_cases e : k = 17
    · subst e
      unfold zb_R
      rw [if_neg (by omega), if_neg (by omega), if_neg (by omega)]
      trivial
    · rw [h2 k e]
      exact h.r hj
  · rw [h1 7 (by omega)]
    exact h.s7
theorem zT.line {z z' : zS} (h1 : ∀ k, k ≠ 11 → z'.1 k = z.1 k) (h2 : ∀ k, k ≠ 17 → z'.2 k = z.2 k) : zT z z' := fun k hk => ⟨h1 k (by omega), h2 k (by omega)⟩
theorem zJ.line (h : zJ W H n ln z0 z) {z' : zS} (h1 : ∀ k, k ≠ 11 → z'.1 k = z.1 k) (h2 : ∀ k, k ≠ 17 → z'.2 k = z.2 k) (hL : zb_L n (z'.1 11) (z'.2 17)) : zJ W H n ln z0 z' := ⟨h.1.line h1 h2 hL, h.2.tr (zT.line h1 h2)⟩
theorem zc_join (h : zI W H n ln z) {m : Nat} (hm : m < n) {post : zS → Prop} (hp : ∀ z', zJ W H n ln z z' → post z') : zw_Line_join ln (nI m) z post := by
  have h6 := h.n6
  obtain ⟨s, hs6, es, hin, hinj⟩ := h.ll
  refine zq_Lp_I (I := fun q => ∃ c, c ≤ s ∧ (∀ i, i < c → ¬ z.2 17 i = nI m) ∧ q = (nI m, nI c, z)) (μ := fun q => s - q.2.1.toNatClampNeg) ?_ ⟨0, Nat.zero_le _, fun i hi => absurd hi (Nat.not_lt_zero _), rfl⟩
  rintro k q ⟨c, hc, hne, rfl⟩ hk
  by_cases hl : s ≤ c
  · have ec : c = s := by omega
    subst ec
    have hlt : c < n := by
      have := zb_pg n (c + 1) (fun i => if i = c then m else (z.2 17 i).toNatClampNeg) (fun i hi => by
        show (if i = c then m else (z.2 17 i).toNatClampNeg) < n
        split
        · exact hm
        · obtain ⟨o, ho, e⟩ := hin i (by omega)
          rw [e, nI_clamp (by omega)]
          exact ho) (fun i j hi hj e => by
        have e' : (if i = c then m else (z.2 17 i).toNatClampNeg) = (if j = c then m else (z.2 17 j).toNatClampNeg) := e
        split at e'
        · split at e'
          · omega
          · obtain ⟨o, ho, eo⟩ := hin j (by omega)
            rw [eo, nI_clamp (by omega)] at e'
            exact absurd (by rw [eo, e']) (hne j (by omega))
        · obtain ⟨o, ho, eo⟩ := hin i (by omega)
          split at e'
          · rw [eo, nI_clamp (by omega)] at e'
            exact absurd (by rw [eo, e']) (hne i (by omega))
          · obtain ⟨o', ho', eo'⟩ := hin j (by omega)
            rw [eo, eo', nI_clamp (by omega), nI_clamp (by omega)] at e'
            exact hinj i j (by omega) (by omega) (by rw [eo, eo', e']))
      omega
    refine zp_if (by rw [es]; exact nI_le (Nat.le_refl _) (by omega)) ⟨by rw [es]; exact h.i6 (by omega) (by omega), hp _ ((zJ.rf h).line (fun k hk => by rw [zs_sn hk]; rfl) (fun k hk => zs_an hk) ?_)⟩
    refine ⟨c + 1, by omega, ?_, ?_, ?_⟩
    · rw [zs_ss]
      show z.1 11 + 1 = _
      rw [es, nI_1]
    all_goals rw [show (zs_s (zs_a z 17 (z.1 11) (nI m)) 11 ((zs_a z 17 (z.1 11) (nI m)).1 11 + 1)).2 17 = upd (z.2 17) c (nI m) from by show (zs_a z 17 (z.1 11) (nI m)).2 17 = _; rw [zs_a2, if_pos rfl, es, nI_clamp (by omega)]]
    · intro i hi
      by_cases e : i = c
      · subst e
        rw [pk_us]
        exact ⟨m, hm, rfl⟩
      · rw [pk_un e]
        exact hin i (by omega)
    · intro i j hi hj e
      by_cases e1 : i = c
      · subst e1
        by_cases e2 : j = i
        · exact e2.symm
        · rw [pk_us, pk_un e2] at e
          exact absurd e.symm (hne j (by omega))
      · rw [pk_un e1] at e
        by_cases e2 : j = c
        · subst e2
          rw [pk_us] at e
          exact absurd e (hne i (by omega))
        · rw [pk_un e2] at e
          exact hinj i j (by omega) (by omega) e
  · refine zp_ifn (by rw [es]; exact nI_ge (by omega) (by omega)) ⟨h.i6 (by omega) (by omega), ?_⟩
    rw [nI_clamp (by omega)]
    by_cases e : z.2 17 c = nI m
    · exact zp_fi e (hp _ (zJ.rf h))
    · refine zp_fin e (hk _ ⟨c + 1, by omega, fun i hi => ?_, by rw [nI_1]⟩ (zm_lt (by omega) (by omega)))
      by_cases e1 : i = c
      · rw [e1]
        exact e
      · exact hne i (by omega)
theorem zc_leave (h : zI W H n ln z) (h0 : ¬ z.1 11 = 0) {post : Int32 → zS → Prop} (hp : ∀ m z', m < n → zJ W H n ln z z' → post (nI m) z') : zw_Line_leave ln z post := by
  have h6 := h.n6
  obtain ⟨s, hs6, es, hin, hinj⟩ := h.ll
  have hs0 : 0 < s := by
    rcases Nat.eq_zero_or_pos s with e | e
    · subst e
      exact absurd es h0
    · exact e
  obtain ⟨m, hm, em⟩ := hin 0 hs0
  have e1 : z.1 11 - 1 = nI (s - 1) := by rw [es]; exact nI_sub (b := 1) hs0
  have l17 : ln 17 = 6 := by
    rw [h.l (by omega)]
    unfold zb_l
    rw [if_neg (by omega), if_pos (by omega)]
  have em' : z.2 17 (0 : Int32).toNatClampNeg = nI m := em
  unfold zw_Line_leave
  rw [zs_ss, e1, em', l17, nI_clamp (by omega)]
  refine ⟨by rw [← l17]; exact h.i6 (c := 0) (by omega) (by omega), by decide, by decide, nI_pos (by omega), ?_, ?_, hp m _ hm ((zJ.rf h).line (fun k hk => zs_sn hk) (fun k hk => ?_) ?_)⟩
  · show 1 + (s - 1) ≤ 6
    omega
  · show 0 + (s - 1) ≤ 6
    omega
  · show va_up z.2 17 _ k = _
    unfold va_up
    rw [if_neg hk]
  · have ef : ∀ i, i < s - 1 → va_cpy (z.2 17) (z.2 17) 1 0 (s - 1) i = z.2 17 (i + 1) := fun i hi => by
      unfold va_cpy
      rw [if_pos ⟨Nat.zero_le _, by omega⟩, Nat.sub_zero, Nat.add_comm]
    refine ⟨s - 1, by omega, (zs_ss : (zs_s z 11 (nI (s - 1))).1 11 = nI (s - 1)), ?_, ?_⟩
    · intro i hi
      show zb_n n (va_up z.2 17 (va_cpy (z.2 17) (z.2 17) 1 0 (s - 1)) 17 i)
      unfold va_up
      rw [if_pos rfl, ef i hi]
      exact hin (i + 1) (by omega)
    · intro i j hi hj e
      have e' : va_up z.2 17 (va_cpy (z.2 17) (z.2 17) 1 0 (s - 1)) 17 i = va_up z.2 17 (va_cpy (z.2 17) (z.2 17) 1 0 (s - 1)) 17 j := e
      unfold va_up at e'
      rw [if_pos rfl, ef i hi, ef j hj] at e'
      have := hinj (i + 1) (j + 1) (by omega) (by omega) e'
      omega
theorem zc_span (h : zI W H n ln z0) (e1 : z.1 = z0.1) (e2 : ∀ k, k ≠ 17 → z.2 k = z0.2 k) {m : Nat} (hm : m < n) {post : Int32 → zS → Prop} (hp : ∀ r, post r z) : zw_Nets_span ln (nI m) z post := by
  have h6 := h.n6
  obtain ⟨p1, hp1, k1⟩ := h.pin (k := 3) (m := m) (by omega) (by omega)
  obtain ⟨p2, hp2, k2⟩ := h.pin (k := 4) (m := m) (by omega) (by omega)
  rw [← e2 3 (by omega)] at k1
  rw [← e2 4 (by omega)] at k2
  have ly : ∀ a (po : Int32 → zS → Prop), (∀ r, po r z) → zw_Grid_layerOf ln a z po := fun a po hpo => ⟨fun _ => hpo 1, fun _ => hpo 0⟩
  refine ⟨h.i6 (by omega) (by omega), h.i6 (by omega) (by omega), ly _ _ (fun r1 => ly _ _ (fun r2 => ?_))⟩
  rw [k1, k2]
  exact ⟨h.ic (k := 0) (by omega) (by omega) hp1, h.ic (k := 0) (by omega) (by omega) hp2, h.ic (k := 1) (by omega) (by omega) hp1, h.ic (k := 1) (by omega) (by omega) hp2, hp _⟩
/-- two members change their places -/
theorem zb_L_sw {n s a : Nat} {f : Nat → Int32} {v sv : Int32} (ha : 0 < a) (has : a < s) (hs : s ≤ 6) (es : sv = nI s) (h : zb_L n sv (upd f a v)) : zb_L n sv (upd (upd f a (f (a - 1))) (a - 1) v) := by
  obtain ⟨s', hs', e', hin, hinj⟩ := h
  have : s' = s := (nI_eq (by omega) (by omega)).mp (e'.symm.trans es)
  subst this
  have key : ∀ i, upd (upd f a (f (a - 1))) (a - 1) v i = upd f a v (if i = a then a - 1 else if i = a - 1 then a else i) := fun i => by
    by_cases e1 : i = a
    · subst e1
      rw [if_pos rfl, pk_un (by omega), pk_us, pk_un (by omega)]
    · rw [if_neg e1]
      by_cases e2 : i = a - 1
      · subst e2
        rw [if_pos rfl, pk_us, pk_us]
      · rw [if_neg e2, pk_un e2, pk_un e1, pk_un e1]
  refine ⟨s', hs', es, fun i hi => ?_, fun i j hi hj e => ?_⟩
  · rw [key]
    refine hin _ ?_
    split
    · omega
    · split <;> omega
  · rw [key, key] at e
    have e3 := hinj _ _ (by split; omega; split <;> omega) (by split; omega; split <;> omega) e
    split at e3 <;> split at e3 <;> (try split at e3) <;> (try split at e3) <;> omega
theorem zc_sort (h : zI W H n ln z) {post : zS → Prop} (hp : ∀ z', zJ W H n ln z z' → post z') : zw_Line_sortBySpan_5 ln z post := by
  have h6 := h.n6
  obtain ⟨s, hs6, es, _, _⟩ := h.ll
  refine zq_Lp_I (I := fun q => ∃ c z', 1 ≤ c ∧ c ≤ s + 1 ∧ z'.1 11 = nI s ∧ zJ W H n ln z z' ∧ q = (nI c, z')) (μ := fun q => 7 - q.1.toNatClampNeg) ?_ ⟨1, z, Nat.le_refl _, by omega, es, zJ.rf h, rfl⟩
  rintro k q ⟨c, z', hc1, hcs, es', hJ, rfl⟩ hk
  by_cases hl : s ≤ c
  · exact zp_if (by rw [es']; exact nI_le hl (by omega)) (hp _ hJ)
  refine zp_ifn (by rw [es']; exact nI_ge (by omega) (by omega)) ⟨h.i6 (by omega) (by omega), ?_⟩
  rw [nI_clamp (by omega)]
  generalize hv : z'.2 17 c = v
  refine zq_Lp_I (I := fun q => ∃ a z2, a ≤ c ∧ z2.1 = z'.1 ∧ (∀ k, k ≠ 17 → z2.2 k = z'.2 k) ∧ zb_L n (nI s) (upd (z2.2 17) a v) ∧ q = (nI c, v, nI a, z2)) (μ := fun q => q.2.2.1.toNatClampNeg) ?_ ⟨c, z', Nat.le_refl _, rfl, fun _ _ => rfl, ?_, rfl⟩
  · rintro k2 q2 ⟨a, z2, hac, e1, e2, hL, rfl⟩ hk2
    have fin : zw_Line_sortBySpan_5_68 ln post k (nI c) v (nI a) z2 := by
      refine ⟨h.i6 (by omega) (by omega), hk _ ⟨c + 1, zs_a z2 17 (nI a) v, by omega, by omega, (by rw [show (zs_a z2 17 (nI a) v).1 = z2.1 from rfl, e1]; exact es'), hJ.line (fun k _ => congrFun e1 k) (fun k hk' => by rw [zs_an hk']; exact e2 k hk') ?_, by rw [nI_1]⟩ ?_⟩
      · rw [show (zs_a z2 17 (nI a) v).1 = z2.1 from rfl, e1, es', zs_a2, if_pos rfl, nI_clamp (by omega)]
        exact hL
      · exact zm_lt (N := 7) (by omega) (by omega)
    by_cases ha : a = 0
    · subst ha
      exact zp_if (by decide) fin
    have ea : nI a - (1 : Int32) = nI (a - 1) := nI_sub (b := 1) (by omega)
    refine zp_ifn (nI_nle (by omega) (by omega)) ?_
    rw [ea, nI_clamp (by omega)]
    obtain ⟨s', hs', es2, hin, hinj⟩ := id hL
    have hss : s' = s := (nI_eq (by omega) (by omega)).mp es2.symm
    subst hss
    obtain ⟨o1, ho1, eo1⟩ := hin (a - 1) (by omega)
    rw [pk_un (by omega)] at eo1
    obtain ⟨o2, ho2, eo2⟩ := hin a (by omega)
    rw [pk_us] at eo2
    refine ⟨h.i6 (by omega) (by omega), ?_⟩
    rw [eo1]
    refine zc_span hJ.1 e1 e2 ho1 (fun r1 => ?_)
    have sp : zw_Nets_span ln v z2 (fun r157 z157 => ((r1 ≤ r157 → zw_Line_sortBySpan_5_68 ln post k (nI c) v (nI a) z157) ∧ (¬ r1 ≤ r157 → vp_in (nI (a - 1)) (ln 17) ∧ vp_in (nI a) (ln 17) ∧ k2 (nI c, v, (nI a + (-1 : Int32)), (zs_a z157 17 (nI a) (z157.2 17 (a - 1))))))) := by
      rw [eo2]
      refine zc_span hJ.1 e1 e2 ho2 (fun r2 => ?_)
      by_cases hr : r1 ≤ r2
      · refine zp_if hr ?_
        rw [← eo2]
        exact fin
      · refine zp_ifn hr ⟨h.i6 (by omega) (by omega), h.i6 (by omega) (by omega), ?_⟩
        have ea2 : nI a + (-1 : Int32) = nI (a - 1) := by rw [← ea]; exact (Int32.sub_eq_add_neg (nI a) 1).symm
        rw [ea2, ← eo2]
        refine hk2 _ ⟨a - 1, zs_a z2 17 (nI a) (z2.2 17 (a - 1)), by omega, e1, fun k hk' => by rw [zs_an hk']; exact e2 k hk', ?_, rfl⟩ ?_
        · rw [zs_a2, if_pos rfl, nI_clamp (by omega)]
          exact zb_L_sw (s := s') (by omega) (by omega) hs' rfl hL
        · show (nI (a - 1)).toNatClampNeg < (nI a).toNatClampNeg
          rw [nI_clamp (by omega), nI_clamp (by omega)]
          omega
    exact sp
  · have := hJ.1.ll
    rw [es'] at this
    have eu : upd (z'.2 17) c v = z'.2 17 := by
      funext j
      by_cases e : j = c
      · rw [e, pk_us, hv]
      · rw [pk_un e]
    rw [eu]
    exact this
theorem zc_lineUp (h : zI W H n ln z) {a : Int32} {post : zS → Prop} (hp : ∀ z', zJ W H n ln z z' → post z') : zw_Router_lineUp ln a z post := by
  have h6 := h.n6
  refine zq_Lp_I (I := fun q => ∃ c z', c ≤ n ∧ zJ W H n ln z z' ∧ q = (a, nI c, z')) (μ := fun q => n - q.2.1.toNatClampNeg) ?_ ⟨0, z, Nat.zero_le _, zJ.rf h, rfl⟩
  rintro k q ⟨c, z', hc, hJ, rfl⟩ hk
  by_cases hl : n ≤ c
  · refine zp_if (by rw [hJ.1.s4]; exact nI_le hl (by omega)) ?_
    by_cases e : a = 0
    · exact zp_if e (hp _ hJ)
    · exact zp_ifn e (zc_sort hJ.1 (fun z2 hJ2 => hp _ (hJ.tr hJ2)))
  · exact zp_ifn (by rw [hJ.1.s4]; exact nI_ge (by omega) (by omega)) (zc_strip hJ.1 (by omega) (fun z2 hJ2 => zc_join hJ2.1 (by omega) (fun z3 hJ3 => hk _ ⟨c + 1, z3, by omega, (hJ.tr hJ2).tr hJ3, by rw [nI_1]⟩ (zm_lt (by omega) (by omega)))))
theorem zc_lineUpOut (h : zI W H n ln z) {post : zS → Prop} (hp : ∀ z', zJ W H n ln z z' → post z') : zw_Router_lineUpPushedOut ln z post := by
  have h6 := h.n6
  refine zq_Lp_I (I := fun q => ∃ c z', c ≤ n ∧ zJ W H n ln z z' ∧ q = (nI c, z')) (μ := fun q => n - q.1.toNatClampNeg) ?_ ⟨0, z, Nat.zero_le _, zJ.rf h, rfl⟩
  rintro k q ⟨c, z', hc, hJ, rfl⟩ hk
  by_cases hl : n ≤ c
  · exact zp_if (by rw [hJ.1.s4]; exact nI_le hl (by omega)) (hp _ hJ)
  have go : ∀ z2, zJ W H n ln z z2 → zw_Router_lineUpPushedOut_30 ln post k (nI c) z2 := fun z2 hJ2 => hk _ ⟨c + 1, z2, by omega, hJ2, by rw [nI_1]⟩ (zm_lt (by omega) (by omega))
  refine zp_ifn (by rw [hJ.1.s4]; exact nI_ge (by omega) (by omega)) ⟨h.i6 (by omega) (by omega), ?_⟩
  by_cases e : z'.2 9 (nI c).toNatClampNeg = 0
  · exact zp_if e (go _ hJ)
  · exact zp_ifn e (zc_join hJ.1 (by omega) (fun z2 hJ2 => go _ (hJ.tr hJ2)))
theorem zc_serve (h : zI W H n ln z) {a : Int32} {post : zS → Prop} (hp : ∀ z', zJ W H n ln z z' → post z') : zw_Router_serveLine ln a z post := by
  refine zq_Lp_I (I := fun q => ∃ d c z', c ≤ 126 ∧ zJ W H n ln z z' ∧ q = (a, d, nI c, z')) (μ := fun q => 126 - q.2.2.1.toNatClampNeg) ?_ ⟨0, 0, z, Nat.zero_le _, zJ.rf h, rfl⟩
  rintro k q ⟨d, c, z', hc, hJ, rfl⟩ hk
  by_cases hl : 126 ≤ c
  · exact zp_if (nI_le (a := 126) hl (by omega)) (hp _ hJ)
  have go : ∀ d z2, zJ W H n ln z z2 → zw_Router_serveLine_61 ln post k a d (nI c) z2 := fun d z2 hJ2 => hk _ ⟨d, c + 1, z2, by omega, hJ2, by rw [nI_1]⟩ (zm_lt (by omega) (by omega))
  refine zp_ifn (nI_ge (b := 126) (by omega) (by omega)) ?_
  by_cases e : z'.1 11 = 0
  · exact zp_fi e ⟨zp_b1, zp_fin (by decide) (hp _ hJ)⟩
  refine zp_fin e ⟨zp_b0, zp_fi rfl (zc_leave hJ.1 e (fun m z2 hm hJ2 => zc_lay hJ2.1 hm (fun r z3 hJ3 => ?_)))⟩
  have hJ3' := (hJ.tr hJ2).tr hJ3
  by_cases e1 : r = -1
  · refine zp_fi e1 ?_
    by_cases e2 : a ≤ d
    · exact zp_if e2 (go _ _ hJ3')
    refine zp_ifn e2 (zc_shove hJ3.1 hm (fun r2 z4 hJ4 => ?_))
    by_cases e3 : r2 = -1
    · exact zp_if e3 (go _ _ (hJ3'.tr hJ4))
    · exact zp_ifn e3 (zc_lineUpOut hJ4.1 (fun z5 hJ5 => go _ _ ((hJ3'.tr hJ4).tr hJ5)))
  · exact zp_fin e1 (go _ _ hJ3')
theorem zc_retry (h : zI W H n ln z) {post : zS → Prop} (hp : ∀ z', zJ W H n ln z z' → post z') : zw_Router_retryLoose ln z post := by
  have h6 := h.n6
  refine zq_Lp_I (I := fun q => ∃ v c z', c ≤ 7 ∧ zJ W H n ln z z' ∧ q = (v, nI c, z')) (μ := fun q => 7 - q.2.1.toNatClampNeg) ?_ ⟨1, 0, z, Nat.zero_le _, zJ.rf h, rfl⟩
  rintro k q ⟨v, c, z', hc, hJ, rfl⟩ hk
  by_cases hl : 6 < c
  · exact zp_if (nI_lt (a := 6) hl (by omega)) (hp _ hJ)
  refine zp_ifn (nI_nlt (a := 6) (by omega) (by omega)) ?_
  by_cases e : v = 0
  · exact zp_if e (hp _ hJ)
  refine zp_ifn e ?_
  refine zq_Lp_I (I := fun q => ∃ v2 c2 z', c2 ≤ n ∧ zJ W H n ln z z' ∧ q = (v2, nI c, nI c2, z')) (μ := fun q => n - q.2.2.1.toNatClampNeg) ?_ ⟨0, 0, z', Nat.zero_le _, hJ, rfl⟩
  rintro k2 q2 ⟨v2, c2, z2, hc2, hJ2, rfl⟩ hk2
  by_cases hl2 : n ≤ c2
  · exact zp_if (by rw [hJ2.1.s4]; exact nI_le hl2 (by omega)) (hk _ ⟨v2, c + 1, z2, by omega, hJ2, by rw [nI_1]⟩ (zm_lt (by omega) (by omega)))
  have go : ∀ v z3, zJ W H n ln z z3 → zw_Router_retryLoose_51 ln post k k2 v (nI c) (nI c2) z3 := fun v z3 hJ3 => hk2 _ ⟨v, c2 + 1, z3, by omega, hJ3, by rw [nI_1]⟩ (zm_lt (by omega) (by omega))
  refine zp_ifn (by rw [hJ2.1.s4]; exact nI_ge (by omega) (by omega)) (zc_joined hJ2.1 (by omega) (fun r z3 hJ3 => ?_))
  by_cases e1 : r = 0
  · refine zp_fi e1 (zc_lay hJ3.1 (by omega) (fun r4 z4 hJ4 => ?_))
    by_cases e2 : r4 = -1
    · exact zp_if e2 (go _ _ ((hJ2.tr hJ3).tr hJ4))
    · exact zp_ifn e2 (go _ _ ((hJ2.tr hJ3).tr hJ4))
  · exact zp_fin e1 (go _ _ (hJ2.tr hJ3))
end ZF
