/-! the system's push, exactly -/
/-- the first i cells of a way look at the cell -/
def zf_lk (W H : Nat) (sp : Int32) (fw : Nat → Int32) (i c : Nat) : Prop := ∃ k w, k < i ∧ w < 2 * (W * H) ∧ fw k = nI w ∧ (c = w ∨ (¬ sp = 0 ∧ ∃ d, d < 4 ∧ zg_B W H w d = nI c))
section ZAE
variable {W H n : Nat} {ln : Nat → Nat} {z z0 : zS}
/-- only the flags of nets pushed out have changed -/
def zc_9 (z z' : zS) : Prop := z'.1 = z.1 ∧ ∀ k, k ≠ 9 → z'.2 k = z.2 k
theorem zc_9.tr {a b c : zS} (h : zc_9 a b) (h' : zc_9 b c) : zc_9 a c := ⟨h'.1.trans h.1, fun k k1 => (h'.2 k k1).trans (h.2 k k1)⟩
theorem zx_mark (h : zI W H n ln z) {a : Int32} (ha : a = -1 ∨ zb_c W H a) {m : Nat} (hm : m < n) {post : zS → Prop} (hp : ∀ z', zJ W H n ln z z' → zc_9 z z' → (∀ k, k < 6 → (¬ z'.2 9 k = 0 ↔ ¬ z.2 9 k = 0 ∨ ∃ c, c < 2 * (W * H) ∧ a = nI c ∧ z.2 6 c = nI k ∧ k ≠ m)) → post z') : zw_Router_markHolder ln a (nI m) z post := by
  have h6 := h.n6
  have hC := h.C
  have same : (∀ k, k < 6 → ¬ ∃ c, c < 2 * (W * H) ∧ a = nI c ∧ z.2 6 c = nI k ∧ k ≠ m) → post z := fun hx => hp z (zJ.rf h) ⟨rfl, fun _ _ => rfl⟩ (fun k hk => ⟨Or.inl, fun hy => hy.resolve_right (hx k hk)⟩)
  rcases ha with rfl | ⟨c, hc, rfl⟩
  · exact zp_if rfl (same (fun k hk ⟨c, hc, e, _⟩ => zp_n1 (c := c) (by omega) e.symm))
  have uq : ∀ c', c' < 2 * (W * H) → nI c = nI c' → c' = c := fun c' hc' e => ((nI_eq (by omega) (by omega)).mp e).symm
  refine zp_ifn (zp_n1 (by omega)) ⟨h.ic (k := 6) (by omega) (by omega) hc, ?_⟩
  have hown := h.own (k := 6) (by omega) hc
  rw [h.ci hc] at hown ⊢
  rcases hown with e | ⟨o, ho, e⟩
  · refine zp_if e (same (fun k hk ⟨c', hc', e1, e2, _⟩ => ?_))
    rw [uq c' hc' e1, e] at e2
    exact zp_n1 (c := k) (by omega) e2.symm
  refine zp_ifn (by rw [e]; exact zp_n1 (by omega)) ⟨h.ic (k := 6) (by omega) (by omega) hc, ?_⟩
  by_cases e1 : z.2 6 c = nI m
  · refine zp_if e1 (same (fun k hk ⟨c', hc', e2, e3, e4⟩ => ?_))
    rw [uq c' hc' e2, e1] at e3
    exact e4 ((nI_eq (by omega) (by omega)).mp e3).symm
  refine zp_ifn e1 ⟨h.ic (k := 6) (by omega) (by omega) hc, by rw [e]; exact h.i6 (by omega) (by omega), hp _ ((zJ.rf h).put (k := 9) (by omega) (by omega) (zb_Rt (by omega))) ⟨rfl, fun k hk => zs_an hk⟩ (fun k hk => ?_)⟩
  rw [zs_a2, if_pos rfl, e, nI_clamp (by omega)]
  by_cases ek : k = o
  · subst ek
    rw [pk_us]
    refine ⟨fun _ => Or.inr ⟨c, hc, rfl, e, fun hx => e1 (by rw [e, hx])⟩, fun _ => by decide⟩
  · rw [pk_un ek]
    refine ⟨Or.inl, fun hy => hy.resolve_right (fun ⟨c', hc', e2, e3, _⟩ => ek ?_)⟩
    rw [uq c' hc' e2, e] at e3
    exact ((nI_eq (by omega) (by omega)).mp e3).symm
theorem zx_markOut (h : zI W H n ln z) {m l : Nat} (hm : m < n) (hl : l < 2 * (W * H)) (e7 : z.1 7 = nI (l + 1)) {post : zS → Prop} (hp : ∀ z', zJ W H n ln z z' → zc_9 z z' → (∀ k, k < 6 → (¬ z'.2 9 k = 0 ↔ k ≠ m ∧ ∃ c, c < 2 * (W * H) ∧ zf_lk W H (z.1 5) (z.2 12) (l + 1) c ∧ z.2 6 c = nI k)) → post z') : zw_Router_markPushedOut ln (nI m) z post := by
  have hC := h.C
  refine zq_Lp_I (I := fun q => ∃ c z', c ≤ 6 ∧ zJ W H n ln z z' ∧ zc_9 z z' ∧ (∀ k, k < c → z'.2 9 k = 0) ∧ q = (nI m, nI c, z')) (μ := fun q => 6 - q.2.1.toNatClampNeg) ?_ ⟨0, z, Nat.zero_le _, zJ.rf h, ⟨rfl, fun _ _ => rfl⟩, fun k hk => absurd hk (Nat.not_lt_zero _), rfl⟩
  rintro k q ⟨c, z', hc, hJ, h9, hz, rfl⟩ hk
  by_cases hl6 : 6 ≤ c
  · refine zp_if (nI_le (a := 6) hl6 (by omega)) ?_
    refine zq_Lp_I (I := fun q => ∃ i z', i ≤ l + 1 ∧ zJ W H n ln z z' ∧ zc_9 z z' ∧ (∀ k, k < 6 → (¬ z'.2 9 k = 0 ↔ k ≠ m ∧ ∃ c, c < 2 * (W * H) ∧ zf_lk W H (z.1 5) (z.2 12) i c ∧ z.2 6 c = nI k)) ∧ q = (nI m, nI i, z')) (μ := fun q => (l + 1) - q.2.1.toNatClampNeg) ?_ ⟨0, z', Nat.zero_le _, hJ, h9, fun k hk => ⟨fun hx => absurd (hz k (by omega)) hx, fun ⟨_, c, _, ⟨k', w, hk', _⟩, _⟩ => absurd hk' (Nat.not_lt_zero _)⟩, rfl⟩
    rintro k1 q1 ⟨i, z1, hi, hJ1, h91, hf1, rfl⟩ hk1
    have e7' : z1.1 7 = nI (l + 1) := by rw [h91.1]; exact e7
    by_cases hl1 : l + 1 ≤ i
    · have ei : i = l + 1 := by omega
      subst ei
      exact zp_if (by rw [e7']; exact nI_le hl1 (by omega)) (hp _ hJ1 h91 hf1)
    have hil : i < l + 1 := by omega
    have ci : (nI i).toNatClampNeg = i := nI_clamp (by omega)
    obtain ⟨w, hw, ew⟩ := h.cell (k := 12) (c := i) (by omega) (by omega)
    rw [ci] at ew
    refine zp_ifn (by rw [e7']; exact nI_ge hil (by omega)) ⟨h.ic (k := 12) (by omega) (by omega) (by omega), ?_⟩
    rw [ci, h91.2 12 (by omega), ew]
    refine zx_mark hJ1.1 (Or.inr ⟨w, hw, rfl⟩) hm (fun z2 hJ2 h92 hf2 => ?_)
    have h92' := h91.tr h92
    have o1 : z1.2 6 = z.2 6 := h91.2 6 (by omega)
    have lk1 : ∀ c, zf_lk W H (z.1 5) (z.2 12) (i + 1) c ↔ zf_lk W H (z.1 5) (z.2 12) i c ∨ (c = w ∨ (¬ z.1 5 = 0 ∧ ∃ d, d < 4 ∧ zg_B W H w d = nI c)) := fun c => by
      constructor
      · rintro ⟨k, w', j1, j2, j3, j4⟩
        by_cases ek : k = i
        · subst ek
          have : w' = w := (nI_eq (by omega) (by omega)).mp (j3.symm.trans ew)
          rw [this] at j4
          exact Or.inr j4
        · exact Or.inl ⟨k, w', by omega, j2, j3, j4⟩
      · rintro (⟨k, w', j1, r⟩ | hx)
        · exact ⟨k, w', by omega, r⟩
        · exact ⟨i, w, by omega, hw, ew, hx⟩
    have f2 : ∀ k, k < 6 → (¬ z2.2 9 k = 0 ↔ k ≠ m ∧ ∃ c, c < 2 * (W * H) ∧ (zf_lk W H (z.1 5) (z.2 12) i c ∨ c = w) ∧ z.2 6 c = nI k) := fun k hk => by
      rw [hf2 k hk, hf1 k hk, o1]
      constructor
      · rintro (⟨j1, c, j2, j3, j4⟩ | ⟨c, j1, j2, j3, j4⟩)
        · exact ⟨j1, c, j2, Or.inl j3, j4⟩
        · exact ⟨j4, c, j1, Or.inr ((nI_eq (by omega) (by omega)).mp j2).symm, j3⟩
      · rintro ⟨j1, c, j2, j3 | j3, j4⟩
        · exact Or.inl ⟨j1, c, j2, j3, j4⟩
        · exact Or.inr ⟨c, j2, by rw [j3], j4, j1⟩
    by_cases e5 : z2.1 5 = 0
    · refine zp_if e5 (hk1 _ ⟨i + 1, z2, by omega, hJ1.tr hJ2, h92', fun k hk => ?_, by rw [nI_1]⟩ (zm_lt (by omega) (by omega)))
      rw [f2 k hk]
      rw [h92'.1] at e5
      constructor
      · rintro ⟨j1, c, j2, j3, j4⟩
        exact ⟨j1, c, j2, (lk1 c).mpr (j3.imp id Or.inl), j4⟩
      · rintro ⟨j1, c, j2, j3, j4⟩
        refine ⟨j1, c, j2, ?_, j4⟩
        rcases (lk1 c).mp j3 with hx | hx | ⟨hx, _⟩
        · exact Or.inl hx
        · exact Or.inr hx
        · exact absurd e5 hx
    refine zp_ifn e5 ?_
    rw [h92'.1] at e5
    refine zq_Lp_I (I := fun q => ∃ e z3, e ≤ 4 ∧ zJ W H n ln z z3 ∧ zc_9 z z3 ∧ (∀ k, k < 6 → (¬ z3.2 9 k = 0 ↔ k ≠ m ∧ ∃ c, c < 2 * (W * H) ∧ (zf_lk W H (z.1 5) (z.2 12) i c ∨ c = w ∨ ∃ d, d < e ∧ zg_B W H w d = nI c) ∧ z.2 6 c = nI k)) ∧ q = (nI m, nI i, nI w, nI e, z3)) (μ := fun q => 4 - q.2.2.2.1.toNatClampNeg) ?_ ⟨0, z2, Nat.zero_le _, hJ1.tr hJ2, h92', fun k hk => ?_, rfl⟩
    · rintro k3 q3 ⟨e, z3, he, hJ3, h93, hf3, rfl⟩ hk3
      by_cases hl3 : 4 ≤ e
      · have ee : e = 4 := by omega
        subst ee
        refine zp_if (nI_le (a := 4) hl3 (by omega)) (hk1 _ ⟨i + 1, z3, by omega, hJ3, h93, fun k hk => ?_, by rw [nI_1]⟩ (zm_lt (by omega) (by omega)))
        rw [hf3 k hk]
        constructor
        · rintro ⟨j1, c, j2, j3, j4⟩
          refine ⟨j1, c, j2, (lk1 c).mpr ?_, j4⟩
          rcases j3 with hx | hx | hx
          · exact Or.inl hx
          · exact Or.inr (Or.inl hx)
          · exact Or.inr (Or.inr ⟨e5, hx⟩)
        · rintro ⟨j1, c, j2, j3, j4⟩
          refine ⟨j1, c, j2, ?_, j4⟩
          rcases (lk1 c).mp j3 with hx | hx | ⟨_, hx⟩
          · exact Or.inl hx
          · exact Or.inr (Or.inl hx)
          · exact Or.inr (Or.inr hx)
      · refine zp_ifn (nI_ge (b := 4) (by omega) (by omega)) (zc_next hJ3.1 hw (by omega) ?_)
        have hB : zg_B W H w e = -1 ∨ zb_c W H (zg_B W H w e) := zg_B_in (W := W) (H := H) (c := w) (d := e) h.d.1 h.d.2.2.1 hw
        refine zx_mark hJ3.1 hB hm (fun z4 hJ4 h94 hf4 => hk3 _ ⟨e + 1, z4, by omega, hJ3.tr hJ4, h93.tr h94, fun k hk => ?_, by rw [nI_1]⟩ (zm_lt (by omega) (by omega)))
        rw [hf4 k hk, hf3 k hk, h93.2 6 (by omega)]
        constructor
        · rintro (⟨j1, c, j2, j3, j4⟩ | ⟨c, j1, j2, j3, j4⟩)
          · refine ⟨j1, c, j2, ?_, j4⟩
            rcases j3 with hx | hx | ⟨d, hd, hx⟩
            · exact Or.inl hx
            · exact Or.inr (Or.inl hx)
            · exact Or.inr (Or.inr ⟨d, by omega, hx⟩)
          · exact ⟨j4, c, j1, Or.inr (Or.inr ⟨e, by omega, j2⟩), j3⟩
        · rintro ⟨j1, c, j2, j3, j4⟩
          rcases j3 with hx | hx | ⟨d, hd, hx⟩
          · exact Or.inl ⟨j1, c, j2, Or.inl hx, j4⟩
          · exact Or.inl ⟨j1, c, j2, Or.inr (Or.inl hx), j4⟩
          · by_cases ed : d = e
            · rw [ed] at hx
              exact Or.inr ⟨c, j2, hx, j4, j1⟩
            · exact Or.inl ⟨j1, c, j2, Or.inr (Or.inr ⟨d, by omega, hx⟩), j4⟩
    · rw [f2 k hk]
      constructor
      · rintro ⟨j1, c, j2, j3, j4⟩
        exact ⟨j1, c, j2, j3.imp id Or.inl, j4⟩
      · rintro ⟨j1, c, j2, j3, j4⟩
        refine ⟨j1, c, j2, ?_, j4⟩
        rcases j3 with hx | hx | ⟨d, hd, _⟩
        · exact Or.inl hx
        · exact Or.inr hx
        · exact absurd hd (Nat.not_lt_zero _)
  · refine zp_ifn (nI_ge (b := 6) (by omega) (by omega)) ⟨h.i6 (by omega) (by omega), hk _ ⟨c + 1, zs_a z' 9 (nI c) (vp_nar .boolean 0), by omega, hJ.put (k := 9) (by omega) (by omega) (zb_Rt (by omega)), h9.tr ⟨rfl, fun k hk => zs_an hk⟩, fun k hk => ?_, by rw [nI_1]⟩ (zm_lt (by omega) (by omega))⟩
    rw [zs_a2, if_pos rfl, nI_clamp (by omega)]
    by_cases e : k = c
    · rw [e, pk_us]
      rfl
    · rw [pk_un e]
      exact hz k (by omega)
/-- the pins of a state, and whose they are -/
def zf_pn (W H n : Nat) (fs fe fp : Nat → Int32) : Prop := (∀ k, k < n → ∃ s e, s < 2 * (W * H) ∧ e < 2 * (W * H) ∧ fs k = nI s ∧ fe k = nI e ∧ fp s = nI k ∧ fp e = nI k) ∧ ∀ c k, c < 2 * (W * H) → k < n → fp c = nI k → fs k = nI c ∨ fe k = nI c
/-- owners once the nets of P are pushed out -/
def zf_out (W H n : Nat) (fp : Nat → Int32) (P : Nat → Prop) (o o2 : Nat → Int32) : Prop := ∀ c, c < 2 * (W * H) → ((∃ k, k < n ∧ P k ∧ fp c = nI k) → o2 c = fp c) ∧ ((¬ ∃ k, k < n ∧ P k ∧ fp c = nI k) → (∃ k, k < n ∧ P k ∧ o c = nI k) → o2 c = -1) ∧ ((¬ ∃ k, k < n ∧ P k ∧ fp c = nI k) → (¬ ∃ k, k < n ∧ P k ∧ o c = nI k) → o2 c = o c)
theorem zx_stripOut (h : zI W H n ln z) (hpn : zf_pn W H n (z.2 3) (z.2 4) (z.2 5)) {post : zS → Prop} (hp : ∀ z', zJ W H n ln z z' → zc_OV z z' → zf_out W H n (z.2 5) (fun k => ¬ z.2 9 k = 0) (z.2 6) (z'.2 6) → (∀ p, p < W * H → ((∃ k c, k < n ∧ ¬ z.2 9 k = 0 ∧ c < 2 * (W * H) ∧ c % (W * H) = p ∧ z.2 6 c = nI k) → z'.2 7 p = 0) ∧ ((¬ ∃ k c, k < n ∧ ¬ z.2 9 k = 0 ∧ c < 2 * (W * H) ∧ c % (W * H) = p ∧ z.2 6 c = nI k) → z'.2 7 p = z.2 7 p)) → post z') : zw_Router_stripPushedOut ln z post := by
  have hC := h.C
  have h6 := h.n6
  refine zq_Lp_I (I := fun q => ∃ j z', j ≤ n ∧ zJ W H n ln z z' ∧ zc_OV z z' ∧ (∀ c, c < 2 * (W * H) → ((∃ k, k < j ∧ ¬ z.2 9 k = 0 ∧ z.2 6 c = nI k) → z'.2 6 c = -1) ∧ ((¬ ∃ k, k < j ∧ ¬ z.2 9 k = 0 ∧ z.2 6 c = nI k) → z'.2 6 c = z.2 6 c)) ∧ (∀ p, p < W * H → ((∃ k c, k < j ∧ ¬ z.2 9 k = 0 ∧ c < 2 * (W * H) ∧ c % (W * H) = p ∧ z.2 6 c = nI k) → z'.2 7 p = 0) ∧ ((¬ ∃ k c, k < j ∧ ¬ z.2 9 k = 0 ∧ c < 2 * (W * H) ∧ c % (W * H) = p ∧ z.2 6 c = nI k) → z'.2 7 p = z.2 7 p)) ∧ q = (nI j, z')) (μ := fun q => n - q.1.toNatClampNeg) ?_ ⟨0, z, Nat.zero_le _, zJ.rf h, zc_OV.rf, fun c hc => ⟨fun ⟨k, hk, _⟩ => absurd hk (Nat.not_lt_zero _), fun _ => rfl⟩, fun p hp => ⟨fun ⟨k, _, hk, _⟩ => absurd hk (Nat.not_lt_zero _), fun _ => rfl⟩, rfl⟩
  rintro k q ⟨j, z', hj, hJ, hOV, ho, hv, rfl⟩ hk
  have h' := hJ.1
  by_cases hl : n ≤ j
  · have ej : j = n := by omega
    subst ej
    refine zp_if (by rw [h'.s4]; exact nI_le hl (by omega)) ?_
    refine zq_Lp_I (I := fun q => ∃ i z2, i ≤ j ∧ zJ W H j ln z z2 ∧ zc_OV z z2 ∧ (∀ c, c < 2 * (W * H) → ((∃ k, k < i ∧ ¬ z.2 9 k = 0 ∧ z.2 5 c = nI k) → z2.2 6 c = z.2 5 c) ∧ ((¬ ∃ k, k < i ∧ ¬ z.2 9 k = 0 ∧ z.2 5 c = nI k) → z2.2 6 c = z'.2 6 c)) ∧ z2.2 7 = z'.2 7 ∧ q = (nI i, z2)) (μ := fun q => j - q.1.toNatClampNeg) ?_ ⟨0, z', Nat.zero_le _, hJ, hOV, fun c hc => ⟨fun ⟨k, hk, _⟩ => absurd hk (Nat.not_lt_zero _), fun _ => rfl⟩, rfl, rfl⟩
    rintro k1 q1 ⟨i, z2, hi, hJ2, hOV2, ho2, hv2, rfl⟩ hk1
    by_cases hl1 : j ≤ i
    · have ei : i = j := by omega
      subst ei
      refine zp_if (by rw [hJ2.1.s4]; exact nI_le hl1 (by omega)) (hp z2 hJ2 hOV2 (fun c hc => ⟨(ho2 c hc).1, fun hx hy => ?_, fun hx hy => ?_⟩) (by rw [hv2]; exact hv))
      · rw [(ho2 c hc).2 hx]
        exact (ho c hc).1 hy
      · rw [(ho2 c hc).2 hx]
        exact (ho c hc).2 hy
    have hl1' : i < j := by omega
    have go : ∀ z3, zJ W H j ln z z3 → zc_OV z z3 → (∀ c, c < 2 * (W * H) → ((∃ k, k < i + 1 ∧ ¬ z.2 9 k = 0 ∧ z.2 5 c = nI k) → z3.2 6 c = z.2 5 c) ∧ ((¬ ∃ k, k < i + 1 ∧ ¬ z.2 9 k = 0 ∧ z.2 5 c = nI k) → z3.2 6 c = z'.2 6 c)) → z3.2 7 = z'.2 7 → zw_Router_stripPushedOut_66 ln post k1 (nI i) z3 := fun z3 hJ3 hOV3 ho3 hv3 => hk1 _ ⟨i + 1, z3, hl1', hJ3, hOV3, ho3, hv3, by rw [nI_1]⟩ (zm_lt hl1' (by omega))
    refine zp_ifn (by rw [hJ2.1.s4]; exact nI_ge hl1' (by omega)) ⟨h.i6 (by omega) (by omega), ?_⟩
    rw [nI_clamp (by omega), hOV2.2 9 (by omega) (by omega)]
    by_cases e : z.2 9 i = 0
    · refine zp_if e (go z2 hJ2 hOV2 (fun c hc => ⟨fun ⟨k, k1', k2, k3⟩ => (ho2 c hc).1 ⟨k, ?_, k2, k3⟩, fun hx => (ho2 c hc).2 (fun ⟨k, k1', r⟩ => hx ⟨k, by omega, r⟩)⟩) hv2)
      have : k ≠ i := fun e' => k2 (by rw [e']; exact e)
      omega
    · obtain ⟨s, e0, hs, he0, es, ee, ps, pe⟩ := hpn.1 i hl1'
      refine zp_ifn e (zx_restore hJ2.1 hl1' hs he0 (by rw [hOV2.2 3 (by omega) (by omega)]; exact es) (by rw [hOV2.2 4 (by omega) (by omega)]; exact ee) (fun z3 hJ3 hOV3 e6 e7 => go z3 (hJ2.tr hJ3) (hOV2.tr hOV3) (fun c hc => ?_) (e7.trans hv2)))
      rw [e6]
      by_cases hpc : z.2 5 c = nI i
      · have hcs : c = e0 ∨ c = s := by
          rcases hpn.2 c i hc hl1' hpc with hx | hx
          · rw [es] at hx
            exact Or.inr ((nI_eq (by omega) (by omega)).mp hx).symm
          · rw [ee] at hx
            exact Or.inl ((nI_eq (by omega) (by omega)).mp hx).symm
        have ev : upd (upd (z2.2 6) s (nI i)) e0 (nI i) c = nI i := by
          rcases hcs with hx | hx
          · rw [hx, pk_us]
          · by_cases hy : c = e0
            · rw [hy, pk_us]
            · rw [pk_un hy, hx, pk_us]
        rw [ev]
        exact ⟨fun _ => hpc.symm, fun hx => absurd ⟨i, by omega, e, hpc⟩ hx⟩
      · have n1 : c ≠ e0 := fun hx => hpc (by rw [hx]; exact pe)
        have n2 : c ≠ s := fun hx => hpc (by rw [hx]; exact ps)
        rw [pk_un n1, pk_un n2]
        refine ⟨fun ⟨k, k1', k2, k3⟩ => (ho2 c hc).1 ⟨k, ?_, k2, k3⟩, fun hx => (ho2 c hc).2 (fun ⟨k, k1', r⟩ => hx ⟨k, by omega, r⟩)⟩
        have : k ≠ i := fun e' => hpc (by rw [← e']; exact k3)
        omega
  · have hl' : j < n := by omega
    have go : ∀ z2, zJ W H n ln z z2 → zc_OV z z2 → (∀ c, c < 2 * (W * H) → ((∃ k, k < j + 1 ∧ ¬ z.2 9 k = 0 ∧ z.2 6 c = nI k) → z2.2 6 c = -1) ∧ ((¬ ∃ k, k < j + 1 ∧ ¬ z.2 9 k = 0 ∧ z.2 6 c = nI k) → z2.2 6 c = z.2 6 c)) → (∀ p, p < W * H → ((∃ k c, k < j + 1 ∧ ¬ z.2 9 k = 0 ∧ c < 2 * (W * H) ∧ c % (W * H) = p ∧ z.2 6 c = nI k) → z2.2 7 p = 0) ∧ ((¬ ∃ k c, k < j + 1 ∧ ¬ z.2 9 k = 0 ∧ c < 2 * (W * H) ∧ c % (W * H) = p ∧ z.2 6 c = nI k) → z2.2 7 p = z.2 7 p)) → zw_Router_stripPushedOut_30 ln post k (nI j) z2 := fun z2 hJ2 hOV2 ho2 hv2 => hk _ ⟨j + 1, z2, hl', hJ2, hOV2, ho2, hv2, by rw [nI_1]⟩ (zm_lt hl' (by omega))
    refine zp_ifn (by rw [h'.s4]; exact nI_ge hl' (by omega)) ⟨h.i6 (by omega) (by omega), ?_⟩
    rw [nI_clamp (by omega), hOV.2 9 (by omega) (by omega)]
    by_cases e : z.2 9 j = 0
    · refine zp_if e (go z' hJ hOV (fun c hc => ⟨fun ⟨k, k1', k2, k3⟩ => (ho c hc).1 ⟨k, ?_, k2, k3⟩, fun hx => (ho c hc).2 (fun ⟨k, k1', r⟩ => hx ⟨k, by omega, r⟩)⟩) (fun p hp' => ⟨fun ⟨k, c, k1', k2, k3⟩ => (hv p hp').1 ⟨k, c, ?_, k2, k3⟩, fun hx => (hv p hp').2 (fun ⟨k, c, k1', r⟩ => hx ⟨k, c, by omega, r⟩)⟩))
      · have : k ≠ j := fun e' => k2 (by rw [e']; exact e)
        omega
      · have : k ≠ j := fun e' => k2 (by rw [e']; exact e)
        omega
    · -- a cell is j's now just where it was before
      have cur : ∀ c, c < 2 * (W * H) → (z'.2 6 c = nI j ↔ z.2 6 c = nI j) := fun c hc => by
        by_cases hx : ∃ k, k < j ∧ ¬ z.2 9 k = 0 ∧ z.2 6 c = nI k
        · rw [(ho c hc).1 hx]
          obtain ⟨k, k1', k2, k3⟩ := hx
          rw [k3]
          constructor
          · intro hy
            exact absurd hy.symm (zp_n1 (by omega))
          · intro hy
            have := (nI_eq (by omega) (by omega)).mp hy
            omega
        · rw [(ho c hc).2 hx]
      refine zp_ifn e (zx_clear h' (fun z2 hJ2 hOV2 ho2 hv2 => go z2 (hJ.tr hJ2) (hOV.tr hOV2) (fun c hc => ?_) (fun p hp' => ?_)))
      · rw [ho2 c hc]
        by_cases ec : z.2 6 c = nI j
        · rw [if_pos ((cur c hc).mpr ec)]
          exact ⟨fun _ => rfl, fun hx => absurd ⟨j, by omega, e, ec⟩ hx⟩
        · rw [if_neg (fun hy => ec ((cur c hc).mp hy))]
          refine ⟨fun ⟨k, k1', k2, k3⟩ => (ho c hc).1 ⟨k, ?_, k2, k3⟩, fun hx => (ho c hc).2 (fun ⟨k, k1', r⟩ => hx ⟨k, by omega, r⟩)⟩
          have : k ≠ j := fun e' => ec (by rw [← e']; exact k3)
          omega
      · have hcv := hv2 p hp'
        by_cases hx : ∃ c, c < 2 * (W * H) ∧ c % (W * H) = p ∧ z'.2 6 c = nI j
        · rw [hcv.1 hx]
          obtain ⟨c, hc, ec1, ec2⟩ := hx
          exact ⟨fun _ => rfl, fun hy => absurd ⟨j, c, by omega, e, hc, ec1, (cur c hc).mp ec2⟩ hy⟩
        · rw [hcv.2 hx]
          refine ⟨fun ⟨k, c, k1', k2, k3, k4, k5⟩ => (hv p hp').1 ⟨k, c, ?_, k2, k3, k4, k5⟩, fun hy => (hv p hp').2 (fun ⟨k, c, k1', r⟩ => hy ⟨k, c, by omega, r⟩)⟩
          have : k ≠ j := fun e' => hx ⟨c, k3, k4, (cur c k3).mpr (by rw [← e']; exact k5)⟩
          omega
end ZAE
