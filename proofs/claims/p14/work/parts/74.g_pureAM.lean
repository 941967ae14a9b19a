/-! the order in which the nets stand -/
/-- before: by span, then by number -/
def zf_lt (sp : Nat → Nat) (a b : Nat) : Prop := sp a < sp b ∨ (sp a = sp b ∧ a < b)
def zf_od (sp : Nat → Nat) (n : Nat) (lf : Nat → Int32) : Prop := (∀ i, i < n → ∃ m, m < n ∧ lf i = nI m) ∧ ∀ i j a b, i < j → j < n → a < n → b < n → lf i = nI a → lf j = nI b → zf_lt sp a b
theorem zb_onto {n : Nat} {g : Nat → Nat} (h1 : ∀ i, i < n → g i < n) (h2 : ∀ i j, i < n → j < n → g i = g j → i = j) {a : Nat} (ha : a < n) : ∃ i, i < n ∧ g i = a := Classical.byContradiction (fun hx => by
  have := zb_pg n (n + 1) (fun i => if i = n then a else g i) (fun i hi => by
    show (if i = n then a else g i) < n
    split
    · exact ha
    · exact h1 i (by omega)) (fun i j hi hj e => by
    have e' : (if i = n then a else g i) = (if j = n then a else g j) := e
    split at e'
    · split at e'
      · omega
      · exact absurd ⟨j, by omega, e'.symm⟩ hx
    · split at e'
      · exact absurd ⟨i, by omega, e'⟩ hx
      · exact h2 i j (by omega) (by omega) e')
  omega)
theorem zf_od_on {sp : Nat → Nat} {n : Nat} (hn : n ≤ 6) {lf : Nat → Int32} (h : zf_od sp n lf) {a : Nat} (ha : a < n) : ∃ i, i < n ∧ lf i = nI a := by
  obtain ⟨i, hi, e⟩ := zb_onto (n := n) (g := fun i => (lf i).toNatClampNeg) (fun i hi => by
    obtain ⟨m, hm, e⟩ := h.1 i hi
    show (lf i).toNatClampNeg < n
    rw [e, nI_clamp (by omega)]
    exact hm) (fun i j hi hj e => by
    have e' : (lf i).toNatClampNeg = (lf j).toNatClampNeg := e
    obtain ⟨m, hm, em⟩ := h.1 i hi
    obtain ⟨m', hm', em'⟩ := h.1 j hj
    rw [em, em', nI_clamp (by omega), nI_clamp (by omega)] at e'
    subst e'
    rcases Nat.lt_trichotomy i j with hx | hx | hx
    · rcases h.2 i j m m hx hj hm hm em em' with hy | hy
      · omega
      · omega
    · exact hx
    · rcases h.2 j i m m hx hi hm hm em' em with hy | hy
      · omega
      · omega) ha
  obtain ⟨m, hm, em⟩ := h.1 i hi
  have e' : (lf i).toNatClampNeg = a := e
  rw [em, nI_clamp (by omega)] at e'
  exact ⟨i, hi, by rw [em, e']⟩
theorem zf_od_uq {sp : Nat → Nat} {n : Nat} (hn : n ≤ 6) {lf lf' : Nat → Int32} (h : zf_od sp n lf) (h' : zf_od sp n lf') : ∀ i, i < n → lf i = lf' i := by
  intro i
  induction i using Nat.strongRecOn with
  | ind i ih =>
    intro hi
    obtain ⟨a, ha, ea⟩ := h.1 i hi
    obtain ⟨b, hb, eb⟩ := h'.1 i hi
    by_cases e : a = b
    · rw [ea, eb, e]
    · obtain ⟨k, hk, ek⟩ := zf_od_on hn h' ha
      obtain ⟨k', hk', ek'⟩ := zf_od_on hn h hb
      have k1 : i < k := by
        rcases Nat.lt_trichotomy i k with hx | hx | hx
        · exact hx
        · subst hx
          exact absurd ((nI_eq (by omega) (by omega)).mp (ek.symm.trans eb)) e
        · have e2 := ih k hx hk
          rw [ek] at e2
          rcases h.2 k i a a hx hi ha ha e2 ea with hy | hy
          · omega
          · omega
      have k2 : i < k' := by
        rcases Nat.lt_trichotomy i k' with hx | hx | hx
        · exact hx
        · subst hx
          exact absurd ((nI_eq (by omega) (by omega)).mp (ek'.symm.trans ea)).symm e
        · have e2 := ih k' hx hk'
          rw [ek'] at e2
          rcases h'.2 k' i b b hx hi hb hb e2.symm eb with hy | hy
          · omega
          · omega
      have l1 := h'.2 i k b a k1 hk hb ha eb ek
      have l2 := h.2 i k' a b k2 hk' ha hb ea ek'
      unfold zf_lt at l1 l2
      omega
/-- a span -/
def zb_ad (a b : Nat) : Nat := if a < b then b - a else a - b
def zb_sp (W H s e : Nat) : Nat := zb_ad (s / (W * H)) (e / (W * H)) + zb_ad (s % W) (e % W) + zb_ad (s / W % H) (e / W % H)
theorem zb_abs : ∀ a b : Fin 9, (if (0 : Int32) ≤ nI a.val - nI b.val then nI a.val - nI b.val else 0 - (nI a.val - nI b.val)) = nI (zb_ad a.val b.val) := by decide +kernel
section ZAM
variable {W H n : Nat} {ln : Nat → Nat} {z z0 g : zS}
theorem zb_xy (hd : 2 ≤ W ∧ W ≤ 9 ∧ 2 ≤ H ∧ H ≤ 9 ∧ W * H ≤ 81) {c : Nat} (hc : c < 2 * (W * H)) : c / (W * H) < 9 ∧ c % W < 9 ∧ c / W % H < 9 := by
  obtain ⟨l, y, x, hl, hy, hx, _, e1, e2, e3⟩ := zg_dec (W := W) (H := H) (by omega) (by omega) hc
  omega
theorem zx_span (h : zI W H n ln z0) (e1 : z.1 = z0.1) (e2 : ∀ k, k ≠ 17 → z.2 k = z0.2 k) {m s e : Nat} (hm : m < n) (hs : s < 2 * (W * H)) (he : e < 2 * (W * H)) (es : z0.2 3 m = nI s) (ee : z0.2 4 m = nI e) {post : Int32 → zS → Prop} (hp : post (nI (zb_sp W H s e)) z) : zw_Nets_span ln (nI m) z post := by
  have h6 := h.n6
  have hd := h.d
  have cm : (nI m).toNatClampNeg = m := nI_clamp (by omega)
  have k1 : z.2 3 (nI m).toNatClampNeg = nI s := by rw [e2 3 (by omega), cm, es]
  have k2 : z.2 4 (nI m).toNatClampNeg = nI e := by rw [e2 4 (by omega), cm, ee]
  have ly : ∀ c (po : Int32 → zS → Prop), c < 2 * (W * H) → po (nI (c / (W * H))) z → zw_Grid_layerOf ln (nI c) z po := fun c po hc hpo => by
    have a2 : z.1 2 = nI (W * H) := by rw [e1]; exact h.s2
    have hpos : 0 < W * H := Nat.mul_pos (by omega) (by omega)
    unfold zw_Grid_layerOf
    rw [a2]
    by_cases hl : W * H ≤ c
    · refine zp_if (nI_le hl (by omega)) ?_
      have : c / (W * H) = 1 := by
        rw [Nat.div_eq_sub_div hpos hl, Nat.div_eq_of_lt (by omega)]
      rw [this] at hpo
      exact hpo
    · refine zp_ifn (nI_ge (by omega) (by omega)) ?_
      rw [Nat.div_eq_of_lt (by omega)] at hpo
      exact hpo
  refine ⟨h.i6 (by omega) (by omega), h.i6 (by omega) (by omega), ?_⟩
  rw [k1, k2]
  refine ly s _ hs (ly e _ he ⟨h.ic (k := 0) (by omega) (by omega) hs, h.ic (k := 0) (by omega) (by omega) he, h.ic (k := 1) (by omega) (by omega) hs, h.ic (k := 1) (by omega) (by omega) he, ?_⟩)
  have ts := h.t s hs
  have te := h.t e he
  have xs := zb_xy hd hs
  have xe := zb_xy hd he
  rw [e2 0 (by omega), e2 1 (by omega), h.ci hs, h.ci he, ts.1, te.1, ts.2.1, te.2.1]
  rw [zb_abs ⟨s / (W * H), xs.1⟩ ⟨e / (W * H), xe.1⟩, zb_abs ⟨s % W, xs.2.1⟩ ⟨e % W, xe.2.1⟩, zb_abs ⟨s / W % H, xs.2.2⟩ ⟨e / W % H, xe.2.2⟩, nI_add, nI_add]
  exact hp
theorem zd_spreadx (h : zM W H n g) {m s e : Nat} (hm : m < n) (hs : s < 2 * (W * H)) (he : e < 2 * (W * H)) (es : g.2 8 m = nI s) (ee : g.2 9 m = nI e) {post : Int32 → zS → Prop} (hp : post (nI (zb_sp W H s e)) g) : zw_Mo_spread (nI m) g post := by
  have hd := h.d
  have h6 := h.n6
  have cm : (nI m).toNatClampNeg = m := nI_clamp (by omega)
  have n0 : ¬ g.1 0 = 0 := by rw [h.w0]; exact nI_ne0 (by omega) (by omega)
  have n1 : ¬ g.1 1 = 0 := by rw [h.w1]; exact nI_ne0 (by omega) (by omega)
  have n2 : ¬ g.1 0 * g.1 1 = 0 := by rw [h.w0, h.w1, nI_mul]; exact nI_ne0 (Nat.mul_pos (by omega) (by omega)) (by omega)
  have ap : ∀ a b (po : Int32 → zS → Prop), a < 9 → b < 9 → po (nI (zb_ad a b)) g → zw_Mo_apart (nI a) (nI b) g po := fun a b po ha hb hpo => by
    unfold zb_ad at hpo
    by_cases hl : b ≤ a
    · refine zp_if (nI_le hl (by omega)) ?_
      rw [nI_sub hl]
      rw [if_neg (by omega)] at hpo
      exact hpo
    · refine zp_ifn (nI_ge (by omega) (by omega)) ?_
      rw [nI_sub (by omega)]
      rw [if_pos (by omega)] at hpo
      exact hpo
  have xs := zb_xy hd hs
  have xe := zb_xy hd he
  have dv : ∀ c, c < 2 * (W * H) → nI c / (g.1 0 * g.1 1) = nI (c / (W * H)) := fun c hc => by rw [h.w0, h.w1, nI_mul, nI_div (by omega) (by omega)]
  have mx : ∀ c, c < 2 * (W * H) → nI c - nI c / g.1 0 * g.1 0 = nI (c % W) := fun c hc => by rw [h.w0, nI_mod (by omega) (by omega)]
  have my : ∀ c, c < 2 * (W * H) → nI c / g.1 0 - nI c / g.1 0 / g.1 1 * g.1 1 = nI (c / W % H) := fun c hc => by
    rw [h.w0, h.w1, nI_div (by omega) (by omega), nI_mod (Nat.lt_of_le_of_lt (Nat.div_le_self c W) (by omega)) (by omega)]
  refine ⟨h.i6 hm, h.i6 hm, n2, n2, ?_⟩
  rw [cm, es, ee, dv s hs, dv e he]
  refine ap _ _ _ xs.1 xe.1 ⟨n0, n0, ?_⟩
  rw [mx s hs, mx e he]
  refine ap _ _ _ xs.2.1 xe.2.1 ⟨n0, n1, n0, n1, ?_⟩
  rw [my s hs, my e he]
  refine ap _ _ _ xs.2.2 xe.2.2 ?_
  rw [nI_add, nI_add]
  exact hp
/-- the spans of a state's nets -/
def zt_sp (W H : Nat) (fs fe : Nat → Int32) (m : Nat) : Nat := zb_sp W H (fs m).toNatClampNeg (fe m).toNatClampNeg
theorem zb_ad_lt {a b N : Nat} (ha : a < N) (hb : b < N) : zb_ad a b < N := by
  unfold zb_ad
  split <;> omega
theorem zb_sp_le (hd : 2 ≤ W ∧ W ≤ 9 ∧ 2 ≤ H ∧ H ≤ 9 ∧ W * H ≤ 81) {s e : Nat} (hs : s < 2 * (W * H)) (he : e < 2 * (W * H)) : zb_sp W H s e < 100 := by
  have xs := zb_xy hd hs
  have xe := zb_xy hd he
  have h1 := zb_ad_lt xs.1 xe.1
  have h2 := zb_ad_lt xs.2.1 xe.2.1
  have h3 := zb_ad_lt xs.2.2 xe.2.2
  unfold zb_sp
  omega
/-- the system's sort, from the nets by number -/
theorem zx_sort (h : zI W H n ln z) (e11 : z.1 11 = nI n) (h17 : ∀ k, k < n → z.2 17 k = nI k) {post : zS → Prop} (hp : ∀ z', zJ W H n ln z z' → z'.1 = z.1 → (∀ k, k ≠ 17 → z'.2 k = z.2 k) → zf_od (zt_sp W H (z.2 3) (z.2 4)) n (z'.2 17) → post z') : zw_Line_sortBySpan_5 ln z post := by
  have h6 := h.n6
  have hd := h.d
  -- a span's word
  have spw : ∀ m z2 (po : Int32 → zS → Prop), m < n → z2.1 = z.1 → (∀ k, k ≠ 17 → z2.2 k = z.2 k) → po (nI (zt_sp W H (z.2 3) (z.2 4) m)) z2 → zw_Nets_span ln (nI m) z2 po := fun m z2 po hm e1 e2 hpo => by
    obtain ⟨s, hs, es⟩ := h.pin (k := 3) (m := m) (by omega) (by omega)
    obtain ⟨e, he, ee⟩ := h.pin (k := 4) (m := m) (by omega) (by omega)
    rw [nI_clamp (by omega)] at es ee
    unfold zt_sp at hpo
    rw [es, ee, h.ci hs, h.ci he] at hpo
    exact zx_span h e1 e2 hm hs he es ee hpo
  have sp100 : ∀ m, m < n → zt_sp W H (z.2 3) (z.2 4) m < 100 := fun m hm => by
    obtain ⟨s, hs, es⟩ := h.pin (k := 3) (m := m) (by omega) (by omega)
    obtain ⟨e, he, ee⟩ := h.pin (k := 4) (m := m) (by omega) (by omega)
    rw [nI_clamp (by omega)] at es ee
    unfold zt_sp
    rw [es, ee, h.ci hs, h.ci he]
    exact zb_sp_le hd hs he
  generalize zt_sp W H (z.2 3) (z.2 4) = sp at hp spw sp100
  refine zq_Lp_I (I := fun q => ∃ c z', 1 ≤ c ∧ (c ≤ n ∨ (n = 0 ∧ c = 1)) ∧ zJ W H n ln z z' ∧ z'.1 = z.1 ∧ (∀ k, k ≠ 17 → z'.2 k = z.2 k) ∧ (c ≤ n → zf_od sp c (z'.2 17) ∧ ∀ k, c ≤ k → k < n → z'.2 17 k = nI k) ∧ q = (nI c, z')) (μ := fun q => 8 - q.1.toNatClampNeg) ?_ ⟨1, z, Nat.le_refl _, by omega, zJ.rf h, rfl, fun _ _ => rfl, fun h1 => ⟨⟨fun i hi => ⟨0, by omega, by rw [show i = 0 by omega]; exact h17 0 (by omega)⟩, fun i j a b hij hj => absurd hij (by omega)⟩, fun k h1 h2 => h17 k h2⟩, rfl⟩
  rintro k q ⟨c, z', hc1, hcn, hJ, hN, hR, hO, rfl⟩ hk
  have es' : z'.1 11 = nI n := by rw [hN]; exact e11
  by_cases hl : n ≤ c
  · refine zp_if (by rw [es']; exact nI_le hl (by omega)) (hp z' hJ hN hR ?_)
    rcases hcn with hcn | ⟨hn0, _⟩
    · have : c = n := by omega
      subst this
      exact (hO (Nat.le_refl _)).1
    · subst hn0
      exact ⟨fun i hi => absurd hi (Nat.not_lt_zero _), fun i j a b _ hj => absurd hj (Nat.not_lt_zero _)⟩
  have hcn' : c < n := by omega
  obtain ⟨hod, hid⟩ := hO (by omega)
  refine zp_ifn (by rw [es']; exact nI_ge hcn' (by omega)) ⟨h.i6 (by omega) (by omega), ?_⟩
  rw [nI_clamp (by omega), hid c (Nat.le_refl _) hcn']
  refine zq_Lp_I (I := fun q => ∃ a z2, a ≤ c ∧ z2.1 = z.1 ∧ (∀ k, k ≠ 17 → z2.2 k = z.2 k) ∧ (∀ k, k < a → z2.2 17 k = z'.2 17 k) ∧ (∀ k, a < k → k ≤ c → z2.2 17 k = z'.2 17 (k - 1)) ∧ (∀ k, c < k → k < n → z2.2 17 k = nI k) ∧ (∀ k x, a ≤ k → k < c → x < c → z'.2 17 k = nI x → sp c < sp x) ∧ zb_L n (nI n) (upd (z2.2 17) a (nI c)) ∧ q = (nI c, nI c, nI a, z2)) (μ := fun q => q.2.2.1.toNatClampNeg) ?_ ⟨c, z', Nat.le_refl _, hN, hR, fun _ _ => rfl, fun k h1 h2 => absurd h1 (by omega), fun k h1 h2 => hid k (by omega) h2, fun k x h1 h2 => absurd h1 (by omega), ?_, rfl⟩
  · rintro k2 q2 ⟨a, z2, hac, e1, e2, f1, f2, f3, f4, hL, rfl⟩ hk2
    -- the hole is filled
    have fin : (∀ x, 0 < a → x < c → z'.2 17 (a - 1) = nI x → sp x ≤ sp c) → zw_Line_sortBySpan_5_68 ln post k (nI c) (nI c) (nI a) z2 := fun hst => by
      have r17 : (zs_a z2 17 (nI a) (nI c)).2 17 = upd (z2.2 17) a (nI c) := by rw [zs_a2, if_pos rfl, nI_clamp (by omega)]
      have gv : ∀ k, k < c + 1 → (k < a ∧ upd (z2.2 17) a (nI c) k = z'.2 17 k) ∨ (k = a ∧ upd (z2.2 17) a (nI c) k = nI c) ∨ (a < k ∧ upd (z2.2 17) a (nI c) k = z'.2 17 (k - 1)) := fun k hk => by
        rcases Nat.lt_trichotomy k a with hx | hx | hx
        · exact Or.inl ⟨hx, by rw [pk_un (by omega)]; exact f1 k hx⟩
        · exact Or.inr (Or.inl ⟨hx, by rw [hx, pk_us]⟩)
        · exact Or.inr (Or.inr ⟨hx, by rw [pk_un (by omega)]; exact f2 k hx (by omega)⟩)
      have mem : ∀ k x, k < c → x < 2 ^ 31 → z'.2 17 k = nI x → x < c := fun k x hk hx e => by
        obtain ⟨m, hm, em⟩ := hod.1 k hk
        have : x = m := (nI_eq hx (by omega)).mp (e.symm.trans em)
        omega
      refine ⟨h.i6 (by omega) (by omega), hk _ ⟨c + 1, zs_a z2 17 (nI a) (nI c), by omega, Or.inl hcn', hJ.line (fun k _ => by rw [show (zs_a z2 17 (nI a) (nI c)).1 = z2.1 from rfl, e1, hN]) (fun k hk' => by rw [zs_an hk', e2 k hk', hR k hk']) ?_, e1, fun k hk' => by rw [zs_an hk']; exact e2 k hk', fun _ => ⟨⟨fun i hi => ?_, fun i j x y hij hj hx hy ei ej => ?_⟩, fun k h1 h2 => ?_⟩, by rw [nI_1]⟩ (zm_lt (N := 8) (by omega) (by omega))⟩
      · rw [show (zs_a z2 17 (nI a) (nI c)).1 = z2.1 from rfl, e1, e11, r17]
        exact hL
      · rw [r17]
        rcases gv i hi with ⟨j1, j2⟩ | ⟨j1, j2⟩ | ⟨j1, j2⟩
        · rw [j2]
          obtain ⟨m, hm, em⟩ := hod.1 i (by omega)
          exact ⟨m, by omega, em⟩
        · exact ⟨c, by omega, j2⟩
        · rw [j2]
          obtain ⟨m, hm, em⟩ := hod.1 (i - 1) (by omega)
          exact ⟨m, by omega, em⟩
      · rw [r17] at ei ej
        rcases gv i (by omega) with ⟨j1, j2⟩ | ⟨j1, j2⟩ | ⟨j1, j2⟩
        · rw [j2] at ei
          have hxc := mem i x (by omega) (by omega) ei
          rcases gv j hj with ⟨k1, k3⟩ | ⟨k1, k3⟩ | ⟨k1, k3⟩
          · rw [k3] at ej
            exact hod.2 i j x y hij (by omega) hxc (mem j y (by omega) (by omega) ej) ei ej
          · rw [k3] at ej
            have hyc : c = y := (nI_eq (by omega) (by omega)).mp ej
            subst hyc
            obtain ⟨m, hm, em⟩ := hod.1 (a - 1) (by omega)
            have hm2 := hst m (by omega) hm em
            have hxm : sp x ≤ sp m := by
              by_cases e : i = a - 1
              · rw [e, em] at ei
                rw [(nI_eq (by omega) (by omega)).mp ei]
                exact Nat.le_refl _
              · rcases hod.2 i (a - 1) x m (by omega) (by omega) hxc hm ei em with hh | hh
                · omega
                · omega
            unfold zf_lt
            omega
          · rw [k3] at ej
            exact hod.2 i (j - 1) x y (by omega) (by omega) hxc (mem (j - 1) y (by omega) (by omega) ej) ei ej
        · rw [j2] at ei
          have hxc : c = x := (nI_eq (by omega) (by omega)).mp ei
          subst hxc
          rcases gv j hj with ⟨k1, k3⟩ | ⟨k1, k3⟩ | ⟨k1, k3⟩
          · omega
          · omega
          · rw [k3] at ej
            exact Or.inl (f4 (j - 1) y (by omega) (by omega) (mem (j - 1) y (by omega) (by omega) ej) ej)
        · rw [j2] at ei
          have hxc := mem (i - 1) x (by omega) (by omega) ei
          rcases gv j hj with ⟨k1, k3⟩ | ⟨k1, k3⟩ | ⟨k1, k3⟩
          · omega
          · omega
          · rw [k3] at ej
            exact hod.2 (i - 1) (j - 1) x y (by omega) (by omega) hxc (mem (j - 1) y (by omega) (by omega) ej) ei ej
      · rw [r17, pk_un (by omega)]
        exact f3 k (by omega) h2
    by_cases ha : a = 0
    · subst ha
      exact zp_if (by decide) (fin (fun x hx => absurd hx (Nat.lt_irrefl _)))
    have ea : nI a - (1 : Int32) = nI (a - 1) := nI_sub (b := 1) (by omega)
    obtain ⟨x, hx, exx⟩ := hod.1 (a - 1) (by omega)
    have ex2 : z2.2 17 (a - 1) = nI x := by rw [f1 (a - 1) (by omega)]; exact exx
    refine zp_ifn (nI_nle (by omega) (by omega)) ?_
    rw [ea, nI_clamp (by omega), ex2]
    refine ⟨h.i6 (by omega) (by omega), spw x z2 _ (by omega) e1 e2 (spw c z2 _ hcn' e1 e2 ?_)⟩
    have s1 := sp100 x (by omega)
    have s2 := sp100 c hcn'
    by_cases hle : sp x ≤ sp c
    · refine zp_if (nI_le hle (by omega)) (fin (fun y _ hy ey => ?_))
      have : x = y := (nI_eq (by omega) (by omega)).mp (exx.symm.trans ey)
      rw [← this]
      exact hle
    · refine zp_ifn (nI_ge (by omega) (by omega)) ⟨h.i6 (by omega) (by omega), h.i6 (by omega) (by omega), ?_⟩
      have ea2 : nI a + (-1 : Int32) = nI (a - 1) := by rw [← ea]; exact (Int32.sub_eq_add_neg (nI a) 1).symm
      rw [ea2]
      have r17 : ∀ v, (zs_a z2 17 (nI a) v).2 17 = upd (z2.2 17) a v := fun v => by rw [zs_a2, if_pos rfl, nI_clamp (by omega)]
      refine hk2 _ ⟨a - 1, zs_a z2 17 (nI a) (z2.2 17 (a - 1)), by omega, e1, fun k hk' => by rw [zs_an hk']; exact e2 k hk', fun k hk' => by rw [r17, pk_un (by omega)]; exact f1 k (by omega), fun k h1 h2 => ?_, fun k h1 h2 => by rw [r17, pk_un (by omega)]; exact f3 k h1 h2, fun k y h1 h2 hy ey => ?_, ?_, by rw [ex2]⟩ ?_
      · rw [r17]
        by_cases e : k = a
        · rw [e, pk_us]
          exact f1 (a - 1) (by omega)
        · rw [pk_un e]
          exact f2 k (by omega) h2
      · by_cases e : k = a - 1
        · rw [e, exx] at ey
          have : x = y := (nI_eq (by omega) (by omega)).mp ey
          rw [← this]
          omega
        · exact f4 k y (by omega) h2 hy ey
      · rw [r17]
        exact zb_L_sw (s := n) (by omega) (by omega) (by omega) rfl hL
      · show (nI (a - 1)).toNatClampNeg < (nI a).toNatClampNeg
        rw [nI_clamp (by omega), nI_clamp (by omega)]
        omega
  · have := hJ.1.ll
    rw [es'] at this
    have eu : upd (z'.2 17) c (nI c) = z'.2 17 := by
      funext j
      by_cases e : j = c
      · rw [e, pk_us, hid c (Nat.le_refl _) hcn']
      · rw [pk_un e]
    rw [eu]
    exact this
end ZAM
