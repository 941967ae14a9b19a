/-! the reference's find: what stays clean, what stays joined, what becomes joined -/
/-- every pin is its net's cell -/
def zr_K (W H n : Nat) (g : zS) : Prop := ∀ c k, c < 2 * (W * H) → k < n → g.2 1 c = nI k → g.2 2 c = nI k
/-- joined, as closed sets say it -/
def zr_J (W H : Nat) (g : zS) (m : Nat) : Prop :=
  ∀ S : Nat → Prop, S (g.2 8 m).toNatClampNeg → (∀ i j d, i < 2 * (W * H) → j < 2 * (W * H) → d < 5 → S j → g.2 2 j = nI m → g.2 2 i = nI m → zg_B W H i d = nI j → (d = 4 → ¬ g.2 3 (i % (W * H)) = 0) → S i) → S (g.2 9 m).toNatClampNeg
/-- what neither find nor isJoined changes -/
def zr_Y (g g' : zS) : Prop := g'.1 4 = g.1 4 ∧ g'.1 6 = g.1 6 ∧ g'.2 10 = g.2 10
theorem zr_Y.tr {a b c : zS} (h : zr_Y a b) (h' : zr_Y b c) : zr_Y a c := ⟨h'.1.trans h.1, h'.2.1.trans h.2.1, h'.2.2.trans h.2.2⟩
theorem zr_C.y {W H m : Nat} {g g' : zS} (h : zr_C W H g g' m) : zr_Y g g' := ⟨congrFun h.1 4, congrFun h.1 6, h.2.1 10 (by omega) (by omega)⟩
/-- the two cells of a place -/
theorem zb_pl {W H c i j : Nat} (hi : i < 2 * (W * H)) (hc : c < 2 * (W * H)) (hj : j < 2 * (W * H)) (hW : W * H ≤ 81) (e : zg_B W H i 4 = nI j) (ep : c % (W * H) = i % (W * H)) : c = i ∨ c = j := by
  have ej : j = if i < W * H then i + W * H else i - W * H := by
    unfold zg_B at e
    rw [if_neg (by omega), if_neg (by omega), if_neg (by omega), if_neg (by omega)] at e
    split at e
    · rw [if_pos (by assumption)]
      exact ((nI_eq (by omega) (by omega)).mp e).symm
    · rw [if_neg (by assumption)]
      exact ((nI_eq (by omega) (by omega)).mp e).symm
  have m1 : ∀ x, x < 2 * (W * H) → x % (W * H) = if x < W * H then x else x - W * H := fun x hx => by
    split
    · exact Nat.mod_eq_of_lt (by assumption)
    · rw [Nat.mod_eq_sub_mod (by omega), Nat.mod_eq_of_lt (by omega)]
  rw [m1 c hc, m1 i hi] at ep
  split at ej <;> split at ep <;> omega
section ZQ
variable {W H n : Nat} {g g' : zS}
theorem zr_C.k (hM : zM W H n g) {m : Nat} (hm : m < n) (h : zr_C W H g g' m) (hK : zr_K W H n g) : zr_K W H n g' := by
  have h6 := hM.n6
  have hC := hM.C
  intro c k hc hk e
  rw [h.2.1 1 (by omega) (by omega)] at e
  have e2 := hK c k hc hk e
  obtain ⟨c1, c2, hc1, hc2, e8, e9, p1, p2⟩ := hM.ends hm
  rw [h.2.2.1 c hc, e8, e9]
  by_cases h1 : nI c = nI c1 ∨ nI c = nI c2
  · rw [if_pos h1]
    rcases h1 with h1 | h1
    · rw [(nI_eq (by omega) (by omega)).mp h1, p1] at e
      exact e
    · rw [(nI_eq (by omega) (by omega)).mp h1, p2] at e
      exact e
  · rw [if_neg h1]
    by_cases h2 : g.2 2 c = nI m
    · have ekm : k = m := (nI_eq (by omega) (by omega)).mp (e2.symm.trans h2)
      subst ekm
      rcases hM.conv hc hk e with hx | hx
      · rw [e8] at hx
        exact absurd (Or.inl hx.symm) h1
      · rw [e9] at hx
        exact absurd (Or.inr hx.symm) h1
    · rw [if_neg h2]
      exact e2
theorem zr_C.j (hM : zM W H n g) {m m' : Nat} (hm : m < n) (hm' : m' < n) (hne : m' ≠ m) (h : zr_C W H g g' m) (hK : zr_K W H n g) (hJ : zr_J W H g m') : zr_J W H g' m' := by
  have h6 := hM.n6
  have hC := hM.C
  have hd := hM.d
  have nm : ¬ nI m' = nI m := fun e => hne ((nI_eq (by omega) (by omega)).mp e)
  obtain ⟨c1, c2, hc1, hc2, e8, e9, p1, p2⟩ := hM.ends hm
  have ow : ∀ c, c < 2 * (W * H) → g.2 2 c = nI m' → g'.2 2 c = nI m' := fun c hc e => by
    rw [h.2.2.1 c hc, e8, e9]
    rw [if_neg, if_neg (by rw [e]; exact nm)]
    · exact e
    · rintro (hx | hx)
      · have := hK c1 m hc1 hm p1
        rw [← (nI_eq (by omega) (by omega)).mp hx, e] at this
        exact nm this
      · have := hK c2 m hc2 hm p2
        rw [← (nI_eq (by omega) (by omega)).mp hx, e] at this
        exact nm this
  intro S hS hcl
  rw [h.2.1 9 (by omega) (by omega)]
  rw [h.2.1 8 (by omega) (by omega)] at hS
  refine hJ S hS (fun i j d hi hj hd5 hSj oj oi eB hv => hcl i j d hi hj hd5 hSj (ow j hj oj) (ow i hi oi) eB (fun e4 => ?_))
  have hpl : i % (W * H) < W * H := Nat.mod_lt _ (Nat.mul_pos (by omega) (by omega))
  rw [(h.2.2.2 _ hpl).2]
  · exact hv e4
  · rintro ⟨c, hc, ecp, ecm⟩
    rw [e4] at eB
    rcases zb_pl hi hc hj hd.2.2.2.2 eB ecp with hx | hx
    · rw [hx, oi] at ecm
      exact nm ecm
    · rw [hx, oj] at ecm
      exact nm ecm
theorem zd_leave (h : zM W H n g) {a : Int32} (ha : a = -1 ∨ zb_n n a) {m : Int32} {post : zS → Prop} (hp : ∀ g', zO W H n g g' → zr_Y g g' → (∀ k, k = 4 ∨ k = 6 ∨ k = 7 → g'.2 k = g.2 k) → (zr_K W H n g → zr_K W H n g') → post g') : zw_Mo_leave a m g post := by
  refine zd_other (fun k1 k2 => zp_fin (by decide) ?_) (fun _ => zp_fi rfl (hp _ (zO.rf h) ⟨rfl, rfl, rfl⟩ (fun _ _ => rfl) id))
  obtain ⟨o, ho, rfl⟩ := ha.resolve_left k1
  refine zd_clear h ho (fun g1 hO hCl => hp _ (hO.num (by omega)) ⟨?_, ?_, hCl.y.2.2⟩ (fun k hk => hCl.2.1 k (by omega) (by omega)) (fun hK => (hCl.k h ho hK : zr_K W H n g1)))
  · rw [zs_sn (by omega)]
    exact hCl.y.1
  · rw [zs_sn (by omega)]
    exact hCl.y.2.1
theorem zd_pushOut (h : zM W H n g) {c : Nat} (hc : c < 2 * (W * H)) {m : Int32} {post : zS → Prop} (hp : ∀ g', zO W H n g g' → zr_Y g g' → (∀ k, k = 4 ∨ k = 6 ∨ k = 7 → g'.2 k = g.2 k) → (zr_K W H n g → zr_K W H n g') → post g') : zw_Mo_pushOut (nI c) m g post := by
  have hC := h.C
  refine ⟨h.ic hc, ?_⟩
  rw [h.ci hc]
  refine zd_leave h (h.own hc) (fun g1 hO1 hY1 hR1 hK1 => ?_)
  refine zq_Lp_I (I := fun q => ∃ d g2, d ≤ 4 ∧ zO W H n g g2 ∧ zr_Y g g2 ∧ (∀ k, k = 4 ∨ k = 6 ∨ k = 7 → g2.2 k = g.2 k) ∧ (zr_K W H n g → zr_K W H n g2) ∧ q = (nI c, m, nI d, g2)) (μ := fun q => 4 - q.2.2.1.toNatClampNeg) ?_ ⟨0, g1, Nat.zero_le _, hO1, hY1, hR1, hK1, rfl⟩
  rintro k q ⟨d, g2, hd, hO2, hY2, hR2, hK2, rfl⟩ hk
  by_cases hl : 4 ≤ d
  · exact zp_if (nI_le (a := 4) hl (by omega)) (hp _ hO2 hY2 hR2 hK2)
  refine zp_ifn (nI_ge (b := 4) (by omega) (by omega)) ?_
  by_cases e3 : g2.1 3 = 0
  · exact zp_if e3 (hp _ hO2 hY2 hR2 hK2)
  refine zp_ifn e3 (zd_sd hO2.1 hc (by omega) (fun _ => zp_if rfl (hk _ ⟨d + 1, g2, by omega, hO2, hY2, hR2, hK2, by rw [nI_1]⟩ (zm_lt (by omega) (by omega)))) (fun c' hc' _ => zp_ifn (zp_n1 (by omega)) ⟨h.ic hc', ?_⟩))
  rw [h.ci hc']
  exact zd_leave hO2.1 (hO2.1.own hc') (fun g3 hO3 hY3 hR3 hK3 => hk _ ⟨d + 1, g3, by omega, hO2.tr hO3, hY2.tr hY3, fun k hk => (hR3 k hk).trans (hR2 k hk), fun hx => hK3 (hK2 hx), by rw [nI_1]⟩ (zm_lt (by omega) (by omega)))
/-- the last loop: the way's cells become the net's -/
theorem zd_put (h : zM W H n g) {m : Nat} (hm : m < n) {l : Nat} (hl : l < 2 * (W * H)) (hw : ∀ k, k ≤ l → zb_c W H (g.2 6 k)) {post : zS → Prop} (hp : ∀ g', zO W H n g g' → g'.1 = g.1 → (∀ k, k ≠ 2 → k ≠ 3 → g'.2 k = g.2 k) → (∀ c, c < 2 * (W * H) → ((∃ k, k ≤ l ∧ g.2 6 k = nI c) → g'.2 2 c = nI m) ∧ ((¬ ∃ k, k ≤ l ∧ g.2 6 k = nI c) → g'.2 2 c = g.2 2 c)) → (∀ p, p < W * H → ((∃ k c, k ≤ l ∧ g.2 6 k = nI c ∧ c < 2 * (W * H) ∧ ¬ g.2 7 k = 0 ∧ c % (W * H) = p) → g'.2 3 p = 1) ∧ ((¬ ∃ k c, k ≤ l ∧ g.2 6 k = nI c ∧ c < 2 * (W * H) ∧ ¬ g.2 7 k = 0 ∧ c % (W * H) = p) → g'.2 3 p = g.2 3 p)) → post g') : zw_Mo_lay_118 post (nI m) (nI l) g := by
  have hC := h.C
  refine zq_Lp_I (I := fun q => ∃ i g2, i ≤ l + 1 ∧ zO W H n g g2 ∧ g2.1 = g.1 ∧ (∀ k, k ≠ 2 → k ≠ 3 → g2.2 k = g.2 k) ∧ (∀ c, c < 2 * (W * H) → ((∃ k, k < i ∧ g.2 6 k = nI c) → g2.2 2 c = nI m) ∧ ((¬ ∃ k, k < i ∧ g.2 6 k = nI c) → g2.2 2 c = g.2 2 c)) ∧ (∀ p, p < W * H → ((∃ k c, k < i ∧ g.2 6 k = nI c ∧ c < 2 * (W * H) ∧ ¬ g.2 7 k = 0 ∧ c % (W * H) = p) → g2.2 3 p = 1) ∧ ((¬ ∃ k c, k < i ∧ g.2 6 k = nI c ∧ c < 2 * (W * H) ∧ ¬ g.2 7 k = 0 ∧ c % (W * H) = p) → g2.2 3 p = g.2 3 p)) ∧ q = (nI m, nI l, nI i, g2)) (μ := fun q => (l + 1) - q.2.2.1.toNatClampNeg) ?_ ⟨0, g, Nat.zero_le _, zO.rf h, rfl, fun _ _ _ => rfl, fun c hc => ⟨fun ⟨k, hk, _⟩ => absurd hk (Nat.not_lt_zero _), fun _ => rfl⟩, fun p hp => ⟨fun ⟨k, _, hk, _⟩ => absurd hk (Nat.not_lt_zero _), fun _ => rfl⟩, rfl⟩
  rintro k q ⟨i, g2, hi, hO, hN1, hR, hW, hV, rfl⟩ hk
  by_cases hli : l < i
  · have ei : i = l + 1 := by omega
    subst ei
    refine zp_if (nI_lt hli (by omega)) (hp _ hO hN1 hR (fun c hc => ⟨fun ⟨k, hk, e⟩ => (hW c hc).1 ⟨k, by omega, e⟩, fun hx => (hW c hc).2 (fun ⟨k, hk, e⟩ => hx ⟨k, by omega, e⟩)⟩) (fun p hp' => ⟨fun ⟨k, c, hk, r⟩ => (hV p hp').1 ⟨k, c, by omega, r⟩, fun hx => (hV p hp').2 (fun ⟨k, c, hk, r⟩ => hx ⟨k, c, by omega, r⟩)⟩))
  have hil : i ≤ l := by omega
  have vi : vp_in (nI i) 162 := h.ic (by omega)
  have ci : (nI i).toNatClampNeg = i := nI_clamp (by omega)
  obtain ⟨c, hc, ec⟩ := hw i hil
  have e6 : g2.2 6 = g.2 6 := hR 6 (by omega) (by omega)
  have e7 : g2.2 7 = g.2 7 := hR 7 (by omega) (by omega)
  have hO1 := hO.own (i := nI c) (v := nI m) (Or.inr ⟨m, hm, rfl⟩)
  have hW1 : ∀ c', c' < 2 * (W * H) → ((∃ k, k < i + 1 ∧ g.2 6 k = nI c') → (zs_a g2 2 (nI c) (nI m)).2 2 c' = nI m) ∧ ((¬ ∃ k, k < i + 1 ∧ g.2 6 k = nI c') → (zs_a g2 2 (nI c) (nI m)).2 2 c' = g.2 2 c') := fun c' hc' => by
    rw [zs_a2, if_pos rfl, h.ci hc]
    by_cases e : c' = c
    · subst e
      rw [pk_us]
      exact ⟨fun _ => rfl, fun hx => absurd ⟨i, by omega, ec⟩ hx⟩
    · rw [pk_un e]
      refine ⟨fun ⟨k, hk, ek⟩ => (hW c' hc').1 ⟨k, ?_, ek⟩, fun hx => (hW c' hc').2 (fun ⟨k, hk, ek⟩ => hx ⟨k, by omega, ek⟩)⟩
      have : k ≠ i := fun e' => e ((nI_eq (by omega) (by omega)).mp (by rw [← ek, e', ec]))
      omega
  refine zp_ifn (nI_nlt hil (by omega)) ?_
  rw [ci, e6, ec]
  have e7' : (zs_a g2 2 (nI c) (nI m)).2 7 = g.2 7 := by rw [zs_an (by omega), e7]
  have e6' : (zs_a g2 2 (nI c) (nI m)).2 6 = g.2 6 := by rw [zs_an (by omega), e6]
  rw [e7', e6', ec]
  refine ⟨vi, h.ic hc, vi, ?_⟩
  by_cases e0 : g.2 7 i = 0
  · refine zp_if e0 (hk _ ⟨i + 1, _, by omega, hO1, hN1, fun k k1 k2 => by rw [zs_an k1]; exact hR k k1 k2, hW1, fun p hp' => ?_, by rw [nI_1]⟩ (zm_lt (by omega) (by omega)))
    rw [zs_an (by omega)]
    refine ⟨fun ⟨k, c', hk, r1, r2, r3, r4⟩ => (hV p hp').1 ⟨k, c', ?_, r1, r2, r3, r4⟩, fun hx => (hV p hp').2 (fun ⟨k, c', hk, r⟩ => hx ⟨k, c', by omega, r⟩)⟩
    have : k ≠ i := fun e' => r3 (by rw [e']; exact e0)
    omega
  · refine zp_ifn e0 ⟨vi, zd_placeOf hO1.1 hc (fun p hp1 ep => ⟨h.i81 hp1, hk _ ⟨i + 1, _, by omega, hO1.put (k := 3) (by omega), hN1, fun k k1 k2 => by rw [zs_an k2, zs_an k1]; exact hR k k1 k2, fun c' hc' => by rw [zs_an (by omega)]; exact hW1 c' hc', fun p' hp' => ?_, by rw [nI_1]⟩ (zm_lt (by omega) (by omega))⟩)⟩
    rw [zs_a2, if_pos rfl, zs_an (by omega), nI_clamp (by have := h.d; omega)]
    by_cases epp : p' = p
    · subst epp
      rw [pk_us]
      exact ⟨fun _ => rfl, fun hx => absurd ⟨i, c, by omega, ec, hc, e0, ep.symm⟩ hx⟩
    · rw [pk_un epp]
      refine ⟨fun ⟨k, c', hk, r1, r2, r3, r4⟩ => (hV p' hp').1 ⟨k, c', ?_, r1, r2, r3, r4⟩, fun hx => (hV p' hp').2 (fun ⟨k, c', hk, r⟩ => hx ⟨k, c', by omega, r⟩)⟩
      have : k ≠ i := fun e' => epp (by
        rw [e', ec] at r1
        rw [← r4, ← (nI_eq (by omega) (by omega)).mp r1]
        exact ep.symm)
      omega
/-- a cell of a way is no other net's pin -/
theorem zr_t_pin {sp : Int32} {fb fp fo : Nat → Int32} {m p : Int32} {c t : Nat} (h : zr_t W H sp fb fp fo m p c t) (ht : t < 1000000) : fp c = m ∨ fp c = -1 := by
  by_cases e : fp c = m
  · exact Or.inl e
  by_cases e1 : fp c = -1
  · exact Or.inr e1
  rcases h with ⟨_, e2⟩ | ⟨hn, _⟩
  · omega
  · exact absurd ⟨e, Or.inr (Or.inl ⟨e1, e⟩)⟩ hn
/-- on a free way every cell is the net's pin, or none of another's -/
theorem zr_t_own {sp : Int32} {fb fp fo : Nat → Int32} {m p : Int32} (hp : p = 0) {c t : Nat} (h : zr_t W H sp fb fp fo m p c t) (ht : t < 1000000) : fp c = m ∨ fo c = -1 ∨ fo c = m := by
  by_cases e : fp c = m
  · exact Or.inl e
  right
  by_cases e1 : fo c = -1
  · exact Or.inl e1
  by_cases e2 : fo c = m
  · exact Or.inr e2
  have hK : zb_K W H sp fo c m := Or.inl ⟨e1, e2⟩
  rcases h with ⟨_, e3⟩ | ⟨_, ⟨b, _⟩ | ⟨_, ⟨x, _⟩ | ⟨_, ⟨y, _⟩ | ⟨_, e3⟩⟩⟩⟩
  · omega
  · exact absurd hK b
  · exact absurd hp x
  · exact absurd y e
  · omega
theorem zr_K.of {g g' : zS} (h : zr_K W H n g) (e1 : g'.2 1 = g.2 1) (e2 : g'.2 2 = g.2 2) : zr_K W H n g' := by
  intro c k hc hk e
  rw [e1] at e
  rw [e2]
  exact h c k hc hk e
theorem zr_J.of {g g' : zS} {m : Nat} (h : zr_J W H g m) (e8 : g'.2 8 = g.2 8) (e9 : g'.2 9 = g.2 9) (e2 : g'.2 2 = g.2 2) (e3 : g'.2 3 = g.2 3) : zr_J W H g' m := by
  unfold zr_J at h ⊢
  rw [e8, e9, e2, e3]
  exact h
theorem zd_find (h : zM W H n g) {m : Nat} (hm : m < n) {p : Int32} {post : Int32 → zS → Prop} (hp : ∀ r g', zO W H n g g' → zr_Y g g' → (zr_K W H n g → zr_K W H n g' ∧ (p = 0 → (∀ m', m' < n → m' ≠ m → zr_J W H g m' → zr_J W H g' m') ∧ (¬ r = -1 → zr_J W H g' m))) → post r g') : zw_Mo_find (nI m) p g post := by
  have hC := h.C
  have h6 := h.n6
  have hd := h.d
  have cm : (nI m).toNatClampNeg = m := nI_clamp (by omega)
  refine zd_clear h hm (fun g1 hO1 hCl => ?_)
  have hM1 := hO1.1
  obtain ⟨s0, e0, hs0, he0, es0, ee0, ps0, pe0⟩ := hM1.ends hm
  obtain ⟨vc, v1, v4, evc⟩ := hM1.vc
  refine zd_weigh hM1 hm hs0 es0 ⟨v1, v4⟩ evc (fun f hP hX => ?_)
  have hO2 : zO W H n g (zs_r g1 4 f) := hO1.r (by omega)
  have hM2 := hO2.1
  have e29 : (zs_r g1 4 f).2 9 = g1.2 9 := zs_rn (by omega)
  have e28 : (zs_r g1 4 f).2 8 = g1.2 8 := zs_rn (by omega)
  have hY2 : zr_Y g (zs_r g1 4 f) := hCl.y.tr ⟨rfl, rfl, by rw [zs_rn (by omega)]⟩
  obtain ⟨a, ha, ea⟩ := hP.1 e0 he0
  have ea' : (f e0).toNatClampNeg = a := by rw [ea, nI_clamp (by omega)]
  -- what the cleared state keeps
  have kp : zr_K W H n g → zr_K W H n (zs_r g1 4 f) := fun hK => (hCl.k h hm hK).of (zs_rn (by omega)) (zs_rn (by omega))
  have jp : zr_K W H n g → ∀ m', m' < n → m' ≠ m → zr_J W H g m' → zr_J W H (zs_r g1 4 f) m' := fun hK m' h1 h2 hJ => (hCl.j h hm h1 h2 hK hJ).of (zs_rn (by omega)) (zs_rn (by omega)) (zs_rn (by omega)) (zs_rn (by omega))
  rw [e29, cm, ee0, zs_re, h.ci he0, ea]
  refine ⟨h.i6 hm, h.ic he0, ?_⟩
  by_cases hal : a < 1000000
  · refine zp_if (nI_lt (b := 1000000) hal (by omega)) ?_
    have r0 : (zs_r g1 4 f).2 0 = g1.2 0 := zs_rn (by omega)
    have r1 : (zs_r g1 4 f).2 1 = g1.2 1 := zs_rn (by omega)
    have r2 : (zs_r g1 4 f).2 2 = g1.2 2 := zs_rn (by omega)
    refine zd_way (vc := vc) hM2 hm hs0 he0 (by rw [e28]; exact es0) (by rw [e29]; exact ee0) ⟨v1, v4⟩ (p := p) (by rw [r0, r1, r2, zs_re]; exact hP) (by rw [r0, r1, r2, zs_re]; exact hX) (by rw [zs_re, ea']; exact hal) (fun fw fc l hl hW hcs hfl => ?_)
    rw [r0, r1, r2] at hW
    have hO3 : zO W H n g (zs_r (zs_r (zs_r g1 4 f) 6 fw) 7 fc) := (hO2.r (by omega)).r (by omega)
    generalize hg3 : zs_r (zs_r (zs_r g1 4 f) 6 fw) 7 fc = g3 at hO3
    have g36 : g3.2 6 = fw := by rw [← hg3, zs_rn (by omega), zs_re]
    have g37 : g3.2 7 = fc := by rw [← hg3, zs_re]
    have g3n : ∀ k, k ≠ 6 → k ≠ 7 → g3.2 k = (zs_r g1 4 f).2 k := fun k k1 k2 => by rw [← hg3, zs_rn k2, zs_rn k1]
    have g31 : g3.1 = (zs_r g1 4 f).1 := by rw [← hg3]; rfl
    have hY3 : zr_Y g g3 := hY2.tr ⟨by rw [g31], by rw [g31], g3n 10 (by omega) (by omega)⟩
    -- the laying of the way, from any state with the same way
    have fin : ∀ g4, zO W H n g g4 → zr_Y g g4 → g4.2 6 = fw → g4.2 7 = fc → (zr_K W H n g → zr_K W H n g4) → (p = 0 → g4 = g3) → zw_Mo_lay_118 (fun z91 => post (nI a) z91) (nI m) (nI l) g4 := by
      intro g4 hO4 hY4 k6 k7 hK4 hp4
      have e41 : g4.2 1 = g1.2 1 := by
        rw [hO4.2.2 1 (by omega), hO1.2.2 1 (by omega)]
      have wayC : ∀ k c, k ≤ l → fw k = nI c → c < 2 * (W * H) → c = s0 ∨ ∃ t, zr_t W H (g1.1 3) (g1.2 0) (g1.2 1) (g1.2 2) (nI m) p c t ∧ t < 1000000 := fun k c hk ek hc => by
        by_cases e : k = l
        · rw [e, hW.1] at ek
          exact Or.inl ((nI_eq (by omega) (by omega)).mp ek).symm
        · obtain ⟨c1, c', d, t, w1, w2, w3, w4, w5, w6, w7, _⟩ := hW.2.2 k (by omega)
          have : c = c1 := (nI_eq (by omega) (by omega)).mp (ek.symm.trans w3)
          subst this
          exact Or.inr ⟨t, w6, w7⟩
      refine zd_put hO4.1 hm hl (by rw [k6]; exact hcs) (fun g5 hO5 h51 hR5 hW5 hV5 => hp _ _ (hO4.tr hO5) (hY4.tr ⟨by rw [h51], by rw [h51], hR5 10 (by omega) (by omega)⟩) (fun hK => ⟨?_, fun ep => ?_⟩))
      · intro c k hc hk e
        rw [hR5 1 (by omega) (by omega)] at e
        have hx := hW5 c hc
        rw [k6] at hx
        by_cases hin : ∃ j, j ≤ l ∧ fw j = nI c
        · rw [hx.1 hin]
          obtain ⟨j, hj, ej⟩ := hin
          rw [e41] at e
          rcases wayC j c hj ej hc with ec | ⟨t, w1, w2⟩
          · rw [ec, ps0] at e
            exact e
          · rcases zr_t_pin w1 w2 with e' | e'
            · rw [← e', e]
            · rw [e'] at e
              exact absurd e.symm (zp_n1 (by omega))
        · rw [hx.2 hin]
          exact hK4 hK c k hc hk e
      · have e43 := hp4 ep
        subst e43
        have hKg := kp hK
        have own4 : ∀ c, g4.2 2 c = g1.2 2 c := fun c => by rw [g3n 2 (by omega) (by omega), r2]
        -- the cells of the way were no other's
        have free : ∀ j c, j ≤ l → fw j = nI c → c < 2 * (W * H) → g1.2 2 c = -1 ∨ g1.2 2 c = nI m := fun j c hj ej hc => by
          have hK1 : zr_K W H n g1 := hCl.k h hm hK
          rcases wayC j c hj ej hc with ec | ⟨t, w1, w2⟩
          · rw [ec]
            exact Or.inr (hK1 s0 m hs0 hm ps0)
          · rcases zr_t_own ep w1 w2 with e' | e'
            · exact Or.inr (hK1 c m hc hm e')
            · exact e'
        refine ⟨fun m' hm' hne hJ => ?_, fun _ => ?_⟩
        · have nm : ¬ nI m' = nI m := fun e => hne ((nI_eq (by omega) (by omega)).mp e)
          have hJ4 := jp hK m' hm' hne hJ
          intro S hS hcl
          rw [hR5 9 (by omega) (by omega), g3n 9 (by omega) (by omega)]
          rw [hR5 8 (by omega) (by omega), g3n 8 (by omega) (by omega)] at hS
          have ow : ∀ c, c < 2 * (W * H) → (zs_r g1 4 f).2 2 c = nI m' → g5.2 2 c = nI m' := fun c hc e => by
            have hx := hW5 c hc
            rw [k6] at hx
            rw [hx.2, own4, ← r2]
            · exact e
            · rintro ⟨j, hj, ej⟩
              rw [r2] at e
              rcases free j c hj ej hc with e' | e'
              · rw [e'] at e
                exact absurd e.symm (zp_n1 (by omega))
              · rw [e'] at e
                exact nm e.symm
          refine hJ4 S hS (fun i j d hi hj hd5 hSj oj oi eB hv => hcl i j d hi hj hd5 hSj (ow j hj oj) (ow i hi oi) eB (fun e4 => ?_))
          have hpl : i % (W * H) < W * H := Nat.mod_lt _ (Nat.mul_pos (by omega) (by omega))
          by_cases hin : ∃ k c, k ≤ l ∧ g4.2 6 k = nI c ∧ c < 2 * (W * H) ∧ ¬ g4.2 7 k = 0 ∧ c % (W * H) = i % (W * H)
          · rw [(hV5 _ hpl).1 hin]
            decide
          · rw [(hV5 _ hpl).2 hin, g3n 3 (by omega) (by omega)]
            exact hv e4
        · intro S hS hcl
          rw [hR5 9 (by omega) (by omega), g3n 9 (by omega) (by omega), e29, ee0, h.ci he0]
          rw [hR5 8 (by omega) (by omega), g3n 8 (by omega) (by omega), e28, es0, h.ci hs0] at hS
          have ow : ∀ k c, k ≤ l → fw k = nI c → c < 2 * (W * H) → g5.2 2 c = nI m := fun k c hk ek hc => (hW5 c hc).1 ⟨k, hk, by rw [k6]; exact ek⟩
          have all : ∀ r k, k + r = l → ∀ c, c < 2 * (W * H) → fw k = nI c → S c := fun r => by
            induction r with
            | zero =>
              intro k hk c hc ek
              have : k = l := by omega
              rw [this, hW.1] at ek
              rw [← (nI_eq (by omega) (by omega)).mp ek]
              exact hS
            | succ r ih =>
              intro k hk c hc ek
              obtain ⟨c1, c', d, t, w1, w2, w3, w4, w5, w6, w7, w8, w9, w10, _⟩ := hW.2.2 k (by omega)
              have : c = c1 := (nI_eq (by omega) (by omega)).mp (ek.symm.trans w3)
              subst this
              refine hcl c c' d hc w2 w8 (ih (k + 1) (by omega) c' w2 w4) (ow (k + 1) c' (by omega) w4 w2) (ow k c (by omega) w3 hc) w9 (fun e4 => ?_)
              have hpl : c % (W * H) < W * H := Nat.mod_lt _ (Nat.mul_pos (by omega) (by omega))
              rw [(hV5 _ hpl).1 ⟨k, c, by omega, by rw [k6]; exact w3, hc, by rw [k7, w10, if_pos e4]; decide, rfl⟩]
              decide
          exact all l 0 (by omega) e0 he0 hW.2.1
    -- the pushing out
    refine zq_Lp_I (I := fun q => ∃ i g4, i ≤ l + 1 ∧ zO W H n g g4 ∧ zr_Y g g4 ∧ g4.2 6 = fw ∧ g4.2 7 = fc ∧ (zr_K W H n g → zr_K W H n g4) ∧ (p = 0 → g4 = g3) ∧ q = (nI m, p, nI l, nI i, g4)) (μ := fun q => (l + 1) - q.2.2.2.1.toNatClampNeg) ?_ ⟨0, g3, Nat.zero_le _, hO3, hY3, g36, g37, fun hK => (kp hK).of (g3n 1 (by omega) (by omega)) (g3n 2 (by omega) (by omega)), fun _ => rfl, rfl⟩
    rintro k q ⟨i, g4, hi, hO4, hY4, k6, k7, hK4, hp4, rfl⟩ hk
    have f4 := fin g4 hO4 hY4 k6 k7 hK4 hp4
    by_cases hli : l < i
    · exact zp_if (nI_lt hli (by omega)) f4
    refine zp_ifn (nI_nlt (by omega) (by omega)) ?_
    by_cases ep : p = 0
    · exact zp_if ep f4
    obtain ⟨c, hc, ec⟩ := hcs i (by omega)
    refine zp_ifn ep ⟨h.ic (by omega), ?_⟩
    rw [k6, nI_clamp (by omega), ec]
    exact zd_pushOut hO4.1 hc (fun g5 hO5 hY5 hR5 hK5 => hk _ ⟨i + 1, g5, by omega, hO4.tr hO5, hY4.tr hY5, (hR5 6 (by omega)).trans k6, (hR5 7 (by omega)).trans k7, fun hK => hK5 (hK4 hK), fun hx => absurd hx ep, by rw [nI_1]⟩ (zm_lt (by omega) (by omega)))
  · exact zp_ifn (nI_nlt (b := 1000000) (by omega) (by omega)) (hp _ _ hO2 hY2 (fun hK => ⟨kp hK, fun ep => ⟨jp hK, fun hx => absurd rfl hx⟩⟩))
end ZQ
