/-! the reference's clear and weigh -/
theorem zs_ra (g : zS) (k : Nat) (f : Nat → Int32) (i v : Int32) : zs_a (zs_r g k f) k i v = zs_r g k (upd f i.toNatClampNeg v) := by
  unfold zs_a zs_r va_up
  refine Prod.ext rfl (funext fun j => ?_)
  show (if j = k then upd (if k = k then f else g.2 k) i.toNatClampNeg v else if j = k then f else g.2 j) = if j = k then upd f i.toNatClampNeg v else g.2 j
  by_cases e : j = k
  · rw [if_pos e, if_pos e, if_pos rfl]
  · rw [if_neg e, if_neg e, if_neg e]
theorem zs_rr (g : zS) (k : Nat) (f f' : Nat → Int32) : zs_r (zs_r g k f) k f' = zs_r g k f' := by
  unfold zs_r va_up
  refine Prod.ext rfl (funext fun j => ?_)
  show (if j = k then f' else if j = k then f else g.2 j) = if j = k then f' else g.2 j
  by_cases e : j = k
  · rw [if_pos e, if_pos e]
  · rw [if_neg e, if_neg e, if_neg e]
theorem zs_rs (g : zS) (k : Nat) : g = zs_r g k (g.2 k) := by
  unfold zs_r va_up
  refine Prod.ext rfl (funext fun j => ?_)
  show g.2 j = if j = k then g.2 k else g.2 j
  by_cases e : j = k
  · rw [if_pos e, e]
  · rw [if_neg e]
theorem zs_ar (g : zS) (k : Nat) (i v : Int32) : zs_a g k i v = zs_r g k (upd (g.2 k) i.toNatClampNeg v) := rfl
theorem zs_re {g : zS} {k : Nat} {f : Nat → Int32} : (zs_r g k f).2 k = f := by
  show va_up g.2 k f k = f
  unfold va_up
  rw [if_pos rfl]
theorem zs_rn {g : zS} {k j : Nat} {f : Nat → Int32} (h : j ≠ k) : (zs_r g k f).2 j = g.2 j := by
  show va_up g.2 k f j = g.2 j
  unfold va_up
  rw [if_neg h]
section ZN
variable {W H n : Nat} {g g0 : zS}
theorem zN.r (h : zN g0 g) {k : Nat} {f : Nat → Int32} (hk : k = 2 ∨ k = 3 ∨ k = 4 ∨ k = 5 ∨ k = 6 ∨ k = 7 ∨ k = 10) : zN g0 (zs_r g k f) := ⟨h.1, fun j hj => by rw [zs_rn (by omega)]; exact h.2 j hj⟩
theorem zO.r (h : zO W H n g0 g) {k : Nat} {f : Nat → Int32} (hk : k = 3 ∨ k = 4 ∨ k = 6 ∨ k = 7 ∨ k = 10) : zO W H n g0 (zs_r g k f) :=
  ⟨h.1.of (zN.rf.r (by omega)) (fun c hc => by rw [zs_rn (by omega)]; exact h.1.own hc) (fun c hc => by rw [zs_rn (by omega)]; exact h.1.mk hc), h.2.r (by omega)⟩
theorem zO.r2 (h : zO W H n g0 g) {f : Nat → Int32} (hf : ∀ c, c < 2 * (W * H) → f c = -1 ∨ zb_n n (f c)) : zO W H n g0 (zs_r g 2 f) :=
  ⟨h.1.of (zN.rf.r (by omega)) (fun c hc => by rw [zs_re]; exact hf c hc) (fun c hc => by rw [zs_rn (by omega)]; exact h.1.mk hc), h.2.r (by omega)⟩
/-- what clear does -/
def zr_C (W H : Nat) (g g' : zS) (m : Nat) : Prop :=
  g'.1 = g.1 ∧ (∀ k, k ≠ 2 → k ≠ 3 → g'.2 k = g.2 k) ∧
  (∀ c, c < 2 * (W * H) → g'.2 2 c = if nI c = g.2 8 m ∨ nI c = g.2 9 m then nI m else if g.2 2 c = nI m then -1 else g.2 2 c) ∧
  ∀ p, p < W * H → ((∃ c, c < 2 * (W * H) ∧ c % (W * H) = p ∧ g.2 2 c = nI m) → g'.2 3 p = 0) ∧ ((¬ ∃ c, c < 2 * (W * H) ∧ c % (W * H) = p ∧ g.2 2 c = nI m) → g'.2 3 p = g.2 3 p)
theorem zd_clear (h : zM W H n g) {m : Nat} (hm : m < n) {post : zS → Prop} (hp : ∀ g', zO W H n g g' → zr_C W H g g' m → post g') : zw_Mo_clear (nI m) g post := by
  have hC := h.C
  have h6 := h.n6
  have hd := h.d
  have hpos : 0 < W * H := Nat.mul_pos (by omega) (by omega)
  obtain ⟨c1, c2, hc1, hc2, e1, e2, _, _⟩ := h.ends hm
  have cm : (nI m).toNatClampNeg = m := nI_clamp (by omega)
  refine zq_Lp_I (I := fun q => ∃ i f, i ≤ 2 * (W * H) ∧ (∀ p, p < W * H → ((∃ c, c < i ∧ c % (W * H) = p ∧ g.2 2 c = nI m) → f p = 0) ∧ ((¬ ∃ c, c < i ∧ c % (W * H) = p ∧ g.2 2 c = nI m) → f p = g.2 3 p)) ∧ q = (nI m, nI i, zs_r g 3 f)) (μ := fun q => 2 * (W * H) - q.2.1.toNatClampNeg) ?_ ⟨0, g.2 3, Nat.zero_le _, fun p hp => ⟨fun ⟨c, hc, _⟩ => absurd hc (Nat.not_lt_zero _), fun _ => rfl⟩, by rw [← zs_rs]; rfl⟩
  rintro k q ⟨i, f, hi, hf, rfl⟩ hk
  have hO1 := (zO.rf h).r (k := 3) (f := f) (by omega)
  unfold zw_Mo_clear_2
  dsimp only
  refine zd_many hO1.1 ?_
  by_cases hl : 2 * (W * H) ≤ i
  · refine zp_if (nI_le hl (by omega)) ?_
    have ei : i = 2 * (W * H) := by omega
    subst ei
    refine zq_Lp_I (I := fun q => ∃ i o, i ≤ 2 * (W * H) ∧ (∀ c, c < 2 * (W * H) → o c = if c < i ∧ g.2 2 c = nI m then -1 else g.2 2 c) ∧ q = (nI m, nI i, zs_r (zs_r g 3 f) 2 o)) (μ := fun q => 2 * (W * H) - q.2.1.toNatClampNeg) ?_ ⟨0, g.2 2, Nat.zero_le _, fun c hc => by rw [if_neg (fun h => absurd h.1 (Nat.not_lt_zero _))], by
      have := zs_rs (zs_r g 3 f) 2
      rw [zs_rn (by omega)] at this
      rw [← this]
      rfl⟩
    rintro k2 q2 ⟨i2, o, hi2, ho, rfl⟩ hk2
    have hon : ∀ c, c < 2 * (W * H) → o c = -1 ∨ zb_n n (o c) := fun c hc => by
      rw [ho c hc]
      split
      · exact Or.inl rfl
      · exact h.own hc
    have hO2 := hO1.r2 hon
    unfold zw_Mo_clear_39
    dsimp only
    refine zd_many hO2.1 ?_
    have g8 : (zs_r (zs_r g 3 f) 2 o).2 8 = g.2 8 := by rw [zs_rn (by omega), zs_rn (by omega)]
    have g9 : (zs_r (zs_r g 3 f) 2 o).2 9 = g.2 9 := by rw [zs_rn (by omega), zs_rn (by omega)]
    by_cases hl2 : 2 * (W * H) ≤ i2
    · refine zp_if (nI_le hl2 (by omega)) ?_
      rw [zs_ra, zs_ra, g8, cm, e1, zs_rn (g := zs_r g 3 f) (j := 9) (by omega), zs_rn (by omega), e2, h.ci hc1, h.ci hc2]
      have hO3 := hO1.r2 (f := upd (upd o c1 (nI m)) c2 (nI m)) (fun c hc => by
        by_cases e : c = c2
        · rw [e, pk_us]
          exact Or.inr ⟨m, hm, rfl⟩
        · rw [pk_un e]
          by_cases e' : c = c1
          · rw [e', pk_us]
            exact Or.inr ⟨m, hm, rfl⟩
          · rw [pk_un e']
            exact hon c hc)
      refine ⟨h.i6 hm, h.ic hc1, h.i6 hm, h.ic hc2, hp _ hO3 ⟨rfl, fun k k1 k2 => by rw [zs_rn k1, zs_rn k2], fun c hc => ?_, fun p hp' => ?_⟩⟩
      · rw [zs_re, e1, e2]
        by_cases e : c = c2
        · rw [e, pk_us, if_pos (Or.inr rfl)]
        · rw [pk_un e]
          by_cases e' : c = c1
          · rw [e', pk_us, if_pos (Or.inl rfl)]
          · rw [pk_un e', if_neg (fun hx => hx.elim (fun hx => e' ((nI_eq (by omega) (by omega)).mp hx)) (fun hx => e ((nI_eq (by omega) (by omega)).mp hx))), ho c hc]
            by_cases e3 : g.2 2 c = nI m
            · rw [if_pos ⟨by omega, e3⟩, if_pos e3]
            · rw [if_neg (fun hx => e3 hx.2), if_neg e3]
      · rw [zs_rn (by omega), zs_re]
        exact hf p hp'
    · have hl2' : i2 < 2 * (W * H) := by omega
      have go : ∀ v, (v = if g.2 2 i2 = nI m then -1 else g.2 2 i2) → zw_Mo_clear_72 post k2 (nI m) (nI i2) v (nI i2) (zs_r (zs_r g 3 f) 2 o) := fun v hv => by
        refine ⟨h.ic hl2', hk2 _ ⟨i2 + 1, upd o i2 v, hl2', fun c hc => ?_, by rw [nI_1, zs_ra, h.ci hl2']⟩ (zm_lt hl2' (by omega))⟩
        by_cases e : c = i2
        · rw [e, pk_us, hv]
          by_cases e3 : g.2 2 i2 = nI m
          · rw [if_pos e3, if_pos ⟨by omega, e3⟩]
          · rw [if_neg e3, if_neg (fun hx => e3 hx.2)]
        · rw [pk_un e, ho c hc]
          by_cases e3 : g.2 2 c = nI m
          · by_cases e4 : c < i2
            · rw [if_pos ⟨e4, e3⟩, if_pos ⟨by omega, e3⟩]
            · rw [if_neg (fun hx => e4 hx.1), if_neg (fun hx => by omega)]
          · rw [if_neg (fun hx => e3 hx.2), if_neg (fun hx => e3 hx.2)]
      have eo : o i2 = g.2 2 i2 := by rw [ho i2 hl2', if_neg (fun hx => by omega)]
      refine zp_ifn (nI_ge hl2' (by omega)) ⟨h.ic hl2', ?_⟩
      rw [zs_re, h.ci hl2', eo]
      by_cases e : g.2 2 i2 = nI m
      · exact zp_fi e (go _ (by rw [if_pos e]))
      · exact zp_fin e ⟨h.ic hl2', go _ (by rw [if_neg e])⟩
  · have hl' : i < 2 * (W * H) := by omega
    refine zp_ifn (nI_ge hl' (by omega)) ⟨h.ic hl', ?_⟩
    rw [zs_rn (by omega), h.ci hl']
    by_cases e : g.2 2 i = nI m
    · refine zp_fi e (zd_placeOf hO1.1 hl' (fun p hp1 ep => ⟨h.i81 hp1, hk _ ⟨i + 1, upd f p 0, hl', fun p' hp' => ?_, by rw [nI_1, zs_ra, nI_clamp (by omega)]; rfl⟩ (zm_lt hl' (by omega))⟩))
      by_cases ep' : p' = p
      · subst ep'
        rw [pk_us]
        exact ⟨fun _ => rfl, fun hx => absurd ⟨i, by omega, ep.symm, e⟩ hx⟩
      · rw [pk_un ep']
        refine ⟨fun ⟨c, hc, hcp, hcm⟩ => (hf p' hp').1 ⟨c, ?_, hcp, hcm⟩, fun hx => (hf p' hp').2 (fun ⟨c, hc, hcp, hcm⟩ => hx ⟨c, by omega, hcp, hcm⟩)⟩
        have : c ≠ i := fun hci => ep' (by rw [← hcp, hci, ← ep])
        omega
    · refine zp_fin e (hk _ ⟨i + 1, f, hl', fun p' hp' => ⟨fun ⟨c, hc, hcp, hcm⟩ => (hf p' hp').1 ⟨c, ?_, hcp, hcm⟩, fun hx => (hf p' hp').2 (fun ⟨c, hc, hcp, hcm⟩ => hx ⟨c, by omega, hcp, hcm⟩)⟩, by rw [nI_1]⟩ (zm_lt hl' (by omega)))
      have : c ≠ i := fun hci => e (by rw [← hci]; exact hcm)
      omega
end ZN
