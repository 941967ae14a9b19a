/-! the reference's find without pushing, exactly; one route's outcome -/
section ZAD
variable {W H n : Nat} {g g' : zS}
theorem zr_C.f {m s0 e0 : Nat} (es0 : g.2 8 m = nI s0) (ee0 : g.2 9 m = nI e0) (h : zr_C W H g g' m) : zf_clr W H s0 e0 m (g.2 2) (g'.2 2) ∧ zf_cv W H m (g.2 2) (g.2 3) (g'.2 3) := by
  refine ⟨fun c hc => ?_, fun p hp => h.2.2.2 p hp⟩
  rw [h.2.2.1 c hc, es0, ee0]
theorem zd_find0x (h : zM W H n g) {m s0 e0 vc : Nat} (hvc : 1 ≤ vc ∧ vc ≤ 4) (hm : m < n) (hs0 : s0 < 2 * (W * H)) (he0 : e0 < 2 * (W * H)) (es0 : g.2 8 m = nI s0) (ee0 : g.2 9 m = nI e0) (evc : g.1 2 = nI vc) {post : Int32 → zS → Prop} (hp : ∀ r g', zO W H n g g' → zr_Y g g' → zf_route W H (g.1 3) (g.2 0) (g.2 1) vc s0 e0 m (g.2 2) (g.2 3) r (g'.2 2) (g'.2 3) → post r g') : zw_Mo_find (nI m) 0 g post := by
  have hC := h.C
  have h6 := h.n6
  have hd := h.d
  have cm : (nI m).toNatClampNeg = m := nI_clamp (by omega)
  refine zd_clear h hm (fun g1 hO1 hCl => ?_)
  have hM1 := hO1.1
  have hfc := hCl.f es0 ee0
  have es1 : g1.2 8 m = nI s0 := by rw [hCl.2.1 8 (by omega) (by omega)]; exact es0
  have ee1 : g1.2 9 m = nI e0 := by rw [hCl.2.1 9 (by omega) (by omega)]; exact ee0
  have t3 : g1.1 3 = g.1 3 := by rw [hCl.1]
  have t0 : g1.2 0 = g.2 0 := hCl.2.1 0 (by omega) (by omega)
  have t1 : g1.2 1 = g.2 1 := hCl.2.1 1 (by omega) (by omega)
  refine zd_weigh hM1 hm hs0 es1 hvc (by rw [hCl.1]; exact evc) (fun f hP hX => ?_)
  have hO2 : zO W H n g (zs_r g1 4 f) := hO1.r (by omega)
  have e29 : (zs_r g1 4 f).2 9 = g1.2 9 := zs_rn (by omega)
  have e28 : (zs_r g1 4 f).2 8 = g1.2 8 := zs_rn (by omega)
  have hY2 : zr_Y g (zs_r g1 4 f) := hCl.y.tr ⟨rfl, rfl, by rw [zs_rn (by omega)]⟩
  obtain ⟨a, ha, ea⟩ := hP.1 e0 he0
  have ea' : (f e0).toNatClampNeg = a := by rw [ea, nI_clamp (by omega)]
  have r0 : (zs_r g1 4 f).2 0 = g1.2 0 := zs_rn (by omega)
  have r1 : (zs_r g1 4 f).2 1 = g1.2 1 := zs_rn (by omega)
  have r2 : (zs_r g1 4 f).2 2 = g1.2 2 := zs_rn (by omega)
  have r3 : (zs_r g1 4 f).2 3 = g1.2 3 := zs_rn (by omega)
  have hP' : zr_P W H (zr_t W H (g.1 3) (g.2 0) (g.2 1) (g1.2 2) (nI m) 0) vc s0 f := by rw [← t3, ← t0, ← t1]; exact hP
  have hX' : ∀ c, c < 2 * (W * H) → c ≠ s0 → zr_X W H (zr_t W H (g.1 3) (g.2 0) (g.2 1) (g1.2 2) (nI m) 0) vc f c 5 := by rw [← t3, ← t0, ← t1]; exact hX
  rw [e29, cm, ee1, zs_re, h.ci he0]
  refine ⟨h.i6 hm, h.ic he0, ?_⟩
  by_cases hal : a < 1000000
  · refine zp_if (by rw [ea]; exact nI_lt (b := 1000000) hal (by omega)) ?_
    refine zd_way (vc := vc) hO2.1 hm hs0 he0 (by rw [e28]; exact es1) (by rw [e29]; exact ee1) hvc (p := 0) (by rw [r0, r1, r2, zs_re]; exact hP) (by rw [r0, r1, r2, zs_re]; exact hX) (by rw [zs_re, ea']; exact hal) (fun fw fc l hl hW hcs hfl => ?_)
    rw [r0, r1, r2, zs_re] at hW
    have hO3 : zO W H n g (zs_r (zs_r (zs_r g1 4 f) 6 fw) 7 fc) := (hO2.r (by omega)).r (by omega)
    have g36 : (zs_r (zs_r (zs_r g1 4 f) 6 fw) 7 fc).2 6 = fw := by rw [zs_rn (by omega), zs_re]
    have g37 : (zs_r (zs_r (zs_r g1 4 f) 6 fw) 7 fc).2 7 = fc := zs_re
    have g3n : ∀ k, k ≠ 6 → k ≠ 7 → (zs_r (zs_r (zs_r g1 4 f) 6 fw) 7 fc).2 k = (zs_r g1 4 f).2 k := fun k k1 k2 => by rw [zs_rn k2, zs_rn k1]
    refine ⟨1, zp_ifn (nI_nlt (b := 0) (a := l) (Nat.zero_le _) (by omega)) (zp_if rfl ?_)⟩
    refine zd_put hO3.1 hm hl (by rw [g36]; exact hcs) (fun g5 hO5 h51 hR5 hW5 hV5 => hp _ _ (hO3.tr hO5) (hY2.tr ⟨by rw [h51]; rfl, by rw [h51]; rfl, by rw [hR5 10 (by omega) (by omega), g3n 10 (by omega) (by omega)]⟩) ⟨g1.2 2, g1.2 3, fw, l, hfc.1, hfc.2, ⟨f, hP', hX', Or.inr ⟨by omega, rfl, hl, fc, ?_⟩⟩, Or.inr ⟨by rw [ea]; exact zp_n1 (by omega), fun c hc => ?_, fun p hp' => ?_⟩⟩)
    · rw [← t3, ← t0, ← t1]
      exact hW
    · have := hW5 c hc
      rw [g36, g3n 2 (by omega) (by omega), r2] at this
      exact this
    · have := hV5 p hp'
      rw [g36, g37, g3n 3 (by omega) (by omega), r3] at this
      have eqv : zf_cl W H fw l p ↔ ∃ k c, k ≤ l ∧ fw k = nI c ∧ c < 2 * (W * H) ∧ ¬ fc k = 0 ∧ c % (W * H) = p := by
        constructor
        · rintro ⟨k, c, c', j1, j2, j3, j4, j5, j6, j7⟩
          obtain ⟨c1, c1', d, t, w1, w2, w3, w4, w5, w6, w7, w8, w9, w10, _⟩ := hW.2.2 k j1
          have e1 : c = c1 := (nI_eq (by omega) (by omega)).mp (j4.symm.trans w3)
          have e2 : c' = c1' := (nI_eq (by omega) (by omega)).mp (j5.symm.trans w4)
          subst e1
          subst e2
          have := zg_B_4 hd.1 hd.2.2.1 hd.2.2.2.2 j2 j3 w8 w9 j6
          exact ⟨k, c, by omega, j4, j2, by rw [w10, if_pos this]; decide, j7⟩
        · rintro ⟨k, c, j1, j2, j3, j4, j5⟩
          have hkl : k ≠ l := fun e => by rw [e] at j4; exact j4 hfl
          obtain ⟨c1, c1', d, t, w1, w2, w3, w4, w5, w6, w7, w8, w9, w10, _⟩ := hW.2.2 k (by omega)
          have e1 : c = c1 := (nI_eq (by omega) (by omega)).mp (j2.symm.trans w3)
          subst e1
          by_cases e4 : d = 4
          · rw [e4] at w9
            exact ⟨k, c, c1', by omega, j3, w2, j2, w4, w9, j5⟩
          · rw [w10, if_neg e4] at j4
            exact absurd rfl j4
      rw [eqv]
      exact this
  · refine zp_ifn (by rw [ea]; exact nI_nlt (b := 1000000) (by omega) (by omega)) (hp _ _ hO2 hY2 ⟨g1.2 2, g1.2 3, fun _ => 0, 0, hfc.1, hfc.2, ⟨f, hP', hX', Or.inl ⟨by omega, rfl⟩⟩, Or.inl ⟨rfl, fun c hc => by rw [r2], fun p hp' => by rw [r3]⟩⟩)
theorem zf_clr_uq {s0 e0 m : Nat} {o o1 q q1 : Nat → Int32} (ho : ∀ i, i < 2 * (W * H) → o i = q i) (h : zf_clr W H s0 e0 m o o1) (h' : zf_clr W H s0 e0 m q q1) : ∀ i, i < 2 * (W * H) → o1 i = q1 i := fun i hi => by rw [h i hi, h' i hi, ho i hi]
theorem zf_cv_uq {m : Nat} {o v v1 q w w1 : Nat → Int32} (ho : ∀ i, i < 2 * (W * H) → o i = q i) (h : zf_cv W H m o v v1) (h' : zf_cv W H m q w w1) {p : Nat} (hp : p < W * H) (hv : v p = w p ∨ ∃ c, c < 2 * (W * H) ∧ c % (W * H) = p ∧ o c = nI m) : v1 p = w1 p := by
  by_cases hx : ∃ c, c < 2 * (W * H) ∧ c % (W * H) = p ∧ o c = nI m
  · have hx' : ∃ c, c < 2 * (W * H) ∧ c % (W * H) = p ∧ q c = nI m := by
      obtain ⟨c, hc, h1, h2⟩ := hx
      exact ⟨c, hc, h1, by rw [← ho c hc]; exact h2⟩
    rw [(h p hp).1 hx, (h' p hp).1 hx']
  · have hx' : ¬ ∃ c, c < 2 * (W * H) ∧ c % (W * H) = p ∧ q c = nI m := fun ⟨c, hc, h1, h2⟩ => hx ⟨c, hc, h1, by rw [ho c hc]; exact h2⟩
    rw [(h p hp).2 hx, (h' p hp).2 hx']
    exact hv.resolve_right hx
theorem zf_put_uq {m l : Nat} {fw fw' o o1 q q1 : Nat → Int32} (hf : ∀ k, k ≤ l → fw k = fw' k) (ho : ∀ i, i < 2 * (W * H) → o i = q i) (h : zf_put W H m fw l o o1) (h' : zf_put W H m fw' l q q1) : ∀ i, i < 2 * (W * H) → o1 i = q1 i := fun i hi => by
  by_cases hx : ∃ k, k ≤ l ∧ fw k = nI i
  · obtain ⟨k, hk, e⟩ := hx
    rw [(h i hi).1 ⟨k, hk, e⟩, (h' i hi).1 ⟨k, hk, by rw [← hf k hk]; exact e⟩]
  · rw [(h i hi).2 hx, (h' i hi).2 (fun ⟨k, hk, e⟩ => hx ⟨k, hk, by rw [hf k hk]; exact e⟩), ho i hi]
theorem zf_cl_cg {fw fw' : Nat → Int32} {l p : Nat} (hf : ∀ k, k ≤ l → fw k = fw' k) (h : zf_cl W H fw l p) : zf_cl W H fw' l p := by
  obtain ⟨k, c, c', j1, j2, j3, j4, j5, j6⟩ := h
  exact ⟨k, c, c', j1, j2, j3, by rw [← hf k (by omega)]; exact j4, by rw [← hf (k + 1) (by omega)]; exact j5, j6⟩
theorem zf_pv_uq {l : Nat} {fw fw' v v1 w w1 : Nat → Int32} (hf : ∀ k, k ≤ l → fw k = fw' k) (h : zf_pv W H fw l v v1) (h' : zf_pv W H fw' l w w1) {p : Nat} (hp : p < W * H) (hv : v p = w p) : v1 p = w1 p := by
  by_cases hx : zf_cl W H fw l p
  · rw [(h p hp).1 hx, (h' p hp).1 (zf_cl_cg hf hx)]
  · rw [(h p hp).2 hx, (h' p hp).2 (fun hy => hx (zf_cl_cg (fun k hk => (hf k hk).symm) hy)), hv]
/-- one route's outcome is the other's -/
theorem zf_route_uq {sp sp' : Int32} {fb fp fb' fp' : Nat → Int32} (hs : sp' = sp) (hb : ∀ i, i < 2 * (W * H) → fb i = fb' i) (hpn : ∀ i, i < 2 * (W * H) → fp i = fp' i) {vc s0 e0 m : Nat} (hvc : 1 ≤ vc) (hs0 : s0 < 2 * (W * H)) (he0 : e0 < 2 * (W * H)) (hC : 2 * (W * H) ≤ 162) {o v o' v' q w q' w' : Nat → Int32} {r r' : Int32} (ho : ∀ i, i < 2 * (W * H) → o i = q i) (h : zf_route W H sp fb fp vc s0 e0 m o v r o' v') (h' : zf_route W H sp' fb' fp' vc s0 e0 m q w r' q' w') : r = r' ∧ (∀ i, i < 2 * (W * H) → o' i = q' i) ∧ ∀ p, p < W * H → (v p = w p ∨ ∃ c, c < 2 * (W * H) ∧ c % (W * H) = p ∧ o c = nI m) → v' p = w' p := by
  obtain ⟨o1, v1, fw, l, a1, a2, a3, a4⟩ := h
  obtain ⟨q1, w1, fw', l', b1, b2, b3, b4⟩ := h'
  have ho1 := zf_clr_uq ho a1 b1
  obtain ⟨er, hw⟩ := zf_find_uq hs hb hpn ho1 hvc hs0 he0 hC a3 b3
  subst er
  refine ⟨rfl, ?_⟩
  rcases a4 with ⟨e, a5, a6⟩ | ⟨e, a5, a6⟩
  · rcases b4 with ⟨_, b5, b6⟩ | ⟨e', _⟩
    · refine ⟨fun i hi => by rw [a5 i hi, b5 i hi, ho1 i hi], fun p hp hv => ?_⟩
      rw [a6 p hp, b6 p hp]
      exact zf_cv_uq ho a2 b2 hp hv
    · exact absurd e e'
  · rcases b4 with ⟨e', _⟩ | ⟨_, b5, b6⟩
    · exact absurd e' e
    · obtain ⟨el, hfw⟩ := hw e
      subst el
      exact ⟨zf_put_uq hfw ho1 a5 b5, fun p hp hv => zf_pv_uq hfw a6 b6 hp (zf_cv_uq ho a2 b2 hp hv)⟩
end ZAD
