/-! the reference's find with pushing, exactly; one push's outcome -/
section ZAH
variable {W H n : Nat} {g g' : zS}
theorem zr_S.cl {m : Nat} {g0 : zS} {o1 v1 : Nat → Int32} {L L' : Nat → Prop} (h : ∀ x, x < 2 * (W * H) → (L x ↔ L' x)) (hS : zr_S W H n m g0 o1 v1 L g') : zr_S W H n m g0 o1 v1 L' g' := hS.cg (fun _ _ => ⟨fun ⟨j0, j1, x, j2, j3, j4⟩ => ⟨j0, j1, x, j2, (h x j2).mp j3, j4⟩, fun ⟨j0, j1, x, j2, j3, j4⟩ => ⟨j0, j1, x, j2, (h x j2).mpr j3, j4⟩⟩)
theorem zd_pushOutx {m : Nat} (hm : m < n) {g0 : zS} {o1 v1 : Nat → Int32} (ho1 : ∀ c, c < 2 * (W * H) → o1 c = -1 ∨ zb_n n (o1 c)) {L : Nat → Prop} (hS : zr_S W H n m g0 o1 v1 L g) {w : Nat} (hw : w < 2 * (W * H)) (hpin : g0.2 1 w = nI m ∨ g0.2 1 w = -1) (hnb : ¬ g0.1 3 = 0 → ∀ d c, d < 4 → c < 2 * (W * H) → zg_B W H w d = nI c → g0.2 1 c = nI m ∨ g0.2 1 c = -1) {post : zS → Prop} (hp : ∀ g', zr_S W H n m g0 o1 v1 (fun x => L x ∨ x = w ∨ (¬ g0.1 3 = 0 ∧ ∃ d, d < 4 ∧ zg_B W H w d = nI x)) g' → post g') : zw_Mo_pushOut (nI w) (nI m) g post := by
  have hC := hS.1.1.C
  refine ⟨hS.1.1.ic hw, ?_⟩
  rw [hS.1.1.ci hw]
  refine zd_leavex hm ho1 hS hw hpin (fun g1 hS1 => ?_)
  have e3 : g1.1 3 = g0.1 3 := hS1.1.2.1 3 (by omega)
  by_cases s3 : g0.1 3 = 0
  · have fin : post g1 := hp g1 (hS1.cg (fun k hk => ⟨fun ⟨j0, j1, x, j2, j3, j4⟩ => ⟨j0, j1, x, j2, j3.imp id Or.inl, j4⟩, fun ⟨j0, j1, x, j2, j3, j4⟩ => ⟨j0, j1, x, j2, by
      rcases j3 with hx | hx | ⟨hx, _⟩
      · exact Or.inl hx
      · exact Or.inr hx
      · exact absurd s3 hx, j4⟩⟩))
    exact ⟨1, zp_ifn (by decide) (zp_if (by rw [e3]; exact s3) fin)⟩
  · refine zq_Lp_I (I := fun q => ∃ d g2, d ≤ 4 ∧ zr_S W H n m g0 o1 v1 (fun x => L x ∨ x = w ∨ ∃ d', d' < d ∧ zg_B W H w d' = nI x) g2 ∧ q = (nI w, nI m, nI d, g2)) (μ := fun q => 4 - q.2.2.1.toNatClampNeg) ?_ ⟨0, g1, Nat.zero_le _, hS1.cg (fun k hk => ⟨fun ⟨j0, j1, x, j2, j3, j4⟩ => ⟨j0, j1, x, j2, j3.imp id Or.inl, j4⟩, fun ⟨j0, j1, x, j2, j3, j4⟩ => ⟨j0, j1, x, j2, by
      rcases j3 with hx | hx | ⟨d', hx, _⟩
      · exact Or.inl hx
      · exact Or.inr hx
      · exact absurd hx (Nat.not_lt_zero _), j4⟩⟩), rfl⟩
    rintro k q ⟨d, g2, hd, hS2, rfl⟩ hk
    by_cases hl : 4 ≤ d
    · have ed : d = 4 := by omega
      subst ed
      refine zp_if (nI_le (a := 4) hl (by omega)) (hp g2 (hS2.cg (fun k hk => ⟨fun ⟨j0, j1, x, j2, j3, j4⟩ => ⟨j0, j1, x, j2, by
        rcases j3 with hx | hx | hx
        · exact Or.inl hx
        · exact Or.inr (Or.inl hx)
        · exact Or.inr (Or.inr ⟨s3, hx⟩), j4⟩, fun ⟨j0, j1, x, j2, j3, j4⟩ => ⟨j0, j1, x, j2, by
        rcases j3 with hx | hx | ⟨_, hx⟩
        · exact Or.inl hx
        · exact Or.inr (Or.inl hx)
        · exact Or.inr (Or.inr hx), j4⟩⟩)))
    have step : ∀ g3, (∀ c, c < 2 * (W * H) → zg_B W H w d = nI c → False) ∧ zr_S W H n m g0 o1 v1 (fun x => L x ∨ x = w ∨ ∃ d', d' < d ∧ zg_B W H w d' = nI x) g3 ∨ (∃ c, c < 2 * (W * H) ∧ zg_B W H w d = nI c ∧ zr_S W H n m g0 o1 v1 (fun x => (L x ∨ x = w ∨ ∃ d', d' < d ∧ zg_B W H w d' = nI x) ∨ x = c) g3) → zw_Mo_pushOut_51 post k (nI w) (nI m) (nI d) g3 := fun g3 hx => by
      refine hk _ ⟨d + 1, g3, by omega, ?_, by rw [nI_1]⟩ (zm_lt (by omega) (by omega))
      rcases hx with ⟨h1, h2⟩ | ⟨c0, hc0, eB, h2⟩
      · refine h2.cl (fun x hx => ⟨fun j3 => ?_, fun j3 => ?_⟩)
        · rcases j3 with hy | hy | ⟨d', i1, i2⟩
          · exact Or.inl hy
          · exact Or.inr (Or.inl hy)
          · exact Or.inr (Or.inr ⟨d', by omega, i2⟩)
        · rcases j3 with hy | hy | ⟨d', i1, i2⟩
          · exact Or.inl hy
          · exact Or.inr (Or.inl hy)
          · by_cases e : d' = d
            · rw [e] at i2
              exact absurd i2 (fun hz => h1 x hx hz)
            · exact Or.inr (Or.inr ⟨d', by omega, i2⟩)
      · refine h2.cl (fun x hx => ⟨fun j3 => ?_, fun j3 => ?_⟩)
        · rcases j3 with (hy | hy | ⟨d', i1, i2⟩) | hy
          · exact Or.inl hy
          · exact Or.inr (Or.inl hy)
          · exact Or.inr (Or.inr ⟨d', by omega, i2⟩)
          · exact Or.inr (Or.inr ⟨d, by omega, by rw [hy]; exact eB⟩)
        · rcases j3 with hy | hy | ⟨d', i1, i2⟩
          · exact Or.inl (Or.inl hy)
          · exact Or.inl (Or.inr (Or.inl hy))
          · by_cases e : d' = d
            · rw [e] at i2
              exact Or.inr ((nI_eq (by omega) (by omega)).mp (i2.symm.trans eB))
            · exact Or.inl (Or.inr (Or.inr ⟨d', by omega, i2⟩))
    refine zp_ifn (nI_ge (b := 4) (by omega) (by omega)) (zp_ifn (by rw [hS2.1.2.1 3 (by omega)]; exact s3) (zd_sd hS2.1.1 hw (by omega) (fun er => zp_if rfl (step g2 (Or.inl ⟨fun c hc e => zp_n1 (c := c) (by omega) (er.symm.trans e).symm, hS2⟩))) (fun c' hc' er => zp_ifn (zp_n1 (by omega)) ⟨hS2.1.1.ic hc', ?_⟩)))
    rw [hS2.1.1.ci hc']
    exact zd_leavex hm ho1 hS2 hc' (hnb s3 d c' (by omega) hc' er) (fun g3 hS3 => step g3 (Or.inr ⟨c', hc', er, hS3⟩))
/-- in a spaced grid pins beside each other are one net's -/
def zf_sep (W H n : Nat) (sp : Int32) (fp : Nat → Int32) : Prop := ¬ sp = 0 → ∀ c c' d k k', c < 2 * (W * H) → c' < 2 * (W * H) → d < 4 → k < n → k' < n → zg_B W H c d = nI c' → fp c = nI k → fp c' = nI k' → k = k'
theorem zr_t_nb {sp : Int32} {fb fp fo : Nat → Int32} {p : Int32} {m c t : Nat} (hn : n ≤ 6) (hC : 2 * (W * H) ≤ 162) (hm : m < n) (hfp : ∀ c, c < 2 * (W * H) → fp c = -1 ∨ zb_n n (fp c)) (hsep : zf_sep W H n sp fp) (hc : c < 2 * (W * H)) (h : fp c = nI m ∨ (zr_t W H sp fb fp fo (nI m) p c t ∧ t < 1000000)) (hs : ¬ sp = 0) : ∀ d c', d < 4 → c' < 2 * (W * H) → zg_B W H c d = nI c' → fp c' = nI m ∨ fp c' = -1 := by
  intro d c' hd hc' eB
  rcases hfp c' hc' with e | ⟨k', hk', e⟩
  · exact Or.inr e
  · left
    rw [e]
    have own : fp c = nI m → k' = m := fun h1 => (hsep hs c c' d m k' hc hc' hd hm hk' eB h1 e).symm
    by_cases hp1 : fp c = nI m
    · rw [own hp1]
    · have ht := h.resolve_left hp1
      by_cases hkm : k' = m
      · rw [hkm]
      · rcases ht.1 with ⟨_, et⟩ | ⟨hn', _⟩
        · omega
        · refine absurd ⟨hp1, Or.inr (Or.inr ⟨hs, d, hd, c', hc', eB, by rw [e]; exact zp_n1 (by omega), ?_⟩)⟩ hn'
          rw [e]
          exact fun hx => hkm ((nI_eq (by omega) (by omega)).mp hx)
theorem zd_find1x (h : zM W H n g) {m s0 e0 vc : Nat} (hvc : 1 ≤ vc ∧ vc ≤ 4) (hm : m < n) (hs0 : s0 < 2 * (W * H)) (he0 : e0 < 2 * (W * H)) (es0 : g.2 8 m = nI s0) (ee0 : g.2 9 m = nI e0) (evc : g.1 2 = nI vc) (hsep : zf_sep W H n (g.1 3) (g.2 1)) {post : Int32 → zS → Prop} (hp : ∀ r g', zO W H n g g' → zr_Y g g' → (∃ P, zf_push W H n (g.1 3) (g.2 0) (g.2 1) vc s0 e0 m (g.2 2) (g.2 3) r (g'.2 2) (g'.2 3) P ∧ (¬ r = -1 → ∀ ob, ob < 64 → g.1 7 = nI ob → ∃ ob', ob' < 64 ∧ g'.1 7 = nI ob' ∧ ∀ k, k < n → (ob' / 2 ^ k % 2 = 1 ↔ ob / 2 ^ k % 2 = 1 ∨ P k))) → post r g') : zw_Mo_find (nI m) 1 g post := by
  have hC := h.C
  have h6 := h.n6
  have hd := h.d
  have cm : (nI m).toNatClampNeg = m := nI_clamp (by omega)
  refine zd_clear h hm (fun g1 hO1 hCl => ?_)
  have hM1 := hO1.1
  have hfc := hCl.f es0 ee0
  have es1 : g1.2 8 m = nI s0 := by rw [hCl.2.1 8 (by omega) (by omega)]; exact es0
  have ee1 : g1.2 9 m = nI e0 := by rw [hCl.2.1 9 (by omega) (by omega)]; exact ee0
  have t3 : g1.1 3 = g.1 3 := by rw [hCl.1]
  have t0 : g1.2 0 = g.2 0 := hCl.2.1 0 (by omega) (by omega)
  have t1 : g1.2 1 = g.2 1 := hCl.2.1 1 (by omega) (by omega)
  refine zd_weigh hM1 hm hs0 es1 hvc (by rw [hCl.1]; exact evc) (fun f hP hX => ?_)
  have hO2 : zO W H n g (zs_r g1 4 f) := hO1.r (by omega)
  have e29 : (zs_r g1 4 f).2 9 = g1.2 9 := zs_rn (by omega)
  have e28 : (zs_r g1 4 f).2 8 = g1.2 8 := zs_rn (by omega)
  have hY2 : zr_Y g (zs_r g1 4 f) := hCl.y.tr ⟨rfl, rfl, by rw [zs_rn (by omega)]⟩
  obtain ⟨a, ha, ea⟩ := hP.1 e0 he0
  have ea' : (f e0).toNatClampNeg = a := by rw [ea, nI_clamp (by omega)]
  have r0 : (zs_r g1 4 f).2 0 = g1.2 0 := zs_rn (by omega)
  have r1 : (zs_r g1 4 f).2 1 = g1.2 1 := zs_rn (by omega)
  have r2 : (zs_r g1 4 f).2 2 = g1.2 2 := zs_rn (by omega)
  have r3 : (zs_r g1 4 f).2 3 = g1.2 3 := zs_rn (by omega)
  have hP' : zr_P W H (zr_t W H (g.1 3) (g.2 0) (g.2 1) (g1.2 2) (nI m) 1) vc s0 f := by rw [← t3, ← t0, ← t1]; exact hP
  have hX' : ∀ c, c < 2 * (W * H) → c ≠ s0 → zr_X W H (zr_t W H (g.1 3) (g.2 0) (g.2 1) (g1.2 2) (nI m) 1) vc f c 5 := by rw [← t3, ← t0, ← t1]; exact hX
  rw [e29, cm, ee1, zs_re, h.ci he0]
  refine ⟨h.i6 hm, h.ic he0, ?_⟩
  by_cases hal : a < 1000000
  · refine zp_if (by rw [ea]; exact nI_lt (b := 1000000) hal (by omega)) ?_
    refine zd_way (vc := vc) hO2.1 hm hs0 he0 (by rw [e28]; exact es1) (by rw [e29]; exact ee1) hvc (p := 1) (by rw [r0, r1, r2, zs_re]; exact hP) (by rw [r0, r1, r2, zs_re]; exact hX) (by rw [zs_re, ea']; exact hal) (fun fw fc l hl hW hcs hfl => ?_)
    rw [r0, r1, r2, zs_re] at hW
    have hO3 : zO W H n g (zs_r (zs_r (zs_r g1 4 f) 6 fw) 7 fc) := (hO2.r (by omega)).r (by omega)
    have g36 : (zs_r (zs_r (zs_r g1 4 f) 6 fw) 7 fc).2 6 = fw := by rw [zs_rn (by omega), zs_re]
    have g37 : (zs_r (zs_r (zs_r g1 4 f) 6 fw) 7 fc).2 7 = fc := zs_re
    have g3n : ∀ k, k ≠ 6 → k ≠ 7 → (zs_r (zs_r (zs_r g1 4 f) 6 fw) 7 fc).2 k = (zs_r g1 4 f).2 k := fun k k1 k2 => by rw [zs_rn k2, zs_rn k1]
    have g31 : (zs_r (zs_r (zs_r g1 4 f) 6 fw) 7 fc).1 = g.1 := hCl.1
    generalize zs_r (zs_r (zs_r g1 4 f) 6 fw) 7 fc = g3 at hO3 g36 g37 g3n g31
    have q1 : g3.2 1 = g.2 1 := (g3n 1 (by omega) (by omega)).trans (r1.trans t1)
    have q2 : g3.2 2 = g1.2 2 := (g3n 2 (by omega) (by omega)).trans r2
    have q3 : g3.2 3 = g1.2 3 := (g3n 3 (by omega) (by omega)).trans r3
    have ho1 : ∀ c, c < 2 * (W * H) → g1.2 2 c = -1 ∨ zb_n n (g1.2 2 c) := fun c hc => hM1.own hc
    have noQ : ∀ k, ¬ zr_Q W H n m (g1.2 2) (fun _ => False) k := fun k ⟨_, _, _, _, hx, _⟩ => hx
    have S0 : zr_S W H n m g3 (g1.2 2) (g1.2 3) (fun _ => False) g3 := ⟨zO.rf hO3.1, ⟨rfl, rfl, rfl⟩, fun _ _ => rfl, fun c hc => ⟨fun ⟨k, _, hx, _⟩ => absurd hx (noQ k), fun _ ⟨k, _, hx, _⟩ => absurd hx (noQ k), fun _ _ => by rw [q2]⟩, fun p hp' => ⟨fun _ => by rw [q3], fun ⟨k, _, _, hx, _⟩ => absurd hx (noQ k)⟩, fun ob hob e => ⟨ob, hob, e, fun k hk => ⟨Or.inl, fun hx => hx.resolve_right (noQ k)⟩⟩⟩
    -- the way's cells, and what is beside them
    have wayC : ∀ k c, k ≤ l → fw k = nI c → c < 2 * (W * H) → g.2 1 c = nI m ∨ ∃ t, zr_t W H (g.1 3) (g.2 0) (g.2 1) (g1.2 2) (nI m) 1 c t ∧ t < 1000000 := fun k c hk ek hc => by
      by_cases e : k = l
      · rw [e, hW.1] at ek
        obtain ⟨s, e', _, _, x1, x2, x3, x4⟩ := h.ends hm
        have : s = c := (nI_eq (by omega) (by omega)).mp (by rw [← x1, es0, ek])
        rw [← this]
        exact Or.inl x3
      · obtain ⟨c1, c', d, t, w1, w2, w3, w4, w5, w6, w7, _⟩ := hW.2.2 k (by omega)
        have : c = c1 := (nI_eq (by omega) (by omega)).mp (ek.symm.trans w3)
        subst this
        rw [show (zs_r g1 4 f).1 3 = g.1 3 from t3, t0, t1] at w6
        exact Or.inr ⟨t, w6, w7⟩
    refine zq_Lp_I (I := fun q => ∃ i g4, i ≤ l + 1 ∧ zr_S W H n m g3 (g1.2 2) (g1.2 3) (zf_lk W H (g.1 3) fw i) g4 ∧ q = (nI m, 1, nI l, nI i, g4)) (μ := fun q => (l + 1) - q.2.2.2.1.toNatClampNeg) ?_ ⟨0, g3, Nat.zero_le _, S0.cg (fun k hk => ⟨fun hx => absurd hx (noQ k), fun ⟨_, _, x, _, ⟨k', w, hx, _⟩, _⟩ => absurd hx (Nat.not_lt_zero _)⟩), rfl⟩
    rintro k q ⟨i, g4, hi, hS4, rfl⟩ hk
    have e46 : g4.2 6 = fw := (hS4.2.2.1 6 (by omega)).trans g36
    have e47 : g4.2 7 = fc := (hS4.2.2.1 7 (by omega)).trans g37
    by_cases hli : l < i
    · have ei : i = l + 1 := by omega
      subst ei
      refine zp_if (nI_lt hli (by omega)) ?_
      refine zd_put hS4.1.1 hm hl (by rw [e46]; exact hcs) (fun g5 hO5 h51 hR5 hW5 hV5 => hp _ _ ((hO3.tr hS4.1).tr hO5) ((hY2.tr ⟨by rw [g31]; exact (congrFun hCl.1 4).symm, by rw [g31]; exact (congrFun hCl.1 6).symm, g3n 10 (by omega) (by omega)⟩).tr (hS4.2.1.tr ⟨by rw [h51], by rw [h51], hR5 10 (by omega) (by omega)⟩)) ⟨zr_Q W H n m (g1.2 2) (zf_lk W H (g.1 3) fw (l + 1)), ⟨g1.2 2, g1.2 3, fw, l, hfc.1, hfc.2, ⟨f, hP', hX', Or.inr ⟨by omega, rfl, hl, fc, ?_⟩⟩, Or.inr ⟨by rw [ea]; exact zp_n1 (by omega), fun k hk => ⟨fun ⟨_, x⟩ => x, fun x => ⟨hk, x⟩⟩, g4.2 2, g4.2 3, by rw [← q1]; exact hS4.2.2.2.1, by rw [← q1]; exact hS4.2.2.2.2.1, fun c hc => ?_, fun p hp' => ?_⟩⟩, fun _ ob hob eob => ?_⟩)
      · rw [← t3, ← t0, ← t1]
        exact hW
      · have := hW5 c hc
        rw [e46] at this
        exact this
      · have := hV5 p hp'
        rw [e46, e47] at this
        have eqv : zf_cl W H fw l p ↔ ∃ k c, k ≤ l ∧ fw k = nI c ∧ c < 2 * (W * H) ∧ ¬ fc k = 0 ∧ c % (W * H) = p := by
          constructor
          · rintro ⟨k, c, c', j1, j2, j3, j4, j5, j6, j7⟩
            obtain ⟨c1, c1', d, t, w1, w2, w3, w4, w5, w6, w7, w8, w9, w10, _⟩ := hW.2.2 k j1
            have e1 : c = c1 := (nI_eq (by omega) (by omega)).mp (j4.symm.trans w3)
            have e2 : c' = c1' := (nI_eq (by omega) (by omega)).mp (j5.symm.trans w4)
            subst e1
            subst e2
            have := zg_B_4 hd.1 hd.2.2.1 hd.2.2.2.2 j2 j3 w8 w9 j6
            exact ⟨k, c, by omega, j4, j2, by rw [w10, if_pos this]; decide, j7⟩
          · rintro ⟨k, c, j1, j2, j3, j4, j5⟩
            have hkl : k ≠ l := fun e => by rw [e] at j4; exact j4 hfl
            obtain ⟨c1, c1', d, t, w1, w2, w3, w4, w5, w6, w7, w8, w9, w10, _⟩ := hW.2.2 k (by omega)
            have e1 : c = c1 := (nI_eq (by omega) (by omega)).mp (j2.symm.trans w3)
            subst e1
            by_cases e4 : d = 4
            · rw [e4] at w9
              exact ⟨k, c, c1', by omega, j3, w2, j2, w4, w9, j5⟩
            · rw [w10, if_neg e4] at j4
              exact absurd rfl j4
        rw [eqv]
        exact this
      · obtain ⟨ob', k1, k2, k3⟩ := hS4.2.2.2.2.2 ob hob (by rw [g31]; exact eob)
        exact ⟨ob', k1, by rw [h51]; exact k2, k3⟩
    refine zp_ifn (nI_nlt (by omega) (by omega)) (zp_ifn (by decide) ⟨h.ic (by omega), ?_⟩)
    obtain ⟨c, hc, ec⟩ := hcs i (by omega)
    rw [e46, nI_clamp (by omega), ec]
    have wc := wayC i c (by omega) ec hc
    have wpin : g.2 1 c = nI m ∨ g.2 1 c = -1 := by
      rcases wc with hx | ⟨t, hx, ht⟩
      · exact Or.inl hx
      · exact zr_t_pin hx ht
    have wnb : ¬ g.1 3 = 0 → ∀ d c', d < 4 → c' < 2 * (W * H) → zg_B W H c d = nI c' → g.2 1 c' = nI m ∨ g.2 1 c' = -1 := fun hs => by
      rcases wc with hx | ⟨t, hx⟩
      · exact zr_t_nb (fb := g.2 0) (fo := g.2 2) (p := 1) (t := 0) h6 hC hm (fun c hc => h.pin hc) hsep hc (Or.inl hx) hs
      · exact zr_t_nb h6 hC hm (fun c hc => h.pin hc) hsep hc (Or.inr hx) hs
    refine zd_pushOutx hm ho1 hS4 hc (by rw [q1]; exact wpin) (by rw [q1, g31]; exact wnb) (fun g5 hS5 => hk _ ⟨i + 1, g5, by omega, hS5.cl (fun x hx => ⟨fun j3 => ?_, fun j3 => ?_⟩), by rw [nI_1]⟩ (zm_lt (by omega) (by omega)))
    · rw [g31] at j3
      rcases j3 with ⟨k', w, i1, r⟩ | hx
      · exact ⟨k', w, by omega, r⟩
      · exact ⟨i, c, by omega, hc, ec, hx⟩
    · rw [g31]
      obtain ⟨k', w, i1, i2, i3, i4⟩ := j3
      by_cases e : k' = i
      · rw [e, ec] at i3
        have : c = w := (nI_eq (by omega) (by omega)).mp i3
        rw [this]
        exact Or.inr i4
      · exact Or.inl ⟨k', w, by omega, i2, i3, i4⟩
  · refine zp_ifn (by rw [ea]; exact nI_nlt (b := 1000000) (by omega) (by omega)) (hp _ _ hO2 hY2 ⟨fun _ => False, ⟨g1.2 2, g1.2 3, fun _ => 0, 0, hfc.1, hfc.2, ⟨f, hP', hX', Or.inl ⟨by omega, rfl⟩⟩, Or.inl ⟨rfl, fun c hc => by rw [r2], fun p hp' => by rw [r3]⟩⟩, fun hx => absurd rfl hx⟩)
theorem zf_lk_cg {sp : Int32} {fw fw' : Nat → Int32} {i c : Nat} (hf : ∀ k, k < i → fw k = fw' k) (h : zf_lk W H sp fw i c) : zf_lk W H sp fw' i c := by
  obtain ⟨k, w, j1, j2, j3, j4⟩ := h
  exact ⟨k, w, j1, j2, by rw [← hf k j1]; exact j3, j4⟩
/-- one push's outcome is the other's; the vias too, where no pin was painted over -/
theorem zf_push_uq {sp sp' : Int32} {fb fp fb' fp' : Nat → Int32} (hs : sp' = sp) (hb : ∀ i, i < 2 * (W * H) → fb i = fb' i) (hpn : ∀ i, i < 2 * (W * H) → fp i = fp' i) {vc s0 e0 m : Nat} (hn : n ≤ 6) (hm : m < n) (hps : fp s0 = nI m ∧ fp e0 = nI m) (hvc : 1 ≤ vc) (hs0 : s0 < 2 * (W * H)) (he0 : e0 < 2 * (W * H)) (hC : 2 * (W * H) ≤ 162) {o v o' v' q w q' w' : Nat → Int32} {r r' : Int32} {P P' : Nat → Prop} (ho : ∀ i, i < 2 * (W * H) → o i = q i) (h : zf_push W H n sp fb fp vc s0 e0 m o v r o' v' P) (h' : zf_push W H n sp' fb' fp' vc s0 e0 m q w r' q' w' P') : r = r' ∧ (∀ i, i < 2 * (W * H) → o' i = q' i) ∧ (¬ r = -1 → ∀ k, k < n → (P k ↔ P' k)) ∧ ∀ p, p < W * H → (v p = w p ∨ ∃ c, c < 2 * (W * H) ∧ c % (W * H) = p ∧ o c = nI m) → (∀ c k, c < 2 * (W * H) → c % (W * H) = p → k < n → fp c = nI k → o c = nI k) → v' p = w' p := by
  obtain ⟨o1, v1, fw, l, a1, a2, a3, a4⟩ := h
  obtain ⟨q1, w1, fw', l', b1, b2, b3, b4⟩ := h'
  have ho1 := zf_clr_uq ho a1 b1
  obtain ⟨er, hw⟩ := zf_find_uq hs hb hpn ho1 hvc hs0 he0 hC a3 b3
  subst er
  refine ⟨rfl, ?_⟩
  rcases a4 with ⟨e, a5, a6⟩ | ⟨e, aP, o2, v2, a5, a6, a7, a8⟩
  · rcases b4 with ⟨_, b5, b6⟩ | ⟨e', _⟩
    · refine ⟨fun i hi => by rw [a5 i hi, b5 i hi, ho1 i hi], fun hx => absurd e hx, fun p hp hv _ => ?_⟩
      rw [a6 p hp, b6 p hp]
      exact zf_cv_uq ho a2 b2 hp hv
    · exact absurd e e'
  · rcases b4 with ⟨e', _⟩ | ⟨_, bP, q2, w2, b5, b6, b7, b8⟩
    · exact absurd e' e
    · obtain ⟨el, hfw⟩ := hw e
      subst el
      have hPP : ∀ k, k < n → (P k ↔ P' k) := fun k hk => by
        rw [aP k hk, bP k hk, hs]
        constructor
        · rintro ⟨j1, c, j2, j3, j4⟩
          exact ⟨j1, c, j2, zf_lk_cg (fun k hk => hfw k (by omega)) j3, by rw [← ho1 c j2]; exact j4⟩
        · rintro ⟨j1, c, j2, j3, j4⟩
          exact ⟨j1, c, j2, zf_lk_cg (fun k hk => (hfw k (by omega)).symm) j3, by rw [ho1 c j2]; exact j4⟩
      have b5' := zf_out_cg (fun k hk => (hPP k hk).symm) b5
      have b6' := zf_ov_cg (fun k hk => (hPP k hk).symm) b6
      have ho2 : ∀ i, i < 2 * (W * H) → o2 i = q2 i := fun c hc => by
        by_cases hx : ∃ k, k < n ∧ P k ∧ fp c = nI k
        · obtain ⟨k, k1, k2, k3⟩ := hx
          rw [(a5 c hc).1 ⟨k, k1, k2, k3⟩, (b5' c hc).1 ⟨k, k1, k2, by rw [← hpn c hc]; exact k3⟩, hpn c hc]
        · have hx' : ¬ ∃ k, k < n ∧ P k ∧ fp' c = nI k := by rw [← hpn c hc]; exact hx
          by_cases hy : ∃ k, k < n ∧ P k ∧ o1 c = nI k
          · rw [(a5 c hc).2.1 hx hy, (b5' c hc).2.1 hx' (by rw [← ho1 c hc]; exact hy)]
          · rw [(a5 c hc).2.2 hx hy, (b5' c hc).2.2 hx' (by rw [← ho1 c hc]; exact hy), ho1 c hc]
      refine ⟨zf_put_uq hfw ho2 a7 b7, fun _ => hPP, fun p hp hv hcl => zf_pv_uq hfw a8 b8 hp ?_⟩
      have v1e := zf_cv_uq ho a2 b2 hp hv
      by_cases hx : ∃ k c, k < n ∧ P k ∧ c < 2 * (W * H) ∧ c % (W * H) = p ∧ o1 c = nI k
      · obtain ⟨k, c, k1, k2, k3, k4, k5⟩ := hx
        have hkm : k ≠ m := ((aP k k1).mp k2).1
        -- the cell is no other's pin
        have cln : ∀ k', k' < n → fp c = nI k' → k' = k := fun k' hk' hf => by
          have e1 := a1 c k3
          by_cases hse : nI c = nI s0 ∨ nI c = nI e0
          · rw [if_pos hse, k5] at e1
            exact absurd ((nI_eq (by omega) (by omega)).mp e1) hkm
          · rw [if_neg hse, hcl c k' k3 k4 hk' hf, k5] at e1
            split at e1
            · exact absurd e1 (zp_n1 (by omega))
            · exact ((nI_eq (by omega) (by omega)).mp e1).symm
        rw [(a6 p hp).2 ⟨k, c, k1, k2, k3, k4, k5, cln⟩, (b6' p hp).2 ⟨k, c, k1, k2, k3, k4, by rw [← ho1 c k3]; exact k5, by rw [← hpn c k3]; exact cln⟩]
      · rw [(a6 p hp).1 hx, (b6' p hp).1 (fun ⟨k, c, k1, k2, k3, k4, k5⟩ => hx ⟨k, c, k1, k2, k3, k4, by rw [ho1 c k3]; exact k5⟩), v1e]
end ZAH
