/-! the reference's last rounds, and all -/
section ZAQ
variable {W H n : Nat} {g g0 : zS} {σ : zSt}
/-- the reference's own unchanging things -/
def zt_g (vc : Nat) (g : zS) : zSt := (g.1 3, g.2 0, g.2 1, g.2 8, g.2 9, vc)
theorem zt_rd_uq (ok : zt_ok W H n σ) (hY : zt_Y W H n σ g) : ∀ {k : Nat} {o v o1 v1 q w q1 w1 : Nat → Int32} {b b' : Int32}, k ≤ n → (∀ i, i < 2 * (W * H) → o i = q i) → (∀ p, p < W * H → v p = w p) → zt_rd W H σ k o v o1 v1 b → zt_rd W H (zt_g σ.2.2.2.2.2 g) k q w q1 w1 b' → (∀ i, i < 2 * (W * H) → o1 i = q1 i) ∧ (∀ p, p < W * H → v1 p = w1 p) ∧ b = b'
  | 0, o, v, o1, v1, q, w, q1, w1, b, b', _, ho, hv, h, h' => by
    obtain ⟨rfl, rfl, rfl⟩ := h
    obtain ⟨rfl, rfl, rfl⟩ := h'
    exact ⟨ho, hv, rfl⟩
  | k + 1, o, v, o1, v1, q, w, q1, w1, b, b', hkn, ho, hv, h, h' => by
    obtain ⟨x, y, c, h1, h2⟩ := h
    obtain ⟨x', y', c', h1', h2'⟩ := h'
    obtain ⟨u1, u2, u3⟩ := zt_rd_uq ok hY (by omega) ho hv h1 h1'
    subst u3
    have hk : k < n := by omega
    have hd := ok.1
    obtain ⟨s, e, hs, he, es, ee, ps, pe, cs, ce⟩ := ok.en hk
    obtain ⟨y1, y2, y3, y4, y5, y6⟩ := id hY
    have jq : zt_jn W H σ k x y ↔ zt_jn W H (zt_g σ.2.2.2.2.2 g) k x' y' := by
      unfold zt_jn zt_g
      show zf_jn W H (σ.2.2.2.1 k).toNatClampNeg (σ.2.2.2.2.1 k).toNatClampNeg k x y ↔ zf_jn W H (g.2 8 k).toNatClampNeg (g.2 9 k).toNatClampNeg k x' y'
      rw [(y5 k hk).1, (y5 k hk).2, cs, ce]
      exact zf_jn_cg ⟨hd.1, hd.2.2.1⟩ hs he u1 u2
    rcases h2 with ⟨j1, rfl, rfl, rfl⟩ | ⟨j1, r, j2, j3⟩
    · rcases h2' with ⟨_, rfl, rfl, rfl⟩ | ⟨k1, _⟩
      · exact ⟨u1, u2, rfl⟩
      · exact absurd (jq.mp j1) k1
    · rcases h2' with ⟨k1, _⟩ | ⟨_, r', k2, k3⟩
      · exact absurd (jq.mpr k1) j1
      · unfold zt_rt at j2 k2
        rw [cs, ce] at j2
        have k2' : zf_route W H (g.1 3) (g.2 0) (g.2 1) σ.2.2.2.2.2 s e k x' y' r' q1 w1 := by
          have : zf_route W H (g.1 3) (g.2 0) (g.2 1) σ.2.2.2.2.2 (g.2 8 k).toNatClampNeg (g.2 9 k).toNatClampNeg k x' y' r' q1 w1 := k2
          rw [(y5 k hk).1, (y5 k hk).2, cs, ce] at this
          exact this
        obtain ⟨z1, z2, z3⟩ := zf_route_uq y1 y3 y4 ok.2.2.1.1 hs he (by omega) u1 j2 k2'
        subst z1
        refine ⟨z2, fun p hp => z3 p hp (Or.inl (u2 p hp)), ?_⟩
        rcases j3 with ⟨e1, rfl⟩ | ⟨e1, rfl⟩
        · rcases k3 with ⟨_, rfl⟩ | ⟨e2, _⟩
          · rfl
          · exact absurd e1 e2
        · rcases k3 with ⟨e2, _⟩ | ⟨_, rfl⟩
          · exact absurd e2 e1
          · rfl
theorem zd_countx (h : zM W H n g) {post : Int32 → zS → Prop} (hp : ∀ r g', zO W H n g g' → g'.1 4 = g.1 4 → g'.2 2 = g.2 2 → g'.2 3 = g.2 3 → zf_cn (fun k => zf_jn W H (g.2 8 k).toNatClampNeg (g.2 9 k).toNatClampNeg k (g.2 2) (g.2 3)) n r → post r g') : zw_Mo_countOpen g post := by
  have h6 := h.n6
  refine zq_Lp_I (I := fun q => ∃ v c g', c ≤ n ∧ zO W H n g g' ∧ g'.1 4 = g.1 4 ∧ g'.2 2 = g.2 2 ∧ g'.2 3 = g.2 3 ∧ zf_cn (fun k => zf_jn W H (g.2 8 k).toNatClampNeg (g.2 9 k).toNatClampNeg k (g.2 2) (g.2 3)) c v ∧ q = (v, nI c, g')) (μ := fun q => n - q.2.1.toNatClampNeg) ?_ ⟨0, 0, g, Nat.zero_le _, zO.rf h, rfl, rfl, rfl, rfl, rfl⟩
  rintro k q ⟨v, c, g', hc, hO, h4, h2, h3, hcn, rfl⟩ hk
  by_cases hl : n ≤ c
  · have ec : c = n := by omega
    subst ec
    exact zp_if (by rw [hO.1.w5]; exact nI_le hl (by omega)) (hp _ _ hO h4 h2 h3 hcn)
  have hl' : c < n := by omega
  refine zp_ifn (by rw [hO.1.w5]; exact nI_ge hl' (by omega)) (zd_joined hO.1 hl' (fun r g2 hO2 hf hr hiff => ?_))
  obtain ⟨f, rfl⟩ := hf
  have q2 : (zs_r g' 5 f).2 2 = g.2 2 := by rw [zs_rn (by omega)]; exact h2
  have q3 : (zs_r g' 5 f).2 3 = g.2 3 := by rw [zs_rn (by omega)]; exact h3
  have hj : ¬ r = 0 ↔ zf_jn W H (g.2 8 c).toNatClampNeg (g.2 9 c).toNatClampNeg c (g.2 2) (g.2 3) := by
    rw [hiff, h2, hO.2.2 8 (by omega), hO.2.2 9 (by omega)]
    unfold zr_J
    rw [h2, h3, hO.2.2 8 (by omega), hO.2.2 9 (by omega)]
    exact Iff.rfl
  by_cases e : r = 0
  · refine zp_if e (hk _ ⟨v + 1, c + 1, _, hl', hO.tr hO2, h4, q2, q3, ⟨v, hcn, Or.inr ⟨fun hx => hj.mpr hx e, rfl⟩⟩, by rw [nI_1]⟩ (zm_lt hl' (by omega)))
  · refine zp_ifn e (hk _ ⟨v + 0, c + 1, _, hl', hO.tr hO2, h4, q2, q3, ⟨v, hcn, Or.inl ⟨hj.mp e, Int32.add_zero v⟩⟩, by rw [nI_1]⟩ (zm_lt hl' (by omega)))
theorem zd_retryx (ok : zt_ok W H n σ) {oF vF : Nat → Int32} {post : Int32 → zS → Prop} (hp : ∀ g' r, zO W H n g0 g' → g'.1 4 = 0 → zt_Y W H n σ g' → (∀ i, i < 2 * (W * H) → oF i = g'.2 2 i) → (∀ p, p < W * H → vF p = g'.2 3 p) → zf_cn (fun k => zt_jn W H σ k oF vF) n r → post (nI n - r) g') {N : Nat} {o v : Nat → Int32} (hrr : zt_rr W H n σ N o v oF vF) (hO : zO W H n g0 g) (h4 : g.1 4 = 0) (hY : zt_Y W H n σ g) (ho : ∀ i, i < 2 * (W * H) → o i = g.2 2 i) (hv : ∀ p, p < W * H → v p = g.2 3 p) : zq_Lp (zw_Mo_all_225 post) ((1 : Int32), g) := by
  have hn := ok.2.1
  have hd := ok.1
  refine zq_Lp_J (I := fun N q => ∃ (b : Int32) (o v : Nat → Int32) (g : zS), ((¬ b = 0 ∧ ∃ M, M + 1 = N ∧ zt_rr W H n σ M o v oF vF) ∨ (b = 0 ∧ N = 0 ∧ oF = o ∧ vF = v)) ∧ zO W H n g0 g ∧ g.1 4 = 0 ∧ zt_Y W H n σ g ∧ (∀ i, i < 2 * (W * H) → o i = g.2 2 i) ∧ (∀ p, p < W * H → v p = g.2 3 p) ∧ q = (b, g)) (N := N + 1) ?_ ⟨1, o, v, g, Or.inl ⟨by decide, N, rfl, hrr⟩, hO, h4, hY, ho, hv, rfl⟩
  clear hrr hO h4 hY ho hv
  rintro k N q ⟨b, o, v, g, hb, hO, h4, hY, ho, hv, rfl⟩ hk
  rcases hb with ⟨eb, M, eM, hrr⟩ | ⟨eb, _, rfl, rfl⟩
  · refine zp_ifn eb ?_
    cases M with
    | zero => exact False.elim hrr
    | succ M =>
      obtain ⟨o1, v1, b1, hrd, hh⟩ := hrr
      refine zq_Lp_I (I := fun q => ∃ (b2 : Int32) (i : Nat) (g2 : zS), i ≤ n ∧ zO W H n g g2 ∧ g2.1 4 = 0 ∧ zt_rd W H (zt_g σ.2.2.2.2.2 g) i (g.2 2) (g.2 3) (g2.2 2) (g2.2 3) b2 ∧ q = (b2, nI i, g2)) (μ := fun q => n - q.2.1.toNatClampNeg) ?_ ⟨0, 0, g, Nat.zero_le _, zO.rf hO.1, h4, ⟨rfl, rfl, rfl⟩, rfl⟩
      rintro k2 q2 ⟨b2, i, g2, hi, hO2, h42, hrd2, rfl⟩ hk2
      by_cases hl : n ≤ i
      · have ei : i = n := by omega
        subst ei
        obtain ⟨u1, u2, u3⟩ := zt_rd_uq ok hY (Nat.le_refl _) ho hv hrd hrd2
        subst u3
        refine zp_if (by rw [hO2.1.w5]; exact nI_le hl (by omega)) ?_
        rcases hh with ⟨e1, rfl, rfl⟩ | ⟨e1, hrr2⟩
        · exact hk 0 _ (by omega) ⟨b1, _, _, g2, Or.inr ⟨e1, rfl, rfl, rfl⟩, hO.tr hO2, h42, hY.o hO2, u1, u2, rfl⟩
        · exact hk (M + 1) _ (by omega) ⟨b1, o1, v1, g2, Or.inl ⟨e1, M, rfl, hrr2⟩, hO.tr hO2, h42, hY.o hO2, u1, u2, rfl⟩
      have hl' : i < n := by omega
      obtain ⟨s, e, hs, he, es, ee, ps, pe, cs, ce⟩ := ok.en hl'
      have hY2 := hY.o hO2
      refine zp_ifn (by rw [hO2.1.w5]; exact nI_ge hl' (by omega)) (zd_joined hO2.1 hl' (fun r g3 hO3 hf hr hiff => ?_))
      obtain ⟨f, rfl⟩ := hf
      have q2 : (zs_r g2 5 f).2 2 = g2.2 2 := zs_rn (by omega)
      have q3 : (zs_r g2 5 f).2 3 = g2.2 3 := zs_rn (by omega)
      have hj : ¬ r = 0 ↔ zt_jn W H (zt_g σ.2.2.2.2.2 g) i (g2.2 2) (g2.2 3) := by
        rw [hiff, hO2.2.2 8 (by omega), hO2.2.2 9 (by omega)]
        unfold zr_J
        rw [hO2.2.2 8 (by omega), hO2.2.2 9 (by omega)]
        exact Iff.rfl
      have go : ∀ b3 g4, zO W H n g g4 → g4.1 4 = 0 → zt_rd W H (zt_g σ.2.2.2.2.2 g) (i + 1) (g.2 2) (g.2 3) (g4.2 2) (g4.2 3) b3 → zw_Mo_all_268 post k k2 b3 (nI i) g4 := fun b3 g4 hO4 h44 hr4 => hk2 _ ⟨b3, i + 1, g4, hl', hO4, h44, hr4, by rw [nI_1]⟩ (zm_lt hl' (by omega))
      by_cases er : r = 0
      · have nj : ¬ zt_jn W H (zt_g σ.2.2.2.2.2 g) i (g2.2 2) (g2.2 3) := fun hx => hj.mpr hx er
        have hY3 := hY2.o hO3
        refine zp_fi er (zd_find0x hO3.1 ok.2.2.1 hl' hs he (by rw [(hY3.2.2.2.2.1 i hl').1]; exact es) (by rw [(hY3.2.2.2.2.1 i hl').2]; exact ee) hY3.2.1 (fun r4 g4 hO4 hY4 hrt => ?_))
        have hrt' : zt_rt W H (zt_g σ.2.2.2.2.2 g) i (g2.2 2) (g2.2 3) r4 (g4.2 2) (g4.2 3) := by
          unfold zt_rt zt_g
          show zf_route W H (g.1 3) (g.2 0) (g.2 1) σ.2.2.2.2.2 (g.2 8 i).toNatClampNeg (g.2 9 i).toNatClampNeg i (g2.2 2) (g2.2 3) r4 (g4.2 2) (g4.2 3)
          rw [(hY.2.2.2.2.1 i hl').1, (hY.2.2.2.2.1 i hl').2, cs, ce, ← q2, ← q3]
          have a3 : (zs_r g2 5 f).1 3 = g.1 3 := hO2.2.1 3 (by omega)
          have a0 : (zs_r g2 5 f).2 0 = g.2 0 := (zs_rn (by omega)).trans (hO2.2.2 0 (by omega))
          have a1 : (zs_r g2 5 f).2 1 = g.2 1 := (zs_rn (by omega)).trans (hO2.2.2 1 (by omega))
          rw [← a3, ← a0, ← a1]
          exact hrt
        have h44 : g4.1 4 = 0 := hY4.1.trans h42
        by_cases er4 : r4 = -1
        · exact zp_if er4 (go _ g4 ((hO2.tr hO3).tr hO4) h44 ⟨_, _, b2, hrd2, Or.inr ⟨nj, r4, hrt', Or.inl ⟨er4, rfl⟩⟩⟩)
        · exact zp_ifn er4 (go _ g4 ((hO2.tr hO3).tr hO4) h44 ⟨_, _, b2, hrd2, Or.inr ⟨nj, r4, hrt', Or.inr ⟨er4, rfl⟩⟩⟩)
      · exact zp_fin er (go _ _ (hO2.tr hO3) h42 ⟨_, _, b2, hrd2, Or.inl ⟨hj.mp er, q2, q3, rfl⟩⟩)
  · refine zp_if eb (zd_countx hO.1 (fun r g2 hO2 h42 e2 e3 hcn => ?_))
    rw [hO.1.w5]
    refine hp g2 r (hO.tr hO2) (h42.trans h4) (hY.o hO2) (by rw [e2]; exact ho) (by rw [e3]; exact hv) ?_
    -- the same count
    have cg : ∀ k, k < n → (zf_jn W H (g.2 8 k).toNatClampNeg (g.2 9 k).toNatClampNeg k (g.2 2) (g.2 3) ↔ zt_jn W H σ k oF vF) := fun k hk' => by
      obtain ⟨s, e, hs, he, es, ee, ps, pe, cs, ce⟩ := ok.en hk'
      unfold zt_jn
      rw [(hY.2.2.2.2.1 k hk').1, (hY.2.2.2.2.1 k hk').2, cs, ce]
      exact (zf_jn_cg ⟨hd.1, hd.2.2.1⟩ hs he ho hv).symm
    have cn : ∀ N r, N ≤ n → zf_cn (fun k => zf_jn W H (g.2 8 k).toNatClampNeg (g.2 9 k).toNatClampNeg k (g.2 2) (g.2 3)) N r → zf_cn (fun k => zt_jn W H σ k oF vF) N r := fun N => by
      induction N with
      | zero => intro r _ h; exact h
      | succ N ih =>
        rintro r hN ⟨r', h1, h2⟩
        refine ⟨r', ih r' (by omega) h1, ?_⟩
        rcases h2 with ⟨a, b⟩ | ⟨a, b⟩
        · exact Or.inl ⟨(cg N (by omega)).mp a, b⟩
        · exact Or.inr ⟨fun hx => a ((cg N (by omega)).mpr hx), b⟩
    exact cn n r (Nat.le_refl _) hcn
/-- all, from states that go together -/
theorem zd_allx (ok : zt_ok W H n σ) (hY : zt_Y W H n σ g) (h : zM W H n g) {a : Int32} {P : Nat} (hP : P ≤ 20) {o v o' v' : Nat → Int32} {r : Int32} (hal : zt_al W H n σ a P o v r o' v') (ho : ∀ i, i < 2 * (W * H) → o i = g.2 2 i) (hv : ∀ p, p < W * H → v p = g.2 3 p ∨ ∃ c k, c < 2 * (W * H) ∧ c % (W * H) = p ∧ k < n ∧ σ.2.2.1 c = nI k) {post : Int32 → zS → Prop} (hp : ∀ g', zO W H n g g' → g'.1 4 = 0 → (∀ i, i < 2 * (W * H) → o' i = g'.2 2 i) → (∀ p, p < W * H → v' p = g'.2 3 p) → post r g') : zw_Mo_all a (nI P) g post := by
  have h6 := h.n6
  have hC := h.C
  obtain ⟨o1, v1, lf, N1, o2, v2, N2, x, hst, hod, hsv, hrr, hcn, er⟩ := hal
  refine zp_ifn (nI_pos (by omega)) (zp_if (nI_le (b := 20) hP (by omega)) (zp_if (by rw [zs_ss]; decide) ?_))
  have hO0 : zO W H n g (zs_s g 4 0) := (zO.rf h).num (by omega)
  -- the clearing of every net, with what it does
  refine zq_Lp_I (I := fun q => ∃ i g1, i ≤ n ∧ zO W H n g g1 ∧ g1.1 4 = 0 ∧ zt_st W H (zt_g σ.2.2.2.2.2 g) i (g.2 2) (g.2 3) (g1.2 2) (g1.2 3) ∧ q = (a, nI P, nI i, g1)) (μ := fun q => n - q.2.2.1.toNatClampNeg) ?_ ⟨0, _, Nat.zero_le _, hO0, zs_ss, ⟨rfl, rfl⟩, rfl⟩
  rintro k0 q0 ⟨i0, g1, hi0, hO1, h41, hst1, rfl⟩ hk0
  by_cases hl0 : n ≤ i0
  · have ei : i0 = n := by omega
    subst ei
    -- the same clearing on both sides
    have uq : ∀ k o v o1 v1 q1 w1, k ≤ i0 → (∀ i, i < 2 * (W * H) → o i = g.2 2 i) → (∀ p, p < W * H → v p = g.2 3 p ∨ ∃ c k, c < 2 * (W * H) ∧ c % (W * H) = p ∧ k < i0 ∧ σ.2.2.1 c = nI k) → zt_st W H σ k o v o1 v1 → zt_st W H (zt_g σ.2.2.2.2.2 g) k (g.2 2) (g.2 3) q1 w1 → (∀ i, i < 2 * (W * H) → o1 i = q1 i) ∧ ∀ p, p < W * H → v1 p = w1 p ∨ ∃ c k, c < 2 * (W * H) ∧ c % (W * H) = p ∧ k < i0 ∧ σ.2.2.1 c = nI k := by
      intro k
      induction k with
      | zero =>
        rintro o v o1 v1 q1 w1 _ ho hv ⟨rfl, rfl⟩ ⟨rfl, rfl⟩
        exact ⟨ho, hv⟩
      | succ k ih =>
        rintro o v o1 v1 q1 w1 hk ho hv ⟨x, y, a1, a2, a3⟩ ⟨x', y', b1, b2, b3⟩
        obtain ⟨u1, u2⟩ := ih o v x y x' y' (by omega) ho hv a1 b1
        obtain ⟨s, e, hs, he, es, ee, ps, pe, cs, ce⟩ := ok.en (m := k) (by omega)
        have b2' : zf_clr W H s e k x' q1 := by
          have : zf_clr W H (g.2 8 k).toNatClampNeg (g.2 9 k).toNatClampNeg k x' q1 := b2
          rw [(hY.2.2.2.2.1 k (by omega)).1, (hY.2.2.2.2.1 k (by omega)).2, cs, ce] at this
          exact this
        rw [cs, ce] at a2
        refine ⟨zf_clr_uq u1 a2 b2', fun p hp => ?_⟩
        rcases u2 p hp with hx | hx
        · exact Or.inl (zf_cv_uq u1 a3 b3 hp (Or.inl hx))
        · exact Or.inr hx
    obtain ⟨u1, u2⟩ := uq i0 o v o1 v1 _ _ (Nat.le_refl _) ho hv hst hst1
    refine zp_if (by rw [hO1.1.w5]; exact nI_le hl0 (by omega)) (zd_standx ok (hY.o hO1) hO1.1 (fun g2 hO2 hN2 hR2 e6 hod2 => ?_))
    have elf := zf_od_uq ok.2.1 hod hod2
    have hL2 : zb_L i0 (g2.1 6) (g2.2 10) := by
      refine ⟨i0, h6, e6, fun i hi => hod2.1 i hi, fun i j hi hj e => ?_⟩
      obtain ⟨m, hm, em⟩ := hod2.1 i hi
      have em' : g2.2 10 j = nI m := e ▸ em
      rcases Nat.lt_trichotomy i j with hx | hx | hx
      · have := hod2.2 i j m m hx hj hm hm em em'
        unfold zf_lt at this
        omega
      · exact hx
      · have := hod2.2 j i m m hx hi hm hm em' em
        unfold zf_lt at this
        omega
    have h42 : g2.1 4 = 0 := by rw [hN2 4 (by omega)]; exact h41
    refine zd_servex (g0 := g) ok hP (fun g3 hO3 h43 hY3 ho3 hv3 => zd_retryx (g0 := g) ok (fun g4 x' hO4 h44 hY4 ho4 hv4 hcn' => ?_) hrr hO3 h43 hY3 ho3 hv3) hsv (Nat.zero_le _) (hO1.tr hO2) h42 ((hY.o hO1).o hO2) (by rw [hR2 2 (by omega)]; exact u1) (fun c k hc hk e => zt_st_k ok (Nat.le_refl _) hst c k hc hk e) (fun p hpp => ?_) h6 e6 hL2 (fun i hi => (elf i hi).symm)
    · have : x' = x := zf_cn_uq (fun _ _ => Iff.rfl) hcn' hcn
      rw [this, ← er]
      exact hp g4 hO4 h44 ho4 hv4
    · rw [hR2 3 (by omega)]
      rcases u2 p hpp with hx | ⟨c, k, c1, c2, c3, c4⟩
      · exact Or.inl hx
      · obtain ⟨i, hi, ei⟩ := zf_od_on ok.2.1 hod c3
        exact Or.inr ⟨c, k, i, c1, c2, c3, c4, hi, ei⟩
  · have hl0' : i0 < n := by omega
    obtain ⟨s, e, hs, he, es, ee, ps, pe, cs, ce⟩ := ok.en hl0'
    have y5 := (hY.o hO1).2.2.2.2.1
    refine zp_ifn (by rw [hO1.1.w5]; exact nI_ge hl0' (by omega)) (zd_clear hO1.1 hl0' (fun g2 hO2 hCl => hk0 _ ⟨i0 + 1, g2, hl0', hO1.tr hO2, by rw [hCl.1]; exact h41, ⟨_, _, hst1, ?_, ?_⟩, by rw [nI_1]⟩ (zm_lt hl0' (by omega))))
    · have hf := hCl.f (s0 := s) (e0 := e) (by rw [(y5 i0 hl0').1]; exact es) (by rw [(y5 i0 hl0').2]; exact ee)
      show zf_clr W H (g.2 8 i0).toNatClampNeg (g.2 9 i0).toNatClampNeg i0 (g1.2 2) (g2.2 2)
      rw [(hY.2.2.2.2.1 i0 hl0').1, (hY.2.2.2.2.1 i0 hl0').2, cs, ce]
      exact hf.1
    · exact (hCl.f (s0 := s) (e0 := e) (by rw [(y5 i0 hl0').1]; exact es) (by rw [(y5 i0 hl0').2]; exact ee)).2
end ZAQ
