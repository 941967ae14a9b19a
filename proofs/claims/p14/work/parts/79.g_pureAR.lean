/-! both sides, owners too -/
def zR (W H n : Nat) (ln : Nat → Nat) (c g : zS) : Prop :=
  zE W H n ln c g ∧ (∃ vc, 1 ≤ vc ∧ vc ≤ 4 ∧ c.1 8 = nI vc ∧ g.1 2 = nI vc) ∧ (∀ k, k < n → c.2 3 k = g.2 8 k ∧ c.2 4 k = g.2 9 k) ∧ (∀ i, i < 2 * (W * H) → c.2 6 i = g.2 2 i) ∧ zf_sep W H n (g.1 3) (g.2 1) ∧ (∀ p, p < W * H → c.2 7 p = g.2 3 p ∨ ∃ i k, i < 2 * (W * H) ∧ i % (W * H) = p ∧ k < n ∧ c.2 5 i = nI k) ∧ c.1 11 = 0
section ZAR
variable {W H n : Nat} {ln : Nat → Nat} {c c' g g' : zS}
theorem zR.st (h : zR W H n ln c g) : ∃ vc, zt_ok W H n (c.1 5, c.2 8, c.2 5, c.2 3, c.2 4, vc) ∧ zt_X (c.1 5, c.2 8, c.2 5, c.2 3, c.2 4, vc) c ∧ zt_Y W H n (c.1 5, c.2 8, c.2 5, c.2 3, c.2 4, vc) g := by
  obtain ⟨hE, ⟨vc, v1, v4, ec, eg⟩, hpin, ho, hsep, hv, h11⟩ := h
  obtain ⟨hI, hM, h35, hpb⟩ := hE
  refine ⟨vc, ⟨hI.d, hI.n6, ⟨v1, v4⟩, fun k hk => ?_, fun i k hi hk e => ?_⟩, ⟨rfl, ec, rfl, rfl, rfl, rfl⟩, ⟨h35, eg, fun i hi => (hpb i hi).2, fun i hi => (hpb i hi).1, fun k hk => ⟨(hpin k hk).1.symm, (hpin k hk).2.symm⟩, hsep⟩⟩
  · obtain ⟨s, e, hs, he, es, ee, ps, pe⟩ := hM.ends hk
    exact ⟨s, e, hs, he, (hpin k hk).1.trans es, (hpin k hk).2.trans ee, ((hpb s hs).1).trans ps, ((hpb e he).1).trans pe⟩
  · have e' : g.2 1 i = nI k := ((hpb i hi).1).symm.trans e
    show c.2 3 k = nI i ∨ c.2 4 k = nI i
    rw [(hpin k hk).1, (hpin k hk).2]
    exact hM.conv hi hk e'
/-- from one pair of states to the next, where nets, pins and blocks stay -/
theorem zR.nx (h : zR W H n ln c g) (hJ : zJ W H n ln c c') (e8 : c'.1 8 = c.1 8) (hO : zO W H n g g') (ho : ∀ i, i < 2 * (W * H) → c'.2 6 i = g'.2 2 i) (hv : ∀ p, p < W * H → c'.2 7 p = g'.2 3 p ∨ ∃ i k, i < 2 * (W * H) ∧ i % (W * H) = p ∧ k < n ∧ c.2 5 i = nI k) (e11 : c'.1 11 = 0) : zR W H n ln c' g' := by
  obtain ⟨hE, ⟨vc, v1, v4, ec, eg⟩, hpin, _, hsep, _, _⟩ := h
  refine ⟨hE.tr hJ hO, ⟨vc, v1, v4, e8.trans ec, (hO.2.1 2 (by omega)).trans eg⟩, ?_, ho, ?_, ?_, e11⟩
  · rw [hO.2.2 8 (by omega), hO.2.2 9 (by omega), (hJ.2 3 (by omega)).2, (hJ.2 4 (by omega)).2]
    exact hpin
  · rw [hO.2.1 3 (by omega), hO.2.2 1 (by omega)]
    exact hsep
  · rw [(hJ.2 5 (by omega)).2]
    exact hv
theorem zR.code (h : zR W H n ln c g) {v : Int32} : zR W H n ln c (zs_s g 4 v) := h.nx (zJ.rf h.1.1) rfl ((zO.rf h.1.2.1).num (by omega)) h.2.2.2.1 h.2.2.2.2.2.1 h.2.2.2.2.2.2
/-- the nets of both sides are the same ones -/
theorem zR.net' (h : zR W H n ln c g) (a : Int32) : (∃ m, m < n ∧ a = nI m ∧ (∀ post : Int32 → zS → Prop, post 1 c → zw_Nets_has ln a c post) ∧ ∀ post : Int32 → zS → Prop, post 1 g → zw_Mo_isNet a g post) ∨ ((∀ m, m < n → ¬ a = nI m) ∧ (∀ post : Int32 → zS → Prop, post 0 c → zw_Nets_has ln a c post) ∧ ∀ post : Int32 → zS → Prop, post 0 g → zw_Mo_isNet a g post) := by
  rcases zc_has h.1.1 a with ⟨m, hm, e, h1⟩ | ⟨hn, h1⟩
  · rcases zd_isNet h.1.2.1 a with ⟨_, _, _, h2⟩ | ⟨hn', _⟩
    · exact Or.inl ⟨m, hm, e, h1, h2⟩
    · exact absurd e (hn' m hm)
  · rcases zd_isNet h.1.2.1 a with ⟨m, hm, e, _⟩ | ⟨_, h2⟩
    · exact absurd e (hn m hm)
    · exact Or.inr ⟨hn, h1, h2⟩
theorem zyR_route (h : zR W H n ln c g) {a : Int32} {o : Nat → Int64} {post : Int32 → zS → (Nat → Int64) → Int32 → zS → Prop} {K : Int32 → zS → (Nat → Int64) → Prop} (hK : ∀ k c' o', zw_Mo_route a g (fun r g' => post k c' o' r g') → K k c' o') (hp : ∀ k c' o' r g', zR W H n ln c' g' → g'.1 4 = k → (k = 0 → o' 0 = r.toInt64) → post k c' o' r g') : zw_La_h_route ln a c o K := by
  obtain ⟨vc, ok, hX, hY⟩ := h.st
  have hO : ∀ v, zO W H n g (zs_s g 4 v) := fun v => (zO.rf h.1.2.1).num (by omega)
  rcases h.net' a with ⟨m, hm, rfl, h1, h2⟩ | ⟨_, h1, h2⟩
  · refine Or.inl (h1 _ (zp_fin (by decide) (zX_lay ok hX h.1.1 hm (fun r c1 hJ hX1 e11 _ hrt => hK _ _ _ (h2 _ (zp_ifn (by decide) (zp_fi (by rw [zs_ss]) (zY_route ok (hY.o (hO 0)) (hO 0).1 hm hrt h.2.2.2.1 (fun g1 hO1 hY1 ho1 hv1 => hp _ _ _ _ _ (h.nx hJ (hX1.2.1.trans hX.2.1.symm) ((hO 0).tr hO1) ho1 (fun p hpp => ?_) (by rw [e11]; exact h.2.2.2.2.2.2)) (by rw [hY1.1, zs_ss]) (fun _ => ?_))))))))))
    · rcases h.2.2.2.2.2.1 p hpp with hx | hx
      · exact Or.inl (hv1 p hpp (Or.inl hx))
      · exact Or.inr hx
    · show vp_updL o 0 _ 0 = _
      unfold vp_updL
      rw [if_pos rfl]
  · exact Or.inr (h1 _ (zp_fi rfl ⟨rfl, hK _ _ _ (h2 _ (zp_if rfl (zp_fin (by rw [zs_ss]; decide) (hp _ _ _ _ _ h.code zs_ss (fun e => absurd e (by decide))))))⟩))
theorem zyR_push (h : zR W H n ln c g) {a : Int32} {o : Nat → Int64} {post : Int32 → zS → (Nat → Int64) → Int32 → zS → Prop} {K : Int32 → zS → (Nat → Int64) → Prop} (hK : ∀ k c' o', zw_Mo_push a g (fun r g' => post k c' o' r g') → K k c' o') (hp : ∀ k c' o' r g', zR W H n ln c' g' → g'.1 4 = k → (k = 0 → o' 0 = r.toInt64) → post k c' o' r g') : zw_La_h_push ln a c o K := by
  obtain ⟨vc, ok, hX, hY⟩ := h.st
  have hO : ∀ v, zO W H n g (zs_s g 4 v) := fun v => (zO.rf h.1.2.1).num (by omega)
  rcases h.net' a with ⟨m, hm, rfl, h1, h2⟩ | ⟨_, h1, h2⟩
  · refine Or.inl (h1 _ (zp_fin (by decide) (zX_shove ok hX h.1.1 hm (fun r c1 hJ hX1 e11 _ hps => hK _ _ _ (h2 _ (zp_ifn (by decide) (zp_fi (by rw [zs_ss]) (zY_push ok (hY.o (hO 0)) (hO 0).1 hm hps h.2.2.2.1 (fun g1 hO1 hY1 ho1 hv1 _ => hp _ _ _ _ _ (h.nx hJ (hX1.2.1.trans hX.2.1.symm) ((hO 0).tr hO1) ho1 (fun p hpp => ?_) (by rw [e11]; exact h.2.2.2.2.2.2)) (by rw [hY1.1, zs_ss]) (fun _ => ?_))))))))))
    · by_cases hx : ∃ i k, i < 2 * (W * H) ∧ i % (W * H) = p ∧ k < n ∧ c.2 5 i = nI k
      · exact Or.inr hx
      · refine Or.inl (hv1 p hpp ((h.2.2.2.2.2.1 p hpp).imp id (fun hy => absurd hy hx)) (fun x k hxc hxp hk e => absurd ⟨x, k, hxc, hxp, hk, e⟩ hx))
    · show vp_updL o 0 _ 0 = _
      unfold vp_updL
      rw [if_pos rfl]
  · exact Or.inr (h1 _ (zp_fi rfl ⟨rfl, hK _ _ _ (h2 _ (zp_if rfl (zp_fin (by rw [zs_ss]; decide) (hp _ _ _ _ _ h.code zs_ss (fun e => absurd e (by decide))))))⟩))
theorem zyR_all (h : zR W H n ln c g) {a b : Int32} {o : Nat → Int64} {post : Int32 → zS → (Nat → Int64) → Int32 → zS → Prop} {K : Int32 → zS → (Nat → Int64) → Prop} (hK : ∀ k c' o', zw_Mo_all a b g (fun r g' => post k c' o' r g') → K k c' o') (hp : ∀ k c' o' r g', zR W H n ln c' g' → g'.1 4 = k → (k = 0 → o' 0 = r.toInt64) → post k c' o' r g') : zw_La_h_all ln a b c o K := by
  obtain ⟨vc, ok, hX, hY⟩ := h.st
  have bad : zw_Mo_all_11 (fun r g' => post 1 c o r g') a b g := zp_ifn (by rw [zs_ss]; decide) (hp _ _ _ _ _ h.code zs_ss (fun e => absurd e (by decide)))
  by_cases c1 : b < 0
  · exact Or.inr (zp_if c1 ⟨rfl, hK _ _ _ (zp_if c1 bad)⟩)
  by_cases c2 : b ≤ 20
  · obtain ⟨P, hP, rfl⟩ := nI_of2 (M := 20) (n := 20) rfl c1 c2
    refine Or.inl (zX_all ok hX h.1.1 h.2.2.2.2.2.2 hP (fun r c1 hJ hX1 e11 hal => hK _ _ _ (zd_allx ok hY h.1.2.1 hP hal h.2.2.2.1 h.2.2.2.2.2.1 (fun g1 hO1 h4 ho1 hv1 => hp _ _ _ _ _ (h.nx hJ (hX1.2.1.trans hX.2.1.symm) hO1 ho1 (fun p hpp => Or.inl (hv1 p hpp)) e11) h4 (fun _ => ?_)))))
    show vp_updL o 0 _ 0 = _
    unfold vp_updL
    rw [if_pos rfl]
  · exact Or.inr (zp_ifn c1 (zp_ifn c2 ⟨rfl, hK _ _ _ (zp_ifn c1 (zp_ifn c2 bad))⟩))
theorem zyR_rip (h : zR W H n ln c g) {a : Int32} {o : Nat → Int64} {post : Int32 → zS → (Nat → Int64) → zS → Prop} {K : Int32 → zS → (Nat → Int64) → Prop} (hK : ∀ k c' o', zw_Mo_rip a g (fun g' => post k c' o' g') → K k c' o') (hp : ∀ k c' o' g', zR W H n ln c' g' → g'.1 4 = k → post k c' o' g') : zw_La_h_rip ln a c o K := by
  obtain ⟨vc, ok, hX, hY⟩ := h.st
  have hO : ∀ v, zO W H n g (zs_s g 4 v) := fun v => (zO.rf h.1.2.1).num (by omega)
  rcases h.net' a with ⟨m, hm, rfl, h1, h2⟩ | ⟨_, h1, h2⟩
  · obtain ⟨s, e, hs, he, es, ee, ps, pe, cs, ce⟩ := ok.en hm
    have es' : c.2 3 m = nI s := es
    have ee' : c.2 4 m = nI e := ee
    refine Or.inl (h1 _ (zp_fin (by decide) (zx_strip h.1.1 hm hs he es' ee' (fun c1 hJ hOV hclr hcv => hK _ _ _ (h2 _ (zp_ifn (by decide) (zp_fi (by rw [zs_ss]) (zd_clear (hO 0).1 hm (fun g1 hO1 hCl => hp _ _ _ _ (h.nx hJ (by rw [hOV.1]) ((hO 0).tr hO1) ?_ (fun p hpp => ?_) (by rw [hOV.1]; exact h.2.2.2.2.2.2)) (by rw [hCl.1, zs_ss]))))))))))
    all_goals have hf := zr_C.f (g := zs_s g 4 0) (s0 := s) (e0 := e) (show (zs_s g 4 0).2 8 m = nI s from (h.2.2.1 m hm).1.symm.trans es') (show (zs_s g 4 0).2 9 m = nI e from (h.2.2.1 m hm).2.symm.trans ee') hCl
    · exact zf_clr_uq h.2.2.2.1 hclr hf.1
    · rcases h.2.2.2.2.2.1 p hpp with hx | hx
      · exact Or.inl (zf_cv_uq h.2.2.2.1 hcv hf.2 hpp (Or.inl hx))
      · exact Or.inr hx
  · exact Or.inr (h1 _ (zp_fi rfl ⟨rfl, hK _ _ _ (h2 _ (zp_if rfl (zp_fin (by rw [zs_ss]; decide) (hp _ _ _ _ h.code zs_ss))))⟩))
/-! the checker's counts -/
theorem zX_count (h : zI W H n ln c) {a : Int32} {post : Int32 → zS → Prop} (hp : ∀ r c', zJ W H n ln c c' → zc_K c c' → post r c') : zw_Checker_count ln a c post :=
  ⟨fun _ => zc_misplaced h (fun r => hp _ _ (zJ.rf h) zc_K.rf), fun _ => zc_crowded h (fun r => hp _ _ (zJ.rf h) zc_K.rf), fun _ => zc_badVias h (fun r => hp _ _ (zJ.rf h) zc_K.rf), fun _ => zx_loose h (fun r z' hJ hK _ => hp _ _ hJ hK)⟩
theorem zd_faultsx (h : zM W H n g) {a : Int32} {post : Int32 → zS → Prop} (hp : ∀ r g', zO W H n g g' → g'.2 2 = g.2 2 → g'.2 3 = g.2 3 → post r g') : zw_Mo_faults a g post := by
  have hC := h.C
  have hO : ∀ v, zO W H n g (zs_s g 4 v) := fun v => (zO.rf h).num (by omega)
  have bad : zw_Mo_faults_10 post a g := zp_ifn (by rw [zs_ss]; decide) (hp _ _ (hO 1) rfl rfl)
  by_cases c1 : a < 0
  · exact zp_if c1 bad
  by_cases c2 : a ≤ 3
  · have hO := hO 0
    refine zp_ifn c1 (zp_if c2 (zp_if (by rw [zs_ss]; decide) ?_))
    have e2 : (zs_s g 4 0).2 2 = g.2 2 := rfl
    have e3 : (zs_s g 4 0).2 3 = g.2 3 := rfl
    generalize zs_s g 4 0 = g1 at hO e2 e3
    by_cases a3 : a = 3
    · exact zp_fi a3 (zd_countx hO.1 (fun r g2 hO2 _ f2 f3 _ => hp _ _ (hO.tr hO2) (f2.trans e2) (f3.trans e3)))
    refine zp_fin a3 ?_
    by_cases a1 : a = 1
    · exact zp_fi a1 (zd_countNear hO.1 (fun r => hp _ _ hO e2 e3))
    refine zp_fin a1 ?_
    refine zq_Lp_I (I := fun q => ∃ v c, c ≤ 2 * (W * H) ∧ q = (a, v, nI c, g1)) (μ := fun q => 2 * (W * H) - q.2.2.1.toNatClampNeg) ?_ ⟨0, 0, Nat.zero_le _, rfl⟩
    rintro k q ⟨v, c, hc, rfl⟩ hk
    unfold zw_Mo_faults_51
    dsimp only
    refine zd_many hO.1 ?_
    by_cases hl : 2 * (W * H) ≤ c
    · exact zp_if (nI_le hl (by omega)) (hp _ _ hO e2 e3)
    have hl' : c < 2 * (W * H) := by omega
    have ic := h.ic hl'
    have go : ∀ v, zw_Mo_faults_187 post k a v (nI c) g1 := fun v => hk _ ⟨v, c + 1, hl', by rw [nI_1]⟩ (zm_lt hl' (by omega))
    have g165 : ∀ s u, zw_Mo_faults_165 post k a v (nI c) s u g1 := fun s u => by
      by_cases a0 : a = 0
      · refine zp_fi a0 ?_
        by_cases es : s = 0
        · exact zp_if es (go _)
        · exact zp_ifn es (go _)
      · refine zp_fin a0 ?_
        by_cases eu : u = 0
        · exact zp_if eu (go _)
        · exact zp_ifn eu (go _)
    have g101 : ∀ s, zw_Mo_faults_101 post k a v (nI c) s g1 := fun s => by
      have e01 : g1.1 0 * g1.1 1 = nI (W * H) := by rw [hO.1.w0, hO.1.w1, nI_mul]
      unfold zw_Mo_faults_101
      rw [e01]
      by_cases hlA : W * H ≤ c
      · exact zp_if (nI_le hlA (by omega)) (g165 _ _)
      refine zp_ifn (nI_ge (by omega) (by omega)) ⟨h.i81 (by omega), ?_⟩
      by_cases e3 : g1.2 3 (nI c).toNatClampNeg = 0
      · exact zp_if e3 (g165 _ _)
      refine zp_ifn e3 ⟨ic, ?_⟩
      by_cases e2 : g1.2 2 (nI c).toNatClampNeg = -1
      · exact zp_if e2 (g165 _ _)
      refine zp_ifn e2 ⟨ic, by rw [nI_add]; exact h.ic (by omega), ?_⟩
      by_cases e4 : g1.2 2 (nI c).toNatClampNeg = g1.2 2 (nI c + nI (W * H)).toNatClampNeg
      · exact zp_if e4 (g165 _ _)
      · exact zp_ifn e4 (g165 _ _)
    refine zp_ifn (nI_ge hl' (by omega)) ⟨ic, ?_⟩
    by_cases e2 : g1.2 2 (nI c).toNatClampNeg = -1
    · exact zp_if e2 (g101 _)
    refine zp_ifn e2 ⟨ic, ?_⟩
    by_cases e0 : g1.2 0 (nI c).toNatClampNeg = 0
    · exact zp_fi e0 ⟨ic, ic, zd_other (fun _ _ => zp_ifn (by decide) (g101 _)) (fun _ => zp_if rfl (g101 _))⟩
    · exact zp_fin e0 (g101 _)
  · exact zp_ifn c1 (zp_ifn c2 bad)
theorem zyR_faults (h : zR W H n ln c g) {a : Int32} {o : Nat → Int64} {post : Int32 → zS → (Nat → Int64) → Int32 → zS → Prop} {K : Int32 → zS → (Nat → Int64) → Prop} (hK : ∀ k c' o', zw_Mo_faults a g (fun r g' => post k c' o' r g') → K k c' o') (hp : ∀ k c' o' r g', zR W H n ln c' g' → post k c' o' r g') : zw_La_h_faults ln a c o K := by
  have ref : ∀ k c1 o1, zJ W H n ln c c1 → zc_K c c1 → K k c1 o1 := fun k c1 o1 hJ hKK => hK _ _ _ (zd_faultsx h.1.2.1 (fun r g1 hO e2 e3 => hp _ _ _ _ _ (h.nx hJ (hKK.1 8 (by omega)) hO (by rw [hKK.2 6 (by omega) (by omega), e2]; exact h.2.2.2.1) (by rw [hKK.2 7 (by omega) (by omega), e3]; exact h.2.2.2.2.2.1) (by rw [hKK.1 11 (by omega)]; exact h.2.2.2.2.2.2))))
  by_cases c1 : a < 0
  · exact Or.inr (zp_if c1 ⟨rfl, ref _ _ _ (zJ.rf h.1.1) zc_K.rf⟩)
  by_cases c2 : a < 4
  · exact Or.inl (zp_ifn c1 (zp_if c2 (zX_count h.1.1 (fun r c1 hJ hKK => ref _ _ _ hJ hKK))))
  · exact Or.inr (zp_ifn c1 (zp_ifn c2 ⟨rfl, ref _ _ _ (zJ.rf h.1.1) zc_K.rf⟩))
/-! shapes -/
theorem zb_st_cg (hW : 2 ≤ W) (hH : 2 ≤ H) (hA : W * H ≤ 81) {f q : Nat → Int32} (hf : ∀ i, i < 2 * (W * H) → f i = q i) {i : Nat} (hi : i < 2 * (W * H)) : zb_st W H f i ↔ zb_st W H q i := by
  unfold zb_st
  rw [hf i hi]
  rcases zg_B_in (W := W) (H := H) (c := i) (d := 0) hW hH hi with e | ⟨j, hj, e⟩
  · rw [e]
    exact ⟨fun x => ⟨x.1, Or.inl rfl⟩, fun x => ⟨x.1, Or.inl rfl⟩⟩
  · rw [e, nI_clamp (by omega), hf j hj]
theorem zb_sn_cg (hW : 2 ≤ W) (hH : 2 ≤ H) (hA : W * H ≤ 81) {f q : Nat → Int32} (hf : ∀ i, i < 2 * (W * H) → f i = q i) {i : Nat} (hi : i ≤ 2 * (W * H)) : zb_sn W H f i = zb_sn W H q i := by
  unfold zb_sn
  refine zb_ct_cg (fun j hj => ?_)
  have := zb_st_cg hW hH hA hf (i := j) (by omega)
  by_cases e : zb_st W H f j
  · rw [if_pos e, if_pos (this.mp e)]
  · rw [if_neg e, if_neg (fun x => e (this.mpr x))]
end ZAR
