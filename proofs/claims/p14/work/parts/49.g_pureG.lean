/-! the system's counts and shapes -/
section ZG
variable {W H n : Nat} {ln : Nat → Nat} {z z0 : zS}
theorem zc_clash (h : zI W H n ln z) {c : Nat} (hc : c < 2 * (W * H)) {a : Int32} (ha : a = -1 ∨ zb_c W H a) {post : Int32 → zS → Prop} (hp : ∀ r, post r z) : zw_Checker_clash ln (nI c) a z post := by
  have hC := h.C
  have ic := h.ic (k := 6) (by omega) (by omega) hc
  rcases ha with rfl | ⟨d, hd, rfl⟩
  · exact zp_if rfl (hp _)
  have id' := h.ic (k := 6) (by omega) (by omega) hd
  refine zp_ifn (zp_n1 (by omega)) ⟨ic, ?_⟩
  by_cases e : z.2 6 (nI c).toNatClampNeg = -1
  · exact zp_if e (hp _)
  refine zp_ifn e ⟨id', ?_⟩
  by_cases e1 : z.2 6 (nI d).toNatClampNeg = -1
  · exact zp_fi e1 (hp _)
  refine zp_fin e1 ⟨ic, id', ?_⟩
  by_cases e2 : z.2 6 (nI c).toNatClampNeg = z.2 6 (nI d).toNatClampNeg
  · exact zp_fi e2 (hp _)
  · exact zp_fin e2 (hp _)
theorem zc_misplaced (h : zI W H n ln z) {post : Int32 → zS → Prop} (hp : ∀ r, post r z) : zw_Checker_misplaced ln z post := by
  have hC := h.C
  refine zq_Lp_I (I := fun q => ∃ v c, c ≤ 2 * (W * H) ∧ q = (v, nI c, z)) (μ := fun q => 2 * (W * H) - q.2.1.toNatClampNeg) ?_ ⟨0, 0, Nat.zero_le _, rfl⟩
  rintro k q ⟨v, c, hc, rfl⟩ hk
  by_cases hl : 2 * (W * H) ≤ c
  · exact zp_if (by rw [h.s3]; exact nI_le hl (by omega)) (hp _)
  have hl' : c < 2 * (W * H) := by omega
  have go : ∀ v, zw_Checker_misplaced_68 ln post k v (nI c) z := fun v => hk _ ⟨v, c + 1, hl', by rw [nI_1]⟩ (zm_lt hl' (by omega))
  refine zp_ifn (by rw [h.s3]; exact nI_ge hl' (by omega)) ⟨h.ic (k := 6) (by omega) (by omega) hl', h.ic (k := 5) (by omega) (by omega) hl', ?_⟩
  by_cases e : z.2 6 (nI c).toNatClampNeg = -1
  · exact zp_if e (go _)
  refine zp_ifn e ⟨h.ic (k := 8) (by omega) (by omega) hl', ?_⟩
  by_cases e1 : z.2 8 (nI c).toNatClampNeg = 0
  · refine zp_fi e1 ?_
    by_cases e2 : z.2 5 (nI c).toNatClampNeg = -1
    · exact zp_if e2 (go _)
    refine zp_ifn e2 ?_
    by_cases e3 : z.2 5 (nI c).toNatClampNeg = z.2 6 (nI c).toNatClampNeg
    · exact zp_if e3 (go _)
    · exact zp_ifn e3 (go _)
  · exact zp_fin e1 (go _)
theorem zc_crowded (h : zI W H n ln z) {post : Int32 → zS → Prop} (hp : ∀ r, post r z) : zw_Checker_crowded ln z post := by
  have hC := h.C
  by_cases e5 : z.1 5 = 0
  · exact zp_if e5 (hp _)
  refine zp_ifn e5 ?_
  refine zq_Lp_I (I := fun q => ∃ v c, c ≤ 2 * (W * H) ∧ q = (v, nI c, z)) (μ := fun q => 2 * (W * H) - q.2.1.toNatClampNeg) ?_ ⟨0, 0, Nat.zero_le _, rfl⟩
  rintro k q ⟨v, c, hc, rfl⟩ hk
  by_cases hl : 2 * (W * H) ≤ c
  · exact zp_if (by rw [h.s3]; exact nI_le hl (by omega)) (hp _)
  have hl' : c < 2 * (W * H) := by omega
  exact zp_ifn (by rw [h.s3]; exact nI_ge hl' (by omega)) (zc_next' h hl' (d := 1) (by omega) (fun r1 h1 => zc_clash h hl' h1 (fun r2 => zc_next' h hl' (d := 3) (by omega) (fun r3 h3 => zc_clash h hl' h3 (fun r4 => hk _ ⟨_, c + 1, hl', by rw [nI_1]⟩ (zm_lt hl' (by omega)))))))
theorem zc_badVias (h : zI W H n ln z) {post : Int32 → zS → Prop} (hp : ∀ r, post r z) : zw_Checker_badVias ln z post := by
  have hC := h.C
  refine zq_Lp_I (I := fun q => ∃ v c, c ≤ W * H ∧ q = (v, nI c, z)) (μ := fun q => W * H - q.2.1.toNatClampNeg) ?_ ⟨0, 0, Nat.zero_le _, rfl⟩
  rintro k q ⟨v, c, hc, rfl⟩ hk
  by_cases hl : W * H ≤ c
  · exact zp_if (by rw [h.s2]; exact nI_le hl (by omega)) (hp _)
  have hl' : c < W * H := by omega
  have go : ∀ v, zw_Checker_badVias_66 ln post k v (nI c) z := fun v => hk _ ⟨v, c + 1, hl', by rw [nI_1]⟩ (zm_lt hl' (by omega))
  refine zp_ifn (by rw [h.s2]; exact nI_ge hl' (by omega)) ⟨h.i7 hl', ?_⟩
  by_cases e : z.2 7 (nI c).toNatClampNeg = 0
  · exact zp_if e (go _)
  refine zp_ifn e ⟨h.ic (k := 6) (by omega) (by omega) (by omega), ?_⟩
  by_cases e1 : z.2 6 (nI c).toNatClampNeg = -1
  · exact zp_if e1 (go _)
  refine zp_ifn e1 ⟨by rw [h.s2, nI_add]; exact h.ic (k := 6) (by omega) (by omega) (by omega), ?_⟩
  by_cases e2 : z.2 6 (nI c + z.1 2).toNatClampNeg = z.2 6 (nI c).toNatClampNeg
  · exact zp_if e2 (go _)
  · exact zp_ifn e2 (go _)
theorem zc_count (h : zI W H n ln z) {a : Int32} {post : Int32 → zS → Prop} (hp : ∀ r z', zJ W H n ln z z' → post r z') : zw_Checker_count ln a z post :=
  ⟨fun _ => zc_misplaced h (fun r => hp _ _ (zJ.rf h)), fun _ => zc_crowded h (fun r => hp _ _ (zJ.rf h)), fun _ => zc_badVias h (fun r => hp _ _ (zJ.rf h)), fun _ => zc_loose h hp⟩
/-- a shape begins at the cell -/
abbrev zb_st (W H : Nat) (f : Nat → Int32) (c : Nat) : Prop := ¬ f c = -1 ∧ (zg_B W H c 0 = -1 ∨ ¬ f (zg_B W H c 0).toNatClampNeg = f c)
/-- how many shapes begin before the cell -/
def zb_sn (W H : Nat) (f : Nat → Int32) (c : Nat) : Nat := zb_ct (fun j => if zb_st W H f j then 1 else 0) c
theorem zb_sn_1 {W H : Nat} {f : Nat → Int32} {c : Nat} (h : zb_st W H f c) : zb_sn W H f (c + 1) = zb_sn W H f c + 1 := by
  show zb_ct _ c + (if (if zb_st W H f c then (1 : Int32) else 0) = 0 then 0 else 1) = _
  rw [if_pos h, if_neg (by decide)]
  rfl
theorem zb_sn_0 {W H : Nat} {f : Nat → Int32} {c : Nat} (h : ¬ zb_st W H f c) : zb_sn W H f (c + 1) = zb_sn W H f c := by
  show zb_ct _ c + (if (if zb_st W H f c then (1 : Int32) else 0) = 0 then 0 else 1) = _
  rw [if_neg h, if_pos rfl]
  rfl
theorem zc_isStart (h : zI W H n ln z) {c : Nat} (hc : c < 2 * (W * H)) {post : Int32 → zS → Prop} (h1 : zb_st W H (z.2 6) c → post 1 z) (h0 : ¬ zb_st W H (z.2 6) c → post 0 z) : zw_Shapes_isStart ln (nI c) z post := by
  have hC := h.C
  refine ⟨h.ic (k := 6) (by omega) (by omega) hc, ?_⟩
  rw [h.ci hc]
  refine zc_nx h hc (d := 0) (by omega) (fun er => ?_) (fun d hd er => ?_)
  · by_cases e : z.2 6 c = -1
    · exact zp_if e ⟨zp_b0, h0 (fun hs => hs.1 e)⟩
    · exact zp_ifn e (zp_if rfl ⟨zp_b1, h1 ⟨e, Or.inl er⟩⟩)
  · have e2 : (zg_B W H c 0).toNatClampNeg = d := by rw [er]; exact h.ci hd
    by_cases e : z.2 6 c = -1
    · exact zp_if e ⟨zp_b0, h0 (fun hs => hs.1 e)⟩
    refine zp_ifn e (zp_ifn (zp_n1 (by omega)) ⟨h.ic (k := 6) (by omega) (by omega) hd, ?_⟩)
    rw [h.ci hd]
    by_cases e1 : z.2 6 d = z.2 6 c
    · refine zp_if e1 ⟨zp_b0, h0 (fun hs => ?_)⟩
      rcases hs.2 with k1 | k1
      · exact zp_n1 (c := d) (by omega) (er.symm.trans k1)
      · rw [e2] at k1
        exact k1 e1
    · exact zp_ifn e1 ⟨zp_b1, h1 ⟨e, Or.inr (by rw [e2]; exact e1)⟩⟩
theorem zc_shapes (h : zI W H n ln z) {post : Int32 → zS → Prop} (hp : post (nI (zb_sn W H (z.2 6) (2 * (W * H)))) z) : zw_Gr_shapes ln z post := by
  have hC := h.C
  refine zq_Lp_I (I := fun q => ∃ c, c ≤ 2 * (W * H) ∧ q = (nI (zb_sn W H (z.2 6) c), nI c, z)) (μ := fun q => 2 * (W * H) - q.2.1.toNatClampNeg) ?_ ⟨0, Nat.zero_le _, rfl⟩
  rintro k q ⟨c, hc, rfl⟩ hk
  by_cases hl : 2 * (W * H) ≤ c
  · have e : c = 2 * (W * H) := by omega
    subst e
    exact zp_if (by rw [h.s3]; exact nI_le hl (by omega)) hp
  have hl' : c < 2 * (W * H) := by omega
  refine zp_ifn (by rw [h.s3]; exact nI_ge hl' (by omega)) (zc_isStart h hl' (fun hs => ?_) (fun hs => ?_))
  · exact zp_ifn (by decide) (hk _ ⟨c + 1, hl', by rw [nI_1, nI_1, zb_sn_1 hs]⟩ (zm_lt hl' (by omega)))
  · exact zp_if rfl (hk _ ⟨c + 1, hl', by rw [nI_1, zb_sn_0 hs]⟩ (zm_lt hl' (by omega)))
theorem zc_startOf (h : zI W H n ln z) {a : Int32} {post : Int32 → zS → Prop} (h1 : ∀ c, c < 2 * (W * H) → zb_st W H (z.2 6) c → nI (zb_sn W H (z.2 6) c) = a → post (nI c) z) (h0 : (∀ c, c < 2 * (W * H) → zb_st W H (z.2 6) c → ¬ nI (zb_sn W H (z.2 6) c) = a) → post (-1) z) : zw_Shapes_startOf ln a z post := by
  have hC := h.C
  refine zq_Lp_I (I := fun q => ∃ c, c ≤ 2 * (W * H) ∧ (∀ i, i < c → zb_st W H (z.2 6) i → ¬ nI (zb_sn W H (z.2 6) i) = a) ∧ q = (a, nI (zb_sn W H (z.2 6) c), nI c, z)) (μ := fun q => 2 * (W * H) - q.2.2.1.toNatClampNeg) ?_ ⟨0, Nat.zero_le _, fun i hi => absurd hi (Nat.not_lt_zero _), rfl⟩
  rintro k q ⟨c, hc, hne, rfl⟩ hk
  by_cases hl : 2 * (W * H) ≤ c
  · exact zp_if (by rw [h.s3]; exact nI_le hl (by omega)) (h0 (fun i hi => hne i (by omega)))
  have hl' : c < 2 * (W * H) := by omega
  refine zp_ifn (by rw [h.s3]; exact nI_ge hl' (by omega)) (zc_isStart h hl' (fun hs => zp_ifn (by decide) ?_) (fun hs => zp_if rfl ?_))
  · by_cases e1 : nI (zb_sn W H (z.2 6) c) = a
    · exact zp_fi e1 (h1 c hl' hs e1)
    · refine zp_fin e1 (hk _ ⟨c + 1, hl', fun i hi hst => ?_, by rw [nI_1, nI_1, zb_sn_1 hs]⟩ (zm_lt hl' (by omega)))
      by_cases e : i = c
      · rw [e]
        exact e1
      · exact hne i (by omega) hst
  · refine hk _ ⟨c + 1, hl', fun i hi hst => ?_, by rw [nI_1, zb_sn_0 hs]⟩ (zm_lt hl' (by omega))
    by_cases e : i = c
    · rw [e] at hst
      exact absurd hst hs
    · exact hne i (by omega) hst
theorem zc_lastX (h : zI W H n ln z) {c : Nat} (hc : c < 2 * (W * H)) {post : Int32 → zS → Prop} (hp : ∀ r, post r z) : zw_Shapes_lastX ln (nI c) z post := by
  have hC := h.C
  have hd := h.d
  refine ⟨h.ic (k := 0) (by omega) (by omega) hc, ?_⟩
  rw [h.ci hc, (h.t c hc).1]
  have hW : 0 < W := by omega
  refine zq_Lp_I (I := fun q => ∃ e, e < 2 * (W * H) ∧ q = (nI c, nI (e % W), nI e, z)) (μ := fun q => 2 * (W * H) - q.2.2.1.toNatClampNeg) ?_ ⟨c, hc, rfl⟩
  rintro k q ⟨e, he, rfl⟩ hk
  have hm := Nat.mod_lt e hW
  have e1 : z.1 0 - 1 = nI (W - 1) := by rw [h.s0]; exact nI_sub (b := 1) (by omega)
  by_cases hl : W - 1 ≤ e % W
  · exact zp_if (by rw [e1]; exact nI_le hl (by omega)) (hp _)
  have he1 : e + 1 < 2 * (W * H) := by
    obtain ⟨l, y, x, hl', hy, hx, ee, ex, _, _⟩ := zg_dec (W := W) (H := H) hW (by omega) he
    have := (zg_c (W := W) (H := H) (x := x + 1) hl' hy (by omega)).1
    omega
  refine zp_ifn (by rw [e1]; exact nI_ge (by omega) (by omega)) ⟨by rw [nI_1]; exact h.ic (k := 6) (by omega) (by omega) he1, h.ic (k := 6) (by omega) (by omega) hc, ?_⟩
  by_cases e2 : z.2 6 (nI e + 1).toNatClampNeg = z.2 6 (nI c).toNatClampNeg
  · refine zp_fi e2 (hk _ ⟨e + 1, he1, ?_⟩ (zm_lt he (by omega)))
    rw [nI_1, nI_1, Nat.add_mod, Nat.mod_eq_of_lt (show 1 < W by omega), Nat.mod_eq_of_lt (show e % W + 1 < W by omega)]
  · exact zp_fin e2 (hp _)
theorem zc_tell (h : zI W H n ln z) {c : Nat} (hc : c < 2 * (W * H)) {a : Int32} {post : Int32 → zS → Prop} (hp : ∀ r, post r z) : zw_Shapes_tell ln (nI c) a z post :=
  ⟨fun _ => ⟨fun _ => hp _, fun _ => hp _⟩, fun _ => ⟨h.ic (k := 1) (by omega) (by omega) hc, hp _⟩, fun _ => ⟨h.ic (k := 0) (by omega) (by omega) hc, hp _⟩, fun _ => zc_lastX h hc hp, fun _ => ⟨h.ic (k := 6) (by omega) (by omega) hc, hp _⟩⟩
/-! the calls that change neither nets nor blocks: whatever they answer -/
theorem zc_has (h : zI W H n ln z) (a : Int32) : (∃ m, m < n ∧ a = nI m ∧ ∀ post : Int32 → zS → Prop, post 1 z → zw_Nets_has ln a z post) ∨ ((∀ m, m < n → ¬ a = nI m) ∧ ∀ post : Int32 → zS → Prop, post 0 z → zw_Nets_has ln a z post) := by
  have h6 := h.n6
  by_cases c1 : a < 0
  · exact Or.inr ⟨fun m hm e => nI_pos (n := m) (by omega) (e ▸ c1), fun post hp => zp_if c1 ⟨zp_b0, hp⟩⟩
  by_cases c2 : z.1 4 ≤ a
  · refine Or.inr ⟨fun m hm e => ?_, fun post hp => zp_ifn c1 (zp_if c2 ⟨zp_b0, hp⟩)⟩
    rw [h.s4, e] at c2
    exact nI_ge hm (by omega) c2
  · obtain ⟨m, hm, e⟩ := zp_nat (N := n) (by omega) c1 (by rw [← h.s4]; exact c2)
    exact Or.inl ⟨m, hm, e, fun post hp => zp_ifn c1 (zp_ifn c2 ⟨zp_b1, hp⟩)⟩
theorem zy_route (h : zI W H n ln z) {a : Int32} {o : Nat → Int64} {post : Int32 → zS → (Nat → Int64) → Prop} (hp : ∀ k z' o', zJ W H n ln z z' → post k z' o') : zw_La_h_route ln a z o post := by
  rcases zc_has h a with ⟨m, hm, rfl, hh⟩ | ⟨_, hh⟩
  · exact Or.inl (hh _ (zp_fin (by decide) (zc_lay h hm (fun r z' hJ => hp _ _ _ hJ))))
  · exact Or.inr (hh _ (zp_fi rfl ⟨rfl, hp _ _ _ (zJ.rf h)⟩))
theorem zy_push (h : zI W H n ln z) {a : Int32} {o : Nat → Int64} {post : Int32 → zS → (Nat → Int64) → Prop} (hp : ∀ k z' o', zJ W H n ln z z' → post k z' o') : zw_La_h_push ln a z o post := by
  rcases zc_has h a with ⟨m, hm, rfl, hh⟩ | ⟨_, hh⟩
  · exact Or.inl (hh _ (zp_fin (by decide) (zc_shove h hm (fun r z' hJ => hp _ _ _ hJ))))
  · exact Or.inr (hh _ (zp_fi rfl ⟨rfl, hp _ _ _ (zJ.rf h)⟩))
theorem zy_all (h : zI W H n ln z) {a b : Int32} {o : Nat → Int64} {post : Int32 → zS → (Nat → Int64) → Prop} (hp : ∀ k z' o', zJ W H n ln z z' → post k z' o') : zw_La_h_all ln a b z o post := by
  by_cases c1 : b < 0
  · exact Or.inr (zp_if c1 ⟨rfl, hp _ _ _ (zJ.rf h)⟩)
  by_cases c2 : b ≤ 20
  · exact Or.inl (zp_ifn c1 (zp_if c2 (zc_lineUp h (fun z1 h1 => zc_serve h1.1 (fun z2 h2 => zc_retry h2.1 (fun z3 h3 => zc_loose h3.1 (fun r z4 h4 => hp _ _ _ (((h1.tr h2).tr h3).tr h4))))))))
  · exact Or.inr (zp_ifn c1 (zp_ifn c2 ⟨rfl, hp _ _ _ (zJ.rf h)⟩))
theorem zy_rip (h : zI W H n ln z) {a : Int32} {o : Nat → Int64} {post : Int32 → zS → (Nat → Int64) → Prop} (h0 : (∃ m, m < n ∧ a = nI m) → ∀ z', zJ W H n ln z z' → post 0 z' o) (h1 : (∀ m, m < n → ¬ a = nI m) → post 1 z o) : zw_La_h_rip ln a z o post := by
  rcases zc_has h a with ⟨m, hm, rfl, hh⟩ | ⟨hn, hh⟩
  · exact Or.inl (hh _ (zp_fin (by decide) (zc_strip h hm (fun z' hJ => h0 ⟨m, hm, rfl⟩ _ hJ))))
  · exact Or.inr (hh _ (zp_fi rfl ⟨rfl, h1 hn⟩))
theorem zy_faults (h : zI W H n ln z) {a : Int32} {o : Nat → Int64} {post : Int32 → zS → (Nat → Int64) → Prop} (hp : ∀ k z' o', zJ W H n ln z z' → post k z' o') : zw_La_h_faults ln a z o post := by
  by_cases c1 : a < 0
  · exact Or.inr (zp_if c1 ⟨rfl, hp _ _ _ (zJ.rf h)⟩)
  by_cases c2 : a < 4
  · exact Or.inl (zp_ifn c1 (zp_if c2 (zc_count h (fun r z' hJ => hp _ _ _ hJ))))
  · exact Or.inr (zp_ifn c1 (zp_ifn c2 ⟨rfl, hp _ _ _ (zJ.rf h)⟩))
theorem zy_shape (h : zI W H n ln z) {a b : Int32} {o : Nat → Int64} {post : Int32 → zS → (Nat → Int64) → Prop} (hp : ∀ k z' o', zJ W H n ln z z' → post k z' o') : zw_La_h_shape ln a b z o post := by
  have hC := h.C
  have p1 := fun k o' => hp k z o' (zJ.rf h)
  by_cases c1 : b < 0
  · exact Or.inr (zc_startOf h (fun c hc _ _ => zp_fin (zp_n1 (by omega)) (zp_if c1 (Or.inr ⟨rfl, p1 _ _⟩))) (fun _ => zp_fi rfl (Or.inl ⟨rfl, p1 _ _⟩)))
  by_cases c2 : b < 5
  · by_cases hx : ∀ c, c < 2 * (W * H) → zb_st W H (z.2 6) c → ¬ nI (zb_sn W H (z.2 6) c) = a
    · exact Or.inr (zc_startOf h (fun c hc h1 h2 => absurd h2 (hx c hc h1)) (fun _ => zp_fi rfl (Or.inl ⟨rfl, p1 _ _⟩)))
    · exact Or.inl (zc_startOf h (fun c hc h1 h2 => zp_fin (zp_n1 (by omega)) (zp_ifn c1 (zp_if c2 (zc_tell h hc (fun r => p1 _ _))))) (fun hn => absurd hn hx))
  · exact Or.inr (zc_startOf h (fun c hc _ _ => zp_fin (zp_n1 (by omega)) (zp_ifn c1 (zp_ifn c2 (Or.inr ⟨rfl, p1 _ _⟩)))) (fun _ => zp_fi rfl (Or.inl ⟨rfl, p1 _ _⟩)))
end ZG
