/-! a route, exactly, on both sides -/
section ZAC
variable {W H n : Nat} {ln : Nat → Nat} {z z0 : zS}
/-- all but owners, vias and the finder's rows is as it was -/
def zc_G (z z' : zS) : Prop := (∀ k, k ≠ 7 → k ≠ 9 → k ≠ 10 → z'.1 k = z.1 k) ∧ ∀ k, k ≠ 6 → k ≠ 7 → k ≠ 12 → k ≠ 13 → k ≠ 14 → k ≠ 15 → k ≠ 16 → z'.2 k = z.2 k
theorem zc_G.rf {z : zS} : zc_G z z := ⟨fun _ _ _ _ => rfl, fun _ _ _ _ _ _ _ _ => rfl⟩
theorem zc_G.tr {a b c : zS} (h : zc_G a b) (h' : zc_G b c) : zc_G a c := ⟨fun k k1 k2 k3 => (h'.1 k k1 k2 k3).trans (h.1 k k1 k2 k3), fun k k1 k2 k3 k4 k5 k6 k7 => (h'.2 k k1 k2 k3 k4 k5 k6 k7).trans (h.2 k k1 k2 k3 k4 k5 k6 k7)⟩
theorem zc_F.g {z z' : zS} (h : zc_F z z') : zc_G z z' := ⟨h.1, fun k _ _ k12 k13 k14 k15 k16 => h.2 k k12 k13 k14 k15 k16⟩
/-- only owners and vias have changed -/
def zc_OV (z z' : zS) : Prop := z'.1 = z.1 ∧ ∀ k, k ≠ 6 → k ≠ 7 → z'.2 k = z.2 k
theorem zc_OV.rf {z : zS} : zc_OV z z := ⟨rfl, fun _ _ _ => rfl⟩
theorem zc_OV.tr {a b c : zS} (h : zc_OV a b) (h' : zc_OV b c) : zc_OV a c := ⟨h'.1.trans h.1, fun k k1 k2 => (h'.2 k k1 k2).trans (h.2 k k1 k2)⟩
theorem zc_OV.g {z z' : zS} (h : zc_OV z z') : zc_G z z' := ⟨fun k _ _ _ => by rw [h.1], fun k k6 k7 _ _ _ _ _ => h.2 k k6 k7⟩
theorem zx_clear (h : zI W H n ln z) {m : Nat} {post : zS → Prop} (hp : ∀ z', zJ W H n ln z z' → zc_OV z z' → (∀ c, c < 2 * (W * H) → z'.2 6 c = if z.2 6 c = nI m then -1 else z.2 6 c) → zf_cv W H m (z.2 6) (z.2 7) (z'.2 7) → post z') : zw_Layout_clear ln (nI m) z post := by
  have hC := h.C
  have hd := h.d
  refine zq_Lp_I (I := fun q => ∃ i z', i ≤ 2 * (W * H) ∧ zJ W H n ln z z' ∧ zc_OV z z' ∧ (∀ c, c < 2 * (W * H) → z'.2 6 c = if c < i ∧ z.2 6 c = nI m then -1 else z.2 6 c) ∧ (∀ p, p < W * H → ((∃ c, c < i ∧ c % (W * H) = p ∧ z.2 6 c = nI m) → z'.2 7 p = 0) ∧ ((¬ ∃ c, c < i ∧ c % (W * H) = p ∧ z.2 6 c = nI m) → z'.2 7 p = z.2 7 p)) ∧ q = (nI m, nI i, z')) (μ := fun q => 2 * (W * H) - q.2.1.toNatClampNeg) ?_ ⟨0, z, Nat.zero_le _, zJ.rf h, zc_OV.rf, fun c hc => by rw [if_neg (fun hx => absurd hx.1 (Nat.not_lt_zero _))], fun p hp => ⟨fun ⟨c, hc, _⟩ => absurd hc (Nat.not_lt_zero _), fun _ => rfl⟩, rfl⟩
  rintro k q ⟨i, z', hi, hJ, hOV, ho, hv, rfl⟩ hk
  have h' := hJ.1
  by_cases hl : 2 * (W * H) ≤ i
  · have ei : i = 2 * (W * H) := by omega
    subst ei
    refine zp_if (by rw [h'.s3]; exact nI_le hl (by omega)) (hp z' hJ hOV (fun c hc => ?_) (fun p hp' => hv p hp'))
    rw [ho c hc]
    by_cases e : z.2 6 c = nI m
    · rw [if_pos ⟨hc, e⟩, if_pos e]
    · rw [if_neg (fun hx => e hx.2), if_neg e]
  have hl' : i < 2 * (W * H) := by omega
  have ei : z'.2 6 i = z.2 6 i := by rw [ho i hl', if_neg (fun hx => absurd hx.1 (Nat.lt_irrefl _))]
  refine zp_ifn (by rw [h'.s3]; exact nI_ge hl' (by omega)) ⟨h'.ic (k := 6) (by omega) (by omega) hl', ?_⟩
  rw [h.ci hl', ei]
  by_cases e : z.2 6 i = nI m
  · have hJ1 := hJ.put (k := 6) (i := nI i) (v := -1) (by omega) (by omega) zb_R6n
    refine zp_fi e ⟨h'.ic (k := 6) (by omega) (by omega) hl', zc_placeOf hJ1.1 hl' (fun p hp1 ep => ⟨hJ1.1.i7 hp1, hk _ ⟨i + 1, zs_a (zs_a z' 6 (nI i) (-1)) 7 (nI p) (vp_nar .boolean 0), hl', hJ1.put (k := 7) (by omega) (by omega) (zb_Rb (by omega)), hOV.tr ⟨rfl, fun k k6 k7 => by rw [zs_an k7, zs_an k6]⟩, fun c hc => ?_, fun p' hp' => ?_, by rw [nI_1]⟩ (zm_lt hl' (by omega))⟩)⟩
    · rw [zs_an (by omega), zs_a2, if_pos rfl, h.ci hl']
      by_cases ec : c = i
      · rw [ec, pk_us, if_pos ⟨by omega, e⟩]
      · rw [pk_un ec, ho c hc]
        by_cases e2 : z.2 6 c = nI m
        · by_cases e3 : c < i
          · rw [if_pos ⟨e3, e2⟩, if_pos ⟨by omega, e2⟩]
          · rw [if_neg (fun hx => e3 hx.1), if_neg (fun hx => by omega)]
        · rw [if_neg (fun hx => e2 hx.2), if_neg (fun hx => e2 hx.2)]
    · rw [zs_a2, if_pos rfl, zs_an (by omega), nI_clamp (by omega)]
      by_cases epp : p' = p
      · subst epp
        rw [pk_us]
        exact ⟨fun _ => rfl, fun hx => absurd ⟨i, by omega, ep.symm, e⟩ hx⟩
      · rw [pk_un epp]
        refine ⟨fun ⟨c, hc, hcp, hcm⟩ => (hv p' hp').1 ⟨c, ?_, hcp, hcm⟩, fun hx => (hv p' hp').2 (fun ⟨c, hc, hcp, hcm⟩ => hx ⟨c, by omega, hcp, hcm⟩)⟩
        have : c ≠ i := fun hci => epp (by rw [← hcp, hci, ← ep])
        omega
  · refine zp_fin e (hk _ ⟨i + 1, z', hl', hJ, hOV, fun c hc => ?_, fun p' hp' => ⟨fun ⟨c, hc, hcp, hcm⟩ => (hv p' hp').1 ⟨c, ?_, hcp, hcm⟩, fun hx => (hv p' hp').2 (fun ⟨c, hc, hcp, hcm⟩ => hx ⟨c, by omega, hcp, hcm⟩)⟩, by rw [nI_1]⟩ (zm_lt hl' (by omega)))
    · rw [ho c hc]
      by_cases e2 : z.2 6 c = nI m
      · have : c ≠ i := fun hci => e (by rw [← hci]; exact e2)
        by_cases e3 : c < i
        · rw [if_pos ⟨e3, e2⟩, if_pos ⟨by omega, e2⟩]
        · rw [if_neg (fun hx => e3 hx.1), if_neg (fun hx => by omega)]
      · rw [if_neg (fun hx => e2 hx.2), if_neg (fun hx => e2 hx.2)]
    · have : c ≠ i := fun hci => e (by rw [← hci]; exact hcm)
      omega
theorem zx_restore (h : zI W H n ln z) {m s0 e0 : Nat} (hm : m < n) (hs0 : s0 < 2 * (W * H)) (he0 : e0 < 2 * (W * H)) (es0 : z.2 3 m = nI s0) (ee0 : z.2 4 m = nI e0) {post : zS → Prop} (hp : ∀ z', zJ W H n ln z z' → zc_OV z z' → z'.2 6 = upd (upd (z.2 6) s0 (nI m)) e0 (nI m) → z'.2 7 = z.2 7 → post z') : zw_Layout_restorePins ln (nI m) z post := by
  have h6 := h.n6
  have cm : (nI m).toNatClampNeg = m := nI_clamp (by omega)
  unfold zw_Layout_restorePins
  have e3 : (zs_a z 6 (nI s0) (nI m)).2 4 = z.2 4 := zs_an (by omega)
  rw [cm, es0, e3, ee0]
  refine ⟨h.i6 (by omega) (by omega), h.ic (k := 6) (by omega) (by omega) hs0, h.i6 (by omega) (by omega), h.ic (k := 6) (by omega) (by omega) he0, hp _ (((zJ.rf h).put (by omega) (by omega) (zb_R6 hm)).put (by omega) (by omega) (zb_R6 hm)) ⟨rfl, fun k k6 _ => by rw [zs_an k6, zs_an k6]⟩ ?_ ?_⟩
  · rw [zs_a2, if_pos rfl, zs_a2, if_pos rfl, h.ci hs0, h.ci he0]
  · rw [zs_an (by omega), zs_an (by omega)]
theorem zf_clr_of {m s0 e0 : Nat} (hs0 : s0 < 2 * (W * H)) (he0 : e0 < 2 * (W * H)) (hC : 2 * (W * H) ≤ 162) {o o1 : Nat → Int32} (h : ∀ c, c < 2 * (W * H) → o1 c = if o c = nI m then -1 else o c) : zf_clr W H s0 e0 m o (upd (upd o1 s0 (nI m)) e0 (nI m)) := fun c hc => by
  by_cases e : c = e0
  · rw [e, pk_us, if_pos (Or.inr rfl)]
  · rw [pk_un e]
    by_cases e' : c = s0
    · rw [e', pk_us, if_pos (Or.inl rfl)]
    · rw [pk_un e', if_neg (fun hx => hx.elim (fun hx => e' ((nI_eq (by omega) (by omega)).mp hx)) (fun hx => e ((nI_eq (by omega) (by omega)).mp hx)))]
      exact h c hc
theorem zx_strip (h : zI W H n ln z) {m s0 e0 : Nat} (hm : m < n) (hs0 : s0 < 2 * (W * H)) (he0 : e0 < 2 * (W * H)) (es0 : z.2 3 m = nI s0) (ee0 : z.2 4 m = nI e0) {post : zS → Prop} (hp : ∀ z', zJ W H n ln z z' → zc_OV z z' → zf_clr W H s0 e0 m (z.2 6) (z'.2 6) → zf_cv W H m (z.2 6) (z.2 7) (z'.2 7) → post z') : zw_Layout_strip ln (nI m) z post :=
  zx_clear h (fun z1 hJ1 hOV1 ho1 hv1 => zx_restore hJ1.1 hm hs0 he0 (by rw [hOV1.2 3 (by omega) (by omega)]; exact es0) (by rw [hOV1.2 4 (by omega) (by omega)]; exact ee0) (fun z2 hJ2 hOV2 ho2 hv2 => hp z2 (hJ1.tr hJ2) (hOV1.tr hOV2) (by rw [ho2]; exact zf_clr_of hs0 he0 h.C ho1) (by rw [hv2]; exact hv1)))
theorem zb_pl4 {c c' : Nat} (hA : W * H ≤ 81) (hc : c < 2 * (W * H)) (hc' : c' < 2 * (W * H)) (e : zg_B W H c 4 = nI c') : c % (W * H) = c' % (W * H) := by
  unfold zg_B at e
  rw [if_neg (by omega), if_neg (by omega), if_neg (by omega), if_neg (by omega)] at e
  rw [zb_md hc, zb_md hc']
  split at e
  · have := (nI_eq (by omega) (by omega)).mp e
    rw [if_pos (by assumption), if_neg (by omega)]
    omega
  · have := (nI_eq (by omega) (by omega)).mp e
    rw [if_neg (by assumption), if_pos (by omega)]
    omega
theorem zx_layWay (h : zI W H n ln z) {m l : Nat} (hm : m < n) (hl : l < 2 * (W * H)) (e7 : z.1 7 = nI (l + 1)) {post : zS → Prop} (hp : ∀ z', zJ W H n ln z z' → zc_OV z z' → zf_put W H m (z.2 12) l (z.2 6) (z'.2 6) → zf_pv W H (z.2 12) l (z.2 7) (z'.2 7) → post z') : zw_Router_layWay ln (nI m) z post := by
  have hC := h.C
  have hd := h.d
  refine zq_Lp_I (I := fun q => ∃ i z', i ≤ l + 1 ∧ zJ W H n ln z z' ∧ zc_OV z z' ∧ (∀ c, c < 2 * (W * H) → ((∃ k, k < i ∧ z.2 12 k = nI c) → z'.2 6 c = nI m) ∧ ((¬ ∃ k, k < i ∧ z.2 12 k = nI c) → z'.2 6 c = z.2 6 c)) ∧ zf_pv W H (z.2 12) (i - 1) (z.2 7) (z'.2 7) ∧ q = (nI m, nI i, z')) (μ := fun q => (l + 1) - q.2.1.toNatClampNeg) ?_ ⟨0, z, Nat.zero_le _, zJ.rf h, zc_OV.rf, fun c hc => ⟨fun ⟨k, hk, _⟩ => absurd hk (Nat.not_lt_zero _), fun _ => rfl⟩, fun p hp => ⟨fun ⟨k, _, _, hk, _⟩ => absurd hk (Nat.not_lt_zero _), fun _ => rfl⟩, rfl⟩
  rintro k q ⟨i, z', hi, hJ, hOV, ho, hv, rfl⟩ hk
  have h' := hJ.1
  have e7' : z'.1 7 = nI (l + 1) := by rw [hOV.1]; exact e7
  have e12 : z'.2 12 = z.2 12 := hOV.2 12 (by omega) (by omega)
  by_cases hli : l + 1 ≤ i
  · have ei : i = l + 1 := by omega
    subst ei
    refine zp_if (by rw [e7']; exact nI_le hli (by omega)) (hp z' hJ hOV (fun c hc => ⟨fun ⟨k, hk, e⟩ => (ho c hc).1 ⟨k, by omega, e⟩, fun hx => (ho c hc).2 (fun ⟨k, hk, e⟩ => hx ⟨k, by omega, e⟩)⟩) hv)
  have hil : i < l + 1 := by omega
  have ci : (nI i).toNatClampNeg = i := nI_clamp (by omega)
  obtain ⟨c, hc, ec⟩ := h.cell (k := 12) (c := i) (by omega) (by omega)
  rw [ci] at ec
  have hJ1 := hJ.put (k := 6) (i := nI c) (v := nI m) (by omega) (by omega) (zb_R6 hm)
  have ho1 : ∀ c', c' < 2 * (W * H) → ((∃ k, k < i + 1 ∧ z.2 12 k = nI c') → (zs_a z' 6 (nI c) (nI m)).2 6 c' = nI m) ∧ ((¬ ∃ k, k < i + 1 ∧ z.2 12 k = nI c') → (zs_a z' 6 (nI c) (nI m)).2 6 c' = z.2 6 c') := fun c' hc' => by
    rw [zs_a2, if_pos rfl, h.ci hc]
    by_cases e : c' = c
    · subst e
      rw [pk_us]
      exact ⟨fun _ => rfl, fun hx => absurd ⟨i, by omega, ec⟩ hx⟩
    · rw [pk_un e]
      refine ⟨fun ⟨k, hk, ek⟩ => (ho c' hc').1 ⟨k, ?_, ek⟩, fun hx => (ho c' hc').2 (fun ⟨k, hk, ek⟩ => hx ⟨k, by omega, ek⟩)⟩
      have : k ≠ i := fun e' => e ((nI_eq (by omega) (by omega)).mp (by rw [← ek, e', ec]))
      omega
  have hOV1 : zc_OV z (zs_a z' 6 (nI c) (nI m)) := hOV.tr ⟨rfl, fun k k6 _ => zs_an k6⟩
  -- no via at this step
  have go : (∀ c0, 0 < i → c0 < 2 * (W * H) → z.2 12 (i - 1) = nI c0 → ¬ zg_B W H c0 4 = nI c) → zw_Router_layWay_77 ln post k (nI m) (nI i) (zs_a z' 6 (nI c) (nI m)) := fun hx => by
    refine hk _ ⟨i + 1, _, by omega, hJ1, hOV1, ho1, fun p hp' => ?_, by rw [nI_1]⟩ (zm_lt (by omega) (by omega))
    rw [zs_an (by omega)]
    have e : zf_cl W H (z.2 12) (i + 1 - 1) p ↔ zf_cl W H (z.2 12) (i - 1) p := by
      constructor
      · rintro ⟨k, c1, c2, j1, j2, j3, j4, j5, j6, j7⟩
        by_cases ek : k = i - 1
        · subst ek
          rw [show i - 1 + 1 = i by omega, ec] at j5
          have : c = c2 := (nI_eq (by omega) (by omega)).mp j5
          rw [← this] at j6
          exact absurd j6 (hx c1 (by omega) j2 j4)
        · exact ⟨k, c1, c2, by omega, j2, j3, j4, j5, j6, j7⟩
      · rintro ⟨k, c1, c2, j1, r⟩
        exact ⟨k, c1, c2, by omega, r⟩
    rw [e]
    exact hv p hp'
  refine zp_ifn (by rw [e7']; exact nI_ge hil (by omega)) ⟨h'.ic (k := 12) (by omega) (by omega) (by omega), ?_⟩
  rw [ci, e12, ec]
  refine ⟨h'.ic (k := 6) (by omega) (by omega) hc, ?_⟩
  by_cases i0 : i = 0
  · subst i0
    exact zp_if (by decide) (go (fun c0 hx => absurd hx (Nat.lt_irrefl _)))
  refine zp_ifn (nI_nle (by omega) (by omega)) (zc_next hJ1.1 hc (d := 4) (by omega) ?_)
  have e1 : nI i - (1 : Int32) = nI (i - 1) := nI_sub (b := 1) (by omega)
  obtain ⟨c0, hc0, ec0⟩ := h.cell (k := 12) (c := i - 1) (by omega) (by omega)
  rw [nI_clamp (by omega)] at ec0
  rw [e1, nI_clamp (by omega), show (zs_a z' 6 (nI c) (nI m)).2 12 = z.2 12 from by rw [zs_an (by omega), e12], ec0]
  refine ⟨h'.ic (k := 12) (by omega) (by omega) (by omega), ?_⟩
  by_cases e : zg_B W H c 4 = nI c0
  · have e' : zg_B W H c0 4 = nI c := zg_B_inv (d := 4) hd.1 hd.2.2.1 hd.2.2.2.2 hc hc0 (by omega) e
    refine zp_fi e (zc_placeOf hJ1.1 hc (fun p hp1 ep => ⟨hJ1.1.i7 hp1, hk _ ⟨i + 1, zs_a (zs_a z' 6 (nI c) (nI m)) 7 (nI p) (vp_nar .boolean 1), by omega, hJ1.put (k := 7) (by omega) (by omega) (zb_Rb (by omega)), hOV1.tr ⟨rfl, fun k _ k7 => zs_an k7⟩, fun c' hc' => by rw [zs_an (by omega)]; exact ho1 c' hc', fun p' hp' => ?_, by rw [nI_1]⟩ (zm_lt (by omega) (by omega))⟩))
    rw [zs_a2, if_pos rfl, zs_an (by omega), nI_clamp (by omega)]
    have ep' : c0 % (W * H) = p := by rw [ep]; exact zb_pl4 hd.2.2.2.2 hc0 hc e'
    by_cases epp : p' = p
    · subst epp
      rw [pk_us]
      exact ⟨fun _ => rfl, fun hx => absurd ⟨i - 1, c0, c, by omega, hc0, hc, ec0, by rw [show i - 1 + 1 = i by omega]; exact ec, e', ep'⟩ hx⟩
    · rw [pk_un epp]
      have eq : zf_cl W H (z.2 12) (i + 1 - 1) p' ↔ zf_cl W H (z.2 12) (i - 1) p' := by
        constructor
        · rintro ⟨k, c1, c2, j1, j2, j3, j4, j5, j6, j7⟩
          by_cases ek : k = i - 1
          · subst ek
            have : c0 = c1 := (nI_eq (by omega) (by omega)).mp (ec0.symm.trans j4)
            rw [← this, ep'] at j7
            exact absurd j7.symm epp
          · exact ⟨k, c1, c2, by omega, j2, j3, j4, j5, j6, j7⟩
        · rintro ⟨k, c1, c2, j1, r⟩
          exact ⟨k, c1, c2, by omega, r⟩
      rw [eq]
      exact hv p' hp'
  · refine zp_fin e (go (fun c1 _ hc1 ec1 hx => e ?_))
    have : c0 = c1 := (nI_eq (by omega) (by omega)).mp (ec0.symm.trans ec1)
    rw [← this] at hx
    exact zg_B_inv (d := 4) hd.1 hd.2.2.1 hd.2.2.2.2 hc0 hc (by omega) hx
/-- a route: owners and vias before and after, and the answer -/
def zf_route (W H : Nat) (sp : Int32) (fb fp : Nat → Int32) (vc s0 e0 m : Nat) (o v : Nat → Int32) (r : Int32) (o' v' : Nat → Int32) : Prop :=
  ∃ o1 v1 fw l, zf_clr W H s0 e0 m o o1 ∧ zf_cv W H m o v v1 ∧ zf_find W H sp fb fp o1 vc s0 e0 m 0 r fw l ∧ ((r = -1 ∧ (∀ c, c < 2 * (W * H) → o' c = o1 c) ∧ ∀ p, p < W * H → v' p = v1 p) ∨ (¬ r = -1 ∧ zf_put W H m fw l o1 o' ∧ zf_pv W H fw l v1 v'))
theorem zx_lay (h : zI W H n ln z) {m s0 e0 vc : Nat} (hvc : 1 ≤ vc ∧ vc ≤ 4) (hm : m < n) (hs0 : s0 < 2 * (W * H)) (he0 : e0 < 2 * (W * H)) (es0 : z.2 3 m = nI s0) (ee0 : z.2 4 m = nI e0) (evc : z.1 8 = nI vc) {post : Int32 → zS → Prop} (hp : ∀ r z', zJ W H n ln z z' → zc_G z z' → zf_route W H (z.1 5) (z.2 8) (z.2 5) vc s0 e0 m (z.2 6) (z.2 7) r (z'.2 6) (z'.2 7) → post r z') : zw_Router_lay ln (nI m) z post := by
  refine zx_strip h hm hs0 he0 es0 ee0 (fun z1 hJ1 hOV1 hclr hcv => ?_)
  obtain ⟨f, hP, hX⟩ := zr_best (W := W) (H := H) (sp := z1.1 5) (fb := z1.2 8) (fp := z1.2 5) (o := z1.2 6) (s0 := s0) (m := nI m) (p := 0) hvc
  have e5 : z1.1 5 = z.1 5 := by rw [hOV1.1]
  have r8 : z1.2 8 = z.2 8 := hOV1.2 8 (by omega) (by omega)
  have r5 : z1.2 5 = z.2 5 := hOV1.2 5 (by omega) (by omega)
  refine zx_find hvc hJ1.1 hm he0 hs0 (by rw [hOV1.2 3 (by omega) (by omega)]; exact es0) (by rw [hOV1.2 4 (by omega) (by omega)]; exact ee0) (by rw [hOV1.1]; exact evc) hP hX (fun hn z2 hJ2 hF2 => ?_) (fun hl z2 fc l hJ2 hF2 e7 hlC hW => ?_)
  · refine zp_if rfl (hp _ _ (hJ1.tr hJ2) (hOV1.g.tr hF2.g) ⟨z1.2 6, z1.2 7, fun _ => 0, 0, hclr, hcv, ⟨f, ?_, ?_, Or.inl ⟨hn, rfl⟩⟩, Or.inl ⟨rfl, fun c hc => by rw [hF2.2 6 (by omega) (by omega) (by omega) (by omega) (by omega)], fun p hp' => by rw [hF2.2 7 (by omega) (by omega) (by omega) (by omega) (by omega)]⟩⟩)
    · rw [← e5, ← r8, ← r5]
      exact hP
    · rw [← e5, ← r8, ← r5]
      exact hX
  · obtain ⟨a, ha, ea⟩ := hP.1 e0 he0
    have hr : ¬ f e0 = -1 := by rw [ea]; exact zp_n1 (by omega)
    have s6 : z2.2 6 = z1.2 6 := hF2.2 6 (by omega) (by omega) (by omega) (by omega) (by omega)
    have s7 : z2.2 7 = z1.2 7 := hF2.2 7 (by omega) (by omega) (by omega) (by omega) (by omega)
    refine zp_ifn hr (zx_layWay hJ2.1 hm hlC e7 (fun z3 hJ3 hOV3 hput hpv => hp _ _ ((hJ1.tr hJ2).tr hJ3) ((hOV1.g.tr hF2.g).tr hOV3.g) ⟨z1.2 6, z1.2 7, z2.2 12, l, hclr, hcv, ⟨f, ?_, ?_, Or.inr ⟨hl, rfl, hlC, fc, ?_⟩⟩, Or.inr ⟨hr, by rw [← s6]; exact hput, by rw [← s7]; exact hpv⟩⟩))
    · rw [← e5, ← r8, ← r5]
      exact hP
    · rw [← e5, ← r8, ← r5]
      exact hX
    · rw [← e5, ← r8, ← r5]
      exact hW
end ZAC
