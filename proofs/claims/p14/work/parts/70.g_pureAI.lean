/-! the system's isJoined, exactly -/
/-- joined, out of owners and vias -/
def zf_J (W H s0 e0 m : Nat) (o v : Nat → Int32) : Prop :=
  ∀ S : Nat → Prop, S s0 → (∀ i j d, i < 2 * (W * H) → j < 2 * (W * H) → d < 5 → S j → o j = nI m → o i = nI m → zg_B W H i d = nI j → (d = 4 → ¬ v (i % (W * H)) = 0) → S i) → S e0
/-- joined, as isJoined answers it -/
def zf_jn (W H s0 e0 m : Nat) (o v : Nat → Int32) : Prop := o s0 = nI m ∧ o e0 = nI m ∧ zf_J W H s0 e0 m o v
theorem zf_J_cg {W H s0 e0 m : Nat} {o v o' v' : Nat → Int32} (hd : 2 ≤ W ∧ 2 ≤ H) (ho : ∀ i, i < 2 * (W * H) → o i = o' i) (hv : ∀ p, p < W * H → v p = v' p) (h : zf_J W H s0 e0 m o v) : zf_J W H s0 e0 m o' v' := fun S hS hc => h S hS (fun i j d hi hj hd5 hSj oj oi eB hvd => hc i j d hi hj hd5 hSj (by rw [← ho j hj]; exact oj) (by rw [← ho i hi]; exact oi) eB (fun e => by rw [← hv _ (Nat.mod_lt _ (Nat.mul_pos (by omega) (by omega)))]; exact hvd e))
theorem zf_jn_cg {W H s0 e0 m : Nat} {o v o' v' : Nat → Int32} (hd : 2 ≤ W ∧ 2 ≤ H) (hs0 : s0 < 2 * (W * H)) (he0 : e0 < 2 * (W * H)) (ho : ∀ i, i < 2 * (W * H) → o i = o' i) (hv : ∀ p, p < W * H → v p = v' p) : zf_jn W H s0 e0 m o v ↔ zf_jn W H s0 e0 m o' v' :=
  ⟨fun h => ⟨by rw [← ho s0 hs0]; exact h.1, by rw [← ho e0 he0]; exact h.2.1, zf_J_cg hd ho hv h.2.2⟩, fun h => ⟨by rw [ho s0 hs0]; exact h.1, by rw [ho e0 he0]; exact h.2.1, zf_J_cg hd (fun i hi => (ho i hi).symm) (fun p hp => (hv p hp).symm) h.2.2⟩⟩
section ZAI
variable {W H n : Nat} {ln : Nat → Nat} {z z0 : zS}
/-- only the checker's own has changed -/
def zc_K (z z' : zS) : Prop := (∀ k, k ≠ 6 → z'.1 k = z.1 k) ∧ ∀ k, k ≠ 10 → k ≠ 11 → z'.2 k = z.2 k
theorem zc_K.rf {z : zS} : zc_K z z := ⟨fun _ _ => rfl, fun _ _ _ => rfl⟩
theorem zc_K.tr {a b c : zS} (h : zc_K a b) (h' : zc_K b c) : zc_K a c := ⟨fun k k1 => (h'.1 k k1).trans (h.1 k k1), fun k k1 k2 => (h'.2 k k1 k2).trans (h.2 k k1 k2)⟩
/-- the found cells are the seen ones -/
def zb_F (W H m a : Nat) (z : zS) : Prop := z.1 6 = nI a ∧ (∀ i, i < a → ∃ u, u < 2 * (W * H) ∧ z.2 10 i = nI u ∧ ¬ z.2 11 u = 0) ∧ (∀ i j, i < a → j < a → z.2 10 i = z.2 10 j → i = j) ∧ (∀ u, u < 2 * (W * H) → ¬ z.2 11 u = 0 → ∃ i, i < a ∧ z.2 10 i = nI u) ∧ ∀ u, u < 2 * (W * H) → ¬ z.2 11 u = 0 → z.2 6 u = nI m
theorem zb_F_le (h : zI W H n ln z) {m a : Nat} (hF : zb_F W H m a z) : a ≤ 2 * (W * H) := by
  have hC := h.C
  refine zb_pg (2 * (W * H)) a (fun i => (z.2 10 i).toNatClampNeg) (fun i hi => ?_) (fun i j hi hj e => ?_)
  · obtain ⟨u, hu, eu, _⟩ := hF.2.1 i hi
    show (z.2 10 i).toNatClampNeg < _
    rw [eu, h.ci hu]
    exact hu
  · have e' : (z.2 10 i).toNatClampNeg = (z.2 10 j).toNatClampNeg := e
    obtain ⟨u, hu, eu, _⟩ := hF.2.1 i hi
    obtain ⟨u', hu', eu', _⟩ := hF.2.1 j hj
    rw [eu, eu', h.ci hu, h.ci hu'] at e'
    exact hF.2.2.1 i j hi hj (by rw [eu, eu', e'])
theorem zx_reach (h : zI W H n ln z) {m a : Nat} (hF : zb_F W H m a z) {x : Int32} (hx : x = -1 ∨ zb_c W H x) {post : zS → Prop} (hp : ∀ z' a', zJ W H n ln z z' → zc_K z z' → zb_F W H m a' z' → a ≤ a' → (∀ i, i < a → z'.2 10 i = z.2 10 i) → (∀ u, u < 2 * (W * H) → (¬ z'.2 11 u = 0 ↔ ¬ z.2 11 u = 0 ∨ (x = nI u ∧ z.2 6 u = nI m))) → post z') : zw_Checker_reach ln x (nI m) z post := by
  have hC := h.C
  have same : (∀ u, u < 2 * (W * H) → x = nI u → z.2 6 u = nI m → ¬ z.2 11 u = 0) → post z := fun hy => hp z a (zJ.rf h) zc_K.rf hF (Nat.le_refl _) (fun _ _ => rfl) (fun u hu => ⟨Or.inl, fun hz => hz.elim id (fun ⟨e1, e2⟩ => hy u hu e1 e2)⟩)
  rcases hx with rfl | ⟨c, hc, rfl⟩
  · exact zp_if rfl (same (fun u hu e => absurd e.symm (zp_n1 (by omega))))
  have uq : ∀ u, u < 2 * (W * H) → nI c = nI u → u = c := fun u hu e => ((nI_eq (by omega) (by omega)).mp e).symm
  refine zp_ifn (zp_n1 (by omega)) ⟨h.ic (k := 11) (by omega) (by omega) hc, ?_⟩
  rw [h.ci hc]
  by_cases e : z.2 11 c = 0
  · refine zp_fi e ⟨h.ic (k := 6) (by omega) (by omega) hc, ?_⟩
    by_cases e1 : z.2 6 c = nI m
    · obtain ⟨e6, hin, hinj, hfl, hown⟩ := id hF
      have hne : ∀ i, i < a → ¬ z.2 10 i = nI c := fun i hi ei => by
        obtain ⟨u, hu, eu, hw⟩ := hin i hi
        have : u = c := (nI_eq (by omega) (by omega)).mp (eu.symm.trans ei)
        rw [this] at hw
        exact hw e
      have haC : a < 2 * (W * H) := by
        have := zb_pg (2 * (W * H)) (a + 1) (fun i => if i = a then c else (z.2 10 i).toNatClampNeg) (fun i hi => by
          show (if i = a then c else (z.2 10 i).toNatClampNeg) < _
          split
          · exact hc
          · obtain ⟨u, hu, eu, _⟩ := hin i (by omega)
            rw [eu, h.ci hu]
            exact hu) (fun i j hi hj e' => by
          have e2 : (if i = a then c else (z.2 10 i).toNatClampNeg) = (if j = a then c else (z.2 10 j).toNatClampNeg) := e'
          split at e2
          · split at e2
            · omega
            · obtain ⟨u, hu, eu, _⟩ := hin j (by omega)
              rw [eu, h.ci hu] at e2
              exact absurd (by rw [eu, e2]) (hne j (by omega))
          · obtain ⟨u, hu, eu, _⟩ := hin i (by omega)
            split at e2
            · rw [eu, h.ci hu] at e2
              exact absurd (by rw [eu, e2]) (hne i (by omega))
            · obtain ⟨u', hu', eu', _⟩ := hin j (by omega)
              rw [eu, eu', h.ci hu, h.ci hu'] at e2
              exact hinj i j (by omega) (by omega) (by rw [eu, eu', e2]))
        omega
      have e6' : (zs_a z 11 (nI c) (vp_nar .boolean 1)).1 6 = nI a := e6
      have r10 : (zs_s (zs_a (zs_a z 11 (nI c) (vp_nar .boolean 1)) 10 ((zs_a z 11 (nI c) (vp_nar .boolean 1)).1 6) (nI c)) 6 ((zs_a (zs_a z 11 (nI c) (vp_nar .boolean 1)) 10 ((zs_a z 11 (nI c) (vp_nar .boolean 1)).1 6) (nI c)).1 6 + 1)).2 10 = upd (z.2 10) a (nI c) := by
        show (zs_a (zs_a z 11 (nI c) (vp_nar .boolean 1)) 10 (z.1 6) (nI c)).2 10 = _
        rw [zs_a2, if_pos rfl, zs_an (by omega), e6, nI_clamp (by omega)]
      have r11 : (zs_s (zs_a (zs_a z 11 (nI c) (vp_nar .boolean 1)) 10 ((zs_a z 11 (nI c) (vp_nar .boolean 1)).1 6) (nI c)) 6 ((zs_a (zs_a z 11 (nI c) (vp_nar .boolean 1)) 10 ((zs_a z 11 (nI c) (vp_nar .boolean 1)).1 6) (nI c)).1 6 + 1)).2 11 = upd (z.2 11) c 1 := by
        show (zs_a (zs_a z 11 (nI c) (vp_nar .boolean 1)) 10 (z.1 6) (nI c)).2 11 = _
        rw [zs_an (by omega), zs_a2, if_pos rfl, h.ci hc]
        rfl
      have rk : ∀ k, k ≠ 10 → k ≠ 11 → (zs_s (zs_a (zs_a z 11 (nI c) (vp_nar .boolean 1)) 10 ((zs_a z 11 (nI c) (vp_nar .boolean 1)).1 6) (nI c)) 6 ((zs_a (zs_a z 11 (nI c) (vp_nar .boolean 1)) 10 ((zs_a z 11 (nI c) (vp_nar .boolean 1)).1 6) (nI c)).1 6 + 1)).2 k = z.2 k := fun k k1 k2 => by
        show (zs_a (zs_a z 11 (nI c) (vp_nar .boolean 1)) 10 (z.1 6) (nI c)).2 k = _
        rw [zs_an k1, zs_an k2]
      refine zp_fi e1 ⟨h.ic (k := 11) (by omega) (by omega) hc, by rw [e6']; exact h.ic (k := 10) (by omega) (by omega) haC, ?_⟩
      refine hp _ (a + 1) ((((zJ.rf h).put (k := 11) (by omega) (by omega) (zb_Rb (by omega))).put (k := 10) (by omega) (by omega) (zb_Rc (by omega) hc)).num (by omega)) ⟨fun k k6 => by rw [zs_sn k6]; rfl, rk⟩ ⟨?_, ?_, ?_, ?_, ?_⟩ (by omega) ?_ ?_
      · rw [zs_ss]
        show z.1 6 + 1 = _
        rw [e6, nI_1]
      · intro i hi
        rw [r10, r11]
        by_cases ei : i = a
        · rw [ei, pk_us]
          exact ⟨c, hc, rfl, by rw [pk_us]; decide⟩
        · rw [pk_un ei]
          obtain ⟨u, hu, eu, hw⟩ := hin i (by omega)
          refine ⟨u, hu, eu, ?_⟩
          by_cases euc : u = c
          · rw [euc, pk_us]
            decide
          · rw [pk_un euc]
            exact hw
      · intro i j hi hj
        rw [r10]
        by_cases ei : i = a
        · subst ei
          by_cases ej : j = i
          · exact fun _ => ej.symm
          · rw [pk_us, pk_un ej]
            exact fun e' => absurd e'.symm (hne j (by omega))
        · rw [pk_un ei]
          by_cases ej : j = a
          · subst ej
            rw [pk_us]
            exact fun e' => absurd e' (hne i (by omega))
          · rw [pk_un ej]
            exact hinj i j (by omega) (by omega)
      · intro u hu
        rw [r10, r11]
        by_cases euc : u = c
        · intro _
          exact ⟨a, by omega, by rw [pk_us, euc]⟩
        · rw [pk_un euc]
          intro hw
          obtain ⟨i, hi, ei⟩ := hfl u hu hw
          exact ⟨i, by omega, by rw [pk_un (by omega)]; exact ei⟩
      · intro u hu
        rw [r11, rk 6 (by omega) (by omega)]
        by_cases euc : u = c
        · intro _
          rw [euc]
          exact e1
        · rw [pk_un euc]
          exact hown u hu
      · intro i hi
        rw [r10]
        exact pk_un (by omega)
      · intro u hu
        rw [r11]
        by_cases euc : u = c
        · rw [euc, pk_us]
          exact ⟨fun _ => Or.inr ⟨rfl, e1⟩, fun _ => by decide⟩
        · rw [pk_un euc]
          exact ⟨Or.inl, fun hz => hz.resolve_right (fun ⟨e2, _⟩ => euc (uq u hu e2))⟩
    · refine zp_fin e1 (same (fun u hu e2 e3 => ?_))
      rw [uq u hu e2] at e3
      exact absurd e3 e1
  · refine zp_fin e (same (fun u hu e2 _ => ?_))
    rw [uq u hu e2]
    exact e
theorem zx_reachFrom (h : zI W H n ln z) {m a : Nat} (hF : zb_F W H m a z) {c : Nat} (hc : c < 2 * (W * H)) {post : zS → Prop} (hp : ∀ z' a', zJ W H n ln z z' → zc_K z z' → zb_F W H m a' z' → a ≤ a' → (∀ i, i < a → z'.2 10 i = z.2 10 i) → (∀ u, u < 2 * (W * H) → (¬ z'.2 11 u = 0 ↔ ¬ z.2 11 u = 0 ∨ (z.2 6 u = nI m ∧ ∃ d, d < 5 ∧ zg_B W H c d = nI u ∧ (d = 4 → ¬ z.2 7 (c % (W * H)) = 0)))) → post z') : zw_Checker_reachFrom ln (nI c) (nI m) z post := by
  have hC := h.C
  refine zq_Lp_I (I := fun q => ∃ d z' a', d ≤ 4 ∧ zJ W H n ln z z' ∧ zc_K z z' ∧ zb_F W H m a' z' ∧ a ≤ a' ∧ (∀ i, i < a → z'.2 10 i = z.2 10 i) ∧ (∀ u, u < 2 * (W * H) → (¬ z'.2 11 u = 0 ↔ ¬ z.2 11 u = 0 ∨ (z.2 6 u = nI m ∧ ∃ d', d' < d ∧ zg_B W H c d' = nI u))) ∧ q = (nI c, nI m, nI d, z')) (μ := fun q => 4 - q.2.2.1.toNatClampNeg) ?_ ⟨0, z, a, Nat.zero_le _, zJ.rf h, zc_K.rf, hF, Nat.le_refl _, fun _ _ => rfl, fun u hu => ⟨Or.inl, fun hz => hz.resolve_right (fun ⟨_, d', hd', _⟩ => absurd hd' (Nat.not_lt_zero _))⟩, rfl⟩
  rintro k q ⟨d, z', a', hd, hJ, hK, hF', haa, hold, hsn, rfl⟩ hk
  have h' := hJ.1
  have o6 : z'.2 6 = z.2 6 := hK.2 6 (by omega) (by omega)
  have o7 : z'.2 7 = z.2 7 := hK.2 7 (by omega) (by omega)
  have hB : ∀ d, zg_B W H c d = -1 ∨ zb_c W H (zg_B W H c d) := fun d => zg_B_in (W := W) (H := H) (c := c) (d := d) h.d.1 h.d.2.2.1 hc
  by_cases hl : 4 ≤ d
  · have ed : d = 4 := by omega
    subst ed
    refine zp_if (nI_le (a := 4) hl (by omega)) (zc_placeOf h' hc (fun p hp1 ep => ⟨h'.i7 hp1, ?_⟩))
    rw [nI_clamp (by have := h.d; omega), o7, ep]
    by_cases e : z.2 7 (c % (W * H)) = 0
    · refine zp_if e (hp z' a' hJ hK hF' haa hold (fun u hu => ?_))
      rw [hsn u hu]
      constructor
      · rintro (hz | ⟨h1, d', h2, h3⟩)
        · exact Or.inl hz
        · exact Or.inr ⟨h1, d', by omega, h3, fun e' => absurd e' (by omega)⟩
      · rintro (hz | ⟨h1, d', h2, h3, h4⟩)
        · exact Or.inl hz
        · by_cases e4 : d' = 4
          · exact absurd e (h4 e4)
          · exact Or.inr ⟨h1, d', by omega, h3⟩
    · refine zp_ifn e (zc_next h' hc (d := 4) (by omega) (zx_reach h' hF' (hB 4) (fun z2 a2 hJ2 hK2 hF2 ha2 ho2 hs2 => hp z2 a2 (hJ.tr hJ2) (hK.tr hK2) hF2 (by omega) (fun i hi => by rw [ho2 i (by omega)]; exact hold i hi) (fun u hu => ?_))))
      rw [hs2 u hu, hsn u hu, o6]
      constructor
      · rintro ((hz | ⟨h1, d', h2, h3⟩) | ⟨h1, h2⟩)
        · exact Or.inl hz
        · exact Or.inr ⟨h1, d', by omega, h3, fun e' => absurd e' (by omega)⟩
        · exact Or.inr ⟨h2, 4, by omega, h1, fun _ => e⟩
      · rintro (hz | ⟨h1, d', h2, h3, h4⟩)
        · exact Or.inl (Or.inl hz)
        · by_cases e4 : d' = 4
          · rw [e4] at h3
            exact Or.inr ⟨h3, h1⟩
          · exact Or.inl (Or.inr ⟨h1, d', by omega, h3⟩)
  · refine zp_ifn (nI_ge (b := 4) (by omega) (by omega)) (zc_next h' hc (by omega) (zx_reach h' hF' (hB d) (fun z2 a2 hJ2 hK2 hF2 ha2 ho2 hs2 => hk _ ⟨d + 1, z2, a2, by omega, hJ.tr hJ2, hK.tr hK2, hF2, by omega, fun i hi => by rw [ho2 i (by omega)]; exact hold i hi, fun u hu => ?_, by rw [nI_1]⟩ (zm_lt (by omega) (by omega)))))
    rw [hs2 u hu, hsn u hu, o6]
    constructor
    · rintro ((hz | ⟨h1, d', h2, h3⟩) | ⟨h1, h2⟩)
      · exact Or.inl hz
      · exact Or.inr ⟨h1, d', by omega, h3⟩
      · exact Or.inr ⟨h2, d, by omega, h1⟩
    · rintro (hz | ⟨h1, d', h2, h3⟩)
      · exact Or.inl (Or.inl hz)
      · by_cases e4 : d' = d
        · rw [e4] at h3
          exact Or.inr ⟨h3, h1⟩
        · exact Or.inl (Or.inr ⟨h1, d', by omega, h3⟩)
theorem zx_joined (h : zI W H n ln z) {m s0 e0 : Nat} (hm : m < n) (hs0 : s0 < 2 * (W * H)) (he0 : e0 < 2 * (W * H)) (es0 : z.2 3 m = nI s0) (ee0 : z.2 4 m = nI e0) {post : Int32 → zS → Prop} (hp : ∀ r z', zJ W H n ln z z' → zc_K z z' → (r = 0 ∨ r = 1) → (¬ r = 0 ↔ zf_jn W H s0 e0 m (z.2 6) (z.2 7)) → post r z') : zw_Checker_isJoined ln (nI m) z post := by
  have hC := h.C
  have h6 := h.n6
  have hd := h.d
  have cm : (nI m).toNatClampNeg = m := nI_clamp (by omega)
  refine zq_Lp_I (I := fun q => ∃ c z', c ≤ 2 * (W * H) ∧ zJ W H n ln z z' ∧ zc_K z z' ∧ (∀ u, u < c → z'.2 11 u = 0) ∧ q = (nI m, nI c, z')) (μ := fun q => 2 * (W * H) - q.2.1.toNatClampNeg) ?_ ⟨0, z, Nat.zero_le _, zJ.rf h, zc_K.rf, fun u hu => absurd hu (Nat.not_lt_zero _), rfl⟩
  rintro k q ⟨c, z', hc, hJ, hK, hz, rfl⟩ hk
  have h' := hJ.1
  by_cases hl : 2 * (W * H) ≤ c
  · have hJ0 := hJ.num (k := 6) (v := 0) (by omega)
    have hK0 : zc_K z (zs_s z' 6 0) := hK.tr ⟨fun k k6 => zs_sn k6, fun _ _ _ => rfl⟩
    have e3 : (zs_s z' 6 0).2 3 (nI m).toNatClampNeg = nI s0 := by
      show z'.2 3 (nI m).toNatClampNeg = _
      rw [hK.2 3 (by omega) (by omega), cm, es0]
    have zz : ∀ u, u < 2 * (W * H) → (zs_s z' 6 0).2 11 u = 0 := fun u hu => hz u (by omega)
    have hF0 : zb_F W H m 0 (zs_s z' 6 0) := ⟨rfl, fun i hi => absurd hi (Nat.not_lt_zero _), fun i j hi => absurd hi (Nat.not_lt_zero _), fun u hu hw => absurd (zz u hu) hw, fun u hu hw => absurd (zz u hu) hw⟩
    refine zp_if (by rw [h'.s3]; exact nI_le hl (by omega)) ⟨h'.i6 (by omega) (by omega), ?_⟩
    rw [e3]
    refine zx_reach hJ0.1 hF0 (Or.inr ⟨s0, hs0, rfl⟩) (fun z1 a1 hJ1 hK1 hF1 _ _ hs1 => ?_)
    have hK1' := hK0.tr hK1
    have o0 : (zs_s z' 6 0).2 6 = z.2 6 := hK0.2 6 (by omega) (by omega)
    have seen1 : ∀ u, u < 2 * (W * H) → (¬ z1.2 11 u = 0 ↔ u = s0 ∧ z.2 6 s0 = nI m) := fun u hu => by
      rw [hs1 u hu, o0]
      constructor
      · rintro (hx | ⟨h1, h2⟩)
        · exact absurd (zz u hu) hx
        · have : s0 = u := (nI_eq (by omega) (by omega)).mp h1
          subst this
          exact ⟨rfl, h2⟩
      · rintro ⟨h1, h2⟩
        rw [h1]
        exact Or.inr ⟨rfl, h2⟩
    refine zq_Lp_I (I := fun q => ∃ i z2 a2, i ≤ 2 * (W * H) ∧ zJ W H n ln z z2 ∧ zc_K z z2 ∧ zb_F W H m a2 z2 ∧ i ≤ a2 ∧ (z.2 6 s0 = nI m → ¬ z2.2 11 s0 = 0) ∧ (∀ u, u < 2 * (W * H) → ¬ z2.2 11 u = 0 → z.2 6 s0 = nI m ∧ ∀ S : Nat → Prop, S s0 → (∀ i j d, i < 2 * (W * H) → j < 2 * (W * H) → d < 5 → S j → z.2 6 j = nI m → z.2 6 i = nI m → zg_B W H i d = nI j → (d = 4 → ¬ z.2 7 (i % (W * H)) = 0) → S i) → S u) ∧ (∀ j x u d, j < i → x < 2 * (W * H) → z2.2 10 j = nI x → u < 2 * (W * H) → z.2 6 u = nI m → d < 5 → zg_B W H x d = nI u → (d = 4 → ¬ z.2 7 (x % (W * H)) = 0) → ¬ z2.2 11 u = 0) ∧ q = (nI m, nI i, z2)) (μ := fun q => 2 * (W * H) - q.2.1.toNatClampNeg) ?_ ⟨0, z1, a1, Nat.zero_le _, hJ0.tr hJ1, hK1', hF1, Nat.zero_le _, fun e => (seen1 s0 hs0).mpr ⟨rfl, e⟩, fun u hu hw => ?_, fun j x u d hj => absurd hj (Nat.not_lt_zero _), rfl⟩
    · rintro k2 q2 ⟨i, z2, a2, hi, hJ2, hK2, hF2, hia, hs2, hsd, hcl, rfl⟩ hk2
      have hle := zb_F_le hJ2.1 hF2
      have e4 : z2.2 4 (nI m).toNatClampNeg = nI e0 := by rw [hK2.2 4 (by omega) (by omega), cm, ee0]
      have fin : i = a2 → zw_Checker_isJoined_83 ln post (nI m) z2 := fun hia2 => by
        unfold zw_Checker_isJoined_83
        rw [e4, h.ci he0]
        have hb := hJ2.1.bool (k := 11) (by omega) he0
        rw [h.ci he0] at hb
        refine ⟨h.i6 (by omega) (by omega), h.ic (k := 11) (by omega) (by omega) he0, zb_bn hb, hp _ _ hJ2 hK2 hb ?_⟩
        constructor
        · intro hne
          have hh := hsd e0 he0 hne
          refine ⟨hh.1, ?_, fun S hS hc => hh.2 S hS hc⟩
          have := hF2.2.2.2.2 e0 he0 hne
          rw [hK2.2 6 (by omega) (by omega)] at this
          exact this
        · rintro ⟨h1, h2, h3⟩
          refine h3 (fun u => u < 2 * (W * H) → ¬ z2.2 11 u = 0) (fun _ => hs2 h1) (fun x y d hx hy hd5 hSy oy ox eB hv _ => ?_) he0
          obtain ⟨j, hj, ej⟩ := hF2.2.2.2.1 y hy (hSy hy)
          have hinv := zg_B_inv hd.1 hd.2.2.1 hd.2.2.2.2 hx hy hd5 eB
          refine hcl j y x _ (by omega) hy ej hx ox (zd_inv hd5) hinv (fun e4' => ?_)
          have d4 : d = 4 := by
            have : d = 0 ∨ d = 1 ∨ d = 2 ∨ d = 3 ∨ d = 4 := by omega
            rcases this with rfl | rfl | rfl | rfl | rfl
            · exact absurd e4' (by decide)
            · exact absurd e4' (by decide)
            · exact absurd e4' (by decide)
            · exact absurd e4' (by decide)
            · rfl
          have hpl : x % (W * H) = y % (W * H) := by
            rw [d4] at eB
            exact zb_pl4 hd.2.2.2.2 hx hy eB
          rw [← hpl]
          exact hv d4
      by_cases e1 : a2 ≤ i
      · exact zp_if (by rw [hF2.1]; exact nI_le e1 (by omega)) (fin (by omega))
      refine zp_ifn (by rw [hF2.1]; exact nI_ge (by omega) (by omega)) ?_
      have hiC : i < 2 * (W * H) := by omega
      obtain ⟨x, hx, ex, hwx⟩ := hF2.2.1 i (by omega)
      refine zp_ifn (by rw [hJ2.1.s3]; exact nI_ge hiC (by omega)) ⟨h.ic (k := 10) (by omega) (by omega) hiC, ?_⟩
      rw [h.ci hiC, ex]
      have p6 : z2.2 6 = z.2 6 := hK2.2 6 (by omega) (by omega)
      have p7 : z2.2 7 = z.2 7 := hK2.2 7 (by omega) (by omega)
      refine zx_reachFrom hJ2.1 hF2 hx (fun z3 a3 hJ3 hK3 hF3 ha3 ho3 hs3 => hk2 _ ⟨i + 1, z3, a3, hiC, hJ2.tr hJ3, hK2.tr hK3, hF3, by omega, fun e => (hs3 s0 hs0).mpr (Or.inl (hs2 e)), fun u hu hw => ?_, fun j y u d hj hy ey hu ou hd5 eB hv => ?_, by rw [nI_1]⟩ (zm_lt hiC (by omega)))
      · rcases (hs3 u hu).mp hw with h1 | ⟨h1, d, h2, h3, h4⟩
        · exact hsd u hu h1
        · have hhx := hsd x hx hwx
          rw [p6] at h1
          rw [p7] at h4
          refine ⟨hhx.1, fun S hS hc => ?_⟩
          have hinv := zg_B_inv hd.1 hd.2.2.1 hd.2.2.2.2 hx hu h2 h3
          have ox := hF2.2.2.2.2 x hx hwx
          rw [p6] at ox
          refine hc u x _ hu hx (zd_inv h2) (hhx.2 S hS hc) ox h1 hinv (fun e4' => ?_)
          have d4 : d = 4 := by
            have : d = 0 ∨ d = 1 ∨ d = 2 ∨ d = 3 ∨ d = 4 := by omega
            rcases this with rfl | rfl | rfl | rfl | rfl
            · exact absurd e4' (by decide)
            · exact absurd e4' (by decide)
            · exact absurd e4' (by decide)
            · exact absurd e4' (by decide)
            · rfl
          have hpl : x % (W * H) = u % (W * H) := by
            rw [d4] at h3
            exact zb_pl4 hd.2.2.2.2 hx hu h3
          rw [← hpl]
          exact h4 d4
      · by_cases ej : j = i
        · rw [ej, ho3 i (by omega), ex] at ey
          have : x = y := (nI_eq (by omega) (by omega)).mp ey
          subst this
          exact (hs3 u hu).mpr (Or.inr ⟨by rw [p6]; exact ou, d, hd5, eB, by rw [p7]; exact hv⟩)
        · rw [ho3 j (by omega)] at ey
          exact (hs3 u hu).mpr (Or.inl (hcl j y u d (by omega) hy ey hu ou hd5 eB hv))
    · have hh := (seen1 u hu).mp hw
      refine ⟨hh.2, fun S hS _ => ?_⟩
      rw [hh.1]
      exact hS
  · have hl' : c < 2 * (W * H) := by omega
    refine zp_ifn (by rw [h'.s3]; exact nI_ge hl' (by omega)) ⟨h'.ic (k := 11) (by omega) (by omega) hl', hk _ ⟨c + 1, zs_a z' 11 (nI c) (vp_nar .boolean 0), hl', hJ.put (k := 11) (by omega) (by omega) (zb_Rb (by omega)), hK.tr ⟨fun _ _ => rfl, fun k _ k11 => zs_an k11⟩, fun u hu => ?_, by rw [nI_1]⟩ (zm_lt hl' (by omega))⟩
    rw [zs_a2, if_pos rfl, h.ci hl']
    by_cases e : u = c
    · rw [e, pk_us]
      rfl
    · rw [pk_un e]
      exact hz u (by omega)
/-- how many are not joined -/
def zf_cn (J : Nat → Prop) : Nat → Int32 → Prop
  | 0, r => r = 0
  | k + 1, r => ∃ r', zf_cn J k r' ∧ ((J k ∧ r = r') ∨ (¬ J k ∧ r = r' + 1))
theorem zf_cn_uq {J J' : Nat → Prop} : ∀ {N : Nat} {r r' : Int32}, (∀ k, k < N → (J k ↔ J' k)) → zf_cn J N r → zf_cn J' N r' → r = r'
  | 0, r, r', _, h, h' => by rw [show r = 0 from h, show r' = 0 from h']
  | N + 1, r, r', hJ, h, h' => by
    obtain ⟨x, h1, h2⟩ := h
    obtain ⟨x', h1', h2'⟩ := h'
    have e := zf_cn_uq (fun k hk => hJ k (by omega)) h1 h1'
    have hN := hJ N (by omega)
    rcases h2 with ⟨a, b⟩ | ⟨a, b⟩
    · rcases h2' with ⟨a', b'⟩ | ⟨a', b'⟩
      · rw [b, b', e]
      · exact absurd (hN.mp a) a'
    · rcases h2' with ⟨a', b'⟩ | ⟨a', b'⟩
      · exact absurd (hN.mpr a') a
      · rw [b, b', e]
/-- a net is joined in the system's state -/
def zc_jn (W H : Nat) (z : zS) (m : Nat) : Prop := zf_jn W H (z.2 3 m).toNatClampNeg (z.2 4 m).toNatClampNeg m (z.2 6) (z.2 7)
theorem zx_loose (h : zI W H n ln z) {post : Int32 → zS → Prop} (hp : ∀ r z', zJ W H n ln z z' → zc_K z z' → zf_cn (zc_jn W H z) n r → post r z') : zw_Checker_loose ln z post := by
  have h6 := h.n6
  refine zq_Lp_I (I := fun q => ∃ v c z', c ≤ n ∧ zJ W H n ln z z' ∧ zc_K z z' ∧ zf_cn (zc_jn W H z) c v ∧ q = (v, nI c, z')) (μ := fun q => n - q.2.1.toNatClampNeg) ?_ ⟨0, 0, z, Nat.zero_le _, zJ.rf h, zc_K.rf, rfl, rfl⟩
  rintro k q ⟨v, c, z', hc, hJ, hK, hv, rfl⟩ hk
  by_cases hl : n ≤ c
  · have ec : c = n := by omega
    subst ec
    exact zp_if (by rw [hJ.1.s4]; exact nI_le hl (by omega)) (hp _ _ hJ hK hv)
  have hl' : c < n := by omega
  obtain ⟨s, hs, es⟩ := h.pin (k := 3) (m := c) (by omega) (by omega)
  obtain ⟨e, he, ee⟩ := h.pin (k := 4) (m := c) (by omega) (by omega)
  rw [nI_clamp (by omega)] at es ee
  have go : ∀ v z2, zJ W H n ln z z2 → zc_K z z2 → zf_cn (zc_jn W H z) (c + 1) v → zw_Checker_loose_26 ln post k v (nI c) z2 := fun v z2 hJ2 hK2 hv2 => hk _ ⟨v, c + 1, z2, hl', hJ2, hK2, hv2, by rw [nI_1]⟩ (zm_lt hl' (by omega))
  refine zp_ifn (by rw [hJ.1.s4]; exact nI_ge hl' (by omega)) (zx_joined hJ.1 hl' hs he (by rw [hK.2 3 (by omega) (by omega)]; exact es) (by rw [hK.2 4 (by omega) (by omega)]; exact ee) (fun r z2 hJ2 hK2 hr hiff => ?_))
  rw [hK.2 6 (by omega) (by omega), hK.2 7 (by omega) (by omega)] at hiff
  have hjn : zc_jn W H z c ↔ zf_jn W H s e c (z.2 6) (z.2 7) := by
    unfold zc_jn
    rw [es, ee, h.ci hs, h.ci he]
  by_cases e0 : r = 0
  · exact zp_fi e0 (go _ _ (hJ.tr hJ2) (hK.tr hK2) ⟨v, hv, Or.inr ⟨fun hx => hiff.mpr (hjn.mp hx) e0, rfl⟩⟩)
  · exact zp_fin e0 (go _ _ (hJ.tr hJ2) (hK.tr hK2) ⟨v, hv, Or.inl ⟨hjn.mpr (hiff.mp e0), rfl⟩⟩)
end ZAI
