/-! the system's way is the one that the costs choose -/
section ZAA
variable {W H n : Nat} {ln : Nat → Nat} {z z0 : zS}
theorem zx_pred {T : Nat → Nat → Prop} {vc s0 : Nat} (hTu : ∀ c t t', T c t → T c t' → t = t') (hvc : 1 ≤ vc ∧ vc ≤ 4) (h : zI W H n ln z) (hτ : zb_tr W H T (z.2 13)) (evc : z.1 8 = nI vc) {f : Nat → Int32} (hf : ∀ c, c < 2 * (W * H) → z.2 14 c = f c) (hP : zr_P W H T vc s0 f) (hX : ∀ c, c < 2 * (W * H) → c ≠ s0 → zr_X W H T vc f c 5) {c : Nat} (hc : c < 2 * (W * H)) (hs : c ≠ s0) (hl : (f c).toNatClampNeg < 1000000) {post : Int32 → zS → Prop} (hp : ∀ t d c', T c t → t < 1000000 → d < 5 → c' < 2 * (W * H) → zg_B W H c d = nI c' → (f c').toNatClampNeg + zb_e vc d + t = (f c).toNatClampNeg → (∀ d', d' < d → ∀ c'', c'' < 2 * (W * H) → zg_B W H c d' = nI c'' → ¬ (f c'').toNatClampNeg + zb_e vc d' + t = (f c).toNatClampNeg) → post (nI c') z) : zw_WayFinder_predecessor ln (nI c) z post := by
  have hC := h.C
  obtain ⟨t, d0, c0, k1, k2, k3, k4, k5, k6, k7⟩ := zr_eq hvc.1 hP hX hc hs hl
  have et : t ≤ 10 ∧ z.2 13 c = nI t := by
    obtain ⟨t', hT', hh⟩ := hτ c hc
    have := hTu c t t' k1 hT'
    subst this
    rcases hh with ⟨e, _⟩ | hh
    · omega
    · exact hh
  obtain ⟨a, ha, ea⟩ := hP.1 c hc
  have ea' : (f c).toNatClampNeg = a := by rw [ea, nI_clamp (by omega)]
  refine zq_Lp_I (I := fun q => ∃ s, s ≤ 5 ∧ (∀ d', d' < s → ∀ c'', c'' < 2 * (W * H) → zg_B W H c d' = nI c'' → ¬ (f c'').toNatClampNeg + zb_e vc d' + t = (f c).toNatClampNeg) ∧ q = (nI c, nI s, z)) (μ := fun q => 5 - q.2.1.toNatClampNeg) ?_ ⟨0, Nat.zero_le _, fun d' hd' => absurd hd' (Nat.not_lt_zero _), rfl⟩
  rintro k q ⟨s, hs5, hI, rfl⟩ hk
  by_cases hl5 : 5 ≤ s
  · exact absurd k6 (hI d0 (by omega) c0 k4 k5)
  have hl' : s < 5 := by omega
  have go : (∀ c'', c'' < 2 * (W * H) → zg_B W H c s = nI c'' → ¬ (f c'').toNatClampNeg + zb_e vc s + t = (f c).toNatClampNeg) → zw_WayFinder_predecessor_52 ln post k (nI c) (nI s) z := fun hx => hk _ ⟨s + 1, hl', fun d' hd' => by
    by_cases e : d' = s
    · rw [e]
      exact hx
    · exact hI d' (by omega), by rw [nI_1]⟩ (zm_lt hl' (by omega))
  refine zp_ifn (nI_ge (b := 5) hl' (by omega)) (zc_nx h hc hl' (fun er => zp_if rfl (go (fun c'' hc'' e => absurd (er.symm.trans e).symm (zp_n1 (by omega))))) (fun c' hc' er => zp_ifn (zp_n1 (by omega)) ⟨h.ic (k := 14) (by omega) (by omega) hc', zc_step hl' (fun r hr => ⟨h.ic (k := 13) (by omega) (by omega) hc, h.ic (k := 14) (by omega) (by omega) hc, ?_⟩)⟩))
  obtain ⟨a', ha', ea2⟩ := hP.1 c' hc'
  have ea3 : (f c').toNatClampNeg = a' := by rw [ea2, nI_clamp (by omega)]
  have uq : ∀ c'', c'' < 2 * (W * H) → zg_B W H c s = nI c'' → c'' = c' := fun c'' hc'' e'' => (nI_eq (by omega) (by omega)).mp (e''.symm.trans er)
  have er' : r = nI (zb_e vc s) := by
    rw [hr, evc]
    unfold zb_e
    by_cases e : s = 4
    · rw [if_pos e, if_pos e]
    · rw [if_neg e, if_neg e]
      rfl
  have hz : zb_e vc s ≤ 4 := by unfold zb_e; split <;> omega
  rw [h.ci hc', h.ci hc, hf c' hc', hf c hc, et.2, ea2, ea, er', nI_add, nI_add]
  by_cases he : a' + zb_e vc s + t = a
  · exact zp_fi (by rw [he]) (hp t s c' k1 k2 hl' hc' er (by rw [ea3, ea']; exact he) hI)
  · refine zp_fin (fun hx => he ((nI_eq (by omega) (by omega)).mp hx)) (go (fun c'' hc'' e'' => ?_))
    rw [uq c'' hc'' e'', ea3, ea']
    exact he
theorem zx_trace {T : Nat → Nat → Prop} {vc s0 e0 : Nat} (hTu : ∀ c t t', T c t → T c t' → t = t') (hvc : 1 ≤ vc ∧ vc ≤ 4) (h : zI W H n ln z) (he0 : e0 < 2 * (W * H)) (hs0 : s0 < 2 * (W * H)) (hτ : zb_tr W H T (z.2 13)) (evc : z.1 8 = nI vc) {f : Nat → Int32} (hf : ∀ c, c < 2 * (W * H) → z.2 14 c = f c) (hP : zr_P W H T vc s0 f) (hX : ∀ c, c < 2 * (W * H) → c ≠ s0 → zr_X W H T vc f c 5) (hl : (f e0).toNatClampNeg < 1000000) {post : zS → Prop} (hp : ∀ z' fc l, zJ W H n ln z z' → (∀ k, k ≠ 7 → z'.1 k = z.1 k) → (∀ k, k ≠ 12 → z'.2 k = z.2 k) → z'.1 7 = nI (l + 1) → l < 2 * (W * H) → zr_W W H T vc f s0 e0 (z'.2 12) fc l → post z') : zw_WayFinder_trace ln (nI s0) (nI e0) z post := by
  have hC := h.C
  have hd := h.d
  have hpos : 0 < W * H := Nat.mul_pos (by omega) (by omega)
  have hJ0 := ((zJ.rf h).put (k := 12) (i := 0) (v := nI e0) (by omega) (by omega) (zb_Rc (by omega) he0)).len (m := 1) (by omega) (v := 1) rfl
  have r12 : (zs_s (zs_a z 12 0 (nI e0)) 7 1).2 12 = upd (z.2 12) 0 (nI e0) := by
    show (zs_a z 12 0 (nI e0)).2 12 = _
    rw [zs_a2, if_pos rfl]
    rfl
  refine ⟨h.ic (k := 12) (c := 0) (by omega) (by omega) (by omega), ?_⟩
  refine zq_Lp_I (I := fun q => ∃ l i z' fc, i < 2 * (W * H) ∧ (f i).toNatClampNeg < 1000000 ∧ zJ W H n ln z z' ∧ (∀ k, k ≠ 7 → z'.1 k = z.1 k) ∧ (∀ k, k ≠ 12 → z'.2 k = z.2 k) ∧ z'.1 7 = nI (l + 1) ∧ l < 2 * (W * H) ∧ z'.2 12 l = nI i ∧ (∀ k, k ≤ l → zb_c W H (z'.2 12 k)) ∧ (∀ j k, j < k → k ≤ l → (f (z'.2 12 k).toNatClampNeg).toNatClampNeg < (f (z'.2 12 j).toNatClampNeg).toNatClampNeg) ∧ z'.2 12 0 = nI e0 ∧ (∀ k, k < l → ∃ c c' d t, c < 2 * (W * H) ∧ c' < 2 * (W * H) ∧ z'.2 12 k = nI c ∧ z'.2 12 (k + 1) = nI c' ∧ c ≠ s0 ∧ T c t ∧ t < 1000000 ∧ d < 5 ∧ zg_B W H c d = nI c' ∧ (fc k = if d = 4 then (1 : Int32) else 0) ∧ (f c').toNatClampNeg + zb_e vc d + t = (f c).toNatClampNeg ∧ ∀ d', d' < d → ∀ c'', c'' < 2 * (W * H) → zg_B W H c d' = nI c'' → ¬ (f c'').toNatClampNeg + zb_e vc d' + t = (f c).toNatClampNeg) ∧ q = (nI s0, nI i, z')) (μ := fun q => (f q.2.1.toNatClampNeg).toNatClampNeg) ?_ ⟨0, e0, _, fun _ => 0, he0, hl, hJ0, fun k hk => by rw [zs_sn hk]; rfl, fun k hk => zs_an hk, rfl, by omega, by rw [r12, pk_us], fun k hk => ?_, fun j k hjk hk => absurd hjk (by omega), by rw [r12, pk_us], fun k hk => absurd hk (Nat.not_lt_zero _), rfl⟩
  · rintro k q ⟨l, i, z', fc, hi, hil, hJ, hN, hR, e7, hlC, ew, hcs, hD, h0, hW, rfl⟩ hk
    have h' := hJ.1
    by_cases e : i = s0
    · subst e
      have fin : post z' := hp z' fc l hJ hN hR e7 hlC ⟨ew, h0, hW⟩
      by_cases hlen : 2 * (W * H) ≤ l + 1
      · exact zp_if (by rw [h'.s3, e7]; exact nI_le hlen (by omega)) fin
      · exact zp_ifn (by rw [h'.s3, e7]; exact nI_ge (by omega) (by omega)) (zp_if rfl fin)
    · obtain ⟨t0, d0, c0, j1, j2, j3, j4, j5, j6, j7⟩ := zr_eq hvc.1 hP hX hi e hil
      have hl2 : l + 2 ≤ 2 * (W * H) := by
        refine zb_pg (2 * (W * H)) (l + 2) (fun k => if k = l + 1 then c0 else (z'.2 12 k).toNatClampNeg) (fun k hk => ?_) (fun a b ha hb e' => ?_)
        · show (if k = l + 1 then c0 else (z'.2 12 k).toNatClampNeg) < _
          split
          · exact j4
          · obtain ⟨c, hc, ec⟩ := hcs k (by omega)
            rw [ec, h.ci hc]
            exact hc
        · have e2 : (if a = l + 1 then c0 else (z'.2 12 a).toNatClampNeg) = (if b = l + 1 then c0 else (z'.2 12 b).toNatClampNeg) := e'
          have low : ∀ k, k ≤ l → (f c0).toNatClampNeg < (f (z'.2 12 k).toNatClampNeg).toNatClampNeg := fun k hk => by
            by_cases ek : k = l
            · rw [ek, ew, h.ci hi]
              exact j7
            · have := hD k l (by omega) (Nat.le_refl _)
              rw [ew, h.ci hi] at this
              omega
          split at e2
          · split at e2
            · omega
            · have := low b (by omega)
              rw [← e2] at this
              exact absurd this (Nat.lt_irrefl _)
          · split at e2
            · have := low a (by omega)
              rw [e2] at this
              exact absurd this (Nat.lt_irrefl _)
            · rcases Nat.lt_trichotomy a b with hx | hx | hx
              · have := hD a b hx (by omega)
                rw [e2] at this
                exact absurd this (Nat.lt_irrefl _)
              · exact hx
              · have := hD b a hx (by omega)
                rw [e2] at this
                exact absurd this (Nat.lt_irrefl _)
      refine zp_ifn (by rw [h'.s3, e7]; exact nI_ge (by omega) (by omega)) (zp_ifn (fun hx => e ((nI_eq (by omega) (by omega)).mp hx)) ?_)
      have e13 : z'.2 13 = z.2 13 := hR 13 (by omega)
      have e14 : z'.2 14 = z.2 14 := hR 14 (by omega)
      refine zx_pred hTu hvc h' (by rw [e13]; exact hτ) (by rw [hN 8 (by omega)]; exact evc) (f := f) (by rw [e14]; exact hf) hP hX hi e hil (fun t d c' k1 k2 k3 k4 k5 k6 k7 => ?_)
      have hz : 1 ≤ zb_e vc d := by unfold zb_e; split <;> omega
      have e71 : z'.1 7 + 1 = nI (l + 2) := by rw [e7, nI_1]
      have y12 : (zs_s (zs_a z' 12 (z'.1 7) (nI c')) 7 (z'.1 7 + 1)).2 12 = upd (z'.2 12) (l + 1) (nI c') := by
        show (zs_a z' 12 (z'.1 7) (nI c')).2 12 = _
        rw [zs_a2, if_pos rfl, e7, nI_clamp (by omega)]
      have w0 : ∀ k, k ≤ l → upd (z'.2 12) (l + 1) (nI c') k = z'.2 12 k := fun k hk => pk_un (by omega)
      refine ⟨by rw [e7]; exact h'.ic (k := 12) (by omega) (by omega) (by omega), hk _ ⟨l + 1, c', _, upd fc l (if d = 4 then 1 else 0), k4, by omega, (hJ.put (k := 12) (by omega) (by omega) (zb_Rc (by omega) k4)).len (m := l + 2) hl2 e71, fun k hk => by rw [zs_sn hk]; exact hN k hk, fun k hk => by rw [← hR k hk]; exact zs_an hk, by rw [zs_ss]; exact e71, by omega, by rw [y12, pk_us], fun k hk => ?_, fun a b hab hb => ?_, by rw [y12, w0 0 (by omega)]; exact h0, fun k hk => ?_, rfl⟩ ?_⟩
      · rw [y12]
        by_cases ek : k = l + 1
        · rw [ek, pk_us]
          exact ⟨c', k4, rfl⟩
        · rw [w0 k (by omega)]
          exact hcs k (by omega)
      · rw [y12]
        by_cases eb : b = l + 1
        · rw [eb, pk_us, h.ci k4, w0 a (by omega)]
          by_cases ea : a = l
          · rw [ea, ew, h.ci hi]
            omega
          · have := hD a l (by omega) (by omega)
            rw [ew, h.ci hi] at this
            omega
        · rw [w0 a (by omega), w0 b (by omega)]
          exact hD a b hab (by omega)
      · rw [y12]
        by_cases ek : k = l
        · subst ek
          exact ⟨i, c', d, t, hi, k4, by rw [w0 k (by omega)]; exact ew, pk_us, e, k1, k2, k3, k5, pk_us, k6, k7⟩
        · obtain ⟨c, c2, d2, t2, j1, j2, j3, j4, j5, j6, j7, j8, j9, j10, j11⟩ := hW k (by omega)
          exact ⟨c, c2, d2, t2, j1, j2, by rw [w0 k (by omega)]; exact j3, by rw [w0 (k + 1) (by omega)]; exact j4, j5, j6, j7, j8, j9, by rw [pk_un ek]; exact j10, j11⟩
      · show (f (nI c').toNatClampNeg).toNatClampNeg < (f (nI i).toNatClampNeg).toNatClampNeg
        rw [h.ci k4, h.ci hi]
        omega
  · have ek : k = 0 := by omega
    rw [ek, r12, pk_us]
    exact ⟨e0, he0, rfl⟩
/-- all but the finder's own rows is as it was -/
def zc_F (z z' : zS) : Prop := (∀ k, k ≠ 7 → k ≠ 9 → k ≠ 10 → z'.1 k = z.1 k) ∧ ∀ k, k ≠ 12 → k ≠ 13 → k ≠ 14 → k ≠ 15 → k ≠ 16 → z'.2 k = z.2 k
theorem zc_F.tr {a b c : zS} (h : zc_F a b) (h' : zc_F b c) : zc_F a c := ⟨fun k k1 k2 k3 => (h'.1 k k1 k2 k3).trans (h.1 k k1 k2 k3), fun k k1 k2 k3 k4 k5 => (h'.2 k k1 k2 k3 k4 k5).trans (h.2 k k1 k2 k3 k4 k5)⟩
theorem zb_t_0 {m r : Int32} {c : Nat} (h : zb_t W H z m False c r) : ∃ t, zr_t W H (z.1 5) (z.2 8) (z.2 5) (z.2 6) m 0 c t ∧ ((t = 1000000 ∧ r = -1) ∨ (t ≤ 10 ∧ r = nI t)) := by
  unfold zb_t at h
  rw [if_neg (fun x => x)] at h
  by_cases ep : z.2 5 c = m
  · rcases h with ⟨⟨hx, _⟩, _⟩ | ⟨_, e⟩
    · exact absurd ep hx
    · refine ⟨0, Or.inr ⟨fun hn => hn.1 ep, ?_⟩, Or.inr ⟨by omega, e⟩⟩
      by_cases hk : zb_K W H (z.1 5) (z.2 6) c m
      · exact Or.inr ⟨hk, Or.inr ⟨rfl, Or.inl ⟨ep, rfl⟩⟩⟩
      · exact Or.inl ⟨hk, rfl⟩
  · rcases h with ⟨⟨_, hx⟩, e⟩ | ⟨hx, e⟩
    · refine ⟨1000000, ?_, Or.inl ⟨rfl, e⟩⟩
      by_cases hb : ¬ z.2 8 c = 0 ∨ zb_K W H (z.1 5) (z.2 5) c m
      · exact Or.inl ⟨⟨ep, hb⟩, rfl⟩
      · refine Or.inr ⟨fun hn => hb hn.2, Or.inr ⟨?_, Or.inr ⟨rfl, Or.inr ⟨ep, rfl⟩⟩⟩⟩
        rcases hx with hx | hx | hx
        · exact absurd (Or.inl hx) hb
        · exact absurd (Or.inr hx) hb
        · exact hx
    · refine ⟨0, Or.inr ⟨fun hn => hx ⟨ep, hn.2.elim Or.inl (fun y => Or.inr (Or.inl y))⟩, Or.inl ⟨fun hk => hx ⟨ep, Or.inr (Or.inr hk)⟩, rfl⟩⟩, Or.inr ⟨by omega, e⟩⟩
theorem zb_t_1 {m r p : Int32} (hp : ¬ p = 0) {c : Nat} (h : zb_t W H z m True c r) : ∃ t, zr_t W H (z.1 5) (z.2 8) (z.2 5) (z.2 6) m p c t ∧ ((t = 1000000 ∧ r = -1) ∨ (t ≤ 10 ∧ r = nI t)) := by
  unfold zb_t at h
  rw [if_pos trivial] at h
  rcases h with ⟨hx, e⟩ | ⟨hx, ⟨hk, e⟩ | ⟨hk, e⟩⟩
  · exact ⟨1000000, Or.inl ⟨hx, rfl⟩, Or.inl ⟨rfl, e⟩⟩
  · exact ⟨10, Or.inr ⟨hx, Or.inr ⟨hk, Or.inl ⟨hp, rfl⟩⟩⟩, Or.inr ⟨by omega, e⟩⟩
  · exact ⟨0, Or.inr ⟨hx, Or.inl ⟨hk, rfl⟩⟩, Or.inr ⟨by omega, e⟩⟩
theorem zx_find {vc s0 e0 m : Nat} {p : Int32} (hvc : 1 ≤ vc ∧ vc ≤ 4) (h : zI W H n ln z) (hm : m < n) (he0 : e0 < 2 * (W * H)) (hs0 : s0 < 2 * (W * H)) (es0 : z.2 3 m = nI s0) (ee0 : z.2 4 m = nI e0) (evc : z.1 8 = nI vc) {f : Nat → Int32} (hP : zr_P W H (zr_t W H (z.1 5) (z.2 8) (z.2 5) (z.2 6) (nI m) p) vc s0 f) (hX : ∀ c, c < 2 * (W * H) → c ≠ s0 → zr_X W H (zr_t W H (z.1 5) (z.2 8) (z.2 5) (z.2 6) (nI m) p) vc f c 5) {post : Int32 → zS → Prop} (hp0 : ¬ (f e0).toNatClampNeg < 1000000 → ∀ z', zJ W H n ln z z' → zc_F z z' → post (-1) z') (hp1 : (f e0).toNatClampNeg < 1000000 → ∀ z' fc l, zJ W H n ln z z' → zc_F z z' → z'.1 7 = nI (l + 1) → l < 2 * (W * H) → zr_W W H (zr_t W H (z.1 5) (z.2 8) (z.2 5) (z.2 6) (nI m) p) vc f s0 e0 (z'.2 12) fc l → post (f e0) z') : zw_WayFinder_find ln (nI m) p z post := by
  have hC := h.C
  have h6 := h.n6
  have cm : (nI m).toNatClampNeg = m := nI_clamp (by omega)
  generalize hT : zr_t W H (z.1 5) (z.2 8) (z.2 5) (z.2 6) (nI m) p = T at hP hX hp1
  have hTu : ∀ c t t', T c t → T c t' → t = t' := fun c t t' h1 h2 => by
    rw [← hT] at h1 h2
    exact zr_t_uq h1 h2
  have hTv : ∀ c t, T c t → t = 0 ∨ t = 10 ∨ t = 1000000 := fun c t h1 => by
    rw [← hT] at h1
    exact zr_t_le h1
  refine zq_Lp_I (I := fun q => ∃ d z', d ≤ 2 * (W * H) ∧ zJ W H n ln z z' ∧ z'.1 = z.1 ∧ (∀ k, k ≠ 13 → z'.2 k = z.2 k) ∧ (∀ c, c < d → ∃ t, T c t ∧ ((t = 1000000 ∧ z'.2 13 c = -1) ∨ (t ≤ 10 ∧ z'.2 13 c = nI t))) ∧ q = (nI m, p, nI d, z')) (μ := fun q => 2 * (W * H) - q.2.2.1.toNatClampNeg) ?_ ⟨0, z, Nat.zero_le _, zJ.rf h, rfl, fun _ _ => rfl, fun c hc => absurd hc (Nat.not_lt_zero _), rfl⟩
  rintro k q ⟨d, z', hdC, hJ, hN, hR, hτ, rfl⟩ hk
  have h' := hJ.1
  by_cases hl : 2 * (W * H) ≤ d
  · have hτ' : zb_tr W H T (z'.2 13) := fun c hc => hτ c (by omega)
    have hF1 : zc_F z z' := ⟨fun k _ _ _ => by rw [hN], fun k _ k13 _ _ _ => hR k k13⟩
    refine zp_if (by rw [h'.s3]; exact nI_le hl (by omega)) ⟨h'.i6 (by omega) (by omega), ?_⟩
    rw [hR 3 (by omega), cm, es0]
    refine zx_spread hTu hTv hvc h' hs0 hτ' (by rw [hN]; exact evc) hP hX (fun z1 hJ1 hA1 hf => ?_)
    have hJ' := hJ.tr hJ1
    have hF2 : zc_F z z1 := hF1.tr ⟨fun k _ k9 k10 => hA1.1 k k9 k10, fun k _ _ k14 k15 k16 => hA1.2 k k14 k15 k16⟩
    have e3 : z1.2 3 m = nI s0 := by rw [hF2.2 3 (by omega) (by omega) (by omega) (by omega) (by omega), es0]
    have e4 : z1.2 4 m = nI e0 := by rw [hF2.2 4 (by omega) (by omega) (by omega) (by omega) (by omega), ee0]
    rw [e3, e4, h.ci he0, hf e0 he0]
    obtain ⟨a, ha, ea⟩ := hP.1 e0 he0
    have ea' : (f e0).toNatClampNeg = a := by rw [ea, nI_clamp (by omega)]
    refine ⟨h'.i6 (by omega) (by omega), h'.ic (k := 14) (by omega) (by omega) he0, ?_⟩
    by_cases hal : a < 1000000
    · refine zp_fin (fun hx => ?_) ⟨h'.i6 (by omega) (by omega), h'.i6 (by omega) (by omega), ?_⟩
      · rw [ea] at hx
        have := (nI_eq (b := 1000000) (by omega) (by omega)).mp hx
        omega
      · refine zx_trace hTu hvc hJ1.1 he0 hs0 (by rw [hA1.2 13 (by omega) (by omega) (by omega)]; exact hτ') (by rw [hA1.1 8 (by omega) (by omega), hN]; exact evc) hf hP hX (by omega) (fun z2 fc l hJ2 hN2 hR2 e7 hlC hW => hp1 (by omega) z2 fc l (hJ'.tr hJ2) (hF2.tr ⟨fun k k7 _ _ => hN2 k k7, fun k k12 _ _ _ _ => hR2 k k12⟩) e7 hlC hW)
    · have ea2 : a = 1000000 := by omega
      refine zp_fi (by rw [ea, ea2]; rfl) (hp0 (by omega) _ (hJ'.len (m := 0) (by omega) rfl) (hF2.tr ⟨fun k k7 _ _ => zs_sn k7, fun _ _ _ _ _ _ => rfl⟩))
  · have hl' : d < 2 * (W * H) := by omega
    have go : ∀ r t, T d t → ((t = 1000000 ∧ r = -1) ∨ (t ≤ 10 ∧ r = nI t)) → zw_WayFinder_find_37 ln post k (nI m) p (nI d) r (nI d) z' := fun r t ht hr => by
      refine ⟨h'.ic (k := 13) (by omega) (by omega) hl', hk _ ⟨d + 1, zs_a z' 13 (nI d) r, hl', hJ.put (k := 13) (by omega) (by omega) (zb_Rt (by omega)), hN, fun k k13 => by rw [zs_an k13]; exact hR k k13, fun c hc => ?_, by rw [nI_1]⟩ (zm_lt hl' (by omega))⟩
      rw [zs_a2, if_pos rfl, h.ci hl']
      by_cases e : c = d
      · rw [e, pk_us]
        exact ⟨t, ht, hr⟩
      · rw [pk_un e]
        exact hτ c (by omega)
    have e5 := hR 5 (by omega)
    have e6 := hR 6 (by omega)
    have e8 := hR 8 (by omega)
    refine zp_ifn (by rw [h'.s3]; exact nI_ge hl' (by omega)) ?_
    by_cases ep : p = 0
    · refine zp_if ep (zc_free h' hl' (fun r hr => ?_))
      obtain ⟨t, ht, hr'⟩ := zb_t_0 hr
      rw [e5, e6, e8, hN, ← ep, hT] at ht
      exact go r t ht hr'
    · refine zp_ifn ep (zc_push h' hl' (fun r hr => ?_))
      obtain ⟨t, ht, hr'⟩ := zb_t_1 ep hr
      rw [e5, e6, e8, hN, hT] at ht
      exact go r t ht hr'
end ZAA
