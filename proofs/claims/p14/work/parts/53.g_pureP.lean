/-! the reference's way: from the second pin back, by costs that fall -/
theorem zs_rab (g : zS) {k j : Nat} (hk : k ≠ j) (f f' : Nat → Int32) (i v : Int32) : zs_a (zs_r (zs_r g k f) j f') k i v = zs_r (zs_r g k (upd f i.toNatClampNeg v)) j f' := by
  have e1 : (zs_r (zs_r g k f) j f').2 k = f := by rw [zs_rn hk, zs_re]
  rw [zs_ar, e1]
  unfold zs_r va_up
  refine Prod.ext rfl (funext fun a => ?_)
  show (if a = k then upd f i.toNatClampNeg v else if a = j then f' else if a = k then f else g.2 a) = if a = j then f' else if a = k then upd f i.toNatClampNeg v else g.2 a
  by_cases e : a = k
  · rw [if_pos e, if_neg (by omega), if_pos e]
  · rw [if_neg e]
    by_cases e' : a = j
    · rw [if_pos e', if_pos e']
    · rw [if_neg e', if_neg e', if_neg e, if_neg e]
theorem zr_eq {W H : Nat} {T : Nat → Nat → Prop} {vc s0 : Nat} {f : Nat → Int32} (hvc : 1 ≤ vc) (hP : zr_P W H T vc s0 f) (hX : ∀ c, c < 2 * (W * H) → c ≠ s0 → zr_X W H T vc f c 5) {c : Nat} (hc : c < 2 * (W * H)) (hs : c ≠ s0) (hl : (f c).toNatClampNeg < 1000000) : ∃ t d c', T c t ∧ t < 1000000 ∧ d < 5 ∧ c' < 2 * (W * H) ∧ zg_B W H c d = nI c' ∧ (f c').toNatClampNeg + zb_e vc d + t = (f c).toNatClampNeg ∧ (f c').toNatClampNeg < (f c).toNatClampNeg := by
  obtain ⟨t, d, c', k1, k2, k3, k4, k5, k6⟩ := hP.2.2 c hc hs hl
  have k7 := hX c hc hs t k1 k2 d k3 c' k4 k5
  have hz : 1 ≤ zb_e vc d := by unfold zb_e; split <;> omega
  exact ⟨t, d, c', k1, k2, k3, k4, k5, by omega, by omega⟩
/-- a way: from e0 back to s0 -/
def zr_W (W H : Nat) (T : Nat → Nat → Prop) (vc : Nat) (f : Nat → Int32) (s0 e0 : Nat) (fw fc : Nat → Int32) (l : Nat) : Prop :=
  fw l = nI s0 ∧ fw 0 = nI e0 ∧ ∀ k, k < l → ∃ c c' d t, c < 2 * (W * H) ∧ c' < 2 * (W * H) ∧ fw k = nI c ∧ fw (k + 1) = nI c' ∧ c ≠ s0 ∧ T c t ∧ t < 1000000 ∧ d < 5 ∧ zg_B W H c d = nI c' ∧ (fc k = if d = 4 then 1 else 0) ∧ (f c').toNatClampNeg + zb_e vc d + t = (f c).toNatClampNeg ∧ ∀ d', d' < d → ∀ c'', c'' < 2 * (W * H) → zg_B W H c d' = nI c'' → ¬ (f c'').toNatClampNeg + zb_e vc d' + t = (f c).toNatClampNeg
section ZP
variable {W H n : Nat} {g g0 : zS}
theorem zd_before (h : zM W H n g) {m vc s0 : Nat} (hvc : 1 ≤ vc ∧ vc ≤ 4) {p : Int32} (hP : zr_P W H (zr_t W H (g.1 3) (g.2 0) (g.2 1) (g.2 2) (nI m) p) vc s0 (g.2 4)) (hX : ∀ c, c < 2 * (W * H) → c ≠ s0 → zr_X W H (zr_t W H (g.1 3) (g.2 0) (g.2 1) (g.2 2) (nI m) p) vc (g.2 4) c 5) {c : Nat} (hc : c < 2 * (W * H)) (hs : c ≠ s0) (hl : (g.2 4 c).toNatClampNeg < 1000000) {post : Int32 → zS → Prop} (hp : ∀ t d c', zr_t W H (g.1 3) (g.2 0) (g.2 1) (g.2 2) (nI m) p c t → t < 1000000 → d < 5 → c' < 2 * (W * H) → zg_B W H c d = nI c' → (g.2 4 c').toNatClampNeg + zb_e vc d + t = (g.2 4 c).toNatClampNeg → (∀ d', d' < d → ∀ c'', c'' < 2 * (W * H) → zg_B W H c d' = nI c'' → ¬ (g.2 4 c'').toNatClampNeg + zb_e vc d' + t = (g.2 4 c).toNatClampNeg) → post (nI d) g) : zw_Mo_before (nI c) (nI m) p g post := by
  have hC := h.C
  refine zd_toll h hc (fun t ht => ?_)
  obtain ⟨t0, d0, c0, k1, k2, k3, k4, k5, k6, k7⟩ := zr_eq hvc.1 hP hX hc hs hl
  have et := zr_t_uq k1 ht
  subst et
  obtain ⟨a, ha, ea⟩ := hP.1 c hc
  have ea' : (g.2 4 c).toNatClampNeg = a := by rw [ea, nI_clamp (by omega)]
  have t10 : t0 ≤ 10 := by have := zr_t_le ht; omega
  refine zq_Lp_I (I := fun q => ∃ s, s ≤ 4 ∧ (∀ d', d' < s → ∀ c'', c'' < 2 * (W * H) → zg_B W H c d' = nI c'' → ¬ (g.2 4 c'').toNatClampNeg + zb_e vc d' + t0 = (g.2 4 c).toNatClampNeg) ∧ q = (nI c, nI t0, nI s, g)) (μ := fun q => 4 - q.2.2.1.toNatClampNeg) ?_ ⟨0, Nat.zero_le _, fun d' hd' => absurd hd' (Nat.not_lt_zero _), rfl⟩
  rintro k q ⟨s, hs4, hI, rfl⟩ hk
  by_cases hl4 : 4 ≤ s
  · have e4 : s = 4 := by omega
    subst e4
    have ed : d0 = 4 := by
      rcases Nat.lt_or_ge d0 4 with hx | hx
      · exact absurd k6 (hI d0 hx c0 k4 k5)
      · omega
    subst ed
    exact zp_if (nI_le (a := 4) hl4 (by omega)) (hp t0 4 c0 k1 k2 k3 k4 k5 k6 hI)
  refine zp_ifn (nI_ge (b := 4) (by omega) (by omega)) ?_
  have go : (∀ c'', c'' < 2 * (W * H) → zg_B W H c s = nI c'' → ¬ (g.2 4 c'').toNatClampNeg + zb_e vc s + t0 = (g.2 4 c).toNatClampNeg) → zw_Mo_before_69 post k (nI c) (nI t0) (nI s) g := fun hx => hk _ ⟨s + 1, by omega, fun d' hd' => by
    by_cases e : d' = s
    · rw [e]
      exact hx
    · exact hI d' (by omega), by rw [nI_1]⟩ (zm_lt (by omega) (by omega))
  have e1s : zb_e vc s = 1 := by unfold zb_e; rw [if_neg (by omega)]
  refine zd_sd h hc (by omega) (fun er => zp_if rfl (go (fun c'' hc'' e => absurd (er.symm.trans e).symm (zp_n1 (by omega))))) (fun c' hc' er => zp_ifn (zp_n1 (by omega)) ⟨h.ic hc', ?_⟩)
  obtain ⟨a', ha', ea2⟩ := hP.1 c' hc'
  have ea3 : (g.2 4 c').toNatClampNeg = a' := by rw [ea2, nI_clamp (by omega)]
  have uq : ∀ c'', c'' < 2 * (W * H) → zg_B W H c s = nI c'' → c'' = c' := fun c'' hc'' e'' => (nI_eq (by omega) (by omega)).mp (e''.symm.trans er)
  rw [h.ci hc', h.ci hc, ea2, ea]
  by_cases hf : a' = 1000000
  · refine zp_if (by rw [hf]; exact nI_le (Nat.le_refl _) (by omega)) (go (fun c'' hc'' e'' => ?_))
    rw [uq c'' hc'' e'', ea3, ea']
    omega
  refine zp_ifn (nI_ge (b := 1000000) (by omega) (by omega)) ⟨h.ic hc', h.ic hc, ?_⟩
  rw [show (1 : Int32) = nI 1 from rfl, nI_add, nI_add]
  by_cases he : a' + 1 + t0 = a
  · exact zp_fi (by rw [he]) (hp t0 s c' k1 k2 (by omega) hc' er (by rw [ea3, ea', e1s]; exact he) hI)
  · refine zp_fin (fun hx => he ((nI_eq (by omega) (by omega)).mp hx)) (go (fun c'' hc'' e'' => ?_))
    rw [uq c'' hc'' e'', ea3, ea', e1s]
    exact he
theorem zd_way (h : zM W H n g) {m vc s0 e0 : Nat} (hm : m < n) (hs0 : s0 < 2 * (W * H)) (he0 : e0 < 2 * (W * H)) (es0 : g.2 8 m = nI s0) (ee0 : g.2 9 m = nI e0) (hvc : 1 ≤ vc ∧ vc ≤ 4) {p : Int32} (hP : zr_P W H (zr_t W H (g.1 3) (g.2 0) (g.2 1) (g.2 2) (nI m) p) vc s0 (g.2 4)) (hX : ∀ c, c < 2 * (W * H) → c ≠ s0 → zr_X W H (zr_t W H (g.1 3) (g.2 0) (g.2 1) (g.2 2) (nI m) p) vc (g.2 4) c 5) (hl : (g.2 4 e0).toNatClampNeg < 1000000) {post : zS → Prop} (hp : ∀ fw fc l, l < 2 * (W * H) → zr_W W H (zr_t W H (g.1 3) (g.2 0) (g.2 1) (g.2 2) (nI m) p) vc (g.2 4) s0 e0 fw fc l → (∀ k, k ≤ l → zb_c W H (fw k)) → fc l = 0 → zq_Lp (zw_Mo_lay_90 post) (nI m, p, nI l, (0 : Int32), zs_r (zs_r g 6 fw) 7 fc)) : zw_Mo_lay (nI m) p g post := by
  have hC := h.C
  have h6 := h.n6
  have cm : (nI m).toNatClampNeg = m := nI_clamp (by omega)
  generalize hT : zr_t W H (g.1 3) (g.2 0) (g.2 1) (g.2 2) (nI m) p = T at hp hP hX
  refine ⟨h.i6 hm, ?_⟩
  rw [cm, ee0]
  refine zq_Lp_I (I := fun q => ∃ l i fw fc, i < 2 * (W * H) ∧ (g.2 4 i).toNatClampNeg < 1000000 ∧ (∀ k, k ≤ l → zb_c W H (upd fw l (nI i) k)) ∧ (∀ j k, j < k → k ≤ l → (g.2 4 (upd fw l (nI i) k).toNatClampNeg).toNatClampNeg < (g.2 4 (upd fw l (nI i) j).toNatClampNeg).toNatClampNeg) ∧ upd fw l (nI i) 0 = nI e0 ∧ (∀ k, k < l → ∃ c c' d t, c < 2 * (W * H) ∧ c' < 2 * (W * H) ∧ upd fw l (nI i) k = nI c ∧ upd fw l (nI i) (k + 1) = nI c' ∧ c ≠ s0 ∧ T c t ∧ t < 1000000 ∧ d < 5 ∧ zg_B W H c d = nI c' ∧ (fc k = if d = 4 then 1 else 0) ∧ (g.2 4 c').toNatClampNeg + zb_e vc d + t = (g.2 4 c).toNatClampNeg ∧ ∀ d', d' < d → ∀ c'', c'' < 2 * (W * H) → zg_B W H c d' = nI c'' → ¬ (g.2 4 c'').toNatClampNeg + zb_e vc d' + t = (g.2 4 c).toNatClampNeg) ∧ q = (nI m, p, nI l, nI i, zs_r (zs_r g 6 fw) 7 fc)) (μ := fun q => (g.2 4 q.2.2.2.1.toNatClampNeg).toNatClampNeg) ?_ ⟨0, e0, g.2 6, g.2 7, he0, hl, fun k hk => ?_, fun j k hjk hk => absurd hjk (by omega), pk_us, fun k hk => absurd hk (Nat.not_lt_zero _), ?_⟩
  · rintro k q ⟨l, i, fw, fc, hi, hil, hcs, hD, h0, hW, rfl⟩ hk
    have hlC : l < 2 * (W * H) := by
      have := zb_pg (2 * (W * H)) (l + 1) (fun k => (upd fw l (nI i) k).toNatClampNeg) (fun k hk => by
        obtain ⟨c, hc, ec⟩ := hcs k (by omega)
        show (upd fw l (nI i) k).toNatClampNeg < _
        rw [ec, h.ci hc]
        exact hc) (fun a b ha hb e => by
        have e' : (upd fw l (nI i) a).toNatClampNeg = (upd fw l (nI i) b).toNatClampNeg := e
        rcases Nat.lt_trichotomy a b with hx | hx | hx
        · have := hD a b hx (by omega)
          rw [e'] at this
          exact absurd this (Nat.lt_irrefl _)
        · exact hx
        · have := hD b a hx (by omega)
          rw [e'] at this
          exact absurd this (Nat.lt_irrefl _))
      omega
    have vl : vp_in (nI l) 162 := h.ic hlC
    have hO : zO W H n g (zs_r (zs_r g 6 fw) 7 fc) := ((zO.rf h).r (by omega)).r (by omega)
    refine ⟨h.i6 hm, ?_⟩
    rw [show (zs_r (zs_r g 6 fw) 7 fc).2 8 = g.2 8 from by rw [zs_rn (by omega), zs_rn (by omega)], cm, es0]
    by_cases e : i = s0
    · subst e
      refine zp_if rfl ⟨vl, vl, ?_⟩
      rw [zs_rab g (by omega), h.ci hlC, zs_ra, h.ci hlC]
      refine hp (upd fw l (nI i)) (upd fc l 0) l hlC ⟨pk_us, h0, fun k hk => ?_⟩ hcs pk_us
      obtain ⟨c, c', d, t, k1, k2, k3, k4, k5, k6, k7, k8, k9, k10, k11⟩ := hW k hk
      exact ⟨c, c', d, t, k1, k2, k3, k4, k5, k6, k7, k8, k9, by rw [pk_un (by omega)]; exact k10, k11⟩
    · refine zp_ifn (fun hx => e ((nI_eq (by omega) (by omega)).mp hx)) ?_
      have r0 : (zs_r (zs_r g 6 fw) 7 fc).2 0 = g.2 0 := by rw [zs_rn (by omega), zs_rn (by omega)]
      have r1 : (zs_r (zs_r g 6 fw) 7 fc).2 1 = g.2 1 := by rw [zs_rn (by omega), zs_rn (by omega)]
      have r2 : (zs_r (zs_r g 6 fw) 7 fc).2 2 = g.2 2 := by rw [zs_rn (by omega), zs_rn (by omega)]
      have r4 : (zs_r (zs_r g 6 fw) 7 fc).2 4 = g.2 4 := by rw [zs_rn (by omega), zs_rn (by omega)]
      have eT : zr_t W H ((zs_r (zs_r g 6 fw) 7 fc).1 3) ((zs_r (zs_r g 6 fw) 7 fc).2 0) ((zs_r (zs_r g 6 fw) 7 fc).2 1) ((zs_r (zs_r g 6 fw) 7 fc).2 2) (nI m) p = T := by
        rw [r0, r1, r2]
        exact hT
      refine zd_before (s0 := s0) hO.1 hvc (by rw [eT, r4]; exact hP) (by rw [eT, r4]; exact hX) hi e (by rw [r4]; exact hil) (fun t d c' k1 k2 k3 k4 k5 k6 k7 => ⟨vl, ?_⟩)
      rw [eT] at k1
      rw [r4] at k6 k7
      have hz : 1 ≤ zb_e vc d := by unfold zb_e; split <;> omega
      rw [zs_rab g (by omega), h.ci hlC]
      have go : ∀ u v : Int32, vp_nar .boolean u = v → v = (if d = 4 then 1 else 0) → zw_Mo_lay_55 post k (nI m) p (nI l) (nI i) (nI d) u (nI l) (zs_r (zs_r g 6 (upd fw l (nI i))) 7 fc) := fun u v euv hv => by
        refine ⟨vl, ?_⟩
        rw [zs_ra, h.ci hlC, euv]
        refine zd_side (((zO.rf h).r (by omega)).r (by omega)).1 hi k3 ?_
        rw [k5, nI_1]
        have w0 : ∀ k, k ≤ l → upd (upd fw l (nI i)) (l + 1) (nI c') k = upd fw l (nI i) k := fun k hk => pk_un (by omega)
        refine hk _ ⟨l + 1, c', upd fw l (nI i), upd fc l v, k4, by omega, fun k hk => ?_, fun a b hab hb => ?_, by rw [w0 0 (by omega)]; exact h0, fun k hk => ?_, rfl⟩ ?_
        · by_cases ek : k = l + 1
          · rw [ek, pk_us]
            exact ⟨c', k4, rfl⟩
          · rw [w0 k (by omega)]
            exact hcs k (by omega)
        · by_cases eb : b = l + 1
          · rw [eb, pk_us, h.ci k4, w0 a (by omega)]
            by_cases ea : a = l
            · rw [ea, pk_us, h.ci hi]
              omega
            · have := hD a l (by omega) (by omega)
              rw [pk_us, h.ci hi] at this
              omega
          · rw [w0 a (by omega), w0 b (by omega)]
            exact hD a b hab (by omega)
        · by_cases ek : k = l
          · subst ek
            refine ⟨i, c', d, t, hi, k4, by rw [w0 k (by omega), pk_us], pk_us, e, k1, k2, k3, k5, by rw [pk_us]; exact hv, k6, k7⟩
          · obtain ⟨c, c2, d2, t2, j1, j2, j3, j4, j5, j6, j7, j8, j9, j10, j11⟩ := hW k (by omega)
            exact ⟨c, c2, d2, t2, j1, j2, by rw [w0 k (by omega)]; exact j3, by rw [w0 (k + 1) (by omega)]; exact j4, j5, j6, j7, j8, j9, by rw [pk_un ek]; exact j10, j11⟩
        · show (g.2 4 (nI c').toNatClampNeg).toNatClampNeg < (g.2 4 (nI i).toNatClampNeg).toNatClampNeg
          rw [h.ci k4, h.ci hi]
          omega
      by_cases e4 : d = 4
      · exact zp_fi (by rw [e4]; rfl) (go 1 1 rfl (by rw [if_pos e4]))
      · exact zp_fin (fun hx => e4 ((nI_eq (b := 4) (by omega) (by omega)).mp hx)) (go 0 0 rfl (by rw [if_neg e4]))
  · have ek : k = 0 := by omega
    rw [ek, pk_us]
    exact ⟨e0, he0, rfl⟩
  · have e1 := zs_rs (zs_r g 6 (g.2 6)) 7
    rw [zs_rn (by omega)] at e1
    rw [← e1, ← zs_rs]
    rfl
end ZP
