/-! the reference's isJoined, line and all -/
theorem zb_ct_mn {f g : Nat → Int32} : ∀ {N : Nat}, (∀ i, i < N → ¬ g i = 0 → ¬ f i = 0) → zb_ct g N ≤ zb_ct f N
  | 0, _ => Nat.le_refl _
  | N + 1, h => by
    have h1 := zb_ct_mn (f := f) (g := g) (N := N) (fun i hi => h i (by omega))
    have h2 := h N (by omega)
    show zb_ct g N + (if g N = 0 then 0 else 1) ≤ zb_ct f N + (if f N = 0 then 0 else 1)
    by_cases e : g N = 0
    · rw [if_pos e]
      omega
    · rw [if_neg e, if_neg (h2 e)]
      omega
theorem zb_ct_ms {f g : Nat → Int32} : ∀ {N : Nat}, (∀ i, i < N → ¬ g i = 0 → ¬ f i = 0) → (∃ i, i < N ∧ g i = 0 ∧ ¬ f i = 0) → zb_ct g N + 1 ≤ zb_ct f N
  | 0, _, ⟨i, hi, _⟩ => absurd hi (Nat.not_lt_zero _)
  | N + 1, h, ⟨i, hi, e1, e2⟩ => by
    have h2 := h N (by omega)
    show zb_ct g N + (if g N = 0 then 0 else 1) + 1 ≤ zb_ct f N + (if f N = 0 then 0 else 1)
    by_cases e : i = N
    · subst e
      have h1 := zb_ct_mn (f := f) (g := g) (N := i) (fun j hj => h j (by omega))
      rw [if_pos e1, if_neg e2]
      omega
    · have h1 := zb_ct_ms (f := f) (g := g) (N := N) (fun j hj => h j (by omega)) ⟨i, by omega, e1, e2⟩
      by_cases e : g N = 0
      · rw [if_pos e]
        omega
      · rw [if_neg e, if_neg (h2 e)]
        omega
/-- a marked cell touches the cell -/
def zr_T (W H : Nat) (f v : Nat → Int32) (i : Nat) : Prop := ∃ d j, d < 5 ∧ j < 2 * (W * H) ∧ zg_B W H i d = nI j ∧ ¬ f j = 0 ∧ (d = 4 → ¬ v (i % (W * H)) = 0)
section ZR
variable {W H n : Nat} {g g0 : zS}
theorem zd_touches (h : zM W H n g) {c : Nat} (hc : c < 2 * (W * H)) {post : Int32 → zS → Prop} (h1 : zr_T W H (g.2 5) (g.2 3) c → post 1 g) (h0 : ¬ zr_T W H (g.2 5) (g.2 3) c → post 0 g) : zw_Mo_touches (nI c) g post := by
  have hC := h.C
  refine zq_Lp_I (I := fun q => ∃ (b : Int32) (s : Nat), s ≤ 5 ∧ (b = 0 ∨ b = 1) ∧ (b = 0 → ∀ d j, d < s → j < 2 * (W * H) → zg_B W H c d = nI j → ¬ g.2 5 j = 0 → ¬ (d = 4 → ¬ g.2 3 (c % (W * H)) = 0)) ∧ (b = 1 → zr_T W H (g.2 5) (g.2 3) c) ∧ q = (nI c, b, nI s, g)) (μ := fun q => 5 - q.2.2.1.toNatClampNeg) ?_ ⟨0, 0, Nat.zero_le _, Or.inl rfl, fun _ d j hd => absurd hd (Nat.not_lt_zero _), fun e => absurd e (by decide), rfl⟩
  rintro k q ⟨b, s, hs, hb, hb0, hb1, rfl⟩ hk
  by_cases hl : 5 ≤ s
  · refine zp_if (nI_le (a := 5) hl (by omega)) ?_
    rcases hb with rfl | rfl
    · exact ⟨zp_b0, h0 (fun ⟨d, j, k1, k2, k3, k4, k5⟩ => hb0 rfl d j (by omega) k2 k3 k4 k5)⟩
    · exact ⟨zp_b1, h1 (hb1 rfl)⟩
  have go1 : zr_T W H (g.2 5) (g.2 3) c → zw_Mo_touches_55 post k (nI c) (nI s) g := fun hx => hk _ ⟨1, s + 1, by omega, Or.inr rfl, fun e => absurd e (by decide), fun _ => hx, by rw [nI_1]⟩ (zm_lt (by omega) (by omega))
  have go0 : b = 0 → (∀ j, j < 2 * (W * H) → zg_B W H c s = nI j → ¬ g.2 5 j = 0 → ¬ (s = 4 → ¬ g.2 3 (c % (W * H)) = 0)) → zw_Mo_touches_59 post k (nI c) (nI s) g := fun eb hx => hk _ ⟨0, s + 1, by omega, Or.inl rfl, fun _ d j hd => by
      by_cases e : d = s
      · rw [e]
        exact hx j
      · exact hb0 eb d j (by omega), fun e => absurd e (by decide), by rw [nI_1]⟩ (zm_lt (by omega) (by omega))
  refine zp_ifn (nI_ge (b := 5) (by omega) (by omega)) (zd_sd h hc (by omega) (fun er => ?_) (fun c' hc' er => ?_))
  · by_cases eb : b = 0
    · exact zp_fi eb (zp_if rfl (go0 eb (fun j hj e => absurd (er.symm.trans e).symm (zp_n1 (by omega)))))
    · exact zp_fin eb (go1 (hb1 (hb.resolve_left eb)))
  · by_cases eb : b = 0
    · have uq : ∀ j, j < 2 * (W * H) → zg_B W H c s = nI j → j = c' := fun j hj e => (nI_eq (by omega) (by omega)).mp (e.symm.trans er)
      refine zp_fi eb (zp_ifn (zp_n1 (by omega)) ⟨h.ic hc', ?_⟩)
      rw [h.ci hc']
      by_cases e5 : g.2 5 c' = 0
      · refine zp_if e5 (go0 eb (fun j hj e hn => ?_))
        rw [uq j hj e] at hn
        exact absurd e5 hn
      refine zp_ifn e5 ?_
      by_cases e4 : s < 4
      · exact zp_if (nI_lt (b := 4) e4 (by omega)) (go1 ⟨s, c', by omega, hc', er, e5, fun e => absurd e (by omega)⟩)
      refine zp_ifn (nI_nlt (b := 4) (by omega) (by omega)) (zd_placeOf h hc (fun p hp1 ep => ⟨h.i81 hp1, ?_⟩))
      rw [nI_clamp (by have := h.d; omega), ep]
      by_cases e3 : g.2 3 (c % (W * H)) = 0
      · exact zp_if e3 (go0 eb (fun j hj e hn hx => hx (by omega) e3))
      · exact zp_ifn e3 (go1 ⟨s, c', by omega, hc', er, e5, fun _ => e3⟩)
    · exact zp_fin eb (go1 (hb1 (hb.resolve_left eb)))
theorem zO.r5 (h : zO W H n g0 g) {f : Nat → Int32} (hf : ∀ c, c < 2 * (W * H) → f c = 0 ∨ f c = 1) : zO W H n g0 (zs_r g 5 f) :=
  ⟨h.1.of (zN.rf.r (by omega)) (fun c hc => by rw [zs_rn (by omega)]; exact h.1.own hc) (fun c hc => by rw [zs_re]; exact hf c hc), h.2.r (by omega)⟩
theorem zd_joined (h : zM W H n g) {m : Nat} (hm : m < n) {post : Int32 → zS → Prop} (hp : ∀ r g', zO W H n g g' → (∃ f, g' = zs_r g 5 f) → (r = 0 ∨ r = 1) → (¬ r = 0 ↔ g.2 2 (g.2 8 m).toNatClampNeg = nI m ∧ g.2 2 (g.2 9 m).toNatClampNeg = nI m ∧ zr_J W H g m) → post r g') : zw_Mo_isJoined (nI m) g post := by
  have hC := h.C
  have h6 := h.n6
  have cm : (nI m).toNatClampNeg = m := nI_clamp (by omega)
  obtain ⟨s0, e0, hs0, he0, es0, ee0, _, _⟩ := h.ends hm
  have cs0 : (g.2 8 m).toNatClampNeg = s0 := by rw [es0]; exact h.ci hs0
  have ce0 : (g.2 9 m).toNatClampNeg = e0 := by rw [ee0]; exact h.ci he0
  have no : ¬ (g.2 2 s0 = nI m ∧ g.2 2 e0 = nI m) → zw_Mo_isJoined_30 post g := fun hx => ⟨zp_b0, hp 0 g (zO.rf h) ⟨g.2 5, zs_rs g 5⟩ (Or.inl rfl) ⟨fun e => absurd rfl e, fun e => by
    rw [cs0, ce0] at e
    exact absurd ⟨e.1, e.2.1⟩ hx⟩⟩
  refine ⟨h.i6 hm, ?_⟩
  rw [cm, es0, ee0, h.ci hs0, h.ci he0]
  refine ⟨h.ic hs0, ?_⟩
  by_cases o1 : g.2 2 s0 = nI m
  · refine zp_fi o1 ⟨h.i6 hm, h.ic he0, ?_⟩
    by_cases o2 : g.2 2 e0 = nI m
    · refine zp_if o2 ?_
      have g8 : ∀ f, (zs_r g 5 f).2 8 (nI m).toNatClampNeg = nI s0 := fun f => by rw [zs_rn (by omega), cm, es0]
      have g9 : ∀ f, (zs_r g 5 f).2 9 (nI m).toNatClampNeg = nI e0 := fun f => by rw [zs_rn (by omega), cm, ee0]
      refine zq_Lp_I (I := fun q => ∃ i f, i ≤ 2 * (W * H) ∧ (∀ c, c < 2 * (W * H) → f c = 0 ∨ f c = 1) ∧ (∀ c, c < i → f c = if c = s0 then 1 else 0) ∧ q = (nI m, nI i, zs_r g 5 f)) (μ := fun q => 2 * (W * H) - q.2.1.toNatClampNeg) ?_ ⟨0, g.2 5, Nat.zero_le _, fun c hc => h.mk hc, fun c hc => absurd hc (Nat.not_lt_zero _), by rw [← zs_rs]; rfl⟩
      rintro k0 q0 ⟨i0, f0, hi0, hb0, hf0, rfl⟩ hk0
      have hO : ∀ f, (∀ c, c < 2 * (W * H) → f c = 0 ∨ f c = 1) → zO W H n g (zs_r g 5 f) := fun f hf => (zO.rf h).r5 hf
      unfold zw_Mo_isJoined_34
      dsimp only
      refine zd_many (hO f0 hb0).1 ?_
      by_cases hl0 : 2 * (W * H) ≤ i0
      · refine zp_if (nI_le hl0 (by omega)) ?_
        -- the marking
        refine zq_Lp_I (I := fun q => ∃ (b : Int32) (f : Nat → Int32), (b = 0 ∨ b = 1) ∧ (∀ c, c < 2 * (W * H) → f c = 0 ∨ f c = 1) ∧ f s0 = 1 ∧ (∀ c, c < 2 * (W * H) → ¬ f c = 0 → g.2 2 c = nI m ∧ ∀ S : Nat → Prop, S s0 → (∀ i j d, i < 2 * (W * H) → j < 2 * (W * H) → d < 5 → S j → g.2 2 j = nI m → g.2 2 i = nI m → zg_B W H i d = nI j → (d = 4 → ¬ g.2 3 (i % (W * H)) = 0) → S i) → S c) ∧ (b = 0 → ∀ c, c < 2 * (W * H) → f c = 0 → g.2 2 c = nI m → ¬ zr_T W H f (g.2 3) c) ∧ q = (nI m, b, zs_r g 5 f)) (μ := fun q => (2 * (W * H) - zb_ct (q.2.2.2 5) (2 * (W * H))) + if q.2.1 = 0 then 0 else 1) ?_ ⟨1, f0, Or.inr rfl, hb0, by rw [hf0 s0 (by omega), if_pos rfl], fun c hc hne => ?_, fun e => absurd e (by decide), rfl⟩
        · rintro k1 q1 ⟨b, f, hb, hbf, hfs, hsd, hcl, rfl⟩ hk1
          have hO1 := hO f hbf
          by_cases eb : b = 0
          · refine zp_if eb ?_
            rw [g9, zs_re, h.ci he0]
            refine ⟨h.i6 hm, h.ic he0, zb_bn (hbf e0 he0), hp _ _ hO1 ⟨f, rfl⟩ (hbf e0 he0) ?_⟩
            rw [cs0, ce0]
            constructor
            · intro hne
              refine ⟨o1, o2, fun S hS hc => ?_⟩
              rw [cs0] at hS
              rw [ce0]
              exact (hsd e0 he0 hne).2 S hS hc
            · rintro ⟨_, _, hJ⟩
              have := hJ (fun c => ¬ f c = 0) (by rw [cs0, hfs]; decide) (fun i j d hi hj hd hSj _ oi eB hv hfi => hcl eb i hi hfi oi ⟨d, j, hd, hj, eB, hSj, hv⟩)
              rw [ce0] at this
              exact this
          refine zp_ifn eb ?_
          have mu1 : ((2 * (W * H) - zb_ct ((nI m, b, zs_r g 5 f).2.2.2 5) (2 * (W * H))) + if (nI m, b, zs_r g 5 f).2.1 = 0 then 0 else 1) = (2 * (W * H) - zb_ct f (2 * (W * H))) + 1 := by
            show (2 * (W * H) - zb_ct ((zs_r g 5 f).2 5) _) + (if b = 0 then 0 else 1) = _
            rw [zs_re, if_neg eb]
          rw [mu1] at hk1
          refine zq_Lp_I (I := fun q => ∃ (b : Int32) (i : Nat) (f' : Nat → Int32), i ≤ 2 * (W * H) ∧ (b = 0 ∨ b = 1) ∧ (∀ c, c < 2 * (W * H) → f' c = 0 ∨ f' c = 1) ∧ f' s0 = 1 ∧ (∀ c, c < 2 * (W * H) → ¬ f' c = 0 → g.2 2 c = nI m ∧ ∀ S : Nat → Prop, S s0 → (∀ i j d, i < 2 * (W * H) → j < 2 * (W * H) → d < 5 → S j → g.2 2 j = nI m → g.2 2 i = nI m → zg_B W H i d = nI j → (d = 4 → ¬ g.2 3 (i % (W * H)) = 0) → S i) → S c) ∧ (b = 0 → ∀ c, c < i → f' c = 0 → g.2 2 c = nI m → ¬ zr_T W H f' (g.2 3) c) ∧ zb_ct f (2 * (W * H)) + (if b = 0 then 0 else 1) ≤ zb_ct f' (2 * (W * H)) ∧ q = (nI m, b, nI i, zs_r g 5 f')) (μ := fun q => 2 * (W * H) - q.2.2.1.toNatClampNeg) ?_ ⟨0, 0, f, Nat.zero_le _, Or.inl rfl, hbf, hfs, hsd, fun _ c hc => absurd hc (Nat.not_lt_zero _), Nat.le_refl _, rfl⟩
          rintro k2 q2 ⟨b2, i, f2, hi, hb2, hbf2, hfs2, hsd2, hcl2, hct2, rfl⟩ hk2
          have hO2 := hO f2 hbf2
          unfold zw_Mo_isJoined_79
          dsimp only
          refine zd_many hO2.1 ?_
          by_cases hl : 2 * (W * H) ≤ i
          · refine zp_if (nI_le hl (by omega)) (hk1 _ ⟨b2, f2, hb2, hbf2, hfs2, hsd2, fun e c hc => hcl2 e c (by omega), rfl⟩ ?_)
            show (2 * (W * H) - zb_ct ((zs_r g 5 f2).2 5) (2 * (W * H))) + (if b2 = 0 then 0 else 1) < _
            rw [zs_re]
            have := zb_ct_le f2 (2 * (W * H))
            split at hct2 <;> rename_i hx
            · rw [if_pos hx]
              omega
            · rw [if_neg hx]
              omega
          have hl' : i < 2 * (W * H) := by omega
          have go : (f2 i = 0 → g.2 2 i = nI m → ¬ zr_T W H f2 (g.2 3) i) → zw_Mo_isJoined_126 post k1 k2 (nI m) b2 (nI i) (zs_r g 5 f2) := fun hx => hk2 _ ⟨b2, i + 1, f2, hl', hb2, hbf2, hfs2, hsd2, fun e c hc => by
            by_cases ec : c = i
            · rw [ec]
              exact hx
            · exact hcl2 e c (by omega), hct2, by rw [nI_1]⟩ (zm_lt hl' (by omega))
          refine zp_ifn (nI_ge hl' (by omega)) ⟨h.ic hl', ?_⟩
          rw [zs_re, h.ci hl']
          by_cases e5 : f2 i = 0
          · refine zp_fi e5 ⟨h.ic hl', ?_⟩
            rw [zs_rn (by omega)]
            by_cases eo : g.2 2 i = nI m
            · refine zp_fi eo (zd_touches hO2.1 hl' (fun ht => zp_fin (by decide) ⟨h.ic hl', ?_⟩) (fun ht => zp_fi rfl (go (fun _ _ => ?_))))
              · rw [zs_re, zs_rn (by omega)] at ht
                refine hk2 _ ⟨1, i + 1, upd f2 i 1, hl', Or.inr rfl, fun c hc => ?_, ?_, fun c hc hne => ?_, fun e => absurd e (by decide), ?_, by rw [nI_1, zs_ra, h.ci hl']; rfl⟩ (zm_lt hl' (by omega))
                · by_cases ec : c = i
                  · rw [ec, pk_us]
                    exact Or.inr rfl
                  · rw [pk_un ec]
                    exact hbf2 c hc
                · by_cases ec : s0 = i
                  · rw [ec, pk_us]
                  · rw [pk_un ec]
                    exact hfs2
                · by_cases ec : c = i
                  · subst ec
                    refine ⟨eo, fun S hS hc' => ?_⟩
                    obtain ⟨d, j, k1', k2', k3', k4', k5'⟩ := ht
                    have hj := hsd2 j k2' k4'
                    exact hc' c j d hl' k2' k1' (hj.2 S hS hc') hj.1 eo k3' k5'
                  · rw [pk_un ec] at hne
                    exact hsd2 c hc hne
                · have := zb_ct_up (f := f2) (i := i) (v := 1) hl'
                  rw [if_pos e5, if_neg (show ¬ (1 : Int32) = 0 by decide)] at this
                  rw [if_neg (show ¬ (1 : Int32) = 0 by decide)]
                  split at hct2 <;> omega
              · rw [zs_re, zs_rn (by omega)] at ht
                exact ht
            · exact zp_fin eo (go (fun _ e => absurd e eo))
          · exact zp_fin e5 (go (fun e => absurd e e5))
        · rw [hf0 c (by omega)] at hne
          by_cases ec : c = s0
          · subst ec
            exact ⟨o1, fun S hS _ => hS⟩
          · rw [if_neg ec] at hne
            exact absurd rfl hne
      · have hl' : i0 < 2 * (W * H) := by omega
        have go : ∀ u v : Int32, vp_nar .boolean u = v → v = (if i0 = s0 then 1 else 0) → zw_Mo_isJoined_62 post k0 (nI m) (nI i0) u (nI i0) (zs_r g 5 f0) := fun u v euv hv => by
          refine ⟨h.ic hl', hk0 _ ⟨i0 + 1, upd f0 i0 v, hl', fun c hc => ?_, fun c hc => ?_, by rw [nI_1, zs_ra, h.ci hl', euv]⟩ (zm_lt hl' (by omega))⟩
          · by_cases ec : c = i0
            · rw [ec, pk_us, hv]
              split
              · exact Or.inr rfl
              · exact Or.inl rfl
            · rw [pk_un ec]
              exact hb0 c hc
          · by_cases ec : c = i0
            · rw [ec, pk_us]
              exact hv
            · rw [pk_un ec]
              exact hf0 c (by omega)
        refine zp_ifn (nI_ge hl' (by omega)) ⟨h.i6 hm, ?_⟩
        rw [g8]
        by_cases e : i0 = s0
        · exact zp_fi (by rw [e]) (go 1 1 rfl (by rw [if_pos e]))
        · exact zp_fin (fun hx => e ((nI_eq (by omega) (by omega)).mp hx)) (go 0 0 rfl (by rw [if_neg e]))
    · exact zp_ifn o2 (no (fun hx => o2 hx.2))
  · exact zp_fin o1 (no (fun hx => o1 hx.1))
theorem zd_countOpen (h : zM W H n g) {post : Int32 → zS → Prop} (hp : ∀ r g', zO W H n g g' → g'.1 4 = g.1 4 → post r g') : zw_Mo_countOpen g post := by
  have h6 := h.n6
  refine zq_Lp_I (I := fun q => ∃ v c g', c ≤ n ∧ zO W H n g g' ∧ g'.1 4 = g.1 4 ∧ q = (v, nI c, g')) (μ := fun q => n - q.2.1.toNatClampNeg) ?_ ⟨0, 0, g, Nat.zero_le _, zO.rf h, rfl, rfl⟩
  rintro k q ⟨v, c, g', hc, hO, h4, rfl⟩ hk
  by_cases hl : n ≤ c
  · exact zp_if (by rw [hO.1.w5]; exact nI_le hl (by omega)) (hp _ _ hO h4)
  have go : ∀ u v g2, zO W H n g g2 → g2.1 4 = g.1 4 → zw_Mo_countOpen_26 post k (nI c) u v g2 := fun u v g2 hO2 h42 => hk _ ⟨_, c + 1, g2, by omega, hO2, h42, by rw [nI_1]⟩ (zm_lt (by omega) (by omega))
  refine zp_ifn (by rw [hO.1.w5]; exact nI_ge (by omega) (by omega)) (zd_joined hO.1 (by omega) (fun r g2 hO2 hf _ _ => ?_))
  have h42 : g2.1 4 = g.1 4 := by
    obtain ⟨f, rfl⟩ := hf
    exact h4
  by_cases e : r = 0
  · exact zp_if e (go _ _ _ (hO.tr hO2) h42)
  · exact zp_ifn e (go _ _ _ (hO.tr hO2) h42)
end ZR
