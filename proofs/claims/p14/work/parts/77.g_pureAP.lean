/-! the reference's serving and last rounds go the system's road -/
theorem zf_ap_uq {Q Q' : Nat → Prop} : ∀ {k s s1 s1' : Nat} {lf lf' f1 f1' : Nat → Int32}, (∀ j, j < k → (Q j ↔ Q' j)) → (∀ i, i < s → lf i = lf' i) → zf_ap Q k s lf s1 f1 → zf_ap Q' k s lf' s1' f1' → s1 = s1' ∧ ∀ i, i < s1 → f1 i = f1' i
  | 0, s, s1, s1', lf, lf', f1, f1', _, hl, h, h' => by
    obtain ⟨rfl, h2⟩ := h
    obtain ⟨rfl, h2'⟩ := h'
    exact ⟨rfl, fun i hi => by rw [h2 i hi, h2' i hi, hl i hi]⟩
  | k + 1, s, s1, s1', lf, lf', f1, f1', hQ, hl, h, h' => by
    obtain ⟨t, g, h1, h2⟩ := h
    obtain ⟨t', g', h1', h2'⟩ := h'
    obtain ⟨et, eg⟩ := zf_ap_uq (fun j hj => hQ j (by omega)) hl h1 h1'
    subst et
    have hk := hQ k (by omega)
    have eqv : (Q k ∧ ∀ i, i < t → ¬ g i = nI k) ↔ (Q' k ∧ ∀ i, i < t → ¬ g' i = nI k) := by
      rw [hk]
      exact ⟨fun x => ⟨x.1, fun i hi => by rw [← eg i hi]; exact x.2 i hi⟩, fun x => ⟨x.1, fun i hi => by rw [eg i hi]; exact x.2 i hi⟩⟩
    rcases h2 with ⟨a1, rfl, a3, a4⟩ | ⟨a1, rfl, a3⟩
    · rcases h2' with ⟨_, rfl, b3, b4⟩ | ⟨b1, _⟩
      · refine ⟨rfl, fun i hi => ?_⟩
        by_cases e : i = t
        · rw [e, a4, b4]
        · rw [a3 i (by omega), b3 i (by omega), eg i (by omega)]
      · exact absurd (eqv.mp a1) b1
    · rcases h2' with ⟨b1, _⟩ | ⟨_, rfl, b3⟩
      · exact absurd (eqv.mpr b1) a1
      · exact ⟨rfl, fun i hi => by rw [a3 i hi, b3 i hi, eg i hi]⟩
section ZAP
variable {W H n : Nat} {g g0 : zS} {σ : zSt}
/-- those pushed out join the reference's line -/
theorem zd_apx (h : zM W H n g) {s ob : Nat} (hs6 : s ≤ 6) (es : g.1 6 = nI s) (hL : zb_L n (g.1 6) (g.2 10)) (hob : ob < 64) (e7 : g.1 7 = nI ob) {P d : Nat} {post : Int32 → zS → Prop} {k56 : Int32 × Int32 × zS → Prop} (hp : ∀ g' s', zO W H n g g' → g'.1 4 = g.1 4 → (∀ k, k ≠ 10 → g'.2 k = g.2 k) → s' ≤ 6 → g'.1 6 = nI s' → zb_L n (g'.1 6) (g'.2 10) → zf_ap (fun k => ob / 2 ^ k % 2 = 1) n s (g.2 10) s' (g'.2 10) → k56 (nI P, nI d, g')) : zq_Lp (zw_Mo_all_159 post k56) (nI P, nI d, (0 : Int32), g) := by
  have h6 := h.n6
  refine zq_Lp_I (I := fun q => ∃ i g7 s', i ≤ n ∧ zO W H n g g7 ∧ g7.1 4 = g.1 4 ∧ g7.1 7 = nI ob ∧ (∀ k, k ≠ 10 → g7.2 k = g.2 k) ∧ s' ≤ 6 ∧ g7.1 6 = nI s' ∧ zb_L n (g7.1 6) (g7.2 10) ∧ zf_ap (fun k => ob / 2 ^ k % 2 = 1) i s (g.2 10) s' (g7.2 10) ∧ q = (nI P, nI d, nI i, g7)) (μ := fun q => n - q.2.2.1.toNatClampNeg) ?_ ⟨0, g, s, Nat.zero_le _, zO.rf h, rfl, e7, fun _ _ => rfl, hs6, es, hL, ⟨rfl, fun _ _ => rfl⟩, rfl⟩
  rintro k7 q7 ⟨i, g7, s', hi, hO7, h47, h77, hR7, hs', e6, hL7, hap, rfl⟩ hk7
  by_cases hl7 : n ≤ i
  · have ei : i = n := by omega
    subst ei
    exact zp_if (by rw [hO7.1.w5]; exact nI_le hl7 (by omega)) (hp g7 s' hO7 h47 hR7 hs' e6 hL7 hap)
  have hl7' : i < n := by omega
  have go : ∀ g8 s8, zO W H n g g8 → g8.1 4 = g.1 4 → g8.1 7 = nI ob → (∀ k, k ≠ 10 → g8.2 k = g.2 k) → s8 ≤ 6 → g8.1 6 = nI s8 → zb_L n (g8.1 6) (g8.2 10) → zf_ap (fun k => ob / 2 ^ k % 2 = 1) (i + 1) s (g.2 10) s8 (g8.2 10) → zw_Mo_all_213 post k56 k7 (nI P) (nI d) (nI i) g8 := fun g8 s8 hO8 h48 h78 hR8 hs8 e68 hL8 hap8 => hk7 _ ⟨i + 1, g8, s8, hl7', hO8, h48, h78, hR8, hs8, e68, hL8, hap8, by rw [nI_1]⟩ (zm_lt hl7' (by omega))
  have bt := (zb_bit ⟨ob, hob⟩ ⟨i, by omega⟩).1
  have b01 : (((g7.1 7) >>> (nI i &&& 31)) &&& (1 : Int32)) = 0 ↔ ¬ ob / 2 ^ i % 2 = 1 := by
    rw [h77]
    have key : ∀ (v : Fin 64) (b : Fin 6), ((nI v.val >>> (nI b.val &&& 31)) &&& (1 : Int32)) = 0 ↔ ¬ ((nI v.val >>> (nI b.val &&& 31)) &&& (1 : Int32)) = 1 := by decide +kernel
    rw [key ⟨ob, hob⟩ ⟨i, by omega⟩, bt]
  refine zp_ifn (by rw [hO7.1.w5]; exact nI_ge hl7' (by omega)) ?_
  by_cases eb : (((g7.1 7) >>> (nI i &&& 31)) &&& (1 : Int32)) = 0
  · exact zp_if eb (go g7 s' hO7 h47 h77 hR7 hs' e6 hL7 ⟨s', g7.2 10, hap, Or.inr ⟨fun hx => b01.mp eb hx.1, rfl, fun _ _ => rfl⟩⟩)
  have ebit : ob / 2 ^ i % 2 = 1 := Classical.byContradiction (fun hx => eb (b01.mpr hx))
  refine zp_ifn eb (zd_stands hO7.1 hs' e6 (fun ⟨j, hj, ej⟩ => zp_ifn (by decide) (go g7 s' hO7 h47 h77 hR7 hs' e6 hL7 ⟨s', g7.2 10, hap, Or.inr ⟨fun hx => hx.2 j hj ej, rfl, fun _ _ => rfl⟩⟩)) (fun hne => zp_if rfl ?_))
  obtain ⟨s7, hs7, es7, hin7, hinj7⟩ := id hL7
  have e77 : s7 = s' := (nI_eq (by omega) (by omega)).mp (es7.symm.trans e6)
  subst e77
  have hlt : s7 < n := by
    have := zb_pg n (s7 + 1) (fun x => if x = s7 then i else (g7.2 10 x).toNatClampNeg) (fun x hx => by
      show (if x = s7 then i else (g7.2 10 x).toNatClampNeg) < n
      split
      · exact hl7'
      · obtain ⟨o, ho, e⟩ := hin7 x (by omega)
        rw [e, nI_clamp (by omega)]
        exact ho) (fun x y hx hy e => by
      have e' : (if x = s7 then i else (g7.2 10 x).toNatClampNeg) = (if y = s7 then i else (g7.2 10 y).toNatClampNeg) := e
      split at e'
      · split at e'
        · omega
        · obtain ⟨o, ho, eo⟩ := hin7 y (by omega)
          rw [eo, nI_clamp (by omega)] at e'
          exact absurd (by rw [eo, e']) (hne y (by omega))
      · obtain ⟨o, ho, eo⟩ := hin7 x (by omega)
        split at e'
        · rw [eo, nI_clamp (by omega)] at e'
          exact absurd (by rw [eo, e']) (hne x (by omega))
        · obtain ⟨o', ho', eo'⟩ := hin7 y (by omega)
          rw [eo, eo', nI_clamp (by omega), nI_clamp (by omega)] at e'
          exact hinj7 x y (by omega) (by omega) (by rw [eo, eo', e']))
    omega
  have er : (zs_s (zs_a g7 10 (g7.1 6) (nI i)) 6 ((zs_a g7 10 (g7.1 6) (nI i)).1 6 + 1)).2 10 = upd (g7.2 10) s7 (nI i) := by
    show (zs_a g7 10 (g7.1 6) (nI i)).2 10 = _
    rw [zs_a2, if_pos rfl, e6, nI_clamp (by omega)]
  have er6 : (zs_s (zs_a g7 10 (g7.1 6) (nI i)) 6 ((zs_a g7 10 (g7.1 6) (nI i)).1 6 + 1)).1 6 = nI (s7 + 1) := by
    rw [zs_ss]
    show g7.1 6 + 1 = _
    rw [e6, nI_1]
  refine ⟨by rw [e6]; exact h.i6 hlt, go _ (s7 + 1) ((hO7.put (k := 10) (by omega)).num (by omega)) ?_ ?_ (fun k hk => ?_) (by omega) er6 ?_ ⟨s7, g7.2 10, hap, Or.inl ⟨⟨ebit, hne⟩, rfl, fun x hx => by rw [er, pk_un (by omega)], by rw [er, pk_us]⟩⟩⟩
  · rw [zs_sn (by omega)]
    exact h47
  · rw [zs_sn (by omega)]
    exact h77
  · rw [← hR7 k hk]
    exact (zs_an hk : (zs_a g7 10 (g7.1 6) (nI i)).2 k = g7.2 k)
  · rw [er, er6]
    refine ⟨s7 + 1, by omega, rfl, fun x hx => ?_, fun x y hx hy e => ?_⟩
    · by_cases ex : x = s7
      · rw [ex, pk_us]
        exact ⟨i, hl7', rfl⟩
      · rw [pk_un ex]
        exact hin7 x (by omega)
    · by_cases ex : x = s7
      · subst ex
        by_cases ey : y = x
        · exact ey.symm
        · rw [pk_us, pk_un ey] at e
          exact absurd e.symm (hne y (by omega))
      · rw [pk_un ex] at e
        by_cases ey : y = s7
        · subst ey
          rw [pk_us] at e
          exact absurd e (hne x (by omega))
        · rw [pk_un ey] at e
          exact hinj7 x y (by omega) (by omega) e
theorem zf_ap_pre {Q : Nat → Prop} : ∀ {k s s' : Nat} {lf lf' : Nat → Int32}, zf_ap Q k s lf s' lf' → s ≤ s' ∧ ∀ i, i < s → lf' i = lf i
  | 0, s, s', lf, lf', h => ⟨Nat.le_of_eq h.1.symm, h.2⟩
  | k + 1, s, s', lf, lf', h => by
    obtain ⟨t, f, h1, h2⟩ := h
    obtain ⟨a, b⟩ := zf_ap_pre h1
    rcases h2 with ⟨_, rfl, h3, _⟩ | ⟨_, rfl, h3⟩
    · exact ⟨by omega, fun i hi => by rw [h3 i (by omega), b i hi]⟩
    · exact ⟨a, fun i hi => by rw [h3 i (by omega), b i hi]⟩
/-- vias differ at most where a net that still stands in line has a pin -/
def zt_V (W H n : Nat) (σ : zSt) (s : Nat) (lf v w : Nat → Int32) : Prop := ∀ p, p < W * H → v p = w p ∨ ∃ c k i, c < 2 * (W * H) ∧ c % (W * H) = p ∧ k < n ∧ σ.2.2.1 c = nI k ∧ i < s ∧ lf i = nI k
theorem zd_servex (ok : zt_ok W H n σ) {P : Nat} (hP : P ≤ 20) {oF vF : Nat → Int32} {post : Int32 → zS → Prop} (hp : ∀ g', zO W H n g0 g' → g'.1 4 = 0 → zt_Y W H n σ g' → (∀ i, i < 2 * (W * H) → oF i = g'.2 2 i) → (∀ p, p < W * H → vF p = g'.2 3 p) → zq_Lp (zw_Mo_all_225 post) ((1 : Int32), g')) {N d s : Nat} {lf o v : Nat → Int32} (hsv : zt_sv W H n σ P N d s lf o v oF vF) (hd : d ≤ P) (hO : zO W H n g0 g) (h4 : g.1 4 = 0) (hY : zt_Y W H n σ g) (ho : ∀ i, i < 2 * (W * H) → o i = g.2 2 i) (hk : zf_k W H n σ.2.2.1 o) (hV : zt_V W H n σ s lf v (g.2 3)) (hs6 : s ≤ 6) (es : g.1 6 = nI s) (hL : zb_L n (g.1 6) (g.2 10)) (hlf : ∀ i, i < s → g.2 10 i = lf i) : zq_Lp (zw_Mo_all_56 post) (nI P, nI d, g) := by
  have hn := ok.2.1
  refine zq_Lp_J (I := fun N q => ∃ d s lf o v g, zt_sv W H n σ P N d s lf o v oF vF ∧ d ≤ P ∧ zO W H n g0 g ∧ g.1 4 = 0 ∧ zt_Y W H n σ g ∧ (∀ i, i < 2 * (W * H) → o i = g.2 2 i) ∧ zf_k W H n σ.2.2.1 o ∧ zt_V W H n σ s lf v (g.2 3) ∧ s ≤ 6 ∧ g.1 6 = nI s ∧ zb_L n (g.1 6) (g.2 10) ∧ (∀ i, i < s → g.2 10 i = lf i) ∧ q = (nI P, nI d, g)) ?_ ⟨d, s, lf, o, v, g, hsv, hd, hO, h4, hY, ho, hk, hV, hs6, es, hL, hlf, rfl⟩
  clear hsv hd hO h4 hY ho hk hV hs6 es hL hlf
  rintro k3 N q ⟨d, s, lf, o, v, g, hsv, hd, hO, h4, hY, ho, hk, hV, hs6, es, hL, hlf, rfl⟩ hk3
  cases N with
  | zero =>
    obtain ⟨rfl, rfl, rfl⟩ := hsv
    refine zp_if (by rw [es]; decide) (hp g hO h4 hY ho (fun p hpp => ?_))
    rcases hV p hpp with hx | ⟨_, _, i, _, _, _, _, hi, _⟩
    · exact hx
    · exact absurd hi (Nat.not_lt_zero _)
  | succ N =>
    obtain ⟨m, r, o1, v1, lf1, hm, hs0, elf, hlf1, hrt, hh⟩ := hsv
    have em' : g.2 10 (0 : Int32).toNatClampNeg = nI m := (hlf 0 hs0).trans elf
    have e61 : g.1 6 - 1 = nI (s - 1) := by rw [es]; exact nI_sub (b := 1) (by omega)
    obtain ⟨s', hs', es', hin, hinj⟩ := id hL
    have ess : s' = s := (nI_eq (by omega) (by omega)).mp (es'.symm.trans es)
    subst ess
    refine zp_ifn (by rw [es]; exact nI_nle (by omega) (by omega)) ⟨vp_in_nI (n := 0) (by omega) (by omega), ?_⟩
    rw [em', e61]
    -- the line moves up
    refine zq_Lp_I (I := fun q => ∃ j f, j ≤ s' - 1 ∧ (∀ x, x < 6 → f x = if x < j then g.2 10 (x + 1) else g.2 10 x) ∧ q = (nI P, nI d, nI m, nI j, zs_r (zs_s g 6 (nI (s' - 1))) 10 f)) (μ := fun q => (s' - 1) - q.2.2.2.1.toNatClampNeg) ?_ ⟨0, g.2 10, Nat.zero_le _, fun x _ => by rw [if_neg (Nat.not_lt_zero _)], by rw [show zs_r (zs_s g 6 (nI (s' - 1))) 10 (g.2 10) = zs_s g 6 (nI (s' - 1)) from (zs_rs (zs_s g 6 (nI (s' - 1))) 10).symm]; rfl⟩
    rintro k4 q4 ⟨j, f, hj, hf, rfl⟩ hk4
    have hO4 : zO W H n g0 (zs_r (zs_s g 6 (nI (s' - 1))) 10 f) := (hO.num (by omega)).r (by omega)
    have e46 : (zs_r (zs_s g 6 (nI (s' - 1))) 10 f).1 6 = nI (s' - 1) := (zs_ss : (zs_s g 6 (nI (s' - 1))).1 6 = nI (s' - 1))
    by_cases hlj : s' - 1 ≤ j
    · have ef : ∀ x, x < s' - 1 → f x = lf1 x := fun x hx => by rw [hf x (by omega), if_pos (by omega), hlf1 x hx, hlf (x + 1) (by omega)]
      have hLn : zb_L n (nI (s' - 1)) f := by
        have ef' : ∀ x, x < s' - 1 → f x = g.2 10 (x + 1) := fun x hx => by rw [hf x (by omega), if_pos (by omega)]
        refine ⟨s' - 1, by omega, rfl, fun x hx => by rw [ef' x hx]; exact hin (x + 1) (by omega), fun x y hx hy e => ?_⟩
        rw [ef' x hx, ef' y hy] at e
        have := hinj (x + 1) (y + 1) (by omega) (by omega) e
        omega
      have hO4' : zO W H n g (zs_r (zs_s g 6 (nI (s' - 1))) 10 f) := ((zO.rf hO.1).num (by omega)).r (by omega)
      have h44 : (zs_r (zs_s g 6 (nI (s' - 1))) 10 f).1 4 = 0 := by
        show (zs_s g 6 (nI (s' - 1))).1 4 = 0
        rw [zs_sn (by omega)]
        exact h4
      have g42 : (zs_r (zs_s g 6 (nI (s' - 1))) 10 f).2 2 = g.2 2 := by rw [zs_rn (by omega)]; rfl
      have g43 : (zs_r (zs_s g 6 (nI (s' - 1))) 10 f).2 3 = g.2 3 := by rw [zs_rn (by omega)]; rfl
      refine zp_if (by rw [e46]; exact nI_le hlj (by omega)) (zY_route ok (hY.o hO4') hO4.1 hm hrt (by rw [g42]; exact ho) (fun g5 hO5 hY5 ho5 hv5 => ?_))
      rw [g43] at hv5
      have hO5' := hO4.tr hO5
      have h45 : g5.1 4 = 0 := hY5.1.trans h44
      have e56 : g5.1 6 = nI (s' - 1) := hY5.2.1.trans e46
      have e510 : g5.2 10 = f := by rw [hY5.2.2, zs_re]
      have hYY5 : zt_Y W H n σ g5 := (hY.o hO4').o hO5
      have hk1 := zt_rt_k ok hm hrt hk
      -- the vias behind the route
      have hV5 : zt_V W H n σ (s' - 1) lf1 v1 (g5.2 3) := fun p hpp => by
        rcases hV p hpp with hx | ⟨c, kk, i, c1, c2, c3, c4, c5, c6⟩
        · exact Or.inl (hv5 p hpp (Or.inl hx))
        · by_cases ekm : kk = m
          · rw [ekm] at c4
            exact Or.inl (hv5 p hpp (Or.inr ⟨c, c1, c2, hk c m c1 hm c4⟩))
          · have i0 : i ≠ 0 := fun e => by
              rw [e, elf] at c6
              exact ekm ((nI_eq (by omega) (by omega)).mp c6).symm
            exact Or.inr ⟨c, kk, i - 1, c1, c2, c3, c4, by omega, by rw [hlf1 (i - 1) (by omega), show i - 1 + 1 = i by omega]; exact c6⟩
      have next : zt_sv W H n σ P N d (s' - 1) lf1 o1 v1 oF vF → k3 (nI P, nI d, g5) := fun h2 => hk3 N _ (by omega) ⟨d, s' - 1, lf1, o1, v1, g5, h2, hd, hO5', h45, hYY5, ho5, hk1, hV5, by omega, e56, by rw [e56, e510]; exact hLn, fun i hi => by rw [e510]; exact ef i hi, rfl⟩
      rcases hh with ⟨hc, h2⟩ | ⟨hr1, hdP, r2, o2, v2, Q, hps, hh2⟩
      · by_cases er : r = -1
        · have edP : d = P := hc.resolve_left (fun hx => hx er)
          exact zp_fi er (zp_fi (by rw [edP]) (next h2))
        · exact zp_fin er (next h2)
      · refine zp_fi hr1 (zp_fin (fun hx => hdP ((nI_eq (by omega) (by omega)).mp hx)) ?_)
        have hO5z : zO W H n g5 (zs_s g5 7 0) := (zO.rf hO5.1).num (by omega)
        refine zY_push ok (hYY5.o hO5z) hO5z.1 hm hps ho5 (fun g6 hO6 hY6 ho6 hv6 hb6 => ?_)
        have hO6' := (hO5'.tr hO5z).tr hO6
        have h46 : g6.1 4 = 0 := by
          rw [hY6.1, zs_sn (by omega)]
          exact h45
        have e66 : g6.1 6 = nI (s' - 1) := by
          rw [hY6.2.1, zs_sn (by omega)]
          exact e56
        have e610 : g6.2 10 = f := hY6.2.2.trans e510
        have hYY6 : zt_Y W H n σ g6 := (hYY5.o hO5z).o hO6
        have hk2 := zt_ps_k ok hm hps hk1
        have hV6 : ∀ p, p < W * H → v2 p = g6.2 3 p ∨ ∃ c k i, c < 2 * (W * H) ∧ c % (W * H) = p ∧ k < n ∧ σ.2.2.1 c = nI k ∧ i < s' - 1 ∧ lf1 i = nI k := fun p hpp => by
          rcases hV5 p hpp with hx | hx
          · exact Or.inl (hv6 p hpp (Or.inl hx) (fun c k hc _ hkn e => hk1 c k hc hkn e))
          · exact Or.inr hx
        rcases hh2 with ⟨er2, h2⟩ | ⟨er2, s2, lf2, hap, h2⟩
        · exact zp_fi er2 (hk3 N _ (by omega) ⟨d, s' - 1, lf1, o2, v2, g6, h2, hd, hO6', h46, hYY6, ho6, hk2, hV6, by omega, e66, by rw [e66, e610]; exact hLn, fun i hi => by rw [e610]; exact ef i hi, rfl⟩)
        · refine zp_fin er2 ?_
          obtain ⟨ob, hob, e67, hbits⟩ := hb6 er2 zs_ss
          rw [nI_1]
          refine zd_apx hO6.1 (s := s' - 1) (by omega) e66 (by rw [e66, e610]; exact hLn) hob e67 (fun g7 s7 hO7 h47 hR7 hs7 e76 hL7 hap7 => ?_)
          obtain ⟨u1, u2⟩ := zf_ap_uq (fun j hj => (hbits j hj).symm) (fun i hi => by rw [e610]; exact (ef i hi).symm) hap hap7
          subst u1
          have pre := zf_ap_pre hap
          refine hk3 N _ (by omega) ⟨d + 1, s2, lf2, o2, v2, g7, h2, by omega, hO6'.tr hO7, h47.trans h46, hYY6.o hO7, by rw [hR7 2 (by omega)]; exact ho6, hk2, fun p hpp => ?_, hs7, e76, hL7, fun i hi => (u2 i hi).symm, rfl⟩
          rw [hR7 3 (by omega)]
          rcases hV6 p hpp with hx | ⟨c, kk, i, c1, c2, c3, c4, c5, c6⟩
          · exact Or.inl hx
          · exact Or.inr ⟨c, kk, i, c1, c2, c3, c4, by omega, by rw [pre.2 i c5]; exact c6⟩
    · have hlj' : j < s' - 1 := by omega
      refine zp_ifn (by rw [e46]; exact nI_ge hlj' (by omega)) ?_
      rw [nI_1, nI_clamp (by omega), zs_re, zs_ra, nI_clamp (by omega)]
      refine ⟨vp_in_nI (by omega) (by omega), vp_in_nI (by omega) (by omega), hk4 _ ⟨j + 1, upd f j (f (j + 1)), hlj', fun x hx => ?_, rfl⟩ ?_⟩
      · by_cases ex : x = j
        · rw [ex, pk_us, hf (j + 1) (by omega), if_neg (by omega), if_pos (by omega)]
        · rw [pk_un ex, hf x hx]
          by_cases exj : x < j
          · rw [if_pos exj, if_pos (by omega)]
          · rw [if_neg exj, if_neg (by omega)]
      · show (s' - 1) - (nI (j + 1)).toNatClampNeg < (s' - 1) - (nI j).toNatClampNeg
        rw [nI_clamp (by omega), nI_clamp (by omega)]
        omega
end ZAP
