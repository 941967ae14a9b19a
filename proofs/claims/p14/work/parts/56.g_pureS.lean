/-! the reference's line, and all -/
theorem zb_bit : ∀ (v : Fin 64) (b : Fin 6), (((nI v.val >>> (nI b.val &&& 31)) &&& (1 : Int32)) = 1 ↔ v.val / 2 ^ b.val % 2 = 1) ∧ (v.val / 2 ^ b.val % 2 = 1 → nI v.val &&& (((1 : Int32) <<< (nI b.val &&& 31)) ^^^ (-1 : Int32)) = nI (v.val - 2 ^ b.val)) := by decide +kernel
theorem zb_bit2 : ∀ (v : Fin 64) (b b' : Fin 6), v.val / 2 ^ b.val % 2 = 1 → ((v.val - 2 ^ b.val) / 2 ^ b.val % 2 = 0) ∧ (b ≠ b' → (v.val - 2 ^ b.val) / 2 ^ b'.val % 2 = v.val / 2 ^ b'.val % 2) ∧ v.val - 2 ^ b.val < v.val := by decide +kernel
theorem zb_bit3 : ∀ (n : Fin 7) (v : Fin 64), v.val < 2 ^ n.val → v.val ≠ 0 → ∃ b : Fin 6, b.val < n.val ∧ v.val / 2 ^ b.val % 2 = 1 := by decide +kernel
theorem zb_bit4 : ∀ n : Fin 7, ((1 : Int32) <<< (nI n.val &&& 31)) - 1 = nI (2 ^ n.val - 1) ∧ 2 ^ n.val ≤ 64 := by decide +kernel
section ZS
variable {W H n : Nat} {g g0 : zS}
theorem zd_spread (h : zM W H n g) {k : Nat} (hk : k < n) {post : Int32 → zS → Prop} (hp : ∀ r, post r g) : zw_Mo_spread (nI k) g post := by
  have hd := h.d
  have n0 : ¬ g.1 0 = 0 := by rw [h.w0]; exact nI_ne0 (by omega) (by omega)
  have n1 : ¬ g.1 1 = 0 := by rw [h.w1]; exact nI_ne0 (by omega) (by omega)
  have n2 : ¬ g.1 0 * g.1 1 = 0 := by rw [h.w0, h.w1, nI_mul]; exact nI_ne0 (Nat.mul_pos (by omega) (by omega)) (by omega)
  have ap : ∀ a b (po : Int32 → zS → Prop), (∀ r, po r g) → zw_Mo_apart a b g po := fun a b po hpo => ⟨fun _ => hpo _, fun _ => hpo _⟩
  exact ⟨h.i6 hk, h.i6 hk, n2, n2, ap _ _ _ (fun r1 => ⟨n0, n0, ap _ _ _ (fun r2 => ⟨n0, n1, n0, n1, ap _ _ _ (fun r3 => hp _)⟩)⟩)⟩
/-- the line keeps its nets, all else is as it was -/
theorem zd_standAll (h : zM W H n g) {a : Int32} {post : zS → Prop} (hp : ∀ g', zO W H n g g' → (∀ k, k ≠ 6 → g'.1 k = g.1 k) → (∀ k, k ≠ 10 → g'.2 k = g.2 k) → zb_L n (g'.1 6) (g'.2 10) → post g') : zw_Mo_standAll a g post := by
  have h6 := h.n6
  unfold zw_Mo_standAll
  have e4 := zb_bit4 ⟨n, by omega⟩
  rw [h.w5, e4.1]
  refine zq_Lp_I (I := fun q => ∃ v s g', v < 2 ^ n ∧ s ≤ n ∧ zO W H n g g' ∧ (∀ k, k ≠ 6 → g'.1 k = g.1 k) ∧ (∀ k, k ≠ 10 → g'.2 k = g.2 k) ∧ g'.1 6 = nI s ∧ (∀ i, i < s → ∃ b, b < n ∧ g'.2 10 i = nI b ∧ v / 2 ^ b % 2 = 0) ∧ (∀ i j, i < s → j < s → g'.2 10 i = g'.2 10 j → i = j) ∧ q = (a, nI v, g')) (μ := fun q => q.2.1.toNatClampNeg) ?_ ⟨2 ^ n - 1, 0, _, by have := Nat.two_pow_pos n; omega, Nat.zero_le _, (zO.rf h).num (by omega), fun k hk => zs_sn hk, fun _ _ => rfl, zs_ss, fun i hi => absurd hi (Nat.not_lt_zero _), fun i j hi => absurd hi (Nat.not_lt_zero _), rfl⟩
  rintro k q ⟨v, s, g1, hv, hs, hO, hN, hR, e6, hin, hinj, rfl⟩ hk
  have hv64 : v < 64 := Nat.lt_of_lt_of_le hv e4.2
  by_cases hv0 : v = 0
  · subst hv0
    exact zp_if rfl (hp _ hO hN hR ⟨s, by omega, e6, fun i hi => by obtain ⟨b, hb, e, _⟩ := hin i hi; exact ⟨b, hb, e⟩, hinj⟩)
  refine zp_ifn (nI_ne0 (by omega) (by omega)) ?_
  refine zq_Lp_I (I := fun q => ∃ (best : Int32) (i : Nat), i ≤ n ∧ ((best = -1 ∧ ∀ b, b < i → ¬ v / 2 ^ b % 2 = 1) ∨ ∃ b, b < n ∧ best = nI b ∧ v / 2 ^ b % 2 = 1) ∧ q = (a, nI v, best, nI i, g1)) (μ := fun q => n - q.2.2.2.1.toNatClampNeg) ?_ ⟨-1, 0, Nat.zero_le _, Or.inl ⟨rfl, fun b hb => absurd hb (Nat.not_lt_zero _)⟩, rfl⟩
  rintro k2 q2 ⟨best, i, hi, hbest, rfl⟩ hk2
  by_cases hl : n ≤ i
  · refine zp_if (by rw [hO.1.w5]; exact nI_le hl (by omega)) ?_
    have hb : ∃ b, b < n ∧ best = nI b ∧ v / 2 ^ b % 2 = 1 := by
      rcases hbest with ⟨_, hno⟩ | hb
      · obtain ⟨b, hbn, hb1⟩ := zb_bit3 ⟨n, by omega⟩ ⟨v, hv64⟩ hv hv0
        exact absurd hb1 (hno b.val (Nat.lt_of_lt_of_le hbn hl))
      · exact hb
    obtain ⟨b, hbn, rfl, hb1⟩ := hb
    have b2 := fun b' (hb' : b' < 6) => zb_bit2 ⟨v, hv64⟩ ⟨b, by omega⟩ ⟨b', hb'⟩ hb1
    have hsn : s < n := by
      have := zb_pg n (s + 1) (fun i => if i = s then b else (g1.2 10 i).toNatClampNeg) (fun i hi => by
        show (if i = s then b else (g1.2 10 i).toNatClampNeg) < n
        split
        · exact hbn
        · obtain ⟨o, ho, e, _⟩ := hin i (by omega)
          rw [e, nI_clamp (by omega)]
          exact ho) (fun i j hi hj e => by
        have e' : (if i = s then b else (g1.2 10 i).toNatClampNeg) = (if j = s then b else (g1.2 10 j).toNatClampNeg) := e
        split at e'
        · split at e'
          · omega
          · obtain ⟨o, ho, eo, ho0⟩ := hin j (by omega)
            rw [eo, nI_clamp (by omega)] at e'
            subst e'
            omega
        · obtain ⟨o, ho, eo, ho0⟩ := hin i (by omega)
          split at e'
          · rw [eo, nI_clamp (by omega)] at e'
            subst e'
            omega
          · obtain ⟨o', ho', eo', _⟩ := hin j (by omega)
            rw [eo, eo', nI_clamp (by omega), nI_clamp (by omega)] at e'
            exact hinj i j (by omega) (by omega) (by rw [eo, eo', e']))
      omega
    have er : (zs_s (zs_a g1 10 (g1.1 6) (nI b)) 6 ((zs_a g1 10 (g1.1 6) (nI b)).1 6 + 1)).2 10 = upd (g1.2 10) s (nI b) := by
      show (zs_a g1 10 (g1.1 6) (nI b)).2 10 = _
      rw [zs_a2, if_pos rfl, e6, nI_clamp (by omega)]
    refine ⟨by rw [e6]; exact h.i6 hsn, ?_⟩
    rw [(zb_bit ⟨v, hv64⟩ ⟨b, by omega⟩).2 hb1]
    refine hk _ ⟨v - 2 ^ b, s + 1, _, Nat.lt_of_le_of_lt (Nat.sub_le _ _) hv, hsn, (hO.put (k := 10) (by omega)).num (by omega), fun k hk => by rw [zs_sn hk]; exact hN k hk, fun k hk => by rw [← hR k hk]; exact zs_an hk, ?_, fun j hj => ?_, fun j j' hj hj' e => ?_, rfl⟩ ?_
    · rw [zs_ss]
      show g1.1 6 + 1 = _
      rw [e6, nI_1]
    · rw [er]
      by_cases ej : j = s
      · rw [ej, pk_us]
        exact ⟨b, hbn, rfl, (b2 b (by omega)).1⟩
      · rw [pk_un ej]
        obtain ⟨o, ho, eo, ho0⟩ := hin j (by omega)
        refine ⟨o, ho, eo, ?_⟩
        have hne : b ≠ o := fun e => by subst e; omega
        rw [(b2 o (by omega)).2.1 (fun e => hne (Fin.mk.inj e))]
        exact ho0
    · rw [er] at e
      by_cases ej : j = s
      · subst ej
        by_cases ej' : j' = j
        · exact ej'.symm
        · rw [pk_us, pk_un ej'] at e
          obtain ⟨o, ho, eo, ho0⟩ := hin j' (by omega)
          rw [eo] at e
          have := (nI_eq (by omega) (by omega)).mp e
          subst this
          omega
      · rw [pk_un ej] at e
        by_cases ej' : j' = s
        · subst ej'
          rw [pk_us] at e
          obtain ⟨o, ho, eo, ho0⟩ := hin j (by omega)
          rw [eo] at e
          have := (nI_eq (by omega) (by omega)).mp e
          subst this
          omega
        · rw [pk_un ej'] at e
          exact hinj j j' (by omega) (by omega) e
    · show (nI (v - 2 ^ b)).toNatClampNeg < (nI v).toNatClampNeg
      rw [nI_clamp (Nat.lt_of_le_of_lt (Nat.sub_le _ _) (by omega)), nI_clamp (by omega)]
      exact (b2 b (by omega)).2.2
  · have hl' : i < n := by omega
    have bi := (zb_bit ⟨v, hv64⟩ ⟨i, by omega⟩).1
    have keep : ∀ best', ((best' = -1 ∧ ∀ b, b < i + 1 → ¬ v / 2 ^ b % 2 = 1) ∨ ∃ b, b < n ∧ best' = nI b ∧ v / 2 ^ b % 2 = 1) → zw_Mo_standAll_68 post k k2 a (nI v) best' (nI i) g1 := fun best' hb => hk2 _ ⟨best', i + 1, hl', hb, by rw [nI_1]⟩ (zm_lt hl' (by omega))
    refine zp_ifn (by rw [hO.1.w5]; exact nI_ge hl' (by omega)) ?_
    by_cases eb : v / 2 ^ i % 2 = 1
    · refine zp_fi (bi.mpr eb) ?_
      have nw : zw_Mo_standAll_65 post k k2 a (nI v) (nI i) g1 := keep _ (Or.inr ⟨i, hl', rfl, eb⟩)
      rcases hbest with ⟨rfl, _⟩ | ⟨b, hbn, rfl, hb1⟩
      · exact zp_if rfl nw
      · have old : zw_Mo_standAll_68 post k k2 a (nI v) (nI b) (nI i) g1 := keep _ (Or.inr ⟨b, hbn, rfl, hb1⟩)
        refine zp_ifn (zp_n1 (by omega)) ?_
        by_cases ea : a = 0
        · exact zp_if ea old
        refine zp_ifn ea (zd_spread hO.1 hl' (fun r1 => zd_spread hO.1 hbn (fun r2 => ?_)))
        by_cases er : r2 ≤ r1
        · exact zp_if er old
        · exact zp_ifn er nw
    · refine zp_fin (fun hx => eb (bi.mp hx)) (keep _ ?_)
      rcases hbest with ⟨rfl, hno⟩ | hb
      · refine Or.inl ⟨rfl, fun b hb => ?_⟩
        by_cases e : b = i
        · rw [e]
          exact eb
        · exact hno b (by omega)
      · exact Or.inr hb
theorem zd_stands (h : zM W H n g) {s : Nat} (hs : s ≤ 6) (es : g.1 6 = nI s) {a : Int32} {post : Int32 → zS → Prop} (h1 : (∃ i, i < s ∧ g.2 10 i = a) → post 1 g) (h0 : (∀ i, i < s → ¬ g.2 10 i = a) → post 0 g) : zw_Mo_stands a g post := by
  refine zq_Lp_I (I := fun q => ∃ (b : Int32) (i : Nat), i ≤ s ∧ (b = 0 ∨ b = 1) ∧ (b = 0 → ∀ j, j < i → ¬ g.2 10 j = a) ∧ (b = 1 → ∃ i, i < s ∧ g.2 10 i = a) ∧ q = (a, b, nI i, g)) (μ := fun q => s - q.2.2.1.toNatClampNeg) ?_ ⟨0, 0, Nat.zero_le _, Or.inl rfl, fun _ j hj => absurd hj (Nat.not_lt_zero _), fun e => absurd e (by decide), rfl⟩
  rintro k q ⟨b, i, hi, hb, hb0, hb1, rfl⟩ hk
  by_cases hl : s ≤ i
  · refine zp_if (by rw [es]; exact nI_le hl (by omega)) ?_
    rcases hb with rfl | rfl
    · exact ⟨zp_b0, h0 (fun j hj => hb0 rfl j (by omega))⟩
    · exact ⟨zp_b1, h1 (hb1 rfl)⟩
  have go1 : (∃ i, i < s ∧ g.2 10 i = a) → zw_Mo_stands_26 post k a (nI i) g := fun hx => hk _ ⟨1, i + 1, by omega, Or.inr rfl, fun e => absurd e (by decide), fun _ => hx, by rw [nI_1]⟩ (zm_lt (by omega) (by omega))
  refine zp_ifn (by rw [es]; exact nI_ge (by omega) (by omega)) ?_
  by_cases eb : b = 0
  · refine zp_fi eb ⟨vp_in_nI (by omega) (by omega), ?_⟩
    rw [nI_clamp (by omega)]
    by_cases e : g.2 10 i = a
    · exact zp_fi e (go1 ⟨i, by omega, e⟩)
    · refine zp_fin e (hk _ ⟨0, i + 1, by omega, Or.inl rfl, fun _ j hj => ?_, fun e => absurd e (by decide), by rw [nI_1]⟩ (zm_lt (by omega) (by omega)))
      by_cases ej : j = i
      · rw [ej]
        exact e
      · exact hb0 eb j (by omega)
  · exact zp_fin eb (go1 (hb1 (hb.resolve_left eb)))
theorem zd_again (h : zM W H n g) (hK : zr_K W H n g) {post : Int32 → zS → Prop} (hp : ∀ r g', zO W H n g g' → g'.1 4 = g.1 4 → post r g') : zq_Lp (zw_Mo_all_225 post) ((1 : Int32), g) := by
  classical
  have h6 := h.n6
  refine zq_Lp_I (I := fun q => ∃ (b : Int32) (g1 : zS), zO W H n g g1 ∧ g1.1 4 = g.1 4 ∧ zr_K W H n g1 ∧ q = (b, g1)) (μ := fun q => zb_ct (fun m => if zr_J W H q.2 m then 0 else 1) n + if q.1 = 0 then 0 else 1) ?_ ⟨1, g, zO.rf h, rfl, hK, rfl⟩
  rintro k q ⟨b, g1, hO1, h41, hK1, rfl⟩ hk
  by_cases eb : b = 0
  · exact zp_if eb (zd_countOpen hO1.1 (fun r g2 hO2 h42 => hp _ _ (hO1.tr hO2) (h42.trans h41)))
  refine zp_ifn eb ?_
  refine zq_Lp_I (I := fun q => ∃ (b : Int32) (i : Nat) (g2 : zS), i ≤ n ∧ zO W H n g g2 ∧ g2.1 4 = g.1 4 ∧ zr_K W H n g2 ∧ (∀ m, m < n → zr_J W H g1 m → zr_J W H g2 m) ∧ (¬ b = 0 → ∃ m, m < n ∧ ¬ zr_J W H g1 m ∧ zr_J W H g2 m) ∧ q = (b, nI i, g2)) (μ := fun q => n - q.2.1.toNatClampNeg) ?_ ⟨0, 0, g1, Nat.zero_le _, hO1, h41, hK1, fun _ _ hx => hx, fun e => absurd rfl e, rfl⟩
  rintro k2 q2 ⟨b2, i, g2, hi, hO2, h42, hK2, hJ2, hw2, rfl⟩ hk2
  by_cases hl : n ≤ i
  · refine zp_if (by rw [hO2.1.w5]; exact nI_le hl (by omega)) (hk _ ⟨b2, g2, hO2, h42, hK2, rfl⟩ ?_)
    show zb_ct (fun m => if zr_J W H g2 m then 0 else 1) n + (if b2 = 0 then 0 else 1) < zb_ct (fun m => if zr_J W H g1 m then 0 else 1) n + (if b = 0 then 0 else 1)
    have hmn : ∀ m, m < n → ¬ (if zr_J W H g2 m then (0 : Int32) else 1) = 0 → ¬ (if zr_J W H g1 m then (0 : Int32) else 1) = 0 := fun m hm hx => by
      by_cases hj : zr_J W H g2 m
      · rw [if_pos hj] at hx
        exact absurd rfl hx
      · rw [if_neg (fun hy => hj (hJ2 m hm hy))]
        decide
    rw [if_neg eb]
    by_cases e2 : b2 = 0
    · rw [if_pos e2]
      have := zb_ct_mn (N := n) hmn
      omega
    · rw [if_neg e2]
      obtain ⟨m, hm, j1, j2⟩ := hw2 e2
      have := zb_ct_ms (N := n) hmn ⟨m, hm, by rw [if_pos j2], by rw [if_neg j1]; decide⟩
      omega
  have hl' : i < n := by omega
  refine zp_ifn (by rw [hO2.1.w5]; exact nI_ge hl' (by omega)) (zd_joined hO2.1 hl' (fun r g3 hO3 hf hr hiff => ?_))
  obtain ⟨f, rfl⟩ := hf
  have hO3' := hO2.tr hO3
  have hK3 : zr_K W H n (zs_r g2 5 f) := hK2.of (zs_rn (by omega)) (zs_rn (by omega))
  have j23 : ∀ m, zr_J W H g2 m → zr_J W H (zs_r g2 5 f) m := fun m hj => hj.of (zs_rn (by omega)) (zs_rn (by omega)) (zs_rn (by omega)) (zs_rn (by omega))
  have go : ∀ b3 g4, zO W H n g g4 → g4.1 4 = g.1 4 → zr_K W H n g4 → (∀ m, m < n → zr_J W H g1 m → zr_J W H g4 m) → (¬ b3 = 0 → ∃ m, m < n ∧ ¬ zr_J W H g1 m ∧ zr_J W H g4 m) → zw_Mo_all_268 post k k2 b3 (nI i) g4 := fun b3 g4 hO4 h44 hK4 hJ4 hw4 => hk2 _ ⟨b3, i + 1, g4, hl', hO4, h44, hK4, hJ4, hw4, by rw [nI_1]⟩ (zm_lt hl' (by omega))
  by_cases er : r = 0
  · have nJ : ¬ zr_J W H g2 i := fun hj => by
      obtain ⟨c, d, hc, hd, e8, e9, p1, p2⟩ := hO2.1.ends hl'
      refine hiff.mpr ⟨?_, ?_, hj⟩ er
      · rw [e8, h.ci hc]
        exact hK2 c i hc hl' p1
      · rw [e9, h.ci hd]
        exact hK2 d i hd hl' p2
    have nJ1 : ¬ zr_J W H g1 i := fun hj => nJ (hJ2 i hl' hj)
    refine zp_fi er (zd_find hO3.1 hl' (fun r4 g4 hO4 hY4 hA4 => ?_))
    have a4 := hA4 hK3
    have h44 : g4.1 4 = g.1 4 := hY4.1.trans h42
    have hJ4 : ∀ m, m < n → zr_J W H g1 m → zr_J W H g4 m := fun m hm hj => (a4.2 rfl).1 m hm (fun e => nJ1 (e ▸ hj)) (j23 m (hJ2 m hm hj))
    by_cases er4 : r4 = -1
    · refine zp_if er4 (go _ _ (hO3'.tr hO4) h44 a4.1 hJ4 (fun e2 => ?_))
      obtain ⟨m, hm, j1, j2⟩ := hw2 e2
      exact ⟨m, hm, j1, (a4.2 rfl).1 m hm (fun e => nJ (e ▸ j2)) (j23 m j2)⟩
    · exact zp_ifn er4 (go _ _ (hO3'.tr hO4) h44 a4.1 hJ4 (fun _ => ⟨i, hl', nJ1, (a4.2 rfl).2 er4⟩))
  · exact zp_fin er (go _ _ hO3' h42 hK3 (fun m hm hj => j23 m (hJ2 m hm hj)) (fun e2 => by
      obtain ⟨m, hm, j1, j2⟩ := hw2 e2
      exact ⟨m, hm, j1, j23 m j2⟩))
theorem zd_all (h : zM W H n g) {a b : Int32} {post : Int32 → zS → Prop} (hp : ∀ r g', zO W H n g g' → g'.1 4 = (if b < 0 ∨ ¬ b ≤ 20 then 1 else 0) → post r g') : zw_Mo_all a b g post := by
  have h6 := h.n6
  have hC := h.C
  have bad : (b < 0 ∨ ¬ b ≤ 20) → zw_Mo_all_11 post a b g := fun hx => zp_ifn (by rw [zs_ss]; decide) (hp _ _ ((zO.rf h).num (by omega)) (by rw [zs_ss, if_pos hx]))
  by_cases c1 : b < 0
  · exact zp_if c1 (bad (Or.inl c1))
  by_cases c2 : b ≤ 20
  · refine zp_ifn c1 (zp_if c2 (zp_if (by rw [zs_ss]; decide) ?_))
    obtain ⟨P, hP, rfl⟩ := nI_of2 (M := 20) (n := 20) rfl c1 c2
    rw [if_neg (fun hx => hx.elim c1 (fun hy => hy c2))] at hp
    have hO0 : zO W H n g (zs_s g 4 0) := (zO.rf h).num (by omega)
    -- every net is cleared: then every pin is its net's
    refine zq_Lp_I (I := fun q => ∃ i g1, i ≤ n ∧ zO W H n g g1 ∧ g1.1 4 = 0 ∧ (∀ c k, c < 2 * (W * H) → k < i → g1.2 1 c = nI k → g1.2 2 c = nI k) ∧ q = (a, nI P, nI i, g1)) (μ := fun q => n - q.2.2.1.toNatClampNeg) ?_ ⟨0, _, Nat.zero_le _, hO0, zs_ss, fun c k _ hk => absurd hk (Nat.not_lt_zero _), rfl⟩
    rintro k0 q0 ⟨i0, g1, hi0, hO1, h41, hK1, rfl⟩ hk0
    by_cases hl0 : n ≤ i0
    · have ei : i0 = n := by omega
      subst ei
      refine zp_if (by rw [hO1.1.w5]; exact nI_le hl0 (by omega)) (zd_standAll hO1.1 (fun g2 hO2 hN2 hR2 hL2 => ?_))
      have hK2 : zr_K W H i0 g2 := zr_K.of (g := g1) hK1 (hR2 1 (by omega)) (hR2 2 (by omega))
      refine zq_Lp_I (I := fun q => ∃ d g3, d ≤ P ∧ zO W H i0 g g3 ∧ g3.1 4 = 0 ∧ zr_K W H i0 g3 ∧ zb_L i0 (g3.1 6) (g3.2 10) ∧ q = (nI P, nI d, g3)) (μ := fun q => (P - q.2.1.toNatClampNeg) * 7 + (q.2.2.1 6).toNatClampNeg) ?_ ⟨0, g2, Nat.zero_le _, hO1.tr hO2, by rw [hN2 4 (by omega)]; exact h41, hK2, hL2, rfl⟩
      rintro k3 q3 ⟨d, g3, hd, hO3, h43, hK3, hL3, rfl⟩ hk3
      obtain ⟨s, hs6, es, hin, hinj⟩ := hL3
      have mu3 : ((P - (nI P, nI d, g3).2.1.toNatClampNeg) * 7 + ((nI P, nI d, g3).2.2.1 6).toNatClampNeg) = (P - d) * 7 + s := by
        show (P - (nI d).toNatClampNeg) * 7 + (g3.1 6).toNatClampNeg = _
        rw [es, nI_clamp (by omega), nI_clamp (by omega)]
      rw [mu3] at hk3
      by_cases hs0 : s = 0
      · subst hs0
        exact zp_if (by rw [es]; decide) (zd_again hO3.1 hK3 (fun r g4 hO4 h44 => hp _ _ (hO3.tr hO4) (h44.trans h43)))
      obtain ⟨m, hm, em⟩ := hin 0 (by omega)
      have em' : g3.2 10 (0 : Int32).toNatClampNeg = nI m := em
      have e61 : g3.1 6 - 1 = nI (s - 1) := by rw [es]; exact nI_sub (b := 1) (by omega)
      refine zp_ifn (by rw [es]; exact nI_nle (by omega) (by omega)) ⟨vp_in_nI (n := 0) (by omega) (by omega), ?_⟩
      rw [em', e61]
      -- the line moves up
      refine zq_Lp_I (I := fun q => ∃ j f, j ≤ s - 1 ∧ (∀ x, x < 6 → f x = if x < j then g3.2 10 (x + 1) else g3.2 10 x) ∧ q = (nI P, nI d, nI m, nI j, zs_r (zs_s g3 6 (nI (s - 1))) 10 f)) (μ := fun q => (s - 1) - q.2.2.2.1.toNatClampNeg) ?_ ⟨0, g3.2 10, Nat.zero_le _, fun x _ => by rw [if_neg (Nat.not_lt_zero _)], by rw [show zs_r (zs_s g3 6 (nI (s - 1))) 10 (g3.2 10) = zs_s g3 6 (nI (s - 1)) from (zs_rs (zs_s g3 6 (nI (s - 1))) 10).symm]; rfl⟩
      rintro k4 q4 ⟨j, f, hj, hf, rfl⟩ hk4
      have hO4 : zO W H i0 g (zs_r (zs_s g3 6 (nI (s - 1))) 10 f) := (hO3.num (by omega)).r (by omega)
      have e46 : (zs_r (zs_s g3 6 (nI (s - 1))) 10 f).1 6 = nI (s - 1) := (zs_ss : (zs_s g3 6 (nI (s - 1))).1 6 = nI (s - 1))
      have hK4 : zr_K W H i0 (zs_r (zs_s g3 6 (nI (s - 1))) 10 f) := zr_K.of (g := g3) hK3 (by rw [zs_rn (by omega)]; rfl) (by rw [zs_rn (by omega)]; rfl)
      have h44 : (zs_r (zs_s g3 6 (nI (s - 1))) 10 f).1 4 = 0 := by
        show (zs_s g3 6 (nI (s - 1))).1 4 = 0
        rw [zs_sn (by omega)]
        exact h43
      by_cases hlj : s - 1 ≤ j
      · have hLn : zb_L i0 (nI (s - 1)) f := by
          have ef : ∀ x, x < s - 1 → f x = g3.2 10 (x + 1) := fun x hx => by rw [hf x (by omega), if_pos (by omega)]
          refine ⟨s - 1, by omega, rfl, fun x hx => by rw [ef x hx]; exact hin (x + 1) (by omega), fun x y hx hy e => ?_⟩
          rw [ef x hx, ef y hy] at e
          have := hinj (x + 1) (y + 1) (by omega) (by omega) e
          omega
        -- one net less in the line
        have less : ∀ g5, zO W H i0 g g5 → g5.1 4 = 0 → zr_K W H i0 g5 → g5.1 6 = nI (s - 1) → g5.2 10 = f → k3 (nI P, nI d, g5) := fun g5 hO5 h45 hK5 e56 e510 => by
          refine hk3 _ ⟨d, g5, hd, hO5, h45, hK5, by rw [e56, e510]; exact hLn, rfl⟩ ?_
          show (P - (nI d).toNatClampNeg) * 7 + (g5.1 6).toNatClampNeg < _
          rw [e56, nI_clamp (by omega), nI_clamp (by omega)]
          omega
        refine zp_if (by rw [e46]; exact nI_le hlj (by omega)) (zd_find hO4.1 hm (fun r5 g5 hO5 hY5 hA5 => ?_))
        have hO5' := hO4.tr hO5
        have h45 : g5.1 4 = 0 := hY5.1.trans h44
        have hK5 := (hA5 hK4).1
        have e56 : g5.1 6 = nI (s - 1) := hY5.2.1.trans e46
        have e510 : g5.2 10 = f := by rw [hY5.2.2, zs_re]
        by_cases er5 : r5 = -1
        · refine zp_fi er5 ?_
          by_cases edp : d = P
          · exact zp_fi (by rw [edp]) (less g5 hO5' h45 hK5 e56 e510)
          refine zp_fin (fun hx => edp ((nI_eq (by omega) (by omega)).mp hx)) (zd_find (hO5'.num (k := 7) (v := 0) (by omega)).1 hm (fun r6 g6 hO6 hY6 hA6 => ?_))
          have hO6' := (hO5'.num (k := 7) (v := 0) (by omega)).tr hO6
          have h46 : g6.1 4 = 0 := by
            rw [hY6.1, zs_sn (by omega)]
            exact h45
          have hK6 : zr_K W H i0 g6 := (hA6 (zr_K.of (g := g5) hK5 rfl rfl)).1
          have e66 : g6.1 6 = nI (s - 1) := by
            rw [hY6.2.1, zs_sn (by omega)]
            exact e56
          have e610 : g6.2 10 = f := hY6.2.2.trans e510
          by_cases er6 : r6 = -1
          · exact zp_fi er6 (less g6 hO6' h46 hK6 e66 e610)
          refine zp_fin er6 ?_
          rw [nI_1]
          -- those pushed out join the line
          refine zq_Lp_I (I := fun q => ∃ i g7, i ≤ i0 ∧ zO W H i0 g g7 ∧ g7.1 4 = 0 ∧ zr_K W H i0 g7 ∧ zb_L i0 (g7.1 6) (g7.2 10) ∧ q = (nI P, nI (d + 1), nI i, g7)) (μ := fun q => i0 - q.2.2.1.toNatClampNeg) ?_ ⟨0, g6, Nat.zero_le _, hO6', h46, hK6, by rw [e66, e610]; exact hLn, rfl⟩
          rintro k7 q7 ⟨i, g7, hi, hO7, h47, hK7, hL7, rfl⟩ hk7
          by_cases hl7 : i0 ≤ i
          · refine zp_if (by rw [hO7.1.w5]; exact nI_le hl7 (by omega)) (hk3 _ ⟨d + 1, g7, by omega, hO7, h47, hK7, hL7, rfl⟩ ?_)
            obtain ⟨s7, hs7, es7, _, _⟩ := hL7
            show (P - (nI (d + 1)).toNatClampNeg) * 7 + (g7.1 6).toNatClampNeg < _
            rw [es7, nI_clamp (by omega), nI_clamp (by omega)]
            omega
          have hl7' : i < i0 := by omega
          have go : ∀ g8, zO W H i0 g g8 → g8.1 4 = 0 → zr_K W H i0 g8 → zb_L i0 (g8.1 6) (g8.2 10) → zw_Mo_all_213 post k3 k7 (nI P) (nI (d + 1)) (nI i) g8 := fun g8 hO8 h48 hK8 hL8 => hk7 _ ⟨i + 1, g8, hl7', hO8, h48, hK8, hL8, by rw [nI_1]⟩ (zm_lt hl7' (by omega))
          refine zp_ifn (by rw [hO7.1.w5]; exact nI_ge hl7' (by omega)) ?_
          by_cases eb : (g7.1 7 >>> (nI i &&& 31)) &&& (1 : Int32) = 0
          · exact zp_if eb (go g7 hO7 h47 hK7 hL7)
          obtain ⟨s7, hs7, es7, hin7, hinj7⟩ := id hL7
          refine zp_ifn eb (zd_stands hO7.1 hs7 es7 (fun _ => zp_ifn (by decide) (go g7 hO7 h47 hK7 hL7)) (fun hne => zp_if rfl ?_))
          have hlt : s7 < i0 := by
            have := zb_pg i0 (s7 + 1) (fun x => if x = s7 then i else (g7.2 10 x).toNatClampNeg) (fun x hx => by
              show (if x = s7 then i else (g7.2 10 x).toNatClampNeg) < i0
              split
              · exact hl7'
              · obtain ⟨o, ho, e⟩ := hin7 x (by omega)
                rw [e, nI_clamp (by omega)]
                exact ho) (fun x y hx hy e => by
              have e' : (if x = s7 then i else (g7.2 10 x).toNatClampNeg) = (if y = s7 then i else (g7.2 10 y).toNatClampNeg) := e
              split at e'
              · split at e'
                · omega
                · obtain ⟨o, ho, eo⟩ := hin7 y (by omega)
                  rw [eo, nI_clamp (by omega)] at e'
                  exact absurd (by rw [eo, e']) (hne y (by omega))
              · obtain ⟨o, ho, eo⟩ := hin7 x (by omega)
                split at e'
                · rw [eo, nI_clamp (by omega)] at e'
                  exact absurd (by rw [eo, e']) (hne x (by omega))
                · obtain ⟨o', ho', eo'⟩ := hin7 y (by omega)
                  rw [eo, eo', nI_clamp (by omega), nI_clamp (by omega)] at e'
                  exact hinj7 x y (by omega) (by omega) (by rw [eo, eo', e']))
            omega
          have er : (zs_s (zs_a g7 10 (g7.1 6) (nI i)) 6 ((zs_a g7 10 (g7.1 6) (nI i)).1 6 + 1)).2 10 = upd (g7.2 10) s7 (nI i) := by
            show (zs_a g7 10 (g7.1 6) (nI i)).2 10 = _
            rw [zs_a2, if_pos rfl, es7, nI_clamp (by omega)]
          refine ⟨by rw [es7]; exact h.i6 hlt, go _ ((hO7.put (k := 10) (by omega)).num (by omega)) ?_ (zr_K.of (g := g7) hK7 ?_ ?_) ⟨s7 + 1, by omega, ?_, fun x hx => ?_, fun x y hx hy e => ?_⟩⟩
          · rw [zs_sn (by omega)]
            exact h47
          · exact (zs_an (by omega) : (zs_a g7 10 (g7.1 6) (nI i)).2 1 = g7.2 1)
          · exact (zs_an (by omega) : (zs_a g7 10 (g7.1 6) (nI i)).2 2 = g7.2 2)
          · rw [zs_ss]
            show g7.1 6 + 1 = _
            rw [es7, nI_1]
          · rw [er]
            by_cases ex : x = s7
            · rw [ex, pk_us]
              exact ⟨i, hl7', rfl⟩
            · rw [pk_un ex]
              exact hin7 x (by omega)
          · rw [er] at e
            by_cases ex : x = s7
            · subst ex
              by_cases ey : y = x
              · exact ey.symm
              · rw [pk_us, pk_un ey] at e
                exact absurd e.symm (hne y (by omega))
            · rw [pk_un ex] at e
              by_cases ey : y = s7
              · subst ey
                rw [pk_us] at e
                exact absurd e (hne x (by omega))
              · rw [pk_un ey] at e
                exact hinj7 x y (by omega) (by omega) e
        · exact zp_fin er5 (less g5 hO5' h45 hK5 e56 e510)
      · have hlj' : j < s - 1 := by omega
        refine zp_ifn (by rw [e46]; exact nI_ge hlj' (by omega)) ?_
        rw [nI_1, nI_clamp (by omega), zs_re, zs_ra, nI_clamp (by omega)]
        refine ⟨vp_in_nI (by omega) (by omega), vp_in_nI (by omega) (by omega), hk4 _ ⟨j + 1, upd f j (f (j + 1)), hlj', fun x hx => ?_, rfl⟩ ?_⟩
        · by_cases ex : x = j
          · rw [ex, pk_us, hf (j + 1) (by omega), if_neg (by omega), if_pos (by omega)]
          · rw [pk_un ex, hf x hx]
            by_cases exj : x < j
            · rw [if_pos exj, if_pos (by omega)]
            · rw [if_neg exj, if_neg (by omega)]
        · show (s - 1) - (nI (j + 1)).toNatClampNeg < (s - 1) - (nI j).toNatClampNeg
          rw [nI_clamp (by omega), nI_clamp (by omega)]
          omega
    · have hl0' : i0 < n := by omega
      refine zp_ifn (by rw [hO1.1.w5]; exact nI_ge hl0' (by omega)) (zd_clear hO1.1 hl0' (fun g2 hO2 hCl => hk0 _ ⟨i0 + 1, g2, hl0', hO1.tr hO2, by rw [hCl.1]; exact h41, fun c k hc hk e => ?_, by rw [nI_1]⟩ (zm_lt hl0' (by omega))))
      obtain ⟨c1', c2', hc1, hc2, e8, e9, p1, p2⟩ := hO1.1.ends hl0'
      rw [hCl.2.1 1 (by omega) (by omega)] at e
      rw [hCl.2.2.1 c hc, e8, e9]
      by_cases h1 : nI c = nI c1' ∨ nI c = nI c2'
      · rw [if_pos h1]
        rcases h1 with h1 | h1
        · rw [(nI_eq (by omega) (by omega)).mp h1, p1] at e
          exact e
        · rw [(nI_eq (by omega) (by omega)).mp h1, p2] at e
          exact e
      · rw [if_neg h1]
        have hki : k ≠ i0 := fun ek => by
          subst ek
          rcases hO1.1.conv hc hl0' e with hx | hx
          · rw [e8] at hx
            exact h1 (Or.inl hx.symm)
          · rw [e9] at hx
            exact h1 (Or.inr hx.symm)
        have e2 := hK1 c k hc (by omega) e
        rw [if_neg (fun hx => hki ((nI_eq (by omega) (by omega)).mp (e2.symm.trans hx)))]
        exact e2
  · exact zp_ifn c1 (zp_ifn c2 (bad (Or.inr c2)))
end ZS
