/-! the reference's all goes the system's road -/
def zt_Y (W H n : Nat) (σ : zSt) (g : zS) : Prop := g.1 3 = σ.1 ∧ g.1 2 = nI σ.2.2.2.2.2 ∧ (∀ i, i < 2 * (W * H) → σ.2.1 i = g.2 0 i) ∧ (∀ i, i < 2 * (W * H) → σ.2.2.1 i = g.2 1 i) ∧ (∀ k, k < n → g.2 8 k = σ.2.2.2.1 k ∧ g.2 9 k = σ.2.2.2.2.1 k) ∧ zf_sep W H n (g.1 3) (g.2 1)
section ZAO
variable {W H n : Nat} {g g0 : zS} {σ : zSt}
theorem zt_Y.o {g' : zS} (h : zt_Y W H n σ g) (hO : zO W H n g g') : zt_Y W H n σ g' := by
  have n3 := hO.2.1 3 (by omega)
  have r1 := hO.2.2 1 (by omega)
  refine ⟨n3.trans h.1, (hO.2.1 2 (by omega)).trans h.2.1, ?_, ?_, ?_, ?_⟩
  · rw [hO.2.2 0 (by omega)]
    exact h.2.2.1
  · rw [r1]
    exact h.2.2.2.1
  · rw [hO.2.2 8 (by omega), hO.2.2 9 (by omega)]
    exact h.2.2.2.2.1
  · rw [n3, r1]
    exact h.2.2.2.2.2
theorem zY_route (ok : zt_ok W H n σ) (hY : zt_Y W H n σ g) (h : zM W H n g) {m : Nat} (hm : m < n) {o v o1 v1 : Nat → Int32} {r : Int32} (hrt : zt_rt W H σ m o v r o1 v1) (ho : ∀ i, i < 2 * (W * H) → o i = g.2 2 i) {post : Int32 → zS → Prop} (hp : ∀ g', zO W H n g g' → zr_Y g g' → (∀ i, i < 2 * (W * H) → o1 i = g'.2 2 i) → (∀ p, p < W * H → (v p = g.2 3 p ∨ ∃ c, c < 2 * (W * H) ∧ c % (W * H) = p ∧ o c = nI m) → v1 p = g'.2 3 p) → post r g') : zw_Mo_find (nI m) 0 g post := by
  obtain ⟨s, e, hs, he, es, ee, ps, pe, cs, ce⟩ := ok.en hm
  obtain ⟨y1, y2, y3, y4, y5, y6⟩ := id hY
  unfold zt_rt at hrt
  rw [cs, ce] at hrt
  refine zd_find0x h ok.2.2.1 hm hs he (by rw [(y5 m hm).1]; exact es) (by rw [(y5 m hm).2]; exact ee) y2 (fun r' g' hO hYY hr' => ?_)
  obtain ⟨u1, u2, u3⟩ := zf_route_uq y1 y3 y4 ok.2.2.1.1 hs he h.C ho hrt hr'
  subst u1
  exact hp g' hO hYY u2 u3
theorem zY_push (ok : zt_ok W H n σ) (hY : zt_Y W H n σ g) (h : zM W H n g) {m : Nat} (hm : m < n) {o v o1 v1 : Nat → Int32} {r : Int32} {Q : Nat → Prop} (hps : zt_ps W H n σ m o v r o1 v1 Q) (ho : ∀ i, i < 2 * (W * H) → o i = g.2 2 i) {post : Int32 → zS → Prop} (hp : ∀ g', zO W H n g g' → zr_Y g g' → (∀ i, i < 2 * (W * H) → o1 i = g'.2 2 i) → (∀ p, p < W * H → (v p = g.2 3 p ∨ ∃ c, c < 2 * (W * H) ∧ c % (W * H) = p ∧ o c = nI m) → (∀ c k, c < 2 * (W * H) → c % (W * H) = p → k < n → σ.2.2.1 c = nI k → o c = nI k) → v1 p = g'.2 3 p) → (¬ r = -1 → g.1 7 = 0 → ∃ ob, ob < 64 ∧ g'.1 7 = nI ob ∧ ∀ k, k < n → (ob / 2 ^ k % 2 = 1 ↔ Q k)) → post r g') : zw_Mo_find (nI m) 1 g post := by
  obtain ⟨s, e, hs, he, es, ee, ps, pe, cs, ce⟩ := ok.en hm
  obtain ⟨y1, y2, y3, y4, y5, y6⟩ := id hY
  unfold zt_ps at hps
  rw [cs, ce] at hps
  refine zd_find1x h ok.2.2.1 hm hs he (by rw [(y5 m hm).1]; exact es) (by rw [(y5 m hm).2]; exact ee) y2 y6 (fun r' g' hO hYY ⟨P', hr', hbits⟩ => ?_)
  obtain ⟨u1, u2, u3, u4⟩ := zf_push_uq y1 y3 y4 ok.2.1 hm ⟨ps, pe⟩ ok.2.2.1.1 hs he h.C ho hps hr'
  subst u1
  refine hp g' hO hYY u2 u4 (fun hr e7 => ?_)
  obtain ⟨ob, k1, k2, k3⟩ := hbits hr 0 (by omega) e7
  refine ⟨ob, k1, k2, fun k hk => ?_⟩
  rw [k3 k hk, u3 hr k hk]
  constructor
  · rintro (hx | hx)
    · rw [Nat.zero_div] at hx
      omega
    · exact hx
  · exact Or.inr
/-- the reference's nets stand in the same order -/
theorem zd_standx (ok : zt_ok W H n σ) (hY : zt_Y W H n σ g) (h : zM W H n g) {a : Int32} {post : zS → Prop} (hp : ∀ g', zO W H n g g' → (∀ k, k ≠ 6 → g'.1 k = g.1 k) → (∀ k, k ≠ 10 → g'.2 k = g.2 k) → g'.1 6 = nI n → zf_od (zt_so W H σ a) n (g'.2 10) → post g') : zw_Mo_standAll a g post := by
  have h6 := h.n6
  have hd := h.d
  -- a span's word
  have spw : ∀ m g2 (po : Int32 → zS → Prop), m < n → zO W H n g g2 → po (nI (zt_sp W H σ.2.2.2.1 σ.2.2.2.2.1 m)) g2 → zw_Mo_spread (nI m) g2 po := fun m g2 po hm hO hpo => by
    obtain ⟨s, e, hs, he, es, ee, ps, pe, cs, ce⟩ := ok.en hm
    have y5 := (hY.o hO).2.2.2.2.1
    unfold zt_sp at hpo
    rw [cs, ce] at hpo
    exact zd_spreadx hO.1 hm hs he (by rw [(y5 m hm).1]; exact es) (by rw [(y5 m hm).2]; exact ee) hpo
  have sp100 : ∀ m, m < n → zt_sp W H σ.2.2.2.1 σ.2.2.2.2.1 m < 100 := fun m hm => by
    obtain ⟨s, e, hs, he, es, ee, ps, pe, cs, ce⟩ := ok.en hm
    unfold zt_sp
    rw [cs, ce]
    exact zb_sp_le hd hs he
  have so0 : a = 0 → zt_so W H σ a = fun _ => 0 := fun e => by unfold zt_so; rw [if_pos e]
  have so1 : ¬ a = 0 → zt_so W H σ a = zt_sp W H σ.2.2.2.1 σ.2.2.2.2.1 := fun e => by unfold zt_so; rw [if_neg e]
  generalize zt_so W H σ a = so at hp so0 so1
  unfold zw_Mo_standAll
  have e4 := zb_bit4 ⟨n, by omega⟩
  rw [h.w5, e4.1]
  refine zq_Lp_I (I := fun q => ∃ v s g', v < 2 ^ n ∧ s ≤ n ∧ zO W H n g g' ∧ (∀ k, k ≠ 6 → g'.1 k = g.1 k) ∧ (∀ k, k ≠ 10 → g'.2 k = g.2 k) ∧ g'.1 6 = nI s ∧ (∀ i, i < s → ∃ b, b < n ∧ g'.2 10 i = nI b ∧ v / 2 ^ b % 2 = 0) ∧ (∀ i j x y, i < j → j < s → x < n → y < n → g'.2 10 i = nI x → g'.2 10 j = nI y → zf_lt so x y) ∧ (∀ i x y, i < s → x < n → y < n → g'.2 10 i = nI x → v / 2 ^ y % 2 = 1 → zf_lt so x y) ∧ (∀ b, b < n → ¬ v / 2 ^ b % 2 = 1 → ∃ i, i < s ∧ g'.2 10 i = nI b) ∧ q = (a, nI v, g')) (μ := fun q => q.2.1.toNatClampNeg) ?_ ⟨2 ^ n - 1, 0, zs_s g 6 0, by have := Nat.two_pow_pos n; omega, Nat.zero_le _, (zO.rf h).num (by omega), fun k hk => zs_sn hk, fun _ _ => rfl, zs_ss, fun i hi => absurd hi (Nat.not_lt_zero _), fun i j x y _ hj => absurd hj (Nat.not_lt_zero _), fun i x y hi => absurd hi (Nat.not_lt_zero _), fun b hb hx => ?_, rfl⟩
  · rintro k q ⟨v, s, g1, hv, hs, hO, hN, hR, e6, hin, hord, hbef, hall, rfl⟩ hk
    have hv64 : v < 64 := Nat.lt_of_lt_of_le hv e4.2
    have inj : ∀ i j, i < s → j < s → g1.2 10 i = g1.2 10 j → i = j := fun i j hi hj e => by
      obtain ⟨x, hx, ex, _⟩ := hin i hi
      obtain ⟨y, hy, ey, _⟩ := hin j hj
      have exy : x = y := (nI_eq (by omega) (by omega)).mp (by rw [← ex, ← ey, e])
      rcases Nat.lt_trichotomy i j with hlt | hlt | hlt
      · have := hord i j x y hlt hj hx hy ex ey
        unfold zf_lt at this
        rw [exy] at this
        omega
      · exact hlt
      · have := hord j i y x hlt hi hy hx ey ex
        unfold zf_lt at this
        rw [exy] at this
        omega
    by_cases hv0 : v = 0
    · subst hv0
      refine zp_if rfl ?_
      -- all stand
      have hsn : s = n := by
        rcases Nat.lt_or_ge s n with hlt | hge
        · exfalso
          have hz : ∀ b, b < n → ∃ i, i < s ∧ g1.2 10 i = nI b := fun b hb => hall b hb (by rw [Nat.zero_div]; omega)
          have : n ≤ s := by
            have hch : ∃ f : Nat → Nat, ∀ b, b < n → f b < s ∧ g1.2 10 (f b) = nI b := ⟨fun b => if hb : b < n then Classical.choose (hz b hb) else 0, fun b hb => by
              show (if hb : b < n then Classical.choose (hz b hb) else 0) < s ∧ g1.2 10 (if hb : b < n then Classical.choose (hz b hb) else 0) = nI b
              rw [dif_pos hb]
              exact Classical.choose_spec (hz b hb)⟩
            obtain ⟨f, hf⟩ := hch
            refine zb_pg s n f (fun b hb => (hf b hb).1) (fun b b' hb hb' e => ?_)
            have e1 := (hf b hb).2
            have e2 := (hf b' hb').2
            rw [e, e2] at e1
            exact ((nI_eq (by omega) (by omega)).mp e1).symm
          omega
        · omega
      subst hsn
      exact hp g1 hO hN hR e6 ⟨fun i hi => by obtain ⟨b, hb, e, _⟩ := hin i hi; exact ⟨b, hb, e⟩, fun i j x y hij hj hx hy ei ej => hord i j x y hij hj hx hy ei ej⟩
    refine zp_ifn (nI_ne0 (by omega) (by omega)) ?_
    refine zq_Lp_I (I := fun q => ∃ (best : Int32) (i : Nat), i ≤ n ∧ ((best = -1 ∧ ∀ b, b < i → ¬ v / 2 ^ b % 2 = 1) ∨ ∃ b, b < i ∧ best = nI b ∧ v / 2 ^ b % 2 = 1 ∧ ∀ b', b' < i → v / 2 ^ b' % 2 = 1 → b' = b ∨ zf_lt so b b') ∧ q = (a, nI v, best, nI i, g1)) (μ := fun q => n - q.2.2.2.1.toNatClampNeg) ?_ ⟨-1, 0, Nat.zero_le _, Or.inl ⟨rfl, fun b hb => absurd hb (Nat.not_lt_zero _)⟩, rfl⟩
    rintro k2 q2 ⟨best, i, hi, hbest, rfl⟩ hk2
    by_cases hl : n ≤ i
    · refine zp_if (by rw [hO.1.w5]; exact nI_le hl (by omega)) ?_
      have hb : ∃ b, b < i ∧ best = nI b ∧ v / 2 ^ b % 2 = 1 ∧ ∀ b', b' < i → v / 2 ^ b' % 2 = 1 → b' = b ∨ zf_lt so b b' := by
        rcases hbest with ⟨_, hno⟩ | hb
        · obtain ⟨b, hbn, hb1⟩ := zb_bit3 ⟨n, by omega⟩ ⟨v, hv64⟩ hv hv0
          exact absurd hb1 (hno b.val (Nat.lt_of_lt_of_le hbn hl))
        · exact hb
      obtain ⟨b, hbi', rfl, hb1, hmin⟩ := hb
      have hbn : b < n := by omega
      have b2 := fun b' (hb' : b' < 6) => zb_bit2 ⟨v, hv64⟩ ⟨b, by omega⟩ ⟨b', hb'⟩ hb1
      have bne : ∀ j, j < s → ¬ g1.2 10 j = nI b := fun j hj ej => by
        obtain ⟨o, ho, eo, ho0⟩ := hin j hj
        have : o = b := (nI_eq (by omega) (by omega)).mp (eo.symm.trans ej)
        subst this
        omega
      have hsn : s < n := by
        have := zb_pg n (s + 1) (fun i => if i = s then b else (g1.2 10 i).toNatClampNeg) (fun i hi => by
          show (if i = s then b else (g1.2 10 i).toNatClampNeg) < n
          split
          · exact hbn
          · obtain ⟨o, ho, e, _⟩ := hin i (by omega)
            rw [e, nI_clamp (by omega)]
            exact ho) (fun i j hi hj e => by
          have e' : (if i = s then b else (g1.2 10 i).toNatClampNeg) = (if j = s then b else (g1.2 10 j).toNatClampNeg) := e
          split at e'
          · split at e'
            · omega
            · obtain ⟨o, ho, eo, ho0⟩ := hin j (by omega)
              rw [eo, nI_clamp (by omega)] at e'
              subst e'
              omega
          · obtain ⟨o, ho, eo, ho0⟩ := hin i (by omega)
            split at e'
            · rw [eo, nI_clamp (by omega)] at e'
              subst e'
              omega
            · obtain ⟨o', ho', eo', _⟩ := hin j (by omega)
              rw [eo, eo', nI_clamp (by omega), nI_clamp (by omega)] at e'
              exact inj i j (by omega) (by omega) (by rw [eo, eo', e']))
        omega
      have er : (zs_s (zs_a g1 10 (g1.1 6) (nI b)) 6 ((zs_a g1 10 (g1.1 6) (nI b)).1 6 + 1)).2 10 = upd (g1.2 10) s (nI b) := by
        show (zs_a g1 10 (g1.1 6) (nI b)).2 10 = _
        rw [zs_a2, if_pos rfl, e6, nI_clamp (by omega)]
      -- bits of what is left
      have bl : ∀ y, y < n → (v - 2 ^ b) / 2 ^ y % 2 = 1 → y ≠ b ∧ v / 2 ^ y % 2 = 1 := fun y hy h1 => by
        by_cases e : y = b
        · rw [e, (b2 b (by omega)).1] at h1
          omega
        · have e5 : (v - 2 ^ b) / 2 ^ y % 2 = v / 2 ^ y % 2 := (b2 y (by omega)).2.1 (fun e' => e (Fin.mk.inj e').symm)
          exact ⟨e, by rw [← e5]; exact h1⟩
      refine ⟨by rw [e6]; exact h.i6 hsn, ?_⟩
      rw [(zb_bit ⟨v, hv64⟩ ⟨b, by omega⟩).2 hb1]
      refine hk _ ⟨v - 2 ^ b, s + 1, _, Nat.lt_of_le_of_lt (Nat.sub_le _ _) hv, hsn, (hO.put (k := 10) (by omega)).num (by omega), fun k hk => by rw [zs_sn hk]; exact hN k hk, fun k hk => by rw [← hR k hk]; exact zs_an hk, ?_, fun j hj => ?_, fun j j' x y hjj hj' hx hy ex ey => ?_, fun j x y hj hx hy ex hbit => ?_, fun y hy hbit => ?_, rfl⟩ ?_
      · rw [zs_ss]
        show g1.1 6 + 1 = _
        rw [e6, nI_1]
      · rw [er]
        by_cases ej : j = s
        · rw [ej, pk_us]
          exact ⟨b, hbn, rfl, (b2 b (by omega)).1⟩
        · rw [pk_un ej]
          obtain ⟨o, ho, eo, ho0⟩ := hin j (by omega)
          refine ⟨o, ho, eo, ?_⟩
          have hne : b ≠ o := fun e => by subst e; omega
          rw [(b2 o (by omega)).2.1 (fun e => hne (Fin.mk.inj e))]
          exact ho0
      · rw [er] at ex ey
        rw [pk_un (by omega)] at ex
        by_cases ej' : j' = s
        · rw [ej', pk_us] at ey
          have : b = y := (nI_eq (by omega) (by omega)).mp ey
          rw [← this]
          exact hbef j x b (by omega) hx hbn ex hb1
        · rw [pk_un ej'] at ey
          exact hord j j' x y hjj (by omega) hx hy ex ey
      · rw [er] at ex
        obtain ⟨hyb, hy1⟩ := bl y hy hbit
        by_cases ej : j = s
        · rw [ej, pk_us] at ex
          have : b = x := (nI_eq (by omega) (by omega)).mp ex
          rw [← this]
          exact (hmin y (by omega) hy1).resolve_left hyb
        · rw [pk_un ej] at ex
          exact hbef j x y (by omega) hx hy ex hy1
      · rw [er]
        by_cases e : y = b
        · exact ⟨s, by omega, by rw [pk_us, e]⟩
        · have e5 : (v - 2 ^ b) / 2 ^ y % 2 = v / 2 ^ y % 2 := (b2 y (by omega)).2.1 (fun e' => e (Fin.mk.inj e').symm)
          have : ¬ v / 2 ^ y % 2 = 1 := fun hx => hbit (by rw [e5]; exact hx)
          obtain ⟨j, hj, ej⟩ := hall y hy this
          exact ⟨j, by omega, by rw [pk_un (by omega)]; exact ej⟩
      · show (nI (v - 2 ^ b)).toNatClampNeg < (nI v).toNatClampNeg
        rw [nI_clamp (Nat.lt_of_le_of_lt (Nat.sub_le _ _) (by omega)), nI_clamp (by omega)]
        exact (b2 b (by omega)).2.2
    · have hl' : i < n := by omega
      have bi := (zb_bit ⟨v, hv64⟩ ⟨i, by omega⟩).1
      have keep : ∀ best', ((best' = -1 ∧ ∀ b, b < i + 1 → ¬ v / 2 ^ b % 2 = 1) ∨ ∃ b, b < i + 1 ∧ best' = nI b ∧ v / 2 ^ b % 2 = 1 ∧ ∀ b', b' < i + 1 → v / 2 ^ b' % 2 = 1 → b' = b ∨ zf_lt so b b') → zw_Mo_standAll_68 post k k2 a (nI v) best' (nI i) g1 := fun best' hb => hk2 _ ⟨best', i + 1, hl', hb, by rw [nI_1]⟩ (zm_lt hl' (by omega))
      refine zp_ifn (by rw [hO.1.w5]; exact nI_ge hl' (by omega)) ?_
      by_cases eb : v / 2 ^ i % 2 = 1
      · refine zp_fi (bi.mpr eb) ?_
        rcases hbest with ⟨rfl, hno⟩ | ⟨b, hbn, rfl, hb1, hmin⟩
        · refine zp_if rfl (keep (nI i) (Or.inr ⟨i, by omega, rfl, eb, fun b' hb' h1 => ?_⟩))
          by_cases e : b' = i
          · exact Or.inl e
          · exact absurd h1 (hno b' (by omega))
        · have old : zf_lt so b i ∨ i = b → zw_Mo_standAll_68 post k k2 a (nI v) (nI b) (nI i) g1 := fun hbi => keep _ (Or.inr ⟨b, by omega, rfl, hb1, fun b' hb' h1 => by
            by_cases e : b' = i
            · rw [e]
              exact hbi.symm
            · exact hmin b' (by omega) h1⟩)
          have nw : zf_lt so i b → zw_Mo_standAll_65 post k k2 a (nI v) (nI i) g1 := fun hib => keep _ (Or.inr ⟨i, by omega, rfl, eb, fun b' hb' h1 => by
            by_cases e : b' = i
            · exact Or.inl e
            · right
              rcases hmin b' (by omega) h1 with e2 | e2
              · rw [e2]
                exact hib
              · unfold zf_lt at hib e2 ⊢
                omega⟩)
          refine zp_ifn (zp_n1 (by omega)) ?_
          by_cases ea : a = 0
          · refine zp_if ea (old (Or.inl ?_))
            rw [so0 ea]
            exact Or.inr ⟨rfl, hbn⟩
          · have s1 := sp100 i hl'
            have s2 := sp100 b (by omega)
            refine zp_ifn ea (spw i g1 _ hl' hO (spw b g1 _ (by omega) hO ?_))
            by_cases hle : zt_sp W H σ.2.2.2.1 σ.2.2.2.2.1 b ≤ zt_sp W H σ.2.2.2.1 σ.2.2.2.2.1 i
            · refine zp_if (nI_le hle (by omega)) (old (Or.inl ?_))
              rw [so1 ea]
              unfold zf_lt
              omega
            · refine zp_ifn (nI_ge (by omega) (by omega)) (nw ?_)
              rw [so1 ea]
              unfold zf_lt
              omega
      · refine zp_fin (fun hx => eb (bi.mp hx)) (keep _ ?_)
        rcases hbest with ⟨rfl, hno⟩ | ⟨b, hbn, rfl, hb1, hmin⟩
        · refine Or.inl ⟨rfl, fun b hb => ?_⟩
          by_cases e : b = i
          · rw [e]
            exact eb
          · exact hno b (by omega)
        · refine Or.inr ⟨b, by omega, rfl, hb1, fun b' hb' h1 => ?_⟩
          by_cases e : b' = i
          · rw [e] at h1
            exact absurd h1 eb
          · exact hmin b' (by omega) h1
  · have : ∀ (n : Fin 7) (b : Fin 6), b.val < n.val → (2 ^ n.val - 1) / 2 ^ b.val % 2 = 1 := by decide +kernel
    exact absurd (this ⟨n, by omega⟩ ⟨b, by omega⟩ hb) hx
end ZAO
