/-! the reference's weigh: it comes to its end, at costs that no step betters -/
/-- the sum of a row -/
def zb_sm (f : Nat → Int32) : Nat → Nat
  | 0 => 0
  | N + 1 => zb_sm f N + (f N).toNatClampNeg
theorem zb_sm_cg {f g : Nat → Int32} : ∀ {N : Nat}, (∀ i, i < N → f i = g i) → zb_sm f N = zb_sm g N
  | 0, _ => rfl
  | N + 1, h => by
    show zb_sm f N + (f N).toNatClampNeg = zb_sm g N + (g N).toNatClampNeg
    rw [zb_sm_cg (fun i hi => h i (by omega)), h N (by omega)]
theorem zb_sm_up {f : Nat → Int32} {i : Nat} {v : Int32} : ∀ {N : Nat}, i < N → zb_sm (upd f i v) N + (f i).toNatClampNeg = zb_sm f N + v.toNatClampNeg
  | 0, h => absurd h (Nat.not_lt_zero _)
  | N + 1, h => by
    show zb_sm (upd f i v) N + (upd f i v N).toNatClampNeg + _ = zb_sm f N + (f N).toNatClampNeg + _
    by_cases e : i = N
    · subst e
      rw [pk_us, zb_sm_cg (f := upd f i v) (g := f) (fun j hj => pk_un (by omega))]
      omega
    · rw [pk_un (by omega)]
      have := zb_sm_up (f := f) (i := i) (v := v) (N := N) (by omega)
      omega
/-- a step's cost -/
def zb_e (vc d : Nat) : Nat := if d = 4 then vc else 1
/-- costs, each with a cell before it -/
def zr_P (W H : Nat) (T : Nat → Nat → Prop) (vc s0 : Nat) (f : Nat → Int32) : Prop :=
  (∀ c, c < 2 * (W * H) → ∃ k, k ≤ 1000000 ∧ f c = nI k) ∧ f s0 = 0 ∧
  ∀ c, c < 2 * (W * H) → c ≠ s0 → (f c).toNatClampNeg < 1000000 → ∃ t d c', T c t ∧ t < 1000000 ∧ d < 5 ∧ c' < 2 * (W * H) ∧ zg_B W H c d = nI c' ∧ (f c').toNatClampNeg + zb_e vc d + t ≤ (f c).toNatClampNeg
/-- no step of the first s into the cell betters it -/
def zr_X (W H : Nat) (T : Nat → Nat → Prop) (vc : Nat) (f : Nat → Int32) (c s : Nat) : Prop :=
  ∀ t, T c t → t < 1000000 → ∀ d, d < s → ∀ c', c' < 2 * (W * H) → zg_B W H c d = nI c' → (f c).toNatClampNeg ≤ (f c').toNatClampNeg + zb_e vc d + t
theorem zr_P.up {W H : Nat} {T : Nat → Nat → Prop} {vc s0 : Nat} {f : Nat → Int32} (h : zr_P W H T vc s0 f) {i k t d c' : Nat} (hi : i < 2 * (W * H)) (his : i ≠ s0) (ht : T i t) (htl : t < 1000000) (hd : d < 5) (hc' : c' < 2 * (W * H)) (eB : zg_B W H i d = nI c') (hk : k = (f c').toNatClampNeg + zb_e vc d + t) (hlt : k < (f i).toNatClampNeg) : zr_P W H T vc s0 (upd f i (nI k)) := by
  obtain ⟨a, ha, ea⟩ := h.1 i hi
  have e1 : (f i).toNatClampNeg = a := by rw [ea, nI_clamp (by omega)]
  have ck : (nI k).toNatClampNeg = k := nI_clamp (by omega)
  have dn : ∀ c, (upd f i (nI k) c).toNatClampNeg ≤ (f c).toNatClampNeg := fun c => by
    by_cases e : c = i
    · subst e
      rw [pk_us, ck]
      omega
    · rw [pk_un e]
      exact Nat.le_refl _
  refine ⟨fun c hc => ?_, ?_, fun c hc hcs hcl => ?_⟩
  · by_cases e : c = i
    · rw [e, pk_us]
      exact ⟨k, by omega, rfl⟩
    · rw [pk_un e]
      exact h.1 c hc
  · rw [pk_un (fun e => his e.symm)]
    exact h.2.1
  · by_cases e : c = i
    · subst e
      refine ⟨t, d, c', ht, htl, hd, hc', eB, ?_⟩
      have := dn c'
      rw [pk_us, ck]
      omega
    · rw [pk_un e] at hcl
      obtain ⟨t1, d1, c1, k1, k2, k3, k4, k5, k6⟩ := h.2.2 c hc hcs hcl
      refine ⟨t1, d1, c1, k1, k2, k3, k4, k5, ?_⟩
      have := dn c1
      rw [pk_un (j := c) e]
      omega
section ZO
variable {W H n : Nat} {g g0 : zS}
theorem zd_weigh (h : zM W H n g) {m : Nat} (hm : m < n) {s0 vc : Nat} (hs0 : s0 < 2 * (W * H)) (es0 : g.2 8 m = nI s0) (hvc : 1 ≤ vc ∧ vc ≤ 4) (evc : g.1 2 = nI vc) {p : Int32} {post : zS → Prop} (hp : ∀ f, zr_P W H (zr_t W H (g.1 3) (g.2 0) (g.2 1) (g.2 2) (nI m) p) vc s0 f → (∀ c, c < 2 * (W * H) → c ≠ s0 → zr_X W H (zr_t W H (g.1 3) (g.2 0) (g.2 1) (g.2 2) (nI m) p) vc f c 5) → post (zs_r g 4 f)) : zw_Mo_weigh (nI m) p g post := by
  have hC := h.C
  have h6 := h.n6
  have cm : (nI m).toNatClampNeg = m := nI_clamp (by omega)
  generalize hT : zr_t W H (g.1 3) (g.2 0) (g.2 1) (g.2 2) (nI m) p = T at hp
  have far : (1000000 : Int32) = nI 1000000 := rfl
  have g8 : ∀ f, (zs_r g 4 f).2 8 (nI m).toNatClampNeg = nI s0 := fun f => by rw [zs_rn (by omega), cm, es0]
  refine zq_Lp_I (I := fun q => ∃ i f, i ≤ 2 * (W * H) ∧ (∀ c, c < i → f c = nI 1000000) ∧ q = (nI m, p, nI i, zs_r g 4 f)) (μ := fun q => 2 * (W * H) - q.2.2.1.toNatClampNeg) ?_ ⟨0, g.2 4, Nat.zero_le _, fun c hc => absurd hc (Nat.not_lt_zero _), by rw [← zs_rs]; rfl⟩
  rintro k0 q ⟨i0, f0, hi0, hf0, rfl⟩ hk0
  unfold zw_Mo_weigh_2
  dsimp only
  have hO : ∀ f, zO W H n g (zs_r g 4 f) := fun f => (zO.rf h).r (by omega)
  refine zd_many (hO f0).1 ?_
  by_cases hl0 : 2 * (W * H) ≤ i0
  · refine zp_if (nI_le hl0 (by omega)) ?_
    rw [g8, zs_ra, h.ci hs0]
    refine ⟨h.i6 hm, h.ic hs0, ?_⟩
    refine zq_Lp_I (I := fun q => ∃ (b : Int32) (f : Nat → Int32), (b = 0 ∨ b = 1) ∧ zr_P W H T vc s0 f ∧ (b = 0 → ∀ c, c < 2 * (W * H) → c ≠ s0 → zr_X W H T vc f c 5) ∧ q = (nI m, p, b, zs_r g 4 f)) (μ := fun q => zb_sm (q.2.2.2.2 4) (2 * (W * H)) + if q.2.2.1 = 0 then 0 else 1) ?_ ⟨1, upd f0 s0 0, Or.inr rfl, ⟨fun c hc => ?_, pk_us, fun c hc hcs hlt => ?_⟩, fun e => absurd e (by decide), rfl⟩
    · rintro k1 q1 ⟨b, f, hb, hP, hX, rfl⟩ hk1
      by_cases eb : b = 0
      · exact zp_if eb (hp f hP (hX eb))
      refine zp_ifn eb ?_
      have mu1 : (zb_sm ((nI m, p, b, zs_r g 4 f).2.2.2.2 4) (2 * (W * H)) + if (nI m, p, b, zs_r g 4 f).2.2.1 = 0 then 0 else 1) = zb_sm f (2 * (W * H)) + 1 := by
        show zb_sm ((zs_r g 4 f).2 4) _ + (if b = 0 then 0 else 1) = _
        rw [zs_re, if_neg eb]
      rw [mu1] at hk1
      refine zq_Lp_I (I := fun q => ∃ (b : Int32) (i : Nat) (f' : Nat → Int32), i ≤ 2 * (W * H) ∧ (b = 0 ∨ b = 1) ∧ zr_P W H T vc s0 f' ∧ (b = 0 → ∀ c, c < i → c ≠ s0 → zr_X W H T vc f' c 5) ∧ zb_sm f' (2 * (W * H)) + (if b = 0 then 0 else 1) ≤ zb_sm f (2 * (W * H)) ∧ q = (nI m, p, b, nI i, zs_r g 4 f')) (μ := fun q => 2 * (W * H) - q.2.2.2.1.toNatClampNeg) ?_ ⟨0, 0, f, Nat.zero_le _, Or.inl rfl, hP, fun _ c hc => absurd hc (Nat.not_lt_zero _), Nat.le_refl _, rfl⟩
      rintro k2 q2 ⟨b2, i, f2, hi, hb2, hP2, hX2, hs2, rfl⟩ hk2
      unfold zw_Mo_weigh_47
      dsimp only
      refine zd_many (hO f2).1 ?_
      by_cases hl : 2 * (W * H) ≤ i
      · refine zp_if (nI_le hl (by omega)) (hk1 _ ⟨b2, f2, hb2, hP2, fun e c hc => hX2 e c (by omega), rfl⟩ ?_)
        show zb_sm ((zs_r g 4 f2).2 4) (2 * (W * H)) + (if b2 = 0 then 0 else 1) < _
        rw [zs_re]
        omega
      have hl' : i < 2 * (W * H) := by omega
      have in85 : ∀ t, t ≤ 1000000 → (i = s0 → t = 1000000) → (i ≠ s0 → T i t) → zw_Mo_weigh_80 post k1 k2 (nI m) p b2 (nI i) (nI t) (zs_r g 4 f2) := by
        intro t htF ht0 ht1
        refine zq_Lp_I (I := fun q => ∃ (b : Int32) (s : Nat) (f' : Nat → Int32), s ≤ 5 ∧ (b = 0 ∨ b = 1) ∧ zr_P W H T vc s0 f' ∧ (b = 0 → (∀ c, c < i → c ≠ s0 → zr_X W H T vc f' c 5) ∧ zr_X W H T vc f' i s) ∧ zb_sm f' (2 * (W * H)) + (if b = 0 then 0 else 1) ≤ zb_sm f (2 * (W * H)) ∧ q = (nI m, p, b, nI i, nI t, nI s, zs_r g 4 f')) (μ := fun q => 5 - q.2.2.2.2.2.1.toNatClampNeg) ?_ ⟨b2, 0, f2, Nat.zero_le _, hb2, hP2, fun e => ⟨hX2 e, fun _ _ _ d hd => absurd hd (Nat.not_lt_zero _)⟩, hs2, rfl⟩
        rintro k3 q3 ⟨b3, s, f3, hs, hb3, hP3, hX3, hs3, rfl⟩ hk3
        have out : (5 ≤ s ∨ t = 1000000) → zw_Mo_weigh_205 post k1 k2 (nI m) p b3 (nI i) (zs_r g 4 f3) := fun hx => by
          refine hk2 _ ⟨b3, i + 1, f3, hl', hb3, hP3, fun e c hc hcs => ?_, hs3, by rw [nI_1]⟩ (zm_lt hl' (by omega))
          by_cases ec : c = i
          · subst ec
            rcases hx with hx | hx
            · have : s = 5 := by omega
              subst this
              exact (hX3 e).2
            · intro t' ht' htl'
              have e1 := ht1 hcs
              rw [← hT] at e1 ht'
              have := zr_t_uq e1 ht'
              omega
          · exact (hX3 e).1 c (by omega) hcs
        by_cases hl3 : 5 ≤ s
        · exact zp_if (nI_le (a := 5) hl3 (by omega)) (out (Or.inl hl3))
        refine zp_ifn (nI_ge (b := 5) (by omega) (by omega)) ?_
        by_cases htl : t = 1000000
        · exact zp_if (by rw [htl]; exact nI_le (Nat.le_refl _) (by omega)) (out (Or.inr htl))
        refine zp_ifn (nI_ge (b := 1000000) (by omega) (by omega)) ?_
        have his : i ≠ s0 := fun e => htl (ht0 e)
        have hTt := ht1 his
        have t10 : t ≤ 10 := by
          have e1 := hTt
          rw [← hT] at e1
          have := zr_t_le e1
          omega
        obtain ⟨a, ha, ea⟩ := hP3.1 i hl'
        have ea' : (f3 i).toNatClampNeg = a := by rw [ea, nI_clamp (by omega)]
        have w144 : ∀ u, u ≤ 1000014 → (a ≤ u → k3 (nI m, p, b3, nI i, nI t, nI s + 1, zs_r g 4 f3)) → (u < a → k3 (nI m, p, 1, nI i, nI t, nI s + 1, zs_r g 4 (upd f3 i (nI u)))) → zw_Mo_weigh_144 post k1 k2 k3 (nI m) p b3 (nI i) (nI t) (nI s) (nI u) (zs_r g 4 f3) := by
          intro u hu hA hB
          have rd : (zs_r g 4 f3).2 4 (nI i).toNatClampNeg = nI a := by rw [zs_re, h.ci hl', ea]
          have w167 : ∀ v : Int32, (a ≤ u → v = b3) → (u < a → v = 1) → zw_Mo_weigh_167 post k1 k2 k3 (nI m) p (nI i) (nI t) (nI s) (nI u) v (zs_r g 4 f3) := by
            intro v hv1 hv2
            refine ⟨h.ic hl', ?_⟩
            rw [rd]
            by_cases hau : a ≤ u
            · refine zp_if (nI_le hau (by omega)) ⟨h.ic hl', h.ic hl', ?_⟩
              rw [zs_ra, h.ci hl', hv1 hau]
              have eu : upd f3 i (nI a) = f3 := by
                funext j
                by_cases e : j = i
                · rw [e, pk_us, ea]
                · rw [pk_un e]
              rw [eu]
              exact hA hau
            · refine zp_ifn (nI_ge (by omega) (by omega)) ⟨h.ic hl', ?_⟩
              rw [zs_ra, h.ci hl', hv2 (by omega)]
              exact hB (by omega)
          by_cases e3 : b3 = 0
          · refine zp_fi e3 ⟨h.ic hl', ?_⟩
            rw [rd]
            by_cases hau : a ≤ u
            · exact zp_if (nI_le hau (by omega)) (w167 0 (fun _ => e3.symm) (fun hx => absurd hau (by omega)))
            · exact zp_ifn (nI_ge (by omega) (by omega)) (w167 1 (fun hx => absurd hx hau) (fun _ => rfl))
          · exact zp_fin e3 (w167 1 (fun _ => (hb3.resolve_left e3).symm) (fun _ => rfl))
        have keep : (∀ c', c' < 2 * (W * H) → zg_B W H i s = nI c' → a ≤ (f3 c').toNatClampNeg + zb_e vc s + t) → k3 (nI m, p, b3, nI i, nI t, nI s + 1, zs_r g 4 f3) := fun hx => by
          refine hk3 _ ⟨b3, s + 1, f3, by omega, hb3, hP3, fun e => ⟨(hX3 e).1, fun t' ht' htl' d hd c' hc' eB => ?_⟩, hs3, by rw [nI_1]⟩ (zm_lt (by omega) (by omega))
          by_cases e4 : d = s
          · subst e4
            have e1 := hTt
            rw [← hT] at e1 ht'
            have e2 := zr_t_uq e1 ht'
            rw [ea', ← e2]
            exact hx c' hc' eB
          · exact (hX3 e).2 t' ht' htl' d (by omega) c' hc' eB
        refine zd_sd (hO f3).1 hl' (by omega) (fun er => ?_) (fun c' hc' er => ?_)
        · exact zp_fi rfl (w144 1000000 (by omega) (fun _ => keep (fun c' hc' e => absurd (er.symm.trans e).symm (zp_n1 (by omega)))) (fun hx => absurd hx (by omega)))
        · obtain ⟨a', ha', ea2⟩ := hP3.1 c' hc'
          have ea3 : (f3 c').toNatClampNeg = a' := by rw [ea2, nI_clamp (by omega)]
          have uq : ∀ c'', c'' < 2 * (W * H) → zg_B W H i s = nI c'' → c'' = c' := fun c'' hc'' e'' => (nI_eq (by omega) (by omega)).mp (e''.symm.trans er)
          have hz : zb_e vc s ≤ 4 := by unfold zb_e; split <;> omega
          have fin : zw_Mo_weigh_144 post k1 k2 k3 (nI m) p b3 (nI i) (nI t) (nI s) (nI (a' + zb_e vc s + t)) (zs_r g 4 f3) := by
            refine w144 _ (by omega) (fun hx => keep (fun c'' hc'' e'' => ?_)) (fun hx => ?_)
            · rw [uq c'' hc'' e'', ea3]
              exact hx
            · refine hk3 _ ⟨1, s + 1, _, by omega, Or.inr rfl, hP3.up (k := a' + zb_e vc s + t) hl' his hTt (by omega) (by omega) hc' er (by rw [ea3]) (by rw [ea']; exact hx), fun e => absurd e (by decide), ?_, by rw [nI_1]⟩ (zm_lt (by omega) (by omega))
              have := zb_sm_up (f := f3) (i := i) (v := nI (a' + zb_e vc s + t)) hl'
              rw [ea', nI_clamp (by omega)] at this
              rw [if_neg (by decide)]
              split at hs3 <;> omega
          refine zp_fin (zp_n1 (by omega)) ⟨h.ic hc', ?_⟩
          rw [zs_re, h.ci hc', ea2]
          by_cases e4 : s = 4
          · refine zp_fi (by rw [e4]; rfl) ?_
            have e5 : zw_Mo_weigh_140 post k1 k2 k3 (nI m) p b3 (nI i) (nI t) (nI s) (nI vc) (nI a') (zs_r g 4 f3) := by
              unfold zw_Mo_weigh_140
              rw [nI_add, nI_add]
              unfold zb_e at fin
              rw [if_pos e4] at fin
              exact fin
            rw [← evc] at e5
            exact e5
          · refine zp_fin (fun e5 => e4 ((nI_eq (b := 4) (by omega) (by omega)).mp e5)) ?_
            unfold zw_Mo_weigh_140
            rw [show (1 : Int32) = nI 1 from rfl, nI_add, nI_add]
            unfold zb_e at fin
            rw [if_neg e4] at fin
            exact fin
      refine zp_ifn (nI_ge hl' (by omega)) ⟨h.i6 hm, ?_⟩
      rw [g8]
      by_cases e : i = s0
      · exact zp_fi (by rw [e]) (in85 1000000 (Nat.le_refl _) (fun _ => rfl) (fun hx => absurd e hx))
      · refine zp_fin (fun hx => e ((nI_eq (by omega) (by omega)).mp hx)) (zd_toll (hO f2).1 hl' (fun t ht => ?_))
        rw [zs_rn (by omega), zs_rn (by omega), zs_rn (by omega)] at ht
        refine in85 t ?_ (fun hx => absurd hx e) (fun _ => ?_)
        · have := zr_t_le ht
          omega
        · rw [← hT]
          exact ht
    · by_cases e : c = s0
      · rw [e, pk_us]
        exact ⟨0, by omega, rfl⟩
      · rw [pk_un e, hf0 c (by omega)]
        exact ⟨1000000, by omega, rfl⟩
    · rw [pk_un hcs, hf0 c (by omega), nI_clamp (by omega)] at hlt
      omega
  · have hl' : i0 < 2 * (W * H) := by omega
    refine zp_ifn (nI_ge hl' (by omega)) ⟨h.ic hl', hk0 _ ⟨i0 + 1, upd f0 i0 (nI 1000000), hl', fun c hc => ?_, by rw [nI_1, zs_ra, h.ci hl']; rfl⟩ (zm_lt hl' (by omega))⟩
    by_cases e : c = i0
    · rw [e, pk_us]
    · rw [pk_un e]
      exact hf0 c (by omega)
end ZO
