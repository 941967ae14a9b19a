/-! the system's line: what its serving does, step for step -/
/-- what does not change: spacing, blocks, pins, ends, the via's cost -/
abbrev zSt : Type := Int32 × (Nat → Int32) × (Nat → Int32) × (Nat → Int32) × (Nat → Int32) × Nat
def zt_ok (W H n : Nat) (σ : zSt) : Prop := (2 ≤ W ∧ W ≤ 9 ∧ 2 ≤ H ∧ H ≤ 9 ∧ W * H ≤ 81) ∧ n ≤ 6 ∧ (1 ≤ σ.2.2.2.2.2 ∧ σ.2.2.2.2.2 ≤ 4) ∧ zf_pn W H n σ.2.2.2.1 σ.2.2.2.2.1 σ.2.2.1
def zt_X (σ : zSt) (z : zS) : Prop := z.1 5 = σ.1 ∧ z.1 8 = nI σ.2.2.2.2.2 ∧ z.2 8 = σ.2.1 ∧ z.2 5 = σ.2.2.1 ∧ z.2 3 = σ.2.2.2.1 ∧ z.2 4 = σ.2.2.2.2.1
def zt_rt (W H : Nat) (σ : zSt) (m : Nat) (o v : Nat → Int32) (r : Int32) (o' v' : Nat → Int32) : Prop := zf_route W H σ.1 σ.2.1 σ.2.2.1 σ.2.2.2.2.2 (σ.2.2.2.1 m).toNatClampNeg (σ.2.2.2.2.1 m).toNatClampNeg m o v r o' v'
def zt_ps (W H n : Nat) (σ : zSt) (m : Nat) (o v : Nat → Int32) (r : Int32) (o' v' : Nat → Int32) (P : Nat → Prop) : Prop := zf_push W H n σ.1 σ.2.1 σ.2.2.1 σ.2.2.2.2.2 (σ.2.2.2.1 m).toNatClampNeg (σ.2.2.2.2.1 m).toNatClampNeg m o v r o' v' P
def zt_jn (W H : Nat) (σ : zSt) (m : Nat) (o v : Nat → Int32) : Prop := zf_jn W H (σ.2.2.2.1 m).toNatClampNeg (σ.2.2.2.2.1 m).toNatClampNeg m o v
/-- those of Q that are not in the line join it, by number -/
def zf_ap (Q : Nat → Prop) : Nat → Nat → (Nat → Int32) → Nat → (Nat → Int32) → Prop
  | 0, s, lf, s', lf' => s' = s ∧ ∀ i, i < s → lf' i = lf i
  | k + 1, s, lf, s', lf' => ∃ s1 lf1, zf_ap Q k s lf s1 lf1 ∧ (((Q k ∧ ∀ i, i < s1 → ¬ lf1 i = nI k) ∧ s' = s1 + 1 ∧ (∀ i, i < s1 → lf' i = lf1 i) ∧ lf' s1 = nI k) ∨ (¬ (Q k ∧ ∀ i, i < s1 → ¬ lf1 i = nI k) ∧ s' = s1 ∧ ∀ i, i < s1 → lf' i = lf1 i))
/-- the line is served until it is empty -/
def zt_sv (W H n : Nat) (σ : zSt) (P : Nat) : Nat → Nat → Nat → (Nat → Int32) → (Nat → Int32) → (Nat → Int32) → (Nat → Int32) → (Nat → Int32) → Prop
  | 0, _, s, _, o, v, oF, vF => s = 0 ∧ oF = o ∧ vF = v
  | N + 1, d, s, lf, o, v, oF, vF => ∃ m r o1 v1 lf1, m < n ∧ 0 < s ∧ lf 0 = nI m ∧ (∀ i, i < s - 1 → lf1 i = lf (i + 1)) ∧ zt_rt W H σ m o v r o1 v1 ∧ (((¬ r = -1 ∨ d = P) ∧ zt_sv W H n σ P N d (s - 1) lf1 o1 v1 oF vF) ∨ (r = -1 ∧ ¬ d = P ∧ ∃ r2 o2 v2 Q, zt_ps W H n σ m o1 v1 r2 o2 v2 Q ∧ ((r2 = -1 ∧ zt_sv W H n σ P N d (s - 1) lf1 o2 v2 oF vF) ∨ (¬ r2 = -1 ∧ ∃ s2 lf2, zf_ap Q n (s - 1) lf1 s2 lf2 ∧ zt_sv W H n σ P N (d + 1) s2 lf2 o2 v2 oF vF))))
section ZAK
variable {W H n : Nat} {ln : Nat → Nat} {z z0 : zS} {σ : zSt}
theorem zt_ok.en (ok : zt_ok W H n σ) {m : Nat} (hm : m < n) : ∃ s e, s < 2 * (W * H) ∧ e < 2 * (W * H) ∧ σ.2.2.2.1 m = nI s ∧ σ.2.2.2.2.1 m = nI e ∧ σ.2.2.1 s = nI m ∧ σ.2.2.1 e = nI m ∧ (σ.2.2.2.1 m).toNatClampNeg = s ∧ (σ.2.2.2.2.1 m).toNatClampNeg = e := by
  obtain ⟨hd, hn, _, hpn⟩ := ok
  obtain ⟨s, e, hs, he, es, ee, ps, pe⟩ := hpn.1 m hm
  exact ⟨s, e, hs, he, es, ee, ps, pe, by rw [es]; exact nI_clamp (by omega), by rw [ee]; exact nI_clamp (by omega)⟩
theorem zt_X.h {z' : zS} (h : zt_X σ z) (hH : zc_H z z') : zt_X σ z' := ⟨(hH.1 5 (by omega) (by omega) (by omega)).trans h.1, (hH.1 8 (by omega) (by omega) (by omega)).trans h.2.1, (hH.2 8 (by omega) (by omega) (by omega) (by omega) (by omega) (by omega) (by omega) (by omega)).trans h.2.2.1, (hH.2 5 (by omega) (by omega) (by omega) (by omega) (by omega) (by omega) (by omega) (by omega)).trans h.2.2.2.1, (hH.2 3 (by omega) (by omega) (by omega) (by omega) (by omega) (by omega) (by omega) (by omega)).trans h.2.2.2.2.1, (hH.2 4 (by omega) (by omega) (by omega) (by omega) (by omega) (by omega) (by omega) (by omega)).trans h.2.2.2.2.2⟩
theorem zt_X.k {z' : zS} (h : zt_X σ z) (hK : zc_K z z') : zt_X σ z' := ⟨(hK.1 5 (by omega)).trans h.1, (hK.1 8 (by omega)).trans h.2.1, (hK.2 8 (by omega) (by omega)).trans h.2.2.1, (hK.2 5 (by omega) (by omega)).trans h.2.2.2.1, (hK.2 3 (by omega) (by omega)).trans h.2.2.2.2.1, (hK.2 4 (by omega) (by omega)).trans h.2.2.2.2.2⟩
theorem zt_X.l {z' : zS} (h : zt_X σ z) (h1 : ∀ k, k ≠ 11 → z'.1 k = z.1 k) (h2 : ∀ k, k ≠ 17 → z'.2 k = z.2 k) : zt_X σ z' := ⟨(h1 5 (by omega)).trans h.1, (h1 8 (by omega)).trans h.2.1, (h2 8 (by omega)).trans h.2.2.1, (h2 5 (by omega)).trans h.2.2.2.1, (h2 3 (by omega)).trans h.2.2.2.2.1, (h2 4 (by omega)).trans h.2.2.2.2.2⟩
theorem zX_lay (ok : zt_ok W H n σ) (hX : zt_X σ z) (h : zI W H n ln z) {m : Nat} (hm : m < n) {post : Int32 → zS → Prop} (hp : ∀ r z', zJ W H n ln z z' → zt_X σ z' → z'.1 11 = z.1 11 → z'.2 17 = z.2 17 → zt_rt W H σ m (z.2 6) (z.2 7) r (z'.2 6) (z'.2 7) → post r z') : zw_Router_lay ln (nI m) z post := by
  obtain ⟨s, e, hs, he, es, ee, _, _, cs, ce⟩ := ok.en hm
  obtain ⟨x1, x2, x3, x4, x5, x6⟩ := id hX
  refine zx_lay h ok.2.2.1 hm hs he (by rw [x5]; exact es) (by rw [x6]; exact ee) x2 (fun r z' hJ hG hr => hp r z' hJ (hX.h hG.h) (hG.1 11 (by omega) (by omega) (by omega)) (hG.2 17 (by omega) (by omega) (by omega) (by omega) (by omega) (by omega) (by omega)) ?_)
  unfold zt_rt
  rw [cs, ce, ← x1, ← x3, ← x4]
  exact hr
theorem zX_shove (ok : zt_ok W H n σ) (hX : zt_X σ z) (h : zI W H n ln z) {m : Nat} (hm : m < n) {post : Int32 → zS → Prop} (hp : ∀ r z', zJ W H n ln z z' → zt_X σ z' → z'.1 11 = z.1 11 → z'.2 17 = z.2 17 → zt_ps W H n σ m (z.2 6) (z.2 7) r (z'.2 6) (z'.2 7) (fun k => ¬ z'.2 9 k = 0) → post r z') : zw_Router_shove ln (nI m) z post := by
  obtain ⟨s, e, hs, he, es, ee, _, _, cs, ce⟩ := ok.en hm
  obtain ⟨x1, x2, x3, x4, x5, x6⟩ := id hX
  refine zx_shove h (by rw [x4, x5, x6]; exact ok.2.2.2) ok.2.2.1 hm hs he (by rw [x5]; exact es) (by rw [x6]; exact ee) x2 (fun r z' hJ hH hr => hp r z' hJ (hX.h hH) (hH.1 11 (by omega) (by omega) (by omega)) (hH.2 17 (by omega) (by omega) (by omega) (by omega) (by omega) (by omega) (by omega) (by omega)) ?_)
  unfold zt_ps
  rw [cs, ce, ← x1, ← x3, ← x4]
  exact hr
theorem zX_joined (ok : zt_ok W H n σ) (hX : zt_X σ z) (h : zI W H n ln z) {m : Nat} (hm : m < n) {post : Int32 → zS → Prop} (hp : ∀ r z', zJ W H n ln z z' → zc_K z z' → (r = 0 ∨ r = 1) → (¬ r = 0 ↔ zt_jn W H σ m (z.2 6) (z.2 7)) → post r z') : zw_Checker_isJoined ln (nI m) z post := by
  obtain ⟨s, e, hs, he, es, ee, _, _, cs, ce⟩ := ok.en hm
  obtain ⟨x1, x2, x3, x4, x5, x6⟩ := id hX
  refine zx_joined h hm hs he (by rw [x5]; exact es) (by rw [x6]; exact ee) (fun r z' hJ hK hr hiff => hp r z' hJ hK hr ?_)
  unfold zt_jn
  rw [cs, ce]
  exact hiff
theorem zx_join (h : zI W H n ln z) {m s : Nat} (hm : m < n) (es : z.1 11 = nI s) (hs6 : s ≤ 6) {post : zS → Prop} (hp0 : (∃ i, i < s ∧ z.2 17 i = nI m) → post z) (hp1 : (∀ i, i < s → ¬ z.2 17 i = nI m) → ∀ z', zJ W H n ln z z' → (∀ k, k ≠ 11 → z'.1 k = z.1 k) → (∀ k, k ≠ 17 → z'.2 k = z.2 k) → s < n → z'.1 11 = nI (s + 1) → z'.2 17 = upd (z.2 17) s (nI m) → post z') : zw_Line_join ln (nI m) z post := by
  have h6 := h.n6
  obtain ⟨s', hs6', es', hin, hinj⟩ := h.ll
  have ess : s' = s := (nI_eq (by omega) (by omega)).mp (es'.symm.trans es)
  subst ess
  refine zq_Lp_I (I := fun q => ∃ c, c ≤ s' ∧ (∀ i, i < c → ¬ z.2 17 i = nI m) ∧ q = (nI m, nI c, z)) (μ := fun q => s' - q.2.1.toNatClampNeg) ?_ ⟨0, Nat.zero_le _, fun i hi => absurd hi (Nat.not_lt_zero _), rfl⟩
  rintro k q ⟨c, hc, hne, rfl⟩ hk
  by_cases hl : s' ≤ c
  · have ec : c = s' := by omega
    subst ec
    have hlt : c < n := by
      have := zb_pg n (c + 1) (fun i => if i = c then m else (z.2 17 i).toNatClampNeg) (fun i hi => by
        show (if i = c then m else (z.2 17 i).toNatClampNeg) < n
        split
        · exact hm
        · obtain ⟨o, ho, e⟩ := hin i (by omega)
          rw [e, nI_clamp (by omega)]
          exact ho) (fun i j hi hj e => by
        have e' : (if i = c then m else (z.2 17 i).toNatClampNeg) = (if j = c then m else (z.2 17 j).toNatClampNeg) := e
        split at e'
        · split at e'
          · omega
          · obtain ⟨o, ho, eo⟩ := hin j (by omega)
            rw [eo, nI_clamp (by omega)] at e'
            exact absurd (by rw [eo, e']) (hne j (by omega))
        · obtain ⟨o, ho, eo⟩ := hin i (by omega)
          split at e'
          · rw [eo, nI_clamp (by omega)] at e'
            exact absurd (by rw [eo, e']) (hne i (by omega))
          · obtain ⟨o', ho', eo'⟩ := hin j (by omega)
            rw [eo, eo', nI_clamp (by omega), nI_clamp (by omega)] at e'
            exact hinj i j (by omega) (by omega) (by rw [eo, eo', e']))
      omega
    have r17 : (zs_s (zs_a z 17 (z.1 11) (nI m)) 11 ((zs_a z 17 (z.1 11) (nI m)).1 11 + 1)).2 17 = upd (z.2 17) c (nI m) := by
      show (zs_a z 17 (z.1 11) (nI m)).2 17 = _
      rw [zs_a2, if_pos rfl, es, nI_clamp (by omega)]
    have r11 : (zs_s (zs_a z 17 (z.1 11) (nI m)) 11 ((zs_a z 17 (z.1 11) (nI m)).1 11 + 1)).1 11 = nI (c + 1) := by
      rw [zs_ss]
      show z.1 11 + 1 = _
      rw [es, nI_1]
    have f1 : ∀ k, k ≠ 11 → (zs_s (zs_a z 17 (z.1 11) (nI m)) 11 ((zs_a z 17 (z.1 11) (nI m)).1 11 + 1)).1 k = z.1 k := fun k hk => by rw [zs_sn hk]; rfl
    have f2 : ∀ k, k ≠ 17 → (zs_s (zs_a z 17 (z.1 11) (nI m)) 11 ((zs_a z 17 (z.1 11) (nI m)).1 11 + 1)).2 k = z.2 k := fun k hk => zs_an hk
    refine zp_if (by rw [es]; exact nI_le (Nat.le_refl _) (by omega)) ⟨by rw [es]; exact h.i6 (by omega) (by omega), hp1 hne _ ((zJ.rf h).line f1 f2 ?_) f1 f2 hlt r11 r17⟩
    rw [r11, r17]
    refine ⟨c + 1, by omega, rfl, fun i hi => ?_, fun i j hi hj e => ?_⟩
    · by_cases e : i = c
      · rw [e, pk_us]
        exact ⟨m, hm, rfl⟩
      · rw [pk_un e]
        exact hin i (by omega)
    · by_cases e1 : i = c
      · subst e1
        by_cases e2 : j = i
        · exact e2.symm
        · rw [pk_us, pk_un e2] at e
          exact absurd e.symm (hne j (by omega))
      · rw [pk_un e1] at e
        by_cases e2 : j = c
        · subst e2
          rw [pk_us] at e
          exact absurd e (hne i (by omega))
        · rw [pk_un e2] at e
          exact hinj i j (by omega) (by omega) e
  · refine zp_ifn (by rw [es]; exact nI_ge (by omega) (by omega)) ⟨h.i6 (by omega) (by omega), ?_⟩
    rw [nI_clamp (by omega)]
    by_cases e : z.2 17 c = nI m
    · exact zp_fi e (hp0 ⟨c, by omega, e⟩)
    · refine zp_fin e (hk _ ⟨c + 1, by omega, fun i hi => ?_, by rw [nI_1]⟩ (zm_lt (by omega) (by omega)))
      by_cases e1 : i = c
      · rw [e1]
        exact e
      · exact hne i (by omega)
theorem zx_leave (h : zI W H n ln z) {s : Nat} (es : z.1 11 = nI s) (hs0 : 0 < s) (hs6 : s ≤ 6) {post : Int32 → zS → Prop} (hp : ∀ m z', m < n → z.2 17 0 = nI m → zJ W H n ln z z' → (∀ k, k ≠ 11 → z'.1 k = z.1 k) → (∀ k, k ≠ 17 → z'.2 k = z.2 k) → z'.1 11 = nI (s - 1) → (∀ i, i < s - 1 → z'.2 17 i = z.2 17 (i + 1)) → post (nI m) z') : zw_Line_leave ln z post := by
  have h6 := h.n6
  obtain ⟨s', hs6', es', hin, hinj⟩ := h.ll
  have ess : s' = s := (nI_eq (by omega) (by omega)).mp (es'.symm.trans es)
  subst ess
  obtain ⟨m, hm, em⟩ := hin 0 hs0
  have e1 : z.1 11 - 1 = nI (s' - 1) := by rw [es]; exact nI_sub (b := 1) hs0
  have l17 : ln 17 = 6 := by
    rw [h.l (by omega)]
    unfold zb_l
    rw [if_neg (by omega), if_pos (by omega)]
  have em' : z.2 17 (0 : Int32).toNatClampNeg = nI m := em
  have ef : ∀ i, i < s' - 1 → va_cpy (z.2 17) (z.2 17) 1 0 (s' - 1) i = z.2 17 (i + 1) := fun i hi => by
    unfold va_cpy
    rw [if_pos ⟨Nat.zero_le _, by omega⟩, Nat.sub_zero, Nat.add_comm]
  have f1 : ∀ k, k ≠ 11 → (zs_r (zs_s z 11 (nI (s' - 1))) 17 (va_cpy (z.2 17) (z.2 17) 1 0 (s' - 1))).1 k = z.1 k := fun k hk => (zs_sn hk : (zs_s z 11 (nI (s' - 1))).1 k = z.1 k)
  have f2 : ∀ k, k ≠ 17 → (zs_r (zs_s z 11 (nI (s' - 1))) 17 (va_cpy (z.2 17) (z.2 17) 1 0 (s' - 1))).2 k = z.2 k := fun k hk => zs_rn hk
  have r11 : (zs_r (zs_s z 11 (nI (s' - 1))) 17 (va_cpy (z.2 17) (z.2 17) 1 0 (s' - 1))).1 11 = nI (s' - 1) := (zs_ss : (zs_s z 11 (nI (s' - 1))).1 11 = nI (s' - 1))
  have r17 : (zs_r (zs_s z 11 (nI (s' - 1))) 17 (va_cpy (z.2 17) (z.2 17) 1 0 (s' - 1))).2 17 = va_cpy (z.2 17) (z.2 17) 1 0 (s' - 1) := zs_re
  unfold zw_Line_leave
  rw [zs_ss, e1, em', l17, nI_clamp (by omega)]
  refine ⟨by rw [← l17]; exact h.i6 (c := 0) (by omega) (by omega), by decide, by decide, nI_pos (by omega), ?_, ?_, hp m _ hm em ((zJ.rf h).line f1 f2 ?_) f1 f2 r11 (fun i hi => ?_)⟩
  · show 1 + (s' - 1) ≤ 6
    omega
  · show 0 + (s' - 1) ≤ 6
    omega
  · show zb_L n ((zs_r (zs_s z 11 (nI (s' - 1))) 17 (va_cpy (z.2 17) (z.2 17) 1 0 (s' - 1))).1 11) ((zs_r (zs_s z 11 (nI (s' - 1))) 17 (va_cpy (z.2 17) (z.2 17) 1 0 (s' - 1))).2 17)
    rw [r11, r17]
    refine ⟨s' - 1, by omega, rfl, fun i hi => ?_, fun i j hi hj e => ?_⟩
    · rw [ef i hi]
      exact hin (i + 1) (by omega)
    · rw [ef i hi, ef j hj] at e
      have := hinj (i + 1) (j + 1) (by omega) (by omega) e
      omega
  · show (zs_r (zs_s z 11 (nI (s' - 1))) 17 (va_cpy (z.2 17) (z.2 17) 1 0 (s' - 1))).2 17 i = _
    rw [r17]
    exact ef i hi
/-- the line's numbers out of the invariant -/
theorem zI.sz (h : zI W H n ln z) : ∃ s, s ≤ 6 ∧ z.1 11 = nI s := by
  obtain ⟨s, h1, h2, _⟩ := h.ll
  exact ⟨s, h1, h2⟩
theorem zx_lineUpOut (h : zI W H n ln z) {s : Nat} (es : z.1 11 = nI s) (hs6 : s ≤ 6) {post : zS → Prop} (hp : ∀ z' s', zJ W H n ln z z' → (∀ k, k ≠ 11 → z'.1 k = z.1 k) → (∀ k, k ≠ 17 → z'.2 k = z.2 k) → s' ≤ 6 → z'.1 11 = nI s' → zf_ap (fun k => ¬ z.2 9 k = 0) n s (z.2 17) s' (z'.2 17) → post z') : zw_Router_lineUpPushedOut ln z post := by
  have h6 := h.n6
  refine zq_Lp_I (I := fun q => ∃ c z' s', c ≤ n ∧ zJ W H n ln z z' ∧ (∀ k, k ≠ 11 → z'.1 k = z.1 k) ∧ (∀ k, k ≠ 17 → z'.2 k = z.2 k) ∧ s' ≤ 6 ∧ z'.1 11 = nI s' ∧ zf_ap (fun k => ¬ z.2 9 k = 0) c s (z.2 17) s' (z'.2 17) ∧ q = (nI c, z')) (μ := fun q => n - q.1.toNatClampNeg) ?_ ⟨0, z, s, Nat.zero_le _, zJ.rf h, fun _ _ => rfl, fun _ _ => rfl, hs6, es, ⟨rfl, fun _ _ => rfl⟩, rfl⟩
  rintro k q ⟨c, z', s', hc, hJ, f1, f2, hs', es', hap, rfl⟩ hk
  by_cases hl : n ≤ c
  · have ec : c = n := by omega
    subst ec
    exact zp_if (by rw [hJ.1.s4]; exact nI_le hl (by omega)) (hp z' s' hJ f1 f2 hs' es' hap)
  have hl' : c < n := by omega
  have go : ∀ z2 s2, zJ W H n ln z z2 → (∀ k, k ≠ 11 → z2.1 k = z.1 k) → (∀ k, k ≠ 17 → z2.2 k = z.2 k) → s2 ≤ 6 → z2.1 11 = nI s2 → zf_ap (fun k => ¬ z.2 9 k = 0) (c + 1) s (z.2 17) s2 (z2.2 17) → zw_Router_lineUpPushedOut_30 ln post k (nI c) z2 := fun z2 s2 hJ2 g1 g2 h2 e2 hap2 => hk _ ⟨c + 1, z2, s2, hl', hJ2, g1, g2, h2, e2, hap2, by rw [nI_1]⟩ (zm_lt hl' (by omega))
  refine zp_ifn (by rw [hJ.1.s4]; exact nI_ge hl' (by omega)) ⟨h.i6 (by omega) (by omega), ?_⟩
  rw [nI_clamp (by omega), f2 9 (by omega)]
  by_cases e : z.2 9 c = 0
  · exact zp_if e (go z' s' hJ f1 f2 hs' es' ⟨s', z'.2 17, hap, Or.inr ⟨fun hx => hx.1 e, rfl, fun _ _ => rfl⟩⟩)
  · refine zp_ifn e (zx_join hJ.1 hl' es' hs' (fun ⟨i, hi, ei⟩ => go z' s' hJ f1 f2 hs' es' ⟨s', z'.2 17, hap, Or.inr ⟨fun hx => hx.2 i hi ei, rfl, fun _ _ => rfl⟩⟩) (fun hne z2 hJ2 g1 g2 hsn e11 e17 => go z2 (s' + 1) (hJ.tr hJ2) (fun k hk => (g1 k hk).trans (f1 k hk)) (fun k hk => (g2 k hk).trans (f2 k hk)) (by omega) e11 ⟨s', z'.2 17, hap, Or.inl ⟨⟨e, hne⟩, rfl, fun i hi => by rw [e17, pk_un (by omega)], by rw [e17, pk_us]⟩⟩))
theorem zX_serve (ok : zt_ok W H n σ) (hX : zt_X σ z) (h : zI W H n ln z) {P s : Nat} (hP : P ≤ 20) (es : z.1 11 = nI s) (hs6 : s ≤ 6) {post : zS → Prop} (hp : ∀ z', zJ W H n ln z z' → zt_X σ z' → z'.1 11 = 0 → (∃ N, zt_sv W H n σ P N 0 s (z.2 17) (z.2 6) (z.2 7) (z'.2 6) (z'.2 7)) → post z') : zw_Router_serveLine ln (nI P) z post := by
  refine zq_Lp_I (I := fun q => ∃ d t z' s', d ≤ P ∧ t + (P - d) * 6 + s' ≤ 126 ∧ zJ W H n ln z z' ∧ zt_X σ z' ∧ s' ≤ 6 ∧ z'.1 11 = nI s' ∧ (∀ oF vF N, zt_sv W H n σ P N d s' (z'.2 17) (z'.2 6) (z'.2 7) oF vF → ∃ N', zt_sv W H n σ P N' 0 s (z.2 17) (z.2 6) (z.2 7) oF vF) ∧ q = (nI P, nI d, nI t, z')) (μ := fun q => 126 - q.2.2.1.toNatClampNeg) ?_ ⟨0, 0, z, s, Nat.zero_le _, by omega, zJ.rf h, hX, hs6, es, fun oF vF N hN => ⟨N, hN⟩, rfl⟩
  rintro k q ⟨d, t, z', s', hd, hm, hJ, hX', hs', es', acc, rfl⟩ hk
  have fin : s' = 0 → post z' := fun e => hp z' hJ hX' (by rw [es', e]; rfl) (acc _ _ 0 ⟨e, rfl, rfl⟩)
  by_cases hl : 126 ≤ t
  · exact zp_if (nI_le (a := 126) hl (by omega)) (fin (by omega))
  refine zp_ifn (nI_ge (b := 126) (by omega) (by omega)) ?_
  by_cases e : s' = 0
  · exact zp_fi (by rw [es', e]; rfl) ⟨zp_b1, zp_fin (by decide) (fin e)⟩
  refine zp_fin (by rw [es']; exact nI_ne0 (by omega) (by omega)) ⟨zp_b0, zp_fi rfl (zx_leave hJ.1 es' (by omega) hs' (fun m z2 hmn e0 hJ2 f1 f2 e11 e17 => zX_lay ok (hX'.l f1 f2) hJ2.1 hmn (fun r z3 hJ3 hX3 g11 g17 hrt => ?_)))⟩
  rw [f2 6 (by omega), f2 7 (by omega)] at hrt
  have hJ3' := (hJ.tr hJ2).tr hJ3
  have s3 : z3.1 11 = nI (s' - 1) := g11.trans e11
  have l3 : ∀ i, i < s' - 1 → z3.2 17 i = z'.2 17 (i + 1) := fun i hi => by rw [g17]; exact e17 i hi
  -- one turn that adds nothing to the line
  have go1 : ∀ z4, zJ W H n ln z z4 → zt_X σ z4 → z4.1 11 = nI (s' - 1) → (∀ oF vF N, zt_sv W H n σ P N d (s' - 1) (z4.2 17) (z4.2 6) (z4.2 7) oF vF → ∃ N', zt_sv W H n σ P N' d s' (z'.2 17) (z'.2 6) (z'.2 7) oF vF) → zw_Router_serveLine_61 ln post k (nI P) (nI d) (nI t) z4 := fun z4 hJ4 hX4 e4 ac => hk _ ⟨d, t + 1, z4, s' - 1, hd, by omega, hJ4, hX4, by omega, e4, fun oF vF N hN => by
    obtain ⟨N', hN'⟩ := ac oF vF N hN
    exact acc oF vF N' hN', by rw [nI_1]⟩ (zm_lt (by omega) (by omega))
  by_cases e1 : r = -1
  · refine zp_fi e1 ?_
    by_cases e2 : P ≤ d
    · refine zp_if (nI_le e2 (by omega)) (go1 z3 hJ3' hX3 s3 (fun oF vF N hN => ⟨N + 1, m, r, z3.2 6, z3.2 7, z3.2 17, hmn, by omega, e0, l3, hrt, Or.inl ⟨Or.inr (by omega), hN⟩⟩))
    refine zp_ifn (nI_ge (by omega) (by omega)) (zX_shove ok hX3 hJ3.1 hmn (fun r2 z4 hJ4 hX4 k11 k17 hps => ?_))
    have s4 : z4.1 11 = nI (s' - 1) := k11.trans s3
    by_cases e3 : r2 = -1
    · refine zp_if e3 (go1 z4 (hJ3'.tr hJ4) hX4 s4 (fun oF vF N hN => ⟨N + 1, m, r, z3.2 6, z3.2 7, z4.2 17, hmn, by omega, e0, fun i hi => by rw [k17]; exact l3 i hi, hrt, Or.inr ⟨e1, by omega, r2, z4.2 6, z4.2 7, _, hps, Or.inl ⟨e3, hN⟩⟩⟩))
    · refine zp_ifn e3 (zx_lineUpOut hJ4.1 s4 (by omega) (fun z5 s5 hJ5 j1 j2 h5 e5 hap => ?_))
      rw [nI_1]
      refine hk _ ⟨d + 1, t + 1, z5, s5, by omega, by omega, (hJ3'.tr hJ4).tr hJ5, hX4.l j1 j2, h5, e5, fun oF vF N hN => ?_, by rw [nI_1]⟩ (zm_lt (by omega) (by omega))
      rw [j2 6 (by omega), j2 7 (by omega)] at hN
      exact acc oF vF (N + 1) ⟨m, r, z3.2 6, z3.2 7, z4.2 17, hmn, by omega, e0, fun i hi => by rw [k17]; exact l3 i hi, hrt, Or.inr ⟨e1, by omega, r2, z4.2 6, z4.2 7, _, hps, Or.inr ⟨e3, s5, z5.2 17, hap, hN⟩⟩⟩
  · exact zp_fin e1 (go1 z3 hJ3' hX3 s3 (fun oF vF N hN => ⟨N + 1, m, r, z3.2 6, z3.2 7, z3.2 17, hmn, by omega, e0, l3, hrt, Or.inl ⟨Or.inl e1, hN⟩⟩))
end ZAK
