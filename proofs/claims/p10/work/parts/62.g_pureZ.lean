/-! the system's spread comes to the best costs -/
theorem zb_md {C x : Nat} (h : x < 2 * C) : x % C = if x < C then x else x - C := by
  split
  · exact Nat.mod_eq_of_lt (by assumption)
  · rw [Nat.mod_eq_sub_mod (by omega), Nat.mod_eq_of_lt (by omega)]
/-- all but the spread's own rows is as it was -/
def zcq_A (z z' : zS) : Prop := (∀ k, k ≠ 9 → k ≠ 10 → z'.1 k = z.1 k) ∧ ∀ k, k ≠ 14 → k ≠ 15 → k ≠ 16 → z'.2 k = z.2 k
theorem zcq_A.rf {z : zS} : zcq_A z z := ⟨fun _ _ _ => rfl, fun _ _ _ _ => rfl⟩
theorem zcq_A.tr {a b c : zS} (h : zcq_A a b) (h' : zcq_A b c) : zcq_A a c := ⟨fun k k1 k2 => (h'.1 k k1 k2).trans (h.1 k k1 k2), fun k k1 k2 k3 => (h'.2 k k1 k2 k3).trans (h.2 k k1 k2 k3)⟩
/-- the ring: b cells from place a on, none twice, and their flags -/
def zb_q (W H a b : Nat) (z : zS) : Prop :=
  a < 2 * (W * H) ∧ b ≤ 2 * (W * H) ∧ z.1 9 = nI a ∧ z.1 10 = nI b ∧ (∀ i, i < b → ∃ u, u < 2 * (W * H) ∧ z.2 15 ((a + i) % (2 * (W * H))) = nI u ∧ ¬ z.2 16 u = 0) ∧ (∀ i j, i < b → j < b → z.2 15 ((a + i) % (2 * (W * H))) = z.2 15 ((a + j) % (2 * (W * H))) → i = j) ∧ ∀ u, u < 2 * (W * H) → ¬ z.2 16 u = 0 → ∃ i, i < b ∧ z.2 15 ((a + i) % (2 * (W * H))) = nI u
section ZZ
variable {W H n : Nat} {ln : Nat → Nat} {z z0 : zS} {a b : Nat}
theorem zx_enqueue (h : zI W H n ln z) (hQ : zb_q W H a b z) {c : Nat} (hc : c < 2 * (W * H)) {post : zS → Prop} (hp0 : ¬ z.2 16 c = 0 → post z) (hp1 : z.2 16 c = 0 → ∀ z', zJ W H n ln z z' → zcq_A z z' → z'.2 14 = z.2 14 → zb_q W H a (b + 1) z' → (∀ i, i < b → z'.2 15 ((a + i) % (2 * (W * H))) = z.2 15 ((a + i) % (2 * (W * H)))) → (∀ u, u ≠ c → z'.2 16 u = z.2 16 u) → ¬ z'.2 16 c = 0 → post z') : zw_WayFinder_enqueue ln (nI c) z post := by
  have hC := h.C
  obtain ⟨ha, hb, e9, e10, hin, hinj, hfl⟩ := id hQ
  refine ⟨h.ic (k := 16) (by omega) (by omega) hc, ?_⟩
  rw [h.ci hc]
  by_cases e : z.2 16 c = 0
  · have hne : ∀ i, i < b → ¬ z.2 15 ((a + i) % (2 * (W * H))) = nI c := fun i hi ei => by
      obtain ⟨u, hu, eu, hw⟩ := hin i hi
      have : u = c := (nI_eq (by omega) (by omega)).mp (eu.symm.trans ei)
      rw [this] at hw
      exact hw e
    have hbC : b < 2 * (W * H) := by
      have := zb_pg (2 * (W * H)) (b + 1) (fun i => if i = b then c else (z.2 15 ((a + i) % (2 * (W * H)))).toNatClampNeg) (fun i hi => by
        show (if i = b then c else (z.2 15 ((a + i) % (2 * (W * H)))).toNatClampNeg) < _
        split
        · exact hc
        · obtain ⟨u, hu, eu, _⟩ := hin i (by omega)
          rw [eu, h.ci hu]
          exact hu) (fun i j hi hj e' => by
        have e2 : (if i = b then c else (z.2 15 ((a + i) % (2 * (W * H)))).toNatClampNeg) = (if j = b then c else (z.2 15 ((a + j) % (2 * (W * H)))).toNatClampNeg) := e'
        split at e2
        · split at e2
          · omega
          · obtain ⟨u, hu, eu, _⟩ := hin j (by omega)
            rw [eu, h.ci hu] at e2
            exact absurd (by rw [eu, e2]) (hne j (by omega))
        · obtain ⟨u, hu, eu, _⟩ := hin i (by omega)
          split at e2
          · rw [eu, h.ci hu] at e2
            exact absurd (by rw [eu, e2]) (hne i (by omega))
          · obtain ⟨u', hu', eu', _⟩ := hin j (by omega)
            rw [eu, eu', h.ci hu, h.ci hu'] at e2
            exact hinj i j (by omega) (by omega) (by rw [eu, eu', e2]))
      omega
    have hJ1 := (zJ.rf h).put (k := 16) (i := nI c) (v := vp_nar .boolean 1) (by omega) (by omega) (zb_Rt (by omega))
    have n9 : (zs_a z 16 (nI c) (vp_nar .boolean 1)).1 9 = nI a := e9
    have n10 : (zs_a z 16 (nI c) (vp_nar .boolean 1)).1 10 = nI b := e10
    have n3 : (zs_a z 16 (nI c) (vp_nar .boolean 1)).1 3 = nI (2 * (W * H)) := h.s3
    have fin : ∀ x, x < 2 * (W * H) → x = (a + b) % (2 * (W * H)) → zw_WayFinder_enqueue_54 ln post (nI c) (nI x) (zs_a z 16 (nI c) (vp_nar .boolean 1)) := fun x hx ex => by
      refine ⟨h.ic (k := 15) (by omega) (by omega) hx, ?_⟩
      have r15 : (zs_s (zs_a (zs_a z 16 (nI c) (vp_nar .boolean 1)) 15 (nI x) (nI c)) 10 ((zs_a (zs_a z 16 (nI c) (vp_nar .boolean 1)) 15 (nI x) (nI c)).1 10 + 1)).2 15 = upd (z.2 15) x (nI c) := by
        show (zs_a (zs_a z 16 (nI c) (vp_nar .boolean 1)) 15 (nI x) (nI c)).2 15 = _
        rw [zs_a2, if_pos rfl, zs_an (by omega), h.ci hx]
      have r16 : (zs_s (zs_a (zs_a z 16 (nI c) (vp_nar .boolean 1)) 15 (nI x) (nI c)) 10 ((zs_a (zs_a z 16 (nI c) (vp_nar .boolean 1)) 15 (nI x) (nI c)).1 10 + 1)).2 16 = upd (z.2 16) c 1 := by
        show (zs_a (zs_a z 16 (nI c) (vp_nar .boolean 1)) 15 (nI x) (nI c)).2 16 = _
        rw [zs_an (by omega), zs_a2, if_pos rfl, h.ci hc]
        rfl
      have old : ∀ i, i < b → upd (z.2 15) x (nI c) ((a + i) % (2 * (W * H))) = z.2 15 ((a + i) % (2 * (W * H))) := fun i hi => by
        refine pk_un ?_
        rw [ex, zb_md (by omega), zb_md (by omega)]
        split <;> split <;> omega
      have nw : upd (z.2 15) x (nI c) ((a + b) % (2 * (W * H))) = nI c := by rw [← ex, pk_us]
      refine hp1 e _ ((hJ1.put (k := 15) (by omega) (by omega) (zb_Rc (by omega) hc)).num (by omega)) ⟨fun k k9 k10 => by rw [zs_sn k10]; rfl, fun k k14 k15 k16 => ?_⟩ ?_ ⟨ha, by omega, ?_, ?_, ?_, ?_, ?_⟩ ?_ ?_ ?_
      · show (zs_a (zs_a z 16 (nI c) (vp_nar .boolean 1)) 15 (nI x) (nI c)).2 k = _
        rw [zs_an k15, zs_an k16]
      · show (zs_a (zs_a z 16 (nI c) (vp_nar .boolean 1)) 15 (nI x) (nI c)).2 14 = _
        rw [zs_an (by omega), zs_an (by omega)]
      · rw [zs_sn (by omega)]
        exact e9
      · rw [zs_ss]
        show z.1 10 + 1 = _
        rw [e10, nI_1]
      · intro i hi
        rw [r15, r16]
        by_cases ei : i = b
        · subst ei
          exact ⟨c, hc, nw, by rw [pk_us]; decide⟩
        · rw [old i (by omega)]
          obtain ⟨u, hu, eu, hw⟩ := hin i (by omega)
          refine ⟨u, hu, eu, ?_⟩
          by_cases euc : u = c
          · rw [euc, pk_us]
            decide
          · rw [pk_un euc]
            exact hw
      · intro i j hi hj
        rw [r15]
        by_cases ei : i = b
        · subst ei
          by_cases ej : j = i
          · exact fun _ => ej.symm
          · rw [nw, old j (by omega)]
            exact fun e' => absurd e'.symm (hne j (by omega))
        · rw [old i (by omega)]
          by_cases ej : j = b
          · subst ej
            rw [nw]
            exact fun e' => absurd e' (hne i (by omega))
          · rw [old j (by omega)]
            exact hinj i j (by omega) (by omega)
      · intro u hu
        rw [r15, r16]
        by_cases euc : u = c
        · intro _
          rw [euc]
          exact ⟨b, by omega, nw⟩
        · rw [pk_un euc]
          intro hw
          obtain ⟨i, hi, ei⟩ := hfl u hu hw
          exact ⟨i, by omega, by rw [old i hi]; exact ei⟩
      · intro i hi
        rw [r15]
        exact old i hi
      · intro u hu
        rw [r16]
        exact pk_un hu
      · rw [r16, pk_us]
        decide
    refine zp_fi e ⟨h.ic (k := 16) (by omega) (by omega) hc, ?_⟩
    rw [n9, n10, n3, nI_add]
    by_cases hl : 2 * (W * H) ≤ a + b
    · refine zp_if (nI_le hl (by omega)) ?_
      rw [nI_sub hl]
      exact fin _ (by omega) (by rw [zb_md (by omega), if_neg (by omega)])
    · exact zp_ifn (nI_ge (by omega) (by omega)) (fin _ (by omega) (by rw [zb_md (by omega), if_pos (by omega)]))
  · exact zp_fin e (hp0 e)
theorem zx_dequeue (h : zI W H n ln z) (hQ : zb_q W H a b z) (hb0 : 0 < b) {post : Int32 → zS → Prop} (hp : ∀ u z', u < 2 * (W * H) → z.2 15 ((a + 0) % (2 * (W * H))) = nI u → zJ W H n ln z z' → zcq_A z z' → z'.2 14 = z.2 14 → zb_q W H ((a + 1) % (2 * (W * H))) (b - 1) z' → (∀ i, z'.2 15 (((a + 1) % (2 * (W * H)) + i) % (2 * (W * H))) = z.2 15 ((a + (i + 1)) % (2 * (W * H)))) → (∀ x, x ≠ u → z'.2 16 x = z.2 16 x) → z'.2 16 u = 0 → post (nI u) z') : zw_WayFinder_dequeue ln z post := by
  have hC := h.C
  obtain ⟨ha, hb, e9, e10, hin, hinj, hfl⟩ := id hQ
  have a0 : (a + 0) % (2 * (W * H)) = a := Nat.mod_eq_of_lt ha
  obtain ⟨u, hu, eu, hw⟩ := hin 0 hb0
  have eu' : z.2 15 (nI a).toNatClampNeg = nI u := by rw [h.ci ha, ← a0]; exact eu
  unfold zw_WayFinder_dequeue
  rw [e9, eu', h.s3]
  have sh : ∀ i, ((a + 1) % (2 * (W * H)) + i) % (2 * (W * H)) = (a + (i + 1)) % (2 * (W * H)) := fun i => by
    rw [Nat.mod_add_mod]
    congr 1
    omega
  have fin : ∀ x, x = (a + 1) % (2 * (W * H)) → zw_WayFinder_dequeue_37 ln post (nI u) (nI x) z := fun x ex => by
    have hx : x < 2 * (W * H) := by rw [ex]; exact Nat.mod_lt _ (by omega)
    have r16 : (zs_a (zs_s (zs_s z 9 (nI x)) 10 ((zs_s z 9 (nI x)).1 10 - 1)) 16 (nI u) (vp_nar .boolean 0)).2 16 = upd (z.2 16) u 0 := by
      rw [zs_a2, if_pos rfl, h.ci hu]
      rfl
    have rk : ∀ k, k ≠ 16 → (zs_a (zs_s (zs_s z 9 (nI x)) 10 ((zs_s z 9 (nI x)).1 10 - 1)) 16 (nI u) (vp_nar .boolean 0)).2 k = z.2 k := fun k hk => by
      rw [zs_an hk]
      rfl
    refine ⟨h.ic (k := 16) (by omega) (by omega) hu, hp u _ hu eu ((((zJ.rf h).num (by omega)).num (by omega)).put (k := 16) (by omega) (by omega) (zb_Rt (by omega))) ⟨fun k k9 k10 => ?_, fun k _ _ k16 => rk k k16⟩ (rk 14 (by omega)) ⟨by rw [← ex]; exact hx, by omega, ?_, ?_, ?_, ?_, ?_⟩ (fun i => by rw [rk 15 (by omega), sh]) (fun y hy => by rw [r16]; exact pk_un hy) (by rw [r16, pk_us])⟩
    · show (zs_s (zs_s z 9 (nI x)) 10 ((zs_s z 9 (nI x)).1 10 - 1)).1 k = _
      rw [zs_sn k10, zs_sn k9]
    · show (zs_s (zs_s z 9 (nI x)) 10 ((zs_s z 9 (nI x)).1 10 - 1)).1 9 = _
      rw [zs_sn (by omega), zs_ss, ex]
    · show (zs_s (zs_s z 9 (nI x)) 10 ((zs_s z 9 (nI x)).1 10 - 1)).1 10 = _
      rw [zs_ss, zs_sn (by omega), e10]
      exact nI_sub (b := 1) hb0
    · intro i hi
      rw [rk 15 (by omega), r16, sh]
      obtain ⟨v, hv, ev, hwv⟩ := hin (i + 1) (by omega)
      refine ⟨v, hv, ev, ?_⟩
      have : v ≠ u := fun e => by
        have := hinj (i + 1) 0 (by omega) hb0 (by rw [ev, eu, e])
        omega
      rw [pk_un this]
      exact hwv
    · intro i j hi hj
      rw [rk 15 (by omega), sh, sh]
      intro e
      have := hinj (i + 1) (j + 1) (by omega) (by omega) e
      omega
    · intro v hv
      rw [rk 15 (by omega), r16]
      by_cases e : v = u
      · rw [e, pk_us]
        exact fun hx => absurd rfl hx
      · rw [pk_un e]
        intro hwv
        obtain ⟨i, hi, ei⟩ := hfl v hv hwv
        have i0 : i ≠ 0 := fun e0 => by
          rw [e0, eu] at ei
          exact e ((nI_eq (by omega) (by omega)).mp ei).symm
        refine ⟨i - 1, by omega, ?_⟩
        rw [sh, show i - 1 + 1 = i by omega]
        exact ei
  refine ⟨h.ic (k := 15) (by omega) (by omega) ha, ?_⟩
  rw [nI_1]
  by_cases hl : 2 * (W * H) ≤ a + 1
  · exact zp_if (nI_le hl (by omega)) (fin 0 (by rw [zb_md (by omega), if_neg (by omega)]; omega))
  · exact zp_ifn (nI_ge (by omega) (by omega)) (fin _ (by rw [zb_md (by omega), if_pos (by omega)]))
/-- no step out of u betters anything -/
def zb_rl (W H : Nat) (T : Nat → Nat → Prop) (vc : Nat) (f : Nat → Int32) (u y : Nat) : Prop := ∀ v d t, v < 2 * (W * H) → d < 5 → zg_B W H v d = nI u → T v t → t < 1000000 → (f v).toNatClampNeg ≤ y + zb_e vc d + t
/-- the tolls' row -/
def zb_tr (W H : Nat) (T : Nat → Nat → Prop) (τ : Nat → Int32) : Prop := ∀ c, c < 2 * (W * H) → ∃ t, T c t ∧ ((t = 1000000 ∧ τ c = -1) ∨ (t ≤ 10 ∧ τ c = nI t))
theorem zx_spreadFrom {T : Nat → Nat → Prop} {vc : Nat} (hTu : ∀ c t t', T c t → T c t' → t = t') (hvc : 1 ≤ vc ∧ vc ≤ 4) (h : zI W H n ln z) (hQ : zb_q W H a b z) {u x : Nat} (hu : u < 2 * (W * H)) (hτ : zb_tr W H T (z.2 13)) (evc : z.1 8 = nI vc) (hc : ∀ c, c < 2 * (W * H) → ∃ k, k ≤ 1000000 ∧ z.2 14 c = nI k) (hx : x < 1000000) (ex : z.2 14 u = nI x) {post : zS → Prop} (hp : ∀ z' b', zJ W H n ln z z' → zcq_A z z' → b ≤ b' → zb_q W H a b' z' → (∀ i, i < b → z'.2 15 ((a + i) % (2 * (W * H))) = z.2 15 ((a + i) % (2 * (W * H)))) → (∀ c, c < 2 * (W * H) → ∃ k, k ≤ 1000000 ∧ z'.2 14 c = nI k) → z'.2 14 u = nI x → (∀ v, v < 2 * (W * H) → ¬ z.2 16 v = 0 → ¬ z'.2 16 v = 0) → (∀ v, v < 2 * (W * H) → z'.2 14 v = z.2 14 v ∨ (¬ z'.2 16 v = 0 ∧ (z'.2 14 v).toNatClampNeg < (z.2 14 v).toNatClampNeg ∧ ∃ d t, d < 5 ∧ zg_B W H v d = nI u ∧ T v t ∧ t < 1000000 ∧ (z'.2 14 v).toNatClampNeg = x + zb_e vc d + t)) → zb_rl W H T vc (z'.2 14) u x → (zb_rl W H T vc (z.2 14) u x → b' = b) → (∀ v, v < 2 * (W * H) → ¬ z'.2 16 v = 0 → ¬ z.2 16 v = 0 ∨ (z'.2 14 v).toNatClampNeg < (z.2 14 v).toNatClampNeg) → post z') : zw_WayFinder_spreadFrom ln (nI u) z post := by
  have hC := h.C
  have hd5 := h.d
  refine zq_Lp_I (I := fun q => ∃ d z' b', d ≤ 5 ∧ zJ W H n ln z z' ∧ zcq_A z z' ∧ b ≤ b' ∧ zb_q W H a b' z' ∧ (∀ i, i < b → z'.2 15 ((a + i) % (2 * (W * H))) = z.2 15 ((a + i) % (2 * (W * H)))) ∧ (∀ c, c < 2 * (W * H) → ∃ k, k ≤ 1000000 ∧ z'.2 14 c = nI k) ∧ z'.2 14 u = nI x ∧ (∀ v, v < 2 * (W * H) → ¬ z.2 16 v = 0 → ¬ z'.2 16 v = 0) ∧ (∀ v, v < 2 * (W * H) → z'.2 14 v = z.2 14 v ∨ (¬ z'.2 16 v = 0 ∧ (z'.2 14 v).toNatClampNeg < (z.2 14 v).toNatClampNeg ∧ ∃ d t, d < 5 ∧ zg_B W H v d = nI u ∧ T v t ∧ t < 1000000 ∧ (z'.2 14 v).toNatClampNeg = x + zb_e vc d + t)) ∧ (∀ d' v t, d' < d → v < 2 * (W * H) → zg_B W H u d' = nI v → T v t → t < 1000000 → (z'.2 14 v).toNatClampNeg ≤ x + zb_e vc d' + t) ∧ (zb_rl W H T vc (z.2 14) u x → b' = b ∧ z'.2 14 = z.2 14) ∧ (∀ v, v < 2 * (W * H) → ¬ z'.2 16 v = 0 → ¬ z.2 16 v = 0 ∨ (z'.2 14 v).toNatClampNeg < (z.2 14 v).toNatClampNeg) ∧ q = (nI u, nI d, z')) (μ := fun q => 5 - q.2.1.toNatClampNeg) ?_ ⟨0, z, b, Nat.zero_le _, zJ.rf h, zcq_A.rf, Nat.le_refl _, hQ, fun _ _ => rfl, hc, ex, fun _ _ hx => hx, fun _ _ => Or.inl rfl, fun d' _ _ hd' => absurd hd' (Nat.not_lt_zero _), fun _ => ⟨rfl, rfl⟩, fun _ _ hx => Or.inl hx, rfl⟩
  rintro k q ⟨d, z', b', hd, hJ, hA, hbb, hQ', hold, hc', ex', hwm, hch, hrl, hnb, hwf, rfl⟩ hk
  have h' := hJ.1
  by_cases hl : 5 ≤ d
  · refine zp_if (nI_le (a := 5) hl (by omega)) (hp z' b' hJ hA hbb hQ' hold hc' ex' hwm hch (fun v dd t hv hdd eB hT htl => ?_) (fun hx => (hnb hx).1) hwf)
    have := zg_B_inv hd5.1 hd5.2.2.1 hd5.2.2.2.2 hv hu hdd eB
    have e1 := hrl _ v t (by have := zd_inv hdd; omega) hv this hT htl
    rw [zb_e_inv hdd] at e1
    exact e1
  have hl' : d < 5 := by omega
  -- one direction more, nothing changed
  have go : (∀ v t, v < 2 * (W * H) → zg_B W H u d = nI v → T v t → t < 1000000 → (z'.2 14 v).toNatClampNeg ≤ x + zb_e vc d + t) → zw_WayFinder_spreadFrom_77 ln post k (nI u) (nI d) z' := fun hx => hk _ ⟨d + 1, z', b', hl', hJ, hA, hbb, hQ', hold, hc', ex', hwm, hch, fun d' v t hd' => by
    by_cases e : d' = d
    · rw [e]
      exact hx v t
    · exact hrl d' v t (by omega), hnb, hwf, by rw [nI_1]⟩ (zm_lt hl' (by omega))
  refine zp_ifn (nI_ge (b := 5) hl' (by omega)) (zc_nx h' hu hl' (fun er => zp_if rfl (go (fun v t hv e => absurd (er.symm.trans e).symm (zp_n1 (by omega))))) (fun v hv er => zp_ifn (zp_n1 (by omega)) ⟨h'.ic (k := 13) (by omega) (by omega) hv, ?_⟩))
  have uq : ∀ v', v' < 2 * (W * H) → zg_B W H u d = nI v' → v' = v := fun v' hv' e => (nI_eq (by omega) (by omega)).mp (e.symm.trans er)
  have e13 : z'.2 13 = z.2 13 := hA.2 13 (by omega) (by omega) (by omega)
  have e8 : z'.1 8 = nI vc := (hA.1 8 (by omega) (by omega)).trans evc
  obtain ⟨t, hT, hcase⟩ := hτ v hv
  rw [h'.ci hv, e13]
  rcases hcase with ⟨et, eτ⟩ | ⟨ht, eτ⟩
  · refine zp_if eτ (go (fun v' t' hv' e hT' htl => ?_))
    rw [uq v' hv' e] at hT'
    have := hTu v t t' hT hT'
    omega
  refine zp_ifn (by rw [eτ]; exact zp_n1 (by omega)) ⟨h'.ic (k := 14) (by omega) (by omega) hu, zc_step hl' (fun r hr => ⟨h'.ic (k := 13) (by omega) (by omega) hv, h'.ic (k := 14) (by omega) (by omega) hv, ?_⟩)⟩
  have er' : r = nI (zb_e vc d) := by
    rw [hr, e8]
    unfold zb_e
    by_cases e : d = 4
    · rw [if_pos e, if_pos e]
    · rw [if_neg e, if_neg e]
      rfl
  obtain ⟨y, hy, ey⟩ := hc' v hv
  have hz : 1 ≤ zb_e vc d ∧ zb_e vc d ≤ 4 := by unfold zb_e; split <;> omega
  have cy : (z'.2 14 v).toNatClampNeg = y := by rw [ey, nI_clamp (by omega)]
  rw [h'.ci hu, e13, ex', er', eτ, ey, nI_add, nI_add]
  by_cases hle : y ≤ x + zb_e vc d + t
  · refine zp_if (nI_le hle (by omega)) (go (fun v' t' hv' e hT' htl => ?_))
    have ev := uq v' hv' e
    subst ev
    rw [cy, hTu _ _ _ hT' hT]
    exact hle
  refine zp_ifn (nI_ge (by omega) (by omega)) ⟨h'.ic (k := 14) (by omega) (by omega) hv, ?_⟩
  -- a cheaper way to v
  have hvu : v ≠ u := fun e => by
    rw [e, ex'] at ey
    have := (nI_eq (by omega) (by omega)).mp ey
    omega
  have hrev := zg_B_inv hd5.1 hd5.2.2.1 hd5.2.2.2.2 hu hv hl' er
  have nrl : ¬ zb_rl W H T vc (z.2 14) u x := fun hx => by
    have e1 := (hnb hx).2
    have e2 := hx v _ t hv (zd_inv hl') hrev hT (by omega)
    rw [← e1, cy, zb_e_inv hl'] at e2
    exact hle e2
  have hJ1 := hJ.put (k := 14) (i := nI v) (v := nI (x + zb_e vc d + t)) (by omega) (by omega) (zb_Rt (by omega))
  have r14 : (zs_a z' 14 (nI v) (nI (x + zb_e vc d + t))).2 14 = upd (z'.2 14) v (nI (x + zb_e vc d + t)) := by rw [zs_a2, if_pos rfl, h.ci hv]
  have hA1 : zcq_A z (zs_a z' 14 (nI v) (nI (x + zb_e vc d + t))) := hA.tr ⟨fun _ _ _ => rfl, fun k k14 _ _ => zs_an k14⟩
  have hQ1 : zb_q W H a b' (zs_a z' 14 (nI v) (nI (x + zb_e vc d + t))) := by
    unfold zb_q
    rw [zs_an (by omega), zs_an (by omega)]
    exact hQ'
  have ck : (nI (x + zb_e vc d + t)).toNatClampNeg = x + zb_e vc d + t := nI_clamp (by omega)
  have nxt : ∀ z2 b2, zJ W H n ln z z2 → zcq_A z z2 → b ≤ b2 → zb_q W H a b2 z2 → (∀ i, i < b → z2.2 15 ((a + i) % (2 * (W * H))) = z.2 15 ((a + i) % (2 * (W * H)))) → z2.2 14 = upd (z'.2 14) v (nI (x + zb_e vc d + t)) → (∀ w, w < 2 * (W * H) → ¬ z'.2 16 w = 0 → ¬ z2.2 16 w = 0) → ¬ z2.2 16 v = 0 → (∀ w, w ≠ v → z2.2 16 w = z'.2 16 w) → zw_WayFinder_spreadFrom_77 ln post k (nI u) (nI d) z2 := by
    intro z2 b2 hJ2 hA2 hb2 hQ2 ho2 e14 hw2 hwv hwe
    refine hk _ ⟨d + 1, z2, b2, hl', hJ2, hA2, hb2, hQ2, ho2, fun c hc2 => ?_, ?_, fun w hw hn => hw2 w hw (hwm w hw hn), fun w hw => ?_, fun d' w t' hd' hw eB hT' htl' => ?_, fun hx => absurd hx nrl, fun w hw hn => ?_, by rw [nI_1]⟩ (zm_lt hl' (by omega))
    · rw [e14]
      by_cases e : c = v
      · rw [e, pk_us]
        exact ⟨_, by omega, rfl⟩
      · rw [pk_un e]
        exact hc' c hc2
    · rw [e14, pk_un (Ne.symm hvu)]
      exact ex'
    · rw [e14]
      by_cases e : w = v
      · subst e
        rw [pk_us, ck]
        refine Or.inr ⟨hwv, ?_, _, t, zd_inv hl', hrev, hT, by omega, by rw [zb_e_inv hl']⟩
        rcases hch w hw with e1 | ⟨_, e1, _⟩
        · rw [e1] at cy
          omega
        · omega
      · rw [pk_un e]
        rcases hch w hw with e1 | ⟨e1, e2⟩
        · exact Or.inl e1
        · exact Or.inr ⟨hw2 w hw e1, e2⟩
    · rw [e14]
      by_cases e : w = v
      · subst e
        rw [pk_us, ck]
        by_cases ed : d' = d
        · subst ed
          rw [hTu _ _ _ hT' hT]
          exact Nat.le_refl _
        · have := hrl d' w t' (by omega) hw eB hT' htl'
          omega
      · rw [pk_un e]
        by_cases ed : d' = d
        · subst ed
          exact absurd (uq w hw eB) e
        · exact hrl d' w t' (by omega) hw eB hT' htl'
    · rw [e14]
      by_cases e : w = v
      · subst e
        rw [pk_us, ck]
        right
        rcases hch w hw with e1 | ⟨_, e1, _⟩
        · rw [e1] at cy
          omega
        · omega
      · rw [pk_un e]
        rw [hwe w e] at hn
        exact hwf w hw hn
  refine zx_enqueue hJ1.1 hQ1 hv (fun hw => ?_) (fun hw z2 hJ2 hA2 e14 hQ2 ho2 hwo hwv => ?_)
  · rw [zs_an (by omega)] at hw
    exact nxt _ b' hJ1 hA1 hbb hQ1 (fun i hi => by rw [zs_an (by omega)]; exact hold i hi) r14 (fun w hw' hn => by rw [zs_an (by omega)]; exact hn) (by rw [zs_an (by omega)]; exact hw) (fun w _ => by rw [zs_an (by omega)])
  · refine nxt z2 (b' + 1) (hJ1.tr hJ2) (hA1.tr hA2) (by omega) hQ2 (fun i hi => ?_) (e14.trans r14) (fun w hw' hn => ?_) hwv (fun w e => by rw [hwo w e, zs_an (by omega)])
    · rw [ho2 i (by omega), zs_an (by omega)]
      exact hold i hi
    · by_cases e : w = v
      · rw [e]
        exact hwv
      · rw [hwo w e, zs_an (by omega)]
        exact hn
theorem zb_rl_dn {T : Nat → Nat → Prop} {vc : Nat} {f f' : Nat → Int32} (hf : ∀ v, v < 2 * (W * H) → (f' v).toNatClampNeg ≤ (f v).toNatClampNeg) {u y y' : Nat} (hy : y ≤ y') (h : zb_rl W H T vc f u y) : zb_rl W H T vc f' u y' := fun v d t hv hd eB hT htl => by
  have h1 := h v d t hv hd eB hT htl
  have h2 := hf v hv
  omega
theorem zx_spread {T : Nat → Nat → Prop} {vc s0 : Nat} (hTu : ∀ c t t', T c t → T c t' → t = t') (hTv : ∀ c t, T c t → t = 0 ∨ t = 10 ∨ t = 1000000) (hvc : 1 ≤ vc ∧ vc ≤ 4) (h : zI W H n ln z) (hs0 : s0 < 2 * (W * H)) (hτ : zb_tr W H T (z.2 13)) (evc : z.1 8 = nI vc) {f : Nat → Int32} (hP : zr_P W H T vc s0 f) (hX : ∀ c, c < 2 * (W * H) → c ≠ s0 → zr_X W H T vc f c 5) {post : zS → Prop} (hp : ∀ z', zJ W H n ln z z' → zcq_A z z' → (∀ c, c < 2 * (W * H) → z'.2 14 c = f c) → post z') : zw_WayFinder_spread ln (nI s0) z post := by
  have hC := h.C
  have hd := h.d
  have hCp : 0 < 2 * (W * H) := by omega
  refine zq_Lp_I (I := fun q => ∃ d z1, d ≤ 2 * (W * H) ∧ zJ W H n ln z z1 ∧ zcq_A z z1 ∧ (∀ c, c < d → z1.2 14 c = nI 1000000 ∧ z1.2 16 c = 0) ∧ q = (nI s0, nI d, z1)) (μ := fun q => 2 * (W * H) - q.2.1.toNatClampNeg) ?_ ⟨0, z, Nat.zero_le _, zJ.rf h, zcq_A.rf, fun c hc => absurd hc (Nat.not_lt_zero _), rfl⟩
  rintro k q ⟨d, z1, hdC, hJ, hA, hin, rfl⟩ hk
  have h' := hJ.1
  by_cases hl : 2 * (W * H) ≤ d
  · have hJ1 := ((hJ.num (k := 9) (v := 0) (by omega)).num (k := 10) (v := 0) (by omega)).put (k := 14) (i := nI s0) (v := 0) (by omega) (by omega) (zb_Rt (by omega))
    have hA1 : zcq_A z (zs_a (zs_s (zs_s z1 9 0) 10 0) 14 (nI s0) 0) := hA.tr ⟨fun k k9 k10 => by
      show (zs_s (zs_s z1 9 0) 10 0).1 k = _
      rw [zs_sn k10, zs_sn k9], fun k k14 _ _ => by rw [zs_an k14]; rfl⟩
    have w0 : ∀ u, u < 2 * (W * H) → (zs_a (zs_s (zs_s z1 9 0) 10 0) 14 (nI s0) 0).2 16 u = 0 := fun u hu => by
      rw [zs_an (by omega)]
      exact (hin u (by omega)).2
    have e14 : (zs_a (zs_s (zs_s z1 9 0) 10 0) 14 (nI s0) 0).2 14 = upd (z1.2 14) s0 0 := by
      rw [zs_a2, if_pos rfl, h.ci hs0]
      rfl
    have hQ1 : zb_q W H 0 0 (zs_a (zs_s (zs_s z1 9 0) 10 0) 14 (nI s0) 0) := ⟨hCp, Nat.zero_le _, rfl, rfl, fun i hi => absurd hi (Nat.not_lt_zero _), fun i j hi => absurd hi (Nat.not_lt_zero _), fun u hu hw => absurd (w0 u hu) hw⟩
    refine zp_if (by rw [h'.s3]; exact nI_le hl (by omega)) ⟨h'.ic (k := 14) (by omega) (by omega) hs0, zx_enqueue hJ1.1 hQ1 hs0 (fun hw => absurd (w0 s0 hs0) hw) (fun _ z2 hJ2 hA2 e14' hQ2 _ hwo hws => ?_)⟩
    have hsq : 2 * (W * H) * (2 * (W * H)) ≤ 162 * 162 := Nat.mul_le_mul hC hC
    rw [hJ2.1.s3, nI_mul]
    have l14 : z2.2 14 = upd (z1.2 14) s0 0 := e14'.trans e14
    have ls0 : z2.2 14 s0 = 0 := by rw [l14, pk_us]
    have lfar : ∀ c, c < 2 * (W * H) → c ≠ s0 → z2.2 14 c = nI 1000000 := fun c hc e => by
      rw [l14, pk_un e]
      exact (hin c (by omega)).1
    have cfar : (nI 1000000).toNatClampNeg = 1000000 := nI_clamp (by omega)
    have q0 : z2.2 15 ((0 + 0) % (2 * (W * H))) = nI s0 := by
      obtain ⟨_, _, _, _, _, _, hfl⟩ := hQ2
      obtain ⟨i, hi, ei⟩ := hfl s0 hs0 hws
      have : i = 0 := by omega
      rw [this] at ei
      exact ei
    refine zq_Lp_I (I := fun q => ∃ t k r a b z', zJ W H n ln z z' ∧ zcq_A z z' ∧ zb_q W H a b z' ∧ r ≤ b ∧ k < 2 * (W * H) ∧ t + r ≤ (k + 1) * (2 * (W * H)) ∧ (∀ c, c < 2 * (W * H) → ∃ k, k ≤ 1000000 ∧ z'.2 14 c = nI k) ∧ z'.2 14 s0 = 0 ∧ (∀ c, c < 2 * (W * H) → (z'.2 14 c).toNatClampNeg < 1000000 → ∃ k', zr_D W H T vc s0 k' c (z'.2 14 c).toNatClampNeg) ∧ (∀ v x, v < 2 * (W * H) → zr_D W H T vc s0 k v x → (z'.2 14 v).toNatClampNeg ≤ x) ∧ (∀ u y, u < 2 * (W * H) → zr_D W H T vc s0 k u y → (∃ i, i < r ∧ z'.2 15 ((a + i) % (2 * (W * H))) = nI u) ∨ zb_rl W H T vc (z'.2 14) u y) ∧ (∀ u, u < 2 * (W * H) → (z'.2 14 u).toNatClampNeg < 1000000 → ¬ z'.2 16 u = 0 ∨ zb_rl W H T vc (z'.2 14) u (z'.2 14 u).toNatClampNeg) ∧ (∀ u, u < 2 * (W * H) → ¬ z'.2 16 u = 0 → (z'.2 14 u).toNatClampNeg < 1000000) ∧ (k = 2 * (W * H) - 1 → b = r) ∧ q = (nI (2 * (W * H) * (2 * (W * H))), nI t, z')) (μ := fun q => 2 * (W * H) * (2 * (W * H)) - q.2.1.toNatClampNeg) ?_ ⟨0, 0, 1, 0, 1, z2, hJ1.tr hJ2, hA1.tr hA2, hQ2, Nat.le_refl _, hCp, by omega, fun c hc => ?_, ls0, fun c hc hlt => ?_, fun v x hv => ?_, fun u y hu => ?_, fun u hu hlt => ?_, fun u hu hw => ?_, fun _ => rfl, rfl⟩
    · rintro k3 q3 ⟨t, k, r, a, b, z3, hJ3, hA3, hQ3, hrb, hkC, htr, hc3, h03, hs3, hP3, hR3, hB3, hW3, hZ3, rfl⟩ hk3
      obtain ⟨haC, hbC, e9, e10, hqin, hqinj, hqfl⟩ := id hQ3
      -- the end: nothing waits
      have fin : b = 0 → post z3 := fun hb => by
        refine hp z3 hJ3 hA3 (zr_uq hvc.1 hP hX hc3 h03 hs3 (fun u hu hlt v d t hv hd eB hT htl => ?_))
        rcases hB3 u hu hlt with hw | hr
        · obtain ⟨i, hi, _⟩ := hqfl u hu hw
          omega
        · exact hr v d t hv hd eB hT htl
      have hk1C : (k + 1) * (2 * (W * H)) ≤ 2 * (W * H) * (2 * (W * H)) := Nat.mul_le_mul_right _ hkC
      by_cases hlt : 2 * (W * H) * (2 * (W * H)) ≤ t
      · refine zp_if (nI_le hlt (by omega)) (fin ?_)
        by_cases ek : k = 2 * (W * H) - 1
        · have := hZ3 ek
          omega
        · have h1 : (k + 1 + 1) * (2 * (W * H)) ≤ 2 * (W * H) * (2 * (W * H)) := Nat.mul_le_mul_right _ (by omega)
          rw [Nat.succ_mul] at h1
          omega
      refine zp_ifn (nI_ge (by omega) (by omega)) ?_
      by_cases hb0 : b = 0
      · exact zp_if (by rw [e10, hb0]; decide) (fin hb0)
      refine zp_ifn (by rw [e10]; exact nI_nle (by omega) (by omega)) ?_
      -- the phase that the next cell belongs to
      have ph : ∃ k1 r1, 0 < r1 ∧ r1 ≤ b ∧ k1 < 2 * (W * H) ∧ t + r1 ≤ (k1 + 1) * (2 * (W * H)) ∧ (∀ v x, v < 2 * (W * H) → zr_D W H T vc s0 k1 v x → (z3.2 14 v).toNatClampNeg ≤ x) ∧ (∀ u y, u < 2 * (W * H) → zr_D W H T vc s0 k1 u y → (∃ i, i < r1 ∧ z3.2 15 ((a + i) % (2 * (W * H))) = nI u) ∨ zb_rl W H T vc (z3.2 14) u y) ∧ (k1 = 2 * (W * H) - 1 → b = r1) := by
        by_cases hr0 : r = 0
        · have hkne : k ≠ 2 * (W * H) - 1 := fun ek => by
            have := hZ3 ek
            omega
          have hP4 : ∀ v x, v < 2 * (W * H) → zr_D W H T vc s0 (k + 1) v x → (z3.2 14 v).toNatClampNeg ≤ x := by
            rintro v x hv (hD | ⟨u, y, d, t', hu, hD, hd, eB, hT, htl, rfl⟩)
            · exact hP3 v x hv hD
            · rcases hR3 u y hu hD with ⟨i, hi, _⟩ | hr
              · omega
              · exact hr v d t' hv hd eB hT htl
          refine ⟨k + 1, b, by omega, Nat.le_refl _, by omega, by rw [Nat.succ_mul]; omega, hP4, fun u y hu hD => ?_, fun _ => rfl⟩
          by_cases hw : z3.2 16 u = 0
          · right
            have h1 := hP4 u y hu hD
            have h2 := zr_D_le hTv hvc hD
            rcases hB3 u hu (by omega) with hx | hx
            · exact absurd hw hx
            · exact zb_rl_dn (fun _ _ => Nat.le_refl _) h1 hx
          · exact Or.inl (hqfl u hu hw)
        · exact ⟨k, r, by omega, hrb, hkC, htr, hP3, hR3, hZ3⟩
      obtain ⟨k1, r1, hr1, hr1b, hk1, htr1, hP4, hR4, hZ4⟩ := ph
      refine zx_dequeue hJ3.1 hQ3 (by omega) (fun u z4 hu eu hJ4 hA4 e144 hQ4 hsh hwo hwu => ?_)
      obtain ⟨uu, huu, euu, hwuu⟩ := hqin 0 (by omega)
      have euq : uu = u := (nI_eq (by omega) (by omega)).mp (euu.symm.trans eu)
      subst euq
      obtain ⟨x, hx, ex⟩ := hc3 uu hu
      have cx : (z3.2 14 uu).toNatClampNeg = x := by rw [ex, nI_clamp (by omega)]
      have hxl : x < 1000000 := by have := hW3 uu hu hwuu; omega
      have hA4' := hA3.tr hA4
      have hJ4' := hJ3.tr hJ4
      refine zx_spreadFrom hTu hvc hJ4.1 hQ4 (x := x) hu (by rw [hA4'.2 13 (by omega) (by omega) (by omega)]; exact hτ) (by rw [hA4'.1 8 (by omega) (by omega)]; exact evc) (by rw [e144]; exact hc3) hxl (by rw [e144]; exact ex) (fun z5 b5 hJ5 hA5 hb5 hQ5 ho5 hc5 ex5 hwm5 hch5 hrl5 hnb5 hwf5 => ?_)
      rw [e144] at hch5 hnb5 hwf5
      have dn : ∀ v, v < 2 * (W * H) → (z5.2 14 v).toNatClampNeg ≤ (z3.2 14 v).toNatClampNeg := fun v hv => by
        rcases hch5 v hv with e | ⟨_, e, _⟩
        · rw [e]
          exact Nat.le_refl _
        · omega
      have hDu : ∃ k', zr_D W H T vc s0 k' uu x := by
        obtain ⟨k', hk'⟩ := hs3 uu hu (by omega)
        rw [cx] at hk'
        exact ⟨k', hk'⟩
      refine hk3 _ ⟨t + 1, k1, r1 - 1, (a + 1) % (2 * (W * H)), b5, z5, hJ4'.tr hJ5, hA4'.tr hA5, hQ5, by omega, hk1, by omega, hc5, ?_, fun c hc hlt => ?_, fun v y hv hD => Nat.le_trans (dn v hv) (hP4 v y hv hD), fun u' y hu' hD => ?_, fun u' hu' hlt => ?_, fun u' hu' hw => ?_, fun ek => ?_, by rw [nI_1]⟩ (zm_lt (by omega) (by omega))
      · rcases hch5 s0 hs0 with e | ⟨_, e, _⟩
        · rw [e]
          exact h03
        · rw [h03] at e
          exact absurd e (Nat.not_lt_zero _)
      · rcases hch5 c hc with e | ⟨_, _, d, t', hd, eB, hT, htl, e⟩
        · rw [e] at hlt ⊢
          exact hs3 c hc hlt
        · obtain ⟨k', hk'⟩ := hDu
          exact ⟨k' + 1, Or.inr ⟨uu, x, d, t', hu, hk', hd, eB, hT, htl, e⟩⟩
      · rcases hR4 u' y hu' hD with ⟨i, hi, ei⟩ | hr
        · by_cases i0 : i = 0
          · right
            rw [i0, eu] at ei
            have : uu = u' := (nI_eq (by omega) (by omega)).mp ei
            subst this
            have h1 := hP4 uu y hu hD
            rw [cx] at h1
            exact zb_rl_dn (fun _ _ => Nat.le_refl _) h1 hrl5
          · left
            refine ⟨i - 1, by omega, ?_⟩
            rw [ho5 (i - 1) (by omega), hsh, show i - 1 + 1 = i by omega]
            exact ei
        · exact Or.inr (zb_rl_dn dn (Nat.le_refl _) hr)
      · rcases hch5 u' hu' with e | ⟨e, _⟩
        · by_cases euu' : u' = uu
          · right
            rw [euu', ex5, nI_clamp (by omega)]
            exact hrl5
          · rw [e] at hlt ⊢
            rcases hB3 u' hu' hlt with hw | hr
            · left
              refine hwm5 u' hu' ?_
              rw [hwo u' euu']
              exact hw
            · exact Or.inr (zb_rl_dn dn (Nat.le_refl _) hr)
        · exact Or.inl e
      · rcases hwf5 u' hu' hw with hw4 | hlt
        · have hne : u' ≠ uu := fun e => by
            rw [e] at hw4
            exact hw4 hwu
          rw [hwo u' hne] at hw4
          have := hW3 u' hu' hw4
          have := dn u' hu'
          omega
        · obtain ⟨y, hy, ey⟩ := hc3 u' hu'
          have : (z3.2 14 u').toNatClampNeg = y := by rw [ey, nI_clamp (by omega)]
          omega
      · have hb1 := hZ4 ek
        have : b5 = b - 1 := hnb5 (fun v d t' hv hd eB hT htl => by
          have hDv : ∃ k', zr_D W H T vc s0 k' v (x + zb_e vc d + t') := by
            obtain ⟨k', hk'⟩ := hDu
            exact ⟨k' + 1, Or.inr ⟨uu, x, d, t', hu, hk', hd, eB, hT, htl, rfl⟩⟩
          obtain ⟨k', hk'⟩ := hDv
          have f1 := zr_D_lo hP hX hv hk'
          have fu : (f uu).toNatClampNeg ≤ x := by
            obtain ⟨k2, hk2⟩ := hDu
            exact zr_D_lo hP hX hu hk2
          have hDf := zr_D_hi hvc.1 hP hX hu (by omega)
          have x1 := hP4 uu _ hu (by rw [ek]; exact hDf)
          have x2 := zr_D_le hTv hvc hDf
          have he : zb_e vc d ≤ 4 := by unfold zb_e; split <;> omega
          have ht10 := hTv v t' hT
          have hDfv := zr_D_hi hvc.1 hP hX hv (by omega)
          have x3 := hP4 v _ hv (by rw [ek]; exact hDfv)
          omega)
        omega
    · by_cases e : c = s0
      · rw [e, ls0]
        exact ⟨0, by omega, rfl⟩
      · rw [lfar c hc e]
        exact ⟨1000000, by omega, rfl⟩
    · by_cases e : c = s0
      · refine ⟨0, e, ?_⟩
        rw [e, ls0]
        rfl
      · rw [lfar c hc e, cfar] at hlt
        omega
    · rintro ⟨rfl, rfl⟩
      rw [ls0]
      exact Nat.le_refl _
    · rintro ⟨rfl, rfl⟩
      exact Or.inl ⟨0, by omega, q0⟩
    · by_cases e : u = s0
      · rw [e]
        exact Or.inl hws
      · rw [lfar u hu e, cfar] at hlt
        omega
    · by_cases e : u = s0
      · rw [e, ls0]
        decide
      · rw [hwo u e] at hw
        exact absurd (w0 u hu) hw
  · have hl' : d < 2 * (W * H) := by omega
    refine zp_ifn (by rw [h'.s3]; exact nI_ge hl' (by omega)) ⟨h'.ic (k := 14) (by omega) (by omega) hl', h'.ic (k := 16) (by omega) (by omega) hl', hk _ ⟨d + 1, zs_a (zs_a z1 14 (nI d) 1000000) 16 (nI d) (vp_nar .boolean 0), hl', (hJ.put (k := 14) (by omega) (by omega) (zb_Rt (by omega))).put (k := 16) (by omega) (by omega) (zb_Rt (by omega)), hA.tr ⟨fun _ _ _ => rfl, fun k k14 _ k16 => by rw [zs_an k16, zs_an k14]⟩, fun c hc => ?_, by rw [nI_1]⟩ (zm_lt hl' (by omega))⟩
    have y14 : (zs_a (zs_a z1 14 (nI d) 1000000) 16 (nI d) (vp_nar .boolean 0)).2 14 = upd (z1.2 14) d (nI 1000000) := by
      rw [zs_an (by omega), zs_a2, if_pos rfl, h.ci hl']
      rfl
    have y16 : (zs_a (zs_a z1 14 (nI d) 1000000) 16 (nI d) (vp_nar .boolean 0)).2 16 = upd (z1.2 16) d 0 := by
      rw [zs_a2, if_pos rfl, zs_an (by omega), h.ci hl']
      rfl
    rw [y14, y16]
    by_cases e : c = d
    · rw [e, pk_us, pk_us]
      exact ⟨rfl, rfl⟩
    · rw [pk_un e, pk_un e]
      exact hin c (by omega)
end ZZ
