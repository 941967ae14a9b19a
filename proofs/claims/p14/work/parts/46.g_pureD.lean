/-! the system's writers: each comes to its end and keeps the invariant -/
theorem zb_R6n {W H n : Nat} : zb_R W H n 6 (-1) := by
  unfold zb_R
  rw [if_neg (by omega), if_pos (by omega)]
  exact Or.inl rfl
theorem zb_R6 {W H n m : Nat} (hm : m < n) : zb_R W H n 6 (nI m) := by
  unfold zb_R
  rw [if_neg (by omega), if_pos (by omega)]
  exact Or.inr ⟨m, hm, rfl⟩
theorem zb_Rb {W H n k : Nat} (hk : k = 7 ∨ k = 8 ∨ k = 11) {v : Int32} : zb_R W H n k (vp_nar .boolean v) := by
  unfold zb_R
  rw [if_neg (by omega), if_neg (by omega), if_pos hk]
  exact zb_nar v
theorem zb_Rt {W H n k : Nat} (hk : k = 9 ∨ k = 13 ∨ k = 14 ∨ k = 16) {v : Int32} : zb_R W H n k v := by
  unfold zb_R
  rw [if_neg (by omega), if_neg (by omega), if_neg (by omega)]
  trivial
theorem zb_Rc {W H n k : Nat} (hk : k = 10 ∨ k = 12 ∨ k = 15) {c : Nat} (hc : c < 2 * (W * H)) : zb_R W H n k (nI c) := by
  unfold zb_R
  rw [if_pos (by omega)]
  exact ⟨c, hc, rfl⟩
/-- how many elements are not 0 -/
def zb_ct (f : Nat → Int32) : Nat → Nat
  | 0 => 0
  | N + 1 => zb_ct f N + if f N = 0 then 0 else 1
theorem zb_ct_le (f : Nat → Int32) : ∀ N, zb_ct f N ≤ N
  | 0 => Nat.le_refl 0
  | N + 1 => by
    have := zb_ct_le f N
    show zb_ct f N + (if f N = 0 then 0 else 1) ≤ N + 1
    split <;> omega
theorem zb_ct_cg {f g : Nat → Int32} : ∀ {N : Nat}, (∀ i, i < N → f i = g i) → zb_ct f N = zb_ct g N
  | 0, _ => rfl
  | N + 1, h => by
    show zb_ct f N + (if f N = 0 then 0 else 1) = zb_ct g N + (if g N = 0 then 0 else 1)
    rw [zb_ct_cg (fun i hi => h i (by omega)), h N (by omega)]
theorem zb_ct_up {f : Nat → Int32} {i : Nat} {v : Int32} : ∀ {N : Nat}, i < N → zb_ct (upd f i v) N + (if f i = 0 then 0 else 1) = zb_ct f N + (if v = 0 then 0 else 1)
  | 0, h => absurd h (Nat.not_lt_zero _)
  | N + 1, h => by
    show zb_ct (upd f i v) N + (if upd f i v N = 0 then 0 else 1) + _ = zb_ct f N + (if f N = 0 then 0 else 1) + _
    by_cases e : i = N
    · subst e
      rw [pk_us, zb_ct_cg (f := upd f i v) (g := f) (fun j hj => pk_un (by omega))]
      omega
    · rw [pk_un (by omega)]
      have := zb_ct_up (f := f) (i := i) (v := v) (N := N) (by omega)
      omega
/-- pigeons -/
theorem zb_pg : ∀ (n m : Nat) (f : Nat → Nat), (∀ i, i < m → f i < n) → (∀ i j, i < m → j < m → f i = f j → i = j) → m ≤ n
  | 0, m, f, h, _ => by
    rcases Nat.eq_zero_or_pos m with h0 | h0
    · omega
    · exact absurd (h 0 h0) (Nat.not_lt_zero _)
  | n + 1, m, f, h, hi => by
    by_cases hx : ∃ i, i < m ∧ f i = n
    · obtain ⟨i0, hi0, e0⟩ := hx
      have := zb_pg n (m - 1) (fun i => if i = i0 then f (m - 1) else f i) (fun i hlt => by
        show (if i = i0 then f (m - 1) else f i) < n
        split
        · rename_i e
          have h1 := h (m - 1) (by omega)
          have h2 : f (m - 1) ≠ n := fun e' => by
            have := hi (m - 1) i0 (by omega) hi0 (by omega)
            omega
          omega
        · rename_i e
          have h1 := h i (by omega)
          have h2 : f i ≠ n := fun e' => e (hi i i0 (by omega) hi0 (by omega))
          omega) (fun i j h1 h2 h3 => by
        have h3' : (if i = i0 then f (m - 1) else f i) = (if j = i0 then f (m - 1) else f j) := h3
        split at h3'
        · split at h3'
          · omega
          · have := hi (m - 1) j (by omega) (by omega) h3'
            omega
        · split at h3'
          · have := hi i (m - 1) (by omega) (by omega) h3'
            omega
          · exact hi i j (by omega) (by omega) h3')
      omega
    · have := zb_pg n m f (fun i hlt => by
        have h1 := h i hlt
        have h2 : f i ≠ n := fun e => hx ⟨i, hlt, e⟩
        omega) hi
      omega
section ZD
variable {W H n : Nat} {ln : Nat → Nat} {z z0 : zS}
theorem zc_barred (h : zI W H n ln z) {c : Nat} (hc : c < 2 * (W * H)) {m : Int32} {post : Int32 → zS → Prop} (h1 : (¬ z.2 8 c = 0 ∨ zb_K W H (z.1 5) (z.2 5) c m) → post 1 z) (h0 : z.2 8 c = 0 → ¬ zb_K W H (z.1 5) (z.2 5) c m → post 0 z) : zw_Rules_isBarred ln (nI c) m z post := by
  refine ⟨h.ic (k := 8) (by omega) (by omega) hc, ?_⟩
  rw [h.ci hc]
  by_cases e : z.2 8 c = 0
  · refine zp_fi e (zc_close5 h hc (fun r hr hK => ?_))
    by_cases e1 : r = 0
    · exact zp_if e1 ⟨zp_b0, h0 e (fun hk => hK.mpr hk e1)⟩
    · exact zp_ifn e1 ⟨zp_b1, h1 (Or.inr (hK.mp e1))⟩
  · exact zp_fin e ⟨zp_b1, h1 (Or.inl e)⟩
theorem zc_taken (h : zI W H n ln z) {c : Nat} (hc : c < 2 * (W * H)) {m : Int32} {post : Int32 → zS → Prop} (h1 : zb_K W H (z.1 5) (z.2 6) c m → post 1 z) (h0 : ¬ zb_K W H (z.1 5) (z.2 6) c m → post 0 z) : zw_Rules_isTaken ln (nI c) m z post := by
  refine zc_close6 h hc (fun r hr hK => ?_)
  rcases hr with rfl | rfl
  · exact ⟨zp_b0, h0 (fun hk => hK.mpr hk rfl)⟩
  · exact ⟨zp_b1, h1 (hK.mp (by decide))⟩
/-- a cell's toll: net m, free (route) or pushing -/
def zb_t (W H : Nat) (z : zS) (m : Int32) (p : Prop) [Decidable p] (c : Nat) (r : Int32) : Prop :=
  if p then ((¬ z.2 5 c = m ∧ (¬ z.2 8 c = 0 ∨ zb_K W H (z.1 5) (z.2 5) c m)) ∧ r = -1) ∨ (¬ (¬ z.2 5 c = m ∧ (¬ z.2 8 c = 0 ∨ zb_K W H (z.1 5) (z.2 5) c m)) ∧ ((zb_K W H (z.1 5) (z.2 6) c m ∧ r = 10) ∨ (¬ zb_K W H (z.1 5) (z.2 6) c m ∧ r = 0)))
  else ((¬ z.2 5 c = m ∧ (¬ z.2 8 c = 0 ∨ zb_K W H (z.1 5) (z.2 5) c m ∨ zb_K W H (z.1 5) (z.2 6) c m)) ∧ r = -1) ∨ (¬ (¬ z.2 5 c = m ∧ (¬ z.2 8 c = 0 ∨ zb_K W H (z.1 5) (z.2 5) c m ∨ zb_K W H (z.1 5) (z.2 6) c m)) ∧ r = 0)
theorem zc_free (h : zI W H n ln z) {c : Nat} (hc : c < 2 * (W * H)) {m : Int32} {post : Int32 → zS → Prop} (hp : ∀ r, zb_t W H z m False c r → post r z) : zw_WayFinder_freeToll ln (nI c) m z post := by
  have hp' : ∀ r, _ → post r z := hp
  simp only [zb_t, if_false] at hp'
  refine ⟨h.ic (k := 5) (by omega) (by omega) hc, ?_⟩
  rw [h.ci hc]
  by_cases e : z.2 5 c = m
  · exact zp_fi e (hp' 0 (Or.inr ⟨fun hn => hn.1 e, rfl⟩))
  · refine zp_fin e (zc_barred h hc (fun hb => ?_) (fun hb hk => ?_))
    · exact zp_fin (by decide) (hp' (-1) (Or.inl ⟨⟨e, hb.elim Or.inl (fun hk => Or.inr (Or.inl hk))⟩, rfl⟩))
    · refine zp_fi rfl (zc_taken h hc (fun ht => ?_) (fun ht => ?_))
      · exact zp_ifn (by decide) (hp' (-1) (Or.inl ⟨⟨e, Or.inr (Or.inr ht)⟩, rfl⟩))
      · exact zp_if rfl (hp' 0 (Or.inr ⟨fun hn => hn.2.elim (fun x => x hb) (fun x => x.elim hk ht), rfl⟩))
theorem zc_push (h : zI W H n ln z) {c : Nat} (hc : c < 2 * (W * H)) {m : Int32} {post : Int32 → zS → Prop} (hp : ∀ r, zb_t W H z m True c r → post r z) : zw_WayFinder_pushToll ln (nI c) m z post := by
  have hp' : ∀ r, _ → post r z := hp
  simp only [zb_t, if_true] at hp'
  have tk : ¬ (¬ z.2 5 c = m ∧ (¬ z.2 8 c = 0 ∨ zb_K W H (z.1 5) (z.2 5) c m)) → zw_WayFinder_pushToll_27 ln post (nI c) m z := fun hn => zc_taken h hc (fun ht => zp_ifn (by decide) (hp' 10 (Or.inr ⟨hn, Or.inl ⟨ht, rfl⟩⟩))) (fun ht => zp_if rfl (hp' 0 (Or.inr ⟨hn, Or.inr ⟨ht, rfl⟩⟩)))
  refine ⟨h.ic (k := 5) (by omega) (by omega) hc, ?_⟩
  rw [h.ci hc]
  by_cases e : z.2 5 c = m
  · exact zp_if e (tk (fun hn => hn.1 e))
  · refine zp_ifn e (zc_barred h hc (fun hb => ?_) (fun hb hk => ?_))
    · exact zp_ifn (by decide) (hp' (-1) (Or.inl ⟨⟨e, hb⟩, rfl⟩))
    · exact zp_if rfl (tk (fun hn => hn.2.elim (fun x => x hb) hk))
theorem zc_clear (h : zI W H n ln z) {m : Int32} {post : zS → Prop} (hp : ∀ z', zJ W H n ln z z' → post z') : zw_Layout_clear ln m z post := by
  have hC := h.C
  refine zq_Lp_I (I := fun q => ∃ c z', c ≤ 2 * (W * H) ∧ zJ W H n ln z z' ∧ q = (m, nI c, z')) (μ := fun q => 2 * (W * H) - q.2.1.toNatClampNeg) ?_ ⟨0, z, Nat.zero_le _, zJ.rf h, rfl⟩
  rintro k q ⟨c, z', hc, hJ, rfl⟩ hk
  have h' := hJ.1
  have go : c < 2 * (W * H) → ∀ z'', zJ W H n ln z z'' → zw_Layout_clear_44 ln post k m (nI c) z'' := fun hl z'' hJ' => hk _ ⟨c + 1, z'', hl, hJ', by rw [nI_1]⟩ (zm_lt hl (by omega))
  by_cases hl : 2 * (W * H) ≤ c
  · exact zp_if (by rw [h'.s3]; exact nI_le hl (by omega)) (hp z' hJ)
  have hl' : c < 2 * (W * H) := by omega
  refine zp_ifn (by rw [h'.s3]; exact nI_ge hl' (by omega)) ⟨h'.ic (k := 6) (by omega) (by omega) hl', ?_⟩
  by_cases e : z'.2 6 (nI c).toNatClampNeg = m
  · have hJ1 := hJ.put (k := 6) (i := nI c) (v := -1) (by omega) (by omega) zb_R6n
    refine zp_fi e ⟨h'.ic (k := 6) (by omega) (by omega) hl', zc_placeOf hJ1.1 hl' (fun p hp1 _ => ⟨hJ1.1.i7 hp1, go hl' _ (hJ1.put (k := 7) (by omega) (by omega) (zb_Rb (by omega)))⟩)⟩
  · exact zp_fin e (go hl' _ hJ)
theorem zc_restore (h : zI W H n ln z) {m : Nat} (hm : m < n) {post : zS → Prop} (hp : ∀ z', zJ W H n ln z z' → post z') : zw_Layout_restorePins ln (nI m) z post := by
  have h6 := h.n6
  obtain ⟨c1, k1, e1⟩ := h.pin (k := 3) (m := m) (by omega) (by omega)
  obtain ⟨c2, k2, e2⟩ := h.pin (k := 4) (m := m) (by omega) (by omega)
  unfold zw_Layout_restorePins
  rw [e1]
  have e3 : (zs_a z 6 (nI c1) (nI m)).2 4 = z.2 4 := zs_an (by omega)
  rw [e3, e2]
  exact ⟨h.i6 (by omega) (by omega), h.ic (k := 6) (by omega) (by omega) k1, h.i6 (by omega) (by omega), h.ic (k := 6) (by omega) (by omega) k2, hp _ (((zJ.rf h).put (by omega) (by omega) (zb_R6 hm)).put (by omega) (by omega) (zb_R6 hm))⟩
theorem zc_strip (h : zI W H n ln z) {m : Nat} (hm : m < n) {post : zS → Prop} (hp : ∀ z', zJ W H n ln z z' → post z') : zw_Layout_strip ln (nI m) z post :=
  zc_clear h (fun _ hJ => zc_restore hJ.1 hm (fun _ hJ' => hp _ (hJ.tr hJ')))
theorem zc_layWay (h : zI W H n ln z) {m : Nat} (hm : m < n) {post : zS → Prop} (hp : ∀ z', zJ W H n ln z z' → post z') : zw_Router_layWay ln (nI m) z post := by
  have hC := h.C
  refine zq_Lp_I (I := fun q => ∃ c z', c ≤ 2 * (W * H) ∧ zJ W H n ln z z' ∧ q = (nI m, nI c, z')) (μ := fun q => 2 * (W * H) - q.2.1.toNatClampNeg) ?_ ⟨0, z, Nat.zero_le _, zJ.rf h, rfl⟩
  rintro k q ⟨c, z', hc, hJ, rfl⟩ hk
  have h' := hJ.1
  have go : c < 2 * (W * H) → ∀ z'', zJ W H n ln z z'' → zw_Router_layWay_77 ln post k (nI m) (nI c) z'' := fun hl z'' hJ' => hk _ ⟨c + 1, z'', hl, hJ', by rw [nI_1]⟩ (zm_lt hl (by omega))
  obtain ⟨s, hs, es⟩ := h'.s7
  by_cases hl : s ≤ c
  · exact zp_if (by rw [es]; exact nI_le hl (by omega)) (hp z' hJ)
  have hl' : c < 2 * (W * H) := by omega
  obtain ⟨d, hd, ed⟩ := h'.cell (k := 12) (by omega) hl'
  have hJ1 := hJ.put (k := 6) (i := nI d) (v := nI m) (by omega) (by omega) (zb_R6 hm)
  refine zp_ifn (by rw [es]; exact nI_ge (by omega) (by omega)) ⟨h'.ic (k := 12) (by omega) (by omega) hl', by rw [ed]; exact h'.ic (k := 6) (by omega) (by omega) hd, ?_⟩
  rw [ed]
  by_cases h0 : c = 0
  · subst h0
    exact zp_if (by decide) (go hl' _ hJ1)
  · refine zp_ifn (nI_nle (by omega) (by omega)) (zc_next hJ1.1 hd (d := 4) (by omega) ?_)
    have e1 : nI c - (1 : Int32) = nI (c - 1) := nI_sub (b := 1) (by omega)
    rw [e1]
    refine ⟨h'.ic (k := 12) (by omega) (by omega) (by omega), ?_⟩
    by_cases e : zg_B W H d 4 = (zs_a z' 6 (nI d) (nI m)).2 12 (nI (c - 1)).toNatClampNeg
    · exact zp_fi e (zc_placeOf hJ1.1 hd (fun p hp1 _ => ⟨hJ1.1.i7 hp1, go hl' _ (hJ1.put (k := 7) (by omega) (by omega) (zb_Rb (by omega)))⟩))
    · exact zp_fin e (go hl' _ hJ1)
/-- the row of waiting cells: how many wait, and where its head is -/
def zb_Q (W H : Nat) (z : zS) : Prop := ∃ a b, a < 2 * (W * H) ∧ b ≤ zb_ct (z.2 16) (2 * (W * H)) ∧ z.1 9 = nI a ∧ z.1 10 = nI b
theorem zc_enqueue (h : zI W H n ln z) (hQ : zb_Q W H z) {c : Nat} (hc : c < 2 * (W * H)) {post : zS → Prop} (hp : ∀ z', zJ W H n ln z z' → zb_Q W H z' → post z') : zw_WayFinder_enqueue ln (nI c) z post := by
  have hC := h.C
  refine ⟨h.ic (k := 16) (by omega) (by omega) hc, ?_⟩
  by_cases e : z.2 16 (nI c).toNatClampNeg = 0
  · obtain ⟨a, b, ha, hb, e9, e10⟩ := hQ
    have hle := zb_ct_le (z.2 16) (2 * (W * H))
    have hJ1 := (zJ.rf h).put (k := 16) (i := nI c) (v := vp_nar .boolean 1) (by omega) (by omega) (zb_Rt (by omega))
    have n9 : (zs_a z 16 (nI c) (vp_nar .boolean 1)).1 9 = nI a := e9
    have n10 : (zs_a z 16 (nI c) (vp_nar .boolean 1)).1 10 = nI b := e10
    have n3 : (zs_a z 16 (nI c) (vp_nar .boolean 1)).1 3 = nI (2 * (W * H)) := h.s3
    have c1 : b + 1 ≤ zb_ct (upd (z.2 16) c (vp_nar .boolean 1)) (2 * (W * H)) := by
      have := zb_ct_up (f := z.2 16) (i := c) (v := vp_nar .boolean 1) hc
      rw [h.ci hc] at e
      rw [if_pos e, if_neg (by decide)] at this
      omega
    have fin : ∀ i, i < 2 * (W * H) → zw_WayFinder_enqueue_54 ln post (nI c) (nI i) (zs_a z 16 (nI c) (vp_nar .boolean 1)) := fun i hi => by
      refine ⟨h.ic (k := 15) (by omega) (by omega) hi, ?_⟩
      refine hp _ ((hJ1.put (k := 15) (by omega) (by omega) (zb_Rc (by omega) hc)).num (by omega)) ⟨a, b + 1, ha, ?_, ?_, ?_⟩
      · show b + 1 ≤ zb_ct ((zs_a (zs_a z 16 (nI c) (vp_nar .boolean 1)) 15 (nI i) (nI c)).2 16) _
        rw [zs_an (by omega), zs_a2, if_pos rfl, h.ci hc]
        exact c1
      · rw [zs_sn (by omega)]
        exact e9
      · rw [zs_ss]
        show z.1 10 + 1 = _
        rw [e10, nI_1]
    refine zp_fi e ⟨h.ic (k := 16) (by omega) (by omega) hc, ?_⟩
    rw [n9, n10, n3, nI_add]
    by_cases hl : 2 * (W * H) ≤ a + b
    · refine zp_if (nI_le hl (by omega)) ?_
      rw [nI_sub hl]
      exact fin _ (by omega)
    · exact zp_ifn (nI_ge (by omega) (by omega)) (fin _ (by omega))
  · exact zp_fin e (hp z (zJ.rf h) hQ)
theorem zc_dequeue (h : zI W H n ln z) (hQ : zb_Q W H z) (h10 : ¬ z.1 10 ≤ 0) {post : Int32 → zS → Prop} (hp : ∀ c z', c < 2 * (W * H) → zJ W H n ln z z' → zb_Q W H z' → post (nI c) z') : zw_WayFinder_dequeue ln z post := by
  have hC := h.C
  obtain ⟨a, b, ha, hb, e9, e10⟩ := hQ
  have hle := zb_ct_le (z.2 16) (2 * (W * H))
  obtain ⟨c, hc, ec⟩ := h.cell (k := 15) (by omega) ha
  have hb0 : 0 < b := by
    rcases Nat.eq_zero_or_pos b with h0 | h0
    · subst h0
      rw [e10] at h10
      exact absurd (by decide) h10
    · exact h0
  unfold zw_WayFinder_dequeue
  rw [e9, ec, h.s3]
  have fin : ∀ i, i < 2 * (W * H) → zw_WayFinder_dequeue_37 ln post (nI c) (nI i) z := fun i hi => by
    refine ⟨h.ic (k := 16) (by omega) (by omega) hc, hp c _ hc ((((zJ.rf h).num (by omega)).num (by omega)).put (k := 16) (by omega) (by omega) (zb_Rt (by omega))) ⟨i, b - 1, hi, ?_, ?_, ?_⟩⟩
    · rw [zs_a2, if_pos rfl, h.ci hc]
      have := zb_ct_up (f := z.2 16) (i := c) (v := vp_nar .boolean 0) hc
      rw [if_pos (show vp_nar .boolean 0 = 0 from rfl)] at this
      show b - 1 ≤ zb_ct (upd (z.2 16) c (vp_nar .boolean 0)) _
      split at this <;> omega
    · show (zs_s (zs_s z 9 (nI i)) 10 ((zs_s z 9 (nI i)).1 10 - 1)).1 9 = _
      rw [zs_sn (by omega), zs_ss]
    · show (zs_s (zs_s z 9 (nI i)) 10 ((zs_s z 9 (nI i)).1 10 - 1)).1 10 = _
      rw [zs_ss, zs_sn (by omega), e10]
      exact nI_sub (b := 1) hb0
  refine ⟨h.ic (k := 15) (by omega) (by omega) ha, ?_⟩
  rw [nI_1]
  by_cases hl : 2 * (W * H) ≤ a + 1
  · exact zp_if (nI_le hl (by omega)) (fin 0 (by omega))
  · exact zp_ifn (nI_ge (by omega) (by omega)) (fin _ (by omega))
theorem zc_step {d : Nat} (hd : d < 5) {post : Int32 → zS → Prop} (hp : ∀ r, r = (if d = 4 then z.1 8 else 1) → post r z) : zw_WayFinder_stepCost ln (nI d) z post := by
  by_cases e : d = 4
  · subst e
    exact zp_fi rfl (hp _ rfl)
  · exact zp_fin (fun h => e ((nI_eq (b := 4) (by omega) (by omega)).mp h)) (hp _ (by rw [if_neg e]))
end ZD
