/-! shapes, exactly -/
/-- e is the last cell of the shape that begins at c -/
def zf_ls (W : Nat) (f : Nat → Int32) (c e : Nat) : Prop := c ≤ e ∧ (∀ i, c ≤ i → i < e → i % W < W - 1 ∧ f (i + 1) = f c) ∧ ¬ (e % W < W - 1 ∧ f (e + 1) = f c)
section ZAT
variable {W H n : Nat} {ln : Nat → Nat} {c z g : zS}
theorem zb_e1 (hd : 2 ≤ W ∧ W ≤ 9 ∧ 2 ≤ H ∧ H ≤ 9 ∧ W * H ≤ 81) {e : Nat} (he : e < 2 * (W * H)) (hl : e % W < W - 1) : e + 1 < 2 * (W * H) := by
  obtain ⟨l, y, x, hl', hy, hx, ee, ex, _, _⟩ := zg_dec (W := W) (H := H) (by omega) (by omega) he
  have := (zg_c (W := W) (H := H) (x := x + 1) hl' hy (by omega)).1
  omega
theorem zf_ls_uq (hd : 2 ≤ W ∧ W ≤ 9 ∧ 2 ≤ H ∧ H ≤ 9 ∧ W * H ≤ 81) {f q : Nat → Int32} (hf : ∀ i, i < 2 * (W * H) → f i = q i) {c e e' : Nat} (he : e < 2 * (W * H)) (he' : e' < 2 * (W * H)) (h : zf_ls W f c e) (h' : zf_ls W q c e') : e = e' := by
  have hc : c < 2 * (W * H) := by have := h.1; omega
  rcases Nat.lt_trichotomy e e' with hx | hx | hx
  · have h1 := h'.2.1 e h.1 hx
    have h2 := zb_e1 hd he h1.1
    exact absurd ⟨h1.1, by rw [hf _ h2, hf c hc]; exact h1.2⟩ h.2.2
  · exact hx
  · have h1 := h.2.1 e' h'.1 hx
    have h2 := zb_e1 hd he' h1.1
    exact absurd ⟨h1.1, by rw [← hf _ h2, ← hf c hc]; exact h1.2⟩ h'.2.2
theorem zx_lastX (h : zI W H n ln z) {x : Nat} (hx : x < 2 * (W * H)) {post : Int32 → zS → Prop} (hp : ∀ e, e < 2 * (W * H) → zf_ls W (z.2 6) x e → post (nI (e % W)) z) : zw_Shapes_lastX ln (nI x) z post := by
  have hC := h.C
  have hd := h.d
  refine ⟨h.ic (k := 0) (by omega) (by omega) hx, ?_⟩
  rw [h.ci hx, (h.t x hx).1]
  have hW : 0 < W := by omega
  refine zq_Lp_I (I := fun q => ∃ e, e < 2 * (W * H) ∧ x ≤ e ∧ (∀ i, x ≤ i → i < e → i % W < W - 1 ∧ z.2 6 (i + 1) = z.2 6 x) ∧ q = (nI x, nI (e % W), nI e, z)) (μ := fun q => 2 * (W * H) - q.2.2.1.toNatClampNeg) ?_ ⟨x, hx, Nat.le_refl _, fun i h1 h2 => absurd h1 (by omega), rfl⟩
  rintro k q ⟨e, he, hxe, hI, rfl⟩ hk
  have hm := Nat.mod_lt e hW
  have e1 : z.1 0 - 1 = nI (W - 1) := by rw [h.s0]; exact nI_sub (b := 1) (by omega)
  by_cases hl : W - 1 ≤ e % W
  · exact zp_if (by rw [e1]; exact nI_le hl (by omega)) (hp e he ⟨hxe, hI, fun hy => by omega⟩)
  have he1 := zb_e1 hd he (by omega)
  refine zp_ifn (by rw [e1]; exact nI_ge (by omega) (by omega)) ⟨by rw [nI_1]; exact h.ic (k := 6) (by omega) (by omega) he1, h.ic (k := 6) (by omega) (by omega) hx, ?_⟩
  rw [nI_1, h.ci he1, h.ci hx]
  by_cases e2 : z.2 6 (e + 1) = z.2 6 x
  · refine zp_fi e2 (hk _ ⟨e + 1, he1, by omega, fun i h1 h2 => ?_, ?_⟩ ?_)
    · by_cases ei : i = e
      · rw [ei]
        exact ⟨by omega, e2⟩
      · exact hI i h1 (by omega)
    · rw [nI_1, Nat.add_mod, Nat.mod_eq_of_lt (show 1 < W by omega), Nat.mod_eq_of_lt (show e % W + 1 < W by omega)]
    · show 2 * (W * H) - (nI (e + 1)).toNatClampNeg < 2 * (W * H) - (nI e).toNatClampNeg
      rw [nI_clamp (by omega), nI_clamp (by omega)]
      omega
  · exact zp_fin e2 (hp e he ⟨hxe, hI, fun hy => e2 hy.2⟩)
/-- what a shape's fact is -/
def zf_tl (W H : Nat) (f : Nat → Int32) (b : Int32) (x e : Nat) : Int32 := if b = 0 then nI (x / (W * H)) else if b = 1 then nI (x / W % H) else if b = 2 then nI (x % W) else if b = 3 then nI (e % W) else f x
theorem zx_tell (h : zI W H n ln z) {x : Nat} (hx : x < 2 * (W * H)) {b : Int32} {post : Int32 → zS → Prop} (hp : ∀ e, e < 2 * (W * H) → zf_ls W (z.2 6) x e → post (zf_tl W H (z.2 6) b x e) z) : zw_Shapes_tell ln (nI x) b z post := by
  have hd := h.d
  have hpos : 0 < W * H := Nat.mul_pos (by omega) (by omega)
  -- there is a last cell
  have ex : ∃ e, e < 2 * (W * H) ∧ zf_ls W (z.2 6) x e := by
    have key : ∀ r e, e + r = 2 * (W * H) → e < 2 * (W * H) → x ≤ e → (∀ i, x ≤ i → i < e → i % W < W - 1 ∧ z.2 6 (i + 1) = z.2 6 x) → ∃ e, e < 2 * (W * H) ∧ zf_ls W (z.2 6) x e := fun r => by
      induction r with
      | zero => intro e h1 h2; omega
      | succ r ih =>
        intro e h1 h2 h3 h4
        by_cases hy : e % W < W - 1 ∧ z.2 6 (e + 1) = z.2 6 x
        · refine ih (e + 1) (by omega) (zb_e1 hd h2 hy.1) (by omega) (fun i i1 i2 => ?_)
          by_cases ei : i = e
          · rw [ei]
            exact hy
          · exact h4 i i1 (by omega)
        · exact ⟨e, h2, h3, h4, hy⟩
    exact key (2 * (W * H) - x) x (by omega) hx (Nat.le_refl _) (fun i h1 h2 => absurd h1 (by omega))
  obtain ⟨e0, he0, hls⟩ := ex
  have hp0 := hp e0 he0 hls
  refine ⟨fun e => ?_, fun e => ⟨h.ic (k := 1) (by omega) (by omega) hx, ?_⟩, fun e => ⟨h.ic (k := 0) (by omega) (by omega) hx, ?_⟩, fun e => ?_, fun hne => ⟨h.ic (k := 6) (by omega) (by omega) hx, ?_⟩⟩
  · unfold zf_tl at hp0
    rw [if_pos e] at hp0
    unfold zw_Grid_layerOf
    rw [h.s2]
    by_cases hl : W * H ≤ x
    · refine zp_if (nI_le hl (by omega)) ?_
      rw [Nat.div_eq_sub_div hpos hl, Nat.div_eq_of_lt (by omega)] at hp0
      exact hp0
    · refine zp_ifn (nI_ge (by omega) (by omega)) ?_
      rw [Nat.div_eq_of_lt (by omega)] at hp0
      exact hp0
  · unfold zf_tl at hp0
    rw [e, if_neg (by decide), if_pos rfl] at hp0
    rw [h.ci hx, (h.t x hx).2.1]
    exact hp0
  · unfold zf_tl at hp0
    rw [e, if_neg (by decide), if_neg (by decide), if_pos rfl] at hp0
    rw [h.ci hx, (h.t x hx).1]
    exact hp0
  · refine zx_lastX h hx (fun e1 he1 hls1 => ?_)
    have hp1 := hp e1 he1 hls1
    unfold zf_tl at hp1
    rw [e, if_neg (by decide), if_neg (by decide), if_neg (by decide), if_pos rfl] at hp1
    exact hp1
  · unfold zf_tl at hp0
    rw [if_neg hne.1, if_neg hne.2.1, if_neg hne.2.2.1, if_neg hne.2.2.2] at hp0
    rw [h.ci hx]
    exact hp0
theorem zd_shapex (h : zM W H n g) {a b : Int32} {post : Int32 → zS → Prop} (h1 : (∀ x, x < 2 * (W * H) → zb_st W H (g.2 2) x → ¬ nI (zb_sn W H (g.2 2) x) = a) → post 0 (zs_s (zs_s g 4 0) 4 1)) (h2 : ∀ x, x < 2 * (W * H) → zb_st W H (g.2 2) x → nI (zb_sn W H (g.2 2) x) = a → ¬ b = 0 → ¬ b = 1 → ¬ b = 2 → ¬ b = 3 → ¬ b = 4 → post 0 (zs_s (zs_s g 4 0) 4 2)) (h0 : ∀ x e, x < 2 * (W * H) → zb_st W H (g.2 2) x → nI (zb_sn W H (g.2 2) x) = a → e < 2 * (W * H) → zf_ls W (g.2 2) x e → (b = 0 ∨ b = 1 ∨ b = 2 ∨ b = 3 ∨ b = 4) → post (zf_tl W H (g.2 2) b x e) (zs_s g 4 0)) : zw_Mo_shape a b g post := by
  have hC := h.C
  have hd := h.d
  have hO : zO W H n g (zs_s g 4 0) := (zO.rf h).num (by omega)
  have r2 : (zs_s g 4 0).2 2 = g.2 2 := rfl
  unfold zw_Mo_shape
  generalize zs_s g 4 0 = g1 at hO r2 h1 h2 h0
  have n0 : ¬ g1.1 0 = 0 := by rw [hO.1.w0]; exact nI_ne0 (by omega) (by omega)
  have n1 : ¬ g1.1 1 = 0 := by rw [hO.1.w1]; exact nI_ne0 (by omega) (by omega)
  have n2 : ¬ g1.1 0 * g1.1 1 = 0 := by rw [hO.1.w0, hO.1.w1, nI_mul]; exact nI_ne0 (Nat.mul_pos (by omega) (by omega)) (by omega)
  have hW : 0 < W := by omega
  have fin : ∀ x, x < 2 * (W * H) → zb_st W H (g.2 2) x → nI (zb_sn W H (g.2 2) x) = a → zw_Mo_shape_56 post b (nI x) g1 := by
    intro x hx hst hsn
    refine zp_fin (zp_n1 (by omega)) ?_
    refine zq_Lp_I (I := fun q => ∃ e, e < 2 * (W * H) ∧ x ≤ e ∧ (∀ i, x ≤ i → i < e → i % W < W - 1 ∧ g.2 2 (i + 1) = g.2 2 x) ∧ q = (b, nI x, nI e, g1)) (μ := fun q => 2 * (W * H) - q.2.2.1.toNatClampNeg) ?_ ⟨x, hx, Nat.le_refl _, fun i i1 i2 => absurd i1 (by omega), rfl⟩
    rintro k q ⟨e, he, hxe, hI, rfl⟩ hk
    have out : zf_ls W (g.2 2) x e → zw_Mo_shape_110 post b (nI x) (nI e) g1 := fun hls => by
      have v := fun hb => h0 x e hx hst hsn he hls hb
      unfold zf_tl at v
      refine ⟨fun eb => ⟨n2, ?_⟩, fun eb => ⟨n0, n1, ?_⟩, fun eb => ⟨n0, ?_⟩, fun eb => ⟨n0, ?_⟩, fun eb => ⟨h.ic hx, ?_⟩, fun hne => h2 x hx hst hsn hne.1 hne.2.1 hne.2.2.1 hne.2.2.2.1 hne.2.2.2.2⟩
      · have v' := v (Or.inl eb)
        rw [if_pos eb] at v'
        rw [hO.1.w0, hO.1.w1, nI_mul, nI_div (by omega) (by omega)]
        exact v'
      · have v' := v (Or.inr (Or.inl eb))
        rw [eb, if_neg (by decide), if_pos rfl] at v'
        rw [hO.1.w0, hO.1.w1, nI_div (by omega) (by omega), nI_mod (Nat.lt_of_le_of_lt (Nat.div_le_self x W) (by omega)) (by omega)]
        exact v'
      · have v' := v (Or.inr (Or.inr (Or.inl eb)))
        rw [eb, if_neg (by decide), if_neg (by decide), if_pos rfl] at v'
        rw [hO.1.w0, nI_mod (by omega) (by omega)]
        exact v'
      · have v' := v (Or.inr (Or.inr (Or.inr (Or.inl eb))))
        rw [eb, if_neg (by decide), if_neg (by decide), if_neg (by decide), if_pos rfl] at v'
        rw [hO.1.w0, nI_mod (by omega) (by omega)]
        exact v'
      · have v' := v (Or.inr (Or.inr (Or.inr (Or.inr eb))))
        rw [eb, if_neg (by decide), if_neg (by decide), if_neg (by decide), if_neg (by decide)] at v'
        rw [h.ci hx, r2]
        exact v'
    refine ⟨n0, ?_⟩
    have hm := Nat.mod_lt e hW
    have e1 : nI W - (1 : Int32) = nI (W - 1) := nI_sub (b := 1) (by omega)
    rw [hO.1.w0, nI_mod (by omega) (by omega), e1]
    by_cases hl : W - 1 ≤ e % W
    · exact zp_if (nI_le hl (by omega)) (out ⟨hxe, hI, fun hy => by omega⟩)
    have he1 := zb_e1 hd he (by omega)
    refine zp_ifn (nI_ge (by omega) (by omega)) ⟨by rw [nI_1]; exact h.ic he1, h.ic hx, ?_⟩
    rw [nI_1, h.ci he1, h.ci hx, r2]
    by_cases e2 : g.2 2 (e + 1) = g.2 2 x
    · refine zp_fi e2 (hk _ ⟨e + 1, he1, by omega, fun i i1 i2 => ?_, rfl⟩ ?_)
      · by_cases ei : i = e
        · rw [ei]
          exact ⟨by omega, e2⟩
        · exact hI i i1 (by omega)
      · show 2 * (W * H) - (nI (e + 1)).toNatClampNeg < 2 * (W * H) - (nI e).toNatClampNeg
        rw [nI_clamp (by omega), nI_clamp (by omega)]
        omega
    · exact zp_fin e2 (out ⟨hxe, hI, fun hy => e2 hy.2⟩)
  refine zq_Lp_I (I := fun q => ∃ v l i, i ≤ 2 * (W * H) ∧ ((v = -1 ∧ l = a - nI (zb_sn W H (g.2 2) i) ∧ ∀ x, x < i → zb_st W H (g.2 2) x → ¬ nI (zb_sn W H (g.2 2) x) = a) ∨ ∃ x, x < 2 * (W * H) ∧ v = nI x ∧ zb_st W H (g.2 2) x ∧ nI (zb_sn W H (g.2 2) x) = a) ∧ q = (b, v, l, nI i, g1)) (μ := fun q => 2 * (W * H) - q.2.2.2.1.toNatClampNeg) ?_ ⟨-1, a, 0, Nat.zero_le _, Or.inl ⟨rfl, ?_, fun x hx => absurd hx (Nat.not_lt_zero _)⟩, rfl⟩
  · rintro k q ⟨v, l, i, hi, hv, rfl⟩ hk
    unfold zw_Mo_shape_13
    dsimp only
    refine zd_many hO.1 ?_
    rcases hv with ⟨rfl, el, hno⟩ | ⟨x, hx, rfl, hst, hsn⟩
    · by_cases hl : 2 * (W * H) ≤ i
      · exact zp_if (nI_le hl (by omega)) (zp_fi rfl (h1 (fun x hx => hno x (by omega))))
      have hl' : i < 2 * (W * H) := by omega
      refine zp_ifn (nI_ge hl' (by omega)) (zp_fi rfl (zd_begins hO.1 hl' (fun hs => zp_fin (by decide) ?_) (fun hs => zp_fi rfl ?_)))
      · rw [r2] at hs
        by_cases e0 : l = 0
        · refine zp_fi e0 (hk _ ⟨nI i, l + (-1), i + 1, hl', Or.inr ⟨i, hl', rfl, hs, ?_⟩, by rw [nI_1]⟩ (zm_lt hl' (by omega)))
          rw [e0] at el
          have := (Int32.sub_eq_iff_eq_add (a := a) (b := nI (zb_sn W H (g.2 2) i)) (c := 0)).mp el.symm
          rw [Int32.zero_add] at this
          exact this.symm
        · refine zp_fin e0 (hk _ ⟨-1, l + (-1), i + 1, hl', Or.inl ⟨rfl, ?_, fun x hx hxs => ?_⟩, by rw [nI_1]⟩ (zm_lt hl' (by omega)))
          · rw [zb_sn_1 hs, nI_succ, el]
            rw [Int32.sub_eq_add_neg, Int32.sub_eq_add_neg, Int32.neg_add, Int32.sub_eq_add_neg, Int32.add_assoc]
          · by_cases ex : x = i
            · rw [ex]
              intro hy
              rw [hy, Int32.sub_self] at el
              exact e0 el
            · exact hno x (by omega) hxs
      · rw [r2] at hs
        refine hk _ ⟨-1, l, i + 1, hl', Or.inl ⟨rfl, by rw [zb_sn_0 hs]; exact el, fun x hx hxs => ?_⟩, by rw [nI_1]⟩ (zm_lt hl' (by omega))
        by_cases ex : x = i
        · rw [ex] at hxs
          exact absurd hxs hs
        · exact hno x (by omega) hxs
    · by_cases hl : 2 * (W * H) ≤ i
      · exact zp_if (nI_le hl (by omega)) (fin x hx hst hsn)
      · exact zp_ifn (nI_ge (by omega) (by omega)) (zp_fin (zp_n1 (by omega)) (fin x hx hst hsn))
  · show a = a - nI 0
    rw [show nI 0 = 0 from rfl, Int32.sub_zero]
theorem zyR_shape (h : zR W H n ln c g) {a b : Int32} {o : Nat → Int64} {post : Int32 → zS → (Nat → Int64) → Int32 → zS → Prop} {K : Int32 → zS → (Nat → Int64) → Prop} (hK : ∀ k c' o', zw_Mo_shape a b g (fun r g' => post k c' o' r g') → K k c' o') (hp : ∀ k c' o' r g', zR W H n ln c' g' → g'.1 4 = k → (k = 0 → o' 0 = r.toInt64) → post k c' o' r g') : zw_La_h_shape ln a b c o K := by
  have hC := h.1.1.C
  have hd := h.1.1.d
  have ho := h.2.2.2.1
  have stq := fun x (hx : x < 2 * (W * H)) => zb_st_cg hd.1 hd.2.2.1 hd.2.2.2.2 ho hx
  have snq := fun x (hx : x < 2 * (W * H)) => zb_sn_cg hd.1 hd.2.2.1 hd.2.2.2.2 ho (i := x) (Nat.le_of_lt hx)
  -- the cell that begins the shape is one
  have one : ∀ x y, x < 2 * (W * H) → y < 2 * (W * H) → zb_st W H (c.2 6) x → zb_st W H (c.2 6) y → nI (zb_sn W H (c.2 6) x) = a → nI (zb_sn W H (c.2 6) y) = a → x = y := fun x y hx hy sx sy ex ey => by
    have mono : ∀ p q, p < q → zb_st W H (c.2 6) p → zb_sn W H (c.2 6) p < zb_sn W H (c.2 6) q := fun p q => by
      induction q with
      | zero => intro hlt; exact absurd hlt (Nat.not_lt_zero _)
      | succ q ih =>
        intro hlt sp
        by_cases e : p = q
        · rw [← e, zb_sn_1 sp]
          omega
        · have h1 := ih (by omega) sp
          by_cases sq : zb_st W H (c.2 6) q
          · rw [zb_sn_1 sq]
            omega
          · rw [zb_sn_0 sq]
            exact h1
    have lt : ∀ p, p < 2 * (W * H) → zb_sn W H (c.2 6) p < 2 ^ 31 := fun p hp => Nat.lt_of_le_of_lt (zb_ct_le _ p) (by omega)
    have e := (nI_eq (lt x hx) (lt y hy)).mp (ex.trans ey.symm)
    rcases Nat.lt_trichotomy x y with hl | hl | hl
    · have := mono x y hl sx
      omega
    · exact hl
    · have := mono y x hl sy
      omega
  have code : ∀ v, zR W H n ln c (zs_s (zs_s g 4 0) 4 v) := fun v => h.code.code
  by_cases hx : ∀ x, x < 2 * (W * H) → zb_st W H (c.2 6) x → ¬ nI (zb_sn W H (c.2 6) x) = a
  · refine Or.inr (zc_startOf h.1.1 (fun x hxc s1 s2 => absurd s2 (hx x hxc s1)) (fun _ => zp_fi rfl (Or.inl ⟨rfl, hK _ _ _ (zd_shapex h.1.2.1 (fun _ => hp _ _ _ _ _ (code 1) zs_ss (fun e => absurd e (by decide))) (fun x hxc s1 s2 => ?_) (fun x e hxc s1 s2 => ?_))⟩)))
    · exact absurd (by rw [snq x hxc]; exact s2) (hx x hxc ((stq x hxc).mpr s1))
    · exact absurd (by rw [snq x hxc]; exact s2) (hx x hxc ((stq x hxc).mpr s1))
  · have nh1 : ∀ {q : Prop}, (∀ x, x < 2 * (W * H) → zb_st W H (g.2 2) x → ¬ nI (zb_sn W H (g.2 2) x) = a) → q := fun hy => absurd (fun x hxc s1 s2 => hy x hxc ((stq x hxc).mp s1) (by rw [← snq x hxc]; exact s2)) hx
    by_cases hb : b = 0 ∨ b = 1 ∨ b = 2 ∨ b = 3 ∨ b = 4
    · have b1 : ¬ b < 0 := by rcases hb with rfl | rfl | rfl | rfl | rfl <;> decide
      have b2 : b < 5 := by rcases hb with rfl | rfl | rfl | rfl | rfl <;> decide
      refine Or.inl (zc_startOf h.1.1 (fun x hxc s1 s2 => zp_fin (zp_n1 (by omega)) (zp_ifn b1 (zp_if b2 (zx_tell h.1.1 hxc (fun e he hls => hK _ _ _ (zd_shapex h.1.2.1 nh1 (fun y _ _ _ n0 n1 n2 n3 n4 => ?_) (fun y e' hy t1 t2 he' hls' _ => hp _ _ _ _ _ h.code zs_ss (fun _ => ?_)))))))) (fun hy => absurd hy hx))
      · rcases hb with e1 | e1 | e1 | e1 | e1
        · exact absurd e1 n0
        · exact absurd e1 n1
        · exact absurd e1 n2
        · exact absurd e1 n3
        · exact absurd e1 n4
      · have exy : x = y := one x y hxc hy s1 ((stq y hy).mpr t1) s2 (by rw [snq y hy]; exact t2)
        subst exy
        have eee := zf_ls_uq hd ho he he' hls hls'
        subst eee
        show vp_updL o 0 _ 0 = _
        unfold vp_updL
        rw [if_pos rfl]
        unfold zf_tl
        rw [ho x hxc]
    · have nb : ∀ {q : Prop}, b = 0 ∨ b = 1 ∨ b = 2 ∨ b = 3 ∨ b = 4 → q := fun hy => absurd hy hb
      have fin : K 2 c o := hK _ _ _ (zd_shapex h.1.2.1 nh1 (fun y _ _ _ _ _ _ _ _ => hp _ _ _ _ _ (code 2) zs_ss (fun e => absurd e (by decide))) (fun y e' _ _ _ _ _ hy => nb hy))
      by_cases b1 : b < 0
      · exact Or.inr (zc_startOf h.1.1 (fun x hxc s1 s2 => zp_fin (zp_n1 (by omega)) (zp_if b1 (Or.inr ⟨rfl, fin⟩))) (fun hy => absurd hy hx))
      · have b2 : ¬ b < 5 := fun hlt => by
          obtain ⟨k, hk, rfl⟩ := nI_of b1
          have hk5 : k < 5 := (nI_ltI (b := 5) hk (by omega)).mp hlt
          have : k = 0 ∨ k = 1 ∨ k = 2 ∨ k = 3 ∨ k = 4 := by omega
          refine hb ?_
          rcases this with rfl | rfl | rfl | rfl | rfl
          · exact Or.inl rfl
          · exact Or.inr (Or.inl rfl)
          · exact Or.inr (Or.inr (Or.inl rfl))
          · exact Or.inr (Or.inr (Or.inr (Or.inl rfl)))
          · exact Or.inr (Or.inr (Or.inr (Or.inr rfl)))
        exact Or.inr (zc_startOf h.1.1 (fun x hxc s1 s2 => zp_fin (zp_n1 (by omega)) (zp_ifn b1 (zp_ifn b2 (Or.inr ⟨rfl, fin⟩)))) (fun hy => absurd hy hx))
theorem zR_0 {L : Nat} {xs : Nat → Int32} (W H : Nat) (fx fy fb fn fl fp fo : Nat → Int32) (hw1 : 2 + (zl_sc L xs 0 &&& 7) = nI W) (hw2 : 2 + (zl_sc L xs 1 &&& 7) = nI H) (hW2 : 2 ≤ W) (hW9 : W ≤ 9) (hH2 : 2 ≤ H) (hH9 : H ≤ 9) (hA81 : W * H ≤ 81) (hI : zg_I W H (2 * (W * H)) fx fy fb) (hn : ∀ j, j < 2 * (W * H) → fn j = -1) (hl : ∀ j, j < 2 * (W * H) → fl j = -1) (hp : ∀ j, j < 162 → fp j = -1) (ho : ∀ j, j < 162 → fo j = -1) : zR W H 0 (zl_ln (2 * (W * H)) (W * H) (2 * (W * H) * 5)) (zl_c0 W H (W * H) (2 * (W * H)) (if ((zl_sc L xs 3) &&& (1 : Int32)) = (1 : Int32) then 1 else 0) ((1 : Int32) + ((zl_sc L xs 2) &&& (3 : Int32))) fx fy fb fn fl) (zl_g0 ((2 : Int32) + ((zl_sc L xs 0) &&& (7 : Int32))) ((2 : Int32) + ((zl_sc L xs 1) &&& (7 : Int32))) (if ((zl_sc L xs 3) &&& (1 : Int32)) = (1 : Int32) then 1 else 0) ((1 : Int32) + ((zl_sc L xs 2) &&& (3 : Int32))) fp fo) := by
  have hE := zE_0 W H fx fy fb fn fl fp fo hw1 hw2 hW2 hW9 hH2 hH9 hA81 hI hn hl hp ho
  obtain ⟨j, hj, e⟩ := zl_and (zl_sc L xs 2) 3
  have ev : (1 : Int32) + (zl_sc L xs 2 &&& nI 3) = nI (1 + j) := by rw [e]; exact nI_add 1 j
  refine ⟨hE, ⟨1 + j, by omega, by omega, ev, ev⟩, fun k hk => absurd hk (Nat.not_lt_zero _), fun i hi => ?_, fun _ c c' d k k' _ _ _ hk => absurd hk (Nat.not_lt_zero _), fun p _ => Or.inl rfl, rfl⟩
  show fl i = fo i
  rw [hl i hi, ho i (by omega)]
end ZAT
