/-! the reference at any state that keeps its invariant -/
def zM (W H n : Nat) (g : zS) : Prop :=
  (2 ≤ W ∧ W ≤ 9 ∧ 2 ≤ H ∧ H ≤ 9 ∧ W * H ≤ 81) ∧ n ≤ 6 ∧ (g.1 0 = nI W ∧ g.1 1 = nI H ∧ g.1 5 = nI n ∧ ∃ v, 1 ≤ v ∧ v ≤ 4 ∧ g.1 2 = nI v) ∧
  (∀ c, c < 2 * (W * H) → (g.2 1 c = -1 ∨ zb_n n (g.2 1 c)) ∧ (g.2 2 c = -1 ∨ zb_n n (g.2 2 c)) ∧ (g.2 5 c = 0 ∨ g.2 5 c = 1)) ∧
  (∀ k, k < n → ∃ c d, c < 2 * (W * H) ∧ d < 2 * (W * H) ∧ g.2 8 k = nI c ∧ g.2 9 k = nI d ∧ g.2 1 c = nI k ∧ g.2 1 d = nI k) ∧
  (∀ c k, c < 2 * (W * H) → k < n → g.2 1 c = nI k → g.2 8 k = nI c ∨ g.2 9 k = nI c)
/-- what only block and net may change -/
def zN (g g' : zS) : Prop := (∀ k, k = 0 ∨ k = 1 ∨ k = 2 ∨ k = 3 ∨ k = 5 → g'.1 k = g.1 k) ∧ ∀ k, k = 0 ∨ k = 1 ∨ k = 8 ∨ k = 9 → g'.2 k = g.2 k
def zO (W H n : Nat) (g g' : zS) : Prop := zM W H n g' ∧ zN g g'
theorem zN.rf {g : zS} : zN g g := ⟨fun _ _ => rfl, fun _ _ => rfl⟩
theorem zN.tr {a b c : zS} (h : zN a b) (h' : zN b c) : zN a c := ⟨fun k hk => (h'.1 k hk).trans (h.1 k hk), fun k hk => (h'.2 k hk).trans (h.2 k hk)⟩
section ZM
variable {W H n : Nat} {g g0 : zS}
theorem zM.d (h : zM W H n g) : 2 ≤ W ∧ W ≤ 9 ∧ 2 ≤ H ∧ H ≤ 9 ∧ W * H ≤ 81 := h.1
theorem zM.n6 (h : zM W H n g) : n ≤ 6 := h.2.1
theorem zM.w0 (h : zM W H n g) : g.1 0 = nI W := h.2.2.1.1
theorem zM.w1 (h : zM W H n g) : g.1 1 = nI H := h.2.2.1.2.1
theorem zM.w5 (h : zM W H n g) : g.1 5 = nI n := h.2.2.1.2.2.1
theorem zM.vc (h : zM W H n g) : ∃ v, 1 ≤ v ∧ v ≤ 4 ∧ g.1 2 = nI v := h.2.2.1.2.2.2
theorem zM.pin (h : zM W H n g) {c : Nat} (hc : c < 2 * (W * H)) : g.2 1 c = -1 ∨ zb_n n (g.2 1 c) := (h.2.2.2.1 c hc).1
theorem zM.own (h : zM W H n g) {c : Nat} (hc : c < 2 * (W * H)) : g.2 2 c = -1 ∨ zb_n n (g.2 2 c) := (h.2.2.2.1 c hc).2.1
theorem zM.mk (h : zM W H n g) {c : Nat} (hc : c < 2 * (W * H)) : g.2 5 c = 0 ∨ g.2 5 c = 1 := (h.2.2.2.1 c hc).2.2
theorem zM.ends (h : zM W H n g) {k : Nat} (hk : k < n) : ∃ c d, c < 2 * (W * H) ∧ d < 2 * (W * H) ∧ g.2 8 k = nI c ∧ g.2 9 k = nI d ∧ g.2 1 c = nI k ∧ g.2 1 d = nI k := h.2.2.2.2.1 k hk
theorem zM.conv (h : zM W H n g) {c k : Nat} (hc : c < 2 * (W * H)) (hk : k < n) (e : g.2 1 c = nI k) : g.2 8 k = nI c ∨ g.2 9 k = nI c := h.2.2.2.2.2 c k hc hk e
theorem zM.C (h : zM W H n g) : 2 * (W * H) ≤ 162 := by have := h.d; omega
theorem zM.ci (h : zM W H n g) {c : Nat} (hc : c < 2 * (W * H)) : (nI c).toNatClampNeg = c := nI_clamp (by have := h.C; omega)
theorem zM.ic (h : zM W H n g) {c : Nat} (hc : c < 2 * (W * H)) : vp_in (nI c) 162 := vp_in_nI (by have := h.C; omega) (by decide)
theorem zM.i6 (h : zM W H n g) {k : Nat} (hk : k < n) : vp_in (nI k) 6 := vp_in_nI (by have := h.n6; omega) (by decide)
theorem zM.i81 (h : zM W H n g) {c : Nat} (hc : c < W * H) : vp_in (nI c) 81 := vp_in_nI (by have := h.d; omega) (by decide)
/-- only rows that the invariant leaves free have changed -/
theorem zM.of (h : zM W H n g) {g' : zS} (hN : zN g g') (h2 : ∀ c, c < 2 * (W * H) → g'.2 2 c = -1 ∨ zb_n n (g'.2 2 c)) (h5 : ∀ c, c < 2 * (W * H) → g'.2 5 c = 0 ∨ g'.2 5 c = 1) : zM W H n g' := by
  have e := hN.1
  have e1 := hN.2 1 (by omega)
  have e8 := hN.2 8 (by omega)
  have e9 := hN.2 9 (by omega)
  refine ⟨h.1, h.2.1, ?_, fun c hc => ⟨?_, h2 c hc, h5 c hc⟩, ?_, ?_⟩
  · rw [e 0 (by omega), e 1 (by omega), e 2 (by omega), e 5 (by omega)]
    exact h.2.2.1
  · rw [e1]
    exact h.pin hc
  · rw [e1, e8, e9]
    exact h.2.2.2.2.1
  · rw [e1, e8, e9]
    exact h.2.2.2.2.2
theorem zN.put (h : zN g0 g) {k : Nat} {i v : Int32} (hk : k = 2 ∨ k = 3 ∨ k = 4 ∨ k = 5 ∨ k = 6 ∨ k = 7 ∨ k = 10) : zN g0 (zs_a g k i v) := ⟨h.1, fun j hj => by rw [zs_an (by omega)]; exact h.2 j hj⟩
theorem zN.num (h : zN g0 g) {k : Nat} {v : Int32} (hk : k = 4 ∨ k = 6 ∨ k = 7) : zN g0 (zs_s g k v) := ⟨fun j hj => by rw [zs_sn (by omega)]; exact h.1 j hj, h.2⟩
theorem zO.rf (h : zM W H n g) : zO W H n g g := ⟨h, zN.rf⟩
theorem zO.tr {g1 : zS} (h : zO W H n g0 g) (h' : zO W H n g g1) : zO W H n g0 g1 := ⟨h'.1, h.2.tr h'.2⟩
theorem zO.put (h : zO W H n g0 g) {k : Nat} {i v : Int32} (hk : k = 3 ∨ k = 4 ∨ k = 6 ∨ k = 7 ∨ k = 10) : zO W H n g0 (zs_a g k i v) :=
  ⟨h.1.of (zN.rf.put (by omega)) (fun c hc => by rw [zs_an (by omega)]; exact h.1.own hc) (fun c hc => by rw [zs_an (by omega)]; exact h.1.mk hc), h.2.put (by omega)⟩
theorem zO.num (h : zO W H n g0 g) {k : Nat} {v : Int32} (hk : k = 4 ∨ k = 6 ∨ k = 7) : zO W H n g0 (zs_s g k v) :=
  ⟨h.1.of (zN.rf.num hk) (fun c hc => h.1.own hc) (fun c hc => h.1.mk hc), h.2.num hk⟩
theorem zO.own (h : zO W H n g0 g) {i v : Int32} (hv : v = -1 ∨ zb_n n v) : zO W H n g0 (zs_a g 2 i v) := by
  refine ⟨h.1.of (zN.rf.put (by omega)) (fun c hc => ?_) (fun c hc => by rw [zs_an (by omega)]; exact h.1.mk hc), h.2.put (by omega)⟩
  rw [zs_a2, if_pos rfl]
  by_cases e : c = i.toNatClampNeg
  · rw [e, pk_us]
    exact hv
  · rw [pk_un e]
    exact h.1.own hc
theorem zO.mark (h : zO W H n g0 g) {i v : Int32} : zO W H n g0 (zs_a g 5 i (vp_nar .boolean v)) := by
  refine ⟨h.1.of (zN.rf.put (by omega)) (fun c hc => by rw [zs_an (by omega)]; exact h.1.own hc) (fun c hc => ?_), h.2.put (by omega)⟩
  rw [zs_a2, if_pos rfl]
  by_cases e : c = i.toNatClampNeg
  · rw [e, pk_us]
    exact zb_nar v
  · rw [pk_un e]
    exact h.1.mk hc
/-! readers -/
theorem zd_side (h : zM W H n g) {c d : Nat} (hc : c < 2 * (W * H)) (hd : d < 5) {post : Int32 → zS → Prop} (hp : post (zg_B W H c d) g) : zw_Mo_side (nI c) (nI d) g post :=
  zp_side h.d.1 h.d.2.1 h.d.2.2.1 h.d.2.2.2.1 h.d.2.2.2.2 h.w0 h.w1 hc hd hp
theorem zd_sd (h : zM W H n g) {c d : Nat} (hc : c < 2 * (W * H)) (hd : d < 5) {post : Int32 → zS → Prop} (h1 : zg_B W H c d = -1 → post (-1) g) (h2 : ∀ c', c' < 2 * (W * H) → zg_B W H c d = nI c' → post (nI c') g) : zw_Mo_side (nI c) (nI d) g post := by
  refine zd_side h hc hd ?_
  rcases zg_B_in (W := W) (H := H) (c := c) (d := d) h.d.1 h.d.2.2.1 hc with e | ⟨c', hc', e⟩
  · rw [e]
    exact h1 e
  · rw [e]
    exact h2 c' hc' e
theorem zd_many (h : zM W H n g) {post : Int32 → zS → Prop} (hp : post (nI (2 * (W * H))) g) : zw_Mo_many g post := zp_many h.w0 h.w1 hp
theorem zd_placeOf (h : zM W H n g) {c : Nat} (hc : c < 2 * (W * H)) {post : Int32 → zS → Prop} (hp : ∀ p, p < W * H → p = c % (W * H) → post (nI p) g) : zw_Mo_placeOf (nI c) g post := by
  have hd := h.d
  have hpos : 0 < W * H := Nat.mul_pos (by omega) (by omega)
  unfold zw_Mo_placeOf
  rw [h.w0, h.w1, nI_mul, nI_mod (by omega) (by omega)]
  exact ⟨nI_ne0 hpos (by omega), hp _ (Nat.mod_lt _ hpos) rfl⟩
theorem zd_other {a m : Int32} {post : Int32 → zS → Prop} (h1 : ¬ a = -1 → ¬ a = m → post 1 g) (h0 : a = -1 ∨ a = m → post 0 g) : zw_Mo_isOther a m g post := by
  by_cases e : a = -1
  · exact zp_if e ⟨zp_b0, h0 (Or.inl e)⟩
  refine zp_ifn e ?_
  by_cases e1 : a = m
  · exact zp_if e1 ⟨zp_b0, h0 (Or.inr e1)⟩
  · exact zp_ifn e1 ⟨zp_b1, h1 e e1⟩
/-- the four sides looked at -/
theorem zd_barred (h : zM W H n g) {c : Nat} (hc : c < 2 * (W * H)) {m : Int32} {post : Int32 → zS → Prop} (h1 : (¬ g.2 0 c = 0 ∨ zb_K W H (g.1 3) (g.2 1) c m) → post 1 g) (h0 : g.2 0 c = 0 → ¬ zb_K W H (g.1 3) (g.2 1) c m → post 0 g) : zw_Mo_isBarred (nI c) m g post := by
  have hC := h.C
  -- the loop, from a flag that says what was seen
  have lp : ∀ b : Int32, (b = 0 ∨ b = 1) → (b = 0 → g.2 0 c = 0 ∧ (g.2 1 c = -1 ∨ g.2 1 c = m)) → (b = 1 → ¬ g.2 0 c = 0 ∨ zb_K W H (g.1 3) (g.2 1) c m) → zw_Mo_isBarred_27 post (nI c) m b g := by
    intro b hb hb0 hb1
    refine zq_Lp_I (I := fun q => ∃ (b : Int32) (d : Nat), d ≤ 4 ∧ (b = 0 ∨ b = 1) ∧ (b = 0 → (g.2 0 c = 0 ∧ (g.2 1 c = -1 ∨ g.2 1 c = m)) ∧ (¬ g.1 3 = 0 → ∀ d', d' < d → ∀ c', c' < 2 * (W * H) → zg_B W H c d' = nI c' → g.2 1 c' = -1 ∨ g.2 1 c' = m)) ∧ (b = 1 → ¬ g.2 0 c = 0 ∨ zb_K W H (g.1 3) (g.2 1) c m) ∧ q = (nI c, m, b, nI d, g)) (μ := fun q => 4 - q.2.2.2.1.toNatClampNeg) ?_ ⟨b, 0, Nat.zero_le _, hb, fun e => ⟨hb0 e, fun _ d' hd' => absurd hd' (Nat.not_lt_zero _)⟩, hb1, rfl⟩
    rintro k q ⟨b, d, hd, hb, hb0, hb1, rfl⟩ hk
    have fin : (4 ≤ d ∨ g.1 3 = 0) → zw_Mo_isBarred_89 post b g := fun hx => by
      rcases hb with rfl | rfl
      · refine ⟨zp_b0, h0 (hb0 rfl).1.1 ?_⟩
        rintro (⟨k1, k2⟩ | ⟨k1, d', hd', c', hc', k2, k3, k4⟩)
        · rcases (hb0 rfl).1.2 with e | e
          · exact k1 e
          · exact k2 e
        · rcases hx with hx | hx
          · rcases (hb0 rfl).2 k1 d' (by omega) c' hc' k2 with e | e
            · exact k3 e
            · exact k4 e
          · exact k1 hx
      · exact ⟨zp_b1, h1 (hb1 rfl)⟩
    by_cases hl : 4 ≤ d
    · exact zp_if (nI_le (a := 4) hl (by omega)) (fin (Or.inl hl))
    refine zp_ifn (nI_ge (b := 4) (by omega) (by omega)) ?_
    by_cases e3 : g.1 3 = 0
    · exact zp_if e3 (fin (Or.inr e3))
    have go1 : (¬ g.2 0 c = 0 ∨ zb_K W H (g.1 3) (g.2 1) c m) → zw_Mo_isBarred_77 post k (nI c) m (nI d) g := fun hx => hk _ ⟨1, d + 1, by omega, Or.inr rfl, fun e => absurd e (by decide), fun _ => hx, by rw [nI_1]⟩ (zm_lt (by omega) (by omega))
    have go0 : b = 0 → (∀ c', c' < 2 * (W * H) → zg_B W H c d = nI c' → g.2 1 c' = -1 ∨ g.2 1 c' = m) → zw_Mo_isBarred_81 post k (nI c) m (nI d) g := fun e hx => hk _ ⟨0, d + 1, by omega, Or.inl rfl, fun _ => ⟨(hb0 e).1, fun _ d' hd' => by
        by_cases e' : d' = d
        · rw [e']
          exact hx
        · exact (hb0 e).2 e3 d' (by omega)⟩, fun e => absurd e (by decide), by rw [nI_1]⟩ (zm_lt (by omega) (by omega))
    refine zp_ifn e3 (zd_sd h hc (by omega) (fun er => ?_) (fun c' hc' er => ?_))
    · by_cases eb : b = 0
      · exact zp_fi eb (zp_if rfl (go0 eb (fun c'' hc'' e => absurd (er.symm.trans e).symm (zp_n1 (by omega)))))
      · exact zp_fin eb (go1 (hb1 (hb.resolve_left eb)))
    · by_cases eb : b = 0
      · refine zp_fi eb (zp_ifn (zp_n1 (by omega)) ⟨h.ic hc', ?_⟩)
        rw [h.ci hc']
        refine zd_other (fun k1 k2 => ?_) (fun k1 => ?_)
        · exact zp_ifn (by decide) (go1 (Or.inr (Or.inr ⟨e3, d, by omega, c', hc', er, k1, k2⟩)))
        · refine zp_if rfl (go0 eb (fun c'' hc'' e => ?_))
          have : c'' = c' := (nI_eq (by omega) (by omega)).mp (e.symm.trans er)
          rw [this]
          exact k1
      · exact zp_fin eb (go1 (hb1 (hb.resolve_left eb)))
  refine ⟨h.ic hc, ?_⟩
  rw [h.ci hc]
  by_cases e : g.2 0 c = 0
  · refine zp_fi e ⟨h.ic hc, zd_other (fun k1 k2 => ?_) (fun k1 => ?_)⟩
    · exact zp_ifn (by decide) (lp 1 (Or.inr rfl) (fun e => absurd e (by decide)) (fun _ => Or.inr (Or.inl ⟨k1, k2⟩)))
    · exact zp_if rfl (lp 0 (Or.inl rfl) (fun _ => ⟨e, k1⟩) (fun e => absurd e (by decide)))
  · exact zp_fin e (lp 1 (Or.inr rfl) (fun e => absurd e (by decide)) (fun _ => Or.inl e))
theorem zd_taken (h : zM W H n g) {c : Nat} (hc : c < 2 * (W * H)) {m : Int32} {post : Int32 → zS → Prop} (h1 : zb_K W H (g.1 3) (g.2 2) c m → post 1 g) (h0 : ¬ zb_K W H (g.1 3) (g.2 2) c m → post 0 g) : zw_Mo_isTaken (nI c) m g post := by
  have hC := h.C
  have lp : ∀ b : Int32, (b = 0 ∨ b = 1) → (b = 0 → g.2 2 c = -1 ∨ g.2 2 c = m) → (b = 1 → zb_K W H (g.1 3) (g.2 2) c m) → zq_Lp (zw_Mo_isTaken_14 post) (nI c, m, b, (0 : Int32), g) := by
    intro b hb hb0 hb1
    refine zq_Lp_I (I := fun q => ∃ (b : Int32) (d : Nat), d ≤ 4 ∧ (b = 0 ∨ b = 1) ∧ (b = 0 → (g.2 2 c = -1 ∨ g.2 2 c = m) ∧ (¬ g.1 3 = 0 → ∀ d', d' < d → ∀ c', c' < 2 * (W * H) → zg_B W H c d' = nI c' → g.2 2 c' = -1 ∨ g.2 2 c' = m)) ∧ (b = 1 → zb_K W H (g.1 3) (g.2 2) c m) ∧ q = (nI c, m, b, nI d, g)) (μ := fun q => 4 - q.2.2.2.1.toNatClampNeg) ?_ ⟨b, 0, Nat.zero_le _, hb, fun e => ⟨hb0 e, fun _ d' hd' => absurd hd' (Nat.not_lt_zero _)⟩, hb1, rfl⟩
    rintro k q ⟨b, d, hd, hb, hb0, hb1, rfl⟩ hk
    have fin : (4 ≤ d ∨ g.1 3 = 0) → zw_Mo_isTaken_72 post b g := fun hx => by
      rcases hb with rfl | rfl
      · refine ⟨zp_b0, h0 ?_⟩
        rintro (⟨k1, k2⟩ | ⟨k1, d', hd', c', hc', k2, k3, k4⟩)
        · rcases (hb0 rfl).1 with e | e
          · exact k1 e
          · exact k2 e
        · rcases hx with hx | hx
          · rcases (hb0 rfl).2 k1 d' (by omega) c' hc' k2 with e | e
            · exact k3 e
            · exact k4 e
          · exact k1 hx
      · exact ⟨zp_b1, h1 (hb1 rfl)⟩
    by_cases hl : 4 ≤ d
    · exact zp_if (nI_le (a := 4) hl (by omega)) (fin (Or.inl hl))
    refine zp_ifn (nI_ge (b := 4) (by omega) (by omega)) ?_
    by_cases e3 : g.1 3 = 0
    · exact zp_if e3 (fin (Or.inr e3))
    have go1 : zb_K W H (g.1 3) (g.2 2) c m → zw_Mo_isTaken_60 post k (nI c) m (nI d) g := fun hx => hk _ ⟨1, d + 1, by omega, Or.inr rfl, fun e => absurd e (by decide), fun _ => hx, by rw [nI_1]⟩ (zm_lt (by omega) (by omega))
    have go0 : b = 0 → (∀ c', c' < 2 * (W * H) → zg_B W H c d = nI c' → g.2 2 c' = -1 ∨ g.2 2 c' = m) → zw_Mo_isTaken_64 post k (nI c) m (nI d) g := fun e hx => hk _ ⟨0, d + 1, by omega, Or.inl rfl, fun _ => ⟨(hb0 e).1, fun _ d' hd' => by
        by_cases e' : d' = d
        · rw [e']
          exact hx
        · exact (hb0 e).2 e3 d' (by omega)⟩, fun e => absurd e (by decide), by rw [nI_1]⟩ (zm_lt (by omega) (by omega))
    refine zp_ifn e3 (zd_sd h hc (by omega) (fun er => ?_) (fun c' hc' er => ?_))
    · by_cases eb : b = 0
      · exact zp_fi eb (zp_if rfl (go0 eb (fun c'' hc'' e => absurd (er.symm.trans e).symm (zp_n1 (by omega)))))
      · exact zp_fin eb (go1 (hb1 (hb.resolve_left eb)))
    · by_cases eb : b = 0
      · refine zp_fi eb (zp_ifn (zp_n1 (by omega)) ⟨h.ic hc', ?_⟩)
        rw [h.ci hc']
        refine zd_other (fun k1 k2 => ?_) (fun k1 => ?_)
        · exact zp_ifn (by decide) (go1 (Or.inr ⟨e3, d, by omega, c', hc', er, k1, k2⟩))
        · refine zp_if rfl (go0 eb (fun c'' hc'' e => ?_))
          have : c'' = c' := (nI_eq (by omega) (by omega)).mp (e.symm.trans er)
          rw [this]
          exact k1
      · exact zp_fin eb (go1 (hb1 (hb.resolve_left eb)))
  refine ⟨h.ic hc, ?_⟩
  rw [h.ci hc]
  exact zd_other (fun k1 k2 => lp 1 (Or.inr rfl) (fun e => absurd e (by decide)) (fun _ => Or.inl ⟨k1, k2⟩)) (fun k1 => lp 0 (Or.inl rfl) (fun _ => k1) (fun e => absurd e (by decide)))
/-- a cell's toll in the reference: t, out of the rows of blocks, pins and owners -/
def zr_t (W H : Nat) (sp : Int32) (fb fp fo : Nat → Int32) (m p : Int32) (c t : Nat) : Prop :=
  ((¬ fp c = m ∧ (¬ fb c = 0 ∨ zb_K W H sp fp c m)) ∧ t = 1000000) ∨ (¬ (¬ fp c = m ∧ (¬ fb c = 0 ∨ zb_K W H sp fp c m)) ∧ ((¬ zb_K W H sp fo c m ∧ t = 0) ∨ (zb_K W H sp fo c m ∧ ((¬ p = 0 ∧ t = 10) ∨ (p = 0 ∧ ((fp c = m ∧ t = 0) ∨ (¬ fp c = m ∧ t = 1000000)))))))
theorem zr_t_uq {W H : Nat} {sp : Int32} {fb fp fo : Nat → Int32} {m p : Int32} {c t t' : Nat} (h : zr_t W H sp fb fp fo m p c t) (h' : zr_t W H sp fb fp fo m p c t') : t = t' := by
  rcases h with ⟨a, e⟩ | ⟨a, ⟨b, e⟩ | ⟨b, ⟨x, e⟩ | ⟨x, ⟨y, e⟩ | ⟨y, e⟩⟩⟩⟩ <;> rcases h' with ⟨a', e'⟩ | ⟨a', ⟨b', e'⟩ | ⟨b', ⟨x', e'⟩ | ⟨x', ⟨y', e'⟩ | ⟨y', e'⟩⟩⟩⟩ <;> first | exact e.trans e'.symm | exact absurd a a' | exact absurd a' a | exact absurd b b' | exact absurd b' b | exact absurd x x' | exact absurd x' x | exact absurd y y' | exact absurd y' y
theorem zr_t_le {W H : Nat} {sp : Int32} {fb fp fo : Nat → Int32} {m p : Int32} {c t : Nat} (h : zr_t W H sp fb fp fo m p c t) : t = 0 ∨ t = 10 ∨ t = 1000000 := by
  rcases h with ⟨a, e⟩ | ⟨a, ⟨b, e⟩ | ⟨b, ⟨x, e⟩ | ⟨x, ⟨y, e⟩ | ⟨y, e⟩⟩⟩⟩ <;> omega
theorem zd_toll (h : zM W H n g) {c : Nat} (hc : c < 2 * (W * H)) {m p : Int32} {post : Int32 → zS → Prop} (hp : ∀ t, zr_t W H (g.1 3) (g.2 0) (g.2 1) (g.2 2) m p c t → post (nI t) g) : zw_Mo_toll (nI c) m p g post := by
  have hC := h.C
  have tk : ¬ (¬ g.2 1 c = m ∧ (¬ g.2 0 c = 0 ∨ zb_K W H (g.1 3) (g.2 1) c m)) → zw_Mo_toll_22 post (nI c) m p g := fun hn => by
    refine zd_taken h hc (fun hK => zp_fin (by decide) ?_) (fun hK => zp_fi rfl (hp 0 (Or.inr ⟨hn, Or.inl ⟨hK, rfl⟩⟩)))
    by_cases ep : p = 0
    · refine zp_if ep ⟨h.ic hc, ?_⟩
      rw [h.ci hc]
      by_cases e : g.2 1 c = m
      · exact zp_fi e (hp 0 (Or.inr ⟨hn, Or.inr ⟨hK, Or.inr ⟨ep, Or.inl ⟨e, rfl⟩⟩⟩⟩))
      · exact zp_fin e (hp 1000000 (Or.inr ⟨hn, Or.inr ⟨hK, Or.inr ⟨ep, Or.inr ⟨e, rfl⟩⟩⟩⟩))
    · exact zp_ifn ep (hp 10 (Or.inr ⟨hn, Or.inr ⟨hK, Or.inl ⟨ep, rfl⟩⟩⟩))
  refine ⟨h.ic hc, ?_⟩
  rw [h.ci hc]
  by_cases e : g.2 1 c = m
  · exact zp_if e (tk (fun hn => hn.1 e))
  · exact zp_ifn e (zd_barred h hc (fun hb => zp_ifn (by decide) (hp 1000000 (Or.inl ⟨⟨e, hb⟩, rfl⟩))) (fun hb hk => zp_if rfl (tk (fun hn => hn.2.elim (fun x => x hb) hk))))
end ZM
