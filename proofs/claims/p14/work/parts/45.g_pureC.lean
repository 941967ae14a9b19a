/-! the system at any state that keeps its invariant: every method comes to its end, and keeps it -/
def zb_l (W H k : Nat) : Nat := if k = 2 then 2 * (W * H) * 5 else if k = 3 ∨ k = 4 ∨ k = 9 ∨ k = 17 then 6 else if k = 7 then W * H else 2 * (W * H)
/-- a cell's number -/
def zb_c (W H : Nat) (v : Int32) : Prop := ∃ c, c < 2 * (W * H) ∧ v = nI c
/-- a net's number -/
def zb_n (n : Nat) (v : Int32) : Prop := ∃ m, m < n ∧ v = nI m
/-- what the elements of a row are -/
def zb_R (W H n k : Nat) (v : Int32) : Prop :=
  if k = 3 ∨ k = 4 ∨ k = 10 ∨ k = 12 ∨ k = 15 then zb_c W H v else if k = 5 ∨ k = 6 then v = -1 ∨ zb_n n v else if k = 7 ∨ k = 8 ∨ k = 11 then v = 0 ∨ v = 1 else True
/-- the line: nets, none twice -/
def zb_L (n : Nat) (s : Int32) (f : Nat → Int32) : Prop := ∃ m, m ≤ 6 ∧ s = nI m ∧ (∀ i, i < m → zb_n n (f i)) ∧ ∀ i j, i < m → j < m → f i = f j → i = j
def zI (W H n : Nat) (ln : Nat → Nat) (z : zS) : Prop :=
  (2 ≤ W ∧ W ≤ 9 ∧ 2 ≤ H ∧ H ≤ 9 ∧ W * H ≤ 81) ∧ n ≤ 6 ∧ (∀ i, i < 18 → ln i = zb_l W H i) ∧ (z.1 0 = nI W ∧ z.1 1 = nI H ∧ z.1 2 = nI (W * H) ∧ z.1 3 = nI (2 * (W * H)) ∧ z.1 4 = nI n) ∧ zg_I W H (2 * (W * H)) (z.2 0) (z.2 1) (z.2 2) ∧ (∀ k j, j < zb_l W H k → zb_R W H n k (z.2 k j)) ∧ (∃ m, m ≤ 2 * (W * H) ∧ z.1 7 = nI m) ∧ zb_L n (z.1 11) (z.2 17)
/-- what only block and net may change -/
def zT (z z' : zS) : Prop := ∀ k, k ≤ 5 ∨ k = 8 → z'.1 k = z.1 k ∧ z'.2 k = z.2 k
def zJ (W H n : Nat) (ln : Nat → Nat) (z z' : zS) : Prop := zI W H n ln z' ∧ zT z z'
theorem zT.rf {z : zS} : zT z z := fun _ _ => ⟨rfl, rfl⟩
theorem zT.tr {a b c : zS} (h : zT a b) (h' : zT b c) : zT a c := fun k hk => ⟨(h' k hk).1.trans (h k hk).1, (h' k hk).2.trans (h k hk).2⟩
theorem zs_a2 (z : zS) (k j : Nat) (i v : Int32) : (zs_a z k i v).2 j = if j = k then upd (z.2 k) i.toNatClampNeg v else z.2 j := rfl
theorem zs_s1 (z : zS) (k j : Nat) (v : Int32) : (zs_s z k v).1 j = if j = k then v else z.1 j := rfl
section ZC
variable {W H n : Nat} {ln : Nat → Nat} {z z0 : zS}
theorem zI.d (h : zI W H n ln z) : 2 ≤ W ∧ W ≤ 9 ∧ 2 ≤ H ∧ H ≤ 9 ∧ W * H ≤ 81 := h.1
theorem zI.n6 (h : zI W H n ln z) : n ≤ 6 := h.2.1
theorem zI.l (h : zI W H n ln z) {k : Nat} (hk : k < 18) : ln k = zb_l W H k := h.2.2.1 k hk
theorem zI.s0 (h : zI W H n ln z) : z.1 0 = nI W := h.2.2.2.1.1
theorem zI.s1 (h : zI W H n ln z) : z.1 1 = nI H := h.2.2.2.1.2.1
theorem zI.s2 (h : zI W H n ln z) : z.1 2 = nI (W * H) := h.2.2.2.1.2.2.1
theorem zI.s3 (h : zI W H n ln z) : z.1 3 = nI (2 * (W * H)) := h.2.2.2.1.2.2.2.1
theorem zI.s4 (h : zI W H n ln z) : z.1 4 = nI n := h.2.2.2.1.2.2.2.2
theorem zI.t (h : zI W H n ln z) : zg_I W H (2 * (W * H)) (z.2 0) (z.2 1) (z.2 2) := h.2.2.2.2.1
theorem zI.r (h : zI W H n ln z) {k j : Nat} (hj : j < zb_l W H k) : zb_R W H n k (z.2 k j) := h.2.2.2.2.2.1 k j hj
theorem zI.s7 (h : zI W H n ln z) : ∃ m, m ≤ 2 * (W * H) ∧ z.1 7 = nI m := h.2.2.2.2.2.2.1
theorem zI.ll (h : zI W H n ln z) : zb_L n (z.1 11) (z.2 17) := h.2.2.2.2.2.2.2
theorem zI.C (h : zI W H n ln z) : 2 * (W * H) ≤ 162 := by have := h.d; omega
theorem zI.put (h : zI W H n ln z) {k : Nat} {i v : Int32} (hk : k ≠ 0 ∧ k ≠ 1 ∧ k ≠ 2 ∧ k ≠ 17) (hv : zb_R W H n k v) : zI W H n ln (zs_a z k i v) := by
  refine ⟨h.1, h.2.1, h.2.2.1, h.2.2.2.1, ?_, fun k' j hj => ?_, h.2.2.2.2.2.2.1, ?_⟩
  · rw [zs_a2, zs_a2, zs_a2, if_neg (Ne.symm hk.1), if_neg (Ne.symm hk.2.1), if_neg (Ne.symm hk.2.2.1)]
    exact h.t
  · rw [zs_a2]
    by_cases e : k' = k
    · subst e
      rw [if_pos rfl]
      by_cases ej : j = i.toNatClampNeg
      · rw [ej, pk_us]
        exact hv
      · rw [pk_un ej]
        exact h.r hj
    · rw [if_neg e]
      exact h.r hj
  · rw [zs_a2, if_neg (Ne.symm hk.2.2.2)]
    exact h.ll
theorem zI.num (h : zI W H n ln z) {k : Nat} {v : Int32} (hk : k = 6 ∨ k = 9 ∨ k = 10) : zI W H n ln (zs_s z k v) := by
  have ne : ∀ j, j ≠ k → (zs_s z k v).1 j = z.1 j := fun j hj => by rw [zs_s1, if_neg hj]
  refine ⟨h.1, h.2.1, h.2.2.1, ?_, h.2.2.2.2.1, h.2.2.2.2.2.1, ?_, ?_⟩
  · rw [ne 0 (by omega), ne 1 (by omega), ne 2 (by omega), ne 3 (by omega), ne 4 (by omega)]
    exact h.2.2.2.1
  · rw [ne 7 (by omega)]
    exact h.s7
  · rw [ne 11 (by omega)]
    exact h.ll
theorem zI.len (h : zI W H n ln z) {m : Nat} (hm : m ≤ 2 * (W * H)) {v : Int32} (hv : v = nI m) : zI W H n ln (zs_s z 7 v) := by
  have ne : ∀ j, j ≠ 7 → (zs_s z 7 v).1 j = z.1 j := fun j hj => by rw [zs_s1, if_neg hj]
  refine ⟨h.1, h.2.1, h.2.2.1, ?_, h.2.2.2.2.1, h.2.2.2.2.2.1, ⟨m, hm, by rw [zs_s1, if_pos rfl, hv]⟩, ?_⟩
  · rw [ne 0 (by omega), ne 1 (by omega), ne 2 (by omega), ne 3 (by omega), ne 4 (by omega)]
    exact h.2.2.2.1
  · rw [ne 11 (by omega)]
    exact h.ll
theorem zT.put (h : zT z0 z) {k : Nat} {i v : Int32} (hk : ¬ (k ≤ 5 ∨ k = 8)) : zT z0 (zs_a z k i v) := fun j hj => ⟨(h j hj).1, by rw [zs_a2, if_neg (by intro e; subst e; exact hk hj)]; exact (h j hj).2⟩
theorem zT.num (h : zT z0 z) {k : Nat} {v : Int32} (hk : ¬ (k ≤ 5 ∨ k = 8)) : zT z0 (zs_s z k v) := fun j hj => ⟨by rw [zs_s1, if_neg (by intro e; subst e; exact hk hj)]; exact (h j hj).1, (h j hj).2⟩
theorem zJ.rf (h : zI W H n ln z) : zJ W H n ln z z := ⟨h, zT.rf⟩
theorem zJ.tr {z1 : zS} (h : zJ W H n ln z0 z) (h' : zJ W H n ln z z1) : zJ W H n ln z0 z1 := ⟨h'.1, h.2.tr h'.2⟩
theorem zJ.put (h : zJ W H n ln z0 z) {k : Nat} {i v : Int32} (hk : k ≠ 0 ∧ k ≠ 1 ∧ k ≠ 2 ∧ k ≠ 17) (hk' : ¬ (k ≤ 5 ∨ k = 8)) (hv : zb_R W H n k v) : zJ W H n ln z0 (zs_a z k i v) := ⟨h.1.put hk hv, h.2.put hk'⟩
theorem zJ.num (h : zJ W H n ln z0 z) {k : Nat} {v : Int32} (hk : k = 6 ∨ k = 9 ∨ k = 10) : zJ W H n ln z0 (zs_s z k v) := ⟨h.1.num hk, h.2.num (by omega)⟩
/-! indices -/
theorem zI.ic (h : zI W H n ln z) {k c : Nat} (hk : k < 18) (hk' : k ≠ 3 ∧ k ≠ 4 ∧ k ≠ 9 ∧ k ≠ 17 ∧ k ≠ 7) (hc : c < 2 * (W * H)) : vp_in (nI c) (ln k) := by
  have hC := h.C
  rw [h.l hk]
  unfold zb_l
  split
  · exact vp_in_nI (by omega) (by omega)
  · rw [if_neg (by omega), if_neg (by omega)]
    exact vp_in_nI hc (by omega)
theorem zI.i6 (h : zI W H n ln z) {k c : Nat} (hk : k = 3 ∨ k = 4 ∨ k = 9 ∨ k = 17) (hc : c < 6) : vp_in (nI c) (ln k) := by
  rw [h.l (by omega)]
  unfold zb_l
  rw [if_neg (by omega), if_pos hk]
  exact vp_in_nI hc (by omega)
theorem zI.i7 (h : zI W H n ln z) {c : Nat} (hc : c < W * H) : vp_in (nI c) (ln 7) := by
  rw [h.l (by omega)]
  exact vp_in_nI (N := W * H) hc (by have := h.d; omega)
theorem zI.ci (h : zI W H n ln z) {c : Nat} (hc : c < 2 * (W * H)) : (nI c).toNatClampNeg = c := nI_clamp (by have := h.C; omega)
theorem zb_l_c {k c : Nat} (hk : k ≠ 3 ∧ k ≠ 4 ∧ k ≠ 9 ∧ k ≠ 17 ∧ k ≠ 7 ∧ k ≠ 2) (hc : c < 2 * (W * H)) : c < zb_l W H k := by
  unfold zb_l
  rw [if_neg (by omega), if_neg (by omega), if_neg (by omega)]
  exact hc
theorem zI.cell (h : zI W H n ln z) {k c : Nat} (hk : k = 10 ∨ k = 12 ∨ k = 15) (hc : c < 2 * (W * H)) : zb_c W H (z.2 k (nI c).toNatClampNeg) := by
  rw [h.ci hc]
  have r := h.r (k := k) (zb_l_c (by omega) hc)
  unfold zb_R at r
  rw [if_pos (by omega)] at r
  exact r
theorem zI.pin (h : zI W H n ln z) {k m : Nat} (hk : k = 3 ∨ k = 4) (hm : m < 6) : zb_c W H (z.2 k (nI m).toNatClampNeg) := by
  rw [nI_clamp (by omega)]
  have r := h.r (k := k) (j := m) (by unfold zb_l; rw [if_neg (by omega), if_pos (by omega)]; exact hm)
  unfold zb_R at r
  rw [if_pos (by omega)] at r
  exact r
theorem zI.own (h : zI W H n ln z) {k c : Nat} (hk : k = 5 ∨ k = 6) (hc : c < 2 * (W * H)) : z.2 k (nI c).toNatClampNeg = -1 ∨ zb_n n (z.2 k (nI c).toNatClampNeg) := by
  rw [h.ci hc]
  have r := h.r (k := k) (zb_l_c (by omega) hc)
  unfold zb_R at r
  rw [if_neg (by omega), if_pos hk] at r
  exact r
theorem zI.bool (h : zI W H n ln z) {k c : Nat} (hk : k = 8 ∨ k = 11) (hc : c < 2 * (W * H)) : z.2 k (nI c).toNatClampNeg = 0 ∨ z.2 k (nI c).toNatClampNeg = 1 := by
  rw [h.ci hc]
  have r := h.r (k := k) (zb_l_c (by omega) hc)
  unfold zb_R at r
  rw [if_neg (by omega), if_neg (by omega), if_pos (by omega)] at r
  exact r
theorem zI.vb (h : zI W H n ln z) {c : Nat} (hc : c < W * H) : z.2 7 (nI c).toNatClampNeg = 0 ∨ z.2 7 (nI c).toNatClampNeg = 1 := by
  rw [nI_clamp (by have := h.d; omega)]
  exact h.r (k := 7) hc
theorem zb_nar (v : Int32) : vp_nar .boolean v = 0 ∨ vp_nar .boolean v = 1 := by
  show v &&& 1 = 0 ∨ v &&& 1 = 1
  obtain ⟨j, hj, e⟩ := zl_and v 1
  rw [show (1 : Int32) = nI 1 from rfl, e]
  have : j = 0 ∨ j = 1 := by omega
  rcases this with rfl | rfl
  · exact Or.inl rfl
  · exact Or.inr rfl
theorem zb_bn {v : Int32} (h : v = 0 ∨ v = 1) : narrow .boolean (.int v) = .int v := by
  rcases h with rfl | rfl <;> rfl
theorem zb_n_n1 {n : Nat} (hn : n ≤ 6) {v : Int32} (h : zb_n n v) : ¬ v = -1 := by
  obtain ⟨m, hm, rfl⟩ := h
  exact zp_n1 (by omega)
/-! readers -/
theorem zc_next (h : zI W H n ln z) {c d : Nat} (hc : c < 2 * (W * H)) (hd : d < 5) {post : Int32 → zS → Prop} (hp : post (zg_B W H c d) z) : zw_Grid_next ln (nI c) (nI d) z post := by
  have hC := h.C
  have e : nI c * 5 + nI d = nI (c * 5 + d) := by rw [show (5 : Int32) = nI 5 from rfl, nI_mul, nI_add]
  unfold zw_Grid_next
  rw [e, nI_clamp (by omega), (h.t c hc).2.2 d hd, h.l (by omega)]
  exact ⟨vp_in_nI (N := 2 * (W * H) * 5) (by omega) (by omega), hp⟩
theorem zc_nx (h : zI W H n ln z) {c d : Nat} (hc : c < 2 * (W * H)) (hd : d < 5) {post : Int32 → zS → Prop} (h1 : zg_B W H c d = -1 → post (-1) z) (h2 : ∀ c', c' < 2 * (W * H) → zg_B W H c d = nI c' → post (nI c') z) : zw_Grid_next ln (nI c) (nI d) z post := by
  refine zc_next h hc hd ?_
  rcases zg_B_in (W := W) (H := H) (c := c) (d := d) h.d.1 h.d.2.2.1 hc with e | ⟨c', hc', e⟩
  · rw [e]
    exact h1 e
  · rw [e]
    exact h2 c' hc' e
theorem zc_placeOf (h : zI W H n ln z) {c : Nat} (hc : c < 2 * (W * H)) {post : Int32 → zS → Prop} (hp : ∀ p, p < W * H → p = c % (W * H) → post (nI p) z) : zw_Grid_placeOf ln (nI c) z post := by
  have hd := h.d
  have hpos : 0 < W * H := Nat.mul_pos (by omega) (by omega)
  unfold zw_Grid_placeOf
  rw [h.s2]
  by_cases hl : W * H ≤ c
  · refine zp_if (nI_le hl (by omega)) ?_
    rw [nI_sub hl]
    refine hp _ (by omega) ?_
    rw [Nat.mod_eq_sub_mod hl, Nat.mod_eq_of_lt (by omega)]
  · exact zp_ifn (nI_ge (by omega) (by omega)) (hp _ (by omega) (Nat.mod_eq_of_lt (by omega)).symm)
/-- another net is on the cell, or, spaced, beside it -/
def zb_K (W H : Nat) (sp : Int32) (f : Nat → Int32) (c : Nat) (m : Int32) : Prop := (¬ f c = -1 ∧ ¬ f c = m) ∨ (¬ sp = 0 ∧ ∃ d, d < 4 ∧ ∃ c', c' < 2 * (W * H) ∧ zg_B W H c d = nI c' ∧ ¬ f c' = -1 ∧ ¬ f c' = m)
theorem zm_lt {c N : Nat} (h : c < N) (hN : N < 2 ^ 30) : N - (nI c + 1).toNatClampNeg < N - (nI c).toNatClampNeg := by
  rw [nI_1, nI_clamp (by omega), nI_clamp (by omega)]
  omega
theorem zc_close5 (h : zI W H n ln z) {c : Nat} (hc : c < 2 * (W * H)) {m : Int32} {post : Int32 → zS → Prop} (hp : ∀ r, (r = 0 ∨ r = 1) → (¬ r = 0 ↔ zb_K W H (z.1 5) (z.2 5) c m) → post r z) : zw_Rules_isClose_8 ln (nI c) m z post := by
  have hC := h.C
  have one : zb_K W H (z.1 5) (z.2 5) c m → post 1 z := fun hK => hp 1 (Or.inr rfl) ⟨fun _ => hK, fun _ => by decide⟩
  have zero : ¬ zb_K W H (z.1 5) (z.2 5) c m → post 0 z := fun hK => hp 0 (Or.inl rfl) ⟨fun h => absurd rfl h, fun h => absurd h hK⟩
  have key : (z.2 5 c = -1 ∨ z.2 5 c = m) → zw_Rules_isClose_8_16 ln post (nI c) m z := fun h0 => by
    have lp : ∀ lim : Nat, ((lim = 0 ∧ z.1 5 = 0) ∨ (lim = 4 ∧ ¬ z.1 5 = 0)) → zw_Rules_isClose_8_33 ln post m (nI c * 5) (nI lim) z := by
      intro lim h5
      have hlim : lim ≤ 4 := by rcases h5 with h5 | h5 <;> omega
      refine zq_Lp_I (I := fun q => ∃ d, d ≤ lim ∧ (∀ d', d' < d → ∀ c', c' < 2 * (W * H) → zg_B W H c d' = nI c' → z.2 5 c' = -1 ∨ z.2 5 c' = m) ∧ q = (m, nI c * 5, nI lim, nI d, z)) (μ := fun q => 4 - q.2.2.2.1.toNatClampNeg) ?_ ⟨0, Nat.zero_le _, fun d' hd' => absurd hd' (Nat.not_lt_zero _), rfl⟩
      rintro k q ⟨d, hd, hI, rfl⟩ hk
      by_cases hl : lim ≤ d
      · refine zp_if (nI_le hl (by omega)) ⟨zp_b0, zero ?_⟩
        rintro (⟨k1, k2⟩ | ⟨k1, d', hd', c', hc', k2, k3, k4⟩)
        · rcases h0 with h0 | h0
          · exact k1 h0
          · exact k2 h0
        · have e4 : lim = 4 := by
            rcases h5 with h5 | h5
            · exact absurd h5.2 k1
            · exact h5.1
          rcases hI d' (by omega) c' hc' k2 with e | e
          · exact k3 e
          · exact k4 e
      have next : (∀ c', c' < 2 * (W * H) → zg_B W H c d = nI c' → z.2 5 c' = -1 ∨ z.2 5 c' = m) → zw_Rules_isClose_8_84 ln post k m (nI c * 5) (nI lim) (nI d) z := fun hn => by
        refine hk _ ⟨d + 1, by omega, fun d' hd' => ?_, by rw [nI_1]⟩ (zm_lt (c := d) (N := 4) (by omega) (by decide))
        by_cases e : d' = d
        · subst e
          exact hn
        · exact hI d' (by omega)
      refine zp_ifn (nI_ge (by omega) (by omega)) ?_
      have e : nI c * 5 + nI d = nI (c * 5 + d) := by rw [show (5 : Int32) = nI 5 from rfl, nI_mul, nI_add]
      rw [e, nI_clamp (by omega), (h.t c hc).2.2 d (by omega)]
      refine ⟨by rw [h.l (by omega)]; exact vp_in_nI (N := 2 * (W * H) * 5) (by omega) (by omega), ?_⟩
      rcases zg_B_in (W := W) (H := H) (c := c) (d := d) h.d.1 h.d.2.2.1 hc with h1 | ⟨c', hc', h1⟩
      · rw [h1]
        exact zp_if rfl (next (fun c' hc' e' => absurd (h1.symm.trans e').symm (zp_n1 (by omega))))
      · rw [h1]
        refine zp_ifn (zp_n1 (by omega)) ⟨h.ic (k := 5) (by omega) (by omega) hc', ?_⟩
        rw [h.ci hc']
        have uq : ∀ c'', c'' < 2 * (W * H) → zg_B W H c d = nI c'' → c'' = c' := fun c'' hc'' e'' => (nI_eq (by omega) (by omega)).mp (e''.symm.trans h1)
        by_cases k1 : z.2 5 c' = -1
        · exact zp_if k1 (next (fun c'' hc'' e'' => by rw [uq c'' hc'' e'']; exact Or.inl k1))
        refine zp_ifn k1 ⟨h.ic (k := 5) (by omega) (by omega) hc', ?_⟩
        by_cases k2 : z.2 5 c' = m
        · exact zp_if k2 (next (fun c'' hc'' e'' => by rw [uq c'' hc'' e'']; exact Or.inr k2))
        · refine zp_ifn k2 ⟨zp_b1, one (Or.inr ⟨?_, d, by omega, c', hc', h1, k1, k2⟩)⟩
          rcases h5 with h5 | h5
          · omega
          · exact h5.2
    by_cases h5 : z.1 5 = 0
    · exact zp_if h5 (lp 0 (Or.inl ⟨rfl, h5⟩))
    · exact zp_ifn h5 (lp 4 (Or.inr ⟨rfl, h5⟩))
  unfold zw_Rules_isClose_8
  rw [h.ci hc]
  refine ⟨h.ic (k := 5) (by omega) (by omega) hc, ?_⟩
  by_cases k1 : z.2 5 c = -1
  · exact zp_if k1 (key (Or.inl k1))
  refine zp_ifn k1 ⟨h.ic (k := 5) (by omega) (by omega) hc, ?_⟩
  by_cases k2 : z.2 5 c = m
  · exact zp_if k2 (key (Or.inr k2))
  · exact zp_ifn k2 ⟨zp_b1, one (Or.inl ⟨k1, k2⟩)⟩
theorem zc_close6 (h : zI W H n ln z) {c : Nat} (hc : c < 2 * (W * H)) {m : Int32} {post : Int32 → zS → Prop} (hp : ∀ r, (r = 0 ∨ r = 1) → (¬ r = 0 ↔ zb_K W H (z.1 5) (z.2 6) c m) → post r z) : zw_Rules_isClose_10 ln (nI c) m z post := by
  have hC := h.C
  have one : zb_K W H (z.1 5) (z.2 6) c m → post 1 z := fun hK => hp 1 (Or.inr rfl) ⟨fun _ => hK, fun _ => by decide⟩
  have zero : ¬ zb_K W H (z.1 5) (z.2 6) c m → post 0 z := fun hK => hp 0 (Or.inl rfl) ⟨fun h => absurd rfl h, fun h => absurd h hK⟩
  have key : (z.2 6 c = -1 ∨ z.2 6 c = m) → zw_Rules_isClose_10_16 ln post (nI c) m z := fun h0 => by
    have lp : ∀ lim : Nat, ((lim = 0 ∧ z.1 5 = 0) ∨ (lim = 4 ∧ ¬ z.1 5 = 0)) → zw_Rules_isClose_10_33 ln post m (nI c * 5) (nI lim) z := by
      intro lim h5
      have hlim : lim ≤ 4 := by rcases h5 with h5 | h5 <;> omega
      refine zq_Lp_I (I := fun q => ∃ d, d ≤ lim ∧ (∀ d', d' < d → ∀ c', c' < 2 * (W * H) → zg_B W H c d' = nI c' → z.2 6 c' = -1 ∨ z.2 6 c' = m) ∧ q = (m, nI c * 5, nI lim, nI d, z)) (μ := fun q => 4 - q.2.2.2.1.toNatClampNeg) ?_ ⟨0, Nat.zero_le _, fun d' hd' => absurd hd' (Nat.not_lt_zero _), rfl⟩
      rintro k q ⟨d, hd, hI, rfl⟩ hk
      by_cases hl : lim ≤ d
      · refine zp_if (nI_le hl (by omega)) ⟨zp_b0, zero ?_⟩
        rintro (⟨k1, k2⟩ | ⟨k1, d', hd', c', hc', k2, k3, k4⟩)
        · rcases h0 with h0 | h0
          · exact k1 h0
          · exact k2 h0
        · have e4 : lim = 4 := by
            rcases h5 with h5 | h5
            · exact absurd h5.2 k1
            · exact h5.1
          rcases hI d' (by omega) c' hc' k2 with e | e
          · exact k3 e
          · exact k4 e
      have next : (∀ c', c' < 2 * (W * H) → zg_B W H c d = nI c' → z.2 6 c' = -1 ∨ z.2 6 c' = m) → zw_Rules_isClose_10_84 ln post k m (nI c * 5) (nI lim) (nI d) z := fun hn => by
        refine hk _ ⟨d + 1, by omega, fun d' hd' => ?_, by rw [nI_1]⟩ (zm_lt (c := d) (N := 4) (by omega) (by decide))
        by_cases e : d' = d
        · subst e
          exact hn
        · exact hI d' (by omega)
      refine zp_ifn (nI_ge (by omega) (by omega)) ?_
      have e : nI c * 5 + nI d = nI (c * 5 + d) := by rw [show (5 : Int32) = nI 5 from rfl, nI_mul, nI_add]
      rw [e, nI_clamp (by omega), (h.t c hc).2.2 d (by omega)]
      refine ⟨by rw [h.l (by omega)]; exact vp_in_nI (N := 2 * (W * H) * 5) (by omega) (by omega), ?_⟩
      rcases zg_B_in (W := W) (H := H) (c := c) (d := d) h.d.1 h.d.2.2.1 hc with h1 | ⟨c', hc', h1⟩
      · rw [h1]
        exact zp_if rfl (next (fun c' hc' e' => absurd (h1.symm.trans e').symm (zp_n1 (by omega))))
      · rw [h1]
        refine zp_ifn (zp_n1 (by omega)) ⟨h.ic (k := 6) (by omega) (by omega) hc', ?_⟩
        rw [h.ci hc']
        have uq : ∀ c'', c'' < 2 * (W * H) → zg_B W H c d = nI c'' → c'' = c' := fun c'' hc'' e'' => (nI_eq (by omega) (by omega)).mp (e''.symm.trans h1)
        by_cases k1 : z.2 6 c' = -1
        · exact zp_if k1 (next (fun c'' hc'' e'' => by rw [uq c'' hc'' e'']; exact Or.inl k1))
        refine zp_ifn k1 ⟨h.ic (k := 6) (by omega) (by omega) hc', ?_⟩
        by_cases k2 : z.2 6 c' = m
        · exact zp_if k2 (next (fun c'' hc'' e'' => by rw [uq c'' hc'' e'']; exact Or.inr k2))
        · refine zp_ifn k2 ⟨zp_b1, one (Or.inr ⟨?_, d, by omega, c', hc', h1, k1, k2⟩)⟩
          rcases h5 with h5 | h5
          · omega
          · exact h5.2
    by_cases h5 : z.1 5 = 0
    · exact zp_if h5 (lp 0 (Or.inl ⟨rfl, h5⟩))
    · exact zp_ifn h5 (lp 4 (Or.inr ⟨rfl, h5⟩))
  unfold zw_Rules_isClose_10
  rw [h.ci hc]
  refine ⟨h.ic (k := 6) (by omega) (by omega) hc, ?_⟩
  by_cases k1 : z.2 6 c = -1
  · exact zp_if k1 (key (Or.inl k1))
  refine zp_ifn k1 ⟨h.ic (k := 6) (by omega) (by omega) hc, ?_⟩
  by_cases k2 : z.2 6 c = m
  · exact zp_if k2 (key (Or.inr k2))
  · exact zp_ifn k2 ⟨zp_b1, one (Or.inl ⟨k1, k2⟩)⟩
end ZC
