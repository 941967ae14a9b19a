/-! the pure part: what the predicates say, out of both sides' states -/
theorem zp_if {p A B : Prop} (hp : p) (h : A) : (p → A) ∧ (¬ p → B) := ⟨fun _ => h, fun hn => absurd hp hn⟩
theorem zp_ifn {p A B : Prop} (hp : ¬ p) (h : B) : (p → A) ∧ (¬ p → B) := ⟨fun h' => absurd h' hp, fun _ => h⟩
theorem zp_fi {p A B : Prop} (hp : p) (h : B) : (¬ p → A) ∧ (p → B) := ⟨fun hn => absurd hp hn, fun _ => h⟩
theorem zp_fin {p A B : Prop} (hp : ¬ p) (h : A) : (¬ p → A) ∧ (p → B) := ⟨fun _ => h, fun h' => absurd h' hp⟩
theorem zp_b0 : narrow .boolean (.int 0) = .int 0 := rfl
theorem zp_b1 : narrow .boolean (.int 1) = .int 1 := rfl
theorem zp_nat {a : Int32} {N : Nat} (hN : N < 2 ^ 31) (h0 : ¬ a < 0) (h1 : ¬ nI N ≤ a) : ∃ j, j < N ∧ a = nI j := by
  obtain ⟨j, hj, rfl⟩ := nI_of h0
  exact ⟨j, Nat.lt_of_not_le (fun h => h1 ((nI_leI hN hj).mpr h)), rfl⟩
theorem zp_n1 {c : Nat} (h : c < 2 ^ 31) : ¬ nI c = -1 := fun e => by
  have h2 := nI_toInt h
  rw [e] at h2
  have h3 : (-1 : Int32).toInt = -1 := by decide
  rw [h3] at h2
  omega
theorem nI_div {a b : Nat} (ha : a < 2 ^ 31) (hb : b < 2 ^ 31) : nI a / nI b = nI (a / b) := by
  apply Int32.toInt_inj.mp
  have h : a / b < 2 ^ 31 := Nat.lt_of_le_of_lt (Nat.div_le_self a b) ha
  rw [Int32.toInt_div, nI_toInt ha, nI_toInt hb, nI_toInt h]
  rw [← Int.ofNat_tdiv]
  generalize a / b = q at h ⊢
  apply Int.bmod_eq_of_le <;> omega
theorem nI_mod {a b : Nat} (ha : a < 2 ^ 31) (hb : b < 2 ^ 31) : nI a - nI a / nI b * nI b = nI (a % b) := by
  rw [nI_div ha hb, nI_mul, nI_sub (Nat.div_mul_le_self a b)]
  congr 1
  have := Nat.div_add_mod a b
  rw [Nat.mul_comm] at this
  omega
theorem zg_dec {W H c : Nat} (hW : 0 < W) (hH : 0 < H) (hc : c < 2 * (W * H)) : ∃ l y x, l < 2 ∧ y < H ∧ x < W ∧ c = (l * H + y) * W + x ∧ c % W = x ∧ c / W % H = y ∧ c / (W * H) = l := by
  refine ⟨c / (W * H), c / W % H, c % W, ?_, Nat.mod_lt _ hH, Nat.mod_lt _ hW, ?_, rfl, rfl, rfl⟩
  · exact (Nat.div_lt_iff_lt_mul (Nat.mul_pos hW hH)).mpr hc
  · have h1 := Nat.div_add_mod c W
    have h2 := Nat.div_add_mod (c / W) H
    rw [Nat.div_div_eq_div_mul] at h2
    rw [Nat.mul_comm (c / (W * H)) H, h2, Nat.mul_comm]
    omega
/-- both sides' measures -/
def zp_V (W H : Nat) (z g : zS) : Prop := (2 ≤ W ∧ W ≤ 9 ∧ 2 ≤ H ∧ H ≤ 9 ∧ W * H ≤ 81) ∧ z.1 0 = nI W ∧ z.1 1 = nI H ∧ z.1 2 = nI (W * H) ∧ z.1 3 = nI (2 * (W * H)) ∧ g.1 0 = nI W ∧ g.1 1 = nI H ∧ g.1 3 = z.1 5
theorem zp_place {W H : Nat} {z g : zS} (hV : zp_V W H z g) (a1 a2 : Int32) : (∃ x y, x < W ∧ y < H ∧ a1 = nI x ∧ a2 = nI y ∧ (∀ ln post, post 1 z → zw_Grid_hasPlace ln a1 a2 z post) ∧ (∀ post, post 1 g → zw_Mo_isPlace a1 a2 g post)) ∨ ((∀ ln post, post 0 z → zw_Grid_hasPlace ln a1 a2 z post) ∧ (∀ post, post 0 g → zw_Mo_isPlace a1 a2 g post)) := by
  obtain ⟨⟨w2, w9, h2, h9, ha⟩, z0, z1, z2, z3, g0, g1, g3⟩ := hV
  by_cases c1 : a1 < 0
  · exact Or.inr ⟨fun ln post h => zp_if c1 ⟨zp_b0, h⟩, fun post h => zp_if c1 ⟨zp_b0, h⟩⟩
  by_cases c2 : nI W ≤ a1
  · exact Or.inr ⟨fun ln post h => zp_ifn c1 (zp_if (by rw [z0]; exact c2) ⟨zp_b0, h⟩), fun post h => zp_ifn c1 (zp_if (by rw [g0]; exact c2) ⟨zp_b0, h⟩)⟩
  by_cases c3 : a2 < 0
  · exact Or.inr ⟨fun ln post h => zp_ifn c1 (zp_ifn (by rw [z0]; exact c2) (zp_if c3 ⟨zp_b0, h⟩)), fun post h => zp_ifn c1 (zp_ifn (by rw [g0]; exact c2) (zp_if c3 ⟨zp_b0, h⟩))⟩
  by_cases c4 : nI H ≤ a2
  · exact Or.inr ⟨fun ln post h => zp_ifn c1 (zp_ifn (by rw [z0]; exact c2) (zp_ifn c3 (zp_if (by rw [z1]; exact c4) ⟨zp_b0, h⟩))), fun post h => zp_ifn c1 (zp_ifn (by rw [g0]; exact c2) (zp_ifn c3 (zp_if (by rw [g1]; exact c4) ⟨zp_b0, h⟩)))⟩
  obtain ⟨x, hx, e1⟩ := zp_nat (by omega) c1 c2
  obtain ⟨y, hy, e2⟩ := zp_nat (by omega) c3 c4
  exact Or.inl ⟨x, y, hx, hy, e1, e2, fun ln post h => zp_ifn c1 (zp_ifn (by rw [z0]; exact c2) (zp_ifn c3 (zp_ifn (by rw [z1]; exact c4) ⟨zp_b1, h⟩))), fun post h => zp_ifn c1 (zp_ifn (by rw [g0]; exact c2) (zp_ifn c3 (zp_ifn (by rw [g1]; exact c4) ⟨zp_b1, h⟩)))⟩
theorem zp_ix (W H l x y : Nat) : ((nI l * nI H) + nI y) * nI W + nI x = nI ((l * H + y) * W + x) := by
  rw [nI_mul, nI_add, nI_mul, nI_add]
theorem zp_ix2 (W H l x y : Nat) : (nI l * nI (W * H) + nI y * nI W) + nI x = nI ((l * H + y) * W + x) := by
  rw [nI_mul, nI_mul, nI_add, nI_add, Nat.add_mul, Nat.mul_assoc, Nat.mul_comm H W]
theorem zp_cell {W H : Nat} {z g : zS} (hV : zp_V W H z g) (a1 a2 a3 : Int32) : (∃ c, c < 2 * (W * H) ∧ (∀ ln post, post 1 z → zw_Grid_hasCell ln a1 a2 a3 z post) ∧ (∀ ln post, post (nI c) z → zw_Grid_cellAt ln a1 a2 a3 z post) ∧ (∀ post, post (nI c) g → zw_Mo_at a1 a2 a3 g post)) ∨ ((∀ ln post, post 0 z → zw_Grid_hasCell ln a1 a2 a3 z post) ∧ (∀ post, post (-1) g → zw_Mo_at a1 a2 a3 g post)) := by
  obtain ⟨⟨w2, w9, h2, h9, ha⟩, z0, z1, z2, z3, g0, g1, g3⟩ := id hV
  have n10 : ¬ (1 : Int32) = 0 := by decide
  rcases zp_place hV a2 a3 with ⟨x, y, hx, hy, e2, e3, hz, hg⟩ | ⟨hz, hg⟩
  · by_cases c1 : a1 < 0
    · have k0 : ¬ a1 = 0 := fun e => by rw [e] at c1; exact absurd c1 (by decide)
      have k1 : ¬ a1 = 1 := fun e => by rw [e] at c1; exact absurd c1 (by decide)
      exact Or.inr ⟨fun ln post h => zp_if c1 ⟨zp_b0, h⟩, fun post h => hg _ (zp_ifn n10 (zp_ifn k0 (zp_fin k1 h)))⟩
    by_cases c2 : (2 : Int32) ≤ a1
    · have k0 : ¬ a1 = 0 := fun e => by rw [e] at c2; exact absurd c2 (by decide)
      have k1 : ¬ a1 = 1 := fun e => by rw [e] at c2; exact absurd c2 (by decide)
      exact Or.inr ⟨fun ln post h => zp_ifn c1 (zp_if c2 ⟨zp_b0, h⟩), fun post h => hg _ (zp_ifn n10 (zp_ifn k0 (zp_fin k1 h)))⟩
    obtain ⟨l, hl, e1⟩ := zp_nat (N := 2) (by decide) c1 c2
    refine Or.inl ⟨(l * H + y) * W + x, (zg_c hl hy hx).1, fun ln post h => zp_ifn c1 (zp_ifn c2 (hz ln _ (zp_ifn n10 ⟨zp_b1, h⟩))), fun ln post h => ?_, fun post h => ?_⟩
    · show post (((a1 * (z.1 2)) + (a3 * (z.1 0))) + a2) z
      rw [z2, z0, e1, e2, e3, zp_ix2]
      exact h
    · have h' : zw_Mo_at_18 post a1 a2 a3 g := by
        show post ((((a1 * (g.1 1)) + a3) * (g.1 0)) + a2) g
        rw [g0, g1, e1, e2, e3, zp_ix]
        exact h
      have hl2 : l = 0 ∨ l = 1 := by omega
      rcases hl2 with rfl | rfl
      · exact hg _ (zp_ifn n10 (zp_if e1 h'))
      · exact hg _ (zp_ifn n10 (zp_ifn (by rw [e1]; decide) (zp_fi e1 h')))
  · refine Or.inr ⟨fun ln post h => ?_, fun post h => hg _ (zp_if rfl h)⟩
    by_cases c1 : a1 < 0
    · exact zp_if c1 ⟨zp_b0, h⟩
    by_cases c2 : (2 : Int32) ≤ a1
    · exact zp_ifn c1 (zp_if c2 ⟨zp_b0, h⟩)
    exact zp_ifn c1 (zp_ifn c2 (hz ln _ (zp_if rfl ⟨zp_b0, h⟩)))
/-- the reference's at, where the cell is there, and where it is not -/
theorem zp_at {W H : Nat} {g : zS} (hW : W ≤ 9) (hH : H ≤ 9) (g0 : g.1 0 = nI W) (g1 : g.1 1 = nI H) {l x y : Nat} (hl : l < 2) (hx : x < W) (hy : y < H) {post : Int32 → zS → Prop} (h : post (nI ((l * H + y) * W + x)) g) : zw_Mo_at (nI l) (nI x) (nI y) g post := by
  have h' : zw_Mo_at_18 post (nI l) (nI x) (nI y) g := by
    show post ((((nI l * (g.1 1)) + nI y) * (g.1 0)) + nI x) g
    rw [g0, g1, zp_ix]
    exact h
  refine zp_ifn (nI_pos (by omega)) (zp_ifn (by rw [g0]; exact nI_ge hx (by omega)) (zp_ifn (nI_pos (by omega)) (zp_ifn (by rw [g1]; exact nI_ge hy (by omega)) ⟨zp_b1, zp_ifn (by decide) ?_⟩)))
  have hl2 : l = 0 ∨ l = 1 := by omega
  rcases hl2 with rfl | rfl
  · exact zp_if rfl h'
  · exact zp_ifn (by decide) (zp_fi rfl h')
theorem zp_atn {g : zS} {a1 a2 a3 : Int32} (h : a2 < 0 ∨ g.1 0 ≤ a2 ∨ a3 < 0 ∨ g.1 1 ≤ a3) {post : Int32 → zS → Prop} (hp : post (-1) g) : zw_Mo_at a1 a2 a3 g post := by
  have h0 : zw_Mo_isPlace_28 (fun r55 z55 => ((r55 = 0 → zw_Mo_at_36 post z55) ∧ (¬ r55 = 0 → ((a1 = 0 → zw_Mo_at_18 post a1 a2 a3 z55) ∧ (¬ a1 = 0 → ((¬ a1 = (1 : Int32) → zw_Mo_at_36 post z55) ∧ (a1 = (1 : Int32) → zw_Mo_at_18 post a1 a2 a3 z55))))))) g := ⟨zp_b0, zp_if rfl hp⟩
  by_cases c1 : a2 < 0
  · exact zp_if c1 h0
  by_cases c2 : g.1 0 ≤ a2
  · exact zp_ifn c1 (zp_if c2 h0)
  by_cases c3 : a3 < 0
  · exact zp_ifn c1 (zp_ifn c2 (zp_if c3 h0))
  by_cases c4 : g.1 1 ≤ a3
  · exact zp_ifn c1 (zp_ifn c2 (zp_ifn c3 (zp_if c4 h0)))
  · rcases h with h | h | h | h
    · exact absurd h c1
    · exact absurd h c2
    · exact absurd h c3
    · exact absurd h c4
theorem zp_neg : nI 0 - (1 : Int32) < 0 := by decide
/-- the reference's side is the class's table -/
theorem zp_side {W H : Nat} {g : zS} (hW2 : 2 ≤ W) (hW : W ≤ 9) (hH2 : 2 ≤ H) (hH : H ≤ 9) (hA : W * H ≤ 81) (g0 : g.1 0 = nI W) (g1 : g.1 1 = nI H) {c d : Nat} (hc : c < 2 * (W * H)) (hd : d < 5) {post : Int32 → zS → Prop} (h : post (zg_B W H c d) g) : zw_Mo_side (nI c) (nI d) g post := by
  have n0 : ¬ g.1 0 = 0 := by rw [g0]; exact nI_ne0 (by omega) (by omega)
  have n1 : ¬ g.1 1 = 0 := by rw [g1]; exact nI_ne0 (by omega) (by omega)
  have n2 : ¬ g.1 0 * g.1 1 = 0 := by rw [g0, g1, nI_mul]; exact nI_ne0 (Nat.mul_pos (by omega) (by omega)) (by omega)
  refine ⟨n0, n0, n1, n2, ?_⟩
  rw [g0, g1, nI_mul, nI_mod (by omega) (by omega), nI_div (a := c) (b := W) (by omega) (by omega), nI_div (a := c) (b := W * H) (by omega) (by omega), nI_mod (a := c / W) (b := H) (Nat.lt_of_le_of_lt (Nat.div_le_self c W) (by omega)) (by omega)]
  unfold zg_B at h
  obtain ⟨l, y, x, hl, hy, hx, e, e1, e2, e3⟩ := zg_dec (W := W) (H := H) (by omega) (by omega) hc
  rw [e1, e2] at h
  rw [e1, e2, e3]
  have hd2 : d = 0 ∨ d = 1 ∨ d = 2 ∨ d = 3 ∨ d = 4 := by omega
  rcases hd2 with rfl | rfl | rfl | rfl | rfl
  · rw [if_pos rfl] at h
    refine zp_fin (by decide) (zp_fi rfl (zp_fin (by decide) (zp_fin (by decide) ?_)))
    by_cases hx0 : 0 < x
    · rw [if_pos hx0] at h
      show zw_Mo_at _ _ _ _ _
      rw [show nI x - (1 : Int32) = nI (x - 1) from nI_sub (b := 1) (by omega)]
      refine zp_at hW hH g0 g1 hl (by omega) hy ?_
      rw [show (l * H + y) * W + (x - 1) = c - 1 by omega]
      exact h
    · rw [if_neg hx0] at h
      have : x = 0 := by omega
      subst this
      exact zp_atn (Or.inl zp_neg) h
  · rw [if_neg (by omega), if_pos rfl] at h
    refine zp_fin (by decide) (zp_fin (by decide) (zp_fi rfl (zp_fin (by decide) (zp_fin (by decide) ?_))))
    rw [show nI x + (1 : Int32) = nI (x + 1) from nI_1 x]
    by_cases hx0 : x + 1 < W
    · rw [if_pos hx0] at h
      refine zp_at hW hH g0 g1 hl hx0 hy ?_
      rw [show (l * H + y) * W + (x + 1) = c + 1 by omega]
      exact h
    · rw [if_neg hx0] at h
      exact zp_atn (Or.inr (Or.inl (by rw [g0]; exact nI_le (by omega) (by omega)))) h
  · rw [if_neg (by omega), if_neg (by omega), if_pos rfl] at h
    refine zp_fin (by decide) (zp_fin (by decide) (zp_fin (by decide) (zp_fi rfl ?_)))
    by_cases hy0 : 0 < y
    · rw [if_pos hy0] at h
      show zw_Mo_at _ _ _ _ _
      rw [show nI y - (1 : Int32) = nI (y - 1) from nI_sub (b := 1) (by omega)]
      refine zp_at hW hH g0 g1 hl hx (by omega) ?_
      have e4 : (l * H + y) * W = (l * H + (y - 1)) * W + W := by
        rw [← Nat.succ_mul]
        congr 1
        omega
      rw [show (l * H + (y - 1)) * W + x = c - W by omega]
      exact h
    · rw [if_neg hy0] at h
      have : y = 0 := by omega
      subst this
      exact zp_atn (Or.inr (Or.inr (Or.inl zp_neg))) h
  · rw [if_neg (by omega), if_neg (by omega), if_neg (by omega), if_pos rfl] at h
    refine zp_fin (by decide) (zp_fin (by decide) (zp_fin (by decide) (zp_fin (by decide) (zp_fi rfl ?_))))
    rw [show nI y + (1 : Int32) = nI (y + 1) from nI_1 y]
    by_cases hy0 : y + 1 < H
    · rw [if_pos hy0] at h
      refine zp_at hW hH g0 g1 hl hx hy0 ?_
      have e4 : (l * H + (y + 1)) * W = (l * H + y) * W + W := Nat.succ_mul _ _
      rw [show (l * H + (y + 1)) * W + x = c + W by omega]
      exact h
    · rw [if_neg hy0] at h
      exact zp_atn (Or.inr (Or.inr (Or.inr (by rw [g1]; exact nI_le (by omega) (by omega))))) h
  · rw [if_neg (by omega), if_neg (by omega), if_neg (by omega), if_neg (by omega)] at h
    refine zp_fi rfl ?_
    have e5 : 1 * H + y = H + y := by omega
    have hl2 : l = 0 ∨ l = 1 := by omega
    rcases hl2 with rfl | rfl
    · have e6 : (1 * H + y) * W + x = c + W * H := by
        rw [e5, Nat.add_mul, Nat.mul_comm H W]
        rw [Nat.zero_mul, Nat.zero_add] at e
        omega
      rw [if_pos (by have := (Nat.div_eq_zero_iff_lt (Nat.mul_pos (show 0 < W by omega) (show 0 < H by omega))).mp e3; exact this)] at h
      show zw_Mo_at _ _ _ _ _
      rw [show (1 : Int32) - nI 0 = nI 1 from by decide]
      refine zp_at hW hH g0 g1 (by omega) hx hy ?_
      rw [e6]
      exact h
    · have e6 : c = W * H + ((0 * H + y) * W + x) := by
        rw [e, Nat.add_mul, Nat.one_mul, Nat.mul_comm H W, Nat.zero_mul, Nat.zero_add]
        omega
      rw [if_neg (by omega)] at h
      show zw_Mo_at _ _ _ _ _
      rw [show (1 : Int32) - nI 1 = nI 0 from by decide]
      refine zp_at hW hH g0 g1 (by omega) hx hy ?_
      rw [show (0 * H + y) * W + x = c - W * H by omega]
      exact h
/-- a neighbour is a cell, or none -/
theorem zg_B_in {W H c d : Nat} (hW2 : 2 ≤ W) (hH2 : 2 ≤ H) (hc : c < 2 * (W * H)) : zg_B W H c d = -1 ∨ ∃ c', c' < 2 * (W * H) ∧ zg_B W H c d = nI c' := by
  obtain ⟨l, y, x, hl, hy, hx, e, e1, e2, e3⟩ := zg_dec (W := W) (H := H) (by omega) (by omega) hc
  unfold zg_B
  rw [e1, e2]
  split
  · split
    · exact Or.inr ⟨c - 1, by omega, rfl⟩
    · exact Or.inl rfl
  split
  · split
    · rename_i h
      have := (zg_c hl hy h).1
      exact Or.inr ⟨c + 1, by omega, rfl⟩
    · exact Or.inl rfl
  split
  · split
    · exact Or.inr ⟨c - W, by omega, rfl⟩
    · exact Or.inl rfl
  split
  · split
    · rename_i h
      have := (zg_c hl h hx).1
      have e4 : (l * H + (y + 1)) * W = (l * H + y) * W + W := Nat.succ_mul _ _
      exact Or.inr ⟨c + W, by omega, rfl⟩
    · exact Or.inl rfl
  split
  · exact Or.inr ⟨c + W * H, by omega, rfl⟩
  · exact Or.inr ⟨c - W * H, by omega, rfl⟩
theorem zp_many {W H : Nat} {g : zS} (g0 : g.1 0 = nI W) (g1 : g.1 1 = nI H) {post : Int32 → zS → Prop} (h : post (nI (2 * (W * H))) g) : zw_Mo_many g post := by
  show post (((2 : Int32) * (g.1 0)) * (g.1 1)) g
  rw [g0, g1, show (2 : Int32) = nI 2 from rfl, nI_mul, nI_mul, Nat.mul_assoc]
  exact h
/-! states -/
theorem zs_ss {z : zS} {k : Nat} {v : Int32} : (zs_s z k v).1 k = v := by simp [zs_s, va_up]
theorem zs_sn {z : zS} {k j : Nat} {v : Int32} (h : j ≠ k) : (zs_s z k v).1 j = z.1 j := by simp [zs_s, va_up, h]
theorem zs_aa {z : zS} {k : Nat} {i v : Int32} : (zs_a z k i v).2 k i.toNatClampNeg = v := by simp [zs_a, va_up, upd]
theorem zs_an {z : zS} {k j : Nat} {i v : Int32} (h : j ≠ k) : (zs_a z k i v).2 j = z.2 j := by simp [zs_a, va_up, h]
theorem lg_cmp_0 (a : Int64) : lg_cmp a a = 0 := by simp [lg_cmp]
