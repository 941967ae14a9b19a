/-! costs: there is one best, and walks of few steps reach it -/
section ZY
variable {W H : Nat} {T : Nat → Nat → Prop} {vc s0 : Nat}
/-- from any costs to the best ones -/
theorem zr_ex (hT : ∀ c t, T c t → t = 0 ∨ t = 10 ∨ t = 1000000) (hvc : 1 ≤ vc ∧ vc ≤ 4) : ∀ (N : Nat) (f : Nat → Int32), zr_P W H T vc s0 f → zb_sm f (2 * (W * H)) ≤ N → ∃ f', zr_P W H T vc s0 f' ∧ ∀ c, c < 2 * (W * H) → c ≠ s0 → zr_X W H T vc f' c 5 := by
  intro N
  induction N with
  | zero =>
    intro f hP hN
    refine ⟨f, hP, fun c hc hcs t ht htl d hd c' hc' eB => ?_⟩
    have h0 : ∀ n, n ≤ 2 * (W * H) → ∀ c, c < n → (f c).toNatClampNeg ≤ zb_sm f n := fun n => by
      induction n with
      | zero => intro _ c hc; exact absurd hc (Nat.not_lt_zero _)
      | succ n ih =>
        intro hn c hc
        show _ ≤ zb_sm f n + (f n).toNatClampNeg
        by_cases e : c = n
        · rw [e]
          omega
        · have := ih (by omega) c (by omega)
          omega
    have := h0 _ (Nat.le_refl _) c hc
    omega
  | succ N ih =>
    intro f hP hN
    by_cases hX : ∀ c, c < 2 * (W * H) → c ≠ s0 → zr_X W H T vc f c 5
    · exact ⟨f, hP, hX⟩
    · have : ∃ c, c < 2 * (W * H) ∧ c ≠ s0 ∧ ¬ zr_X W H T vc f c 5 := Classical.byContradiction (fun hn => hX (fun c hc hcs => Classical.byContradiction (fun hx => hn ⟨c, hc, hcs, hx⟩)))
      obtain ⟨c, hc, hcs, hx⟩ := this
      have : ∃ t d c', T c t ∧ t < 1000000 ∧ d < 5 ∧ c' < 2 * (W * H) ∧ zg_B W H c d = nI c' ∧ (f c').toNatClampNeg + zb_e vc d + t < (f c).toNatClampNeg := Classical.byContradiction (fun hn => hx (fun t ht htl d hd c' hc' eB => Nat.le_of_not_lt (fun hlt => hn ⟨t, d, c', ht, htl, hd, hc', eB, hlt⟩)))
      obtain ⟨t, d, c', ht, htl, hd, hc', eB, hlt⟩ := this
      obtain ⟨a, ha, ea⟩ := hP.1 c hc
      have e1 : (f c).toNatClampNeg = a := by rw [ea, nI_clamp (by omega)]
      refine ih (upd f c (nI ((f c').toNatClampNeg + zb_e vc d + t))) (hP.up hc hcs ht htl hd hc' eB rfl hlt) ?_
      have := zb_sm_up (f := f) (i := c) (v := nI ((f c').toNatClampNeg + zb_e vc d + t)) hc
      rw [nI_clamp (n := (f c').toNatClampNeg + zb_e vc d + t) (by omega)] at this
      omega
/-- x is what a walk of at most k steps costs -/
def zr_D (W H : Nat) (T : Nat → Nat → Prop) (vc s0 : Nat) : Nat → Nat → Nat → Prop
  | 0, v, x => v = s0 ∧ x = 0
  | k + 1, v, x => zr_D W H T vc s0 k v x ∨ ∃ u y d t, u < 2 * (W * H) ∧ zr_D W H T vc s0 k u y ∧ d < 5 ∧ zg_B W H v d = nI u ∧ T v t ∧ t < 1000000 ∧ x = y + zb_e vc d + t
theorem zr_D_mn : ∀ {k k' v x : Nat}, k ≤ k' → zr_D W H T vc s0 k v x → zr_D W H T vc s0 k' v x := by
  intro k k' v x h hD
  induction k' with
  | zero =>
    have : k = 0 := by omega
    subst this
    exact hD
  | succ k' ih =>
    by_cases e : k = k' + 1
    · subst e
      exact hD
    · exact Or.inl (ih (by omega))
theorem zr_D_le (hT : ∀ c t, T c t → t = 0 ∨ t = 10 ∨ t = 1000000) (hvc : 1 ≤ vc ∧ vc ≤ 4) : ∀ {k v x : Nat}, zr_D W H T vc s0 k v x → x ≤ 14 * k := by
  intro k
  induction k with
  | zero => rintro v x ⟨_, rfl⟩; omega
  | succ k ih =>
    rintro v x (h | ⟨u, y, d, t, _, h, hd, _, ht, htl, rfl⟩)
    · have := ih h
      omega
    · have := ih h
      have := hT _ _ ht
      have : zb_e vc d ≤ 4 := by unfold zb_e; split <;> omega
      omega
theorem zr_D_lo {f : Nat → Int32} (hP : zr_P W H T vc s0 f) (hX : ∀ c, c < 2 * (W * H) → c ≠ s0 → zr_X W H T vc f c 5) : ∀ {k v x : Nat}, v < 2 * (W * H) → zr_D W H T vc s0 k v x → (f v).toNatClampNeg ≤ x := by
  intro k
  induction k with
  | zero =>
    rintro v x hv ⟨rfl, rfl⟩
    rw [hP.2.1]
    exact Nat.le_refl _
  | succ k ih =>
    rintro v x hv (h | ⟨u, y, d, t, hu, h, hd, eB, ht, htl, rfl⟩)
    · exact ih hv h
    · by_cases e : v = s0
      · rw [e, hP.2.1]
        exact Nat.zero_le _
      · have h1 := hX v hv e t ht htl d hd u hu eB
        have h2 := ih hu h
        omega
/-- the best is a walk's cost, of fewer steps than there are cells -/
theorem zr_D_hi (hvc : 1 ≤ vc) {f : Nat → Int32} (hP : zr_P W H T vc s0 f) (hX : ∀ c, c < 2 * (W * H) → c ≠ s0 → zr_X W H T vc f c 5) {v : Nat} (hv : v < 2 * (W * H)) (hl : (f v).toNatClampNeg < 1000000) : zr_D W H T vc s0 (2 * (W * H) - 1) v (f v).toNatClampNeg := by
  have key : ∀ (N v : Nat), v < 2 * (W * H) → (f v).toNatClampNeg < 1000000 → zb_ct (fun c => if (f c).toNatClampNeg < (f v).toNatClampNeg then 1 else 0) (2 * (W * H)) ≤ N → zr_D W H T vc s0 N v (f v).toNatClampNeg := by
    intro N
    induction N with
    | zero =>
      intro v hv hl hc
      by_cases e : v = s0
      · refine ⟨e, ?_⟩
        rw [e, hP.2.1]
        rfl
      · obtain ⟨t, d, c', k1, k2, k3, k4, k5, k6, k7⟩ := zr_eq hvc hP hX hv e hl
        have := zb_ct_ms (f := fun c => if (f c).toNatClampNeg < (f v).toNatClampNeg then 1 else 0) (g := fun _ => 0) (N := 2 * (W * H)) (fun i _ hx => absurd rfl hx) ⟨c', k4, rfl, by rw [if_pos k7]; decide⟩
        omega
    | succ N ih =>
      intro v hv hl hc
      by_cases e : v = s0
      · refine zr_D_mn (k := 0) (Nat.zero_le _) ⟨e, ?_⟩
        rw [e, hP.2.1]
        rfl
      · obtain ⟨t, d, c', k1, k2, k3, k4, k5, k6, k7⟩ := zr_eq hvc hP hX hv e hl
        have := zb_ct_ms (f := fun c => if (f c).toNatClampNeg < (f v).toNatClampNeg then 1 else 0) (g := fun c => if (f c).toNatClampNeg < (f c').toNatClampNeg then 1 else 0) (N := 2 * (W * H)) (fun i _ hx => by
          by_cases e1 : (f i).toNatClampNeg < (f c').toNatClampNeg
          · rw [if_pos (by omega)]
            decide
          · rw [if_neg e1] at hx
            exact absurd rfl hx) ⟨c', k4, by rw [if_neg (Nat.lt_irrefl _)], by rw [if_pos k7]; decide⟩
        exact Or.inr ⟨c', _, d, t, k4, ih c' k4 (by omega) (by omega), k3, k5, k1, k2, k6.symm⟩
  refine key _ v hv hl ?_
  have h1 := zb_ct_ms (f := fun _ => 1) (g := fun c => if (f c).toNatClampNeg < (f v).toNatClampNeg then 1 else 0) (N := 2 * (W * H)) (fun i _ _ => by decide) ⟨v, hv, by rw [if_neg (Nat.lt_irrefl _)], by decide⟩
  have h2 := zb_ct_le (fun _ => 1) (2 * (W * H))
  omega
/-- costs that are walks' costs, and that no step betters, are the best -/
theorem zr_uq (hvc : 1 ≤ vc) {f q : Nat → Int32} (hP : zr_P W H T vc s0 f) (hX : ∀ c, c < 2 * (W * H) → c ≠ s0 → zr_X W H T vc f c 5) (hq : ∀ c, c < 2 * (W * H) → ∃ k, k ≤ 1000000 ∧ q c = nI k) (hq0 : q s0 = 0) (hs : ∀ c, c < 2 * (W * H) → (q c).toNatClampNeg < 1000000 → ∃ k, zr_D W H T vc s0 k c (q c).toNatClampNeg) (hr : ∀ u, u < 2 * (W * H) → (q u).toNatClampNeg < 1000000 → ∀ v d t, v < 2 * (W * H) → d < 5 → zg_B W H v d = nI u → T v t → t < 1000000 → (q v).toNatClampNeg ≤ (q u).toNatClampNeg + zb_e vc d + t) : ∀ c, c < 2 * (W * H) → q c = f c := by
  intro c hc
  obtain ⟨a, ha, ea⟩ := hP.1 c hc
  obtain ⟨b, hb, eb⟩ := hq c hc
  have ea' : (f c).toNatClampNeg = a := by rw [ea, nI_clamp (by omega)]
  have eb' : (q c).toNatClampNeg = b := by rw [eb, nI_clamp (by omega)]
  have lo : a ≤ b := by
    by_cases e : b < 1000000
    · obtain ⟨k, hk⟩ := hs c hc (by omega)
      have := zr_D_lo hP hX hc hk
      omega
    · omega
  have up : ∀ k v x, v < 2 * (W * H) → zr_D W H T vc s0 k v x → x < 1000000 → (q v).toNatClampNeg ≤ x := by
    intro k
    induction k with
    | zero =>
      rintro v x hv ⟨rfl, rfl⟩ _
      rw [hq0]
      exact Nat.le_refl _
    | succ k ih =>
      rintro v x hv (h | ⟨u, y, d, t, hu, h, hd, eB, ht, htl, rfl⟩) hx
      · exact ih v x hv h hx
      · have h1 := ih u y hu h (by omega)
        have h2 := hr u hu (by omega) v d t hv hd eB ht htl
        omega
  have hi : b ≤ a := by
    by_cases e : a < 1000000
    · have := up _ c _ hc (zr_D_hi hvc hP hX hc (by omega)) (by omega)
      omega
    · omega
  rw [ea, eb, Nat.le_antisymm lo hi]
end ZY
/-- a neighbour's neighbour -/
theorem zg_B_inv {W H u v d : Nat} (hW : 2 ≤ W) (hH : 2 ≤ H) (hA : W * H ≤ 81) (hu : u < 2 * (W * H)) (hv : v < 2 * (W * H)) (hd : d < 5) (e : zg_B W H u d = nI v) : zg_B W H v (if d = 0 then 1 else if d = 1 then 0 else if d = 2 then 3 else if d = 3 then 2 else 4) = nI u := by
  obtain ⟨l, y, x, hl, hy, hx, eu, e1, e2, e3⟩ := zg_dec (W := W) (H := H) (by omega) (by omega) hu
  have n1 : ∀ c : Nat, c < 2 ^ 31 → ¬ (-1 : Int32) = nI c := fun c hc h => zp_n1 hc h.symm
  have hd5 : d = 0 ∨ d = 1 ∨ d = 2 ∨ d = 3 ∨ d = 4 := by omega
  rcases hd5 with rfl | rfl | rfl | rfl | rfl
  · unfold zg_B at e
    rw [if_pos rfl, e1] at e
    by_cases hx0 : 0 < x
    · rw [if_pos hx0] at e
      have ev : v = u - 1 := ((nI_eq (by omega) (by omega)).mp e).symm
      have c := zg_c (W := W) (H := H) (x := x - 1) hl hy (by omega)
      have ev' : v = (l * H + y) * W + (x - 1) := by omega
      show zg_B W H v 1 = _
      unfold zg_B
      rw [if_neg (by omega), if_pos rfl, ev', c.2.1, if_pos (by omega)]
      congr 1
      omega
    · rw [if_neg hx0] at e
      exact absurd e (n1 v (by omega))
  · unfold zg_B at e
    rw [if_neg (by omega), if_pos rfl, e1] at e
    by_cases hx0 : x + 1 < W
    · rw [if_pos hx0] at e
      have ev : v = u + 1 := ((nI_eq (by omega) (by omega)).mp e).symm
      have c := zg_c (W := W) (H := H) (x := x + 1) hl hy hx0
      have ev' : v = (l * H + y) * W + (x + 1) := by omega
      show zg_B W H v 0 = _
      unfold zg_B
      rw [if_pos rfl, ev', c.2.1, if_pos (by omega)]
      congr 1
      omega
    · rw [if_neg hx0] at e
      exact absurd e (n1 v (by omega))
  · unfold zg_B at e
    rw [if_neg (by omega), if_neg (by omega), if_pos rfl, e2] at e
    by_cases hy0 : 0 < y
    · rw [if_pos hy0] at e
      have e4 : (l * H + y) * W = (l * H + (y - 1)) * W + W := by
        rw [← Nat.succ_mul]
        congr 1
        omega
      have ev : v = u - W := ((nI_eq (by omega) (by omega)).mp e).symm
      have c := zg_c (W := W) (H := H) (y := y - 1) hl (by omega) hx
      have ev' : v = (l * H + (y - 1)) * W + x := by omega
      show zg_B W H v 3 = _
      unfold zg_B
      rw [if_neg (by omega), if_neg (by omega), if_neg (by omega), if_pos rfl, ev', c.2.2, if_pos (by omega)]
      congr 1
      omega
    · rw [if_neg hy0] at e
      exact absurd e (n1 v (by omega))
  · unfold zg_B at e
    rw [if_neg (by omega), if_neg (by omega), if_neg (by omega), if_pos rfl, e2] at e
    by_cases hy0 : y + 1 < H
    · rw [if_pos hy0] at e
      have e4 : (l * H + (y + 1)) * W = (l * H + y) * W + W := Nat.succ_mul _ _
      have hWA : W ≤ W * H := Nat.le_mul_of_pos_right W (by omega)
      have ev : v = u + W := ((nI_eq (by omega) (by omega)).mp e).symm
      have c := zg_c (W := W) (H := H) (y := y + 1) hl hy0 hx
      have ev' : v = (l * H + (y + 1)) * W + x := by omega
      show zg_B W H v 2 = _
      unfold zg_B
      rw [if_neg (by omega), if_neg (by omega), if_pos rfl, ev', c.2.2, if_pos (by omega)]
      congr 1
      omega
    · rw [if_neg hy0] at e
      exact absurd e (n1 v (by omega))
  · unfold zg_B at e
    rw [if_neg (by omega), if_neg (by omega), if_neg (by omega), if_neg (by omega)] at e
    show zg_B W H v 4 = _
    unfold zg_B
    rw [if_neg (by omega), if_neg (by omega), if_neg (by omega), if_neg (by omega)]
    by_cases hx0 : u < W * H
    · rw [if_pos hx0] at e
      have ev : v = u + W * H := ((nI_eq (by omega) (by omega)).mp e).symm
      rw [if_neg (by omega)]
      congr 1
      omega
    · rw [if_neg hx0] at e
      have ev : v = u - W * H := ((nI_eq (by omega) (by omega)).mp e).symm
      rw [if_pos (by omega)]
      congr 1
      omega
theorem zb_e_inv {vc d : Nat} (hd : d < 5) : zb_e vc (if d = 0 then 1 else if d = 1 then 0 else if d = 2 then 3 else if d = 3 then 2 else 4) = zb_e vc d := by
  have hd5 : d = 0 ∨ d = 1 ∨ d = 2 ∨ d = 3 ∨ d = 4 := by omega
  rcases hd5 with rfl | rfl | rfl | rfl | rfl <;> rfl
theorem zd_inv {d : Nat} (hd : d < 5) : (if d = 0 then 1 else if d = 1 then 0 else if d = 2 then 3 else if d = 3 then 2 else 4) < 5 := by
  have hd5 : d = 0 ∨ d = 1 ∨ d = 2 ∨ d = 3 ∨ d = 4 := by omega
  rcases hd5 with rfl | rfl | rfl | rfl | rfl <;> decide
