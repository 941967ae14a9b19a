/-! the start -/
theorem zE_0 {L : Nat} {xs : Nat → Int32} (W H : Nat) (fx fy fb fn fl fp fo : Nat → Int32) (hw1 : 2 + (zl_sc L xs 0 &&& 7) = nI W) (hw2 : 2 + (zl_sc L xs 1 &&& 7) = nI H) (hW2 : 2 ≤ W) (hW9 : W ≤ 9) (hH2 : 2 ≤ H) (hH9 : H ≤ 9) (hA81 : W * H ≤ 81) (hI : zg_I W H (2 * (W * H)) fx fy fb) (hn : ∀ j, j < 2 * (W * H) → fn j = -1) (hl : ∀ j, j < 2 * (W * H) → fl j = -1) (hp : ∀ j, j < 162 → fp j = -1) (ho : ∀ j, j < 162 → fo j = -1) : zE W H 0 (zl_ln (2 * (W * H)) (W * H) (2 * (W * H) * 5)) (zl_c0 W H (W * H) (2 * (W * H)) (if ((zl_sc L xs 3) &&& (1 : Int32)) = (1 : Int32) then 1 else 0) ((1 : Int32) + ((zl_sc L xs 2) &&& (3 : Int32))) fx fy fb fn fl) (zl_g0 ((2 : Int32) + ((zl_sc L xs 0) &&& (7 : Int32))) ((2 : Int32) + ((zl_sc L xs 1) &&& (7 : Int32))) (if ((zl_sc L xs 3) &&& (1 : Int32)) = (1 : Int32) then 1 else 0) ((1 : Int32) + ((zl_sc L xs 2) &&& (3 : Int32))) fp fo) := by
  have hpos : 0 < W * H := Nat.mul_pos (by omega) (by omega)
  refine ⟨⟨⟨hW2, hW9, hH2, hH9, hA81⟩, by omega, fun i hi => ?_, ⟨rfl, rfl, rfl, rfl, rfl⟩, hI, fun k j hj => ?_, ⟨0, by omega, rfl⟩, ⟨0, by omega, rfl, fun i hi => absurd hi (Nat.not_lt_zero _), fun i j hi => absurd hi (Nat.not_lt_zero _)⟩⟩, ⟨⟨hW2, hW9, hH2, hH9, hA81⟩, by omega, ⟨hw1, hw2, rfl, ?_⟩, fun c hc => ⟨Or.inl (hp c (by omega)), Or.inl (ho c (by omega)), Or.inl rfl⟩, fun k hk => absurd hk (Nat.not_lt_zero _), fun c k _ hk => absurd hk (Nat.not_lt_zero _)⟩, rfl, fun i hi => ⟨?_, rfl⟩⟩
  · have : i = 0 ∨ i = 1 ∨ i = 2 ∨ i = 3 ∨ i = 4 ∨ i = 5 ∨ i = 6 ∨ i = 7 ∨ i = 8 ∨ i = 9 ∨ i = 10 ∨ i = 11 ∨ i = 12 ∨ i = 13 ∨ i = 14 ∨ i = 15 ∨ i = 16 ∨ i = 17 := by omega
    rcases this with rfl | rfl | rfl | rfl | rfl | rfl | rfl | rfl | rfl | rfl | rfl | rfl | rfl | rfl | rfl | rfl | rfl | rfl <;> rfl
  · unfold zb_R
    by_cases e1 : k = 3 ∨ k = 4 ∨ k = 10 ∨ k = 12 ∨ k = 15
    · rw [if_pos e1]
      refine ⟨0, by omega, ?_⟩
      rcases e1 with rfl | rfl | rfl | rfl | rfl <;> rfl
    · rw [if_neg e1]
      by_cases e2 : k = 5 ∨ k = 6
      · rw [if_pos e2]
        left
        rcases e2 with rfl | rfl
        · exact hn j hj
        · exact hl j hj
      · rw [if_neg e2]
        split
        · left
          rename_i e3
          rcases e3 with rfl | rfl | rfl <;> rfl
        · trivial
  · obtain ⟨j, hj, e⟩ := zl_and (zl_sc L xs 2) 3
    refine ⟨1 + j, by omega, by omega, ?_⟩
    show (1 : Int32) + (zl_sc L xs 2 &&& nI 3) = _
    rw [e]
    exact nI_add 1 j
  · show fn i = fp i
    rw [hn i hi, hp i (by omega)]
