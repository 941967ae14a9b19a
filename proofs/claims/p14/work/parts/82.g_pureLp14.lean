/-! the law's loop -/
section ZL
variable {W H n L t : Nat} {ln : Nat → Nat} {xs : Nat → Int32} {k63 : Int32 × Nat × zS × zS × (Nat → Int64) → Prop} {c g : zS} {o : Nat → Int64}
theorem zl_c0x (h : zR W H n ln c g) (hv : ∀ k, k ≤ 6 → vp_in (nI (4 + 7 * t) + nI k) L) (nx : ∀ n c g o, zR W H n ln c g → k63 (nI (4 + 7 * t) + 7, t + 1, c, g, o)) : zw_La_c0 ln L xs k63 (nI (4 + 7 * t)) t c g o :=
  ⟨hv 1 (by omega), hv 2 (by omega), hv 3 (by omega), zyR_block h (fun k c' o' hm => ⟨hv 1 (by omega), hv 2 (by omega), hv 3 (by omega), hm⟩) (fun k c' o' r g' hE h4 ho => nx _ _ _ _ hE)⟩
theorem zl_c1x (h : zR W H n ln c g) (hv : ∀ k, k ≤ 6 → vp_in (nI (4 + 7 * t) + nI k) L) (nx : ∀ n c g o, zR W H n ln c g → k63 (nI (4 + 7 * t) + 7, t + 1, c, g, o)) : zw_La_c1 ln L xs k63 (nI (4 + 7 * t)) t c g o :=
  ⟨hv 1 (by omega), hv 2 (by omega), hv 3 (by omega), hv 4 (by omega), hv 5 (by omega), hv 6 (by omega), zyR_net h (fun k c' o' hm => ⟨hv 1 (by omega), hv 2 (by omega), hv 3 (by omega), hv 4 (by omega), hv 5 (by omega), hv 6 (by omega), hm⟩) (fun k c' o' r g' ⟨n', hE⟩ h4 ho => nx _ _ _ _ hE)⟩
theorem zl_c2x (h : zR W H n ln c g) (hv : ∀ k, k ≤ 6 → vp_in (nI (4 + 7 * t) + nI k) L) (nx : ∀ n c g o, zR W H n ln c g → k63 (nI (4 + 7 * t) + 7, t + 1, c, g, o)) : zw_La_c2 ln L xs k63 (nI (4 + 7 * t)) t c g o :=
  ⟨hv 1 (by omega), zyR_route h (fun k c' o' hm => ⟨hv 1 (by omega), hm⟩) (fun k c' o' r g' hE h4 ho => nx _ _ _ _ hE)⟩
theorem zl_c3x (h : zR W H n ln c g) (hv : ∀ k, k ≤ 6 → vp_in (nI (4 + 7 * t) + nI k) L) (nx : ∀ n c g o, zR W H n ln c g → k63 (nI (4 + 7 * t) + 7, t + 1, c, g, o)) : zw_La_c3 ln L xs k63 (nI (4 + 7 * t)) t c g o :=
  ⟨hv 1 (by omega), zyR_push h (fun k c' o' hm => ⟨hv 1 (by omega), hm⟩) (fun k c' o' r g' hE h4 ho => nx _ _ _ _ hE)⟩
theorem zl_c4x (h : zR W H n ln c g) (hv : ∀ k, k ≤ 6 → vp_in (nI (4 + 7 * t) + nI k) L) (nx : ∀ n c g o, zR W H n ln c g → k63 (nI (4 + 7 * t) + 7, t + 1, c, g, o)) : zw_La_c4 ln L xs k63 (nI (4 + 7 * t)) t c g o := by
  refine ⟨hv 1 (by omega), fun ea => ?_, fun ea => ?_⟩
  · exact ⟨hv 2 (by omega), zyR_all h (fun k c' o' hm => ⟨hv 1 (by omega), fun _ => ⟨hv 2 (by omega), hm⟩, fun hx => absurd ea hx⟩) (fun k c' o' r g' hE h4 ho => nx _ _ _ _ hE)⟩
  · exact ⟨hv 2 (by omega), zyR_all h (fun k c' o' hm => ⟨hv 1 (by omega), fun hx => absurd hx ea, fun _ => ⟨hv 2 (by omega), hm⟩⟩) (fun k c' o' r g' hE h4 ho => nx _ _ _ _ hE)⟩
theorem zl_c5x (h : zR W H n ln c g) (hv : ∀ k, k ≤ 6 → vp_in (nI (4 + 7 * t) + nI k) L) (nx : ∀ n c g o, zR W H n ln c g → k63 (nI (4 + 7 * t) + 7, t + 1, c, g, o)) : zw_La_c5 ln L xs k63 (nI (4 + 7 * t)) t c g o :=
  ⟨hv 1 (by omega), zyR_rip h (fun k c' o' hm => ⟨hv 1 (by omega), hm⟩) (fun k c' o' g' hE h4 => nx _ _ _ _ hE)⟩
theorem zl_c6x (h : zR W H n ln c g) (hv : ∀ k, k ≤ 6 → vp_in (nI (4 + 7 * t) + nI k) L) (nx : ∀ n c g o, zR W H n ln c g → k63 (nI (4 + 7 * t) + 7, t + 1, c, g, o)) : zw_La_c6 ln L xs k63 (nI (4 + 7 * t)) t c g o :=
  ⟨hv 1 (by omega), hv 2 (by omega), hv 3 (by omega), hv 4 (by omega), zyR_paint h (fun k c' o' hm => ⟨hv 1 (by omega), hv 2 (by omega), hv 3 (by omega), hv 4 (by omega), hm⟩) (fun k c' g' hE h4 => nx _ _ _ _ hE)⟩
theorem zl_c7x (h : zR W H n ln c g) (hv : ∀ k, k ≤ 6 → vp_in (nI (4 + 7 * t) + nI k) L) (nx : ∀ n c g o, zR W H n ln c g → k63 (nI (4 + 7 * t) + 7, t + 1, c, g, o)) : zw_La_c7 ln L xs k63 (nI (4 + 7 * t)) t c g o :=
  ⟨hv 1 (by omega), hv 2 (by omega), zyR_stitch h (fun k c' o' hm => ⟨hv 1 (by omega), hv 2 (by omega), hm⟩) (fun k c' o' r g' hE => nx _ _ _ _ hE)⟩
theorem zl_c8x (h : zR W H n ln c g) (hv : ∀ k, k ≤ 6 → vp_in (nI (4 + 7 * t) + nI k) L) (nx : ∀ n c g o, zR W H n ln c g → k63 (nI (4 + 7 * t) + 7, t + 1, c, g, o)) : zw_La_c8 ln L xs k63 (nI (4 + 7 * t)) t c g o :=
  ⟨hv 1 (by omega), hv 2 (by omega), hv 3 (by omega), zyR_cell h (fun k c' o' hm => ⟨hv 1 (by omega), hv 2 (by omega), hv 3 (by omega), hm⟩) (fun i hi hE => nx _ _ _ _ hE) (fun hE => nx _ _ _ _ hE)⟩
theorem zl_c9x (h : zR W H n ln c g) (hv : ∀ k, k ≤ 6 → vp_in (nI (4 + 7 * t) + nI k) L) (nx : ∀ n c g o, zR W H n ln c g → k63 (nI (4 + 7 * t) + 7, t + 1, c, g, o)) : zw_La_c9 ln L xs k63 (nI (4 + 7 * t)) t c g o :=
  ⟨hv 1 (by omega), hv 2 (by omega), zyR_via h (fun k c' o' hm => ⟨hv 1 (by omega), hv 2 (by omega), hm⟩) (fun k c' o' r g' hE => nx _ _ _ _ hE)⟩
theorem zl_c10x (h : zR W H n ln c g) (hv : ∀ k, k ≤ 6 → vp_in (nI (4 + 7 * t) + nI k) L) (nx : ∀ n c g o, zR W H n ln c g → k63 (nI (4 + 7 * t) + 7, t + 1, c, g, o)) : zw_La_c10 ln L xs k63 (nI (4 + 7 * t)) t c g o :=
  ⟨hv 1 (by omega), zyR_faults h (fun k c' o' hm => ⟨hv 1 (by omega), hm⟩) (fun k c' o' r g' hE => nx _ _ _ _ hE)⟩
theorem zl_c11x (h : zR W H n ln c g) (hv : ∀ k, k ≤ 6 → vp_in (nI (4 + 7 * t) + nI k) L) (nx : ∀ n c g o, zR W H n ln c g → k63 (nI (4 + 7 * t) + 7, t + 1, c, g, o)) : zw_La_c11 ln L xs k63 (nI (4 + 7 * t)) t c g o :=
  zc_shapes h.1.1 (zd_shapes h.1.2.1 (nx _ _ _ _ h.code))
theorem zl_c12x (h : zR W H n ln c g) (hv : ∀ k, k ≤ 6 → vp_in (nI (4 + 7 * t) + nI k) L) (nx : ∀ n c g o, zR W H n ln c g → k63 (nI (4 + 7 * t) + 7, t + 1, c, g, o)) : zw_La_c12 ln L xs k63 (nI (4 + 7 * t)) t c g o :=
  ⟨hv 1 (by omega), hv 2 (by omega), zyR_shape h (fun k c' o' hm => ⟨hv 1 (by omega), hv 2 (by omega), hm⟩) (fun k c' o' r g' hE h4 ho => zp_if h4 (by
    by_cases ek : k = 0
    · refine zp_fi ek (zp_if ?_ (nx _ _ _ _ hE))
      show lg_cmp (o' 0) r.toInt64 = 0
      rw [ho ek]
      exact lg_cmp_0 _
    · exact zp_fin ek (nx _ _ _ _ hE)))⟩
end ZL
theorem zl_loop {W H L : Nat} {ln : Nat → Nat} {xs : Nat → Int32} {c g : zS} {o : Nat → Int64} (hL : L ≤ 3588) (h : zR W H 0 ln c g) : zq_Lp (zw_La_63 ln L xs) (4, 0, c, g, o) := by
  refine zq_Lp_I (I := fun q => ∃ t n c g o, (t = 0 ∨ 4 + 7 * t ≤ L) ∧ zR W H n ln c g ∧ q = (nI (4 + 7 * t), t, c, g, o)) (μ := fun q => 1000 - q.2.1) ?_ ⟨0, 0, c, g, o, Or.inl rfl, h, rfl⟩
  rintro k63 q ⟨t, n, c, g, o, ht, hE, rfl⟩ hk
  have ht5 : t ≤ 512 := by omega
  refine ⟨by omega, ?_⟩
  by_cases hl : L < 4 + 7 * t + 7
  · refine zp_if ?_ trivial
    by_cases h7 : 7 ≤ L
    · have e : Int32.ofNat L - 7 = nI (L - 7) := nI_sub (b := 7) h7
      rw [e]
      exact nI_lt (by omega) (by omega)
    · have t0 : t = 0 := by omega
      subst t0
      have key : ∀ L : Fin 7, Int32.ofNat L.val - 7 < nI (4 + 7 * 0) := by decide
      exact key ⟨L, by omega⟩
  · have e : Int32.ofNat L - 7 = nI (L - 7) := nI_sub (b := 7) (by omega)
    have hv : ∀ k, k ≤ 6 → vp_in (nI (4 + 7 * t) + nI k) L := fun k hk => by
      rw [nI_add]
      exact vp_in_nI (by omega) (by omega)
    have nx : ∀ n c g o, zR W H n ln c g → k63 (nI (4 + 7 * t) + 7, t + 1, c, g, o) := fun n c g o hE => by
      refine hk _ ⟨t + 1, n, c, g, o, Or.inr (by omega), hE, ?_⟩ ?_
      · rw [show nI (4 + 7 * t) + 7 = nI (4 + 7 * (t + 1)) from (nI_add (4 + 7 * t) 7).trans (by congr 1)]
      · show 1000 - (t + 1) < 1000 - t
        omega
    refine zp_ifn (by rw [e]; exact nI_nlt (by omega) (by omega)) ⟨vp_in_nI (by omega) (by omega), fun _ => zl_c0x hE hv nx, fun _ => zl_c1x hE hv nx, fun _ => zl_c2x hE hv nx, fun _ => zl_c3x hE hv nx, fun _ => zl_c4x hE hv nx, fun _ => zl_c5x hE hv nx, fun _ => zl_c6x hE hv nx, fun _ => zl_c7x hE hv nx, fun _ => zl_c8x hE hv nx, fun _ => zl_c9x hE hv nx, fun _ => zl_c10x hE hv nx, fun _ => zl_c11x hE hv nx, fun _ => zl_c12x hE hv nx, fun _ => nx _ _ _ _ hE⟩
theorem zl_pure {L : Nat} {xs : Nat → Int32} (hL : L ≤ 3588) (W H A C B : Nat) (fx fy fb fn fl fp fo : Nat → Int32) (hw1 : 2 + (zl_sc L xs 0 &&& 7) = nI W) (hw2 : 2 + (zl_sc L xs 1 &&& 7) = nI H) (hW2 : 2 ≤ W) (hW9 : W ≤ 9) (hH2 : 2 ≤ H) (hH9 : H ≤ 9) (hAe : A = W * H) (hA81 : A ≤ 81) (hC : C = 2 * A) (hC162 : C ≤ 162) (hB : B = C * 5) (hI : zg_I W H C fx fy fb) (hn : ∀ j, j < C → fn j = -1) (hl : ∀ j, j < C → fl j = -1) (hp : ∀ j, j < 162 → fp j = -1) (ho : ∀ j, j < 162 → fo j = -1) : zq_Lp (zw_La_63 (zl_ln C A B) L xs) (4, 0, zl_c0 W H A C (if ((zl_sc L xs 3) &&& (1 : Int32)) = (1 : Int32) then 1 else 0) ((1 : Int32) + ((zl_sc L xs 2) &&& (3 : Int32))) fx fy fb fn fl, zl_g0 ((2 : Int32) + ((zl_sc L xs 0) &&& (7 : Int32))) ((2 : Int32) + ((zl_sc L xs 1) &&& (7 : Int32))) (if ((zl_sc L xs 3) &&& (1 : Int32)) = (1 : Int32) then 1 else 0) ((1 : Int32) + ((zl_sc L xs 2) &&& (3 : Int32))) fp fo, fun _ => 0) := by
  subst hAe
  subst hC
  subst hB
  exact zl_loop hL (zR_0 W H fx fy fb fn fl fp fo hw1 hw2 hW2 hW9 hH2 hH9 hA81 hI hn hl hp ho)
