/-! the law's cases at the first call -/
theorem zp_v0 : vp_in (4 : Int32) 11 := by unfold vp_in; decide
theorem zp_v1 : vp_in ((4 : Int32) + 1) 11 := by unfold vp_in; decide
theorem zp_v2 : vp_in ((4 : Int32) + 2) 11 := by unfold vp_in; decide
theorem zp_v3 : vp_in ((4 : Int32) + 3) 11 := by unfold vp_in; decide
theorem zp_v4 : vp_in ((4 : Int32) + 4) 11 := by unfold vp_in; decide
theorem zp_v5 : vp_in ((4 : Int32) + 5) 11 := by unfold vp_in; decide
theorem zp_v6 : vp_in ((4 : Int32) + 6) 11 := by unfold vp_in; decide
theorem zp_06 : vp_in (0 : Int32) 6 := by unfold vp_in; decide
section ZP3
variable {W H : Nat} {ln : Nat → Nat} {z g : zS} {o : Nat → Int64} {xs : Nat → Int32} {k63 : Int32 × Nat × zS × zS × (Nat → Int64) → Prop}
theorem zp_c0 (hF : zp_F W H ln z g) (hk : ∀ c g o, k63 (4 + 7, 0 + 1, c, g, o)) : zw_La_c0 ln 11 xs k63 4 0 z g o := by
  refine ⟨zp_v1, zp_v2, zp_v3, ?_⟩
  generalize xs ((4 : Int32) + 1).toNatClampNeg = a1
  generalize xs ((4 : Int32) + 2).toNatClampNeg = a2
  generalize xs ((4 : Int32) + 3).toNatClampNeg = a3
  rcases zp_cell hF.V a1 a2 a3 with ⟨cc, hcc, h1, h2, h3⟩ | ⟨h1, h3⟩
  · left
    refine h1 ln _ (zp_fin (by decide) (h2 ln _ ⟨hF.i5 hcc, zp_if (hF.pc hcc) ⟨hF.i8 hcc, zp_fi (hF.b _) ⟨hF.i8 hcc, hF.i8 hcc, ?_⟩⟩⟩))
    rw [zs_aa]
    refine ⟨rfl, zp_v1, zp_v2, zp_v3, ?_⟩
    refine h3 _ (zp_fin (hF.n1 hcc) ⟨hF.im hcc, zp_if (hF.gpc hcc) (zp_if (by rw [zs_ss]; decide) ⟨hF.im hcc, zp_fi (hF.gb _) ⟨hF.im hcc, hF.im hcc, ?_⟩⟩)⟩)
    rw [zs_aa]
    refine ⟨rfl, ?_⟩
    exact zp_if (show (zs_s g 4 0).1 4 = 0 from zs_ss) (zp_fi rfl (zp_ifn (by decide) (zp_if (by rw [pk_uLs]; decide) (hk _ _ _))))
  · right
    refine h1 ln _ (zp_fi rfl (Or.inl ⟨rfl, zp_v1, zp_v2, zp_v3, ?_⟩))
    refine h3 _ (zp_fi rfl (zp_ifn (by rw [zs_ss]; decide) ⟨zp_b0, ?_⟩))
    exact zp_if (show (zs_s g 4 1).1 4 = 1 from zs_ss) (zp_fin (by decide) (hk _ _ _))
theorem zp_c1 (hF : zp_F W H ln z g) (hk : ∀ c g o, k63 (4 + 7, 0 + 1, c, g, o)) : zw_La_c1 ln 11 xs k63 4 0 z g o := by
  refine ⟨zp_v1, zp_v2, zp_v3, zp_v4, zp_v5, zp_v6, ?_⟩
  generalize xs ((4 : Int32) + 1).toNatClampNeg = a1
  generalize xs ((4 : Int32) + 2).toNatClampNeg = a2
  generalize xs ((4 : Int32) + 3).toNatClampNeg = a3
  generalize xs ((4 : Int32) + 4).toNatClampNeg = a4
  generalize xs ((4 : Int32) + 5).toNatClampNeg = a5
  generalize xs ((4 : Int32) + 6).toNatClampNeg = a6
  have hC := hF.C
  rcases zp_cell hF.V a1 a2 a3 with ⟨c1, hc1, h1, h2, h3⟩ | ⟨h1, h3⟩
  · rcases zp_cell hF.V a4 a5 a6 with ⟨c2, hc2, k1, k2, k3⟩ | ⟨k1, k3⟩
    · by_cases e : c1 = c2
      · subst e
        right
        refine h1 ln _ (zp_ifn (by decide) (k1 ln _ (zp_fin (by decide) (h2 ln _ (k2 ln _ (zp_if rfl (Or.inr (Or.inl ⟨rfl, zp_v1, zp_v2, zp_v3, zp_v4, zp_v5, zp_v6, ?_⟩))))))))
        refine h3 _ (k3 _ (zp_ifn (hF.n1 hc1) (zp_fin (hF.n1 hc1) (zp_if rfl (zp_ifn (by rw [zs_ss]; decide) ?_)))))
        exact zp_if (show (zs_s g 4 2).1 4 = 2 from zs_ss) (zp_fin (by decide) (hk _ _ _))
      · left
        have ne : ¬ nI c1 = nI c2 := fun h => e ((nI_eq (by omega) (by omega)).mp h)
        refine h1 ln _ (zp_ifn (by decide) (k1 ln _ (zp_fin (by decide) (h2 ln _ (k2 ln _ (zp_ifn ne (hF.barred hc1 (zp_fi rfl (hF.barred hc2 (zp_if rfl (zp_if (by rw [hF.n4]; decide) ?_)))))))))))
        refine ⟨by rw [hF.n4, hF.l3]; exact zp_06, by rw [hF.n4, hF.l4]; exact zp_06, hF.i5 hc1, hF.i5 hc2, hF.i6 hc1, hF.i6 hc2, zp_v1, zp_v2, zp_v3, zp_v4, zp_v5, zp_v6, ?_⟩
        refine h3 _ (k3 _ (zp_ifn (hF.n1 hc1) (zp_fin (hF.n1 hc2) (zp_ifn ne (hF.mbarred hc1 (zp_fi rfl (hF.mbarred hc2 (zp_if rfl (zp_fin (by rw [hF.m5]; decide) (zp_if (by rw [zs_ss]; decide) ⟨?_, ?_, hF.im hc1, hF.im hc2, hF.im hc1, hF.im hc2, ?_⟩))))))))))
        · show vp_in (g.1 5) 6
          rw [hF.m5]
          exact zp_06
        · show vp_in (g.1 5) 6
          rw [hF.m5]
          exact zp_06
        · refine zp_if (show (zs_s g 4 0).1 4 = 0 from zs_ss) (zp_fi rfl (zp_if ?_ (hk _ _ _)))
          show lg_cmp (vp_updL o (0 : Int32).toNatClampNeg (z.1 4).toInt64 (0 : Int32).toNatClampNeg) ((g.1 5 + 1) - 1).toInt64 = 0
          rw [pk_uLs, hF.n4, hF.m5]
          decide
    · right
      refine h1 ln _ (zp_ifn (by decide) (k1 ln _ (zp_fi rfl (Or.inl ⟨rfl, zp_v1, zp_v2, zp_v3, zp_v4, zp_v5, zp_v6, ?_⟩))))
      refine h3 _ (k3 _ (zp_ifn (hF.n1 hc1) (zp_fi rfl (zp_ifn (by rw [zs_ss]; decide) ?_))))
      exact zp_if (show (zs_s g 4 1).1 4 = 1 from zs_ss) (zp_fin (by decide) (hk _ _ _))
  · right
    refine h1 ln _ (zp_if rfl (Or.inl ⟨rfl, zp_v1, zp_v2, zp_v3, zp_v4, zp_v5, zp_v6, ?_⟩))
    rcases zp_cell hF.V a4 a5 a6 with ⟨c2, hc2, k1, k2, k3⟩ | ⟨k1, k3⟩
    · refine h3 _ (k3 _ (zp_if rfl (zp_ifn (by rw [zs_ss]; decide) ?_)))
      exact zp_if (show (zs_s g 4 1).1 4 = 1 from zs_ss) (zp_fin (by decide) (hk _ _ _))
    · refine h3 _ (k3 _ (zp_if rfl (zp_ifn (by rw [zs_ss]; decide) ?_)))
      exact zp_if (show (zs_s g 4 1).1 4 = 1 from zs_ss) (zp_fin (by decide) (hk _ _ _))
theorem zp_c2 (hF : zp_F W H ln z g) (hk : ∀ c g o, k63 (4 + 7, 0 + 1, c, g, o)) : zw_La_c2 ln 11 xs k63 4 0 z g o := by
  refine ⟨zp_v1, Or.inr (hF.has (zp_fi rfl ⟨rfl, zp_v1, hF.isNet (zp_if rfl (zp_fin (by rw [zs_ss]; decide) ?_))⟩))⟩
  exact zp_if (show (zs_s g 4 1).1 4 = 1 from zs_ss) (zp_fin (by decide) (hk _ _ _))
theorem zp_c3 (hF : zp_F W H ln z g) (hk : ∀ c g o, k63 (4 + 7, 0 + 1, c, g, o)) : zw_La_c3 ln 11 xs k63 4 0 z g o := by
  refine ⟨zp_v1, Or.inr (hF.has (zp_fi rfl ⟨rfl, zp_v1, hF.isNet (zp_if rfl (zp_fin (by rw [zs_ss]; decide) ?_))⟩))⟩
  exact zp_if (show (zs_s g 4 1).1 4 = 1 from zs_ss) (zp_fin (by decide) (hk _ _ _))
theorem zp_c5 (hF : zp_F W H ln z g) (hk : ∀ c g o, k63 (4 + 7, 0 + 1, c, g, o)) : zw_La_c5 ln 11 xs k63 4 0 z g o := by
  refine ⟨zp_v1, Or.inr (hF.has (zp_fi rfl ⟨rfl, zp_v1, hF.isNet (zp_if rfl (zp_fin (by rw [zs_ss]; decide) ?_))⟩))⟩
  exact zp_if (show (zs_s g 4 1).1 4 = 1 from zs_ss) (hk _ _ _)
theorem zp_c6 (hF : zp_F W H ln z g) (hk : ∀ c g o, k63 (4 + 7, 0 + 1, c, g, o)) : zw_La_c6 ln 11 xs k63 4 0 z g o := by
  refine ⟨zp_v1, zp_v2, zp_v3, zp_v4, ?_⟩
  generalize xs ((4 : Int32) + 1).toNatClampNeg = a1
  generalize xs ((4 : Int32) + 2).toNatClampNeg = a2
  generalize xs ((4 : Int32) + 3).toNatClampNeg = a3
  generalize xs ((4 : Int32) + 4).toNatClampNeg = a4
  rcases zp_cell hF.V a1 a2 a3 with ⟨cc, hcc, h1, h2, h3⟩ | ⟨h1, h3⟩
  · by_cases e : a4 = -1
    · left
      refine h1 ln _ (zp_ifn (by decide) (zp_if e (h2 ln _ ⟨hF.i6 hcc, zp_v1, zp_v2, zp_v3, zp_v4, ?_⟩)))
      refine h3 _ (zp_ifn (hF.n1 hcc) (zp_if e (zp_fi zs_ss ⟨hF.im hcc, ?_⟩)))
      exact zp_if (show (zs_s g 4 0).1 4 = 0 from zs_ss) (hk _ _ _)
    · right
      refine h1 ln _ (zp_ifn (by decide) (zp_ifn e (hF.has (zp_fi rfl ⟨rfl, zp_v1, zp_v2, zp_v3, zp_v4, ?_⟩))))
      refine h3 _ (zp_ifn (hF.n1 hcc) (zp_ifn e (hF.isNet (zp_if rfl (zp_fin (by rw [zs_ss]; decide) ?_)))))
      exact zp_if (show (zs_s g 4 1).1 4 = 1 from zs_ss) (hk _ _ _)
  · right
    refine h1 ln _ (zp_if rfl ⟨rfl, zp_v1, zp_v2, zp_v3, zp_v4, ?_⟩)
    refine h3 _ (zp_if rfl (zp_fin (by rw [zs_ss]; decide) ?_))
    exact zp_if (show (zs_s g 4 1).1 4 = 1 from zs_ss) (hk _ _ _)
theorem zp_c8 (hF : zp_F W H ln z g) (hk : ∀ c g o, k63 (4 + 7, 0 + 1, c, g, o)) : zw_La_c8 ln 11 xs k63 4 0 z g o := by
  refine ⟨zp_v1, zp_v2, zp_v3, ?_⟩
  generalize xs ((4 : Int32) + 1).toNatClampNeg = a1
  generalize xs ((4 : Int32) + 2).toNatClampNeg = a2
  generalize xs ((4 : Int32) + 3).toNatClampNeg = a3
  rcases zp_cell hF.V a1 a2 a3 with ⟨cc, hcc, h1, h2, h3⟩ | ⟨h1, h3⟩
  · left
    refine h1 ln _ (zp_fin (by decide) (h2 ln _ ⟨hF.i6 hcc, zp_v1, zp_v2, zp_v3, ?_⟩))
    refine h3 _ (zp_fin (hF.n1 hcc) (zp_fi zs_ss ⟨hF.im hcc, ?_⟩))
    refine zp_if (show (zs_s g 4 0).1 4 = 0 from zs_ss) (zp_fi rfl (zp_if ?_ (hk _ _ _)))
    show lg_cmp (vp_updL o (0 : Int32).toNatClampNeg (z.2 6 (nI cc).toNatClampNeg).toInt64 (0 : Int32).toNatClampNeg) (g.2 2 (nI cc).toNatClampNeg).toInt64 = 0
    rw [pk_uLs, hF.oc hcc, hF.goc hcc]
    decide
  · right
    refine h1 ln _ (zp_fi rfl ⟨rfl, zp_v1, zp_v2, zp_v3, ?_⟩)
    refine h3 _ (zp_fi rfl (zp_fin (by rw [zs_ss]; decide) ?_))
    exact zp_if (show (zs_s g 4 1).1 4 = 1 from zs_ss) (zp_fin (by decide) (hk _ _ _))
theorem zp_pix {x y : Nat} (hx : x < W) (hy : y < H) : y * W + x < W * H ∧ (nI 0 * nI (W * H) + nI y * nI W) + nI x = nI (y * W + x) ∧ nI y * nI W + nI x = nI (y * W + x) := by
  refine ⟨?_, ?_, by rw [nI_mul, nI_add]⟩
  · have h1 := Nat.mul_le_mul_right W (show y + 1 ≤ H by omega)
    rw [Nat.add_mul, Nat.one_mul, Nat.mul_comm H W] at h1
    omega
  · rw [zp_ix2, Nat.zero_mul, Nat.zero_add]
theorem zp_c7 (hF : zp_F W H ln z g) (hk : ∀ c g o, k63 (4 + 7, 0 + 1, c, g, o)) : zw_La_c7 ln 11 xs k63 4 0 z g o := by
  refine ⟨zp_v1, zp_v2, ?_⟩
  generalize xs ((4 : Int32) + 1).toNatClampNeg = a1
  generalize xs ((4 : Int32) + 2).toNatClampNeg = a2
  rcases zp_place hF.V a1 a2 with ⟨x, y, hx, hy, e1, e2, h1, h3⟩ | ⟨h1, h3⟩
  · left
    obtain ⟨p1, p2, p3⟩ := zp_pix hx hy
    have ec : (((0 : Int32) * (z.1 2)) + (a2 * (z.1 0))) + a1 = nI (y * W + x) := by
      rw [hF.V.2.2.2.1, hF.V.2.1, e1, e2]
      exact p2
    have eg : (a2 * (g.1 0)) + a1 = nI (y * W + x) := by
      rw [hF.V.2.2.2.2.2.1, e1, e2]
      exact p3
    refine h1 ln _ (zp_fin (by decide) ?_)
    unfold zw_Grid_cellAt
    rw [ec]
    refine ⟨hF.i7 p1, zp_fi (hF.v _) ⟨hF.i7 p1, hF.i7 p1, ?_⟩⟩
    rw [zs_aa]
    refine ⟨rfl, zp_v1, zp_v2, ?_⟩
    refine h3 _ (zp_ifn (by decide) (zp_if (by rw [zs_ss]; decide) ⟨?_, zp_fi (hF.gv _) ?_⟩))
    · show vp_in ((a2 * (g.1 0)) + a1) 81
      rw [eg]
      exact hF.im8 p1
    · refine ⟨?_, ?_, ?_⟩
      · show vp_in ((a2 * (g.1 0)) + a1) 81
        rw [eg]
        exact hF.im8 p1
      · show vp_in ((a2 * (g.1 0)) + a1) 81
        rw [eg]
        exact hF.im8 p1
      · have q : (zs_a (zs_s g 4 0) 3 ((a2 * ((zs_s g 4 0).1 0)) + a1) (vp_nar .boolean 1)).2 3 ((a2 * ((zs_a (zs_s g 4 0) 3 ((a2 * ((zs_s g 4 0).1 0)) + a1) (vp_nar .boolean 1)).1 0)) + a1).toNatClampNeg = vp_nar .boolean 1 := zs_aa
        rw [q]
        refine ⟨rfl, zp_if (show (zs_s g 4 0).1 4 = 0 from zs_ss) (zp_fi rfl (zp_ifn (by decide) (zp_if (by rw [pk_uLs]; decide) (hk _ _ _))))⟩
  · right
    refine h1 ln _ (zp_fi rfl ⟨rfl, zp_v1, zp_v2, ?_⟩)
    refine h3 _ (zp_if rfl (zp_ifn (by rw [zs_ss]; decide) ⟨zp_b0, ?_⟩))
    exact zp_if (show (zs_s g 4 1).1 4 = 1 from zs_ss) (zp_fin (by decide) (hk _ _ _))
theorem zp_c9 (hF : zp_F W H ln z g) (hk : ∀ c g o, k63 (4 + 7, 0 + 1, c, g, o)) : zw_La_c9 ln 11 xs k63 4 0 z g o := by
  refine ⟨zp_v1, zp_v2, ?_⟩
  generalize xs ((4 : Int32) + 1).toNatClampNeg = a1
  generalize xs ((4 : Int32) + 2).toNatClampNeg = a2
  rcases zp_place hF.V a1 a2 with ⟨x, y, hx, hy, e1, e2, h1, h3⟩ | ⟨h1, h3⟩
  · left
    obtain ⟨p1, p2, p3⟩ := zp_pix hx hy
    have ec : (((0 : Int32) * (z.1 2)) + (a2 * (z.1 0))) + a1 = nI (y * W + x) := by
      rw [hF.V.2.2.2.1, hF.V.2.1, e1, e2]
      exact p2
    have eg : (a2 * (g.1 0)) + a1 = nI (y * W + x) := by
      rw [hF.V.2.2.2.2.2.1, e1, e2]
      exact p3
    refine h1 ln _ (zp_fin (by decide) ?_)
    unfold zw_Grid_cellAt
    rw [ec]
    dsimp only
    rw [hF.v]
    refine ⟨hF.i7 p1, rfl, zp_v1, zp_v2, ?_⟩
    refine h3 _ (zp_ifn (by decide) (zp_fi zs_ss ⟨?_, zp_if (hF.gv _) ⟨zp_b0, ?_⟩⟩))
    · show vp_in ((a2 * (g.1 0)) + a1) 81
      rw [eg]
      exact hF.im8 p1
    · exact zp_if (show (zs_s g 4 0).1 4 = 0 from zs_ss) (zp_fi rfl (zp_if rfl (zp_if (by rw [pk_uLs]; decide) (hk _ _ _))))
  · right
    refine h1 ln _ (zp_fi rfl ⟨rfl, zp_v1, zp_v2, ?_⟩)
    refine h3 _ (zp_if rfl (zp_fin (by rw [zs_ss]; decide) ⟨zp_b0, ?_⟩))
    exact zp_if (show (zs_s g 4 1).1 4 = 1 from zs_ss) (zp_fin (by decide) (hk _ _ _))
theorem zp_c10 (hF : zp_F W H ln z g) (hk : ∀ c g o, k63 (4 + 7, 0 + 1, c, g, o)) : zw_La_c10 ln 11 xs k63 4 0 z g o := by
  refine ⟨zp_v1, ?_⟩
  generalize xs ((4 : Int32) + 1).toNatClampNeg = a1
  have hM := hF.M 4 (by decide) 0
  have bad : ∀ o, zw_Mo_faults_10 (fun r241 z241 => (zw_Mo_thrown z241 (fun r242 z242 => ((r242 = 1 → ((¬ (1 : Int32) = 0 → zw_La_940 ln 11 xs k63 4 0 z z242 o) ∧ ((1 : Int32) = 0 → (((lg_cmp (o (0 : Int32).toNatClampNeg) r241.toInt64) = 0 → zw_La_940 ln 11 xs k63 4 0 z z242 o) ∧ (¬ (lg_cmp (o (0 : Int32).toNatClampNeg) r241.toInt64) = 0 → False))))) ∧ (¬ r242 = 1 → False))))) a1 g := fun o => by
    refine zp_ifn (by rw [zs_ss]; decide) ?_
    exact zp_if (show (zs_s g 4 1).1 4 = 1 from zs_ss) (zp_fin (by decide) (hk _ _ _))
  by_cases c1 : a1 < 0
  · exact Or.inr (zp_if c1 ⟨rfl, zp_v1, zp_if c1 (bad o)⟩)
  by_cases c2 : a1 < 4
  · have c3 : a1 ≤ 3 := by
      rw [Int32.le_iff_toInt_le]
      rw [Int32.lt_iff_toInt_lt] at c2
      have e4 : (4 : Int32).toInt = 4 := by decide
      have e3 : (3 : Int32).toInt = 3 := by decide
      omega
    left
    have fin : zw_Mo_faults a1 g (fun r241 z241 => (zw_Mo_thrown z241 (fun r242 z242 => ((r242 = 0 → ((¬ (0 : Int32) = 0 → zw_La_940 ln 11 xs k63 4 0 z z242 (vp_updL o (0 : Int32).toNatClampNeg (0 : Int32).toInt64)) ∧ ((0 : Int32) = 0 → (((lg_cmp (vp_updL o (0 : Int32).toNatClampNeg (0 : Int32).toInt64 (0 : Int32).toNatClampNeg) r241.toInt64) = 0 → zw_La_940 ln 11 xs k63 4 0 z z242 (vp_updL o (0 : Int32).toNatClampNeg (0 : Int32).toInt64)) ∧ (¬ (lg_cmp (vp_updL o (0 : Int32).toNatClampNeg (0 : Int32).toInt64 (0 : Int32).toNatClampNeg) r241.toInt64) = 0 → False))))) ∧ (¬ r242 = 0 → False))))) := by
      have en : ∀ g', g' = zs_s g 4 0 → (zw_Mo_thrown g' (fun r242 z242 => ((r242 = 0 → ((¬ (0 : Int32) = 0 → zw_La_940 ln 11 xs k63 4 0 z z242 (vp_updL o (0 : Int32).toNatClampNeg (0 : Int32).toInt64)) ∧ ((0 : Int32) = 0 → (((lg_cmp (vp_updL o (0 : Int32).toNatClampNeg (0 : Int32).toInt64 (0 : Int32).toNatClampNeg) (0 : Int32).toInt64) = 0 → zw_La_940 ln 11 xs k63 4 0 z z242 (vp_updL o (0 : Int32).toNatClampNeg (0 : Int32).toInt64)) ∧ (¬ (lg_cmp (vp_updL o (0 : Int32).toNatClampNeg (0 : Int32).toInt64 (0 : Int32).toNatClampNeg) (0 : Int32).toInt64) = 0 → False))))) ∧ (¬ r242 = 0 → False)))) := by
        rintro g' rfl
        exact zp_if zs_ss (zp_fi rfl (zp_if (by rw [pk_uLs]; decide) (hk _ _ _)))
      refine zp_ifn c1 (zp_if c3 (zp_if (by rw [zs_ss]; decide) ?_))
      by_cases k3 : a1 = 3
      · exact zp_fi k3 (hM.opn (en _ rfl))
      refine zp_fin k3 ?_
      by_cases k1 : a1 = 1
      · exact zp_fi k1 (hM.near (en _ rfl))
      · exact zp_fin k1 (hM.fl (en _ rfl))
    refine zp_ifn c1 (zp_if c2 ⟨fun _ => hF.misplaced ⟨zp_v1, fin⟩, fun _ => hF.crowded ⟨zp_v1, fin⟩, fun _ => hF.badVias ⟨zp_v1, fin⟩, fun _ => hF.loose ⟨zp_v1, fin⟩⟩)
  · have c3 : ¬ a1 ≤ 3 := fun h => c2 (by
      rw [Int32.le_iff_toInt_le] at h
      rw [Int32.lt_iff_toInt_lt]
      have e4 : (4 : Int32).toInt = 4 := by decide
      have e3 : (3 : Int32).toInt = 3 := by decide
      omega)
    exact Or.inr (zp_ifn c1 (zp_ifn c2 ⟨rfl, zp_v1, zp_ifn c1 (zp_ifn c3 (bad o))⟩))
theorem zp_c11 (hF : zp_F W H ln z g) (hk : ∀ c g o, k63 (4 + 7, 0 + 1, c, g, o)) : zw_La_c11 ln 11 xs k63 4 0 z g o :=
  hF.count ((hF.M 4 (by decide) 0).shapes (zp_if rfl (hk _ _ _)))
theorem zp_c12 (hF : zp_F W H ln z g) (hk : ∀ c g o, k63 (4 + 7, 0 + 1, c, g, o)) : zw_La_c12 ln 11 xs k63 4 0 z g o := by
  refine ⟨zp_v1, zp_v2, Or.inr (hF.startOf (zp_fi rfl (Or.inl ⟨rfl, zp_v1, zp_v2, (hF.M 4 (by decide) 0).shape ?_⟩)))⟩
  exact zp_if (show (zs_s (zs_s g 4 0) 4 1).1 4 = 1 from zs_ss) (zp_fin (by decide) (hk _ _ _))
theorem zp_F.all (hF : zp_F W H ln z g) {a1 a2 : Int32} (c1 : ¬ a2 < 0) (c2 : a2 ≤ 20) {post : Int32 → zS → Prop} (h : post 0 z) : zw_Gr_all ln a1 a2 z post := by
  have h3 : zw_Checker_loose ln z (fun r27 z27 => post ((z.1 4) - r27) z27) := hF.loose (by
    show post (z.1 4 - 0) z
    rw [hF.n4]
    exact h)
  have h4 : zw_Router_retryLoose ln z (fun z26 => (zw_Checker_loose ln z26 (fun r27 z27 => post ((z26.1 4) - r27) z27))) :=
    ⟨2, zp_ifn (by decide) (zp_ifn (by decide) ⟨1, zp_if (by rw [hF.n4]; decide) (show zq_lp _ 1 _ from zp_ifn (by decide) (zp_if rfl h3))⟩)⟩
  have h2 : zw_Router_serveLine ln a2 z (fun z25 => (zw_Router_retryLoose ln z25 (fun z26 => (zw_Checker_loose ln z26 (fun r27 z27 => post ((z26.1 4) - r27) z27))))) :=
    ⟨1, zp_ifn (by decide) (zp_fi hF.n11 ⟨zp_b1, zp_fin (by decide) h4⟩)⟩
  refine zp_ifn c1 (zp_if c2 ⟨1, zp_if (by rw [hF.n4]; decide) ⟨fun _ => h2, fun _ => ⟨1, zp_if (by rw [hF.n11]; decide) h2⟩⟩⟩)
theorem zp_F.mall (hF : zp_F W H ln z g) {a1 a2 : Int32} (c1 : ¬ a2 < 0) (c2 : a2 ≤ 20) {post : Int32 → zS → Prop} (h : post 0 (zs_s (zs_s g 4 0) 6 0)) : zw_Mo_all a1 a2 g post := by
  have hM := (hF.M 4 (by decide) 0).s 6 (by decide) 0
  have h1 : zw_Mo_countOpen (zs_s (zs_s g 4 0) 6 0) (fun r108 z108 => post (((zs_s (zs_s g 4 0) 6 0).1 5) - r108) z108) := hM.opn (by
    show post ((zs_s (zs_s g 4 0) 6 0).1 5 - 0) _
    rw [hM.m5]
    exact h)
  have h2 : zq_Lp (zw_Mo_all_225 post) (1, zs_s (zs_s g 4 0) 6 0) :=
    ⟨2, zp_ifn (by decide) ⟨1, zp_if (by rw [hM.m5]; decide) (show zq_lp _ 1 _ from zp_if rfl h1)⟩⟩
  have h3 : zq_Lp (zw_Mo_all_56 post) (a2, 0, zs_s (zs_s g 4 0) 6 0) := ⟨1, zp_if (by rw [zs_ss]; decide) h2⟩
  refine zp_ifn c1 (zp_if c2 (zp_if (by rw [zs_ss]; decide) ⟨1, zp_if (by rw [(hF.M 4 (by decide) 0).m5]; decide) ⟨1, zp_if ?_ h3⟩⟩))
  rw [(hF.M 4 (by decide) 0).m5]
  decide
theorem zp_480 (hF : zp_F W H ln z g) (hk : ∀ c g o, k63 (4 + 7, 0 + 1, c, g, o)) (u : Int32) : zw_La_480 ln 11 xs k63 4 u 0 z g o := by
  refine ⟨zp_v2, ?_⟩
  have bad : (xs ((4 : Int32) + 2).toNatClampNeg < 0 ∨ (¬ xs ((4 : Int32) + 2).toNatClampNeg < 0 ∧ ¬ xs ((4 : Int32) + 2).toNatClampNeg ≤ 20)) → ∀ u', zw_La_507 ln 11 xs k63 4 1 u' 0 z g o := fun hb u' => by
    refine ⟨zp_v2, ?_⟩
    have e : zw_Mo_all_11 (fun r249 z249 => (zw_Mo_thrown z249 (fun r250 z250 => ((r250 = 1 → ((¬ (1 : Int32) = 0 → zw_La_546 ln 11 xs k63 4 0 z z250 o) ∧ ((1 : Int32) = 0 → (((lg_cmp (o (0 : Int32).toNatClampNeg) r249.toInt64) = 0 → zw_La_546 ln 11 xs k63 4 0 z z250 o) ∧ (¬ (lg_cmp (o (0 : Int32).toNatClampNeg) r249.toInt64) = 0 → False))))) ∧ (¬ r250 = 1 → False))))) u' (xs ((4 : Int32) + 2).toNatClampNeg) g := by
      refine zp_ifn (by rw [zs_ss]; decide) ?_
      exact zp_if (show (zs_s g 4 1).1 4 = 1 from zs_ss) (zp_fin (by decide) (hk _ _ _))
    rcases hb with hb | ⟨hb1, hb2⟩
    · exact zp_if hb e
    · exact zp_ifn hb1 (zp_ifn hb2 e)
  by_cases c1 : xs ((4 : Int32) + 2).toNatClampNeg < 0
  · exact Or.inr (zp_if c1 ⟨rfl, zp_v1, fun _ => bad (Or.inl c1) 0, fun _ => bad (Or.inl c1) 1⟩)
  by_cases c2 : xs ((4 : Int32) + 2).toNatClampNeg ≤ 20
  · left
    have fin : ∀ u', zw_La_507 ln 11 xs k63 4 0 u' 0 z g (vp_updL o (0 : Int32).toNatClampNeg (0 : Int32).toInt64) := fun u' => by
      refine ⟨zp_v2, hF.mall c1 c2 ?_⟩
      exact zp_if (show (zs_s (zs_s g 4 0) 6 0).1 4 = 0 by rw [zs_sn (by decide), zs_ss]) (zp_fi rfl (zp_if (by rw [pk_uLs]; decide) (hk _ _ _)))
    exact hF.all c1 c2 ⟨zp_v1, fun _ => fin 0, fun _ => fin 1⟩
  · exact Or.inr (zp_ifn c1 (zp_ifn c2 ⟨rfl, zp_v1, fun _ => bad (Or.inr ⟨c1, c2⟩) 0, fun _ => bad (Or.inr ⟨c1, c2⟩) 1⟩))
theorem zp_c4 (hF : zp_F W H ln z g) (hk : ∀ c g o, k63 (4 + 7, 0 + 1, c, g, o)) : zw_La_c4 ln 11 xs k63 4 0 z g o :=
  ⟨zp_v1, fun _ => zp_480 hF hk 0, fun _ => zp_480 hF hk 1⟩
end ZP3
theorem zl_pure {L : Nat} {xs : Nat → Int32} (hL : L ≤ 11) (W H A C B : Nat) (fx fy fb fn fl fp fo : Nat → Int32) (hw1 : 2 + (zl_sc L xs 0 &&& 7) = nI W) (hw2 : 2 + (zl_sc L xs 1 &&& 7) = nI H) (hW2 : 2 ≤ W) (hW9 : W ≤ 9) (hH2 : 2 ≤ H) (hH9 : H ≤ 9) (hAe : A = W * H) (hA81 : A ≤ 81) (hC : C = 2 * A) (hC162 : C ≤ 162) (hB : B = C * 5) (hI : zg_I W H C fx fy fb) (hn : ∀ j, j < C → fn j = -1) (hl : ∀ j, j < C → fl j = -1) (hp : ∀ j, j < 162 → fp j = -1) (ho : ∀ j, j < 162 → fo j = -1) : zq_Lp (zw_La_63 (zl_ln C A B) L xs) (4, 0, zl_c0 W H A C (if ((zl_sc L xs 3) &&& (1 : Int32)) = (1 : Int32) then 1 else 0) ((1 : Int32) + ((zl_sc L xs 2) &&& (3 : Int32))) fx fy fb fn fl, zl_g0 ((2 : Int32) + ((zl_sc L xs 0) &&& (7 : Int32))) ((2 : Int32) + ((zl_sc L xs 1) &&& (7 : Int32))) (if ((zl_sc L xs 3) &&& (1 : Int32)) = (1 : Int32) then 1 else 0) ((1 : Int32) + ((zl_sc L xs 2) &&& (3 : Int32))) fp fo, fun _ => 0) := by
  subst hAe
  subst hC
  subst hB
  have hF : zp_F W H (zl_ln (2 * (W * H)) (W * H) (2 * (W * H) * 5)) (zl_c0 W H (W * H) (2 * (W * H)) (if ((zl_sc L xs 3) &&& (1 : Int32)) = (1 : Int32) then 1 else 0) ((1 : Int32) + ((zl_sc L xs 2) &&& (3 : Int32))) fx fy fb fn fl) (zl_g0 ((2 : Int32) + ((zl_sc L xs 0) &&& (7 : Int32))) ((2 : Int32) + ((zl_sc L xs 1) &&& (7 : Int32))) (if ((zl_sc L xs 3) &&& (1 : Int32)) = (1 : Int32) then 1 else 0) ((1 : Int32) + ((zl_sc L xs 2) &&& (3 : Int32))) fp fo) :=
    ⟨⟨⟨hW2, hW9, hH2, hH9, hA81⟩, rfl, rfl, rfl, rfl, hw1, hw2, rfl⟩, rfl, rfl, rfl, rfl, rfl, rfl, rfl, rfl, rfl, rfl, hn, hl, fun _ => rfl, fun _ => rfl, fun c hc => (hI c hc).2.2, hp, ho, fun _ => rfl, fun _ => rfl⟩
  by_cases h : L = 11
  · subst h
    have hk : ∀ c g o, zq_lp (zw_La_63 (zl_ln (2 * (W * H)) (W * H) (2 * (W * H) * 5)) 11 xs) 1 (4 + 7, 0 + 1, c, g, o) := fun c g o => ⟨by decide, zp_if (by decide) trivial⟩
    refine ⟨2, (by decide : 0 < 1000), zp_ifn (by decide) ⟨zp_v0, fun _ => zp_c0 hF hk, fun _ => zp_c1 hF hk, fun _ => zp_c2 hF hk, fun _ => zp_c3 hF hk, fun _ => zp_c4 hF hk, fun _ => zp_c5 hF hk, fun _ => zp_c6 hF hk, fun _ => zp_c7 hF hk, fun _ => zp_c8 hF hk, fun _ => zp_c9 hF hk, fun _ => zp_c10 hF hk, fun _ => zp_c11 hF hk, fun _ => zp_c12 hF hk, fun _ => hk _ _ _⟩⟩
  · have key : ∀ L, L < 11 → Int32.ofNat L - 7 < 4 := by decide
    exact ⟨1, (by decide : 0 < 1000), zp_if (key L (by omega)) trivial⟩
