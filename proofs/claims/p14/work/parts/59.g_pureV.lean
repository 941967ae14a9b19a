/-! a net more, on both sides -/
section ZV
variable {W H n : Nat} {ln : Nat → Nat} {c c' g g' : zS}
theorem zr_net83 {post : Int32 → zS → Prop} {v7 v8 u : Int32} (h : ¬ u ≤ 0) (hp : post 0 (zs_s g 4 u)) : zw_Mo_net_83 post v7 v8 u g := zp_ifn (by rw [zs_ss]; exact h) hp
theorem zE.net (h : zE W H n ln c g) (hn : n < 6) {i j : Nat} (hi : i < 2 * (W * H)) (hj : j < 2 * (W * H)) (p1 : g.2 1 i = -1) (p2 : g.2 1 j = -1) : zE W H (n + 1) ln (zs_a (zs_a (zs_s (zs_a (zs_a (zs_a (zs_a c 3 (nI n) (nI i)) 4 (nI n) (nI j)) 5 (nI i) (nI n)) 5 (nI j) (nI n)) 4 (nI (n + 1))) 6 (nI i) (nI n)) 6 (nI j) (nI n)) (zs_s (zs_a (zs_a (zs_a (zs_a (zs_a (zs_a (zs_s g 4 0) 8 (nI n) (nI i)) 9 (nI n) (nI j)) 1 (nI i) (nI n)) 1 (nI j) (nI n)) 2 (nI i) (nI n)) 2 (nI j) (nI n)) 5 (nI (n + 1))) := by
  have ci := h.1.ci hi
  have cj := h.1.ci hj
  have cn : (nI n).toNatClampNeg = n := nI_clamp (by omega)
  have r5 : zb_R W H (n + 1) 5 (nI n) := by
    unfold zb_R
    rw [if_neg (by omega), if_pos (by omega)]
    exact Or.inr ⟨n, by omega, rfl⟩
  have r34 : ∀ k x, (k = 3 ∨ k = 4) → x < 2 * (W * H) → zb_R W H (n + 1) k (nI x) := fun k x hk hx => by
    unfold zb_R
    rw [if_pos (by omega)]
    exact ⟨x, hx, rfl⟩
  have hI : zI W H (n + 1) ln (zs_a (zs_a (zs_a (zs_a (zs_a (zs_a (zs_s c 4 (nI (n + 1))) 3 (nI n) (nI i)) 4 (nI n) (nI j)) 5 (nI i) (nI n)) 5 (nI j) (nI n)) 6 (nI i) (nI n)) 6 (nI j) (nI n)) := ((((((h.1.lift hn).put (by omega) (r34 3 i (by omega) hi)).put (by omega) (r34 4 j (by omega) hj)).put (by omega) r5).put (by omega) r5).put (by omega) (zb_R6 (by omega))).put (by omega) (zb_R6 (by omega))
  have g1 : (zs_s (zs_a (zs_a (zs_a (zs_a (zs_a (zs_a (zs_s g 4 0) 8 (nI n) (nI i)) 9 (nI n) (nI j)) 1 (nI i) (nI n)) 1 (nI j) (nI n)) 2 (nI i) (nI n)) 2 (nI j) (nI n)) 5 (nI (n + 1))).2 1 = upd (upd (g.2 1) i (nI n)) j (nI n) := by
    show (zs_a (zs_a (zs_a (zs_a (zs_a (zs_a (zs_s g 4 0) 8 (nI n) (nI i)) 9 (nI n) (nI j)) 1 (nI i) (nI n)) 1 (nI j) (nI n)) 2 (nI i) (nI n)) 2 (nI j) (nI n)).2 1 = _
    rw [zs_an (by omega), zs_an (by omega), zs_a2, if_pos rfl, zs_a2, if_pos rfl, zs_an (by omega), zs_an (by omega), ci, cj]
    rfl
  have g2 : (zs_s (zs_a (zs_a (zs_a (zs_a (zs_a (zs_a (zs_s g 4 0) 8 (nI n) (nI i)) 9 (nI n) (nI j)) 1 (nI i) (nI n)) 1 (nI j) (nI n)) 2 (nI i) (nI n)) 2 (nI j) (nI n)) 5 (nI (n + 1))).2 2 = upd (upd (g.2 2) i (nI n)) j (nI n) := by
    show (zs_a (zs_a (zs_a (zs_a (zs_a (zs_a (zs_s g 4 0) 8 (nI n) (nI i)) 9 (nI n) (nI j)) 1 (nI i) (nI n)) 1 (nI j) (nI n)) 2 (nI i) (nI n)) 2 (nI j) (nI n)).2 2 = _
    rw [zs_a2, if_pos rfl, zs_a2, if_pos rfl, zs_an (by omega), zs_an (by omega), zs_an (by omega), zs_an (by omega), ci, cj]
    rfl
  have g8 : (zs_s (zs_a (zs_a (zs_a (zs_a (zs_a (zs_a (zs_s g 4 0) 8 (nI n) (nI i)) 9 (nI n) (nI j)) 1 (nI i) (nI n)) 1 (nI j) (nI n)) 2 (nI i) (nI n)) 2 (nI j) (nI n)) 5 (nI (n + 1))).2 8 = upd (g.2 8) n (nI i) := by
    show (zs_a (zs_a (zs_a (zs_a (zs_a (zs_a (zs_s g 4 0) 8 (nI n) (nI i)) 9 (nI n) (nI j)) 1 (nI i) (nI n)) 1 (nI j) (nI n)) 2 (nI i) (nI n)) 2 (nI j) (nI n)).2 8 = _
    rw [zs_an (by omega), zs_an (by omega), zs_an (by omega), zs_an (by omega), zs_an (by omega), zs_a2, if_pos rfl, cn]
    rfl
  have g9 : (zs_s (zs_a (zs_a (zs_a (zs_a (zs_a (zs_a (zs_s g 4 0) 8 (nI n) (nI i)) 9 (nI n) (nI j)) 1 (nI i) (nI n)) 1 (nI j) (nI n)) 2 (nI i) (nI n)) 2 (nI j) (nI n)) 5 (nI (n + 1))).2 9 = upd (g.2 9) n (nI j) := by
    show (zs_a (zs_a (zs_a (zs_a (zs_a (zs_a (zs_s g 4 0) 8 (nI n) (nI i)) 9 (nI n) (nI j)) 1 (nI i) (nI n)) 1 (nI j) (nI n)) 2 (nI i) (nI n)) 2 (nI j) (nI n)).2 9 = _
    rw [zs_an (by omega), zs_an (by omega), zs_an (by omega), zs_an (by omega), zs_a2, if_pos rfl, zs_an (by omega), cn]
    rfl
  have go : ∀ k, k ≠ 1 → k ≠ 2 → k ≠ 8 → k ≠ 9 → (zs_s (zs_a (zs_a (zs_a (zs_a (zs_a (zs_a (zs_s g 4 0) 8 (nI n) (nI i)) 9 (nI n) (nI j)) 1 (nI i) (nI n)) 1 (nI j) (nI n)) 2 (nI i) (nI n)) 2 (nI j) (nI n)) 5 (nI (n + 1))).2 k = g.2 k := fun k k1 k2 k8 k9 => by
    show (zs_a (zs_a (zs_a (zs_a (zs_a (zs_a (zs_s g 4 0) 8 (nI n) (nI i)) 9 (nI n) (nI j)) 1 (nI i) (nI n)) 1 (nI j) (nI n)) 2 (nI i) (nI n)) 2 (nI j) (nI n)).2 k = _
    rw [zs_an k2, zs_an k2, zs_an k1, zs_an k1, zs_an k9, zs_an k8]
    rfl
  have gn : ∀ k, k ≠ 4 → k ≠ 5 → (zs_s (zs_a (zs_a (zs_a (zs_a (zs_a (zs_a (zs_s g 4 0) 8 (nI n) (nI i)) 9 (nI n) (nI j)) 1 (nI i) (nI n)) 1 (nI j) (nI n)) 2 (nI i) (nI n)) 2 (nI j) (nI n)) 5 (nI (n + 1))).1 k = g.1 k := fun k k4 k5 => by
    rw [zs_sn k5]
    show (zs_s g 4 0).1 k = _
    rw [zs_sn k4]
  refine ⟨hI, h.2.1.net hn hi hj p1 p2 (gn 0 (by omega) (by omega)) (gn 1 (by omega) (by omega)) (gn 2 (by omega) (by omega)) zs_ss g1 g2 (go 5 (by omega) (by omega) (by omega) (by omega)) g8 g9, ?_, fun x hx => ⟨?_, ?_⟩⟩
  · rw [gn 3 (by omega) (by omega), h.2.2.1]
    show c.1 5 = (zs_s c 4 (nI (n + 1))).1 5
    rw [zs_sn (by omega)]
  · rw [g1]
    show (zs_a (zs_a (zs_a (zs_a (zs_a (zs_a (zs_s c 4 (nI (n + 1))) 3 (nI n) (nI i)) 4 (nI n) (nI j)) 5 (nI i) (nI n)) 5 (nI j) (nI n)) 6 (nI i) (nI n)) 6 (nI j) (nI n)).2 5 x = _
    rw [zs_an (by omega), zs_an (by omega), zs_a2, if_pos rfl, zs_a2, if_pos rfl, zs_an (by omega), zs_an (by omega), ci, cj]
    by_cases e : x = j
    · rw [e, pk_us, pk_us]
    · rw [pk_un e, pk_un e]
      by_cases e' : x = i
      · rw [e', pk_us, pk_us]
      · rw [pk_un e', pk_un e']
        exact (h.2.2.2 x hx).1
  · rw [go 0 (by omega) (by omega) (by omega) (by omega)]
    show (zs_a (zs_a (zs_a (zs_a (zs_a (zs_a (zs_s c 4 (nI (n + 1))) 3 (nI n) (nI i)) 4 (nI n) (nI j)) 5 (nI i) (nI n)) 5 (nI j) (nI n)) 6 (nI i) (nI n)) 6 (nI j) (nI n)).2 8 x = _
    rw [zs_an (by omega), zs_an (by omega), zs_an (by omega), zs_an (by omega), zs_an (by omega), zs_an (by omega)]
    exact (h.2.2.2 x hx).2
theorem zy_net (h : zE W H n ln c g) {a1 a2 a3 a4 a5 a6 : Int32} {o : Nat → Int64} {post : Int32 → zS → (Nat → Int64) → Int32 → zS → Prop} {K : Int32 → zS → (Nat → Int64) → Prop} (hK : ∀ k c' o', zw_Mo_net a1 a2 a3 a4 a5 a6 g (fun r g' => post k c' o' r g') → K k c' o') (hp : ∀ k c' o' r g', (∃ n', zE W H n' ln c' g') → g'.1 4 = k → (k = 0 → o' 0 = r.toInt64) → post k c' o' r g') : zw_La_h_net ln a1 a2 a3 a4 a5 a6 c o K := by
  have hC := h.1.C
  have h6 := h.1.n6
  have bad : ∀ k : Int32, ¬ k = 0 → ∀ r, post k c o r (zs_s g 4 k) := fun k hk r => hp _ _ _ _ _ ⟨n, h.code⟩ zs_ss (fun e => absurd e hk)
  have m1 : ∀ v7 v8, zw_Mo_net_34 (fun r g' => post 1 c o r g') v7 v8 g := fun v7 v8 => zr_net83 (by decide) (bad 1 (by decide) _)
  have m2 : ∀ v7 v8, zw_Mo_net_65 (fun r g' => post 2 c o r g') v7 v8 g := fun v7 v8 => zr_net83 (by decide) (bad 2 (by decide) _)
  rcases zp_cell h.v a1 a2 a3 with ⟨i, hi, hz, hc, hg⟩ | ⟨hz, hg⟩
  · rcases zp_cell h.v a4 a5 a6 with ⟨j, hj, hz', hc', hg'⟩ | ⟨hz', hg'⟩
    · have ni : ¬ nI i = -1 := zp_n1 (by omega)
      have nj : ¬ nI j = -1 := zp_n1 (by omega)
      by_cases eij : i = j
      · subst eij
        exact Or.inr (hz ln _ (zp_ifn (by decide) (hz' ln _ (zp_fin (by decide) (hc ln _ (hc' ln _ (zp_if rfl (Or.inr (Or.inl ⟨rfl, hK _ _ _ (hg _ (hg' _ (zp_ifn ni (zp_fin nj (zp_if rfl (m2 _ _))))))⟩)))))))))
      have nij : ¬ nI i = nI j := fun e => eij ((nI_eq (by omega) (by omega)).mp e)
      have cb1 : ∀ x, x < 2 * (W * H) → (¬ c.2 8 x = 0 ∨ zb_K W H (c.1 5) (c.2 5) x (nI n)) → ∀ po : Int32 → zS → Prop, po 1 c → zw_Rules_isBarred ln (nI x) (c.1 4) c po := fun x hx hb po hpo => by
        rw [h.1.s4]
        exact zc_barred h.1 hx (fun _ => hpo) (fun h8 hk => hb.elim (fun y => absurd h8 y) (fun y => absurd y hk))
      have cb0 : ∀ x, x < 2 * (W * H) → ¬ (¬ c.2 8 x = 0 ∨ zb_K W H (c.1 5) (c.2 5) x (nI n)) → ∀ po : Int32 → zS → Prop, po 0 c → zw_Rules_isBarred ln (nI x) (c.1 4) c po := fun x hx hb po hpo => by
        rw [h.1.s4]
        exact zc_barred h.1 hx (fun y => absurd y hb) (fun _ _ => hpo)
      have eqv : ∀ x, x < 2 * (W * H) → ((¬ c.2 8 x = 0 ∨ zb_K W H (c.1 5) (c.2 5) x (nI n)) ↔ (¬ g.2 0 x = 0 ∨ zb_K W H (g.1 3) (g.2 1) x (-1))) := fun x hx => by
        rw [h.kn hx, (h.2.2.2 x hx).2]
      have rb1 : ∀ x, x < 2 * (W * H) → (¬ c.2 8 x = 0 ∨ zb_K W H (c.1 5) (c.2 5) x (nI n)) → ∀ po : Int32 → zS → Prop, po 1 g → zw_Mo_isBarred (nI x) (-1) g po := fun x hx hb po hpo => zd_barred h.2.1 hx (fun _ => hpo) (fun h8 hk => ((eqv x hx).mp hb).elim (fun y => absurd h8 y) (fun y => absurd y hk))
      have rb0 : ∀ x, x < 2 * (W * H) → ¬ (¬ c.2 8 x = 0 ∨ zb_K W H (c.1 5) (c.2 5) x (nI n)) → ∀ po : Int32 → zS → Prop, po 0 g → zw_Mo_isBarred (nI x) (-1) g po := fun x hx hb po hpo => zd_barred h.2.1 hx (fun y => absurd ((eqv x hx).mpr y) hb) (fun _ _ => hpo)
      by_cases bi : ¬ c.2 8 i = 0 ∨ zb_K W H (c.1 5) (c.2 5) i (nI n)
      · exact Or.inr (hz ln _ (zp_ifn (by decide) (hz' ln _ (zp_fin (by decide) (hc ln _ (hc' ln _ (zp_ifn nij (cb1 i hi bi _ (zp_fin (by decide) (Or.inr (Or.inl ⟨rfl, hK _ _ _ (hg _ (hg' _ (zp_ifn ni (zp_fin nj (zp_ifn nij (rb1 i hi bi _ (zp_fin (by decide) (m2 _ _))))))))⟩)))))))))))
      by_cases bj : ¬ c.2 8 j = 0 ∨ zb_K W H (c.1 5) (c.2 5) j (nI n)
      · exact Or.inr (hz ln _ (zp_ifn (by decide) (hz' ln _ (zp_fin (by decide) (hc ln _ (hc' ln _ (zp_ifn nij (cb0 i hi bi _ (zp_fi rfl (cb1 j hj bj _ (zp_ifn (by decide) (Or.inr (Or.inl ⟨rfl, hK _ _ _ (hg _ (hg' _ (zp_ifn ni (zp_fin nj (zp_ifn nij (rb0 i hi bi _ (zp_fi rfl (rb1 j hj bj _ (zp_ifn (by decide) (m2 _ _))))))))))⟩)))))))))))))
      by_cases en : n = 6
      · have e6 : g.1 5 = 6 := by rw [h.2.1.w5, en]; rfl
        have e6' : ¬ c.1 4 < 6 := by rw [h.1.s4, en]; decide
        exact Or.inr (hz ln _ (zp_ifn (by decide) (hz' ln _ (zp_fin (by decide) (hc ln _ (hc' ln _ (zp_ifn nij (cb0 i hi bi _ (zp_fi rfl (cb0 j hj bj _ (zp_if rfl (zp_ifn e6' (Or.inr (Or.inr ⟨rfl, hK _ _ _ (hg _ (hg' _ (zp_ifn ni (zp_fin nj (zp_ifn nij (rb0 i hi bi _ (zp_fi rfl (rb0 j hj bj _ (zp_if rfl (zp_fi e6 (zr_net83 (by decide) (bad 3 (by decide) _))))))))))))⟩))))))))))))))
      have hn : n < 6 := by omega
      have e6 : ¬ g.1 5 = 6 := by rw [h.2.1.w5]; exact fun e => en ((nI_eq (b := 6) (by omega) (by omega)).mp e)
      have e6' : c.1 4 < 6 := by rw [h.1.s4]; exact nI_lt (b := 6) hn (by omega)
      have pin0 : ∀ x, x < 2 * (W * H) → ¬ (¬ c.2 8 x = 0 ∨ zb_K W H (c.1 5) (c.2 5) x (nI n)) → g.2 1 x = -1 := fun x hx hb => by
        by_cases e : g.2 1 x = -1
        · exact e
        · exact absurd ((eqv x hx).mpr (Or.inr (Or.inl ⟨e, e⟩))) hb
      have hE := h.net hn hi hj (pin0 i hi bi) (pin0 j hj bj)
      have fin : ∀ po : Int32 → zS → Prop, po (nI n) (zs_s (zs_a (zs_a (zs_a (zs_a (zs_a (zs_a (zs_s g 4 0) 8 (nI n) (nI i)) 9 (nI n) (nI j)) 1 (nI i) (nI n)) 1 (nI j) (nI n)) 2 (nI i) (nI n)) 2 (nI j) (nI n)) 5 (nI (n + 1))) → zw_Mo_net_83 po (nI i) (nI j) 0 g := fun po hpo => by
        have e5 : (zs_s g 4 0).1 5 = nI n := by rw [zs_sn (by omega)]; exact h.2.1.w5
        have key : vp_in ((zs_s g 4 0).1 5) 6 ∧ vp_in ((zs_s g 4 0).1 5) 6 ∧ vp_in (nI i) 162 ∧ vp_in (nI j) 162 ∧ vp_in (nI i) 162 ∧ vp_in (nI j) 162 ∧ po ((zs_s (zs_a (zs_a (zs_a (zs_a (zs_a (zs_a (zs_s g 4 0) 8 ((zs_s g 4 0).1 5) (nI i)) 9 ((zs_s g 4 0).1 5) (nI j)) 1 (nI i) ((zs_s g 4 0).1 5)) 1 (nI j) ((zs_s g 4 0).1 5)) 2 (nI i) ((zs_s g 4 0).1 5)) 2 (nI j) ((zs_s g 4 0).1 5)) 5 ((zs_s g 4 0).1 5 + 1)).1 5 - 1) (zs_s (zs_a (zs_a (zs_a (zs_a (zs_a (zs_a (zs_s g 4 0) 8 ((zs_s g 4 0).1 5) (nI i)) 9 ((zs_s g 4 0).1 5) (nI j)) 1 (nI i) ((zs_s g 4 0).1 5)) 1 (nI j) ((zs_s g 4 0).1 5)) 2 (nI i) ((zs_s g 4 0).1 5)) 2 (nI j) ((zs_s g 4 0).1 5)) 5 ((zs_s g 4 0).1 5 + 1)) := by
          rw [e5, nI_1, zs_ss, show nI (n + 1) - 1 = nI n from nI_pred n]
          exact ⟨vp_in_nI hn (by omega), vp_in_nI hn (by omega), h.2.1.ic hi, h.2.1.ic hj, h.2.1.ic hi, h.2.1.ic hj, hpo⟩
        exact zp_if (by rw [zs_ss]; decide) key
      refine Or.inl (hz ln _ (zp_ifn (by decide) (hz' ln _ (zp_fin (by decide) (hc ln _ (hc' ln _ (zp_ifn nij (cb0 i hi bi _ (zp_fi rfl (cb0 j hj bj _ (zp_if rfl (zp_if e6' ?_))))))))))))
      unfold zw_Nets_add
      rw [show (zs_a (zs_a (zs_a (zs_a c 3 (c.1 4) (nI i)) 4 (c.1 4) (nI j)) 5 (nI i) (c.1 4)) 5 (nI j) (c.1 4)).1 4 = c.1 4 from rfl, h.1.s4, nI_1]
      refine ⟨h.1.i6 (by omega) hn, h.1.i6 (by omega) hn, h.1.ic (k := 5) (by omega) (by omega) hi, h.1.ic (k := 5) (by omega) (by omega) hj, h.1.ic (k := 6) (by omega) (by omega) hi, h.1.ic (k := 6) (by omega) (by omega) hj, hK _ _ _ (hg _ (hg' _ (zp_ifn ni (zp_fin nj (zp_ifn nij (rb0 i hi bi _ (zp_fi rfl (rb0 j hj bj _ (zp_if rfl (zp_fin e6 (fin _ (hp _ _ _ _ _ ⟨n + 1, hE⟩ ?_ (fun _ => ?_)))))))))))))⟩
      · rw [zs_sn (by omega)]
        exact (zs_ss : (zs_s g 4 0).1 4 = 0)
      · show vp_updL o 0 _ 0 = _
        unfold vp_updL
        rw [if_pos rfl]
    · exact Or.inr (hz ln _ (zp_ifn (by decide) (hz' ln _ (zp_fi rfl (Or.inl ⟨rfl, hK _ _ _ (hg _ (hg' _ (zp_ifn (zp_n1 (by omega)) (zp_fi rfl (m1 _ _)))))⟩)))))
  · refine Or.inr (hz ln _ (zp_if rfl (Or.inl ⟨rfl, hK _ _ _ (hg _ ?_)⟩)))
    rcases zp_cell h.v a4 a5 a6 with ⟨j, hj, hz', hc', hg'⟩ | ⟨hz', hg'⟩
    · exact hg' _ (zp_if rfl (m1 _ _))
    · exact hg' _ (zp_if rfl (m1 _ _))
end ZV
