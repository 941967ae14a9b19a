/-! both sides' face, owners too -/
section ZAS
variable {W H n : Nat} {ln : Nat → Nat} {c c' g g' : zS}
theorem zR.blk (h : zR W H n ln c g) {i : Nat} (hi : i < 2 * (W * H)) {v : Int32} : zR W H n ln (zs_a c 8 (nI i) (vp_nar .boolean v)) (zs_a g 0 (nI i) (vp_nar .boolean v)) := by
  obtain ⟨hE, hvc, hpin, ho, hsep, hv, h11⟩ := h
  refine ⟨hE.blk hi, hvc, ?_, ?_, ?_, ?_, h11⟩
  · rw [zs_an (by omega), zs_an (by omega), zs_an (by omega), zs_an (by omega)]
    exact hpin
  · rw [zs_an (by omega), zs_an (by omega)]
    exact ho
  · rw [zs_an (by omega)]
    exact hsep
  · rw [zs_an (by omega), zs_an (by omega), zs_an (by omega)]
    exact hv
theorem zR.paint (h : zR W H n ln c g) {i : Nat} (hi : i < 2 * (W * H)) {a : Int32} (ha : a = -1 ∨ zb_n n a) : zR W H n ln (zs_a c 6 (nI i) a) (zs_a (zs_s g 4 0) 2 (nI i) a) := by
  refine h.nx ((zJ.rf h.1.1).put (k := 6) (by omega) (by omega) ?_) rfl (((zO.rf h.1.2.1).num (k := 4) (v := 0) (by omega)).own ha) (fun x hx => ?_) (fun p hp => ?_) h.2.2.2.2.2.2
  · unfold zb_R
    rw [if_neg (by omega), if_pos (by omega)]
    exact ha
  · rw [zs_a2, if_pos rfl, zs_a2, if_pos rfl]
    by_cases e : x = (nI i).toNatClampNeg
    · rw [e, pk_us, pk_us]
    · rw [pk_un e, pk_un e]
      exact h.2.2.2.1 x hx
  · rw [zs_an (by omega), zs_an (by omega)]
    exact h.2.2.2.2.2.1 p hp
theorem zR.net (h : zR W H n ln c g) (hn : n < 6) {i j : Nat} (hi : i < 2 * (W * H)) (hj : j < 2 * (W * H)) (p1 : g.2 1 i = -1) (p2 : g.2 1 j = -1) (b1 : ¬ zb_K W H (g.1 3) (g.2 1) i (-1)) (b2 : ¬ zb_K W H (g.1 3) (g.2 1) j (-1)) : zR W H (n + 1) ln (zs_a (zs_a (zs_s (zs_a (zs_a (zs_a (zs_a c 3 (nI n) (nI i)) 4 (nI n) (nI j)) 5 (nI i) (nI n)) 5 (nI j) (nI n)) 4 (nI (n + 1))) 6 (nI i) (nI n)) 6 (nI j) (nI n)) (zs_s (zs_a (zs_a (zs_a (zs_a (zs_a (zs_a (zs_s g 4 0) 8 (nI n) (nI i)) 9 (nI n) (nI j)) 1 (nI i) (nI n)) 1 (nI j) (nI n)) 2 (nI i) (nI n)) 2 (nI j) (nI n)) 5 (nI (n + 1))) := by
  have hE := h.1.net hn hi hj p1 p2
  obtain ⟨hE0, ⟨vc, v1, v4, ec, eg⟩, hpin, ho, hsep, hv, h11⟩ := h
  have hC := hE0.1.C
  have hd := hE0.1.d
  have ci := hE0.1.ci hi
  have cj := hE0.1.ci hj
  have cn : (nI n).toNatClampNeg = n := nI_clamp (by omega)
  generalize hc1 : zs_a (zs_a (zs_s (zs_a (zs_a (zs_a (zs_a c 3 (nI n) (nI i)) 4 (nI n) (nI j)) 5 (nI i) (nI n)) 5 (nI j) (nI n)) 4 (nI (n + 1))) 6 (nI i) (nI n)) 6 (nI j) (nI n) = c1 at hE
  generalize hg1 : zs_s (zs_a (zs_a (zs_a (zs_a (zs_a (zs_a (zs_s g 4 0) 8 (nI n) (nI i)) 9 (nI n) (nI j)) 1 (nI i) (nI n)) 1 (nI j) (nI n)) 2 (nI i) (nI n)) 2 (nI j) (nI n)) 5 (nI (n + 1)) = g1 at hE
  have c3 : c1.2 3 = upd (c.2 3) n (nI i) := by
    rw [← hc1, zs_an (by omega), zs_an (by omega)]
    show (zs_a (zs_a (zs_a (zs_a c 3 (nI n) (nI i)) 4 (nI n) (nI j)) 5 (nI i) (nI n)) 5 (nI j) (nI n)).2 3 = _
    rw [zs_an (by omega), zs_an (by omega), zs_an (by omega), zs_a2, if_pos rfl, cn]
  have c4 : c1.2 4 = upd (c.2 4) n (nI j) := by
    rw [← hc1, zs_an (by omega), zs_an (by omega)]
    show (zs_a (zs_a (zs_a (zs_a c 3 (nI n) (nI i)) 4 (nI n) (nI j)) 5 (nI i) (nI n)) 5 (nI j) (nI n)).2 4 = _
    rw [zs_an (by omega), zs_an (by omega), zs_a2, if_pos rfl, zs_an (by omega), cn]
  have c5 : c1.2 5 = upd (upd (c.2 5) i (nI n)) j (nI n) := by
    rw [← hc1, zs_an (by omega), zs_an (by omega)]
    show (zs_a (zs_a (zs_a (zs_a c 3 (nI n) (nI i)) 4 (nI n) (nI j)) 5 (nI i) (nI n)) 5 (nI j) (nI n)).2 5 = _
    rw [zs_a2, if_pos rfl, zs_a2, if_pos rfl, zs_an (by omega), zs_an (by omega), ci, cj]
  have c6 : c1.2 6 = upd (upd (c.2 6) i (nI n)) j (nI n) := by
    rw [← hc1, zs_a2, if_pos rfl, zs_a2, if_pos rfl, ci, cj]
    show upd (upd ((zs_a (zs_a (zs_a (zs_a c 3 (nI n) (nI i)) 4 (nI n) (nI j)) 5 (nI i) (nI n)) 5 (nI j) (nI n)).2 6) i (nI n)) j (nI n) = _
    rw [zs_an (by omega), zs_an (by omega), zs_an (by omega), zs_an (by omega)]
  have c7 : c1.2 7 = c.2 7 := by
    rw [← hc1, zs_an (by omega), zs_an (by omega)]
    show (zs_a (zs_a (zs_a (zs_a c 3 (nI n) (nI i)) 4 (nI n) (nI j)) 5 (nI i) (nI n)) 5 (nI j) (nI n)).2 7 = _
    rw [zs_an (by omega), zs_an (by omega), zs_an (by omega), zs_an (by omega)]
  have cN : ∀ k, k ≠ 4 → c1.1 k = c.1 k := fun k hk => by
    rw [← hc1]
    show (zs_s (zs_a (zs_a (zs_a (zs_a c 3 (nI n) (nI i)) 4 (nI n) (nI j)) 5 (nI i) (nI n)) 5 (nI j) (nI n)) 4 (nI (n + 1))).1 k = _
    rw [zs_sn hk]
    rfl
  have G : ∀ k, g1.2 k = (zs_a (zs_a (zs_a (zs_a (zs_a (zs_a (zs_s g 4 0) 8 (nI n) (nI i)) 9 (nI n) (nI j)) 1 (nI i) (nI n)) 1 (nI j) (nI n)) 2 (nI i) (nI n)) 2 (nI j) (nI n)).2 k := fun k => by rw [← hg1]; rfl
  have g1' : g1.2 1 = upd (upd (g.2 1) i (nI n)) j (nI n) := by
    rw [G, zs_an (by omega), zs_an (by omega), zs_a2, if_pos rfl, zs_a2, if_pos rfl, zs_an (by omega), zs_an (by omega), ci, cj]
    rfl
  have g2' : g1.2 2 = upd (upd (g.2 2) i (nI n)) j (nI n) := by
    rw [G, zs_a2, if_pos rfl, zs_a2, if_pos rfl, zs_an (by omega), zs_an (by omega), zs_an (by omega), zs_an (by omega), ci, cj]
    rfl
  have g3' : g1.2 3 = g.2 3 := by
    rw [G, zs_an (by omega), zs_an (by omega), zs_an (by omega), zs_an (by omega), zs_an (by omega), zs_an (by omega)]
    rfl
  have g8' : g1.2 8 = upd (g.2 8) n (nI i) := by
    rw [G, zs_an (by omega), zs_an (by omega), zs_an (by omega), zs_an (by omega), zs_an (by omega), zs_a2, if_pos rfl, cn]
    rfl
  have g9' : g1.2 9 = upd (g.2 9) n (nI j) := by
    rw [G, zs_an (by omega), zs_an (by omega), zs_an (by omega), zs_an (by omega), zs_a2, if_pos rfl, zs_an (by omega), cn]
    rfl
  have gN : ∀ k, k ≠ 4 → k ≠ 5 → g1.1 k = g.1 k := fun k k4 k5 => by
    rw [← hg1, zs_sn k5]
    show (zs_s g 4 0).1 k = _
    rw [zs_sn k4]
  have u2 : ∀ (f q : Nat → Int32) x, f x = q x → upd (upd f i (nI n)) j (nI n) x = upd (upd q i (nI n)) j (nI n) x := fun f q x e => by
    by_cases e1 : x = j
    · rw [e1, pk_us, pk_us]
    · rw [pk_un e1, pk_un e1]
      by_cases e2 : x = i
      · rw [e2, pk_us, pk_us]
      · rw [pk_un e2, pk_un e2, e]
  refine ⟨hE, ⟨vc, v1, v4, (cN 8 (by omega)).trans ec, (gN 2 (by omega) (by omega)).trans eg⟩, fun k hk => ?_, fun x hx => ?_, ?_, fun p hp => ?_, (cN 11 (by omega)).trans h11⟩
  · rw [c3, c4, g8', g9']
    by_cases e : k = n
    · rw [e, pk_us, pk_us, pk_us, pk_us]
      exact ⟨rfl, rfl⟩
    · rw [pk_un e, pk_un e, pk_un e, pk_un e]
      exact hpin k (by omega)
  · rw [c6, g2']
    exact u2 _ _ x (ho x hx)
  · rw [gN 3 (by omega) (by omega), g1']
    intro hs x x' d k k' hx hx' hdd hk hk' eB e e'
    have val : ∀ y ky, y < 2 * (W * H) → ky < n + 1 → upd (upd (g.2 1) i (nI n)) j (nI n) y = nI ky → ((y = i ∨ y = j) ∧ ky = n) ∨ (y ≠ i ∧ y ≠ j ∧ g.2 1 y = nI ky ∧ ky < n) := fun y ky hy hky ey => by
      by_cases e1 : y = j
      · rw [e1, pk_us] at ey
        exact Or.inl ⟨Or.inr e1, ((nI_eq (by omega) (by omega)).mp ey).symm⟩
      · rw [pk_un e1] at ey
        by_cases e2 : y = i
        · rw [e2, pk_us] at ey
          exact Or.inl ⟨Or.inl e2, ((nI_eq (by omega) (by omega)).mp ey).symm⟩
        · rw [pk_un e2] at ey
          refine Or.inr ⟨e2, e1, ey, ?_⟩
          rcases hE0.2.1.pin hy with e3 | ⟨m, hm, e3⟩
          · rw [e3] at ey
            exact absurd ey.symm (zp_n1 (by omega))
          · have := (nI_eq (by omega) (by omega)).mp (e3.symm.trans ey)
            omega
    -- beside a new pin there is none
    have nb : ∀ y y' d ky, (y = i ∨ y = j) → y' < 2 * (W * H) → d < 4 → zg_B W H y d = nI y' → ky < n → g.2 1 y' = nI ky → False := fun y y' d ky hy hy' hd4 eB' hky ey => by
      have hne : ¬ g.2 1 y' = -1 := by rw [ey]; exact zp_n1 (by omega)
      rcases hy with rfl | rfl
      · exact b1 (Or.inr ⟨hs, d, hd4, y', hy', eB', hne, hne⟩)
      · exact b2 (Or.inr ⟨hs, d, hd4, y', hy', eB', hne, hne⟩)
    rcases val x k hx hk e with ⟨a1, a2⟩ | ⟨a1, a2, a3, a4⟩
    · rcases val x' k' hx' hk' e' with ⟨q1, q2⟩ | ⟨q1, q2, q3, q4⟩
      · omega
      · exact (nb x x' d k' a1 hx' hdd eB q4 q3).elim
    · rcases val x' k' hx' hk' e' with ⟨q1, q2⟩ | ⟨q1, q2, q3, q4⟩
      · have hinv := zg_B_inv hd.1 hd.2.2.1 hd.2.2.2.2 hx hx' (by omega) eB
        have hd4 : (if d = 0 then 1 else if d = 1 then 0 else if d = 2 then 3 else if d = 3 then 2 else 4) < 4 := by
          have : d = 0 ∨ d = 1 ∨ d = 2 ∨ d = 3 := by omega
          rcases this with rfl | rfl | rfl | rfl <;> decide
        exact (nb x' x _ k q1 hx hd4 hinv a4 a3).elim
      · exact hsep hs x x' d k k' hx hx' hdd a4 q4 eB a3 q3
  · rw [c7, g3', c5]
    rcases hv p hp with hx | ⟨x, k, x1, x2, x3, x4⟩
    · exact Or.inl hx
    · right
      have e5 : g.2 1 x = nI k := ((hE0.2.2.2 x x1).1).symm.trans x4
      have n1 : x ≠ i := fun e => by rw [e, p1] at e5; exact zp_n1 (c := k) (by omega) e5.symm
      have n2 : x ≠ j := fun e => by rw [e, p2] at e5; exact zp_n1 (c := k) (by omega) e5.symm
      exact ⟨x, k, x1, x2, by omega, by rw [pk_un n2, pk_un n1]; exact x4⟩
theorem zyR_block (h : zR W H n ln c g) {a1 a2 a3 : Int32} {o : Nat → Int64} {post : Int32 → zS → (Nat → Int64) → Int32 → zS → Prop} {K : Int32 → zS → (Nat → Int64) → Prop} (hK : ∀ k c' o', zw_Mo_block a1 a2 a3 g (fun r g' => post k c' o' r g') → K k c' o') (hp : ∀ k c' o' r g', zR W H n ln c' g' → g'.1 4 = k → (k = 0 → o' 0 = if r = 0 then 0 else 1) → post k c' o' r g') : zw_La_h_block ln a1 a2 a3 c o K := by
  have hC := h.1.1.C
  rcases zp_cell h.1.v a1 a2 a3 with ⟨i, hi, hz, hc, hg⟩ | ⟨hz, hg⟩
  · have ic5 := h.1.1.ic (k := 5) (by omega) (by omega) hi
    have ic8 := h.1.1.ic (k := 8) (by omega) (by omega) hi
    have ci := h.1.1.ci hi
    have mi := h.1.2.1.ic hi
    by_cases e5 : c.2 5 i = -1
    · have e1 : g.2 1 i = -1 := by rw [← (h.1.2.2.2 i hi).1]; exact e5
      -- a block set or taken away
      have go : ∀ v : Int32, (∀ po : Int32 → zS → Prop, po (vp_nar .boolean v) (zs_a (zs_s g 4 0) 0 (nI i) (vp_nar .boolean v)) → zw_Mo_block a1 a2 a3 g po) → zw_Gr_block_86 ln (fun r z1 => K 0 z1 (vp_updL o (0 : Int32).toNatClampNeg (if r = 0 then 0 else 1))) (nI i) v (nI i) c := fun v hv => by
        refine ⟨ic8, ic8, ?_⟩
        rw [zs_aa]
        refine ⟨zb_bn (zb_nar v), hK _ _ _ (hv _ (hp _ _ _ _ _ (h.code.blk hi) ?_ (fun _ => ?_)))⟩
        · exact (zs_ss : (zs_s g 4 0).1 4 = 0)
        · show vp_updL o 0 _ 0 = _
          unfold vp_updL
          rw [if_pos rfl]
      have mo : ∀ v : Int32, (v = if g.2 0 i = 0 then 1 else 0) → ∀ po : Int32 → zS → Prop, po (vp_nar .boolean v) (zs_a (zs_s g 4 0) 0 (nI i) (vp_nar .boolean v)) → zw_Mo_block a1 a2 a3 g po := fun v hv po hpo => by
        have f69 : zw_Mo_block_69 po (nI i) v (nI i) (zs_s g 4 0) := by
          refine ⟨mi, mi, ?_⟩
          rw [zs_aa]
          exact ⟨zb_bn (zb_nar v), hpo⟩
        refine hg _ (zp_fin (zp_n1 (by omega)) ⟨mi, ?_⟩)
        rw [ci]
        refine zp_if e1 (zp_if (by rw [zs_ss]; decide) ⟨mi, ?_⟩)
        rw [show (zs_s g 4 0).2 0 = g.2 0 from rfl, ci]
        by_cases e0 : g.2 0 i = 0
        · rw [if_pos e0] at hv
          subst hv
          exact zp_fi e0 f69
        · rw [if_neg e0] at hv
          subst hv
          exact zp_fin e0 f69
      refine Or.inl (hz ln _ (zp_fin (by decide) (hc ln _ ⟨ic5, ?_⟩)))
      rw [ci]
      refine zp_if e5 ⟨ic8, ?_⟩
      have e80 := (h.1.2.2.2 i hi).2
      by_cases e8 : c.2 8 i = 0
      · exact zp_fi e8 (go 1 (mo 1 (by rw [if_pos (by rw [← e80]; exact e8)])))
      · exact zp_fin e8 (go 0 (mo 0 (by rw [if_neg (by rw [← e80]; exact e8)])))
    · have e1 : ¬ g.2 1 i = -1 := by rw [← (h.1.2.2.2 i hi).1]; exact e5
      refine Or.inr (hz ln _ (zp_fin (by decide) (hc ln _ ⟨ic5, ?_⟩)))
      rw [ci]
      refine zp_ifn e5 (Or.inr ⟨rfl, hK _ _ _ (hg _ (zp_fin (zp_n1 (by omega)) ⟨mi, ?_⟩))⟩)
      rw [ci]
      exact zp_ifn e1 (zp_ifn (by rw [zs_ss]; decide) ⟨zp_b0, hp _ _ _ _ _ h.code zs_ss (fun e => absurd e (by decide))⟩)
  · exact Or.inr (hz ln _ (zp_fi rfl (Or.inl ⟨rfl, hK _ _ _ (hg _ (zp_fi rfl (zp_ifn (by rw [zs_ss]; decide) ⟨zp_b0, hp _ _ _ _ _ h.code zs_ss (fun e => absurd e (by decide))⟩)))⟩)))

theorem zyR_paint (h : zR W H n ln c g) {a1 a2 a3 a4 : Int32} {o : Nat → Int64} {post : Int32 → zS → (Nat → Int64) → zS → Prop} {K : Int32 → zS → (Nat → Int64) → Prop} (hK : ∀ k c' o', zw_Mo_paint a1 a2 a3 a4 g (fun g' => post k c' o' g') → K k c' o') (hp : ∀ k c' g', zR W H n ln c' g' → g'.1 4 = k → post k c' o g') : zw_La_h_paint ln a1 a2 a3 a4 c o K := by
  have hC := h.1.1.C
  have bad : ∀ r, zw_Mo_paint_35 (fun g' => post 1 c o g') a4 r g := fun r => zp_fin (by rw [zs_ss]; decide) (hp _ _ _ h.code zs_ss)
  rcases zp_cell h.1.v a1 a2 a3 with ⟨i, hi, hz, hc, hg⟩ | ⟨hz, hg⟩
  · have good : (a4 = -1 ∨ zb_n n a4) → post 0 (zs_a c 6 (nI i) a4) o (zs_a (zs_s g 4 0) 2 (nI i) a4) := fun ha => by
      exact hp _ _ _ (h.paint hi ha) (zs_ss : (zs_s g 4 0).1 4 = 0)
    have mo : ∀ po : zS → Prop, po (zs_a (zs_s g 4 0) 2 (nI i) a4) → zw_Mo_paint_31 po a4 (nI i) g := fun po hpo => zp_fi (by rw [zs_ss]) ⟨h.1.2.1.ic hi, hpo⟩
    have i6 := h.1.1.ic (k := 6) (by omega) (by omega) hi
    have nn : ¬ nI i = -1 := zp_n1 (by omega)
    by_cases e4 : a4 = -1
    · exact Or.inl (hz ln _ (zp_ifn (by decide) (zp_if e4 (hc ln _ ⟨i6, hK _ _ _ (hg _ (zp_ifn nn (zp_if e4 (mo _ (good (Or.inl e4))))))⟩))))
    · rcases zd_isNet h.1.2.1 a4 with ⟨m, hm, em, hn⟩ | ⟨hno, hn⟩
      · rcases zc_has h.1.1 a4 with ⟨m', hm', em', hn'⟩ | ⟨hno', _⟩
        · exact Or.inl (hz ln _ (zp_ifn (by decide) (zp_ifn e4 (hn' _ (zp_fin (by decide) (hc ln _ ⟨i6, hK _ _ _ (hg _ (zp_ifn nn (zp_ifn e4 (hn _ (zp_ifn (by decide) (mo _ (good (Or.inr ⟨m, hm, em⟩))))))))⟩))))))
        · exact absurd em (hno' m hm)
      · rcases zc_has h.1.1 a4 with ⟨m', hm', em', _⟩ | ⟨_, hn'⟩
        · exact absurd em' (hno m' hm')
        · exact Or.inr (hz ln _ (zp_ifn (by decide) (zp_ifn e4 (hn' _ (zp_fi rfl ⟨rfl, hK _ _ _ (hg _ (zp_ifn nn (zp_ifn e4 (hn _ (zp_if rfl (bad _))))))⟩)))))
  · exact Or.inr (hz ln _ (zp_if rfl ⟨rfl, hK _ _ _ (hg _ (zp_if rfl (bad _)))⟩))

theorem zyR_cell (h : zR W H n ln c g) {a1 a2 a3 : Int32} {o : Nat → Int64} {post : Int32 → zS → (Nat → Int64) → Int32 → zS → Prop} {K : Int32 → zS → (Nat → Int64) → Prop} (hK : ∀ k c' o', zw_Mo_cell a1 a2 a3 g (fun r g' => post k c' o' r g') → K k c' o') (h0 : ∀ i, i < 2 * (W * H) → zR W H n ln c (zs_s g 4 0) → post 0 c (vp_updL o 0 (c.2 6 i).toInt64) (g.2 2 i) (zs_s g 4 0)) (h1 : zR W H n ln c (zs_s g 4 1) → post 1 c o 0 (zs_s g 4 1)) : zw_La_h_cell ln a1 a2 a3 c o K := by
  have hC := h.1.1.C
  rcases zp_cell h.1.v a1 a2 a3 with ⟨i, hi, hz, hc, hg⟩ | ⟨hz, hg⟩
  · refine Or.inl (hz ln _ (zp_fin (by decide) (hc ln _ ⟨h.1.1.ic (k := 6) (by omega) (by omega) hi, hK _ _ _ (hg _ (zp_fin (zp_n1 (by omega)) (zp_fi (by rw [zs_ss]) ⟨h.1.2.1.ic hi, ?_⟩)))⟩)))
    rw [h.1.1.ci hi]
    exact h0 i hi h.code
  · exact Or.inr (hz ln _ (zp_fi rfl ⟨rfl, hK _ _ _ (hg _ (zp_fi rfl (zp_fin (by rw [zs_ss]; decide) (h1 h.code))))⟩))

theorem zyR_stitch (h : zR W H n ln c g) {a1 a2 : Int32} {o : Nat → Int64} {post : Int32 → zS → (Nat → Int64) → Int32 → zS → Prop} {K : Int32 → zS → (Nat → Int64) → Prop} (hK : ∀ k c' o', zw_Mo_stitch a1 a2 g (fun r g' => post k c' o' r g') → K k c' o') (hp : ∀ k c' o' r g', zR W H n ln c' g' → post k c' o' r g') : zw_La_h_stitch ln a1 a2 c o K := by
  have hC := h.1.1.C
  have hd := h.1.1.d
  rcases zp_place h.1.v a1 a2 with ⟨x, y, hx, hy, rfl, rfl, hz, hg⟩ | ⟨hz, hg⟩
  · have hpl : y * W + x < W * H := zp_pl hx hy
    have i7 := h.1.1.i7 hpl
    have i81 := h.1.2.1.i81 hpl
    have cp : (nI (y * W + x)).toNatClampNeg = y * W + x := nI_clamp (by omega)
    have ei : ∀ v, (nI y * ((zs_s g 4 v).1 0)) + nI x = nI (y * W + x) := fun v => by
      rw [zs_sn (by omega), h.1.2.1.w0, nI_mul, nI_add]
    have mo : ∀ v (k : Int32) (c' : zS) (o' : Nat → Int64), zR W H n ln c' (zs_a (zs_s g 4 0) 3 (nI (y * W + x)) (vp_nar .boolean v)) → zw_Mo_stitch_60 (fun r g' => post k c' o' r g') (nI x) (nI y) v (nI (y * W + x)) (zs_s g 4 0) := fun v k c' o' hE => by
      refine ⟨i81, ?_⟩
      rw [show (zs_a (zs_s g 4 0) 3 (nI (y * W + x)) (vp_nar .boolean v)).1 0 = (zs_s g 4 0).1 0 from rfl, ei, zs_aa]
      exact ⟨i81, zb_bn (zb_nar v), hp _ _ _ _ _ hE⟩
    have st : ∀ v v', (c.2 7 (y * W + x) = g.2 3 (y * W + x) → v = v') → zR W H n ln (zs_a c 7 (nI (y * W + x)) (vp_nar .boolean v)) (zs_a (zs_s g 4 0) 3 (nI (y * W + x)) (vp_nar .boolean v')) := fun v v' hvv => by
      refine h.nx ((zJ.rf h.1.1).put (k := 7) (by omega) (by omega) (zb_Rb (by omega))) rfl (((zO.rf h.1.2.1).num (k := 4) (v := 0) (by omega)).put (by omega)) (fun i hi => ?_) (fun p hpp => ?_) h.2.2.2.2.2.2
      · rw [zs_an (by omega), zs_an (by omega)]
        exact h.2.2.2.1 i hi
      · rw [zs_a2, if_pos rfl, zs_a2, if_pos rfl, cp]
        by_cases e : p = y * W + x
        · rw [e, pk_us, pk_us]
          rcases h.2.2.2.2.2.1 (y * W + x) hpl with hx | hx
          · rw [hvv hx]
            exact Or.inl rfl
          · exact Or.inr hx
        · rw [pk_un e, pk_un e]
          exact h.2.2.2.2.2.1 p hpp
    have ref : ∀ v (k : Int32) (o' : Nat → Int64), (v = if c.2 7 (y * W + x) = 0 then 1 else 0) → zw_Mo_stitch (nI x) (nI y) g (fun r g' => post k (zs_a c 7 (nI (y * W + x)) (vp_nar .boolean v)) o' r g') := fun v k o' hv => by
      refine hg _ (zp_ifn (by decide) (zp_if (by rw [zs_ss]; decide) ?_))
      rw [ei]
      refine ⟨i81, ?_⟩
      rw [show (zs_s g 4 0).2 3 = g.2 3 from rfl, cp]
      by_cases e3 : g.2 3 (y * W + x) = 0
      · refine zp_fi e3 (mo 1 _ _ _ (st _ _ (fun e => ?_)))
        rw [hv, e, if_pos e3]
      · refine zp_fin e3 (mo 0 _ _ _ (st _ _ (fun e => ?_)))
        rw [hv, e, if_neg e3]
    have cl : ∀ v, (v = if c.2 7 (y * W + x) = 0 then 1 else 0) → zw_Gr_stitch_58 ln (fun r z1 => K 0 z1 (vp_updL o (0 : Int32).toNatClampNeg (if r = 0 then 0 else 1))) (nI (y * W + x)) v (nI (y * W + x)) c := fun v hv => by
      refine ⟨i7, i7, ?_⟩
      rw [zs_aa]
      exact ⟨zb_bn (zb_nar v), hK _ _ _ (ref v _ _ hv)⟩
    refine Or.inl (hz ln _ (zp_fin (by decide) (zp_ca0 h.1 ⟨i7, ?_⟩)))
    rw [cp]
    by_cases e7 : c.2 7 (y * W + x) = 0
    · exact zp_fi e7 (cl 1 (by rw [if_pos e7]))
    · exact zp_fin e7 (cl 0 (by rw [if_neg e7]))
  · exact Or.inr (hz ln _ (zp_fi rfl ⟨rfl, hK _ _ _ (hg _ (zp_if rfl (zp_ifn (by rw [zs_ss]; decide) ⟨zp_b0, hp _ _ _ _ _ h.code⟩)))⟩))
theorem zyR_via (h : zR W H n ln c g) {a1 a2 : Int32} {o : Nat → Int64} {post : Int32 → zS → (Nat → Int64) → Int32 → zS → Prop} {K : Int32 → zS → (Nat → Int64) → Prop} (hK : ∀ k c' o', zw_Mo_via a1 a2 g (fun r g' => post k c' o' r g') → K k c' o') (hp : ∀ k c' o' r g', zR W H n ln c' g' → post k c' o' r g') : zw_La_h_via ln a1 a2 c o K := by
  rcases zp_place h.1.v a1 a2 with ⟨x, y, hx, hy, rfl, rfl, hz, hg⟩ | ⟨hz, hg⟩
  · have hpl : y * W + x < W * H := zp_pl hx hy
    have ei : ∀ v, (nI y * ((zs_s g 4 v).1 0)) + nI x = nI (y * W + x) := fun v => by
      rw [zs_sn (by omega), h.1.2.1.w0, nI_mul, nI_add]
    refine Or.inl (hz ln _ (zp_fin (by decide) (zp_ca0 h.1 ⟨h.1.1.i7 hpl, zb_bn (h.1.1.vb hpl), hK _ _ _ (hg _ (zp_ifn (by decide) (zp_fi (by rw [zs_ss]) ?_)))⟩)))
    rw [ei]
    refine ⟨h.1.2.1.i81 hpl, ?_⟩
    by_cases e3 : (zs_s g 4 0).2 3 (nI (y * W + x)).toNatClampNeg = 0
    · exact zp_if e3 ⟨zp_b0, hp _ _ _ _ _ h.code⟩
    · exact zp_ifn e3 ⟨zp_b1, hp _ _ _ _ _ h.code⟩
  · exact Or.inr (hz ln _ (zp_fi rfl ⟨rfl, hK _ _ _ (hg _ (zp_if rfl (zp_fin (by rw [zs_ss]; decide) ⟨zp_b0, hp _ _ _ _ _ h.code⟩)))⟩))

theorem zyR_net (h : zR W H n ln c g) {a1 a2 a3 a4 a5 a6 : Int32} {o : Nat → Int64} {post : Int32 → zS → (Nat → Int64) → Int32 → zS → Prop} {K : Int32 → zS → (Nat → Int64) → Prop} (hK : ∀ k c' o', zw_Mo_net a1 a2 a3 a4 a5 a6 g (fun r g' => post k c' o' r g') → K k c' o') (hp : ∀ k c' o' r g', (∃ n', zR W H n' ln c' g') → g'.1 4 = k → (k = 0 → o' 0 = r.toInt64) → post k c' o' r g') : zw_La_h_net ln a1 a2 a3 a4 a5 a6 c o K := by
  have hC := h.1.1.C
  have h6 := h.1.1.n6
  have bad : ∀ k : Int32, ¬ k = 0 → ∀ r, post k c o r (zs_s g 4 k) := fun k hk r => hp _ _ _ _ _ ⟨n, h.code⟩ zs_ss (fun e => absurd e hk)
  have m1 : ∀ v7 v8, zw_Mo_net_34 (fun r g' => post 1 c o r g') v7 v8 g := fun v7 v8 => zr_net83 (by decide) (bad 1 (by decide) _)
  have m2 : ∀ v7 v8, zw_Mo_net_65 (fun r g' => post 2 c o r g') v7 v8 g := fun v7 v8 => zr_net83 (by decide) (bad 2 (by decide) _)
  rcases zp_cell h.1.v a1 a2 a3 with ⟨i, hi, hz, hc, hg⟩ | ⟨hz, hg⟩
  · rcases zp_cell h.1.v a4 a5 a6 with ⟨j, hj, hz', hc', hg'⟩ | ⟨hz', hg'⟩
    · have ni : ¬ nI i = -1 := zp_n1 (by omega)
      have nj : ¬ nI j = -1 := zp_n1 (by omega)
      by_cases eij : i = j
      · subst eij
        exact Or.inr (hz ln _ (zp_ifn (by decide) (hz' ln _ (zp_fin (by decide) (hc ln _ (hc' ln _ (zp_if rfl (Or.inr (Or.inl ⟨rfl, hK _ _ _ (hg _ (hg' _ (zp_ifn ni (zp_fin nj (zp_if rfl (m2 _ _))))))⟩)))))))))
      have nij : ¬ nI i = nI j := fun e => eij ((nI_eq (by omega) (by omega)).mp e)
      have cb1 : ∀ x, x < 2 * (W * H) → (¬ c.2 8 x = 0 ∨ zb_K W H (c.1 5) (c.2 5) x (nI n)) → ∀ po : Int32 → zS → Prop, po 1 c → zw_Rules_isBarred ln (nI x) (c.1 4) c po := fun x hx hb po hpo => by
        rw [h.1.1.s4]
        exact zc_barred h.1.1 hx (fun _ => hpo) (fun h8 hk => hb.elim (fun y => absurd h8 y) (fun y => absurd y hk))
      have cb0 : ∀ x, x < 2 * (W * H) → ¬ (¬ c.2 8 x = 0 ∨ zb_K W H (c.1 5) (c.2 5) x (nI n)) → ∀ po : Int32 → zS → Prop, po 0 c → zw_Rules_isBarred ln (nI x) (c.1 4) c po := fun x hx hb po hpo => by
        rw [h.1.1.s4]
        exact zc_barred h.1.1 hx (fun y => absurd y hb) (fun _ _ => hpo)
      have eqv : ∀ x, x < 2 * (W * H) → ((¬ c.2 8 x = 0 ∨ zb_K W H (c.1 5) (c.2 5) x (nI n)) ↔ (¬ g.2 0 x = 0 ∨ zb_K W H (g.1 3) (g.2 1) x (-1))) := fun x hx => by
        rw [h.1.kn hx, (h.1.2.2.2 x hx).2]
      have rb1 : ∀ x, x < 2 * (W * H) → (¬ c.2 8 x = 0 ∨ zb_K W H (c.1 5) (c.2 5) x (nI n)) → ∀ po : Int32 → zS → Prop, po 1 g → zw_Mo_isBarred (nI x) (-1) g po := fun x hx hb po hpo => zd_barred h.1.2.1 hx (fun _ => hpo) (fun h8 hk => ((eqv x hx).mp hb).elim (fun y => absurd h8 y) (fun y => absurd y hk))
      have rb0 : ∀ x, x < 2 * (W * H) → ¬ (¬ c.2 8 x = 0 ∨ zb_K W H (c.1 5) (c.2 5) x (nI n)) → ∀ po : Int32 → zS → Prop, po 0 g → zw_Mo_isBarred (nI x) (-1) g po := fun x hx hb po hpo => zd_barred h.1.2.1 hx (fun y => absurd ((eqv x hx).mpr y) hb) (fun _ _ => hpo)
      by_cases bi : ¬ c.2 8 i = 0 ∨ zb_K W H (c.1 5) (c.2 5) i (nI n)
      · exact Or.inr (hz ln _ (zp_ifn (by decide) (hz' ln _ (zp_fin (by decide) (hc ln _ (hc' ln _ (zp_ifn nij (cb1 i hi bi _ (zp_fin (by decide) (Or.inr (Or.inl ⟨rfl, hK _ _ _ (hg _ (hg' _ (zp_ifn ni (zp_fin nj (zp_ifn nij (rb1 i hi bi _ (zp_fin (by decide) (m2 _ _))))))))⟩)))))))))))
      by_cases bj : ¬ c.2 8 j = 0 ∨ zb_K W H (c.1 5) (c.2 5) j (nI n)
      · exact Or.inr (hz ln _ (zp_ifn (by decide) (hz' ln _ (zp_fin (by decide) (hc ln _ (hc' ln _ (zp_ifn nij (cb0 i hi bi _ (zp_fi rfl (cb1 j hj bj _ (zp_ifn (by decide) (Or.inr (Or.inl ⟨rfl, hK _ _ _ (hg _ (hg' _ (zp_ifn ni (zp_fin nj (zp_ifn nij (rb0 i hi bi _ (zp_fi rfl (rb1 j hj bj _ (zp_ifn (by decide) (m2 _ _))))))))))⟩)))))))))))))
      by_cases en : n = 6
      · have e6 : g.1 5 = 6 := by rw [h.1.2.1.w5, en]; rfl
        have e6' : ¬ c.1 4 < 6 := by rw [h.1.1.s4, en]; decide
        exact Or.inr (hz ln _ (zp_ifn (by decide) (hz' ln _ (zp_fin (by decide) (hc ln _ (hc' ln _ (zp_ifn nij (cb0 i hi bi _ (zp_fi rfl (cb0 j hj bj _ (zp_if rfl (zp_ifn e6' (Or.inr (Or.inr ⟨rfl, hK _ _ _ (hg _ (hg' _ (zp_ifn ni (zp_fin nj (zp_ifn nij (rb0 i hi bi _ (zp_fi rfl (rb0 j hj bj _ (zp_if rfl (zp_fi e6 (zr_net83 (by decide) (bad 3 (by decide) _))))))))))))⟩))))))))))))))
      have hn : n < 6 := by omega
      have e6 : ¬ g.1 5 = 6 := by rw [h.1.2.1.w5]; exact fun e => en ((nI_eq (b := 6) (by omega) (by omega)).mp e)
      have e6' : c.1 4 < 6 := by rw [h.1.1.s4]; exact nI_lt (b := 6) hn (by omega)
      have pin0 : ∀ x, x < 2 * (W * H) → ¬ (¬ c.2 8 x = 0 ∨ zb_K W H (c.1 5) (c.2 5) x (nI n)) → g.2 1 x = -1 := fun x hx hb => by
        by_cases e : g.2 1 x = -1
        · exact e
        · exact absurd ((eqv x hx).mpr (Or.inr (Or.inl ⟨e, e⟩))) hb
      have hE := h.net hn hi hj (pin0 i hi bi) (pin0 j hj bj) (fun hx => bi ((eqv i hi).mpr (Or.inr hx))) (fun hx => bj ((eqv j hj).mpr (Or.inr hx)))
      have fin : ∀ po : Int32 → zS → Prop, po (nI n) (zs_s (zs_a (zs_a (zs_a (zs_a (zs_a (zs_a (zs_s g 4 0) 8 (nI n) (nI i)) 9 (nI n) (nI j)) 1 (nI i) (nI n)) 1 (nI j) (nI n)) 2 (nI i) (nI n)) 2 (nI j) (nI n)) 5 (nI (n + 1))) → zw_Mo_net_83 po (nI i) (nI j) 0 g := fun po hpo => by
        have e5 : (zs_s g 4 0).1 5 = nI n := by rw [zs_sn (by omega)]; exact h.1.2.1.w5
        have key : vp_in ((zs_s g 4 0).1 5) 6 ∧ vp_in ((zs_s g 4 0).1 5) 6 ∧ vp_in (nI i) 162 ∧ vp_in (nI j) 162 ∧ vp_in (nI i) 162 ∧ vp_in (nI j) 162 ∧ po ((zs_s (zs_a (zs_a (zs_a (zs_a (zs_a (zs_a (zs_s g 4 0) 8 ((zs_s g 4 0).1 5) (nI i)) 9 ((zs_s g 4 0).1 5) (nI j)) 1 (nI i) ((zs_s g 4 0).1 5)) 1 (nI j) ((zs_s g 4 0).1 5)) 2 (nI i) ((zs_s g 4 0).1 5)) 2 (nI j) ((zs_s g 4 0).1 5)) 5 ((zs_s g 4 0).1 5 + 1)).1 5 - 1) (zs_s (zs_a (zs_a (zs_a (zs_a (zs_a (zs_a (zs_s g 4 0) 8 ((zs_s g 4 0).1 5) (nI i)) 9 ((zs_s g 4 0).1 5) (nI j)) 1 (nI i) ((zs_s g 4 0).1 5)) 1 (nI j) ((zs_s g 4 0).1 5)) 2 (nI i) ((zs_s g 4 0).1 5)) 2 (nI j) ((zs_s g 4 0).1 5)) 5 ((zs_s g 4 0).1 5 + 1)) := by
          rw [e5, nI_1, zs_ss, show nI (n + 1) - 1 = nI n from nI_pred n]
          exact ⟨vp_in_nI hn (by omega), vp_in_nI hn (by omega), h.1.2.1.ic hi, h.1.2.1.ic hj, h.1.2.1.ic hi, h.1.2.1.ic hj, hpo⟩
        exact zp_if (by rw [zs_ss]; decide) key
      refine Or.inl (hz ln _ (zp_ifn (by decide) (hz' ln _ (zp_fin (by decide) (hc ln _ (hc' ln _ (zp_ifn nij (cb0 i hi bi _ (zp_fi rfl (cb0 j hj bj _ (zp_if rfl (zp_if e6' ?_))))))))))))
      unfold zw_Nets_add
      rw [show (zs_a (zs_a (zs_a (zs_a c 3 (c.1 4) (nI i)) 4 (c.1 4) (nI j)) 5 (nI i) (c.1 4)) 5 (nI j) (c.1 4)).1 4 = c.1 4 from rfl, h.1.1.s4, nI_1]
      refine ⟨h.1.1.i6 (by omega) hn, h.1.1.i6 (by omega) hn, h.1.1.ic (k := 5) (by omega) (by omega) hi, h.1.1.ic (k := 5) (by omega) (by omega) hj, h.1.1.ic (k := 6) (by omega) (by omega) hi, h.1.1.ic (k := 6) (by omega) (by omega) hj, hK _ _ _ (hg _ (hg' _ (zp_ifn ni (zp_fin nj (zp_ifn nij (rb0 i hi bi _ (zp_fi rfl (rb0 j hj bj _ (zp_if rfl (zp_fin e6 (fin _ (hp _ _ _ _ _ ⟨n + 1, hE⟩ ?_ (fun _ => ?_)))))))))))))⟩
      · rw [zs_sn (by omega)]
        exact (zs_ss : (zs_s g 4 0).1 4 = 0)
      · show vp_updL o 0 _ 0 = _
        unfold vp_updL
        rw [if_pos rfl]
    · exact Or.inr (hz ln _ (zp_ifn (by decide) (hz' ln _ (zp_fi rfl (Or.inl ⟨rfl, hK _ _ _ (hg _ (hg' _ (zp_ifn (zp_n1 (by omega)) (zp_fi rfl (m1 _ _)))))⟩)))))
  · refine Or.inr (hz ln _ (zp_if rfl (Or.inl ⟨rfl, hK _ _ _ (hg _ ?_)⟩)))
    rcases zp_cell h.1.v a4 a5 a6 with ⟨j, hj, hz', hc', hg'⟩ | ⟨hz', hg'⟩
    · exact hg' _ (zp_if rfl (m1 _ _))
    · exact hg' _ (zp_if rfl (m1 _ _))
end ZAS
