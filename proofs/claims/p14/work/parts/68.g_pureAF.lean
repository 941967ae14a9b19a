/-! a push, exactly, on both sides -/
/-- vias once the nets of P are pushed out: where a pin was painted over, nothing is said -/
def zf_ov (W H n : Nat) (fp : Nat → Int32) (P : Nat → Prop) (o v v2 : Nat → Int32) : Prop := ∀ p, p < W * H → ((¬ ∃ k c, k < n ∧ P k ∧ c < 2 * (W * H) ∧ c % (W * H) = p ∧ o c = nI k) → v2 p = v p) ∧ ((∃ k c, k < n ∧ P k ∧ c < 2 * (W * H) ∧ c % (W * H) = p ∧ o c = nI k ∧ ∀ k', k' < n → fp c = nI k' → k' = k) → v2 p = 0)
def zf_push (W H n : Nat) (sp : Int32) (fb fp : Nat → Int32) (vc s0 e0 m : Nat) (o v : Nat → Int32) (r : Int32) (o' v' : Nat → Int32) (P : Nat → Prop) : Prop :=
  ∃ o1 v1 fw l, zf_clr W H s0 e0 m o o1 ∧ zf_cv W H m o v v1 ∧ zf_find W H sp fb fp o1 vc s0 e0 m 1 r fw l ∧ ((r = -1 ∧ (∀ c, c < 2 * (W * H) → o' c = o1 c) ∧ ∀ p, p < W * H → v' p = v1 p) ∨ (¬ r = -1 ∧ (∀ k, k < n → (P k ↔ k ≠ m ∧ ∃ c, c < 2 * (W * H) ∧ zf_lk W H sp fw (l + 1) c ∧ o1 c = nI k)) ∧ ∃ o2 v2, zf_out W H n fp P o1 o2 ∧ zf_ov W H n fp P o1 v1 v2 ∧ zf_put W H m fw l o2 o' ∧ zf_pv W H fw l v2 v'))
section ZAF
variable {W H n : Nat} {ln : Nat → Nat} {z z0 : zS}
/-- all but owners, vias, flags and the finder's rows is as it was -/
def zc_H (z z' : zS) : Prop := (∀ k, k ≠ 7 → k ≠ 9 → k ≠ 10 → z'.1 k = z.1 k) ∧ ∀ k, k ≠ 6 → k ≠ 7 → k ≠ 9 → k ≠ 12 → k ≠ 13 → k ≠ 14 → k ≠ 15 → k ≠ 16 → z'.2 k = z.2 k
theorem zc_H.tr {a b c : zS} (h : zc_H a b) (h' : zc_H b c) : zc_H a c := ⟨fun k k1 k2 k3 => (h'.1 k k1 k2 k3).trans (h.1 k k1 k2 k3), fun k k1 k2 k3 k4 k5 k6 k7 k8 => (h'.2 k k1 k2 k3 k4 k5 k6 k7 k8).trans (h.2 k k1 k2 k3 k4 k5 k6 k7 k8)⟩
theorem zc_G.h {z z' : zS} (h : zc_G z z') : zc_H z z' := ⟨h.1, fun k k6 k7 _ k12 k13 k14 k15 k16 => h.2 k k6 k7 k12 k13 k14 k15 k16⟩
theorem zc_9.h {z z' : zS} (h : zc_9 z z') : zc_H z z' := ⟨fun k _ _ _ => by rw [h.1], fun k _ _ k9 _ _ _ _ _ => h.2 k k9⟩
theorem zx_shove (h : zI W H n ln z) (hpn : zf_pn W H n (z.2 3) (z.2 4) (z.2 5)) {m s0 e0 vc : Nat} (hvc : 1 ≤ vc ∧ vc ≤ 4) (hm : m < n) (hs0 : s0 < 2 * (W * H)) (he0 : e0 < 2 * (W * H)) (es0 : z.2 3 m = nI s0) (ee0 : z.2 4 m = nI e0) (evc : z.1 8 = nI vc) {post : Int32 → zS → Prop} (hp : ∀ r z', zJ W H n ln z z' → zc_H z z' → zf_push W H n (z.1 5) (z.2 8) (z.2 5) vc s0 e0 m (z.2 6) (z.2 7) r (z'.2 6) (z'.2 7) (fun k => ¬ z'.2 9 k = 0) → post r z') : zw_Router_shove ln (nI m) z post := by
  have h6 := h.n6
  refine zx_strip h hm hs0 he0 es0 ee0 (fun z1 hJ1 hOV1 hclr hcv => ?_)
  obtain ⟨f, hP, hX⟩ := zr_best (W := W) (H := H) (sp := z1.1 5) (fb := z1.2 8) (fp := z1.2 5) (o := z1.2 6) (s0 := s0) (m := nI m) (p := 1) hvc
  have e5 : z1.1 5 = z.1 5 := by rw [hOV1.1]
  have r8 : z1.2 8 = z.2 8 := hOV1.2 8 (by omega) (by omega)
  have r5 : z1.2 5 = z.2 5 := hOV1.2 5 (by omega) (by omega)
  refine zx_find hvc hJ1.1 hm he0 hs0 (by rw [hOV1.2 3 (by omega) (by omega)]; exact es0) (by rw [hOV1.2 4 (by omega) (by omega)]; exact ee0) (by rw [hOV1.1]; exact evc) hP hX (fun hn z2 hJ2 hF2 => ?_) (fun hl z2 fc l hJ2 hF2 e7 hlC hW => ?_)
  · refine zp_if rfl (hp _ _ (hJ1.tr hJ2) (hOV1.g.tr hF2.g).h ⟨z1.2 6, z1.2 7, fun _ => 0, 0, hclr, hcv, ⟨f, ?_, ?_, Or.inl ⟨hn, rfl⟩⟩, Or.inl ⟨rfl, fun c hc => by rw [hF2.2 6 (by omega) (by omega) (by omega) (by omega) (by omega)], fun p hp' => by rw [hF2.2 7 (by omega) (by omega) (by omega) (by omega) (by omega)]⟩⟩)
    · rw [← e5, ← r8, ← r5]
      exact hP
    · rw [← e5, ← r8, ← r5]
      exact hX
  · obtain ⟨a, ha, ea⟩ := hP.1 e0 he0
    have hr : ¬ f e0 = -1 := by rw [ea]; exact zp_n1 (by omega)
    have F := hF2.2
    have s6 : z2.2 6 = z1.2 6 := F 6 (by omega) (by omega) (by omega) (by omega) (by omega)
    have s7 : z2.2 7 = z1.2 7 := F 7 (by omega) (by omega) (by omega) (by omega) (by omega)
    have s5 : z2.2 5 = z.2 5 := (F 5 (by omega) (by omega) (by omega) (by omega) (by omega)).trans r5
    have n5 : z2.1 5 = z.1 5 := (hF2.1 5 (by omega) (by omega) (by omega)).trans e5
    refine zp_ifn hr (zx_markOut hJ2.1 hm hlC e7 (fun z3 hJ3 h93 hfl => ?_))
    have t6 : z3.2 6 = z1.2 6 := (h93.2 6 (by omega)).trans s6
    have t7 : z3.2 7 = z1.2 7 := (h93.2 7 (by omega)).trans s7
    have t5 : z3.2 5 = z.2 5 := (h93.2 5 (by omega)).trans s5
    have t3 : z3.2 3 = z.2 3 := (h93.2 3 (by omega)).trans ((F 3 (by omega) (by omega) (by omega) (by omega) (by omega)).trans (hOV1.2 3 (by omega) (by omega)))
    have t4 : z3.2 4 = z.2 4 := (h93.2 4 (by omega)).trans ((F 4 (by omega) (by omega) (by omega) (by omega) (by omega)).trans (hOV1.2 4 (by omega) (by omega)))
    refine zx_stripOut hJ3.1 (by rw [t3, t4, t5]; exact hpn) (fun z4 hJ4 hOV4 hout hov => ?_)
    have u12 : z4.2 12 = z2.2 12 := (hOV4.2 12 (by omega) (by omega)).trans (h93.2 12 (by omega))
    refine zx_layWay hJ4.1 hm hlC (by rw [hOV4.1, h93.1]; exact e7) (fun z5 hJ5 hOV5 hput hpv => hp _ _ ((((hJ1.tr hJ2).tr hJ3).tr hJ4).tr hJ5) ((((hOV1.g.tr hF2.g).h.tr h93.h).tr hOV4.g.h).tr hOV5.g.h) ⟨z1.2 6, z1.2 7, z2.2 12, l, hclr, hcv, ⟨f, ?_, ?_, Or.inr ⟨hl, rfl, hlC, fc, ?_⟩⟩, Or.inr ⟨hr, fun k hk => ?_, z4.2 6, z4.2 7, ?_, ?_, by rw [← u12]; exact hput, by rw [← u12]; exact hpv⟩⟩)
    · rw [← e5, ← r8, ← r5]
      exact hP
    · rw [← e5, ← r8, ← r5]
      exact hX
    · rw [← e5, ← r8, ← r5]
      exact hW
    · show ¬ z5.2 9 k = 0 ↔ _
      rw [hOV5.2 9 (by omega) (by omega), hOV4.2 9 (by omega) (by omega), hfl k (by omega), n5, s6]
    · rw [hOV5.2 9 (by omega) (by omega), hOV4.2 9 (by omega) (by omega), ← t5, ← t6]
      exact hout
    · rw [hOV5.2 9 (by omega) (by omega), hOV4.2 9 (by omega) (by omega), ← t6, ← t7]
      intro p hp'
      refine ⟨(hov p hp').2, fun ⟨k, c, k1, k2, k3, k4, k5, _⟩ => (hov p hp').1 ⟨k, c, k1, k2, k3, k4, k5⟩⟩
end ZAF
/-! the reference: one net after another -/
theorem zb_or : ∀ (v : Fin 64) (b b' : Fin 6), (nI v.val ||| ((1 : Int32) <<< (nI b.val &&& 31)) = nI (if v.val / 2 ^ b.val % 2 = 1 then v.val else v.val + 2 ^ b.val)) ∧ ((if v.val / 2 ^ b.val % 2 = 1 then v.val else v.val + 2 ^ b.val) < 64) ∧ ((if v.val / 2 ^ b.val % 2 = 1 then v.val else v.val + 2 ^ b.val) / 2 ^ b'.val % 2 = 1 ↔ v.val / 2 ^ b'.val % 2 = 1 ∨ b' = b) := by decide +kernel
section ZAG
variable {W H n : Nat} {g g' : zS}
/-- what was pushed out so far: the nets on the cells of L -/
def zr_Q (W H n m : Nat) (o1 : Nat → Int32) (L : Nat → Prop) (k : Nat) : Prop := k < n ∧ k ≠ m ∧ ∃ c, c < 2 * (W * H) ∧ L c ∧ o1 c = nI k
/-- between the pushings out -/
def zr_S (W H n m : Nat) (g0 : zS) (o1 v1 : Nat → Int32) (L : Nat → Prop) (g' : zS) : Prop :=
  zO W H n g0 g' ∧ zr_Y g0 g' ∧ (∀ k, k = 4 ∨ k = 6 ∨ k = 7 → g'.2 k = g0.2 k) ∧ zf_out W H n (g0.2 1) (zr_Q W H n m o1 L) o1 (g'.2 2) ∧ zf_ov W H n (g0.2 1) (zr_Q W H n m o1 L) o1 v1 (g'.2 3) ∧ ∀ ob, ob < 64 → g0.1 7 = nI ob → ∃ ob', ob' < 64 ∧ g'.1 7 = nI ob' ∧ ∀ k, k < n → (ob' / 2 ^ k % 2 = 1 ↔ ob / 2 ^ k % 2 = 1 ∨ zr_Q W H n m o1 L k)
theorem zf_out_cg {fp o o2 : Nat → Int32} {P P' : Nat → Prop} (h : ∀ k, k < n → (P k ↔ P' k)) (hh : zf_out W H n fp P o o2) : zf_out W H n fp P' o o2 := fun c hc => ⟨fun ⟨k, k1, k2, k3⟩ => (hh c hc).1 ⟨k, k1, (h k k1).mpr k2, k3⟩, fun hx ⟨k, k1, k2, k3⟩ => (hh c hc).2.1 (fun ⟨k', j1, j2, j3⟩ => hx ⟨k', j1, (h k' j1).mp j2, j3⟩) ⟨k, k1, (h k k1).mpr k2, k3⟩, fun hx hy => (hh c hc).2.2 (fun ⟨k', j1, j2, j3⟩ => hx ⟨k', j1, (h k' j1).mp j2, j3⟩) (fun ⟨k', j1, j2, j3⟩ => hy ⟨k', j1, (h k' j1).mp j2, j3⟩)⟩
theorem zf_ov_cg {fp o v v2 : Nat → Int32} {P P' : Nat → Prop} (h : ∀ k, k < n → (P k ↔ P' k)) (hh : zf_ov W H n fp P o v v2) : zf_ov W H n fp P' o v v2 := fun p hp => ⟨fun hx => (hh p hp).1 (fun ⟨k, c, j1, j2, r⟩ => hx ⟨k, c, j1, (h k j1).mp j2, r⟩), fun ⟨k, c, j1, j2, r⟩ => (hh p hp).2 ⟨k, c, j1, (h k j1).mpr j2, r⟩⟩
theorem zr_S.cg {m : Nat} {g0 : zS} {o1 v1 : Nat → Int32} {L L' : Nat → Prop} (h : ∀ k, k < n → (zr_Q W H n m o1 L k ↔ zr_Q W H n m o1 L' k)) (hS : zr_S W H n m g0 o1 v1 L g') : zr_S W H n m g0 o1 v1 L' g' := ⟨hS.1, hS.2.1, hS.2.2.1, zf_out_cg h hS.2.2.2.1, zf_ov_cg h hS.2.2.2.2.1, fun ob hob e => by
  obtain ⟨ob', k1, k2, k3⟩ := hS.2.2.2.2.2 ob hob e
  exact ⟨ob', k1, k2, fun k hk => by rw [k3 k hk, h k hk]⟩⟩
theorem zd_leavex {m : Nat} (hm : m < n) {g0 : zS} {o1 v1 : Nat → Int32} (ho1 : ∀ c, c < 2 * (W * H) → o1 c = -1 ∨ zb_n n (o1 c)) {L : Nat → Prop} (hS : zr_S W H n m g0 o1 v1 L g) {c : Nat} (hc : c < 2 * (W * H)) (hpin : g0.2 1 c = nI m ∨ g0.2 1 c = -1) {post : zS → Prop} (hp : ∀ g', zr_S W H n m g0 o1 v1 (fun x => L x ∨ x = c) g' → post g') : zw_Mo_leave (g.2 2 c) (nI m) g post := by
  have hO := hS.1
  have h6 := hO.1.n6
  have hC := hO.1.C
  have out := hS.2.2.2.1
  -- the cell is no pin of a net pushed out
  have np : ¬ ∃ k, k < n ∧ zr_Q W H n m o1 L k ∧ g0.2 1 c = nI k := by
    rintro ⟨k, k1, ⟨_, k2, _⟩, k3⟩
    rcases hpin with e | e
    · rw [e] at k3
      exact k2 ((nI_eq (by omega) (by omega)).mp k3).symm
    · rw [e] at k3
      exact zp_n1 (c := k) (by omega) k3.symm
  have keep : (∀ k, k < n → k ≠ m → o1 c = nI k → zr_Q W H n m o1 L k) → post g := fun hx => hp g (hS.cg (fun k hk => ⟨fun ⟨j0, j1, x, j2, j3, j4⟩ => ⟨j0, j1, x, j2, Or.inl j3, j4⟩, fun ⟨j0, j1, x, j2, j3, j4⟩ => by
    rcases j3 with j3 | j3
    · exact ⟨j0, j1, x, j2, j3, j4⟩
    · rw [j3] at j4
      exact hx k hk j1 j4⟩))
  by_cases hq : ∃ k, k < n ∧ zr_Q W H n m o1 L k ∧ o1 c = nI k
  · rw [(out c hc).2.1 np hq]
    refine zd_other (fun k1 _ => absurd rfl k1) (fun _ => zp_fi rfl (keep (fun k hk hkm e => ?_)))
    obtain ⟨k', j1, j2, j3⟩ := hq
    have : k = k' := (nI_eq (by omega) (by omega)).mp (e.symm.trans j3)
    rw [this]
    exact j2
  · rw [(out c hc).2.2 np hq]
    refine zd_other (fun k1 k2 => zp_fin (by decide) ?_) (fun hx => zp_fi rfl (keep (fun k hk hkm e => ?_)))
    · obtain ⟨k, hk, ek⟩ := (ho1 c hc).resolve_left k1
      have hkm : k ≠ m := fun e => k2 (by rw [ek, e])
      have hkq : ¬ zr_Q W H n m o1 L k := fun hx => hq ⟨k, hk, hx, ek⟩
      rw [ek]
      refine zd_clear hO.1 hk (fun g1 hO1 hCl => hp _ ?_)
      obtain ⟨s, e, hs, he, es, ee, ps, pe⟩ := hO.1.ends hk
      have r1 : g.2 1 = g0.2 1 := hO.2.2 1 (by omega)
      rw [r1] at ps pe
      have Qk : ∀ k', k' < n → (zr_Q W H n m o1 (fun x => L x ∨ x = c) k' ↔ zr_Q W H n m o1 L k' ∨ k' = k) := fun k' hk' => by
        constructor
        · rintro ⟨j0, j1, x, j2, j3 | j3, j4⟩
          · exact Or.inl ⟨j0, j1, x, j2, j3, j4⟩
          · right
            rw [j3, ek] at j4
            exact ((nI_eq (by omega) (by omega)).mp j4).symm
        · rintro (⟨j0, j1, x, j2, j3, j4⟩ | rfl)
          · exact ⟨j0, j1, x, j2, Or.inl j3, j4⟩
          · exact ⟨hk, hkm, c, hc, Or.inr rfl, ek⟩
      -- a cell is k's now just where it was at first, and no pin of a net pushed out lies there
      have cur : ∀ x, x < 2 * (W * H) → (g.2 2 x = nI k ↔ o1 x = nI k ∧ ¬ ∃ k', k' < n ∧ zr_Q W H n m o1 L k' ∧ g0.2 1 x = nI k') := fun x hx => by
        by_cases hpx : ∃ k', k' < n ∧ zr_Q W H n m o1 L k' ∧ g0.2 1 x = nI k'
        · rw [(out x hx).1 hpx]
          constructor
          · intro hy
            obtain ⟨k', j1, j2, j3⟩ := hpx
            rw [j3] at hy
            have := (nI_eq (by omega) (by omega)).mp hy
            rw [this] at j2
            exact absurd j2 hkq
          · exact fun hy => absurd hpx hy.2
        · by_cases hqx : ∃ k', k' < n ∧ zr_Q W H n m o1 L k' ∧ o1 x = nI k'
          · rw [(out x hx).2.1 hpx hqx]
            constructor
            · intro hy
              exact absurd hy.symm (zp_n1 (by omega))
            · intro hy
              obtain ⟨k', j1, j2, j3⟩ := hqx
              have := (nI_eq (by omega) (by omega)).mp (j3.symm.trans hy.1)
              rw [this] at j2
              exact absurd j2 hkq
          · rw [(out x hx).2.2 hpx hqx]
            exact ⟨fun hy => ⟨hy, hpx⟩, fun hy => hy.1⟩
      refine ⟨hO.tr (hO1.num (by omega)), hS.2.1.tr ⟨?_, ?_, hCl.y.2.2⟩, fun j hj => by rw [show (zs_s g1 7 (g1.1 7 ||| (1 : Int32) <<< (nI k &&& 31))).2 = g1.2 from rfl, hCl.2.1 j (by omega) (by omega)]; exact hS.2.2.1 j hj, fun x hx => ?_, fun p hpp => ?_, fun ob hob eob => ?_⟩
      · rw [zs_sn (by omega)]
        exact hCl.y.1
      · rw [zs_sn (by omega)]
        exact hCl.y.2.1
      · show ((∃ k', k' < n ∧ _ ∧ g0.2 1 x = nI k') → g1.2 2 x = g0.2 1 x) ∧ (_ → _ → g1.2 2 x = -1) ∧ (_ → _ → g1.2 2 x = o1 x)
        rw [hCl.2.2.1 x hx, es, ee]
        by_cases hpk : g0.2 1 x = nI k
        · have hxs : nI x = nI s ∨ nI x = nI e := by
            rcases hO.1.conv hx hk (by rw [r1]; exact hpk) with hy | hy
            · rw [es] at hy
              exact Or.inl hy.symm
            · rw [ee] at hy
              exact Or.inr hy.symm
          rw [if_pos hxs]
          exact ⟨fun _ => hpk.symm, fun hy => absurd ⟨k, hk, (Qk k hk).mpr (Or.inr rfl), hpk⟩ hy, fun hy => absurd ⟨k, hk, (Qk k hk).mpr (Or.inr rfl), hpk⟩ hy⟩
        · have nxs : ¬ (nI x = nI s ∨ nI x = nI e) := by
            rintro (hy | hy)
            · rw [(nI_eq (by omega) (by omega)).mp hy] at hpk
              exact hpk ps
            · rw [(nI_eq (by omega) (by omega)).mp hy] at hpk
              exact hpk pe
          rw [if_neg nxs]
          have pq : (∃ k', k' < n ∧ zr_Q W H n m o1 (fun x => L x ∨ x = c) k' ∧ g0.2 1 x = nI k') ↔ ∃ k', k' < n ∧ zr_Q W H n m o1 L k' ∧ g0.2 1 x = nI k' := by
            constructor
            · rintro ⟨k', j1, j2, j3⟩
              rcases (Qk k' j1).mp j2 with j2 | j2
              · exact ⟨k', j1, j2, j3⟩
              · rw [j2] at j3
                exact absurd j3 hpk
            · rintro ⟨k', j1, j2, j3⟩
              exact ⟨k', j1, (Qk k' j1).mpr (Or.inl j2), j3⟩
          rw [pq]
          refine ⟨fun hy => ?_, fun hy hz => ?_, fun hy hz => ?_⟩
          · rw [if_neg (fun hw => ((cur x hx).mp hw).2 hy)]
            exact (out x hx).1 hy
          · by_cases ew : o1 x = nI k
            · rw [if_pos ((cur x hx).mpr ⟨ew, hy⟩)]
            · rw [if_neg (fun hw => ew ((cur x hx).mp hw).1)]
              obtain ⟨k', j1, j2, j3⟩ := hz
              rcases (Qk k' j1).mp j2 with j2 | j2
              · exact (out x hx).2.1 hy ⟨k', j1, j2, j3⟩
              · rw [j2] at j3
                exact absurd j3 ew
          · have ew : ¬ o1 x = nI k := fun ew => hz ⟨k, hk, (Qk k hk).mpr (Or.inr rfl), ew⟩
            rw [if_neg (fun hw => ew ((cur x hx).mp hw).1)]
            exact (out x hx).2.2 hy (fun ⟨k', j1, j2, j3⟩ => hz ⟨k', j1, (Qk k' j1).mpr (Or.inl j2), j3⟩)
      · show (_ → g1.2 3 p = v1 p) ∧ (_ → g1.2 3 p = 0)
        have hv := hS.2.2.2.2.1 p hpp
        have hcv := hCl.2.2.2 p hpp
        refine ⟨fun hy => ?_, fun ⟨k', x, j1, j2, j3, j4, j5, j6⟩ => ?_⟩
        · rw [hcv.2 (fun ⟨x, hx, h1, h2⟩ => hy ⟨k, x, hk, (Qk k hk).mpr (Or.inr rfl), hx, h1, ((cur x hx).mp h2).1⟩)]
          exact hv.1 (fun ⟨k', x, j1, j2, r⟩ => hy ⟨k', x, j1, (Qk k' j1).mpr (Or.inl j2), r⟩)
        · by_cases hx0 : ∃ x, x < 2 * (W * H) ∧ x % (W * H) = p ∧ g.2 2 x = nI k
          · exact hcv.1 hx0
          · rw [hcv.2 hx0]
            rcases (Qk k' j1).mp j2 with j2 | j2
            · exact hv.2 ⟨k', x, j1, j2, j3, j4, j5, j6⟩
            · subst j2
              refine absurd ⟨x, j3, j4, (cur x j3).mpr ⟨j5, ?_⟩⟩ hx0
              rintro ⟨k'', i1, i2, i3⟩
              have := j6 k'' i1 i3
              rw [this] at i2
              exact hkq i2
      · obtain ⟨ob1, k3, k4, k5⟩ := hS.2.2.2.2.2 ob hob eob
        have zo := fun b' (hb' : b' < 6) => zb_or ⟨ob1, k3⟩ ⟨k, by omega⟩ ⟨b', hb'⟩
        refine ⟨_, (zo 0 (by omega)).2.1, ?_, fun k' hk' => ?_⟩
        · rw [zs_ss, hCl.1, k4]
          exact (zo 0 (by omega)).1
        · rw [(zo k' (by omega)).2.2, k5 k' hk', Qk k' hk']
          constructor
          · rintro ((hy | hy) | hy)
            · exact Or.inl hy
            · exact Or.inr (Or.inl hy)
            · exact Or.inr (Or.inr (Fin.mk.inj hy))
          · rintro (hy | hy | hy)
            · exact Or.inl (Or.inl hy)
            · exact Or.inl (Or.inr hy)
            · exact Or.inr (by subst hy; rfl)
    · rcases hx with hx | hx
      · rw [hx] at e
        exact absurd e.symm (zp_n1 (by omega))
      · rw [hx] at e
        exact absurd ((nI_eq (by omega) (by omega)).mp e).symm hkm
end ZAG
