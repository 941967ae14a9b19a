/-! the system's last rounds, step for step -/
def zt_rd (W H : Nat) (σ : zSt) : Nat → (Nat → Int32) → (Nat → Int32) → (Nat → Int32) → (Nat → Int32) → Int32 → Prop
  | 0, o, v, o', v', b => o' = o ∧ v' = v ∧ b = 0
  | k + 1, o, v, o', v', b => ∃ o1 v1 b1, zt_rd W H σ k o v o1 v1 b1 ∧ ((zt_jn W H σ k o1 v1 ∧ o' = o1 ∧ v' = v1 ∧ b = b1) ∨ (¬ zt_jn W H σ k o1 v1 ∧ ∃ r, zt_rt W H σ k o1 v1 r o' v' ∧ ((r = -1 ∧ b = b1) ∨ (¬ r = -1 ∧ b = 1))))
def zt_rr (W H n : Nat) (σ : zSt) : Nat → (Nat → Int32) → (Nat → Int32) → (Nat → Int32) → (Nat → Int32) → Prop
  | 0, _, _, _, _ => False
  | N + 1, o, v, oF, vF => ∃ o1 v1 b, zt_rd W H σ n o v o1 v1 b ∧ ((b = 0 ∧ oF = o1 ∧ vF = v1) ∨ (¬ b = 0 ∧ zt_rr W H n σ N o1 v1 oF vF))
section ZAL
variable {W H n : Nat} {ln : Nat → Nat} {z z0 : zS} {σ : zSt}
def zt_J (W H : Nat) (σ : zSt) (m : Nat) (o v : Nat → Int32) : Prop := zf_J W H (σ.2.2.2.1 m).toNatClampNeg (σ.2.2.2.2.1 m).toNatClampNeg m o v
theorem zt_jn_J (ok : zt_ok W H n σ) {m : Nat} (hm : m < n) {o v : Nat → Int32} (hk : zf_k W H n σ.2.2.1 o) : zt_jn W H σ m o v ↔ zt_J W H σ m o v := by
  obtain ⟨s, e, hs, he, es, ee, ps, pe, cs, ce⟩ := ok.en hm
  unfold zt_jn zt_J zf_jn
  rw [cs, ce]
  exact ⟨fun h => h.2.2, fun h => ⟨hk s m hs hm ps, hk e m he hm pe, h⟩⟩
theorem zt_rt_k (ok : zt_ok W H n σ) {m : Nat} (hm : m < n) {o v o' v' : Nat → Int32} {r : Int32} (h : zt_rt W H σ m o v r o' v') (hk : zf_k W H n σ.2.2.1 o) : zf_k W H n σ.2.2.1 o' := by
  obtain ⟨s, e, hs, he, es, ee, ps, pe, cs, ce⟩ := ok.en hm
  unfold zt_rt at h
  rw [cs, ce] at h
  exact zf_route_k ok.2.1 (by have := ok.1; omega) ok.2.2.2 hm hs he es ee h hk
theorem zt_ps_k (ok : zt_ok W H n σ) {m : Nat} (hm : m < n) {o v o' v' : Nat → Int32} {r : Int32} {P : Nat → Prop} (h : zt_ps W H n σ m o v r o' v' P) (hk : zf_k W H n σ.2.2.1 o) : zf_k W H n σ.2.2.1 o' := by
  obtain ⟨s, e, hs, he, es, ee, ps, pe, cs, ce⟩ := ok.en hm
  unfold zt_ps at h
  rw [cs, ce] at h
  exact zf_push_k ok.2.1 (by have := ok.1; omega) ok.2.2.2 hm hs he es ee h hk
theorem zt_rt_j (ok : zt_ok W H n σ) {m : Nat} (hm : m < n) {o v o' v' : Nat → Int32} {r : Int32} (h : zt_rt W H σ m o v r o' v') (hk : zf_k W H n σ.2.2.1 o) : (∀ m', m' < n → m' ≠ m → zt_J W H σ m' o v → zt_J W H σ m' o' v') ∧ (¬ r = -1 → zt_J W H σ m o' v') := by
  obtain ⟨s, e, hs, he, es, ee, ps, pe, cs, ce⟩ := ok.en hm
  unfold zt_rt at h
  rw [cs, ce] at h
  have hh := zf_route_j ok.2.1 ok.1 ok.2.2.2 hm hs he es ee h hk
  refine ⟨fun m' h1 h2 hJ => hh.1 m' _ _ h1 h2 hJ, fun hr => ?_⟩
  unfold zt_J
  rw [cs, ce]
  exact hh.2 hr
/-- what one round keeps, and what it gains if it goes on -/
theorem zt_rd_u (ok : zt_ok W H n σ) : ∀ {k : Nat} {o v o' v' : Nat → Int32} {b : Int32}, k ≤ n → zt_rd W H σ k o v o' v' b → zf_k W H n σ.2.2.1 o → zf_k W H n σ.2.2.1 o' ∧ (∀ m, m < n → zt_J W H σ m o v → zt_J W H σ m o' v') ∧ (¬ b = 0 → ∃ m, m < n ∧ ¬ zt_J W H σ m o v ∧ zt_J W H σ m o' v')
  | 0, o, v, o', v', b, _, h, hk => by
    obtain ⟨rfl, rfl, rfl⟩ := h
    exact ⟨hk, fun _ _ hJ => hJ, fun hb => absurd rfl hb⟩
  | k + 1, o, v, o', v', b, hkn, h, hk => by
    obtain ⟨o1, v1, b1, h1, h2⟩ := h
    obtain ⟨a1, a2, a3⟩ := zt_rd_u ok (by omega) h1 hk
    rcases h2 with ⟨_, rfl, rfl, rfl⟩ | ⟨hn, r, hr, hb⟩
    · exact ⟨a1, a2, a3⟩
    · have hkn' : k < n := by omega
      have nJ : ¬ zt_J W H σ k o1 v1 := fun hJ => hn ((zt_jn_J ok hkn' a1).mpr hJ)
      obtain ⟨j1, j2⟩ := zt_rt_j ok hkn' hr a1
      have mono : ∀ m, m < n → zt_J W H σ m o v → zt_J W H σ m o' v' := fun m hm hJ => j1 m hm (fun e => nJ (e ▸ a2 m hm hJ)) (a2 m hm hJ)
      refine ⟨zt_rt_k ok hkn' hr a1, mono, fun hb0 => ?_⟩
      rcases hb with ⟨_, rfl⟩ | ⟨hr1, _⟩
      · obtain ⟨m, hm, x1, x2⟩ := a3 hb0
        exact ⟨m, hm, x1, j1 m hm (fun e => nJ (e ▸ x2)) x2⟩
      · exact ⟨k, hkn', fun hJ => nJ (a2 k hkn' hJ), j2 hr1⟩
theorem zX_retry (ok : zt_ok W H n σ) (hX : zt_X σ z) (h : zI W H n ln z) (hk0 : zf_k W H n σ.2.2.1 (z.2 6)) {post : zS → Prop} (hp : ∀ z', zJ W H n ln z z' → zt_X σ z' → z'.1 11 = z.1 11 → (∃ N, zt_rr W H n σ N (z.2 6) (z.2 7) (z'.2 6) (z'.2 7)) → post z') : zw_Router_retryLoose ln z post := by
  classical
  have h6 := h.n6
  have U6 : ∀ o v, zb_ct (fun m => if zt_J W H σ m o v then 0 else 1) n ≤ 6 := fun o v => Nat.le_trans (zb_ct_le _ _) h6
  refine zq_Lp_I (I := fun q => ∃ (b : Int32) (t : Nat) (z' : zS), t ≤ 7 ∧ zJ W H n ln z z' ∧ zt_X σ z' ∧ z'.1 11 = z.1 11 ∧ zf_k W H n σ.2.2.1 (z'.2 6) ∧ (¬ b = 0 → t + zb_ct (fun m => if zt_J W H σ m (z'.2 6) (z'.2 7) then 0 else 1) n ≤ 6) ∧ (¬ b = 0 → ∀ oF vF N, zt_rr W H n σ N (z'.2 6) (z'.2 7) oF vF → ∃ N', zt_rr W H n σ N' (z.2 6) (z.2 7) oF vF) ∧ (b = 0 → ∃ N, zt_rr W H n σ N (z.2 6) (z.2 7) (z'.2 6) (z'.2 7)) ∧ q = (b, nI t, z')) (μ := fun q => 7 - q.2.1.toNatClampNeg) ?_ ⟨1, 0, z, Nat.zero_le _, zJ.rf h, hX, rfl, hk0, fun _ => by have := U6 (z.2 6) (z.2 7); omega, fun _ oF vF N hN => ⟨N, hN⟩, fun e => absurd e (by decide), rfl⟩
  rintro k q ⟨b, t, z', ht, hJ, hX', e11, hK, hU, hacc, hfin, rfl⟩ hk
  have fin : b = 0 → post z' := fun e => hp z' hJ hX' e11 (hfin e)
  by_cases hl : 6 < t
  · refine zp_if (nI_lt (a := 6) hl (by omega)) (fin ?_)
    by_cases eb : b = 0
    · exact eb
    · have := hU eb
      omega
  refine zp_ifn (nI_nlt (a := 6) (by omega) (by omega)) ?_
  by_cases eb : b = 0
  · exact zp_if eb (fin eb)
  refine zp_ifn eb ?_
  refine zq_Lp_I (I := fun q => ∃ (b2 : Int32) (c : Nat) (z2 : zS), c ≤ n ∧ zJ W H n ln z z2 ∧ zt_X σ z2 ∧ z2.1 11 = z.1 11 ∧ zt_rd W H σ c (z'.2 6) (z'.2 7) (z2.2 6) (z2.2 7) b2 ∧ q = (b2, nI t, nI c, z2)) (μ := fun q => n - q.2.2.1.toNatClampNeg) ?_ ⟨0, 0, z', Nat.zero_le _, hJ, hX', e11, ⟨rfl, rfl, rfl⟩, rfl⟩
  rintro k2 q2 ⟨b2, c, z2, hc, hJ2, hX2, e2, hrd, rfl⟩ hk2
  by_cases hl2 : n ≤ c
  · have ec : c = n := by omega
    subst ec
    obtain ⟨a1, a2, a3⟩ := zt_rd_u ok (Nat.le_refl _) hrd hK
    refine zp_if (by rw [hJ2.1.s4]; exact nI_le hl2 (by omega)) (hk _ ⟨b2, t + 1, z2, by omega, hJ2, hX2, e2, a1, fun hb2 => ?_, fun hb2 oF vF N hN => hacc eb oF vF (N + 1) ⟨_, _, b2, hrd, Or.inr ⟨hb2, hN⟩⟩, fun hb2 => ?_, by rw [nI_1]⟩ (zm_lt (by omega) (by omega)))
    · have hmn : ∀ m, m < c → ¬ (if zt_J W H σ m (z2.2 6) (z2.2 7) then (0 : Int32) else 1) = 0 → ¬ (if zt_J W H σ m (z'.2 6) (z'.2 7) then (0 : Int32) else 1) = 0 := fun m hm hx => by
        by_cases hj : zt_J W H σ m (z2.2 6) (z2.2 7)
        · rw [if_pos hj] at hx
          exact absurd rfl hx
        · rw [if_neg (fun hy => hj (a2 m hm hy))]
          decide
      obtain ⟨m, hm, j1, j2⟩ := a3 hb2
      have := zb_ct_ms (N := c) hmn ⟨m, hm, by rw [if_pos j2], by rw [if_neg j1]; decide⟩
      have := hU eb
      omega
    · exact hacc eb _ _ 1 ⟨_, _, b2, hrd, Or.inl ⟨hb2, rfl, rfl⟩⟩
  have hl2' : c < n := by omega
  have go : ∀ b3 z3, zJ W H n ln z z3 → zt_X σ z3 → z3.1 11 = z.1 11 → zt_rd W H σ (c + 1) (z'.2 6) (z'.2 7) (z3.2 6) (z3.2 7) b3 → zw_Router_retryLoose_51 ln post k k2 b3 (nI t) (nI c) z3 := fun b3 z3 hJ3 hX3 e3 hrd3 => hk2 _ ⟨b3, c + 1, z3, hl2', hJ3, hX3, e3, hrd3, by rw [nI_1]⟩ (zm_lt hl2' (by omega))
  refine zp_ifn (by rw [hJ2.1.s4]; exact nI_ge hl2' (by omega)) (zX_joined ok hX2 hJ2.1 hl2' (fun r z3 hJ3 hK3 hr hiff => ?_))
  have k6 : z3.2 6 = z2.2 6 := hK3.2 6 (by omega) (by omega)
  have k7 : z3.2 7 = z2.2 7 := hK3.2 7 (by omega) (by omega)
  have k11 : z3.1 11 = z.1 11 := (hK3.1 11 (by omega)).trans e2
  by_cases er : r = 0
  · refine zp_fi er (zX_lay ok (hX2.k hK3) hJ3.1 hl2' (fun r4 z4 hJ4 hX4 g11 _ hrt => ?_))
    rw [k6, k7] at hrt
    have nj : ¬ zt_jn W H σ c (z2.2 6) (z2.2 7) := fun hx => hiff.mpr hx er
    by_cases er4 : r4 = -1
    · exact zp_if er4 (go _ z4 ((hJ2.tr hJ3).tr hJ4) hX4 (g11.trans k11) ⟨_, _, b2, hrd, Or.inr ⟨nj, r4, hrt, Or.inl ⟨er4, rfl⟩⟩⟩)
    · exact zp_ifn er4 (go _ z4 ((hJ2.tr hJ3).tr hJ4) hX4 (g11.trans k11) ⟨_, _, b2, hrd, Or.inr ⟨nj, r4, hrt, Or.inr ⟨er4, rfl⟩⟩⟩)
  · exact zp_fin er (go _ z3 (hJ2.tr hJ3) (hX2.k hK3) k11 ⟨_, _, b2, hrd, Or.inl ⟨hiff.mp er, k6, k7, rfl⟩⟩)
end ZAL
