/-! the system's all, step for step -/
def zt_st (W H : Nat) (σ : zSt) : Nat → (Nat → Int32) → (Nat → Int32) → (Nat → Int32) → (Nat → Int32) → Prop
  | 0, o, v, o', v' => o' = o ∧ v' = v
  | k + 1, o, v, o', v' => ∃ o1 v1, zt_st W H σ k o v o1 v1 ∧ zf_clr W H (σ.2.2.2.1 k).toNatClampNeg (σ.2.2.2.2.1 k).toNatClampNeg k o1 o' ∧ zf_cv W H k o1 v1 v'
/-- the spans that count -/
def zt_so (W H : Nat) (σ : zSt) (a : Int32) : Nat → Nat := if a = 0 then fun _ => 0 else zt_sp W H σ.2.2.2.1 σ.2.2.2.2.1
def zt_al (W H n : Nat) (σ : zSt) (a : Int32) (P : Nat) (o v : Nat → Int32) (r : Int32) (o' v' : Nat → Int32) : Prop :=
  ∃ o1 v1 lf N1 o2 v2 N2 x, zt_st W H σ n o v o1 v1 ∧ zf_od (zt_so W H σ a) n lf ∧ zt_sv W H n σ P N1 0 n lf o1 v1 o2 v2 ∧ zt_rr W H n σ N2 o2 v2 o' v' ∧ zf_cn (fun k => zt_jn W H σ k o' v') n x ∧ r = nI n - x
section ZAN
variable {W H n : Nat} {ln : Nat → Nat} {z z0 : zS} {σ : zSt}
theorem zt_st_k (ok : zt_ok W H n σ) : ∀ {k : Nat} {o v o' v' : Nat → Int32}, k ≤ n → zt_st W H σ k o v o' v' → ∀ c j, c < 2 * (W * H) → j < k → σ.2.2.1 c = nI j → o' c = nI j
  | 0, o, v, o', v', _, _ => fun c j _ hj => absurd hj (Nat.not_lt_zero _)
  | k + 1, o, v, o', v', hkn, h => by
    obtain ⟨o1, v1, h1, h2, _⟩ := h
    have ih := zt_st_k ok (by omega) h1
    have hn := ok.2.1
    have hC : 2 * (W * H) ≤ 162 := by have := ok.1; omega
    obtain ⟨s, e, hs, he, es, ee, ps, pe, cs, ce⟩ := ok.en (m := k) (by omega)
    intro c j hc hj ep
    rw [h2 c hc, cs, ce]
    by_cases h3 : nI c = nI s ∨ nI c = nI e
    · rw [if_pos h3]
      rcases h3 with h3 | h3
      · rw [(nI_eq (by omega) (by omega)).mp h3, ps] at ep
        exact ep
      · rw [(nI_eq (by omega) (by omega)).mp h3, pe] at ep
        exact ep
    · rw [if_neg h3]
      have hjk : j ≠ k := fun ej => by
        subst ej
        rcases ok.2.2.2.2 c j hc (by omega) ep with hx | hx
        · rw [es] at hx
          exact h3 (Or.inl hx.symm)
        · rw [ee] at hx
          exact h3 (Or.inr hx.symm)
      have e2 := ih c j hc (by omega) ep
      rw [if_neg (fun hx => hjk ((nI_eq (by omega) (by omega)).mp (e2.symm.trans hx)))]
      exact e2
theorem zt_sv_k (ok : zt_ok W H n σ) {P : Nat} : ∀ {N d s : Nat} {lf o v oF vF : Nat → Int32}, zt_sv W H n σ P N d s lf o v oF vF → zf_k W H n σ.2.2.1 o → zf_k W H n σ.2.2.1 oF
  | 0, d, s, lf, o, v, oF, vF, h, hk => by
    obtain ⟨_, rfl, _⟩ := h
    exact hk
  | N + 1, d, s, lf, o, v, oF, vF, h, hk => by
    obtain ⟨m, r, o1, v1, lf1, hm, _, _, _, hrt, hh⟩ := h
    have hk1 := zt_rt_k ok hm hrt hk
    rcases hh with ⟨_, h2⟩ | ⟨_, _, r2, o2, v2, Q, hps, ⟨_, h2⟩ | ⟨_, s2, lf2, _, h2⟩⟩
    · exact zt_sv_k ok h2 hk1
    · exact zt_sv_k ok h2 (zt_ps_k ok hm hps hk1)
    · exact zt_sv_k ok h2 (zt_ps_k ok hm hps hk1)
theorem zt_rr_k (ok : zt_ok W H n σ) : ∀ {N : Nat} {o v oF vF : Nat → Int32}, zt_rr W H n σ N o v oF vF → zf_k W H n σ.2.2.1 o → zf_k W H n σ.2.2.1 oF
  | 0, o, v, oF, vF, h, _ => False.elim h
  | N + 1, o, v, oF, vF, h, hk => by
    obtain ⟨o1, v1, b, h1, h2⟩ := h
    have hk1 := (zt_rd_u ok (Nat.le_refl _) h1 hk).1
    rcases h2 with ⟨_, rfl, _⟩ | ⟨_, h2⟩
    · exact hk1
    · exact zt_rr_k ok h2 hk1
theorem zX_lineUp (ok : zt_ok W H n σ) (hX : zt_X σ z) (h : zI W H n ln z) (e0 : z.1 11 = 0) {a : Int32} {post : zS → Prop} (hp : ∀ z', zJ W H n ln z z' → zt_X σ z' → z'.1 11 = nI n → zt_st W H σ n (z.2 6) (z.2 7) (z'.2 6) (z'.2 7) → zf_od (zt_so W H σ a) n (z'.2 17) → post z') : zw_Router_lineUp ln a z post := by
  have h6 := h.n6
  refine zq_Lp_I (I := fun q => ∃ c z', c ≤ n ∧ zJ W H n ln z z' ∧ zt_X σ z' ∧ z'.1 11 = nI c ∧ (∀ i, i < c → z'.2 17 i = nI i) ∧ zt_st W H σ c (z.2 6) (z.2 7) (z'.2 6) (z'.2 7) ∧ q = (a, nI c, z')) (μ := fun q => n - q.2.1.toNatClampNeg) ?_ ⟨0, z, Nat.zero_le _, zJ.rf h, hX, e0, fun i hi => absurd hi (Nat.not_lt_zero _), ⟨rfl, rfl⟩, rfl⟩
  rintro k q ⟨c, z', hc, hJ, hX', e11, h17, hst, rfl⟩ hk
  by_cases hl : n ≤ c
  · have ec : c = n := by omega
    subst ec
    refine zp_if (by rw [hJ.1.s4]; exact nI_le hl (by omega)) ?_
    by_cases ea : a = 0
    · refine zp_if ea (hp z' hJ hX' e11 hst ⟨fun i hi => ⟨i, hi, h17 i hi⟩, fun i j x y hij hj hx hy ei ej => ?_⟩)
      rw [h17 i (by omega)] at ei
      rw [h17 j hj] at ej
      have e1 := (nI_eq (by omega) (by omega)).mp ei
      have e2 := (nI_eq (by omega) (by omega)).mp ej
      unfold zt_so
      rw [if_pos ea]
      exact Or.inr ⟨rfl, by omega⟩
    · refine zp_ifn ea (zx_sort hJ.1 e11 h17 (fun z2 hJ2 hN hR hod => hp z2 (hJ.tr hJ2) (hX'.l (fun k _ => by rw [hN]) hR) (by rw [hN]; exact e11) (by rw [hR 6 (by omega), hR 7 (by omega)]; exact hst) ?_))
      unfold zt_so
      rw [if_neg ea, ← hX'.2.2.2.2.1, ← hX'.2.2.2.2.2]
      exact hod
  · have hl' : c < n := by omega
    obtain ⟨s, e, hs, he, es, ee, _, _, cs, ce⟩ := ok.en hl'
    refine zp_ifn (by rw [hJ.1.s4]; exact nI_ge hl' (by omega)) (zx_strip hJ.1 hl' hs he (by rw [hX'.2.2.2.2.1]; exact es) (by rw [hX'.2.2.2.2.2]; exact ee) (fun z2 hJ2 hOV2 hclr hcv => ?_))
    have e2 : z2.1 11 = nI c := by rw [hOV2.1]; exact e11
    have r2 : z2.2 17 = z'.2 17 := hOV2.2 17 (by omega) (by omega)
    refine zx_join hJ2.1 hl' e2 (by omega) (fun ⟨i, hi, ei⟩ => ?_) (fun hne z3 hJ3 f1 f2 _ g11 g17 => hk _ ⟨c + 1, z3, hl', (hJ.tr hJ2).tr hJ3, (hX'.h hOV2.g.h).l f1 f2, g11, fun i hi => ?_, ⟨z'.2 6, z'.2 7, hst, by rw [f2 6 (by omega), cs, ce]; exact hclr, by rw [f2 7 (by omega)]; exact hcv⟩, by rw [nI_1]⟩ (zm_lt hl' (by omega)))
    · rw [r2, h17 i hi] at ei
      have := (nI_eq (by omega) (by omega)).mp ei
      omega
    · rw [g17]
      by_cases ei : i = c
      · rw [ei, pk_us]
      · rw [pk_un ei, r2]
        exact h17 i (by omega)
theorem zX_all (ok : zt_ok W H n σ) (hX : zt_X σ z) (h : zI W H n ln z) (e0 : z.1 11 = 0) {a : Int32} {P : Nat} (hP : P ≤ 20) {post : Int32 → zS → Prop} (hp : ∀ r z', zJ W H n ln z z' → zt_X σ z' → z'.1 11 = 0 → zt_al W H n σ a P (z.2 6) (z.2 7) r (z'.2 6) (z'.2 7) → post r z') : zw_Gr_all ln a (nI P) z post := by
  have h6 := h.n6
  refine zp_ifn (nI_pos (by omega)) (zp_if (nI_le (b := 20) hP (by omega)) (zX_lineUp ok hX h e0 (fun z1 hJ1 hX1 e1 hst hod => zX_serve ok hX1 hJ1.1 hP e1 h6 (fun z2 hJ2 hX2 e2 ⟨N1, hsv⟩ => ?_))))
  have k1 : zf_k W H n σ.2.2.1 (z1.2 6) := fun c k hc hk e => zt_st_k ok (Nat.le_refl _) hst c k hc hk e
  refine zX_retry ok hX2 hJ2.1 (zt_sv_k ok hsv k1) (fun z3 hJ3 hX3 e3 ⟨N2, hrr⟩ => zx_loose hJ3.1 (fun x z4 hJ4 hK4 hcn => ?_))
  refine hp _ z4 (((hJ1.tr hJ2).tr hJ3).tr hJ4) (hX3.k hK4) (by rw [hK4.1 11 (by omega), e3]; exact e2) ⟨z1.2 6, z1.2 7, z1.2 17, N1, z2.2 6, z2.2 7, N2, x, hst, hod, hsv, ?_, ?_, by rw [hJ3.1.s4]⟩
  · rw [hK4.2 6 (by omega) (by omega), hK4.2 7 (by omega) (by omega)]
    exact hrr
  · rw [hK4.2 6 (by omega) (by omega), hK4.2 7 (by omega) (by omega)]
    unfold zc_jn at hcn
    rw [hX3.2.2.2.2.1, hX3.2.2.2.2.2] at hcn
    exact hcn
end ZAN
/-- loops by what is left of a road that is known -/
theorem zq_Lp_J {α : Type} {F : (α → Prop) → α → Prop} (I : Nat → α → Prop) (hs : ∀ (k : α → Prop) (N : Nat) (a : α), I N a → (∀ M b, M < N → I M b → k b) → F k a) {N : Nat} {a : α} (h : I N a) : zq_Lp F a := by
  have key : ∀ n N a, N ≤ n → I N a → zq_lp F (n + 1) a := by
    intro n
    induction n with
    | zero => intro N a hN hI; exact hs _ N a hI (fun M b hM _ => absurd hM (by omega))
    | succ n ih => intro N a hN hI; exact hs _ N a hI (fun M b hM hb => ih M b (by omega) hb)
  exact ⟨N + 1, key N N a (Nat.le_refl _) h⟩
