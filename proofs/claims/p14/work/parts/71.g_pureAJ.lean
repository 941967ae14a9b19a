/-! what a route and a push keep -/
/-- every pin is its net's cell -/
def zf_k (W H n : Nat) (fp o : Nat → Int32) : Prop := ∀ c k, c < 2 * (W * H) → k < n → fp c = nI k → o c = nI k
section ZAJ
variable {W H n : Nat} {sp : Int32} {fb fp fs fe : Nat → Int32}
theorem zf_clr_k (hn : n ≤ 6) (hC : 2 * (W * H) ≤ 162) (hpn : zf_pn W H n fs fe fp) {m s0 e0 : Nat} (hm : m < n) (hs0 : s0 < 2 * (W * H)) (he0 : e0 < 2 * (W * H)) (es0 : fs m = nI s0) (ee0 : fe m = nI e0) {o o1 : Nat → Int32} (h : zf_clr W H s0 e0 m o o1) (hk : zf_k W H n fp o) : zf_k W H n fp o1 := by
  intro c k hc hkn e
  have e2 := hk c k hc hkn e
  obtain ⟨s, e', hs, he, x1, x2, p1, p2⟩ := hpn.1 m hm
  have es : s = s0 := (nI_eq (by omega) (by omega)).mp (by rw [← x1, es0])
  have ee : e' = e0 := (nI_eq (by omega) (by omega)).mp (by rw [← x2, ee0])
  subst es
  subst ee
  rw [h c hc]
  by_cases h1 : nI c = nI s ∨ nI c = nI e'
  · rw [if_pos h1]
    rcases h1 with h1 | h1
    · rw [(nI_eq (by omega) (by omega)).mp h1, p1] at e
      exact e
    · rw [(nI_eq (by omega) (by omega)).mp h1, p2] at e
      exact e
  · rw [if_neg h1]
    by_cases h2 : o c = nI m
    · have ekm : k = m := (nI_eq (by omega) (by omega)).mp (e2.symm.trans h2)
      subst ekm
      rcases hpn.2 c k hc hkn e with hx | hx
      · rw [x1] at hx
        exact absurd (Or.inl hx.symm) h1
      · rw [x2] at hx
        exact absurd (Or.inr hx.symm) h1
    · rw [if_neg h2]
      exact e2
/-- the cells of a way are no other net's pins -/
theorem zr_W_pin {T : Nat → Nat → Prop} {vc s0 e0 m l : Nat} {p : Int32} {f fw fc o : Nat → Int32} (hC : 2 * (W * H) ≤ 162) (hs0 : s0 < 2 * (W * H)) (hps : fp s0 = nI m) (hW : zr_W W H (zr_t W H sp fb fp o (nI m) p) vc f s0 e0 fw fc l) {k c : Nat} (hk : k ≤ l) (hc : c < 2 * (W * H)) (e : fw k = nI c) : (fp c = nI m ∨ fp c = -1) ∧ (p = 0 → fp c = nI m ∨ o c = -1 ∨ o c = nI m) := by
  by_cases ek : k = l
  · rw [ek, hW.1] at e
    have : s0 = c := (nI_eq (by omega) (by omega)).mp e
    subst this
    exact ⟨Or.inl hps, fun _ => Or.inl hps⟩
  · obtain ⟨c1, c', d, t, w1, w2, w3, w4, w5, w6, w7, _⟩ := hW.2.2 k (by omega)
    have : c = c1 := (nI_eq (by omega) (by omega)).mp (e.symm.trans w3)
    subst this
    exact ⟨zr_t_pin w6 w7, fun hp => zr_t_own hp w6 w7⟩
theorem zf_put_k (hn : n ≤ 6) {m l : Nat} (hm : m < n) {fw o o1 : Nat → Int32} (hw : ∀ k c, k ≤ l → c < 2 * (W * H) → fw k = nI c → fp c = nI m ∨ fp c = -1) (h : zf_put W H m fw l o o1) (hk : zf_k W H n fp o) : zf_k W H n fp o1 := by
  intro c k hc hkn e
  by_cases hx : ∃ j, j ≤ l ∧ fw j = nI c
  · rw [(h c hc).1 hx]
    obtain ⟨j, hj, ej⟩ := hx
    rcases hw j c hj hc ej with e' | e'
    · rw [← e', e]
    · rw [e'] at e
      exact absurd e.symm (zp_n1 (by omega))
  · rw [(h c hc).2 hx]
    exact hk c k hc hkn e
theorem zf_route_k (hn : n ≤ 6) (hC : 2 * (W * H) ≤ 162) (hpn : zf_pn W H n fs fe fp) {vc m s0 e0 : Nat} (hm : m < n) (hs0 : s0 < 2 * (W * H)) (he0 : e0 < 2 * (W * H)) (es0 : fs m = nI s0) (ee0 : fe m = nI e0) {o v o' v' : Nat → Int32} {r : Int32} (h : zf_route W H sp fb fp vc s0 e0 m o v r o' v') (hk : zf_k W H n fp o) : zf_k W H n fp o' := by
  obtain ⟨o1, v1, fw, l, a1, a2, a3, a4⟩ := h
  have hk1 := zf_clr_k hn hC hpn hm hs0 he0 es0 ee0 a1 hk
  obtain ⟨s, e', hs, he, x1, x2, p1, p2⟩ := hpn.1 m hm
  have es : s = s0 := (nI_eq (by omega) (by omega)).mp (by rw [← x1, es0])
  rw [es] at p1
  rcases a4 with ⟨e, a5, _⟩ | ⟨e, a5, _⟩
  · intro c k hc hkn ep
    rw [a5 c hc]
    exact hk1 c k hc hkn ep
  · obtain ⟨hl, f, fc, _, hW⟩ := zf_find_ne he0 a3 e
    exact zf_put_k hn hm (fun k c hk' hc ek => (zr_W_pin (T := zr_t W H sp fb fp o1 (nI m) 0) hC hs0 p1 hW hk' hc ek).1) a5 hk1
theorem zf_push_k (hn : n ≤ 6) (hC : 2 * (W * H) ≤ 162) (hpn : zf_pn W H n fs fe fp) {vc m s0 e0 : Nat} (hm : m < n) (hs0 : s0 < 2 * (W * H)) (he0 : e0 < 2 * (W * H)) (es0 : fs m = nI s0) (ee0 : fe m = nI e0) {o v o' v' : Nat → Int32} {r : Int32} {P : Nat → Prop} (h : zf_push W H n sp fb fp vc s0 e0 m o v r o' v' P) (hk : zf_k W H n fp o) : zf_k W H n fp o' := by
  obtain ⟨o1, v1, fw, l, a1, a2, a3, a4⟩ := h
  have hk1 := zf_clr_k hn hC hpn hm hs0 he0 es0 ee0 a1 hk
  obtain ⟨s, e', hs, he, x1, x2, p1, p2⟩ := hpn.1 m hm
  have es : s = s0 := (nI_eq (by omega) (by omega)).mp (by rw [← x1, es0])
  rw [es] at p1
  rcases a4 with ⟨e, a5, _⟩ | ⟨e, aP, o2, v2, a5, _, a7, _⟩
  · intro c k hc hkn ep
    rw [a5 c hc]
    exact hk1 c k hc hkn ep
  · obtain ⟨hl, f, fc, _, hW⟩ := zf_find_ne he0 a3 e
    refine zf_put_k hn hm (fun k c hk' hc ek => (zr_W_pin (T := zr_t W H sp fb fp o1 (nI m) 1) hC hs0 p1 hW hk' hc ek).1) a7 (fun c k hc hkn ep => ?_)
    by_cases hx : ∃ k, k < n ∧ P k ∧ fp c = nI k
    · rw [(a5 c hc).1 hx]
      exact ep
    · have e1 := hk1 c k hc hkn ep
      rw [(a5 c hc).2.2 hx]
      · exact e1
      · rintro ⟨k', j1, j2, j3⟩
        have : k' = k := (nI_eq (by omega) (by omega)).mp (j3.symm.trans e1)
        rw [this] at j2
        exact hx ⟨k, hkn, j2, ep⟩
/-- what was joined stays so; what was routed is -/
theorem zf_route_j (hn : n ≤ 6) (hd : 2 ≤ W ∧ W ≤ 9 ∧ 2 ≤ H ∧ H ≤ 9 ∧ W * H ≤ 81) (hpn : zf_pn W H n fs fe fp) {vc m s0 e0 : Nat} (hm : m < n) (hs0 : s0 < 2 * (W * H)) (he0 : e0 < 2 * (W * H)) (es0 : fs m = nI s0) (ee0 : fe m = nI e0) {o v o' v' : Nat → Int32} {r : Int32} (h : zf_route W H sp fb fp vc s0 e0 m o v r o' v') (hk : zf_k W H n fp o) : (∀ m' s' e', m' < n → m' ≠ m → zf_J W H s' e' m' o v → zf_J W H s' e' m' o' v') ∧ (¬ r = -1 → zf_J W H s0 e0 m o' v') := by
  have hC : 2 * (W * H) ≤ 162 := by omega
  obtain ⟨o1, v1, fw, l, a1, a2, a3, a4⟩ := h
  have hk1 := zf_clr_k hn hC hpn hm hs0 he0 es0 ee0 a1 hk
  obtain ⟨s, e', hs, he, x1, x2, p1, p2⟩ := hpn.1 m hm
  have es : s = s0 := (nI_eq (by omega) (by omega)).mp (by rw [← x1, es0])
  have ee : e' = e0 := (nI_eq (by omega) (by omega)).mp (by rw [← x2, ee0])
  subst es
  subst ee
  have hmod : ∀ i, i % (W * H) < W * H := fun i => Nat.mod_lt _ (Nat.mul_pos (by omega) (by omega))
  have nm : ∀ m', m' < n → m' ≠ m → ¬ nI m' = nI m := fun m' h1 h2 e => h2 ((nI_eq (by omega) (by omega)).mp e)
  -- what is cleared is no other's
  have ow1 : ∀ m' c, m' < n → m' ≠ m → c < 2 * (W * H) → o c = nI m' → o1 c = nI m' := fun m' c h1 h2 hc e => by
    rw [a1 c hc, if_neg, if_neg (by rw [e]; exact nm m' h1 h2)]
    · exact e
    · rintro (hx | hx)
      · have := hk s m hs hm p1
        rw [← (nI_eq (by omega) (by omega)).mp hx, e] at this
        exact nm m' h1 h2 this
      · have := hk e' m he hm p2
        rw [← (nI_eq (by omega) (by omega)).mp hx, e] at this
        exact nm m' h1 h2 this
  have j1 : ∀ m' s' e', m' < n → m' ≠ m → zf_J W H s' e' m' o v → zf_J W H s' e' m' o1 v1 := fun m' s' e' h1 h2 hJ S hS hcl => hJ S hS (fun i j d hi hj hd5 hSj oj oi eB hv => hcl i j d hi hj hd5 hSj (ow1 m' j h1 h2 hj oj) (ow1 m' i h1 h2 hi oi) eB (fun e4 => by
    rw [(a2 _ (hmod i)).2]
    · exact hv e4
    · rintro ⟨c, hc, ecp, ecm⟩
      rw [e4] at eB
      rcases zb_pl hi hc hj hd.2.2.2.2 eB ecp with hx | hx
      · rw [hx, oi] at ecm
        exact nm m' h1 h2 ecm
      · rw [hx, oj] at ecm
        exact nm m' h1 h2 ecm))
  rcases a4 with ⟨e, a5, a6⟩ | ⟨e, a5, a6⟩
  · exact ⟨fun m' s' e' h1 h2 hJ => zf_J_cg ⟨hd.1, hd.2.2.1⟩ (fun i hi => (a5 i hi).symm) (fun p hp => (a6 p hp).symm) (j1 m' s' e' h1 h2 hJ), fun hx => absurd e hx⟩
  · obtain ⟨hl, f, fc, _, hW⟩ := zf_find_ne he0 a3 e
    have free : ∀ j c, j ≤ l → fw j = nI c → c < 2 * (W * H) → o1 c = -1 ∨ o1 c = nI m := fun j c hj ej hc => by
      rcases (zr_W_pin (T := zr_t W H sp fb fp o1 (nI m) 0) hC hs0 p1 hW hj hc ej).2 rfl with e2 | e2
      · exact Or.inr (hk1 c m hc hm e2)
      · exact e2
    refine ⟨fun m' s' e2 h1 h2 hJ S hS hcl => ?_, fun _ S hS hcl => ?_⟩
    · have ow : ∀ c, c < 2 * (W * H) → o1 c = nI m' → o' c = nI m' := fun c hc ec => by
        rw [(a5 c hc).2]
        · exact ec
        · rintro ⟨j, hj, ej⟩
          rcases free j c hj ej hc with e3 | e3
          · rw [e3] at ec
            exact absurd ec.symm (zp_n1 (by omega))
          · rw [e3] at ec
            exact nm m' h1 h2 ec.symm
      refine j1 m' s' e2 h1 h2 hJ S hS (fun i j d hi hj hd5 hSj oj oi eB hv => hcl i j d hi hj hd5 hSj (ow j hj oj) (ow i hi oi) eB (fun e4 => ?_))
      by_cases hin : zf_cl W H fw l (i % (W * H))
      · rw [(a6 _ (hmod i)).1 hin]
        decide
      · rw [(a6 _ (hmod i)).2 hin]
        exact hv e4
    · have ow : ∀ k c, k ≤ l → fw k = nI c → c < 2 * (W * H) → o' c = nI m := fun k c hk' ek hc => (a5 c hc).1 ⟨k, hk', ek⟩
      have all : ∀ q k, k + q = l → ∀ c, c < 2 * (W * H) → fw k = nI c → S c := fun q => by
        induction q with
        | zero =>
          intro k hk' c hc ek
          have : k = l := by omega
          rw [this, hW.1] at ek
          rw [← (nI_eq (by omega) (by omega)).mp ek]
          exact hS
        | succ q ih =>
          intro k hk' c hc ek
          obtain ⟨c1, c', d, t, w1, w2, w3, w4, w5, w6, w7, w8, w9, w10, _⟩ := hW.2.2 k (by omega)
          have : c = c1 := (nI_eq (by omega) (by omega)).mp (ek.symm.trans w3)
          subst this
          refine hcl c c' d hc w2 w8 (ih (k + 1) (by omega) c' w2 w4) (ow (k + 1) c' (by omega) w4 w2) (ow k c (by omega) w3 hc) w9 (fun e4 => ?_)
          rw [(a6 _ (hmod c)).1 ⟨k, c, c', by omega, hc, w2, w3, w4, by rw [← e4]; exact w9, rfl⟩]
          decide
      exact all l 0 (by omega) e' he hW.2.1
end ZAJ
