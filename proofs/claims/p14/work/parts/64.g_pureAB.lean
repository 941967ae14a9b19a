/-! what a find is, out of the rows alone: the same on both sides -/
section ZAB
variable {W H : Nat}
theorem zr_t_cg {sp sp' : Int32} {fb fp fo fb' fp' fo' : Nat → Int32} (hs : sp' = sp) (hb : ∀ i, i < 2 * (W * H) → fb i = fb' i) (hpn : ∀ i, i < 2 * (W * H) → fp i = fp' i) (ho : ∀ i, i < 2 * (W * H) → fo i = fo' i) {m p : Int32} {c t : Nat} (hc : c < 2 * (W * H)) : zr_t W H sp fb fp fo m p c t ↔ zr_t W H sp' fb' fp' fo' m p c t := by
  unfold zr_t
  rw [zb_K_eq (m' := m) hs hpn hc (fun _ _ _ => Iff.rfl), zb_K_eq (m' := m) hs ho hc (fun _ _ _ => Iff.rfl), hb c hc, hpn c hc]
theorem zr_P_cg {T T' : Nat → Nat → Prop} (hT : ∀ c, c < 2 * (W * H) → ∀ t, T c t ↔ T' c t) {vc s0 : Nat} {f : Nat → Int32} (h : zr_P W H T vc s0 f) : zr_P W H T' vc s0 f :=
  ⟨h.1, h.2.1, fun c hc hs hl => by
    obtain ⟨t, d, c', k1, k2⟩ := h.2.2 c hc hs hl
    exact ⟨t, d, c', (hT c hc t).mp k1, k2⟩⟩
theorem zr_X_cg {T T' : Nat → Nat → Prop} (hT : ∀ c, c < 2 * (W * H) → ∀ t, T c t ↔ T' c t) {vc c s : Nat} (hc : c < 2 * (W * H)) {f : Nat → Int32} (h : zr_X W H T vc f c s) : zr_X W H T' vc f c s := fun t ht => h t ((hT c hc t).mpr ht)
theorem zr_uq2 {T : Nat → Nat → Prop} {vc s0 : Nat} (hvc : 1 ≤ vc) {f q : Nat → Int32} (hP : zr_P W H T vc s0 f) (hX : ∀ c, c < 2 * (W * H) → c ≠ s0 → zr_X W H T vc f c 5) (hP' : zr_P W H T vc s0 q) (hX' : ∀ c, c < 2 * (W * H) → c ≠ s0 → zr_X W H T vc q c 5) : ∀ c, c < 2 * (W * H) → q c = f c :=
  zr_uq hvc hP hX hP'.1 hP'.2.1 (fun c hc hl => ⟨_, zr_D_hi hvc hP' hX' hc hl⟩) (fun u hu hl v d t hv hd eB hT htl => by
    by_cases e : v = s0
    · rw [e, hP'.2.1]
      exact Nat.zero_le _
    · exact hX' v hv e t hT htl d hd u hu eB)
theorem zr_W_uq {T : Nat → Nat → Prop} (hTu : ∀ c t t', T c t → T c t' → t = t') {vc s0 e0 : Nat} {f f' : Nat → Int32} (hf : ∀ c, c < 2 * (W * H) → f' c = f c) {fw fc fw' fc' : Nat → Int32} {l l' : Nat} (hs0 : s0 < 2 * (W * H)) (hC : 2 * (W * H) ≤ 162) (h : zr_W W H T vc f s0 e0 fw fc l) (h' : zr_W W H T vc f' s0 e0 fw' fc' l') : l = l' ∧ ∀ k, k ≤ l → fw k = fw' k := by
  have key : ∀ k, k ≤ l → k ≤ l' → fw k = fw' k := by
    intro k
    induction k with
    | zero => intro _ _; rw [h.2.1, h'.2.1]
    | succ k ih =>
      intro hk hk'
      have e := ih (by omega) (by omega)
      obtain ⟨c, c1, d, t, j1, j2, j3, j4, j5, j6, j7, j8, j9, j10, j11, j12⟩ := h.2.2 k (by omega)
      obtain ⟨c', c1', d', t', i1, i2, i3, i4, i5, i6, i7, i8, i9, i10, i11, i12⟩ := h'.2.2 k (by omega)
      have ec : c = c' := (nI_eq (by omega) (by omega)).mp (by rw [← j3, ← i3, e])
      subst ec
      have et := hTu c t t' j6 i6
      subst et
      rw [hf c1' i2, hf c j1] at i11
      have ed : d = d' := by
        rcases Nat.lt_trichotomy d d' with hx | hx | hx
        · have := i12 d hx c1 j2 j9
          rw [hf c1 j2, hf c j1] at this
          exact absurd j11 this
        · exact hx
        · exact absurd i11 (j12 d' hx c1' i2 i9)
      subst ed
      rw [j4, i4, ← j9, ← i9]
  have hll : l = l' := by
    rcases Nat.lt_trichotomy l l' with hx | hx | hx
    · obtain ⟨c', _, _, _, i1, _, i3, _, i5, _⟩ := h'.2.2 l hx
      have e := key l (Nat.le_refl _) (by omega)
      rw [h.1, i3] at e
      exact absurd ((nI_eq (by omega) (by omega)).mp e).symm i5
    · exact hx
    · obtain ⟨c', _, _, _, i1, _, i3, _, i5, _⟩ := h.2.2 l' hx
      have e := key l' (by omega) (Nat.le_refl _)
      rw [h'.1, i3] at e
      exact absurd ((nI_eq (by omega) (by omega)).mp e) i5
  exact ⟨hll, fun k hk => key k hk (by omega)⟩
/-- what find answers, and the way that it finds -/
def zf_find (W H : Nat) (sp : Int32) (fb fp o : Nat → Int32) (vc s0 e0 m : Nat) (p r : Int32) (fw : Nat → Int32) (l : Nat) : Prop :=
  ∃ f, zr_P W H (zr_t W H sp fb fp o (nI m) p) vc s0 f ∧ (∀ c, c < 2 * (W * H) → c ≠ s0 → zr_X W H (zr_t W H sp fb fp o (nI m) p) vc f c 5) ∧ ((¬ (f e0).toNatClampNeg < 1000000 ∧ r = -1) ∨ ((f e0).toNatClampNeg < 1000000 ∧ r = f e0 ∧ l < 2 * (W * H) ∧ ∃ fc, zr_W W H (zr_t W H sp fb fp o (nI m) p) vc f s0 e0 fw fc l))
theorem zf_find_ne {sp : Int32} {fb fp o : Nat → Int32} {vc s0 e0 m : Nat} {p r : Int32} {fw : Nat → Int32} {l : Nat} (he0 : e0 < 2 * (W * H)) (h : zf_find W H sp fb fp o vc s0 e0 m p r fw l) (hr : ¬ r = -1) : l < 2 * (W * H) ∧ ∃ f fc, (∀ c, c < 2 * (W * H) → ∃ k, k ≤ 1000000 ∧ f c = nI k) ∧ zr_W W H (zr_t W H sp fb fp o (nI m) p) vc f s0 e0 fw fc l := by
  obtain ⟨f, hP, hX, ⟨_, e⟩ | ⟨_, _, hl, fc, hW⟩⟩ := h
  · exact absurd e hr
  · exact ⟨hl, f, fc, hP.1, hW⟩
theorem zf_find_uq {sp sp' : Int32} {fb fp fo fb' fp' fo' : Nat → Int32} (hs : sp' = sp) (hb : ∀ i, i < 2 * (W * H) → fb i = fb' i) (hpn : ∀ i, i < 2 * (W * H) → fp i = fp' i) (ho : ∀ i, i < 2 * (W * H) → fo i = fo' i) {vc s0 e0 m : Nat} (hvc : 1 ≤ vc) (hs0 : s0 < 2 * (W * H)) (he0 : e0 < 2 * (W * H)) (hC : 2 * (W * H) ≤ 162) {p r r' : Int32} {fw fw' : Nat → Int32} {l l' : Nat} (h : zf_find W H sp fb fp fo vc s0 e0 m p r fw l) (h' : zf_find W H sp' fb' fp' fo' vc s0 e0 m p r' fw' l') : r = r' ∧ (¬ r = -1 → l = l' ∧ ∀ k, k ≤ l → fw k = fw' k) := by
  obtain ⟨f, hP, hX, hh⟩ := h
  obtain ⟨f', hP', hX', hh'⟩ := h'
  have hT : ∀ c, c < 2 * (W * H) → ∀ t, zr_t W H sp' fb' fp' fo' (nI m) p c t ↔ zr_t W H sp fb fp fo (nI m) p c t := fun c hc t => (zr_t_cg hs hb hpn ho hc).symm
  have hf := zr_uq2 hvc hP hX (zr_P_cg hT hP') (fun c hc hcs => zr_X_cg hT hc (hX' c hc hcs))
  rw [hf e0 he0] at hh'
  rcases hh with ⟨a1, a2⟩ | ⟨a1, a2, a3, fc, a4⟩
  · rcases hh' with ⟨b1, b2⟩ | ⟨b1, _⟩
    · exact ⟨a2.trans b2.symm, fun hn => absurd a2 hn⟩
    · exact absurd b1 a1
  · rcases hh' with ⟨b1, _⟩ | ⟨b1, b2, b3, fc', b4⟩
    · exact absurd a1 b1
    · refine ⟨a2.trans b2.symm, fun _ => ?_⟩
      have b5 : zr_W W H (zr_t W H sp fb fp fo (nI m) p) vc f' s0 e0 fw' fc' l' := ⟨b4.1, b4.2.1, fun k hk => by
        obtain ⟨c, c', d, t, j1, j2, j3, j4, j5, j6, j7⟩ := b4.2.2 k hk
        exact ⟨c, c', d, t, j1, j2, j3, j4, j5, (hT c j1 t).mp j6, j7⟩⟩
      exact zr_W_uq (T := zr_t W H sp fb fp fo (nI m) p) (fun c t t' h1 h2 => zr_t_uq h1 h2) hf hs0 hC a4 b5
/-- there is a best, whatever the rows -/
theorem zr_best {sp : Int32} {fb fp o : Nat → Int32} {vc s0 : Nat} {m p : Int32} (hvc : 1 ≤ vc ∧ vc ≤ 4) : ∃ f, zr_P W H (zr_t W H sp fb fp o m p) vc s0 f ∧ ∀ c, c < 2 * (W * H) → c ≠ s0 → zr_X W H (zr_t W H sp fb fp o m p) vc f c 5 := by
  refine zr_ex (fun c t ht => zr_t_le ht) hvc _ (fun c => if c = s0 then 0 else nI 1000000) ⟨fun c hc => ?_, (if_pos rfl : (if s0 = s0 then (0 : Int32) else nI 1000000) = 0), fun c hc hs hl => ?_⟩ (Nat.le_refl _)
  · show ∃ k, k ≤ 1000000 ∧ (if c = s0 then (0 : Int32) else nI 1000000) = nI k
    split
    · exact ⟨0, by omega, rfl⟩
    · exact ⟨1000000, by omega, rfl⟩
  · have hl' : (if c = s0 then (0 : Int32) else nI 1000000).toNatClampNeg < 1000000 := hl
    rw [if_neg hs, nI_clamp (by omega)] at hl'
    omega
/-- the net's cells gone but for its pins -/
def zf_clr (W H s0 e0 m : Nat) (o o1 : Nat → Int32) : Prop := ∀ c, c < 2 * (W * H) → o1 c = if nI c = nI s0 ∨ nI c = nI e0 then nI m else if o c = nI m then -1 else o c
def zf_cv (W H m : Nat) (o v v1 : Nat → Int32) : Prop := ∀ p, p < W * H → ((∃ c, c < 2 * (W * H) ∧ c % (W * H) = p ∧ o c = nI m) → v1 p = 0) ∧ ((¬ ∃ c, c < 2 * (W * H) ∧ c % (W * H) = p ∧ o c = nI m) → v1 p = v p)
/-- the way's cells become the net's -/
def zf_put (W H m : Nat) (fw : Nat → Int32) (l : Nat) (o o1 : Nat → Int32) : Prop := ∀ c, c < 2 * (W * H) → ((∃ k, k ≤ l ∧ fw k = nI c) → o1 c = nI m) ∧ ((¬ ∃ k, k ≤ l ∧ fw k = nI c) → o1 c = o c)
/-- a via where the way goes to the other layer -/
def zf_cl (W H : Nat) (fw : Nat → Int32) (l p : Nat) : Prop := ∃ k c c', k < l ∧ c < 2 * (W * H) ∧ c' < 2 * (W * H) ∧ fw k = nI c ∧ fw (k + 1) = nI c' ∧ zg_B W H c 4 = nI c' ∧ c % (W * H) = p
def zf_pv (W H : Nat) (fw : Nat → Int32) (l : Nat) (v v1 : Nat → Int32) : Prop := ∀ p, p < W * H → (zf_cl W H fw l p → v1 p = 1) ∧ (¬ zf_cl W H fw l p → v1 p = v p)
theorem zg_B_4 {c d c' : Nat} (hW : 2 ≤ W) (hH : 2 ≤ H) (hA : W * H ≤ 81) (hc : c < 2 * (W * H)) (hc' : c' < 2 * (W * H)) (hd : d < 5) (e : zg_B W H c d = nI c') (e4 : zg_B W H c 4 = nI c') : d = 4 := by
  have hWA : W * 2 ≤ W * H := Nat.mul_le_mul_left W hH
  have hd5 : d = 0 ∨ d = 1 ∨ d = 2 ∨ d = 3 ∨ d = 4 := by omega
  have n1 : ¬ (-1 : Int32) = nI c' := fun h => zp_n1 (c := c') (by omega) h.symm
  unfold zg_B at e4
  rw [if_neg (by omega), if_neg (by omega), if_neg (by omega), if_neg (by omega)] at e4
  have e4' : c' = if c < W * H then c + W * H else c - W * H := by
    split at e4
    · rw [if_pos (by assumption)]
      exact ((nI_eq (by omega) (by omega)).mp e4).symm
    · rw [if_neg (by assumption)]
      exact ((nI_eq (by omega) (by omega)).mp e4).symm
  rcases hd5 with rfl | rfl | rfl | rfl | rfl
  · unfold zg_B at e
    rw [if_pos rfl] at e
    split at e
    · have := (nI_eq (by omega) (by omega)).mp e
      split at e4' <;> omega
    · exact absurd e n1
  · unfold zg_B at e
    rw [if_neg (by omega), if_pos rfl] at e
    split at e
    · have := (nI_eq (by omega) (by omega)).mp e
      split at e4' <;> omega
    · exact absurd e n1
  · unfold zg_B at e
    rw [if_neg (by omega), if_neg (by omega), if_pos rfl] at e
    split at e
    · have := (nI_eq (by omega) (by omega)).mp e
      split at e4' <;> omega
    · exact absurd e n1
  · unfold zg_B at e
    rw [if_neg (by omega), if_neg (by omega), if_neg (by omega), if_pos rfl] at e
    split at e
    · have := (nI_eq (by omega) (by omega)).mp e
      split at e4' <;> omega
    · exact absurd e n1
  · rfl
end ZAB
