def zw_Rules_isClose_10_84 (ln : Nat → Nat) (post : Int32 → zS → Prop) (k38 : Int32 × Int32 × Int32 × Int32 × zS → Prop) (v3 v4 v5 v6 : Int32) (z : zS) : Prop := k38 (v3, v4, v5, (v6 + (1 : Int32)), z)
set_option maxHeartbeats 4000000 in
set_option maxRecDepth 100000 in
theorem zt_Rules_isClose_10_84 {x : zC} {w : zW} {g : zS} {o : Nat → Int64} {post : Int32 → zS → Prop} (hG : zq_G x w "GridRouter$Rules" zc_Rules_isClose 8 (zq_rm 0 0)) (hR : zq_R x w zq_0 (some .boolean) (zq_Pi g o post)) (hAp : zq_Ap w) {k38 : Int32 × Int32 × Int32 × Int32 × zS → Prop} (hk38 : ∀ b : Int32 × Int32 × Int32 × Int32 × zS, k38 b → zq_W x w 0 0 (b.2.2.2.2, g, o) 38 [some (.ref (w.2.1 12)), some (.ref (w.2.1 10)), none, some (.int (b.1)), some (.int (b.2.1)), some (.int (b.2.2.1)), some (.int (b.2.2.2.1)), none] []) {v3 v4 v5 v6 : Int32} {z : zS} (h : zw_Rules_isClose_10_84 w.2.2.1 post k38 v3 v4 v5 v6 z) : zq_W x w 0 0 (z, g, o) 84 [some (.ref (w.2.1 12)), some (.ref (w.2.1 10)), none, some (.int v3), some (.int v4), some (.int v5), some (.int v6), none] [] := by
  refine zr_iinc hG (u := (1 : Int32)) [some (.ref (w.2.1 12)), some (.ref (w.2.1 10)), none, some (.int v3), some (.int v4), some (.int v5), some (.int (v6 + (1 : Int32))), none] zd_Rules_isClose_84 rfl (by decide) (Nat.le_of_ble_eq_true rfl) rfl ?_
  refine zr_goto hG 38 zd_Rules_isClose_87 (by decide) ?_
  have h := hk38 _ h
  exact h
def zw_Rules_isClose_10_38 (ln : Nat → Nat) (post : Int32 → zS → Prop) (k38 : Int32 × Int32 × Int32 × Int32 × zS → Prop) : Int32 × Int32 × Int32 × Int32 × zS → Prop := fun b => match b with
  | (v3, v4, v5, v6, z) => ((v5 ≤ v6 → (narrow .boolean (.int (0 : Int32)) = .int (0 : Int32) ∧ post (0 : Int32) z)) ∧ (¬ v5 ≤ v6 → vp_in (v4 + v6) (ln 2) ∧ (((z.2 2 (v4 + v6).toNatClampNeg) = (-1 : Int32) → zw_Rules_isClose_10_84 ln post k38 v3 v4 v5 v6 z) ∧ (¬ (z.2 2 (v4 + v6).toNatClampNeg) = (-1 : Int32) → vp_in (z.2 2 (v4 + v6).toNatClampNeg) (ln 6) ∧ (((z.2 6 (z.2 2 (v4 + v6).toNatClampNeg).toNatClampNeg) = (-1 : Int32) → zw_Rules_isClose_10_84 ln post k38 v3 v4 v5 v6 z) ∧ (¬ (z.2 6 (z.2 2 (v4 + v6).toNatClampNeg).toNatClampNeg) = (-1 : Int32) → vp_in (z.2 2 (v4 + v6).toNatClampNeg) (ln 6) ∧ (((z.2 6 (z.2 2 (v4 + v6).toNatClampNeg).toNatClampNeg) = v3 → zw_Rules_isClose_10_84 ln post k38 v3 v4 v5 v6 z) ∧ (¬ (z.2 6 (z.2 2 (v4 + v6).toNatClampNeg).toNatClampNeg) = v3 → (narrow .boolean (.int (1 : Int32)) = .int (1 : Int32) ∧ post (1 : Int32) z)))))))))
set_option maxHeartbeats 4000000 in
set_option maxRecDepth 100000 in
theorem zt_Rules_isClose_10_38 {x : zC} {w : zW} {g : zS} {o : Nat → Int64} {post : Int32 → zS → Prop} (hG : zq_G x w "GridRouter$Rules" zc_Rules_isClose 8 (zq_rm 0 0)) (hR : zq_R x w zq_0 (some .boolean) (zq_Pi g o post)) (hAp : zq_Ap w) {v3 v4 v5 v6 : Int32} {z : zS} (h : zq_Lp (zw_Rules_isClose_10_38 w.2.2.1 post) (v3, v4, v5, v6, z)) : zq_W x w 0 0 (z, g, o) 38 [some (.ref (w.2.1 12)), some (.ref (w.2.1 10)), none, some (.int v3), some (.int v4), some (.int v5), some (.int v6), none] [] := by
  refine zq_Lp_W (WW := fun b => zq_W x w 0 0 (b.2.2.2.2, g, o) 38 [some (.ref (w.2.1 12)), some (.ref (w.2.1 10)), none, some (.int (b.1)), some (.int (b.2.1)), some (.int (b.2.2.1)), some (.int (b.2.2.2.1)), none] []) (fun k38 hk38 b h => ?_) h
  obtain ⟨v3, v4, v5, v6, z⟩ := b
  show zq_W x w 0 0 (z, g, o) 38 [some (.ref (w.2.1 12)), some (.ref (w.2.1 10)), none, some (.int v3), some (.int v4), some (.int v5), some (.int v6), none] []
  refine zr_iload hG zd_Rules_isClose_38 rfl ?_
  refine zr_iload hG zd_Rules_isClose_40 rfl ?_
  refine zr_icmp_ge hG 90 zd_Rules_isClose_42 (by decide) (fun hc => ?_) (fun hc => ?_)
  · have h := h.1 hc
    refine zr_iconst hG (v := (0 : Int32)) zd_Rules_isClose_90 (by decide) ?_
    obtain ⟨hn, h⟩ := h
    exact zr_zret hG hR zd_Rules_isClose_91 hn ⟨_, _, rfl, rfl, h⟩
  · have h := h.2 hc
    refine zr_aload_n hG zd_Rules_isClose_45 rfl rfl ?_
    refine zf_Rules_grid hG tk_155 zd_Rules_isClose_46 ?_
    refine zf_Grid_beside hG tk_59 zd_Rules_isClose_49 ?_
    refine zr_iload hG zd_Rules_isClose_52 rfl ?_
    refine zr_iload hG zd_Rules_isClose_54 rfl ?_
    refine zr_iadd hG zd_Rules_isClose_56 ?_
    obtain ⟨hi, h⟩ := h
    refine zl_4 hG hi zd_Rules_isClose_57 ?_
    refine zr_istore hG [some (.ref (w.2.1 12)), some (.ref (w.2.1 10)), none, some (.int v3), some (.int v4), some (.int v5), some (.int v6), some (.int (z.2 2 (v4 + v6).toNatClampNeg))] zd_Rules_isClose_58 (Nat.le_of_ble_eq_true rfl) rfl ?_
    refine zr_iload hG zd_Rules_isClose_60 rfl ?_
    refine zr_iconst hG (v := (-1 : Int32)) zd_Rules_isClose_62 (by decide) ?_
    refine zr_icmp_eq hG 84 zd_Rules_isClose_63 (by decide) (fun hc => ?_) (fun hc => ?_)
    · have h := h.1 hc
      exact zr_mask [true, true, false, true, true, true, true, false] (zt_Rules_isClose_10_84 hG hR hAp hk38 h)
    · have h := h.2 hc
      refine zr_aload_n hG zd_Rules_isClose_66 rfl rfl ?_
      refine zr_iload hG zd_Rules_isClose_67 rfl ?_
      obtain ⟨hi, h⟩ := h
      refine zl_10 hG hi zd_Rules_isClose_69 ?_
      refine zr_iconst hG (v := (-1 : Int32)) zd_Rules_isClose_70 (by decide) ?_
      refine zr_icmp_eq hG 84 zd_Rules_isClose_71 (by decide) (fun hc => ?_) (fun hc => ?_)
      · have h := h.1 hc
        exact zr_mask [true, true, false, true, true, true, true, false] (zt_Rules_isClose_10_84 hG hR hAp hk38 h)
      · have h := h.2 hc
        refine zr_aload_n hG zd_Rules_isClose_74 rfl rfl ?_
        refine zr_iload hG zd_Rules_isClose_75 rfl ?_
        obtain ⟨hi, h⟩ := h
        refine zl_10 hG hi zd_Rules_isClose_77 ?_
        refine zr_iload_n hG zd_Rules_isClose_78 rfl rfl ?_
        refine zr_icmp_eq hG 84 zd_Rules_isClose_79 (by decide) (fun hc => ?_) (fun hc => ?_)
        · have h := h.1 hc
          exact zr_mask [true, true, false, true, true, true, true, false] (zt_Rules_isClose_10_84 hG hR hAp hk38 h)
        · have h := h.2 hc
          refine zr_iconst hG (v := (1 : Int32)) zd_Rules_isClose_82 (by decide) ?_
          obtain ⟨hn, h⟩ := h
          exact zr_zret hG hR zd_Rules_isClose_83 hn ⟨_, _, rfl, rfl, h⟩
def zw_Rules_isClose_10_33 (ln : Nat → Nat) (post : Int32 → zS → Prop) (v3 v4 u0 : Int32) (z : zS) : Prop := zq_Lp (zw_Rules_isClose_10_38 ln post) (v3, v4, u0, (0 : Int32), z)
set_option maxHeartbeats 4000000 in
set_option maxRecDepth 100000 in
theorem zt_Rules_isClose_10_33 {x : zC} {w : zW} {g : zS} {o : Nat → Int64} {post : Int32 → zS → Prop} (hG : zq_G x w "GridRouter$Rules" zc_Rules_isClose 8 (zq_rm 0 0)) (hR : zq_R x w zq_0 (some .boolean) (zq_Pi g o post)) (hAp : zq_Ap w) {v3 v4 u0 : Int32} {z : zS} (h : zw_Rules_isClose_10_33 w.2.2.1 post v3 v4 u0 z) : zq_W x w 0 0 (z, g, o) 33 [some (.ref (w.2.1 12)), some (.ref (w.2.1 10)), none, some (.int v3), some (.int v4), none, none, none] [.int u0] := by
  refine zr_istore hG [some (.ref (w.2.1 12)), some (.ref (w.2.1 10)), none, some (.int v3), some (.int v4), some (.int u0), none, none] zd_Rules_isClose_33 (Nat.le_of_ble_eq_true rfl) rfl ?_
  refine zr_iconst hG (v := (0 : Int32)) zd_Rules_isClose_35 (by decide) ?_
  refine zr_istore hG [some (.ref (w.2.1 12)), some (.ref (w.2.1 10)), none, some (.int v3), some (.int v4), some (.int u0), some (.int (0 : Int32)), none] zd_Rules_isClose_36 (Nat.le_of_ble_eq_true rfl) rfl ?_
  exact zt_Rules_isClose_10_38 hG hR hAp h
def zw_Rules_isClose_10_16 (ln : Nat → Nat) (post : Int32 → zS → Prop) (v2 v3 : Int32) (z : zS) : Prop := (((z.1 5) = 0 → zw_Rules_isClose_10_33 ln post v3 (v2 * (5 : Int32)) (0 : Int32) z) ∧ (¬ (z.1 5) = 0 → zw_Rules_isClose_10_33 ln post v3 (v2 * (5 : Int32)) (4 : Int32) z))
set_option maxHeartbeats 4000000 in
set_option maxRecDepth 100000 in
theorem zt_Rules_isClose_10_16 {x : zC} {w : zW} {g : zS} {o : Nat → Int64} {post : Int32 → zS → Prop} (hG : zq_G x w "GridRouter$Rules" zc_Rules_isClose 8 (zq_rm 0 0)) (hR : zq_R x w zq_0 (some .boolean) (zq_Pi g o post)) (hAp : zq_Ap w) {v2 v3 : Int32} {z : zS} (h : zw_Rules_isClose_10_16 w.2.2.1 post v2 v3 z) : zq_W x w 0 0 (z, g, o) 16 [some (.ref (w.2.1 12)), some (.ref (w.2.1 10)), some (.int v2), some (.int v3), none, none, none, none] [] := by
  refine zr_iload_n hG zd_Rules_isClose_16 rfl rfl ?_
  refine zr_iconst hG (v := (5 : Int32)) zd_Rules_isClose_17 (by decide) ?_
  refine zr_imul hG zd_Rules_isClose_18 ?_
  refine zr_istore hG [some (.ref (w.2.1 12)), some (.ref (w.2.1 10)), some (.int v2), some (.int v3), some (.int (v2 * (5 : Int32))), none, none, none] zd_Rules_isClose_19 (Nat.le_of_ble_eq_true rfl) rfl ?_
  refine zr_aload_n hG zd_Rules_isClose_21 rfl rfl ?_
  refine zf_Rules_spaced hG tk_152 zd_Rules_isClose_22 ?_
  refine zr_if_eq hG 32 zd_Rules_isClose_25 (by decide) (fun hc => ?_) (fun hc => ?_)
  · have h := h.1 hc
    refine zr_iconst hG (v := (0 : Int32)) zd_Rules_isClose_32 (by decide) ?_
    exact zr_mask [true, true, false, true, true, false, false, false] (zt_Rules_isClose_10_33 hG hR hAp h)
  · have h := h.2 hc
    refine zr_iconst hG (v := (4 : Int32)) zd_Rules_isClose_28 (by decide) ?_
    refine zr_goto hG 33 zd_Rules_isClose_29 (by decide) ?_
    exact zr_mask [true, true, false, true, true, false, false, false] (zt_Rules_isClose_10_33 hG hR hAp h)
def zw_Rules_isClose_10 (ln : Nat → Nat) (a2 a3 : Int32) (z : zS) (post : Int32 → zS → Prop) : Prop := vp_in a2 (ln 6) ∧ (((z.2 6 a2.toNatClampNeg) = (-1 : Int32) → zw_Rules_isClose_10_16 ln post a2 a3 z) ∧ (¬ (z.2 6 a2.toNatClampNeg) = (-1 : Int32) → vp_in a2 (ln 6) ∧ (((z.2 6 a2.toNatClampNeg) = a3 → zw_Rules_isClose_10_16 ln post a2 a3 z) ∧ (¬ (z.2 6 a2.toNatClampNeg) = a3 → (narrow .boolean (.int (1 : Int32)) = .int (1 : Int32) ∧ post (1 : Int32) z)))))
set_option maxHeartbeats 4000000 in
set_option maxRecDepth 100000 in
theorem zm_Rules_isClose_10 (l : Launch) (w : zW) (hAp : zq_Ap w) (g : zS) (o : Nat → Int64) {a2 a3 : Int32} {z : zS} {post : Int32 → zS → Prop} (h : zw_Rules_isClose_10 w.2.2.1 a2 a3 z post) : zq_M l w zq_0 zy_Rules_isClose zc_Rules_isClose 8 (some .boolean) (zq_rm 0 0) [.ref (w.2.1 12), .ref (w.2.1 10), .int a2, .int a3] (z, g, o) (zq_Pi g o post) := by
  refine zq_mk_M (by decide) (by simp [Value.category]) (Nat.le_of_ble_eq_true rfl) hAp (fun x hx hG hR => ?_)
  subst hx
  refine zr_aload_n hG zd_Rules_isClose_0 rfl rfl ?_
  refine zr_iload_n hG zd_Rules_isClose_1 rfl rfl ?_
  obtain ⟨hi, h⟩ := h
  refine zl_10 hG hi zd_Rules_isClose_2 ?_
  refine zr_iconst hG (v := (-1 : Int32)) zd_Rules_isClose_3 (by decide) ?_
  refine zr_icmp_eq hG 16 zd_Rules_isClose_4 (by decide) (fun hc => ?_) (fun hc => ?_)
  · have h := h.1 hc
    exact zt_Rules_isClose_10_16 hG hR hAp h
  · have h := h.2 hc
    refine zr_aload_n hG zd_Rules_isClose_7 rfl rfl ?_
    refine zr_iload_n hG zd_Rules_isClose_8 rfl rfl ?_
    obtain ⟨hi, h⟩ := h
    refine zl_10 hG hi zd_Rules_isClose_9 ?_
    refine zr_iload_n hG zd_Rules_isClose_10 rfl rfl ?_
    refine zr_icmp_eq hG 16 zd_Rules_isClose_11 (by decide) (fun hc => ?_) (fun hc => ?_)
    · have h := h.1 hc
      exact zt_Rules_isClose_10_16 hG hR hAp h
    · have h := h.2 hc
      refine zr_iconst hG (v := (1 : Int32)) zd_Rules_isClose_14 (by decide) ?_
      obtain ⟨hn, h⟩ := h
      exact zr_zret hG hR zd_Rules_isClose_15 hn ⟨_, _, rfl, rfl, h⟩
def zw_Rules_isTaken (ln : Nat → Nat) (a1 a2 : Int32) (z : zS) (post : Int32 → zS → Prop) : Prop := (zw_Rules_isClose_10 ln a1 a2 z (fun r190 z190 => (narrow .boolean (.int r190) = .int r190 ∧ post r190 z190)))
set_option maxHeartbeats 4000000 in
set_option maxRecDepth 100000 in
theorem zm_Rules_isTaken (l : Launch) (w : zW) (hAp : zq_Ap w) (g : zS) (o : Nat → Int64) {a1 a2 : Int32} {z : zS} {post : Int32 → zS → Prop} (h : zw_Rules_isTaken w.2.2.1 a1 a2 z post) : zq_M l w zq_0 zy_Rules_isTaken zc_Rules_isTaken 3 (some .boolean) (zq_rm 1 27) [.ref (w.2.1 12), .int a1, .int a2] (z, g, o) (zq_Pi g o post) := by
  refine zq_mk_M (by decide) (by simp [Value.category]) (Nat.le_of_ble_eq_true rfl) hAp (fun x hx hG hR => ?_)
  subst hx
  have h : (zw_Rules_isClose_10 w.2.2.1 a1 a2 z (fun r190 z190 => (narrow .boolean (.int r190) = .int r190 ∧ post r190 z190))) := h
  refine zr_aload_n hG zd_Rules_isTaken_0 rfl rfl ?_
  refine zr_aload_n hG zd_Rules_isTaken_1 rfl rfl ?_
  refine zf_Rules_layout hG tk_157 zd_Rules_isTaken_2 ?_
  refine zf_Layout_owner hG tk_122 zd_Rules_isTaken_5 ?_
  refine zr_iload_n hG zd_Rules_isTaken_8 rfl rfl ?_
  refine zr_iload_n hG zd_Rules_isTaken_9 rfl rfl ?_
  refine zr_callV hG zq_F0 (As := [.ref (w.2.1 10), .int a1, .int a2]) (rest := []) (zm_Rules_isClose_10 (zc_l x) w hAp g o h) 12 rfl rfl rfl zg_Rules_43 zdd_Rules_isClose ⟨rfl, rfl, by decide, by decide⟩ ⟨by decide, by decide⟩ rfl (Nat.le_of_ble_eq_true rfl) zd_Rules_isTaken_10 rfl ?_
  rintro _ _ ⟨r190, z190, rfl, rfl, h⟩
  obtain ⟨hn, h⟩ := h
  exact zr_zret hG hR zd_Rules_isTaken_13 hn ⟨_, _, rfl, rfl, h⟩
def zw_WayFinder_freeToll_44 (ln : Nat → Nat) (post : Int32 → zS → Prop) (u0 : Int32) (z : zS) : Prop := post u0 z
set_option maxHeartbeats 4000000 in
set_option maxRecDepth 100000 in
theorem zt_WayFinder_freeToll_44 {x : zC} {w : zW} {g : zS} {o : Nat → Int64} {post : Int32 → zS → Prop} (hG : zq_G x w "GridRouter$WayFinder" zc_WayFinder_freeToll 3 (zq_rm 2 49)) (hR : zq_R x w zq_0 (some .int) (zq_Pi g o post)) (hAp : zq_Ap w) {u0 : Int32} {z : zS} (h : zw_WayFinder_freeToll_44 w.2.2.1 post u0 z) : zq_W x w 0 0 (z, g, o) 44 [none, none, none] [.int u0] := by
  exact zr_iret hG hR zd_WayFinder_freeToll_44 ⟨_, _, rfl, rfl, h⟩
def zw_WayFinder_freeToll_39 (ln : Nat → Nat) (post : Int32 → zS → Prop) (z : zS) : Prop := zw_WayFinder_freeToll_44 ln post (-1 : Int32) z
set_option maxHeartbeats 4000000 in
set_option maxRecDepth 100000 in
theorem zt_WayFinder_freeToll_39 {x : zC} {w : zW} {g : zS} {o : Nat → Int64} {post : Int32 → zS → Prop} (hG : zq_G x w "GridRouter$WayFinder" zc_WayFinder_freeToll 3 (zq_rm 2 49)) (hR : zq_R x w zq_0 (some .int) (zq_Pi g o post)) (hAp : zq_Ap w) {z : zS} (h : zw_WayFinder_freeToll_39 w.2.2.1 post z) : zq_W x w 0 0 (z, g, o) 39 [none, none, none] [] := by
  refine zr_iconst hG (v := (-1 : Int32)) zd_WayFinder_freeToll_39 (by decide) ?_
  refine zr_goto hG 44 zd_WayFinder_freeToll_40 (by decide) ?_
  exact zt_WayFinder_freeToll_44 hG hR hAp h
def zw_WayFinder_freeToll (ln : Nat → Nat) (a1 a2 : Int32) (z : zS) (post : Int32 → zS → Prop) : Prop := vp_in a1 (ln 5) ∧ ((¬ (z.2 5 a1.toNatClampNeg) = a2 → (zw_Rules_isBarred ln a1 a2 z (fun r200 z200 => ((¬ r200 = 0 → zw_WayFinder_freeToll_39 ln post z200) ∧ (r200 = 0 → (zw_Rules_isTaken ln a1 a2 z200 (fun r201 z201 => ((r201 = 0 → zw_WayFinder_freeToll_44 ln post (0 : Int32) z201) ∧ (¬ r201 = 0 → zw_WayFinder_freeToll_39 ln post z201))))))))) ∧ ((z.2 5 a1.toNatClampNeg) = a2 → post (0 : Int32) z))
set_option maxHeartbeats 4000000 in
set_option maxRecDepth 100000 in
theorem zm_WayFinder_freeToll (l : Launch) (w : zW) (hAp : zq_Ap w) (g : zS) (o : Nat → Int64) {a1 a2 : Int32} {z : zS} {post : Int32 → zS → Prop} (h : zw_WayFinder_freeToll w.2.2.1 a1 a2 z post) : zq_M l w zq_0 zy_WayFinder_freeToll zc_WayFinder_freeToll 3 (some .int) (zq_rm 2 49) [.ref (w.2.1 21), .int a1, .int a2] (z, g, o) (zq_Pi g o post) := by
  refine zq_mk_M (by decide) (by simp [Value.category]) (Nat.le_of_ble_eq_true rfl) hAp (fun x hx hG hR => ?_)
  subst hx
  refine zr_aload_n hG zd_WayFinder_freeToll_0 rfl rfl ?_
  refine zf_WayFinder_nets hG tk_227 zd_WayFinder_freeToll_1 ?_
  refine zf_Nets_pinOwner hG tk_96 zd_WayFinder_freeToll_4 ?_
  refine zr_iload_n hG zd_WayFinder_freeToll_7 rfl rfl ?_
  obtain ⟨hi, h⟩ := h
  refine zl_8 hG hi zd_WayFinder_freeToll_8 ?_
  refine zr_iload_n hG zd_WayFinder_freeToll_9 rfl rfl ?_
  refine zr_icmp_ne hG 15 zd_WayFinder_freeToll_10 (by decide) (fun hc => ?_) (fun hc => ?_)
  · have h := h.1 hc
    refine zr_aload_n hG zd_WayFinder_freeToll_15 rfl rfl ?_
    refine zf_WayFinder_rules hG tk_228 zd_WayFinder_freeToll_16 ?_
    refine zr_iload_n hG zd_WayFinder_freeToll_19 rfl rfl ?_
    refine zr_iload_n hG zd_WayFinder_freeToll_20 rfl rfl ?_
    refine zr_callV hG zq_F0 (As := [.int a1, .int a2]) (rest := []) (zm_Rules_isBarred (zc_l x) w hAp g o h) 12 rfl rfl rfl zg_WayFinder_85 zdd_Rules_isBarred ⟨rfl, rfl, by decide, by decide⟩ ⟨by decide, by decide⟩ rfl (Nat.le_of_ble_eq_true rfl) zd_WayFinder_freeToll_21 rfl ?_
    rintro _ _ ⟨r200, z200, rfl, rfl, h⟩
    refine zr_if_ne hG 39 zd_WayFinder_freeToll_24 (by decide) (fun hc => ?_) (fun hc => ?_)
    · have h := h.1 hc
      exact zr_mask [false, false, false] (zt_WayFinder_freeToll_39 hG hR hAp h)
    · have h := h.2 hc
      refine zr_aload_n hG zd_WayFinder_freeToll_27 rfl rfl ?_
      refine zf_WayFinder_rules hG tk_228 zd_WayFinder_freeToll_28 ?_
      refine zr_iload_n hG zd_WayFinder_freeToll_31 rfl rfl ?_
      refine zr_iload_n hG zd_WayFinder_freeToll_32 rfl rfl ?_
      refine zr_callV hG zq_F0 (As := [.int a1, .int a2]) (rest := []) (zm_Rules_isTaken (zc_l x) w hAp g o h) 12 rfl rfl rfl zg_WayFinder_91 zdd_Rules_isTaken ⟨rfl, rfl, by decide, by decide⟩ ⟨by decide, by decide⟩ rfl (Nat.le_of_ble_eq_true rfl) zd_WayFinder_freeToll_33 rfl ?_
      rintro _ _ ⟨r201, z201, rfl, rfl, h⟩
      refine zr_if_eq hG 43 zd_WayFinder_freeToll_36 (by decide) (fun hc => ?_) (fun hc => ?_)
      · have h := h.1 hc
        refine zr_iconst hG (v := (0 : Int32)) zd_WayFinder_freeToll_43 (by decide) ?_
        exact zr_mask [false, false, false] (zt_WayFinder_freeToll_44 hG hR hAp h)
      · have h := h.2 hc
        exact zr_mask [false, false, false] (zt_WayFinder_freeToll_39 hG hR hAp h)
  · have h := h.2 hc
    refine zr_iconst hG (v := (0 : Int32)) zd_WayFinder_freeToll_13 (by decide) ?_
    exact zr_iret hG hR zd_WayFinder_freeToll_14 ⟨_, _, rfl, rfl, h⟩
def zw_WayFinder_pushToll_45 (ln : Nat → Nat) (post : Int32 → zS → Prop) (u0 : Int32) (z : zS) : Prop := post u0 z
set_option maxHeartbeats 4000000 in
set_option maxRecDepth 100000 in
theorem zt_WayFinder_pushToll_45 {x : zC} {w : zW} {g : zS} {o : Nat → Int64} {post : Int32 → zS → Prop} (hG : zq_G x w "GridRouter$WayFinder" zc_WayFinder_pushToll 3 (zq_rm 2 49)) (hR : zq_R x w zq_0 (some .int) (zq_Pi g o post)) (hAp : zq_Ap w) {u0 : Int32} {z : zS} (h : zw_WayFinder_pushToll_45 w.2.2.1 post u0 z) : zq_W x w 0 0 (z, g, o) 45 [none, none, none] [.int u0] := by
  exact zr_iret hG hR zd_WayFinder_pushToll_45 ⟨_, _, rfl, rfl, h⟩
def zw_WayFinder_pushToll_27 (ln : Nat → Nat) (post : Int32 → zS → Prop) (v1 v2 : Int32) (z : zS) : Prop := (zw_Rules_isTaken ln v1 v2 z (fun r202 z202 => ((r202 = 0 → zw_WayFinder_pushToll_45 ln post (0 : Int32) z202) ∧ (¬ r202 = 0 → zw_WayFinder_pushToll_45 ln post (10 : Int32) z202))))
set_option maxHeartbeats 4000000 in
set_option maxRecDepth 100000 in
theorem zt_WayFinder_pushToll_27 {x : zC} {w : zW} {g : zS} {o : Nat → Int64} {post : Int32 → zS → Prop} (hG : zq_G x w "GridRouter$WayFinder" zc_WayFinder_pushToll 3 (zq_rm 2 49)) (hR : zq_R x w zq_0 (some .int) (zq_Pi g o post)) (hAp : zq_Ap w) {v1 v2 : Int32} {z : zS} (h : zw_WayFinder_pushToll_27 w.2.2.1 post v1 v2 z) : zq_W x w 0 0 (z, g, o) 27 [some (.ref (w.2.1 21)), some (.int v1), some (.int v2)] [] := by
  have h : (zw_Rules_isTaken w.2.2.1 v1 v2 z (fun r202 z202 => ((r202 = 0 → zw_WayFinder_pushToll_45 w.2.2.1 post (0 : Int32) z202) ∧ (¬ r202 = 0 → zw_WayFinder_pushToll_45 w.2.2.1 post (10 : Int32) z202)))) := h
  refine zr_aload_n hG zd_WayFinder_pushToll_27 rfl rfl ?_
  refine zf_WayFinder_rules hG tk_228 zd_WayFinder_pushToll_28 ?_
  refine zr_iload_n hG zd_WayFinder_pushToll_31 rfl rfl ?_
  refine zr_iload_n hG zd_WayFinder_pushToll_32 rfl rfl ?_
  refine zr_callV hG zq_F0 (As := [.int v1, .int v2]) (rest := []) (zm_Rules_isTaken (zc_l x) w hAp g o h) 12 rfl rfl rfl zg_WayFinder_91 zdd_Rules_isTaken ⟨rfl, rfl, by decide, by decide⟩ ⟨by decide, by decide⟩ rfl (Nat.le_of_ble_eq_true rfl) zd_WayFinder_pushToll_33 rfl ?_
  rintro _ _ ⟨r202, z202, rfl, rfl, h⟩
  refine zr_if_eq hG 44 zd_WayFinder_pushToll_36 (by decide) (fun hc => ?_) (fun hc => ?_)
  · have h := h.1 hc
    refine zr_iconst hG (v := (0 : Int32)) zd_WayFinder_pushToll_44 (by decide) ?_
    exact zr_mask [false, false, false] (zt_WayFinder_pushToll_45 hG hR hAp h)
  · have h := h.2 hc
    refine zr_bipush hG (v := (10 : Int32)) zd_WayFinder_pushToll_39 (by decide) ?_
    refine zr_goto hG 45 zd_WayFinder_pushToll_41 (by decide) ?_
    exact zr_mask [false, false, false] (zt_WayFinder_pushToll_45 hG hR hAp h)
def zw_WayFinder_pushToll (ln : Nat → Nat) (a1 a2 : Int32) (z : zS) (post : Int32 → zS → Prop) : Prop := vp_in a1 (ln 5) ∧ (((z.2 5 a1.toNatClampNeg) = a2 → zw_WayFinder_pushToll_27 ln post a1 a2 z) ∧ (¬ (z.2 5 a1.toNatClampNeg) = a2 → (zw_Rules_isBarred ln a1 a2 z (fun r203 z203 => ((r203 = 0 → zw_WayFinder_pushToll_27 ln post a1 a2 z203) ∧ (¬ r203 = 0 → post (-1 : Int32) z203))))))
set_option maxHeartbeats 4000000 in
set_option maxRecDepth 100000 in
theorem zm_WayFinder_pushToll (l : Launch) (w : zW) (hAp : zq_Ap w) (g : zS) (o : Nat → Int64) {a1 a2 : Int32} {z : zS} {post : Int32 → zS → Prop} (h : zw_WayFinder_pushToll w.2.2.1 a1 a2 z post) : zq_M l w zq_0 zy_WayFinder_pushToll zc_WayFinder_pushToll 3 (some .int) (zq_rm 2 49) [.ref (w.2.1 21), .int a1, .int a2] (z, g, o) (zq_Pi g o post) := by
  refine zq_mk_M (by decide) (by simp [Value.category]) (Nat.le_of_ble_eq_true rfl) hAp (fun x hx hG hR => ?_)
  subst hx
  refine zr_aload_n hG zd_WayFinder_pushToll_0 rfl rfl ?_
  refine zf_WayFinder_nets hG tk_227 zd_WayFinder_pushToll_1 ?_
  refine zf_Nets_pinOwner hG tk_96 zd_WayFinder_pushToll_4 ?_
  refine zr_iload_n hG zd_WayFinder_pushToll_7 rfl rfl ?_
  obtain ⟨hi, h⟩ := h
  refine zl_8 hG hi zd_WayFinder_pushToll_8 ?_
  refine zr_iload_n hG zd_WayFinder_pushToll_9 rfl rfl ?_
  refine zr_icmp_eq hG 27 zd_WayFinder_pushToll_10 (by decide) (fun hc => ?_) (fun hc => ?_)
  · have h := h.1 hc
    exact zt_WayFinder_pushToll_27 hG hR hAp h
  · have h := h.2 hc
    refine zr_aload_n hG zd_WayFinder_pushToll_13 rfl rfl ?_
    refine zf_WayFinder_rules hG tk_228 zd_WayFinder_pushToll_14 ?_
    refine zr_iload_n hG zd_WayFinder_pushToll_17 rfl rfl ?_
    refine zr_iload_n hG zd_WayFinder_pushToll_18 rfl rfl ?_
    refine zr_callV hG zq_F0 (As := [.int a1, .int a2]) (rest := []) (zm_Rules_isBarred (zc_l x) w hAp g o h) 12 rfl rfl rfl zg_WayFinder_85 zdd_Rules_isBarred ⟨rfl, rfl, by decide, by decide⟩ ⟨by decide, by decide⟩ rfl (Nat.le_of_ble_eq_true rfl) zd_WayFinder_pushToll_19 rfl ?_
    rintro _ _ ⟨r203, z203, rfl, rfl, h⟩
    refine zr_if_eq hG 27 zd_WayFinder_pushToll_22 (by decide) (fun hc => ?_) (fun hc => ?_)
    · have h := h.1 hc
      exact zt_WayFinder_pushToll_27 hG hR hAp h
    · have h := h.2 hc
      refine zr_iconst hG (v := (-1 : Int32)) zd_WayFinder_pushToll_25 (by decide) ?_
      exact zr_iret hG hR zd_WayFinder_pushToll_26 ⟨_, _, rfl, rfl, h⟩
def zw_WayFinder_dequeue_37 (ln : Nat → Nat) (post : Int32 → zS → Prop) (v1 u0 : Int32) (z : zS) : Prop := vp_in v1 (ln 16) ∧ post v1 (zs_a (zs_s (zs_s z 9 u0) 10 (((zs_s z 9 u0).1 10) - (1 : Int32))) 16 v1 (vp_nar .boolean (0 : Int32)))
set_option maxHeartbeats 4000000 in
set_option maxRecDepth 100000 in
theorem zt_WayFinder_dequeue_37 {x : zC} {w : zW} {g : zS} {o : Nat → Int64} {post : Int32 → zS → Prop} (hG : zq_G x w "GridRouter$WayFinder" zc_WayFinder_dequeue 2 (zq_rm 0 0)) (hR : zq_R x w (zq_A w) (some .int) (zq_Pi g o post)) (hAp : zq_Ap w) (hW : zq_Wr x w) {v1 u0 : Int32} {z : zS} (h : zw_WayFinder_dequeue_37 w.2.2.1 post v1 u0 z) : zq_W x w 0 0 (z, g, o) 37 [some (.ref (w.2.1 21)), some (.int v1)] [.int u0, .ref (w.2.1 21)] := by
  refine zp_WayFinder_head hG hW tk_234 zd_WayFinder_dequeue_37 ?_
  refine zr_aload_n hG zd_WayFinder_dequeue_40 rfl rfl ?_
  refine zr_dup hG zd_WayFinder_dequeue_41 rfl ?_
  refine zf_WayFinder_waiting hG tk_235 zd_WayFinder_dequeue_42 ?_
  refine zr_iconst hG (v := (1 : Int32)) zd_WayFinder_dequeue_45 (by decide) ?_
  refine zr_isub hG zd_WayFinder_dequeue_46 ?_
  refine zp_WayFinder_waiting hG hW tk_235 zd_WayFinder_dequeue_47 ?_
  refine zr_aload_n hG zd_WayFinder_dequeue_50 rfl rfl ?_
  refine zf_WayFinder_waits hG tk_233 zd_WayFinder_dequeue_51 ?_
  refine zr_iload_n hG zd_WayFinder_dequeue_54 rfl rfl ?_
  refine zr_iconst hG (v := (0 : Int32)) zd_WayFinder_dequeue_55 (by decide) ?_
  obtain ⟨hi, h⟩ := h
  refine zu_26 hG hW hi zd_WayFinder_dequeue_56 ?_
  refine zr_iload_n hG zd_WayFinder_dequeue_57 rfl rfl ?_
  exact zr_iret hG hR zd_WayFinder_dequeue_58 ⟨_, _, rfl, rfl, h⟩
def zw_WayFinder_dequeue (ln : Nat → Nat) (z : zS) (post : Int32 → zS → Prop) : Prop := vp_in (z.1 9) (ln 15) ∧ (((z.1 3) ≤ ((z.1 9) + (1 : Int32)) → zw_WayFinder_dequeue_37 ln post (z.2 15 (z.1 9).toNatClampNeg) (0 : Int32) z) ∧ (¬ (z.1 3) ≤ ((z.1 9) + (1 : Int32)) → zw_WayFinder_dequeue_37 ln post (z.2 15 (z.1 9).toNatClampNeg) ((z.1 9) + (1 : Int32)) z))
set_option maxHeartbeats 4000000 in
set_option maxRecDepth 100000 in
theorem zm_WayFinder_dequeue (l : Launch) (w : zW) (hAp : zq_Ap w) (g : zS) (o : Nat → Int64) {z : zS} {post : Int32 → zS → Prop} (h : zw_WayFinder_dequeue w.2.2.1 z post) : zq_M l w (zq_A w) zy_WayFinder_dequeue zc_WayFinder_dequeue 2 (some .int) (zq_rm 0 0) [.ref (w.2.1 21)] (z, g, o) (zq_Pi g o post) := by
  refine zq_mk_M (by decide) (by simp [Value.category]) (Nat.le_of_ble_eq_true rfl) hAp (fun x hx hG hR => ?_)
  subst hx
  have hW := zq_wr hR.2.2.1
  refine zr_aload_n hG zd_WayFinder_dequeue_0 rfl rfl ?_
  refine zf_WayFinder_queue hG tk_232 zd_WayFinder_dequeue_1 ?_
  refine zr_aload_n hG zd_WayFinder_dequeue_4 rfl rfl ?_
  refine zf_WayFinder_head hG tk_234 zd_WayFinder_dequeue_5 ?_
  obtain ⟨hi, h⟩ := h
  refine zl_25 hG hi zd_WayFinder_dequeue_8 ?_
  refine zr_istore_n hG [some (.ref (w.2.1 21)), some (.int (z.2 15 (z.1 9).toNatClampNeg))] zd_WayFinder_dequeue_9 rfl (Nat.le_of_ble_eq_true rfl) rfl ?_
  refine zr_aload_n hG zd_WayFinder_dequeue_10 rfl rfl ?_
  refine zr_aload_n hG zd_WayFinder_dequeue_11 rfl rfl ?_
  refine zf_WayFinder_head hG tk_234 zd_WayFinder_dequeue_12 ?_
  refine zr_iconst hG (v := (1 : Int32)) zd_WayFinder_dequeue_15 (by decide) ?_
  refine zr_iadd hG zd_WayFinder_dequeue_16 ?_
  refine zr_aload_n hG zd_WayFinder_dequeue_17 rfl rfl ?_
  refine zf_WayFinder_grid hG tk_226 zd_WayFinder_dequeue_18 ?_
  refine zf_Grid_cells hG tk_50 zd_WayFinder_dequeue_21 ?_
  refine zr_icmp_ge hG 36 zd_WayFinder_dequeue_24 (by decide) (fun hc => ?_) (fun hc => ?_)
  · have h := h.1 hc
    refine zr_iconst hG (v := (0 : Int32)) zd_WayFinder_dequeue_36 (by decide) ?_
    exact zt_WayFinder_dequeue_37 hG hR hAp hW h
  · have h := h.2 hc
    refine zr_aload_n hG zd_WayFinder_dequeue_27 rfl rfl ?_
    refine zf_WayFinder_head hG tk_234 zd_WayFinder_dequeue_28 ?_
    refine zr_iconst hG (v := (1 : Int32)) zd_WayFinder_dequeue_31 (by decide) ?_
    refine zr_iadd hG zd_WayFinder_dequeue_32 ?_
    refine zr_goto hG 37 zd_WayFinder_dequeue_33 (by decide) ?_
    exact zt_WayFinder_dequeue_37 hG hR hAp hW h
def zw_WayFinder_enqueue_66 (ln : Nat → Nat) (post : zS → Prop) (z : zS) : Prop := post z
set_option maxHeartbeats 4000000 in
set_option maxRecDepth 100000 in
theorem zt_WayFinder_enqueue_66 {x : zC} {w : zW} {g : zS} {o : Nat → Int64} {post : zS → Prop} (hG : zq_G x w "GridRouter$WayFinder" zc_WayFinder_enqueue 3 (zq_rm 0 0)) (hR : zq_R x w (zq_A w) none (zq_Pv g o post)) (hAp : zq_Ap w) (hW : zq_Wr x w) {z : zS} (h : zw_WayFinder_enqueue_66 w.2.2.1 post z) : zq_W x w 0 0 (z, g, o) 66 [none, none, none] [] := by
  exact zr_vret hG hR zd_WayFinder_enqueue_66 ⟨_, rfl, rfl, h⟩
def zw_WayFinder_enqueue_54 (ln : Nat → Nat) (post : zS → Prop) (v1 u0 : Int32) (z : zS) : Prop := vp_in u0 (ln 15) ∧ zw_WayFinder_enqueue_66 ln post (zs_s (zs_a z 15 u0 v1) 10 (((zs_a z 15 u0 v1).1 10) + (1 : Int32)))
set_option maxHeartbeats 4000000 in
set_option maxRecDepth 100000 in
theorem zt_WayFinder_enqueue_54 {x : zC} {w : zW} {g : zS} {o : Nat → Int64} {post : zS → Prop} (hG : zq_G x w "GridRouter$WayFinder" zc_WayFinder_enqueue 3 (zq_rm 0 0)) (hR : zq_R x w (zq_A w) none (zq_Pv g o post)) (hAp : zq_Ap w) (hW : zq_Wr x w) {v1 u0 : Int32} {z : zS} (h : zw_WayFinder_enqueue_54 w.2.2.1 post v1 u0 z) : zq_W x w 0 0 (z, g, o) 54 [some (.ref (w.2.1 21)), some (.int v1), none] [.int u0, .ref (w.2.1 25)] := by
  refine zr_iload_n hG zd_WayFinder_enqueue_54 rfl rfl ?_
  obtain ⟨hi, h⟩ := h
  refine zu_25 hG hW hi zd_WayFinder_enqueue_55 ?_
  refine zr_aload_n hG zd_WayFinder_enqueue_56 rfl rfl ?_
  refine zr_dup hG zd_WayFinder_enqueue_57 rfl ?_
  refine zf_WayFinder_waiting hG tk_235 zd_WayFinder_enqueue_58 ?_
  refine zr_iconst hG (v := (1 : Int32)) zd_WayFinder_enqueue_61 (by decide) ?_
  refine zr_iadd hG zd_WayFinder_enqueue_62 ?_
  refine zp_WayFinder_waiting hG hW tk_235 zd_WayFinder_enqueue_63 ?_
  exact zr_mask [false, false, false] (zt_WayFinder_enqueue_66 hG hR hAp hW h)
def zw_WayFinder_enqueue (ln : Nat → Nat) (a1 : Int32) (z : zS) (post : zS → Prop) : Prop := vp_in a1 (ln 16) ∧ ((¬ (z.2 16 a1.toNatClampNeg) = 0 → zw_WayFinder_enqueue_66 ln post z) ∧ ((z.2 16 a1.toNatClampNeg) = 0 → vp_in a1 (ln 16) ∧ ((((zs_a z 16 a1 (vp_nar .boolean (1 : Int32))).1 3) ≤ (((zs_a z 16 a1 (vp_nar .boolean (1 : Int32))).1 9) + ((zs_a z 16 a1 (vp_nar .boolean (1 : Int32))).1 10)) → zw_WayFinder_enqueue_54 ln post a1 ((((zs_a z 16 a1 (vp_nar .boolean (1 : Int32))).1 9) + ((zs_a z 16 a1 (vp_nar .boolean (1 : Int32))).1 10)) - ((zs_a z 16 a1 (vp_nar .boolean (1 : Int32))).1 3)) (zs_a z 16 a1 (vp_nar .boolean (1 : Int32)))) ∧ (¬ ((zs_a z 16 a1 (vp_nar .boolean (1 : Int32))).1 3) ≤ (((zs_a z 16 a1 (vp_nar .boolean (1 : Int32))).1 9) + ((zs_a z 16 a1 (vp_nar .boolean (1 : Int32))).1 10)) → zw_WayFinder_enqueue_54 ln post a1 (((zs_a z 16 a1 (vp_nar .boolean (1 : Int32))).1 9) + ((zs_a z 16 a1 (vp_nar .boolean (1 : Int32))).1 10)) (zs_a z 16 a1 (vp_nar .boolean (1 : Int32)))))))
set_option maxHeartbeats 4000000 in
set_option maxRecDepth 100000 in
theorem zm_WayFinder_enqueue (l : Launch) (w : zW) (hAp : zq_Ap w) (g : zS) (o : Nat → Int64) {a1 : Int32} {z : zS} {post : zS → Prop} (h : zw_WayFinder_enqueue w.2.2.1 a1 z post) : zq_M l w (zq_A w) zy_WayFinder_enqueue zc_WayFinder_enqueue 3 none (zq_rm 0 0) [.ref (w.2.1 21), .int a1] (z, g, o) (zq_Pv g o post) := by
  refine zq_mk_M (by decide) (by simp [Value.category]) (Nat.le_of_ble_eq_true rfl) hAp (fun x hx hG hR => ?_)
  subst hx
  have hW := zq_wr hR.2.2.1
  refine zr_aload_n hG zd_WayFinder_enqueue_0 rfl rfl ?_
  refine zf_WayFinder_waits hG tk_233 zd_WayFinder_enqueue_1 ?_
  refine zr_iload_n hG zd_WayFinder_enqueue_4 rfl rfl ?_
  obtain ⟨hi, h⟩ := h
  refine zl_26 hG hi zd_WayFinder_enqueue_5 ?_
  refine zr_if_ne hG 66 zd_WayFinder_enqueue_6 (by decide) (fun hc => ?_) (fun hc => ?_)
  · have h := h.1 hc
    exact zr_mask [false, false, false] (zt_WayFinder_enqueue_66 hG hR hAp hW h)
  · have h := h.2 hc
    refine zr_aload_n hG zd_WayFinder_enqueue_9 rfl rfl ?_
    refine zf_WayFinder_waits hG tk_233 zd_WayFinder_enqueue_10 ?_
    refine zr_iload_n hG zd_WayFinder_enqueue_13 rfl rfl ?_
    refine zr_iconst hG (v := (1 : Int32)) zd_WayFinder_enqueue_14 (by decide) ?_
    obtain ⟨hi, h⟩ := h
    refine zu_26 hG hW hi zd_WayFinder_enqueue_15 ?_
    refine zr_aload_n hG zd_WayFinder_enqueue_16 rfl rfl ?_
    refine zf_WayFinder_head hG tk_234 zd_WayFinder_enqueue_17 ?_
    refine zr_aload_n hG zd_WayFinder_enqueue_20 rfl rfl ?_
    refine zf_WayFinder_waiting hG tk_235 zd_WayFinder_enqueue_21 ?_
    refine zr_iadd hG zd_WayFinder_enqueue_24 ?_
    refine zr_istore_n hG [some (.ref (w.2.1 21)), some (.int a1), some (.int (((zs_a z 16 a1 (vp_nar .boolean (1 : Int32))).1 9) + ((zs_a z 16 a1 (vp_nar .boolean (1 : Int32))).1 10)))] zd_WayFinder_enqueue_25 rfl (Nat.le_of_ble_eq_true rfl) rfl ?_
    refine zr_aload_n hG zd_WayFinder_enqueue_26 rfl rfl ?_
    refine zf_WayFinder_queue hG tk_232 zd_WayFinder_enqueue_27 ?_
    refine zr_iload_n hG zd_WayFinder_enqueue_30 rfl rfl ?_
    refine zr_aload_n hG zd_WayFinder_enqueue_31 rfl rfl ?_
    refine zf_WayFinder_grid hG tk_226 zd_WayFinder_enqueue_32 ?_
    refine zf_Grid_cells hG tk_50 zd_WayFinder_enqueue_35 ?_
    refine zr_icmp_ge hG 45 zd_WayFinder_enqueue_38 (by decide) (fun hc => ?_) (fun hc => ?_)
    · have h := h.1 hc
      refine zr_iload_n hG zd_WayFinder_enqueue_45 rfl rfl ?_
      refine zr_aload_n hG zd_WayFinder_enqueue_46 rfl rfl ?_
      refine zf_WayFinder_grid hG tk_226 zd_WayFinder_enqueue_47 ?_
      refine zf_Grid_cells hG tk_50 zd_WayFinder_enqueue_50 ?_
      refine zr_isub hG zd_WayFinder_enqueue_53 ?_
      exact zr_mask [true, true, false] (zt_WayFinder_enqueue_54 hG hR hAp hW h)
    · have h := h.2 hc
      refine zr_iload_n hG zd_WayFinder_enqueue_41 rfl rfl ?_
      refine zr_goto hG 54 zd_WayFinder_enqueue_42 (by decide) ?_
      exact zr_mask [true, true, false] (zt_WayFinder_enqueue_54 hG hR hAp hW h)
def zw_WayFinder_stepCost_13 (ln : Nat → Nat) (post : Int32 → zS → Prop) (u0 : Int32) (z : zS) : Prop := post u0 z
set_option maxHeartbeats 4000000 in
set_option maxRecDepth 100000 in
theorem zt_WayFinder_stepCost_13 {x : zC} {w : zW} {g : zS} {o : Nat → Int64} {post : Int32 → zS → Prop} (hG : zq_G x w "GridRouter$WayFinder" zc_WayFinder_stepCost 2 (zq_rm 0 0)) (hR : zq_R x w zq_0 (some .int) (zq_Pi g o post)) (hAp : zq_Ap w) {u0 : Int32} {z : zS} (h : zw_WayFinder_stepCost_13 w.2.2.1 post u0 z) : zq_W x w 0 0 (z, g, o) 13 [none, none] [.int u0] := by
  exact zr_iret hG hR zd_WayFinder_stepCost_13 ⟨_, _, rfl, rfl, h⟩
def zw_WayFinder_stepCost (ln : Nat → Nat) (a1 : Int32) (z : zS) (post : Int32 → zS → Prop) : Prop := ((¬ a1 = (4 : Int32) → zw_WayFinder_stepCost_13 ln post (1 : Int32) z) ∧ (a1 = (4 : Int32) → zw_WayFinder_stepCost_13 ln post (z.1 8) z))
set_option maxHeartbeats 4000000 in
set_option maxRecDepth 100000 in
theorem zm_WayFinder_stepCost (l : Launch) (w : zW) (hAp : zq_Ap w) (g : zS) (o : Nat → Int64) {a1 : Int32} {z : zS} {post : Int32 → zS → Prop} (h : zw_WayFinder_stepCost w.2.2.1 a1 z post) : zq_M l w zq_0 zy_WayFinder_stepCost zc_WayFinder_stepCost 2 (some .int) (zq_rm 0 0) [.ref (w.2.1 21), .int a1] (z, g, o) (zq_Pi g o post) := by
  refine zq_mk_M (by decide) (by simp [Value.category]) (Nat.le_of_ble_eq_true rfl) hAp (fun x hx hG hR => ?_)
  subst hx
  refine zr_iload_n hG zd_WayFinder_stepCost_0 rfl rfl ?_
  refine zr_iconst hG (v := (4 : Int32)) zd_WayFinder_stepCost_1 (by decide) ?_
  refine zr_icmp_ne hG 12 zd_WayFinder_stepCost_2 (by decide) (fun hc => ?_) (fun hc => ?_)
  · have h := h.1 hc
    refine zr_iconst hG (v := (1 : Int32)) zd_WayFinder_stepCost_12 (by decide) ?_
    exact zr_mask [false, false] (zt_WayFinder_stepCost_13 hG hR hAp h)
  · have h := h.2 hc
    refine zr_aload_n hG zd_WayFinder_stepCost_5 rfl rfl ?_
    refine zf_WayFinder_viaCost hG tk_229 zd_WayFinder_stepCost_6 ?_
    refine zr_goto hG 13 zd_WayFinder_stepCost_9 (by decide) ?_
    exact zr_mask [false, false] (zt_WayFinder_stepCost_13 hG hR hAp h)
def zw_WayFinder_spreadFrom_77 (ln : Nat → Nat) (post : zS → Prop) (k2 : Int32 × Int32 × zS → Prop) (v1 v2 : Int32) (z : zS) : Prop := k2 (v1, (v2 + (1 : Int32)), z)
set_option maxHeartbeats 4000000 in
set_option maxRecDepth 100000 in
theorem zt_WayFinder_spreadFrom_77 {x : zC} {w : zW} {g : zS} {o : Nat → Int64} {post : zS → Prop} (hG : zq_G x w "GridRouter$WayFinder" zc_WayFinder_spreadFrom 5 (zq_rm 1 22)) (hR : zq_R x w (zq_A w) none (zq_Pv g o post)) (hAp : zq_Ap w) (hW : zq_Wr x w) {k2 : Int32 × Int32 × zS → Prop} (hk2 : ∀ b : Int32 × Int32 × zS, k2 b → zq_W x w 0 0 (b.2.2, g, o) 2 [some (.ref (w.2.1 21)), some (.int (b.1)), some (.int (b.2.1)), none, none] []) {v1 v2 : Int32} {z : zS} (h : zw_WayFinder_spreadFrom_77 w.2.2.1 post k2 v1 v2 z) : zq_W x w 0 0 (z, g, o) 77 [some (.ref (w.2.1 21)), some (.int v1), some (.int v2), none, none] [] := by
  refine zr_iinc hG (u := (1 : Int32)) [some (.ref (w.2.1 21)), some (.int v1), some (.int (v2 + (1 : Int32))), none, none] zd_WayFinder_spreadFrom_77 rfl (by decide) (Nat.le_of_ble_eq_true rfl) rfl ?_
  refine zr_goto hG 2 zd_WayFinder_spreadFrom_80 (by decide) ?_
  have h := hk2 _ h
  exact h
def zw_WayFinder_spreadFrom_2 (ln : Nat → Nat) (post : zS → Prop) (k2 : Int32 × Int32 × zS → Prop) : Int32 × Int32 × zS → Prop := fun b => match b with
  | (v1, v2, z) => (((5 : Int32) ≤ v2 → post z) ∧ (¬ (5 : Int32) ≤ v2 → (zw_Grid_next ln v1 v2 z (fun r207 z207 => ((r207 = (-1 : Int32) → zw_WayFinder_spreadFrom_77 ln post k2 v1 v2 z207) ∧ (¬ r207 = (-1 : Int32) → vp_in r207 (ln 13) ∧ (((z207.2 13 r207.toNatClampNeg) = (-1 : Int32) → zw_WayFinder_spreadFrom_77 ln post k2 v1 v2 z207) ∧ (¬ (z207.2 13 r207.toNatClampNeg) = (-1 : Int32) → vp_in v1 (ln 14) ∧ (zw_WayFinder_stepCost ln v2 z207 (fun r208 z208 => vp_in r207 (ln 13) ∧ vp_in r207 (ln 14) ∧ (((z208.2 14 r207.toNatClampNeg) ≤ (((z207.2 14 v1.toNatClampNeg) + r208) + (z208.2 13 r207.toNatClampNeg)) → zw_WayFinder_spreadFrom_77 ln post k2 v1 v2 z208) ∧ (¬ (z208.2 14 r207.toNatClampNeg) ≤ (((z207.2 14 v1.toNatClampNeg) + r208) + (z208.2 13 r207.toNatClampNeg)) → vp_in r207 (ln 14) ∧ (zw_WayFinder_enqueue ln r207 (zs_a z208 14 r207 (((z207.2 14 v1.toNatClampNeg) + r208) + (z208.2 13 r207.toNatClampNeg))) (fun z209 => zw_WayFinder_spreadFrom_77 ln post k2 v1 v2 z209))))))))))))))
set_option maxHeartbeats 4000000 in
set_option maxRecDepth 100000 in
theorem zt_WayFinder_spreadFrom_2 {x : zC} {w : zW} {g : zS} {o : Nat → Int64} {post : zS → Prop} (hG : zq_G x w "GridRouter$WayFinder" zc_WayFinder_spreadFrom 5 (zq_rm 1 22)) (hR : zq_R x w (zq_A w) none (zq_Pv g o post)) (hAp : zq_Ap w) (hW : zq_Wr x w) {v1 v2 : Int32} {z : zS} (h : zq_Lp (zw_WayFinder_spreadFrom_2 w.2.2.1 post) (v1, v2, z)) : zq_W x w 0 0 (z, g, o) 2 [some (.ref (w.2.1 21)), some (.int v1), some (.int v2), none, none] [] := by
  refine zq_Lp_W (WW := fun b => zq_W x w 0 0 (b.2.2, g, o) 2 [some (.ref (w.2.1 21)), some (.int (b.1)), some (.int (b.2.1)), none, none] []) (fun k2 hk2 b h => ?_) h
  obtain ⟨v1, v2, z⟩ := b
  show zq_W x w 0 0 (z, g, o) 2 [some (.ref (w.2.1 21)), some (.int v1), some (.int v2), none, none] []
  refine zr_iload_n hG zd_WayFinder_spreadFrom_2 rfl rfl ?_
  refine zr_iconst hG (v := (5 : Int32)) zd_WayFinder_spreadFrom_3 (by decide) ?_
  refine zr_icmp_ge hG 83 zd_WayFinder_spreadFrom_4 (by decide) (fun hc => ?_) (fun hc => ?_)
  · have h := h.1 hc
    exact zr_vret hG hR zd_WayFinder_spreadFrom_83 ⟨_, rfl, rfl, h⟩
  · have h := h.2 hc
    refine zr_aload_n hG zd_WayFinder_spreadFrom_7 rfl rfl ?_
    refine zf_WayFinder_grid hG tk_226 zd_WayFinder_spreadFrom_8 ?_
    refine zr_iload_n hG zd_WayFinder_spreadFrom_11 rfl rfl ?_
    refine zr_iload_n hG zd_WayFinder_spreadFrom_12 rfl rfl ?_
    refine zr_callV hG zq_F0 (As := [.int v1, .int v2]) (rest := []) (zm_Grid_next (zc_l x) w hAp g o h) 1 rfl rfl rfl zg_WayFinder_104 zdd_Grid_next ⟨rfl, rfl, by decide, by decide⟩ ⟨by decide, by decide⟩ rfl (Nat.le_of_ble_eq_true rfl) zd_WayFinder_spreadFrom_13 rfl ?_
    rintro _ _ ⟨r207, z207, rfl, rfl, h⟩
    refine zr_istore_n hG [some (.ref (w.2.1 21)), some (.int v1), some (.int v2), some (.int r207), none] zd_WayFinder_spreadFrom_16 rfl (Nat.le_of_ble_eq_true rfl) rfl ?_
    refine zr_iload_n hG zd_WayFinder_spreadFrom_17 rfl rfl ?_
    refine zr_iconst hG (v := (-1 : Int32)) zd_WayFinder_spreadFrom_18 (by decide) ?_
    refine zr_icmp_eq hG 77 zd_WayFinder_spreadFrom_19 (by decide) (fun hc => ?_) (fun hc => ?_)
    · have h := h.1 hc
      exact zr_mask [true, true, true, false, false] (zt_WayFinder_spreadFrom_77 hG hR hAp hW hk2 h)
    · have h := h.2 hc
      refine zr_aload_n hG zd_WayFinder_spreadFrom_22 rfl rfl ?_
      refine zf_WayFinder_toll hG tk_230 zd_WayFinder_spreadFrom_23 ?_
      refine zr_iload_n hG zd_WayFinder_spreadFrom_26 rfl rfl ?_
      obtain ⟨hi, h⟩ := h
      refine zl_23 hG hi zd_WayFinder_spreadFrom_27 ?_
      refine zr_iconst hG (v := (-1 : Int32)) zd_WayFinder_spreadFrom_28 (by decide) ?_
      refine zr_icmp_eq hG 77 zd_WayFinder_spreadFrom_29 (by decide) (fun hc => ?_) (fun hc => ?_)
      · have h := h.1 hc
        exact zr_mask [true, true, true, false, false] (zt_WayFinder_spreadFrom_77 hG hR hAp hW hk2 h)
      · have h := h.2 hc
        refine zr_aload_n hG zd_WayFinder_spreadFrom_32 rfl rfl ?_
        refine zf_WayFinder_least hG tk_231 zd_WayFinder_spreadFrom_33 ?_
        refine zr_iload_n hG zd_WayFinder_spreadFrom_36 rfl rfl ?_
        obtain ⟨hi, h⟩ := h
        refine zl_24 hG hi zd_WayFinder_spreadFrom_37 ?_
        refine zr_aload_n hG zd_WayFinder_spreadFrom_38 rfl rfl ?_
        refine zr_iload_n hG zd_WayFinder_spreadFrom_39 rfl rfl ?_
        refine zr_callV hG zq_F0 (As := [.int v2]) (rest := [.int (z207.2 14 v1.toNatClampNeg)]) (zm_WayFinder_stepCost (zc_l x) w hAp g o h) 21 rfl rfl rfl zg_WayFinder_107 zdd_WayFinder_stepCost ⟨rfl, rfl, by decide, by decide⟩ ⟨by decide, by decide⟩ rfl (Nat.le_of_ble_eq_true rfl) zd_WayFinder_spreadFrom_40 rfl ?_
        rintro _ _ ⟨r208, z208, rfl, rfl, h⟩
        refine zr_iadd hG zd_WayFinder_spreadFrom_43 ?_
        refine zr_aload_n hG zd_WayFinder_spreadFrom_44 rfl rfl ?_
        refine zf_WayFinder_toll hG tk_230 zd_WayFinder_spreadFrom_45 ?_
        refine zr_iload_n hG zd_WayFinder_spreadFrom_48 rfl rfl ?_
        obtain ⟨hi, h⟩ := h
        refine zl_23 hG hi zd_WayFinder_spreadFrom_49 ?_
        refine zr_iadd hG zd_WayFinder_spreadFrom_50 ?_
        refine zr_istore hG [some (.ref (w.2.1 21)), some (.int v1), some (.int v2), some (.int r207), some (.int (((z207.2 14 v1.toNatClampNeg) + r208) + (z208.2 13 r207.toNatClampNeg)))] zd_WayFinder_spreadFrom_51 (Nat.le_of_ble_eq_true rfl) rfl ?_
        refine zr_iload hG zd_WayFinder_spreadFrom_53 rfl ?_
        refine zr_aload_n hG zd_WayFinder_spreadFrom_55 rfl rfl ?_
        refine zf_WayFinder_least hG tk_231 zd_WayFinder_spreadFrom_56 ?_
        refine zr_iload_n hG zd_WayFinder_spreadFrom_59 rfl rfl ?_
        obtain ⟨hi, h⟩ := h
        refine zl_24 hG hi zd_WayFinder_spreadFrom_60 ?_
        refine zr_icmp_ge hG 77 zd_WayFinder_spreadFrom_61 (by decide) (fun hc => ?_) (fun hc => ?_)
        · have h := h.1 hc
          exact zr_mask [true, true, true, false, false] (zt_WayFinder_spreadFrom_77 hG hR hAp hW hk2 h)
        · have h := h.2 hc
          refine zr_aload_n hG zd_WayFinder_spreadFrom_64 rfl rfl ?_
          refine zf_WayFinder_least hG tk_231 zd_WayFinder_spreadFrom_65 ?_
          refine zr_iload_n hG zd_WayFinder_spreadFrom_68 rfl rfl ?_
          refine zr_iload hG zd_WayFinder_spreadFrom_69 rfl ?_
          obtain ⟨hi, h⟩ := h
          refine zu_24 hG hW hi zd_WayFinder_spreadFrom_71 ?_
          refine zr_aload_n hG zd_WayFinder_spreadFrom_72 rfl rfl ?_
          refine zr_iload_n hG zd_WayFinder_spreadFrom_73 rfl rfl ?_
          refine zr_callV hG (zq_F1 hW) (As := [.int r207]) (rest := []) (zm_WayFinder_enqueue (zc_l x) w hAp g o h) 21 rfl rfl rfl zg_WayFinder_94 zdd_WayFinder_enqueue ⟨rfl, rfl, by decide, by decide⟩ ⟨by decide, by decide⟩ rfl (Nat.le_of_ble_eq_true rfl) zd_WayFinder_spreadFrom_74 rfl ?_
          rintro _ _ ⟨z209, rfl, rfl, h⟩
          exact zr_mask [true, true, true, false, false] (zt_WayFinder_spreadFrom_77 hG hR hAp hW hk2 h)
def zw_WayFinder_spreadFrom (ln : Nat → Nat) (a1 : Int32) (z : zS) (post : zS → Prop) : Prop := zq_Lp (zw_WayFinder_spreadFrom_2 ln post) (a1, (0 : Int32), z)
set_option maxHeartbeats 4000000 in
set_option maxRecDepth 100000 in
theorem zm_WayFinder_spreadFrom (l : Launch) (w : zW) (hAp : zq_Ap w) (g : zS) (o : Nat → Int64) {a1 : Int32} {z : zS} {post : zS → Prop} (h : zw_WayFinder_spreadFrom w.2.2.1 a1 z post) : zq_M l w (zq_A w) zy_WayFinder_spreadFrom zc_WayFinder_spreadFrom 5 none (zq_rm 1 22) [.ref (w.2.1 21), .int a1] (z, g, o) (zq_Pv g o post) := by
  refine zq_mk_M (by decide) (by simp [Value.category]) (Nat.le_of_ble_eq_true rfl) hAp (fun x hx hG hR => ?_)
  subst hx
  have hW := zq_wr hR.2.2.1
  refine zr_iconst hG (v := (0 : Int32)) zd_WayFinder_spreadFrom_0 (by decide) ?_
  refine zr_istore_n hG [some (.ref (w.2.1 21)), some (.int a1), some (.int (0 : Int32)), none, none] zd_WayFinder_spreadFrom_1 rfl (Nat.le_of_ble_eq_true rfl) rfl ?_
  exact zt_WayFinder_spreadFrom_2 hG hR hAp hW h
def zw_WayFinder_spread_100 (ln : Nat → Nat) (post : zS → Prop) (z : zS) : Prop := post z
set_option maxHeartbeats 4000000 in
set_option maxRecDepth 100000 in
theorem zt_WayFinder_spread_100 {x : zC} {w : zW} {g : zS} {o : Nat → Int64} {post : zS → Prop} (hG : zq_G x w "GridRouter$WayFinder" zc_WayFinder_spread 4 (zq_rm 2 46)) (hR : zq_R x w (zq_A w) none (zq_Pv g o post)) (hAp : zq_Ap w) (hW : zq_Wr x w) {z : zS} (h : zw_WayFinder_spread_100 w.2.2.1 post z) : zq_W x w 0 0 (z, g, o) 100 [none, none, none, none] [] := by
  exact zr_vret hG hR zd_WayFinder_spread_100 ⟨_, rfl, rfl, h⟩
def zw_WayFinder_spread_74 (ln : Nat → Nat) (post : zS → Prop) (k74 : Int32 × Int32 × zS → Prop) : Int32 × Int32 × zS → Prop := fun b => match b with
  | (v2, v3, z) => ((v2 ≤ v3 → zw_WayFinder_spread_100 ln post z) ∧ (¬ v2 ≤ v3 → (((z.1 10) ≤ 0 → zw_WayFinder_spread_100 ln post z) ∧ (¬ (z.1 10) ≤ 0 → (zw_WayFinder_dequeue ln z (fun r205 z205 => (zw_WayFinder_spreadFrom ln r205 z205 (fun z206 => k74 (v2, (v3 + (1 : Int32)), z206)))))))))
set_option maxHeartbeats 4000000 in
set_option maxRecDepth 100000 in
theorem zt_WayFinder_spread_74 {x : zC} {w : zW} {g : zS} {o : Nat → Int64} {post : zS → Prop} (hG : zq_G x w "GridRouter$WayFinder" zc_WayFinder_spread 4 (zq_rm 2 46)) (hR : zq_R x w (zq_A w) none (zq_Pv g o post)) (hAp : zq_Ap w) (hW : zq_Wr x w) {v2 v3 : Int32} {z : zS} (h : zq_Lp (zw_WayFinder_spread_74 w.2.2.1 post) (v2, v3, z)) : zq_W x w 0 0 (z, g, o) 74 [some (.ref (w.2.1 21)), none, some (.int v2), some (.int v3)] [] := by
  refine zq_Lp_W (WW := fun b => zq_W x w 0 0 (b.2.2, g, o) 74 [some (.ref (w.2.1 21)), none, some (.int (b.1)), some (.int (b.2.1))] []) (fun k74 hk74 b h => ?_) h
  obtain ⟨v2, v3, z⟩ := b
  show zq_W x w 0 0 (z, g, o) 74 [some (.ref (w.2.1 21)), none, some (.int v2), some (.int v3)] []
  refine zr_iload_n hG zd_WayFinder_spread_74 rfl rfl ?_
  refine zr_iload_n hG zd_WayFinder_spread_75 rfl rfl ?_
  refine zr_icmp_ge hG 100 zd_WayFinder_spread_76 (by decide) (fun hc => ?_) (fun hc => ?_)
  · have h := h.1 hc
    exact zr_mask [false, false, false, false] (zt_WayFinder_spread_100 hG hR hAp hW h)
  · have h := h.2 hc
    refine zr_aload_n hG zd_WayFinder_spread_79 rfl rfl ?_
    refine zf_WayFinder_waiting hG tk_235 zd_WayFinder_spread_80 ?_
    refine zr_if_le hG 100 zd_WayFinder_spread_83 (by decide) (fun hc => ?_) (fun hc => ?_)
    · have h := h.1 hc
      exact zr_mask [false, false, false, false] (zt_WayFinder_spread_100 hG hR hAp hW h)
    · have h := h.2 hc
      refine zr_aload_n hG zd_WayFinder_spread_86 rfl rfl ?_
      refine zr_aload_n hG zd_WayFinder_spread_87 rfl rfl ?_
      refine zr_callV hG (zq_F1 hW) (As := []) (rest := [.ref (w.2.1 21)]) (zm_WayFinder_dequeue (zc_l x) w hAp g o h) 21 rfl rfl rfl zg_WayFinder_97 zdd_WayFinder_dequeue ⟨rfl, rfl, by decide, by decide⟩ ⟨by decide, by decide⟩ rfl (Nat.le_of_ble_eq_true rfl) zd_WayFinder_spread_88 rfl ?_
      rintro _ _ ⟨r205, z205, rfl, rfl, h⟩
      refine zr_callV hG (zq_F1 hW) (As := [.int r205]) (rest := []) (zm_WayFinder_spreadFrom (zc_l x) w hAp g o h) 21 rfl rfl rfl zg_WayFinder_101 zdd_WayFinder_spreadFrom ⟨rfl, rfl, by decide, by decide⟩ ⟨by decide, by decide⟩ rfl (Nat.le_of_ble_eq_true rfl) zd_WayFinder_spread_91 rfl ?_
      rintro _ _ ⟨z206, rfl, rfl, h⟩
      refine zr_iinc hG (u := (1 : Int32)) [some (.ref (w.2.1 21)), none, some (.int v2), some (.int (v3 + (1 : Int32)))] zd_WayFinder_spread_94 rfl (by decide) (Nat.le_of_ble_eq_true rfl) rfl ?_
      refine zr_goto hG 74 zd_WayFinder_spread_97 (by decide) ?_
      have h := hk74 _ h
      exact h
def zw_WayFinder_spread_2 (ln : Nat → Nat) (post : zS → Prop) (k2 : Int32 × Int32 × zS → Prop) : Int32 × Int32 × zS → Prop := fun b => match b with
  | (v1, v2, z) => (((z.1 3) ≤ v2 → vp_in v1 (ln 14) ∧ (zw_WayFinder_enqueue ln v1 (zs_a (zs_s (zs_s z 9 (0 : Int32)) 10 (0 : Int32)) 14 v1 (0 : Int32)) (fun z204 => zq_Lp (zw_WayFinder_spread_74 ln post) (((z204.1 3) * (z204.1 3)), (0 : Int32), z204)))) ∧ (¬ (z.1 3) ≤ v2 → vp_in v2 (ln 14) ∧ vp_in v2 (ln 16) ∧ k2 (v1, (v2 + (1 : Int32)), (zs_a (zs_a z 14 v2 (1000000 : Int32)) 16 v2 (vp_nar .boolean (0 : Int32))))))
set_option maxHeartbeats 4000000 in
set_option maxRecDepth 100000 in
theorem zt_WayFinder_spread_2 {x : zC} {w : zW} {g : zS} {o : Nat → Int64} {post : zS → Prop} (hG : zq_G x w "GridRouter$WayFinder" zc_WayFinder_spread 4 (zq_rm 2 46)) (hR : zq_R x w (zq_A w) none (zq_Pv g o post)) (hAp : zq_Ap w) (hW : zq_Wr x w) {v1 v2 : Int32} {z : zS} (h : zq_Lp (zw_WayFinder_spread_2 w.2.2.1 post) (v1, v2, z)) : zq_W x w 0 0 (z, g, o) 2 [some (.ref (w.2.1 21)), some (.int v1), some (.int v2), none] [] := by
  refine zq_Lp_W (WW := fun b => zq_W x w 0 0 (b.2.2, g, o) 2 [some (.ref (w.2.1 21)), some (.int (b.1)), some (.int (b.2.1)), none] []) (fun k2 hk2 b h => ?_) h
  obtain ⟨v1, v2, z⟩ := b
  show zq_W x w 0 0 (z, g, o) 2 [some (.ref (w.2.1 21)), some (.int v1), some (.int v2), none] []
  refine zr_iload_n hG zd_WayFinder_spread_2 rfl rfl ?_
  refine zr_aload_n hG zd_WayFinder_spread_3 rfl rfl ?_
  refine zf_WayFinder_grid hG tk_226 zd_WayFinder_spread_4 ?_
  refine zf_Grid_cells hG tk_50 zd_WayFinder_spread_7 ?_
  refine zr_icmp_ge hG 34 zd_WayFinder_spread_10 (by decide) (fun hc => ?_) (fun hc => ?_)
  · have h := h.1 hc
    refine zr_aload_n hG zd_WayFinder_spread_34 rfl rfl ?_
    refine zr_iconst hG (v := (0 : Int32)) zd_WayFinder_spread_35 (by decide) ?_
    refine zp_WayFinder_head hG hW tk_234 zd_WayFinder_spread_36 ?_
    refine zr_aload_n hG zd_WayFinder_spread_39 rfl rfl ?_
    refine zr_iconst hG (v := (0 : Int32)) zd_WayFinder_spread_40 (by decide) ?_
    refine zp_WayFinder_waiting hG hW tk_235 zd_WayFinder_spread_41 ?_
    refine zr_aload_n hG zd_WayFinder_spread_44 rfl rfl ?_
    refine zf_WayFinder_least hG tk_231 zd_WayFinder_spread_45 ?_
    refine zr_iload_n hG zd_WayFinder_spread_48 rfl rfl ?_
    refine zr_iconst hG (v := (0 : Int32)) zd_WayFinder_spread_49 (by decide) ?_
    obtain ⟨hi, h⟩ := h
    refine zu_24 hG hW hi zd_WayFinder_spread_50 ?_
    refine zr_aload_n hG zd_WayFinder_spread_51 rfl rfl ?_
    refine zr_iload_n hG zd_WayFinder_spread_52 rfl rfl ?_
    refine zr_callV hG (zq_F1 hW) (As := [.int v1]) (rest := []) (zm_WayFinder_enqueue (zc_l x) w hAp g o h) 21 rfl rfl rfl zg_WayFinder_94 zdd_WayFinder_enqueue ⟨rfl, rfl, by decide, by decide⟩ ⟨by decide, by decide⟩ rfl (Nat.le_of_ble_eq_true rfl) zd_WayFinder_spread_53 rfl ?_
    rintro _ _ ⟨z204, rfl, rfl, h⟩
    refine zr_aload_n hG zd_WayFinder_spread_56 rfl rfl ?_
    refine zf_WayFinder_grid hG tk_226 zd_WayFinder_spread_57 ?_
    refine zf_Grid_cells hG tk_50 zd_WayFinder_spread_60 ?_
    refine zr_aload_n hG zd_WayFinder_spread_63 rfl rfl ?_
    refine zf_WayFinder_grid hG tk_226 zd_WayFinder_spread_64 ?_
    refine zf_Grid_cells hG tk_50 zd_WayFinder_spread_67 ?_
    refine zr_imul hG zd_WayFinder_spread_70 ?_
    refine zr_istore_n hG [some (.ref (w.2.1 21)), some (.int v1), some (.int ((z204.1 3) * (z204.1 3))), none] zd_WayFinder_spread_71 rfl (Nat.le_of_ble_eq_true rfl) rfl ?_
    refine zr_iconst hG (v := (0 : Int32)) zd_WayFinder_spread_72 (by decide) ?_
    refine zr_istore_n hG [some (.ref (w.2.1 21)), some (.int v1), some (.int ((z204.1 3) * (z204.1 3))), some (.int (0 : Int32))] zd_WayFinder_spread_73 rfl (Nat.le_of_ble_eq_true rfl) rfl ?_
    exact zr_mask [true, false, true, true] (zt_WayFinder_spread_74 hG hR hAp hW h)
  · have h := h.2 hc
    refine zr_aload_n hG zd_WayFinder_spread_13 rfl rfl ?_
    refine zf_WayFinder_least hG tk_231 zd_WayFinder_spread_14 ?_
    refine zr_iload_n hG zd_WayFinder_spread_17 rfl rfl ?_
    refine zr_ldc hG (v := 1000000) tk_535 zd_WayFinder_spread_18 ?_
    obtain ⟨hi, h⟩ := h
    refine zu_24 hG hW hi zd_WayFinder_spread_20 ?_
    refine zr_aload_n hG zd_WayFinder_spread_21 rfl rfl ?_
    refine zf_WayFinder_waits hG tk_233 zd_WayFinder_spread_22 ?_
    refine zr_iload_n hG zd_WayFinder_spread_25 rfl rfl ?_
    refine zr_iconst hG (v := (0 : Int32)) zd_WayFinder_spread_26 (by decide) ?_
    obtain ⟨hi, h⟩ := h
    refine zu_26 hG hW hi zd_WayFinder_spread_27 ?_
    refine zr_iinc hG (u := (1 : Int32)) [some (.ref (w.2.1 21)), some (.int v1), some (.int (v2 + (1 : Int32))), none] zd_WayFinder_spread_28 rfl (by decide) (Nat.le_of_ble_eq_true rfl) rfl ?_
    refine zr_goto hG 2 zd_WayFinder_spread_31 (by decide) ?_
    have h := hk2 _ h
    exact h
def zw_WayFinder_spread (ln : Nat → Nat) (a1 : Int32) (z : zS) (post : zS → Prop) : Prop := zq_Lp (zw_WayFinder_spread_2 ln post) (a1, (0 : Int32), z)
set_option maxHeartbeats 4000000 in
set_option maxRecDepth 100000 in
theorem zm_WayFinder_spread (l : Launch) (w : zW) (hAp : zq_Ap w) (g : zS) (o : Nat → Int64) {a1 : Int32} {z : zS} {post : zS → Prop} (h : zw_WayFinder_spread w.2.2.1 a1 z post) : zq_M l w (zq_A w) zy_WayFinder_spread zc_WayFinder_spread 4 none (zq_rm 2 46) [.ref (w.2.1 21), .int a1] (z, g, o) (zq_Pv g o post) := by
  refine zq_mk_M (by decide) (by simp [Value.category]) (Nat.le_of_ble_eq_true rfl) hAp (fun x hx hG hR => ?_)
  subst hx
  have hW := zq_wr hR.2.2.1
  refine zr_iconst hG (v := (0 : Int32)) zd_WayFinder_spread_0 (by decide) ?_
  refine zr_istore_n hG [some (.ref (w.2.1 21)), some (.int a1), some (.int (0 : Int32)), none] zd_WayFinder_spread_1 rfl (Nat.le_of_ble_eq_true rfl) rfl ?_
  exact zt_WayFinder_spread_2 hG hR hAp hW h
def zw_WayFinder_predecessor_52 (ln : Nat → Nat) (post : Int32 → zS → Prop) (k2 : Int32 × Int32 × zS → Prop) (v1 v2 : Int32) (z : zS) : Prop := k2 (v1, (v2 + (1 : Int32)), z)
set_option maxHeartbeats 4000000 in
set_option maxRecDepth 100000 in
theorem zt_WayFinder_predecessor_52 {x : zC} {w : zW} {g : zS} {o : Nat → Int64} {post : Int32 → zS → Prop} (hG : zq_G x w "GridRouter$WayFinder" zc_WayFinder_predecessor 4 (zq_rm 1 22)) (hR : zq_R x w zq_0 (some .int) (zq_Pi g o post)) (hAp : zq_Ap w) {k2 : Int32 × Int32 × zS → Prop} (hk2 : ∀ b : Int32 × Int32 × zS, k2 b → zq_W x w 0 0 (b.2.2, g, o) 2 [some (.ref (w.2.1 21)), some (.int (b.1)), some (.int (b.2.1)), none] []) {v1 v2 : Int32} {z : zS} (h : zw_WayFinder_predecessor_52 w.2.2.1 post k2 v1 v2 z) : zq_W x w 0 0 (z, g, o) 52 [some (.ref (w.2.1 21)), some (.int v1), some (.int v2), none] [] := by
  refine zr_iinc hG (u := (1 : Int32)) [some (.ref (w.2.1 21)), some (.int v1), some (.int (v2 + (1 : Int32))), none] zd_WayFinder_predecessor_52 rfl (by decide) (Nat.le_of_ble_eq_true rfl) rfl ?_
  refine zr_goto hG 2 zd_WayFinder_predecessor_55 (by decide) ?_
  have h := hk2 _ h
  exact h
def zw_WayFinder_predecessor_2 (ln : Nat → Nat) (post : Int32 → zS → Prop) (k2 : Int32 × Int32 × zS → Prop) : Int32 × Int32 × zS → Prop := fun b => match b with
  | (v1, v2, z) => (((5 : Int32) ≤ v2 → post v1 z) ∧ (¬ (5 : Int32) ≤ v2 → (zw_Grid_next ln v1 v2 z (fun r211 z211 => ((r211 = (-1 : Int32) → zw_WayFinder_predecessor_52 ln post k2 v1 v2 z211) ∧ (¬ r211 = (-1 : Int32) → vp_in r211 (ln 14) ∧ (zw_WayFinder_stepCost ln v2 z211 (fun r212 z212 => vp_in v1 (ln 13) ∧ vp_in v1 (ln 14) ∧ ((¬ (((z211.2 14 r211.toNatClampNeg) + r212) + (z212.2 13 v1.toNatClampNeg)) = (z212.2 14 v1.toNatClampNeg) → zw_WayFinder_predecessor_52 ln post k2 v1 v2 z212) ∧ ((((z211.2 14 r211.toNatClampNeg) + r212) + (z212.2 13 v1.toNatClampNeg)) = (z212.2 14 v1.toNatClampNeg) → post r211 z212))))))))))
set_option maxHeartbeats 4000000 in
set_option maxRecDepth 100000 in
theorem zt_WayFinder_predecessor_2 {x : zC} {w : zW} {g : zS} {o : Nat → Int64} {post : Int32 → zS → Prop} (hG : zq_G x w "GridRouter$WayFinder" zc_WayFinder_predecessor 4 (zq_rm 1 22)) (hR : zq_R x w zq_0 (some .int) (zq_Pi g o post)) (hAp : zq_Ap w) {v1 v2 : Int32} {z : zS} (h : zq_Lp (zw_WayFinder_predecessor_2 w.2.2.1 post) (v1, v2, z)) : zq_W x w 0 0 (z, g, o) 2 [some (.ref (w.2.1 21)), some (.int v1), some (.int v2), none] [] := by
  refine zq_Lp_W (WW := fun b => zq_W x w 0 0 (b.2.2, g, o) 2 [some (.ref (w.2.1 21)), some (.int (b.1)), some (.int (b.2.1)), none] []) (fun k2 hk2 b h => ?_) h
  obtain ⟨v1, v2, z⟩ := b
  show zq_W x w 0 0 (z, g, o) 2 [some (.ref (w.2.1 21)), some (.int v1), some (.int v2), none] []
  refine zr_iload_n hG zd_WayFinder_predecessor_2 rfl rfl ?_
  refine zr_iconst hG (v := (5 : Int32)) zd_WayFinder_predecessor_3 (by decide) ?_
  refine zr_icmp_ge hG 58 zd_WayFinder_predecessor_4 (by decide) (fun hc => ?_) (fun hc => ?_)
  · have h := h.1 hc
    refine zr_iload_n hG zd_WayFinder_predecessor_58 rfl rfl ?_
    exact zr_iret hG hR zd_WayFinder_predecessor_59 ⟨_, _, rfl, rfl, h⟩
  · have h := h.2 hc
    refine zr_aload_n hG zd_WayFinder_predecessor_7 rfl rfl ?_
    refine zf_WayFinder_grid hG tk_226 zd_WayFinder_predecessor_8 ?_
    refine zr_iload_n hG zd_WayFinder_predecessor_11 rfl rfl ?_
    refine zr_iload_n hG zd_WayFinder_predecessor_12 rfl rfl ?_
    refine zr_callV hG zq_F0 (As := [.int v1, .int v2]) (rest := []) (zm_Grid_next (zc_l x) w hAp g o h) 1 rfl rfl rfl zg_WayFinder_104 zdd_Grid_next ⟨rfl, rfl, by decide, by decide⟩ ⟨by decide, by decide⟩ rfl (Nat.le_of_ble_eq_true rfl) zd_WayFinder_predecessor_13 rfl ?_
    rintro _ _ ⟨r211, z211, rfl, rfl, h⟩
    refine zr_istore_n hG [some (.ref (w.2.1 21)), some (.int v1), some (.int v2), some (.int r211)] zd_WayFinder_predecessor_16 rfl (Nat.le_of_ble_eq_true rfl) rfl ?_
    refine zr_iload_n hG zd_WayFinder_predecessor_17 rfl rfl ?_
    refine zr_iconst hG (v := (-1 : Int32)) zd_WayFinder_predecessor_18 (by decide) ?_
    refine zr_icmp_eq hG 52 zd_WayFinder_predecessor_19 (by decide) (fun hc => ?_) (fun hc => ?_)
    · have h := h.1 hc
      exact zr_mask [true, true, true, false] (zt_WayFinder_predecessor_52 hG hR hAp hk2 h)
    · have h := h.2 hc
      refine zr_aload_n hG zd_WayFinder_predecessor_22 rfl rfl ?_
      refine zf_WayFinder_least hG tk_231 zd_WayFinder_predecessor_23 ?_
      refine zr_iload_n hG zd_WayFinder_predecessor_26 rfl rfl ?_
      obtain ⟨hi, h⟩ := h
      refine zl_24 hG hi zd_WayFinder_predecessor_27 ?_
      refine zr_aload_n hG zd_WayFinder_predecessor_28 rfl rfl ?_
      refine zr_iload_n hG zd_WayFinder_predecessor_29 rfl rfl ?_
      refine zr_callV hG zq_F0 (As := [.int v2]) (rest := [.int (z211.2 14 r211.toNatClampNeg)]) (zm_WayFinder_stepCost (zc_l x) w hAp g o h) 21 rfl rfl rfl zg_WayFinder_107 zdd_WayFinder_stepCost ⟨rfl, rfl, by decide, by decide⟩ ⟨by decide, by decide⟩ rfl (Nat.le_of_ble_eq_true rfl) zd_WayFinder_predecessor_30 rfl ?_
      rintro _ _ ⟨r212, z212, rfl, rfl, h⟩
      refine zr_iadd hG zd_WayFinder_predecessor_33 ?_
      refine zr_aload_n hG zd_WayFinder_predecessor_34 rfl rfl ?_
      refine zf_WayFinder_toll hG tk_230 zd_WayFinder_predecessor_35 ?_
      refine zr_iload_n hG zd_WayFinder_predecessor_38 rfl rfl ?_
      obtain ⟨hi, h⟩ := h
      refine zl_23 hG hi zd_WayFinder_predecessor_39 ?_
      refine zr_iadd hG zd_WayFinder_predecessor_40 ?_
      refine zr_aload_n hG zd_WayFinder_predecessor_41 rfl rfl ?_
      refine zf_WayFinder_least hG tk_231 zd_WayFinder_predecessor_42 ?_
      refine zr_iload_n hG zd_WayFinder_predecessor_45 rfl rfl ?_
      obtain ⟨hi, h⟩ := h
      refine zl_24 hG hi zd_WayFinder_predecessor_46 ?_
      refine zr_icmp_ne hG 52 zd_WayFinder_predecessor_47 (by decide) (fun hc => ?_) (fun hc => ?_)
      · have h := h.1 hc
        exact zr_mask [true, true, true, false] (zt_WayFinder_predecessor_52 hG hR hAp hk2 h)
      · have h := h.2 hc
        refine zr_iload_n hG zd_WayFinder_predecessor_50 rfl rfl ?_
        exact zr_iret hG hR zd_WayFinder_predecessor_51 ⟨_, _, rfl, rfl, h⟩
def zw_WayFinder_predecessor (ln : Nat → Nat) (a1 : Int32) (z : zS) (post : Int32 → zS → Prop) : Prop := zq_Lp (zw_WayFinder_predecessor_2 ln post) (a1, (0 : Int32), z)
set_option maxHeartbeats 4000000 in
set_option maxRecDepth 100000 in
theorem zm_WayFinder_predecessor (l : Launch) (w : zW) (hAp : zq_Ap w) (g : zS) (o : Nat → Int64) {a1 : Int32} {z : zS} {post : Int32 → zS → Prop} (h : zw_WayFinder_predecessor w.2.2.1 a1 z post) : zq_M l w zq_0 zy_WayFinder_predecessor zc_WayFinder_predecessor 4 (some .int) (zq_rm 1 22) [.ref (w.2.1 21), .int a1] (z, g, o) (zq_Pi g o post) := by
  refine zq_mk_M (by decide) (by simp [Value.category]) (Nat.le_of_ble_eq_true rfl) hAp (fun x hx hG hR => ?_)
  subst hx
  refine zr_iconst hG (v := (0 : Int32)) zd_WayFinder_predecessor_0 (by decide) ?_
  refine zr_istore_n hG [some (.ref (w.2.1 21)), some (.int a1), some (.int (0 : Int32)), none] zd_WayFinder_predecessor_1 rfl (Nat.le_of_ble_eq_true rfl) rfl ?_
  exact zt_WayFinder_predecessor_2 hG hR hAp h
