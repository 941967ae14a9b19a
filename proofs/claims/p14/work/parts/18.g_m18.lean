def zw_Grid_cellAt (ln : Nat → Nat) (a1 a2 a3 : Int32) (z : zS) (post : Int32 → zS → Prop) : Prop := post (((a1 * (z.1 2)) + (a3 * (z.1 0))) + a2) z
set_option maxHeartbeats 4000000 in
set_option maxRecDepth 100000 in
theorem zm_Grid_cellAt (l : Launch) (w : zW) (hAp : zq_Ap w) (g : zS) (o : Nat → Int64) {a1 a2 a3 : Int32} {z : zS} {post : Int32 → zS → Prop} (h : zw_Grid_cellAt w.2.2.1 a1 a2 a3 z post) : zq_M l w zq_0 zy_Grid_cellAt zc_Grid_cellAt 4 (some .int) (zq_rm 0 0) [.ref (w.2.1 1), .int a1, .int a2, .int a3] (z, g, o) (zq_Pi g o post) := by
  refine zq_mk_M (by decide) (by simp [Value.category]) (Nat.le_of_ble_eq_true rfl) hAp (fun x hx hG hR => ?_)
  subst hx
  refine zr_iload_n hG zd_Grid_cellAt_0 rfl rfl ?_
  refine zr_aload_n hG zd_Grid_cellAt_1 rfl rfl ?_
  refine zf_Grid_area hG tk_42 zd_Grid_cellAt_2 ?_
  refine zr_imul hG zd_Grid_cellAt_5 ?_
  refine zr_iload_n hG zd_Grid_cellAt_6 rfl rfl ?_
  refine zr_aload_n hG zd_Grid_cellAt_7 rfl rfl ?_
  refine zf_Grid_width hG tk_39 zd_Grid_cellAt_8 ?_
  refine zr_imul hG zd_Grid_cellAt_11 ?_
  refine zr_iadd hG zd_Grid_cellAt_12 ?_
  refine zr_iload_n hG zd_Grid_cellAt_13 rfl rfl ?_
  refine zr_iadd hG zd_Grid_cellAt_14 ?_
  exact zr_iret hG hR zd_Grid_cellAt_15 ⟨_, _, rfl, rfl, h⟩
def zw_Grid_hasPlace_29 (ln : Nat → Nat) (post : Int32 → zS → Prop) (u0 : Int32) (z : zS) : Prop := (narrow .boolean (.int u0) = .int u0 ∧ post u0 z)
set_option maxHeartbeats 4000000 in
set_option maxRecDepth 100000 in
theorem zt_Grid_hasPlace_29 {x : zC} {w : zW} {g : zS} {o : Nat → Int64} {post : Int32 → zS → Prop} (hG : zq_G x w "GridRouter$Grid" zc_Grid_hasPlace 3 (zq_rm 0 0)) (hR : zq_R x w zq_0 (some .boolean) (zq_Pi g o post)) (hAp : zq_Ap w) {u0 : Int32} {z : zS} (h : zw_Grid_hasPlace_29 w.2.2.1 post u0 z) : zq_W x w 0 0 (z, g, o) 29 [none, none, none] [.int u0] := by
  obtain ⟨hn, h⟩ := h
  exact zr_zret hG hR zd_Grid_hasPlace_29 hn ⟨_, _, rfl, rfl, h⟩
def zw_Grid_hasPlace_28 (ln : Nat → Nat) (post : Int32 → zS → Prop) (z : zS) : Prop := zw_Grid_hasPlace_29 ln post (0 : Int32) z
set_option maxHeartbeats 4000000 in
set_option maxRecDepth 100000 in
theorem zt_Grid_hasPlace_28 {x : zC} {w : zW} {g : zS} {o : Nat → Int64} {post : Int32 → zS → Prop} (hG : zq_G x w "GridRouter$Grid" zc_Grid_hasPlace 3 (zq_rm 0 0)) (hR : zq_R x w zq_0 (some .boolean) (zq_Pi g o post)) (hAp : zq_Ap w) {z : zS} (h : zw_Grid_hasPlace_28 w.2.2.1 post z) : zq_W x w 0 0 (z, g, o) 28 [none, none, none] [] := by
  refine zr_iconst hG (v := (0 : Int32)) zd_Grid_hasPlace_28 (by decide) ?_
  exact zt_Grid_hasPlace_29 hG hR hAp h
def zw_Grid_hasPlace (ln : Nat → Nat) (a1 a2 : Int32) (z : zS) (post : Int32 → zS → Prop) : Prop := ((a1 < 0 → zw_Grid_hasPlace_28 ln post z) ∧ (¬ a1 < 0 → (((z.1 0) ≤ a1 → zw_Grid_hasPlace_28 ln post z) ∧ (¬ (z.1 0) ≤ a1 → ((a2 < 0 → zw_Grid_hasPlace_28 ln post z) ∧ (¬ a2 < 0 → (((z.1 1) ≤ a2 → zw_Grid_hasPlace_28 ln post z) ∧ (¬ (z.1 1) ≤ a2 → zw_Grid_hasPlace_29 ln post (1 : Int32) z))))))))
set_option maxHeartbeats 4000000 in
set_option maxRecDepth 100000 in
theorem zm_Grid_hasPlace (l : Launch) (w : zW) (hAp : zq_Ap w) (g : zS) (o : Nat → Int64) {a1 a2 : Int32} {z : zS} {post : Int32 → zS → Prop} (h : zw_Grid_hasPlace w.2.2.1 a1 a2 z post) : zq_M l w zq_0 zy_Grid_hasPlace zc_Grid_hasPlace 3 (some .boolean) (zq_rm 0 0) [.ref (w.2.1 1), .int a1, .int a2] (z, g, o) (zq_Pi g o post) := by
  refine zq_mk_M (by decide) (by simp [Value.category]) (Nat.le_of_ble_eq_true rfl) hAp (fun x hx hG hR => ?_)
  subst hx
  refine zr_iload_n hG zd_Grid_hasPlace_0 rfl rfl ?_
  refine zr_if_lt hG 28 zd_Grid_hasPlace_1 (by decide) (fun hc => ?_) (fun hc => ?_)
  · have h := h.1 hc
    exact zr_mask [false, false, false] (zt_Grid_hasPlace_28 hG hR hAp h)
  · have h := h.2 hc
    refine zr_iload_n hG zd_Grid_hasPlace_4 rfl rfl ?_
    refine zr_aload_n hG zd_Grid_hasPlace_5 rfl rfl ?_
    refine zf_Grid_width hG tk_39 zd_Grid_hasPlace_6 ?_
    refine zr_icmp_ge hG 28 zd_Grid_hasPlace_9 (by decide) (fun hc => ?_) (fun hc => ?_)
    · have h := h.1 hc
      exact zr_mask [false, false, false] (zt_Grid_hasPlace_28 hG hR hAp h)
    · have h := h.2 hc
      refine zr_iload_n hG zd_Grid_hasPlace_12 rfl rfl ?_
      refine zr_if_lt hG 28 zd_Grid_hasPlace_13 (by decide) (fun hc => ?_) (fun hc => ?_)
      · have h := h.1 hc
        exact zr_mask [false, false, false] (zt_Grid_hasPlace_28 hG hR hAp h)
      · have h := h.2 hc
        refine zr_iload_n hG zd_Grid_hasPlace_16 rfl rfl ?_
        refine zr_aload_n hG zd_Grid_hasPlace_17 rfl rfl ?_
        refine zf_Grid_height hG tk_41 zd_Grid_hasPlace_18 ?_
        refine zr_icmp_ge hG 28 zd_Grid_hasPlace_21 (by decide) (fun hc => ?_) (fun hc => ?_)
        · have h := h.1 hc
          exact zr_mask [false, false, false] (zt_Grid_hasPlace_28 hG hR hAp h)
        · have h := h.2 hc
          refine zr_iconst hG (v := (1 : Int32)) zd_Grid_hasPlace_24 (by decide) ?_
          refine zr_goto hG 29 zd_Grid_hasPlace_25 (by decide) ?_
          exact zr_mask [false, false, false] (zt_Grid_hasPlace_29 hG hR hAp h)
def zw_Grid_hasCell_23 (ln : Nat → Nat) (post : Int32 → zS → Prop) (u0 : Int32) (z : zS) : Prop := (narrow .boolean (.int u0) = .int u0 ∧ post u0 z)
set_option maxHeartbeats 4000000 in
set_option maxRecDepth 100000 in
theorem zt_Grid_hasCell_23 {x : zC} {w : zW} {g : zS} {o : Nat → Int64} {post : Int32 → zS → Prop} (hG : zq_G x w "GridRouter$Grid" zc_Grid_hasCell 4 (zq_rm 1 22)) (hR : zq_R x w zq_0 (some .boolean) (zq_Pi g o post)) (hAp : zq_Ap w) {u0 : Int32} {z : zS} (h : zw_Grid_hasCell_23 w.2.2.1 post u0 z) : zq_W x w 0 0 (z, g, o) 23 [none, none, none, none] [.int u0] := by
  obtain ⟨hn, h⟩ := h
  exact zr_zret hG hR zd_Grid_hasCell_23 hn ⟨_, _, rfl, rfl, h⟩
def zw_Grid_hasCell_22 (ln : Nat → Nat) (post : Int32 → zS → Prop) (z : zS) : Prop := zw_Grid_hasCell_23 ln post (0 : Int32) z
set_option maxHeartbeats 4000000 in
set_option maxRecDepth 100000 in
theorem zt_Grid_hasCell_22 {x : zC} {w : zW} {g : zS} {o : Nat → Int64} {post : Int32 → zS → Prop} (hG : zq_G x w "GridRouter$Grid" zc_Grid_hasCell 4 (zq_rm 1 22)) (hR : zq_R x w zq_0 (some .boolean) (zq_Pi g o post)) (hAp : zq_Ap w) {z : zS} (h : zw_Grid_hasCell_22 w.2.2.1 post z) : zq_W x w 0 0 (z, g, o) 22 [none, none, none, none] [] := by
  refine zr_iconst hG (v := (0 : Int32)) zd_Grid_hasCell_22 (by decide) ?_
  exact zt_Grid_hasCell_23 hG hR hAp h
def zw_Grid_hasCell (ln : Nat → Nat) (a1 a2 a3 : Int32) (z : zS) (post : Int32 → zS → Prop) : Prop := ((a1 < 0 → zw_Grid_hasCell_22 ln post z) ∧ (¬ a1 < 0 → (((2 : Int32) ≤ a1 → zw_Grid_hasCell_22 ln post z) ∧ (¬ (2 : Int32) ≤ a1 → (zw_Grid_hasPlace ln a2 a3 z (fun r151 z151 => ((r151 = 0 → zw_Grid_hasCell_22 ln post z151) ∧ (¬ r151 = 0 → zw_Grid_hasCell_23 ln post (1 : Int32) z151))))))))
set_option maxHeartbeats 4000000 in
set_option maxRecDepth 100000 in
theorem zm_Grid_hasCell (l : Launch) (w : zW) (hAp : zq_Ap w) (g : zS) (o : Nat → Int64) {a1 a2 a3 : Int32} {z : zS} {post : Int32 → zS → Prop} (h : zw_Grid_hasCell w.2.2.1 a1 a2 a3 z post) : zq_M l w zq_0 zy_Grid_hasCell zc_Grid_hasCell 4 (some .boolean) (zq_rm 1 22) [.ref (w.2.1 1), .int a1, .int a2, .int a3] (z, g, o) (zq_Pi g o post) := by
  refine zq_mk_M (by decide) (by simp [Value.category]) (Nat.le_of_ble_eq_true rfl) hAp (fun x hx hG hR => ?_)
  subst hx
  refine zr_iload_n hG zd_Grid_hasCell_0 rfl rfl ?_
  refine zr_if_lt hG 22 zd_Grid_hasCell_1 (by decide) (fun hc => ?_) (fun hc => ?_)
  · have h := h.1 hc
    exact zr_mask [false, false, false, false] (zt_Grid_hasCell_22 hG hR hAp h)
  · have h := h.2 hc
    refine zr_iload_n hG zd_Grid_hasCell_4 rfl rfl ?_
    refine zr_iconst hG (v := (2 : Int32)) zd_Grid_hasCell_5 (by decide) ?_
    refine zr_icmp_ge hG 22 zd_Grid_hasCell_6 (by decide) (fun hc => ?_) (fun hc => ?_)
    · have h := h.1 hc
      exact zr_mask [false, false, false, false] (zt_Grid_hasCell_22 hG hR hAp h)
    · have h := h.2 hc
      refine zr_aload_n hG zd_Grid_hasCell_9 rfl rfl ?_
      refine zr_iload_n hG zd_Grid_hasCell_10 rfl rfl ?_
      refine zr_iload_n hG zd_Grid_hasCell_11 rfl rfl ?_
      refine zr_callV hG zq_F0 (As := [.int a2, .int a3]) (rest := []) (zm_Grid_hasPlace (zc_l x) w hAp g o h) 1 rfl rfl rfl zg_Grid_38 zdd_Grid_hasPlace ⟨rfl, rfl, by decide, by decide⟩ ⟨by decide, by decide⟩ rfl (Nat.le_of_ble_eq_true rfl) zd_Grid_hasCell_12 rfl ?_
      rintro _ _ ⟨r151, z151, rfl, rfl, h⟩
      refine zr_if_eq hG 22 zd_Grid_hasCell_15 (by decide) (fun hc => ?_) (fun hc => ?_)
      · have h := h.1 hc
        exact zr_mask [false, false, false, false] (zt_Grid_hasCell_22 hG hR hAp h)
      · have h := h.2 hc
        refine zr_iconst hG (v := (1 : Int32)) zd_Grid_hasCell_18 (by decide) ?_
        refine zr_goto hG 23 zd_Grid_hasCell_19 (by decide) ?_
        exact zr_mask [false, false, false, false] (zt_Grid_hasCell_23 hG hR hAp h)
def zw_Gr_block_86 (ln : Nat → Nat) (post : Int32 → zS → Prop) (v4 u0 u1 : Int32) (z : zS) : Prop := vp_in u1 (ln 8) ∧ vp_in v4 (ln 8) ∧ (narrow .boolean (.int ((zs_a z 8 u1 (vp_nar .boolean u0)).2 8 v4.toNatClampNeg)) = .int ((zs_a z 8 u1 (vp_nar .boolean u0)).2 8 v4.toNatClampNeg) ∧ post ((zs_a z 8 u1 (vp_nar .boolean u0)).2 8 v4.toNatClampNeg) (zs_a z 8 u1 (vp_nar .boolean u0)))
set_option maxHeartbeats 4000000 in
set_option maxRecDepth 100000 in
theorem zt_Gr_block_86 {x : zC} {w : zW} {g : zS} {o : Nat → Int64} {post : Int32 → zS → Prop} (hG : zq_G x w "GridRouter" zc_Gr_block 5 (zq_rm 6 110)) (hR : zq_R x w (zq_A w) (some .boolean) (zq_Pi g o post)) (hAp : zq_Ap w) (hW : zq_Wr x w) {v4 u0 u1 : Int32} {z : zS} (h : zw_Gr_block_86 w.2.2.1 post v4 u0 u1 z) : zq_W x w 0 0 (z, g, o) 86 [some (.ref (w.2.1 0)), none, none, none, some (.int v4)] [.int u0, .int u1, .ref (w.2.1 13)] := by
  obtain ⟨hi, h⟩ := h
  refine zu_13 hG hW hi zd_Gr_block_86 ?_
  refine zr_aload_n hG zd_Gr_block_87 rfl rfl ?_
  refine zf_Gr_rules hG tk_302 zd_Gr_block_88 ?_
  refine zf_Rules_blocked hG tk_150 zd_Gr_block_91 ?_
  refine zr_iload hG zd_Gr_block_94 rfl ?_
  obtain ⟨hi, h⟩ := h
  refine zl_13 hG hi zd_Gr_block_96 ?_
  obtain ⟨hn, h⟩ := h
  exact zr_zret hG hR zd_Gr_block_97 hn ⟨_, _, rfl, rfl, h⟩
def zw_Gr_block (ln : Nat → Nat) (a1 a2 a3 : Int32) (z : zS) (post : Int32 → zS → Prop) : Prop := (zw_Grid_hasCell ln a1 a2 a3 z (fun r1 z1 => ((¬ r1 = 0 → (zw_Grid_cellAt ln a1 a2 a3 z1 (fun r2 z2 => vp_in r2 (ln 5) ∧ (((z2.2 5 r2.toNatClampNeg) = (-1 : Int32) → vp_in r2 (ln 8) ∧ ((¬ (z2.2 8 r2.toNatClampNeg) = 0 → zw_Gr_block_86 ln post r2 (0 : Int32) r2 z2) ∧ ((z2.2 8 r2.toNatClampNeg) = 0 → zw_Gr_block_86 ln post r2 (1 : Int32) r2 z2))) ∧ (¬ (z2.2 5 r2.toNatClampNeg) = (-1 : Int32) → False))))) ∧ (r1 = 0 → False))))
set_option maxHeartbeats 4000000 in
set_option maxRecDepth 100000 in
theorem zm_Gr_block (l : Launch) (w : zW) (hAp : zq_Ap w) (g : zS) (o : Nat → Int64) {a1 a2 a3 : Int32} {z : zS} {post : Int32 → zS → Prop} (h : zw_Gr_block w.2.2.1 a1 a2 a3 z post) : zq_M l w (zq_A w) zy_Gr_block zc_Gr_block 5 (some .boolean) (zq_rm 6 110) [.ref (w.2.1 0), .int a1, .int a2, .int a3] (z, g, o) (zq_Pi g o post) := by
  refine zq_mk_M (by decide) (by simp [Value.category]) (Nat.le_of_ble_eq_true rfl) hAp (fun x hx hG hR => ?_)
  subst hx
  have hW := zq_wr hR.2.2.1
  have h : (zw_Grid_hasCell w.2.2.1 a1 a2 a3 z (fun r1 z1 => ((¬ r1 = 0 → (zw_Grid_cellAt w.2.2.1 a1 a2 a3 z1 (fun r2 z2 => vp_in r2 (w.2.2.1 5) ∧ (((z2.2 5 r2.toNatClampNeg) = (-1 : Int32) → vp_in r2 (w.2.2.1 8) ∧ ((¬ (z2.2 8 r2.toNatClampNeg) = 0 → zw_Gr_block_86 w.2.2.1 post r2 (0 : Int32) r2 z2) ∧ ((z2.2 8 r2.toNatClampNeg) = 0 → zw_Gr_block_86 w.2.2.1 post r2 (1 : Int32) r2 z2))) ∧ (¬ (z2.2 5 r2.toNatClampNeg) = (-1 : Int32) → False))))) ∧ (r1 = 0 → False)))) := h
  refine zr_aload_n hG zd_Gr_block_0 rfl rfl ?_
  refine zf_Gr_grid hG tk_299 zd_Gr_block_1 ?_
  refine zr_iload_n hG zd_Gr_block_4 rfl rfl ?_
  refine zr_iload_n hG zd_Gr_block_5 rfl rfl ?_
  refine zr_iload_n hG zd_Gr_block_6 rfl rfl ?_
  refine zr_callV hG zq_F0 (As := [.int a1, .int a2, .int a3]) (rest := []) (zm_Grid_hasCell (zc_l x) w hAp g o h) 1 rfl rfl rfl zg_Gr_72 zdd_Grid_hasCell ⟨rfl, rfl, by decide, by decide⟩ ⟨by decide, by decide⟩ rfl (Nat.le_of_ble_eq_true rfl) zd_Gr_block_7 rfl ?_
  rintro _ _ ⟨r1, z1, rfl, rfl, h⟩
  refine zr_if_ne hG 23 zd_Gr_block_10 (by decide) (fun hc => ?_) (fun hc => ?_)
  · have h := h.1 hc
    refine zr_aload_n hG zd_Gr_block_23 rfl rfl ?_
    refine zf_Gr_grid hG tk_299 zd_Gr_block_24 ?_
    refine zr_iload_n hG zd_Gr_block_27 rfl rfl ?_
    refine zr_iload_n hG zd_Gr_block_28 rfl rfl ?_
    refine zr_iload_n hG zd_Gr_block_29 rfl rfl ?_
    refine zr_callV hG zq_F0 (As := [.int a1, .int a2, .int a3]) (rest := []) (zm_Grid_cellAt (zc_l x) w hAp g o h) 1 rfl rfl rfl zg_Gr_83 zdd_Grid_cellAt ⟨rfl, rfl, by decide, by decide⟩ ⟨by decide, by decide⟩ rfl (Nat.le_of_ble_eq_true rfl) zd_Gr_block_30 rfl ?_
    rintro _ _ ⟨r2, z2, rfl, rfl, h⟩
    refine zr_istore hG [some (.ref (w.2.1 0)), some (.int a1), some (.int a2), some (.int a3), some (.int r2)] zd_Gr_block_33 (Nat.le_of_ble_eq_true rfl) rfl ?_
    refine zr_aload_n hG zd_Gr_block_35 rfl rfl ?_
    refine zf_Gr_nets hG tk_300 zd_Gr_block_36 ?_
    refine zf_Nets_pinOwner hG tk_95 zd_Gr_block_39 ?_
    refine zr_iload hG zd_Gr_block_42 rfl ?_
    obtain ⟨hi, h⟩ := h
    refine zl_8 hG hi zd_Gr_block_44 ?_
    refine zr_iconst hG (v := (-1 : Int32)) zd_Gr_block_45 (by decide) ?_
    refine zr_icmp_eq hG 59 zd_Gr_block_46 (by decide) (fun hc => ?_) (fun hc => ?_)
    · have h := h.1 hc
      refine zr_aload_n hG zd_Gr_block_59 rfl rfl ?_
      refine zf_Gr_rules hG tk_302 zd_Gr_block_60 ?_
      refine zf_Rules_blocked hG tk_150 zd_Gr_block_63 ?_
      refine zr_iload hG zd_Gr_block_66 rfl ?_
      refine zr_aload_n hG zd_Gr_block_68 rfl rfl ?_
      refine zf_Gr_rules hG tk_302 zd_Gr_block_69 ?_
      refine zf_Rules_blocked hG tk_150 zd_Gr_block_72 ?_
      refine zr_iload hG zd_Gr_block_75 rfl ?_
      obtain ⟨hi, h⟩ := h
      refine zl_13 hG hi zd_Gr_block_77 ?_
      refine zr_if_ne hG 85 zd_Gr_block_78 (by decide) (fun hc => ?_) (fun hc => ?_)
      · have h := h.1 hc
        refine zr_iconst hG (v := (0 : Int32)) zd_Gr_block_85 (by decide) ?_
        exact zr_mask [true, false, false, false, true] (zt_Gr_block_86 hG hR hAp hW h)
      · have h := h.2 hc
        refine zr_iconst hG (v := (1 : Int32)) zd_Gr_block_81 (by decide) ?_
        refine zr_goto hG 86 zd_Gr_block_82 (by decide) ?_
        exact zr_mask [true, false, false, false, true] (zt_Gr_block_86 hG hR hAp hW h)
    · have h := h.2 hc
      exact h.elim
  · have h := h.2 hc
    exact h.elim
def zw_Nets_add (ln : Nat → Nat) (a1 a2 : Int32) (z : zS) (post : Int32 → zS → Prop) : Prop := vp_in (z.1 4) (ln 3) ∧ vp_in (z.1 4) (ln 4) ∧ vp_in a1 (ln 5) ∧ vp_in a2 (ln 5) ∧ post (z.1 4) (zs_s (zs_a (zs_a (zs_a (zs_a z 3 (z.1 4) a1) 4 (z.1 4) a2) 5 a1 (z.1 4)) 5 a2 (z.1 4)) 4 (((zs_a (zs_a (zs_a (zs_a z 3 (z.1 4) a1) 4 (z.1 4) a2) 5 a1 (z.1 4)) 5 a2 (z.1 4)).1 4) + (1 : Int32)))
set_option maxHeartbeats 4000000 in
set_option maxRecDepth 100000 in
theorem zm_Nets_add (l : Launch) (w : zW) (hAp : zq_Ap w) (g : zS) (o : Nat → Int64) {a1 a2 : Int32} {z : zS} {post : Int32 → zS → Prop} (h : zw_Nets_add w.2.2.1 a1 a2 z post) : zq_M l w (zq_A w) zy_Nets_add zc_Nets_add 4 (some .int) (zq_rm 0 0) [.ref (w.2.1 5), .int a1, .int a2] (z, g, o) (zq_Pi g o post) := by
  refine zq_mk_M (by decide) (by simp [Value.category]) (Nat.le_of_ble_eq_true rfl) hAp (fun x hx hG hR => ?_)
  subst hx
  have hW := zq_wr hR.2.2.1
  refine zr_aload_n hG zd_Nets_add_0 rfl rfl ?_
  refine zf_Nets_count hG tk_98 zd_Nets_add_1 ?_
  refine zr_istore_n hG [some (.ref (w.2.1 5)), some (.int a1), some (.int a2), some (.int (z.1 4))] zd_Nets_add_4 rfl (Nat.le_of_ble_eq_true rfl) rfl ?_
  refine zr_aload_n hG zd_Nets_add_5 rfl rfl ?_
  refine zf_Nets_first hG tk_85 zd_Nets_add_6 ?_
  refine zr_iload_n hG zd_Nets_add_9 rfl rfl ?_
  refine zr_iload_n hG zd_Nets_add_10 rfl rfl ?_
  obtain ⟨hi, h⟩ := h
  refine zu_6 hG hW hi zd_Nets_add_11 ?_
  refine zr_aload_n hG zd_Nets_add_12 rfl rfl ?_
  refine zf_Nets_second hG tk_89 zd_Nets_add_13 ?_
  refine zr_iload_n hG zd_Nets_add_16 rfl rfl ?_
  refine zr_iload_n hG zd_Nets_add_17 rfl rfl ?_
  obtain ⟨hi, h⟩ := h
  refine zu_7 hG hW hi zd_Nets_add_18 ?_
  refine zr_aload_n hG zd_Nets_add_19 rfl rfl ?_
  refine zf_Nets_pinOwner hG tk_93 zd_Nets_add_20 ?_
  refine zr_iload_n hG zd_Nets_add_23 rfl rfl ?_
  refine zr_iload_n hG zd_Nets_add_24 rfl rfl ?_
  obtain ⟨hi, h⟩ := h
  refine zu_8 hG hW hi zd_Nets_add_25 ?_
  refine zr_aload_n hG zd_Nets_add_26 rfl rfl ?_
  refine zf_Nets_pinOwner hG tk_93 zd_Nets_add_27 ?_
  refine zr_iload_n hG zd_Nets_add_30 rfl rfl ?_
  refine zr_iload_n hG zd_Nets_add_31 rfl rfl ?_
  obtain ⟨hi, h⟩ := h
  refine zu_8 hG hW hi zd_Nets_add_32 ?_
  refine zr_aload_n hG zd_Nets_add_33 rfl rfl ?_
  refine zr_dup hG zd_Nets_add_34 rfl ?_
  refine zf_Nets_count hG tk_98 zd_Nets_add_35 ?_
  refine zr_iconst hG (v := (1 : Int32)) zd_Nets_add_38 (by decide) ?_
  refine zr_iadd hG zd_Nets_add_39 ?_
  refine zp_Nets_count hG hW tk_98 zd_Nets_add_40 ?_
  refine zr_iload_n hG zd_Nets_add_43 rfl rfl ?_
  exact zr_iret hG hR zd_Nets_add_44 ⟨_, _, rfl, rfl, h⟩
def zw_Rules_isClose_8_84 (ln : Nat → Nat) (post : Int32 → zS → Prop) (k38 : Int32 × Int32 × Int32 × Int32 × zS → Prop) (v3 v4 v5 v6 : Int32) (z : zS) : Prop := k38 (v3, v4, v5, (v6 + (1 : Int32)), z)
set_option maxHeartbeats 4000000 in
set_option maxRecDepth 100000 in
theorem zt_Rules_isClose_8_84 {x : zC} {w : zW} {g : zS} {o : Nat → Int64} {post : Int32 → zS → Prop} (hG : zq_G x w "GridRouter$Rules" zc_Rules_isClose 8 (zq_rm 0 0)) (hR : zq_R x w zq_0 (some .boolean) (zq_Pi g o post)) (hAp : zq_Ap w) {k38 : Int32 × Int32 × Int32 × Int32 × zS → Prop} (hk38 : ∀ b : Int32 × Int32 × Int32 × Int32 × zS, k38 b → zq_W x w 0 0 (b.2.2.2.2, g, o) 38 [some (.ref (w.2.1 12)), some (.ref (w.2.1 8)), none, some (.int (b.1)), some (.int (b.2.1)), some (.int (b.2.2.1)), some (.int (b.2.2.2.1)), none] []) {v3 v4 v5 v6 : Int32} {z : zS} (h : zw_Rules_isClose_8_84 w.2.2.1 post k38 v3 v4 v5 v6 z) : zq_W x w 0 0 (z, g, o) 84 [some (.ref (w.2.1 12)), some (.ref (w.2.1 8)), none, some (.int v3), some (.int v4), some (.int v5), some (.int v6), none] [] := by
  refine zr_iinc hG (u := (1 : Int32)) [some (.ref (w.2.1 12)), some (.ref (w.2.1 8)), none, some (.int v3), some (.int v4), some (.int v5), some (.int (v6 + (1 : Int32))), none] zd_Rules_isClose_84 rfl (by decide) (Nat.le_of_ble_eq_true rfl) rfl ?_
  refine zr_goto hG 38 zd_Rules_isClose_87 (by decide) ?_
  have h := hk38 _ h
  exact h
def zw_Rules_isClose_8_38 (ln : Nat → Nat) (post : Int32 → zS → Prop) (k38 : Int32 × Int32 × Int32 × Int32 × zS → Prop) : Int32 × Int32 × Int32 × Int32 × zS → Prop := fun b => match b with
  | (v3, v4, v5, v6, z) => ((v5 ≤ v6 → (narrow .boolean (.int (0 : Int32)) = .int (0 : Int32) ∧ post (0 : Int32) z)) ∧ (¬ v5 ≤ v6 → vp_in (v4 + v6) (ln 2) ∧ (((z.2 2 (v4 + v6).toNatClampNeg) = (-1 : Int32) → zw_Rules_isClose_8_84 ln post k38 v3 v4 v5 v6 z) ∧ (¬ (z.2 2 (v4 + v6).toNatClampNeg) = (-1 : Int32) → vp_in (z.2 2 (v4 + v6).toNatClampNeg) (ln 5) ∧ (((z.2 5 (z.2 2 (v4 + v6).toNatClampNeg).toNatClampNeg) = (-1 : Int32) → zw_Rules_isClose_8_84 ln post k38 v3 v4 v5 v6 z) ∧ (¬ (z.2 5 (z.2 2 (v4 + v6).toNatClampNeg).toNatClampNeg) = (-1 : Int32) → vp_in (z.2 2 (v4 + v6).toNatClampNeg) (ln 5) ∧ (((z.2 5 (z.2 2 (v4 + v6).toNatClampNeg).toNatClampNeg) = v3 → zw_Rules_isClose_8_84 ln post k38 v3 v4 v5 v6 z) ∧ (¬ (z.2 5 (z.2 2 (v4 + v6).toNatClampNeg).toNatClampNeg) = v3 → (narrow .boolean (.int (1 : Int32)) = .int (1 : Int32) ∧ post (1 : Int32) z)))))))))
set_option maxHeartbeats 4000000 in
set_option maxRecDepth 100000 in
theorem zt_Rules_isClose_8_38 {x : zC} {w : zW} {g : zS} {o : Nat → Int64} {post : Int32 → zS → Prop} (hG : zq_G x w "GridRouter$Rules" zc_Rules_isClose 8 (zq_rm 0 0)) (hR : zq_R x w zq_0 (some .boolean) (zq_Pi g o post)) (hAp : zq_Ap w) {v3 v4 v5 v6 : Int32} {z : zS} (h : zq_Lp (zw_Rules_isClose_8_38 w.2.2.1 post) (v3, v4, v5, v6, z)) : zq_W x w 0 0 (z, g, o) 38 [some (.ref (w.2.1 12)), some (.ref (w.2.1 8)), none, some (.int v3), some (.int v4), some (.int v5), some (.int v6), none] [] := by
  refine zq_Lp_W (WW := fun b => zq_W x w 0 0 (b.2.2.2.2, g, o) 38 [some (.ref (w.2.1 12)), some (.ref (w.2.1 8)), none, some (.int (b.1)), some (.int (b.2.1)), some (.int (b.2.2.1)), some (.int (b.2.2.2.1)), none] []) (fun k38 hk38 b h => ?_) h
  obtain ⟨v3, v4, v5, v6, z⟩ := b
  show zq_W x w 0 0 (z, g, o) 38 [some (.ref (w.2.1 12)), some (.ref (w.2.1 8)), none, some (.int v3), some (.int v4), some (.int v5), some (.int v6), none] []
  refine zr_iload hG zd_Rules_isClose_38 rfl ?_
  refine zr_iload hG zd_Rules_isClose_40 rfl ?_
  refine zr_icmp_ge hG 90 zd_Rules_isClose_42 (by decide) (fun hc => ?_) (fun hc => ?_)
  · have h := h.1 hc
    refine zr_iconst hG (v := (0 : Int32)) zd_Rules_isClose_90 (by decide) ?_
    obtain ⟨hn, h⟩ := h
    exact zr_zret hG hR zd_Rules_isClose_91 hn ⟨_, _, rfl, rfl, h⟩
  · have h := h.2 hc
    refine zr_aload_n hG zd_Rules_isClose_45 rfl rfl ?_
    refine zf_Rules_grid hG tk_155 zd_Rules_isClose_46 ?_
    refine zf_Grid_beside hG tk_59 zd_Rules_isClose_49 ?_
    refine zr_iload hG zd_Rules_isClose_52 rfl ?_
    refine zr_iload hG zd_Rules_isClose_54 rfl ?_
    refine zr_iadd hG zd_Rules_isClose_56 ?_
    obtain ⟨hi, h⟩ := h
    refine zl_4 hG hi zd_Rules_isClose_57 ?_
    refine zr_istore hG [some (.ref (w.2.1 12)), some (.ref (w.2.1 8)), none, some (.int v3), some (.int v4), some (.int v5), some (.int v6), some (.int (z.2 2 (v4 + v6).toNatClampNeg))] zd_Rules_isClose_58 (Nat.le_of_ble_eq_true rfl) rfl ?_
    refine zr_iload hG zd_Rules_isClose_60 rfl ?_
    refine zr_iconst hG (v := (-1 : Int32)) zd_Rules_isClose_62 (by decide) ?_
    refine zr_icmp_eq hG 84 zd_Rules_isClose_63 (by decide) (fun hc => ?_) (fun hc => ?_)
    · have h := h.1 hc
      exact zr_mask [true, true, false, true, true, true, true, false] (zt_Rules_isClose_8_84 hG hR hAp hk38 h)
    · have h := h.2 hc
      refine zr_aload_n hG zd_Rules_isClose_66 rfl rfl ?_
      refine zr_iload hG zd_Rules_isClose_67 rfl ?_
      obtain ⟨hi, h⟩ := h
      refine zl_8 hG hi zd_Rules_isClose_69 ?_
      refine zr_iconst hG (v := (-1 : Int32)) zd_Rules_isClose_70 (by decide) ?_
      refine zr_icmp_eq hG 84 zd_Rules_isClose_71 (by decide) (fun hc => ?_) (fun hc => ?_)
      · have h := h.1 hc
        exact zr_mask [true, true, false, true, true, true, true, false] (zt_Rules_isClose_8_84 hG hR hAp hk38 h)
      · have h := h.2 hc
        refine zr_aload_n hG zd_Rules_isClose_74 rfl rfl ?_
        refine zr_iload hG zd_Rules_isClose_75 rfl ?_
        obtain ⟨hi, h⟩ := h
        refine zl_8 hG hi zd_Rules_isClose_77 ?_
        refine zr_iload_n hG zd_Rules_isClose_78 rfl rfl ?_
        refine zr_icmp_eq hG 84 zd_Rules_isClose_79 (by decide) (fun hc => ?_) (fun hc => ?_)
        · have h := h.1 hc
          exact zr_mask [true, true, false, true, true, true, true, false] (zt_Rules_isClose_8_84 hG hR hAp hk38 h)
        · have h := h.2 hc
          refine zr_iconst hG (v := (1 : Int32)) zd_Rules_isClose_82 (by decide) ?_
          obtain ⟨hn, h⟩ := h
          exact zr_zret hG hR zd_Rules_isClose_83 hn ⟨_, _, rfl, rfl, h⟩
def zw_Rules_isClose_8_33 (ln : Nat → Nat) (post : Int32 → zS → Prop) (v3 v4 u0 : Int32) (z : zS) : Prop := zq_Lp (zw_Rules_isClose_8_38 ln post) (v3, v4, u0, (0 : Int32), z)
set_option maxHeartbeats 4000000 in
set_option maxRecDepth 100000 in
theorem zt_Rules_isClose_8_33 {x : zC} {w : zW} {g : zS} {o : Nat → Int64} {post : Int32 → zS → Prop} (hG : zq_G x w "GridRouter$Rules" zc_Rules_isClose 8 (zq_rm 0 0)) (hR : zq_R x w zq_0 (some .boolean) (zq_Pi g o post)) (hAp : zq_Ap w) {v3 v4 u0 : Int32} {z : zS} (h : zw_Rules_isClose_8_33 w.2.2.1 post v3 v4 u0 z) : zq_W x w 0 0 (z, g, o) 33 [some (.ref (w.2.1 12)), some (.ref (w.2.1 8)), none, some (.int v3), some (.int v4), none, none, none] [.int u0] := by
  refine zr_istore hG [some (.ref (w.2.1 12)), some (.ref (w.2.1 8)), none, some (.int v3), some (.int v4), some (.int u0), none, none] zd_Rules_isClose_33 (Nat.le_of_ble_eq_true rfl) rfl ?_
  refine zr_iconst hG (v := (0 : Int32)) zd_Rules_isClose_35 (by decide) ?_
  refine zr_istore hG [some (.ref (w.2.1 12)), some (.ref (w.2.1 8)), none, some (.int v3), some (.int v4), some (.int u0), some (.int (0 : Int32)), none] zd_Rules_isClose_36 (Nat.le_of_ble_eq_true rfl) rfl ?_
  exact zt_Rules_isClose_8_38 hG hR hAp h
def zw_Rules_isClose_8_16 (ln : Nat → Nat) (post : Int32 → zS → Prop) (v2 v3 : Int32) (z : zS) : Prop := (((z.1 5) = 0 → zw_Rules_isClose_8_33 ln post v3 (v2 * (5 : Int32)) (0 : Int32) z) ∧ (¬ (z.1 5) = 0 → zw_Rules_isClose_8_33 ln post v3 (v2 * (5 : Int32)) (4 : Int32) z))
set_option maxHeartbeats 4000000 in
set_option maxRecDepth 100000 in
theorem zt_Rules_isClose_8_16 {x : zC} {w : zW} {g : zS} {o : Nat → Int64} {post : Int32 → zS → Prop} (hG : zq_G x w "GridRouter$Rules" zc_Rules_isClose 8 (zq_rm 0 0)) (hR : zq_R x w zq_0 (some .boolean) (zq_Pi g o post)) (hAp : zq_Ap w) {v2 v3 : Int32} {z : zS} (h : zw_Rules_isClose_8_16 w.2.2.1 post v2 v3 z) : zq_W x w 0 0 (z, g, o) 16 [some (.ref (w.2.1 12)), some (.ref (w.2.1 8)), some (.int v2), some (.int v3), none, none, none, none] [] := by
  refine zr_iload_n hG zd_Rules_isClose_16 rfl rfl ?_
  refine zr_iconst hG (v := (5 : Int32)) zd_Rules_isClose_17 (by decide) ?_
  refine zr_imul hG zd_Rules_isClose_18 ?_
  refine zr_istore hG [some (.ref (w.2.1 12)), some (.ref (w.2.1 8)), some (.int v2), some (.int v3), some (.int (v2 * (5 : Int32))), none, none, none] zd_Rules_isClose_19 (Nat.le_of_ble_eq_true rfl) rfl ?_
  refine zr_aload_n hG zd_Rules_isClose_21 rfl rfl ?_
  refine zf_Rules_spaced hG tk_152 zd_Rules_isClose_22 ?_
  refine zr_if_eq hG 32 zd_Rules_isClose_25 (by decide) (fun hc => ?_) (fun hc => ?_)
  · have h := h.1 hc
    refine zr_iconst hG (v := (0 : Int32)) zd_Rules_isClose_32 (by decide) ?_
    exact zr_mask [true, true, false, true, true, false, false, false] (zt_Rules_isClose_8_33 hG hR hAp h)
  · have h := h.2 hc
    refine zr_iconst hG (v := (4 : Int32)) zd_Rules_isClose_28 (by decide) ?_
    refine zr_goto hG 33 zd_Rules_isClose_29 (by decide) ?_
    exact zr_mask [true, true, false, true, true, false, false, false] (zt_Rules_isClose_8_33 hG hR hAp h)
def zw_Rules_isClose_8 (ln : Nat → Nat) (a2 a3 : Int32) (z : zS) (post : Int32 → zS → Prop) : Prop := vp_in a2 (ln 5) ∧ (((z.2 5 a2.toNatClampNeg) = (-1 : Int32) → zw_Rules_isClose_8_16 ln post a2 a3 z) ∧ (¬ (z.2 5 a2.toNatClampNeg) = (-1 : Int32) → vp_in a2 (ln 5) ∧ (((z.2 5 a2.toNatClampNeg) = a3 → zw_Rules_isClose_8_16 ln post a2 a3 z) ∧ (¬ (z.2 5 a2.toNatClampNeg) = a3 → (narrow .boolean (.int (1 : Int32)) = .int (1 : Int32) ∧ post (1 : Int32) z)))))
set_option maxHeartbeats 4000000 in
set_option maxRecDepth 100000 in
theorem zm_Rules_isClose_8 (l : Launch) (w : zW) (hAp : zq_Ap w) (g : zS) (o : Nat → Int64) {a2 a3 : Int32} {z : zS} {post : Int32 → zS → Prop} (h : zw_Rules_isClose_8 w.2.2.1 a2 a3 z post) : zq_M l w zq_0 zy_Rules_isClose zc_Rules_isClose 8 (some .boolean) (zq_rm 0 0) [.ref (w.2.1 12), .ref (w.2.1 8), .int a2, .int a3] (z, g, o) (zq_Pi g o post) := by
  refine zq_mk_M (by decide) (by simp [Value.category]) (Nat.le_of_ble_eq_true rfl) hAp (fun x hx hG hR => ?_)
  subst hx
  refine zr_aload_n hG zd_Rules_isClose_0 rfl rfl ?_
  refine zr_iload_n hG zd_Rules_isClose_1 rfl rfl ?_
  obtain ⟨hi, h⟩ := h
  refine zl_8 hG hi zd_Rules_isClose_2 ?_
  refine zr_iconst hG (v := (-1 : Int32)) zd_Rules_isClose_3 (by decide) ?_
  refine zr_icmp_eq hG 16 zd_Rules_isClose_4 (by decide) (fun hc => ?_) (fun hc => ?_)
  · have h := h.1 hc
    exact zt_Rules_isClose_8_16 hG hR hAp h
  · have h := h.2 hc
    refine zr_aload_n hG zd_Rules_isClose_7 rfl rfl ?_
    refine zr_iload_n hG zd_Rules_isClose_8 rfl rfl ?_
    obtain ⟨hi, h⟩ := h
    refine zl_8 hG hi zd_Rules_isClose_9 ?_
    refine zr_iload_n hG zd_Rules_isClose_10 rfl rfl ?_
    refine zr_icmp_eq hG 16 zd_Rules_isClose_11 (by decide) (fun hc => ?_) (fun hc => ?_)
    · have h := h.1 hc
      exact zt_Rules_isClose_8_16 hG hR hAp h
    · have h := h.2 hc
      refine zr_iconst hG (v := (1 : Int32)) zd_Rules_isClose_14 (by decide) ?_
      obtain ⟨hn, h⟩ := h
      exact zr_zret hG hR zd_Rules_isClose_15 hn ⟨_, _, rfl, rfl, h⟩
def zw_Rules_isBarred_30 (ln : Nat → Nat) (post : Int32 → zS → Prop) (u0 : Int32) (z : zS) : Prop := (narrow .boolean (.int u0) = .int u0 ∧ post u0 z)
set_option maxHeartbeats 4000000 in
set_option maxRecDepth 100000 in
theorem zt_Rules_isBarred_30 {x : zC} {w : zW} {g : zS} {o : Nat → Int64} {post : Int32 → zS → Prop} (hG : zq_G x w "GridRouter$Rules" zc_Rules_isBarred 3 (zq_rm 1 27)) (hR : zq_R x w zq_0 (some .boolean) (zq_Pi g o post)) (hAp : zq_Ap w) {u0 : Int32} {z : zS} (h : zw_Rules_isBarred_30 w.2.2.1 post u0 z) : zq_W x w 0 0 (z, g, o) 30 [none, none, none] [.int u0] := by
  obtain ⟨hn, h⟩ := h
  exact zr_zret hG hR zd_Rules_isBarred_30 hn ⟨_, _, rfl, rfl, h⟩
def zw_Rules_isBarred_25 (ln : Nat → Nat) (post : Int32 → zS → Prop) (z : zS) : Prop := zw_Rules_isBarred_30 ln post (1 : Int32) z
set_option maxHeartbeats 4000000 in
set_option maxRecDepth 100000 in
theorem zt_Rules_isBarred_25 {x : zC} {w : zW} {g : zS} {o : Nat → Int64} {post : Int32 → zS → Prop} (hG : zq_G x w "GridRouter$Rules" zc_Rules_isBarred 3 (zq_rm 1 27)) (hR : zq_R x w zq_0 (some .boolean) (zq_Pi g o post)) (hAp : zq_Ap w) {z : zS} (h : zw_Rules_isBarred_25 w.2.2.1 post z) : zq_W x w 0 0 (z, g, o) 25 [none, none, none] [] := by
  refine zr_iconst hG (v := (1 : Int32)) zd_Rules_isBarred_25 (by decide) ?_
  refine zr_goto hG 30 zd_Rules_isBarred_26 (by decide) ?_
  exact zt_Rules_isBarred_30 hG hR hAp h
def zw_Rules_isBarred (ln : Nat → Nat) (a1 a2 : Int32) (z : zS) (post : Int32 → zS → Prop) : Prop := vp_in a1 (ln 8) ∧ ((¬ (z.2 8 a1.toNatClampNeg) = 0 → zw_Rules_isBarred_25 ln post z) ∧ ((z.2 8 a1.toNatClampNeg) = 0 → (zw_Rules_isClose_8 ln a1 a2 z (fun r189 z189 => ((r189 = 0 → zw_Rules_isBarred_30 ln post (0 : Int32) z189) ∧ (¬ r189 = 0 → zw_Rules_isBarred_25 ln post z189))))))
set_option maxHeartbeats 4000000 in
set_option maxRecDepth 100000 in
theorem zm_Rules_isBarred (l : Launch) (w : zW) (hAp : zq_Ap w) (g : zS) (o : Nat → Int64) {a1 a2 : Int32} {z : zS} {post : Int32 → zS → Prop} (h : zw_Rules_isBarred w.2.2.1 a1 a2 z post) : zq_M l w zq_0 zy_Rules_isBarred zc_Rules_isBarred 3 (some .boolean) (zq_rm 1 27) [.ref (w.2.1 12), .int a1, .int a2] (z, g, o) (zq_Pi g o post) := by
  refine zq_mk_M (by decide) (by simp [Value.category]) (Nat.le_of_ble_eq_true rfl) hAp (fun x hx hG hR => ?_)
  subst hx
  refine zr_aload_n hG zd_Rules_isBarred_0 rfl rfl ?_
  refine zf_Rules_blocked hG tk_149 zd_Rules_isBarred_1 ?_
  refine zr_iload_n hG zd_Rules_isBarred_4 rfl rfl ?_
  obtain ⟨hi, h⟩ := h
  refine zl_13 hG hi zd_Rules_isBarred_5 ?_
  refine zr_if_ne hG 25 zd_Rules_isBarred_6 (by decide) (fun hc => ?_) (fun hc => ?_)
  · have h := h.1 hc
    exact zr_mask [false, false, false] (zt_Rules_isBarred_25 hG hR hAp h)
  · have h := h.2 hc
    refine zr_aload_n hG zd_Rules_isBarred_9 rfl rfl ?_
    refine zr_aload_n hG zd_Rules_isBarred_10 rfl rfl ?_
    refine zf_Rules_nets hG tk_156 zd_Rules_isBarred_11 ?_
    refine zf_Nets_pinOwner hG tk_94 zd_Rules_isBarred_14 ?_
    refine zr_iload_n hG zd_Rules_isBarred_17 rfl rfl ?_
    refine zr_iload_n hG zd_Rules_isBarred_18 rfl rfl ?_
    refine zr_callV hG zq_F0 (As := [.ref (w.2.1 8), .int a1, .int a2]) (rest := []) (zm_Rules_isClose_8 (zc_l x) w hAp g o h) 12 rfl rfl rfl zg_Rules_43 zdd_Rules_isClose ⟨rfl, rfl, by decide, by decide⟩ ⟨by decide, by decide⟩ rfl (Nat.le_of_ble_eq_true rfl) zd_Rules_isBarred_19 rfl ?_
    rintro _ _ ⟨r189, z189, rfl, rfl, h⟩
    refine zr_if_eq hG 29 zd_Rules_isBarred_22 (by decide) (fun hc => ?_) (fun hc => ?_)
    · have h := h.1 hc
      refine zr_iconst hG (v := (0 : Int32)) zd_Rules_isBarred_29 (by decide) ?_
      exact zr_mask [false, false, false] (zt_Rules_isBarred_30 hG hR hAp h)
    · have h := h.2 hc
      exact zr_mask [false, false, false] (zt_Rules_isBarred_25 hG hR hAp h)
def zw_Gr_net_111 (ln : Nat → Nat) (post : Int32 → zS → Prop) (z : zS) : Prop := False
set_option maxHeartbeats 4000000 in
set_option maxRecDepth 100000 in
theorem zt_Gr_net_111 {x : zC} {w : zW} {g : zS} {o : Nat → Int64} {post : Int32 → zS → Prop} (hG : zq_G x w "GridRouter" zc_Gr_net 10 (zq_rm 6 110)) (hR : zq_R x w (zq_A w) (some .int) (zq_Pi g o post)) (hAp : zq_Ap w) (hW : zq_Wr x w) {z : zS} (h : zw_Gr_net_111 w.2.2.1 post z) : zq_W x w 0 0 (z, g, o) 111 [none, none, none, none, none, none, none, none, none, none] [] := by
  exact h.elim
def zw_Gr_net_29 (ln : Nat → Nat) (post : Int32 → zS → Prop) (z : zS) : Prop := False
set_option maxHeartbeats 4000000 in
set_option maxRecDepth 100000 in
theorem zt_Gr_net_29 {x : zC} {w : zW} {g : zS} {o : Nat → Int64} {post : Int32 → zS → Prop} (hG : zq_G x w "GridRouter" zc_Gr_net 10 (zq_rm 6 110)) (hR : zq_R x w (zq_A w) (some .int) (zq_Pi g o post)) (hAp : zq_Ap w) (hW : zq_Wr x w) {z : zS} (h : zw_Gr_net_29 w.2.2.1 post z) : zq_W x w 0 0 (z, g, o) 29 [none, none, none, none, none, none, none, none, none, none] [] := by
  exact h.elim
def zw_Gr_net (ln : Nat → Nat) (a1 a2 a3 a4 a5 a6 : Int32) (z : zS) (post : Int32 → zS → Prop) : Prop := (zw_Grid_hasCell ln a1 a2 a3 z (fun r5 z5 => ((r5 = 0 → zw_Gr_net_29 ln post z5) ∧ (¬ r5 = 0 → (zw_Grid_hasCell ln a4 a5 a6 z5 (fun r6 z6 => ((¬ r6 = 0 → (zw_Grid_cellAt ln a1 a2 a3 z6 (fun r7 z7 => (zw_Grid_cellAt ln a4 a5 a6 z7 (fun r8 z8 => ((r7 = r8 → zw_Gr_net_111 ln post z8) ∧ (¬ r7 = r8 → (zw_Rules_isBarred ln r7 (z8.1 4) z8 (fun r9 z9 => ((¬ r9 = 0 → zw_Gr_net_111 ln post z9) ∧ (r9 = 0 → (zw_Rules_isBarred ln r8 (z9.1 4) z9 (fun r10 z10 => ((r10 = 0 → (((z10.1 4) < (6 : Int32) → (zw_Nets_add ln r7 r8 z10 (fun r11 z11 => vp_in r7 (ln 6) ∧ vp_in r8 (ln 6) ∧ post r11 (zs_a (zs_a z11 6 r7 r11) 6 r8 r11)))) ∧ (¬ (z10.1 4) < (6 : Int32) → False))) ∧ (¬ r10 = 0 → zw_Gr_net_111 ln post z10))))))))))))))) ∧ (r6 = 0 → zw_Gr_net_29 ln post z6))))))))
set_option maxHeartbeats 4000000 in
set_option maxRecDepth 100000 in
theorem zm_Gr_net (l : Launch) (w : zW) (hAp : zq_Ap w) (g : zS) (o : Nat → Int64) {a1 a2 a3 a4 a5 a6 : Int32} {z : zS} {post : Int32 → zS → Prop} (h : zw_Gr_net w.2.2.1 a1 a2 a3 a4 a5 a6 z post) : zq_M l w (zq_A w) zy_Gr_net zc_Gr_net 10 (some .int) (zq_rm 6 110) [.ref (w.2.1 0), .int a1, .int a2, .int a3, .int a4, .int a5, .int a6] (z, g, o) (zq_Pi g o post) := by
  refine zq_mk_M (by decide) (by simp [Value.category]) (Nat.le_of_ble_eq_true rfl) hAp (fun x hx hG hR => ?_)
  subst hx
  have hW := zq_wr hR.2.2.1
  have h : (zw_Grid_hasCell w.2.2.1 a1 a2 a3 z (fun r5 z5 => ((r5 = 0 → zw_Gr_net_29 w.2.2.1 post z5) ∧ (¬ r5 = 0 → (zw_Grid_hasCell w.2.2.1 a4 a5 a6 z5 (fun r6 z6 => ((¬ r6 = 0 → (zw_Grid_cellAt w.2.2.1 a1 a2 a3 z6 (fun r7 z7 => (zw_Grid_cellAt w.2.2.1 a4 a5 a6 z7 (fun r8 z8 => ((r7 = r8 → zw_Gr_net_111 w.2.2.1 post z8) ∧ (¬ r7 = r8 → (zw_Rules_isBarred w.2.2.1 r7 (z8.1 4) z8 (fun r9 z9 => ((¬ r9 = 0 → zw_Gr_net_111 w.2.2.1 post z9) ∧ (r9 = 0 → (zw_Rules_isBarred w.2.2.1 r8 (z9.1 4) z9 (fun r10 z10 => ((r10 = 0 → (((z10.1 4) < (6 : Int32) → (zw_Nets_add w.2.2.1 r7 r8 z10 (fun r11 z11 => vp_in r7 (w.2.2.1 6) ∧ vp_in r8 (w.2.2.1 6) ∧ post r11 (zs_a (zs_a z11 6 r7 r11) 6 r8 r11)))) ∧ (¬ (z10.1 4) < (6 : Int32) → False))) ∧ (¬ r10 = 0 → zw_Gr_net_111 w.2.2.1 post z10))))))))))))))) ∧ (r6 = 0 → zw_Gr_net_29 w.2.2.1 post z6)))))))) := h
  refine zr_aload_n hG zd_Gr_net_0 rfl rfl ?_
  refine zf_Gr_grid hG tk_299 zd_Gr_net_1 ?_
  refine zr_iload_n hG zd_Gr_net_4 rfl rfl ?_
  refine zr_iload_n hG zd_Gr_net_5 rfl rfl ?_
  refine zr_iload_n hG zd_Gr_net_6 rfl rfl ?_
  refine zr_callV hG zq_F0 (As := [.int a1, .int a2, .int a3]) (rest := []) (zm_Grid_hasCell (zc_l x) w hAp g o h) 1 rfl rfl rfl zg_Gr_72 zdd_Grid_hasCell ⟨rfl, rfl, by decide, by decide⟩ ⟨by decide, by decide⟩ rfl (Nat.le_of_ble_eq_true rfl) zd_Gr_net_7 rfl ?_
  rintro _ _ ⟨r5, z5, rfl, rfl, h⟩
  refine zr_if_eq hG 29 zd_Gr_net_10 (by decide) (fun hc => ?_) (fun hc => ?_)
  · have h := h.1 hc
    exact zr_mask [false, false, false, false, false, false, false, false, false, false] (zt_Gr_net_29 hG hR hAp hW h)
  · have h := h.2 hc
    refine zr_aload_n hG zd_Gr_net_13 rfl rfl ?_
    refine zf_Gr_grid hG tk_299 zd_Gr_net_14 ?_
    refine zr_iload hG zd_Gr_net_17 rfl ?_
    refine zr_iload hG zd_Gr_net_19 rfl ?_
    refine zr_iload hG zd_Gr_net_21 rfl ?_
    refine zr_callV hG zq_F0 (As := [.int a4, .int a5, .int a6]) (rest := []) (zm_Grid_hasCell (zc_l x) w hAp g o h) 1 rfl rfl rfl zg_Gr_72 zdd_Grid_hasCell ⟨rfl, rfl, by decide, by decide⟩ ⟨by decide, by decide⟩ rfl (Nat.le_of_ble_eq_true rfl) zd_Gr_net_23 rfl ?_
    rintro _ _ ⟨r6, z6, rfl, rfl, h⟩
    refine zr_if_ne hG 39 zd_Gr_net_26 (by decide) (fun hc => ?_) (fun hc => ?_)
    · have h := h.1 hc
      refine zr_aload_n hG zd_Gr_net_39 rfl rfl ?_
      refine zf_Gr_grid hG tk_299 zd_Gr_net_40 ?_
      refine zr_iload_n hG zd_Gr_net_43 rfl rfl ?_
      refine zr_iload_n hG zd_Gr_net_44 rfl rfl ?_
      refine zr_iload_n hG zd_Gr_net_45 rfl rfl ?_
      refine zr_callV hG zq_F0 (As := [.int a1, .int a2, .int a3]) (rest := []) (zm_Grid_cellAt (zc_l x) w hAp g o h) 1 rfl rfl rfl zg_Gr_83 zdd_Grid_cellAt ⟨rfl, rfl, by decide, by decide⟩ ⟨by decide, by decide⟩ rfl (Nat.le_of_ble_eq_true rfl) zd_Gr_net_46 rfl ?_
      rintro _ _ ⟨r7, z7, rfl, rfl, h⟩
      refine zr_istore hG [some (.ref (w.2.1 0)), some (.int a1), some (.int a2), some (.int a3), some (.int a4), some (.int a5), some (.int a6), some (.int r7), none, none] zd_Gr_net_49 (Nat.le_of_ble_eq_true rfl) rfl ?_
      refine zr_aload_n hG zd_Gr_net_51 rfl rfl ?_
      refine zf_Gr_grid hG tk_299 zd_Gr_net_52 ?_
      refine zr_iload hG zd_Gr_net_55 rfl ?_
      refine zr_iload hG zd_Gr_net_57 rfl ?_
      refine zr_iload hG zd_Gr_net_59 rfl ?_
      refine zr_callV hG zq_F0 (As := [.int a4, .int a5, .int a6]) (rest := []) (zm_Grid_cellAt (zc_l x) w hAp g o h) 1 rfl rfl rfl zg_Gr_83 zdd_Grid_cellAt ⟨rfl, rfl, by decide, by decide⟩ ⟨by decide, by decide⟩ rfl (Nat.le_of_ble_eq_true rfl) zd_Gr_net_61 rfl ?_
      rintro _ _ ⟨r8, z8, rfl, rfl, h⟩
      refine zr_istore hG [some (.ref (w.2.1 0)), some (.int a1), some (.int a2), some (.int a3), some (.int a4), some (.int a5), some (.int a6), some (.int r7), some (.int r8), none] zd_Gr_net_64 (Nat.le_of_ble_eq_true rfl) rfl ?_
      refine zr_iload hG zd_Gr_net_66 rfl ?_
      refine zr_iload hG zd_Gr_net_68 rfl ?_
      refine zr_icmp_eq hG 111 zd_Gr_net_70 (by decide) (fun hc => ?_) (fun hc => ?_)
      · have h := h.1 hc
        exact zr_mask [false, false, false, false, false, false, false, false, false, false] (zt_Gr_net_111 hG hR hAp hW h)
      · have h := h.2 hc
        refine zr_aload_n hG zd_Gr_net_73 rfl rfl ?_
        refine zf_Gr_rules hG tk_302 zd_Gr_net_74 ?_
        refine zr_iload hG zd_Gr_net_77 rfl ?_
        refine zr_aload_n hG zd_Gr_net_79 rfl rfl ?_
        refine zf_Gr_nets hG tk_300 zd_Gr_net_80 ?_
        refine zf_Nets_count hG tk_99 zd_Gr_net_83 ?_
        refine zr_callV hG zq_F0 (As := [.int r7, .int (z8.1 4)]) (rest := []) (zm_Rules_isBarred (zc_l x) w hAp g o h) 12 rfl rfl rfl zg_Gr_104 zdd_Rules_isBarred ⟨rfl, rfl, by decide, by decide⟩ ⟨by decide, by decide⟩ rfl (Nat.le_of_ble_eq_true rfl) zd_Gr_net_86 rfl ?_
        rintro _ _ ⟨r9, z9, rfl, rfl, h⟩
        refine zr_if_ne hG 111 zd_Gr_net_89 (by decide) (fun hc => ?_) (fun hc => ?_)
        · have h := h.1 hc
          exact zr_mask [false, false, false, false, false, false, false, false, false, false] (zt_Gr_net_111 hG hR hAp hW h)
        · have h := h.2 hc
          refine zr_aload_n hG zd_Gr_net_92 rfl rfl ?_
          refine zf_Gr_rules hG tk_302 zd_Gr_net_93 ?_
          refine zr_iload hG zd_Gr_net_96 rfl ?_
          refine zr_aload_n hG zd_Gr_net_98 rfl rfl ?_
          refine zf_Gr_nets hG tk_300 zd_Gr_net_99 ?_
          refine zf_Nets_count hG tk_99 zd_Gr_net_102 ?_
          refine zr_callV hG zq_F0 (As := [.int r8, .int (z9.1 4)]) (rest := []) (zm_Rules_isBarred (zc_l x) w hAp g o h) 12 rfl rfl rfl zg_Gr_104 zdd_Rules_isBarred ⟨rfl, rfl, by decide, by decide⟩ ⟨by decide, by decide⟩ rfl (Nat.le_of_ble_eq_true rfl) zd_Gr_net_105 rfl ?_
          rintro _ _ ⟨r10, z10, rfl, rfl, h⟩
          refine zr_if_eq hG 121 zd_Gr_net_108 (by decide) (fun hc => ?_) (fun hc => ?_)
          · have h := h.1 hc
            refine zr_aload_n hG zd_Gr_net_121 rfl rfl ?_
            refine zf_Gr_nets hG tk_300 zd_Gr_net_122 ?_
            refine zf_Nets_count hG tk_99 zd_Gr_net_125 ?_
            refine zr_bipush hG (v := (6 : Int32)) zd_Gr_net_128 (by decide) ?_
            refine zr_icmp_lt hG 143 zd_Gr_net_130 (by decide) (fun hc => ?_) (fun hc => ?_)
            · have h := h.1 hc
              refine zr_aload_n hG zd_Gr_net_143 rfl rfl ?_
              refine zf_Gr_nets hG tk_300 zd_Gr_net_144 ?_
              refine zr_iload hG zd_Gr_net_147 rfl ?_
              refine zr_iload hG zd_Gr_net_149 rfl ?_
              refine zr_callV hG (zq_F1 hW) (As := [.int r7, .int r8]) (rest := []) (zm_Nets_add (zc_l x) w hAp g o h) 5 rfl rfl rfl zg_Gr_115 zdd_Nets_add ⟨rfl, rfl, by decide, by decide⟩ ⟨by decide, by decide⟩ rfl (Nat.le_of_ble_eq_true rfl) zd_Gr_net_151 rfl ?_
              rintro _ _ ⟨r11, z11, rfl, rfl, h⟩
              refine zr_istore hG [some (.ref (w.2.1 0)), some (.int a1), some (.int a2), some (.int a3), some (.int a4), some (.int a5), some (.int a6), some (.int r7), some (.int r8), some (.int r11)] zd_Gr_net_154 (Nat.le_of_ble_eq_true rfl) rfl ?_
              refine zr_aload_n hG zd_Gr_net_156 rfl rfl ?_
              refine zf_Gr_layout hG tk_301 zd_Gr_net_157 ?_
              refine zf_Layout_owner hG tk_124 zd_Gr_net_160 ?_
              refine zr_iload hG zd_Gr_net_163 rfl ?_
              refine zr_iload hG zd_Gr_net_165 rfl ?_
              obtain ⟨hi, h⟩ := h
              refine zu_10 hG hW hi zd_Gr_net_167 ?_
              refine zr_aload_n hG zd_Gr_net_168 rfl rfl ?_
              refine zf_Gr_layout hG tk_301 zd_Gr_net_169 ?_
              refine zf_Layout_owner hG tk_124 zd_Gr_net_172 ?_
              refine zr_iload hG zd_Gr_net_175 rfl ?_
              refine zr_iload hG zd_Gr_net_177 rfl ?_
              obtain ⟨hi, h⟩ := h
              refine zu_10 hG hW hi zd_Gr_net_179 ?_
              refine zr_iload hG zd_Gr_net_180 rfl ?_
              exact zr_iret hG hR zd_Gr_net_182 ⟨_, _, rfl, rfl, h⟩
            · have h := h.2 hc
              exact h.elim
          · have h := h.2 hc
            exact zr_mask [false, false, false, false, false, false, false, false, false, false] (zt_Gr_net_111 hG hR hAp hW h)
    · have h := h.2 hc
      exact zr_mask [false, false, false, false, false, false, false, false, false, false] (zt_Gr_net_29 hG hR hAp hW h)
def zw_Nets_has_17 (ln : Nat → Nat) (post : Int32 → zS → Prop) (u0 : Int32) (z : zS) : Prop := (narrow .boolean (.int u0) = .int u0 ∧ post u0 z)
set_option maxHeartbeats 4000000 in
set_option maxRecDepth 100000 in
theorem zt_Nets_has_17 {x : zC} {w : zW} {g : zS} {o : Nat → Int64} {post : Int32 → zS → Prop} (hG : zq_G x w "GridRouter$Nets" zc_Nets_has 2 (zq_rm 0 0)) (hR : zq_R x w zq_0 (some .boolean) (zq_Pi g o post)) (hAp : zq_Ap w) {u0 : Int32} {z : zS} (h : zw_Nets_has_17 w.2.2.1 post u0 z) : zq_W x w 0 0 (z, g, o) 17 [none, none] [.int u0] := by
  obtain ⟨hn, h⟩ := h
  exact zr_zret hG hR zd_Nets_has_17 hn ⟨_, _, rfl, rfl, h⟩
def zw_Nets_has_16 (ln : Nat → Nat) (post : Int32 → zS → Prop) (z : zS) : Prop := zw_Nets_has_17 ln post (0 : Int32) z
set_option maxHeartbeats 4000000 in
set_option maxRecDepth 100000 in
theorem zt_Nets_has_16 {x : zC} {w : zW} {g : zS} {o : Nat → Int64} {post : Int32 → zS → Prop} (hG : zq_G x w "GridRouter$Nets" zc_Nets_has 2 (zq_rm 0 0)) (hR : zq_R x w zq_0 (some .boolean) (zq_Pi g o post)) (hAp : zq_Ap w) {z : zS} (h : zw_Nets_has_16 w.2.2.1 post z) : zq_W x w 0 0 (z, g, o) 16 [none, none] [] := by
  refine zr_iconst hG (v := (0 : Int32)) zd_Nets_has_16 (by decide) ?_
  exact zt_Nets_has_17 hG hR hAp h
def zw_Nets_has (ln : Nat → Nat) (a1 : Int32) (z : zS) (post : Int32 → zS → Prop) : Prop := ((a1 < 0 → zw_Nets_has_16 ln post z) ∧ (¬ a1 < 0 → (((z.1 4) ≤ a1 → zw_Nets_has_16 ln post z) ∧ (¬ (z.1 4) ≤ a1 → zw_Nets_has_17 ln post (1 : Int32) z))))
set_option maxHeartbeats 4000000 in
set_option maxRecDepth 100000 in
theorem zm_Nets_has (l : Launch) (w : zW) (hAp : zq_Ap w) (g : zS) (o : Nat → Int64) {a1 : Int32} {z : zS} {post : Int32 → zS → Prop} (h : zw_Nets_has w.2.2.1 a1 z post) : zq_M l w zq_0 zy_Nets_has zc_Nets_has 2 (some .boolean) (zq_rm 0 0) [.ref (w.2.1 5), .int a1] (z, g, o) (zq_Pi g o post) := by
  refine zq_mk_M (by decide) (by simp [Value.category]) (Nat.le_of_ble_eq_true rfl) hAp (fun x hx hG hR => ?_)
  subst hx
  refine zr_iload_n hG zd_Nets_has_0 rfl rfl ?_
  refine zr_if_lt hG 16 zd_Nets_has_1 (by decide) (fun hc => ?_) (fun hc => ?_)
  · have h := h.1 hc
    exact zr_mask [false, false] (zt_Nets_has_16 hG hR hAp h)
  · have h := h.2 hc
    refine zr_iload_n hG zd_Nets_has_4 rfl rfl ?_
    refine zr_aload_n hG zd_Nets_has_5 rfl rfl ?_
    refine zf_Nets_count hG tk_98 zd_Nets_has_6 ?_
    refine zr_icmp_ge hG 16 zd_Nets_has_9 (by decide) (fun hc => ?_) (fun hc => ?_)
    · have h := h.1 hc
      exact zr_mask [false, false] (zt_Nets_has_16 hG hR hAp h)
    · have h := h.2 hc
      refine zr_iconst hG (v := (1 : Int32)) zd_Nets_has_12 (by decide) ?_
      refine zr_goto hG 17 zd_Nets_has_13 (by decide) ?_
      exact zr_mask [false, false] (zt_Nets_has_17 hG hR hAp h)
def zw_Grid_placeOf_18 (ln : Nat → Nat) (post : Int32 → zS → Prop) (u0 : Int32) (z : zS) : Prop := post u0 z
set_option maxHeartbeats 4000000 in
set_option maxRecDepth 100000 in
theorem zt_Grid_placeOf_18 {x : zC} {w : zW} {g : zS} {o : Nat → Int64} {post : Int32 → zS → Prop} (hG : zq_G x w "GridRouter$Grid" zc_Grid_placeOf 2 (zq_rm 0 0)) (hR : zq_R x w zq_0 (some .int) (zq_Pi g o post)) (hAp : zq_Ap w) {u0 : Int32} {z : zS} (h : zw_Grid_placeOf_18 w.2.2.1 post u0 z) : zq_W x w 0 0 (z, g, o) 18 [none, none] [.int u0] := by
  exact zr_iret hG hR zd_Grid_placeOf_18 ⟨_, _, rfl, rfl, h⟩
def zw_Grid_placeOf (ln : Nat → Nat) (a1 : Int32) (z : zS) (post : Int32 → zS → Prop) : Prop := (((z.1 2) ≤ a1 → zw_Grid_placeOf_18 ln post (a1 - (z.1 2)) z) ∧ (¬ (z.1 2) ≤ a1 → zw_Grid_placeOf_18 ln post a1 z))
set_option maxHeartbeats 4000000 in
set_option maxRecDepth 100000 in
theorem zm_Grid_placeOf (l : Launch) (w : zW) (hAp : zq_Ap w) (g : zS) (o : Nat → Int64) {a1 : Int32} {z : zS} {post : Int32 → zS → Prop} (h : zw_Grid_placeOf w.2.2.1 a1 z post) : zq_M l w zq_0 zy_Grid_placeOf zc_Grid_placeOf 2 (some .int) (zq_rm 0 0) [.ref (w.2.1 1), .int a1] (z, g, o) (zq_Pi g o post) := by
  refine zq_mk_M (by decide) (by simp [Value.category]) (Nat.le_of_ble_eq_true rfl) hAp (fun x hx hG hR => ?_)
  subst hx
  refine zr_iload_n hG zd_Grid_placeOf_0 rfl rfl ?_
  refine zr_aload_n hG zd_Grid_placeOf_1 rfl rfl ?_
  refine zf_Grid_area hG tk_42 zd_Grid_placeOf_2 ?_
  refine zr_icmp_ge hG 12 zd_Grid_placeOf_5 (by decide) (fun hc => ?_) (fun hc => ?_)
  · have h := h.1 hc
    refine zr_iload_n hG zd_Grid_placeOf_12 rfl rfl ?_
    refine zr_aload_n hG zd_Grid_placeOf_13 rfl rfl ?_
    refine zf_Grid_area hG tk_42 zd_Grid_placeOf_14 ?_
    refine zr_isub hG zd_Grid_placeOf_17 ?_
    exact zr_mask [false, false] (zt_Grid_placeOf_18 hG hR hAp h)
  · have h := h.2 hc
    refine zr_iload_n hG zd_Grid_placeOf_8 rfl rfl ?_
    refine zr_goto hG 18 zd_Grid_placeOf_9 (by decide) ?_
    exact zr_mask [false, false] (zt_Grid_placeOf_18 hG hR hAp h)
def zw_Layout_clear_44 (ln : Nat → Nat) (post : zS → Prop) (k2 : Int32 × Int32 × zS → Prop) (v1 v2 : Int32) (z : zS) : Prop := k2 (v1, (v2 + (1 : Int32)), z)
set_option maxHeartbeats 4000000 in
set_option maxRecDepth 100000 in
theorem zt_Layout_clear_44 {x : zC} {w : zW} {g : zS} {o : Nat → Int64} {post : zS → Prop} (hG : zq_G x w "GridRouter$Layout" zc_Layout_clear 3 (zq_rm 1 21)) (hR : zq_R x w (zq_A w) none (zq_Pv g o post)) (hAp : zq_Ap w) (hW : zq_Wr x w) {k2 : Int32 × Int32 × zS → Prop} (hk2 : ∀ b : Int32 × Int32 × zS, k2 b → zq_W x w 0 0 (b.2.2, g, o) 2 [some (.ref (w.2.1 9)), some (.int (b.1)), some (.int (b.2.1))] []) {v1 v2 : Int32} {z : zS} (h : zw_Layout_clear_44 w.2.2.1 post k2 v1 v2 z) : zq_W x w 0 0 (z, g, o) 44 [some (.ref (w.2.1 9)), some (.int v1), some (.int v2)] [] := by
  refine zr_iinc hG (u := (1 : Int32)) [some (.ref (w.2.1 9)), some (.int v1), some (.int (v2 + (1 : Int32)))] zd_Layout_clear_44 rfl (by decide) (Nat.le_of_ble_eq_true rfl) rfl ?_
  refine zr_goto hG 2 zd_Layout_clear_47 (by decide) ?_
  have h := hk2 _ h
  exact h
def zw_Layout_clear_2 (ln : Nat → Nat) (post : zS → Prop) (k2 : Int32 × Int32 × zS → Prop) : Int32 × Int32 × zS → Prop := fun b => match b with
  | (v1, v2, z) => (((z.1 3) ≤ v2 → post z) ∧ (¬ (z.1 3) ≤ v2 → vp_in v2 (ln 6) ∧ ((¬ (z.2 6 v2.toNatClampNeg) = v1 → zw_Layout_clear_44 ln post k2 v1 v2 z) ∧ ((z.2 6 v2.toNatClampNeg) = v1 → vp_in v2 (ln 6) ∧ (zw_Grid_placeOf ln v2 (zs_a z 6 v2 (-1 : Int32)) (fun r154 z154 => vp_in r154 (ln 7) ∧ zw_Layout_clear_44 ln post k2 v1 v2 (zs_a z154 7 r154 (vp_nar .boolean (0 : Int32)))))))))
set_option maxHeartbeats 4000000 in
set_option maxRecDepth 100000 in
theorem zt_Layout_clear_2 {x : zC} {w : zW} {g : zS} {o : Nat → Int64} {post : zS → Prop} (hG : zq_G x w "GridRouter$Layout" zc_Layout_clear 3 (zq_rm 1 21)) (hR : zq_R x w (zq_A w) none (zq_Pv g o post)) (hAp : zq_Ap w) (hW : zq_Wr x w) {v1 v2 : Int32} {z : zS} (h : zq_Lp (zw_Layout_clear_2 w.2.2.1 post) (v1, v2, z)) : zq_W x w 0 0 (z, g, o) 2 [some (.ref (w.2.1 9)), some (.int v1), some (.int v2)] [] := by
  refine zq_Lp_W (WW := fun b => zq_W x w 0 0 (b.2.2, g, o) 2 [some (.ref (w.2.1 9)), some (.int (b.1)), some (.int (b.2.1))] []) (fun k2 hk2 b h => ?_) h
  obtain ⟨v1, v2, z⟩ := b
  show zq_W x w 0 0 (z, g, o) 2 [some (.ref (w.2.1 9)), some (.int v1), some (.int v2)] []
  refine zr_iload_n hG zd_Layout_clear_2 rfl rfl ?_
  refine zr_aload_n hG zd_Layout_clear_3 rfl rfl ?_
  refine zf_Layout_grid hG tk_131 zd_Layout_clear_4 ?_
  refine zf_Grid_cells hG tk_45 zd_Layout_clear_7 ?_
  refine zr_icmp_ge hG 50 zd_Layout_clear_10 (by decide) (fun hc => ?_) (fun hc => ?_)
  · have h := h.1 hc
    exact zr_vret hG hR zd_Layout_clear_50 ⟨_, rfl, rfl, h⟩
  · have h := h.2 hc
    refine zr_aload_n hG zd_Layout_clear_13 rfl rfl ?_
    refine zf_Layout_owner hG tk_121 zd_Layout_clear_14 ?_
    refine zr_iload_n hG zd_Layout_clear_17 rfl rfl ?_
    obtain ⟨hi, h⟩ := h
    refine zl_10 hG hi zd_Layout_clear_18 ?_
    refine zr_iload_n hG zd_Layout_clear_19 rfl rfl ?_
    refine zr_icmp_ne hG 44 zd_Layout_clear_20 (by decide) (fun hc => ?_) (fun hc => ?_)
    · have h := h.1 hc
      exact zt_Layout_clear_44 hG hR hAp hW hk2 h
    · have h := h.2 hc
      refine zr_aload_n hG zd_Layout_clear_23 rfl rfl ?_
      refine zf_Layout_owner hG tk_121 zd_Layout_clear_24 ?_
      refine zr_iload_n hG zd_Layout_clear_27 rfl rfl ?_
      refine zr_iconst hG (v := (-1 : Int32)) zd_Layout_clear_28 (by decide) ?_
      obtain ⟨hi, h⟩ := h
      refine zu_10 hG hW hi zd_Layout_clear_29 ?_
      refine zr_aload_n hG zd_Layout_clear_30 rfl rfl ?_
      refine zf_Layout_vias hG tk_127 zd_Layout_clear_31 ?_
      refine zr_aload_n hG zd_Layout_clear_34 rfl rfl ?_
      refine zf_Layout_grid hG tk_131 zd_Layout_clear_35 ?_
      refine zr_iload_n hG zd_Layout_clear_38 rfl rfl ?_
      refine zr_callV hG zq_F0 (As := [.int v2]) (rest := [.ref (w.2.1 11)]) (zm_Grid_placeOf (zc_l x) w hAp g o h) 1 rfl rfl rfl zg_Layout_49 zdd_Grid_placeOf ⟨rfl, rfl, by decide, by decide⟩ ⟨by decide, by decide⟩ rfl (Nat.le_of_ble_eq_true rfl) zd_Layout_clear_39 rfl ?_
      rintro _ _ ⟨r154, z154, rfl, rfl, h⟩
      refine zr_iconst hG (v := (0 : Int32)) zd_Layout_clear_42 (by decide) ?_
      obtain ⟨hi, h⟩ := h
      refine zu_11 hG hW hi zd_Layout_clear_43 ?_
      exact zt_Layout_clear_44 hG hR hAp hW hk2 h
def zw_Layout_clear (ln : Nat → Nat) (a1 : Int32) (z : zS) (post : zS → Prop) : Prop := zq_Lp (zw_Layout_clear_2 ln post) (a1, (0 : Int32), z)
set_option maxHeartbeats 4000000 in
set_option maxRecDepth 100000 in
theorem zm_Layout_clear (l : Launch) (w : zW) (hAp : zq_Ap w) (g : zS) (o : Nat → Int64) {a1 : Int32} {z : zS} {post : zS → Prop} (h : zw_Layout_clear w.2.2.1 a1 z post) : zq_M l w (zq_A w) zy_Layout_clear zc_Layout_clear 3 none (zq_rm 1 21) [.ref (w.2.1 9), .int a1] (z, g, o) (zq_Pv g o post) := by
  refine zq_mk_M (by decide) (by simp [Value.category]) (Nat.le_of_ble_eq_true rfl) hAp (fun x hx hG hR => ?_)
  subst hx
  have hW := zq_wr hR.2.2.1
  refine zr_iconst hG (v := (0 : Int32)) zd_Layout_clear_0 (by decide) ?_
  refine zr_istore_n hG [some (.ref (w.2.1 9)), some (.int a1), some (.int (0 : Int32))] zd_Layout_clear_1 rfl (Nat.le_of_ble_eq_true rfl) rfl ?_
  exact zt_Layout_clear_2 hG hR hAp hW h
def zw_Layout_restorePins (ln : Nat → Nat) (a1 : Int32) (z : zS) (post : zS → Prop) : Prop := vp_in a1 (ln 3) ∧ vp_in (z.2 3 a1.toNatClampNeg) (ln 6) ∧ vp_in a1 (ln 4) ∧ vp_in ((zs_a z 6 (z.2 3 a1.toNatClampNeg) a1).2 4 a1.toNatClampNeg) (ln 6) ∧ post (zs_a (zs_a z 6 (z.2 3 a1.toNatClampNeg) a1) 6 ((zs_a z 6 (z.2 3 a1.toNatClampNeg) a1).2 4 a1.toNatClampNeg) a1)
set_option maxHeartbeats 4000000 in
set_option maxRecDepth 100000 in
theorem zm_Layout_restorePins (l : Launch) (w : zW) (hAp : zq_Ap w) (g : zS) (o : Nat → Int64) {a1 : Int32} {z : zS} {post : zS → Prop} (h : zw_Layout_restorePins w.2.2.1 a1 z post) : zq_M l w (zq_A w) zy_Layout_restorePins zc_Layout_restorePins 2 none (zq_rm 0 0) [.ref (w.2.1 9), .int a1] (z, g, o) (zq_Pv g o post) := by
  refine zq_mk_M (by decide) (by simp [Value.category]) (Nat.le_of_ble_eq_true rfl) hAp (fun x hx hG hR => ?_)
  subst hx
  have hW := zq_wr hR.2.2.1
  refine zr_aload_n hG zd_Layout_restorePins_0 rfl rfl ?_
  refine zf_Layout_owner hG tk_121 zd_Layout_restorePins_1 ?_
  refine zr_aload_n hG zd_Layout_restorePins_4 rfl rfl ?_
  refine zf_Layout_nets hG tk_132 zd_Layout_restorePins_5 ?_
  refine zf_Nets_first hG tk_87 zd_Layout_restorePins_8 ?_
  refine zr_iload_n hG zd_Layout_restorePins_11 rfl rfl ?_
  obtain ⟨hi, h⟩ := h
  refine zl_6 hG hi zd_Layout_restorePins_12 ?_
  refine zr_iload_n hG zd_Layout_restorePins_13 rfl rfl ?_
  obtain ⟨hi, h⟩ := h
  refine zu_10 hG hW hi zd_Layout_restorePins_14 ?_
  refine zr_aload_n hG zd_Layout_restorePins_15 rfl rfl ?_
  refine zf_Layout_owner hG tk_121 zd_Layout_restorePins_16 ?_
  refine zr_aload_n hG zd_Layout_restorePins_19 rfl rfl ?_
  refine zf_Layout_nets hG tk_132 zd_Layout_restorePins_20 ?_
  refine zf_Nets_second hG tk_91 zd_Layout_restorePins_23 ?_
  refine zr_iload_n hG zd_Layout_restorePins_26 rfl rfl ?_
  obtain ⟨hi, h⟩ := h
  refine zl_7 hG hi zd_Layout_restorePins_27 ?_
  refine zr_iload_n hG zd_Layout_restorePins_28 rfl rfl ?_
  obtain ⟨hi, h⟩ := h
  refine zu_10 hG hW hi zd_Layout_restorePins_29 ?_
  exact zr_vret hG hR zd_Layout_restorePins_30 ⟨_, rfl, rfl, h⟩
def zw_Layout_strip (ln : Nat → Nat) (a1 : Int32) (z : zS) (post : zS → Prop) : Prop := (zw_Layout_clear ln a1 z (fun z152 => (zw_Layout_restorePins ln a1 z152 (fun z153 => post z153))))
set_option maxHeartbeats 4000000 in
set_option maxRecDepth 100000 in
theorem zm_Layout_strip (l : Launch) (w : zW) (hAp : zq_Ap w) (g : zS) (o : Nat → Int64) {a1 : Int32} {z : zS} {post : zS → Prop} (h : zw_Layout_strip w.2.2.1 a1 z post) : zq_M l w (zq_A w) zy_Layout_strip zc_Layout_strip 2 none (zq_rm 2 43) [.ref (w.2.1 9), .int a1] (z, g, o) (zq_Pv g o post) := by
  refine zq_mk_M (by decide) (by simp [Value.category]) (Nat.le_of_ble_eq_true rfl) hAp (fun x hx hG hR => ?_)
  subst hx
  have hW := zq_wr hR.2.2.1
  have h : (zw_Layout_clear w.2.2.1 a1 z (fun z152 => (zw_Layout_restorePins w.2.2.1 a1 z152 (fun z153 => post z153)))) := h
  refine zr_aload_n hG zd_Layout_strip_0 rfl rfl ?_
  refine zr_iload_n hG zd_Layout_strip_1 rfl rfl ?_
  refine zr_callV hG (zq_F1 hW) (As := [.int a1]) (rest := []) (zm_Layout_clear (zc_l x) w hAp g o h) 9 rfl rfl rfl zg_Layout_42 zdd_Layout_clear ⟨rfl, rfl, by decide, by decide⟩ ⟨by decide, by decide⟩ rfl (Nat.le_of_ble_eq_true rfl) zd_Layout_strip_2 rfl ?_
  rintro _ _ ⟨z152, rfl, rfl, h⟩
  refine zr_aload_n hG zd_Layout_strip_5 rfl rfl ?_
  refine zr_iload_n hG zd_Layout_strip_6 rfl rfl ?_
  refine zr_callV hG (zq_F1 hW) (As := [.int a1]) (rest := []) (zm_Layout_restorePins (zc_l x) w hAp g o h) 9 rfl rfl rfl zg_Layout_46 zdd_Layout_restorePins ⟨rfl, rfl, by decide, by decide⟩ ⟨by decide, by decide⟩ rfl (Nat.le_of_ble_eq_true rfl) zd_Layout_strip_7 rfl ?_
  rintro _ _ ⟨z153, rfl, rfl, h⟩
  exact zr_vret hG hR zd_Layout_strip_10 ⟨_, rfl, rfl, h⟩
def zw_Grid_next (ln : Nat → Nat) (a1 a2 : Int32) (z : zS) (post : Int32 → zS → Prop) : Prop := vp_in ((a1 * (5 : Int32)) + a2) (ln 2) ∧ post (z.2 2 ((a1 * (5 : Int32)) + a2).toNatClampNeg) z
set_option maxHeartbeats 4000000 in
set_option maxRecDepth 100000 in
theorem zm_Grid_next (l : Launch) (w : zW) (hAp : zq_Ap w) (g : zS) (o : Nat → Int64) {a1 a2 : Int32} {z : zS} {post : Int32 → zS → Prop} (h : zw_Grid_next w.2.2.1 a1 a2 z post) : zq_M l w zq_0 zy_Grid_next zc_Grid_next 3 (some .int) (zq_rm 0 0) [.ref (w.2.1 1), .int a1, .int a2] (z, g, o) (zq_Pi g o post) := by
  refine zq_mk_M (by decide) (by simp [Value.category]) (Nat.le_of_ble_eq_true rfl) hAp (fun x hx hG hR => ?_)
  subst hx
  refine zr_aload_n hG zd_Grid_next_0 rfl rfl ?_
  refine zf_Grid_beside hG tk_58 zd_Grid_next_1 ?_
  refine zr_iload_n hG zd_Grid_next_4 rfl rfl ?_
  refine zr_iconst hG (v := (5 : Int32)) zd_Grid_next_5 (by decide) ?_
  refine zr_imul hG zd_Grid_next_6 ?_
  refine zr_iload_n hG zd_Grid_next_7 rfl rfl ?_
  refine zr_iadd hG zd_Grid_next_8 ?_
  obtain ⟨hi, h⟩ := h
  refine zl_4 hG hi zd_Grid_next_9 ?_
  exact zr_iret hG hR zd_Grid_next_10 ⟨_, _, rfl, rfl, h⟩
def zw_Router_layWay_77 (ln : Nat → Nat) (post : zS → Prop) (k2 : Int32 × Int32 × zS → Prop) (v1 v2 : Int32) (z : zS) : Prop := k2 (v1, (v2 + (1 : Int32)), z)
set_option maxHeartbeats 4000000 in
set_option maxRecDepth 100000 in
theorem zt_Router_layWay_77 {x : zC} {w : zW} {g : zS} {o : Nat → Int64} {post : zS → Prop} (hG : zq_G x w "GridRouter$Router" zc_Router_layWay 4 (zq_rm 1 22)) (hR : zq_R x w (zq_A w) none (zq_Pv g o post)) (hAp : zq_Ap w) (hW : zq_Wr x w) {k2 : Int32 × Int32 × zS → Prop} (hk2 : ∀ b : Int32 × Int32 × zS, k2 b → zq_W x w 0 0 (b.2.2, g, o) 2 [some (.ref (w.2.1 17)), some (.int (b.1)), some (.int (b.2.1)), none] []) {v1 v2 : Int32} {z : zS} (h : zw_Router_layWay_77 w.2.2.1 post k2 v1 v2 z) : zq_W x w 0 0 (z, g, o) 77 [some (.ref (w.2.1 17)), some (.int v1), some (.int v2), none] [] := by
  refine zr_iinc hG (u := (1 : Int32)) [some (.ref (w.2.1 17)), some (.int v1), some (.int (v2 + (1 : Int32))), none] zd_Router_layWay_77 rfl (by decide) (Nat.le_of_ble_eq_true rfl) rfl ?_
  refine zr_goto hG 2 zd_Router_layWay_80 (by decide) ?_
  have h := hk2 _ h
  exact h
def zw_Router_layWay_2 (ln : Nat → Nat) (post : zS → Prop) (k2 : Int32 × Int32 × zS → Prop) : Int32 × Int32 × zS → Prop := fun b => match b with
  | (v1, v2, z) => (((z.1 7) ≤ v2 → post z) ∧ (¬ (z.1 7) ≤ v2 → vp_in v2 (ln 12) ∧ vp_in (z.2 12 v2.toNatClampNeg) (ln 6) ∧ ((v2 ≤ 0 → zw_Router_layWay_77 ln post k2 v1 v2 (zs_a z 6 (z.2 12 v2.toNatClampNeg) v1)) ∧ (¬ v2 ≤ 0 → (zw_Grid_next ln (z.2 12 v2.toNatClampNeg) (4 : Int32) (zs_a z 6 (z.2 12 v2.toNatClampNeg) v1) (fun r171 z171 => vp_in (v2 - (1 : Int32)) (ln 12) ∧ ((¬ r171 = (z171.2 12 (v2 - (1 : Int32)).toNatClampNeg) → zw_Router_layWay_77 ln post k2 v1 v2 z171) ∧ (r171 = (z171.2 12 (v2 - (1 : Int32)).toNatClampNeg) → (zw_Grid_placeOf ln (z.2 12 v2.toNatClampNeg) z171 (fun r172 z172 => vp_in r172 (ln 7) ∧ zw_Router_layWay_77 ln post k2 v1 v2 (zs_a z172 7 r172 (vp_nar .boolean (1 : Int32)))))))))))))
set_option maxHeartbeats 4000000 in
set_option maxRecDepth 100000 in
theorem zt_Router_layWay_2 {x : zC} {w : zW} {g : zS} {o : Nat → Int64} {post : zS → Prop} (hG : zq_G x w "GridRouter$Router" zc_Router_layWay 4 (zq_rm 1 22)) (hR : zq_R x w (zq_A w) none (zq_Pv g o post)) (hAp : zq_Ap w) (hW : zq_Wr x w) {v1 v2 : Int32} {z : zS} (h : zq_Lp (zw_Router_layWay_2 w.2.2.1 post) (v1, v2, z)) : zq_W x w 0 0 (z, g, o) 2 [some (.ref (w.2.1 17)), some (.int v1), some (.int v2), none] [] := by
  refine zq_Lp_W (WW := fun b => zq_W x w 0 0 (b.2.2, g, o) 2 [some (.ref (w.2.1 17)), some (.int (b.1)), some (.int (b.2.1)), none] []) (fun k2 hk2 b h => ?_) h
  obtain ⟨v1, v2, z⟩ := b
  show zq_W x w 0 0 (z, g, o) 2 [some (.ref (w.2.1 17)), some (.int v1), some (.int v2), none] []
  refine zr_iload_n hG zd_Router_layWay_2 rfl rfl ?_
  refine zr_aload_n hG zd_Router_layWay_3 rfl rfl ?_
  refine zf_Router_finder hG tk_266 zd_Router_layWay_4 ?_
  refine zf_WayFinder_length hG tk_225 zd_Router_layWay_7 ?_
  refine zr_icmp_ge hG 83 zd_Router_layWay_10 (by decide) (fun hc => ?_) (fun hc => ?_)
  · have h := h.1 hc
    exact zr_vret hG hR zd_Router_layWay_83 ⟨_, rfl, rfl, h⟩
  · have h := h.2 hc
    refine zr_aload_n hG zd_Router_layWay_13 rfl rfl ?_
    refine zf_Router_finder hG tk_266 zd_Router_layWay_14 ?_
    refine zf_WayFinder_way hG tk_223 zd_Router_layWay_17 ?_
    refine zr_iload_n hG zd_Router_layWay_20 rfl rfl ?_
    obtain ⟨hi, h⟩ := h
    refine zl_22 hG hi zd_Router_layWay_21 ?_
    refine zr_istore_n hG [some (.ref (w.2.1 17)), some (.int v1), some (.int v2), some (.int (z.2 12 v2.toNatClampNeg))] zd_Router_layWay_22 rfl (Nat.le_of_ble_eq_true rfl) rfl ?_
    refine zr_aload_n hG zd_Router_layWay_23 rfl rfl ?_
    refine zf_Router_layout hG tk_262 zd_Router_layWay_24 ?_
    refine zf_Layout_owner hG tk_125 zd_Router_layWay_27 ?_
    refine zr_iload_n hG zd_Router_layWay_30 rfl rfl ?_
    refine zr_iload_n hG zd_Router_layWay_31 rfl rfl ?_
    obtain ⟨hi, h⟩ := h
    refine zu_10 hG hW hi zd_Router_layWay_32 ?_
    refine zr_iload_n hG zd_Router_layWay_33 rfl rfl ?_
    refine zr_if_le hG 77 zd_Router_layWay_34 (by decide) (fun hc => ?_) (fun hc => ?_)
    · have h := h.1 hc
      exact zr_mask [true, true, true, false] (zt_Router_layWay_77 hG hR hAp hW hk2 h)
    · have h := h.2 hc
      refine zr_aload_n hG zd_Router_layWay_37 rfl rfl ?_
      refine zf_Router_grid hG tk_263 zd_Router_layWay_38 ?_
      refine zr_iload_n hG zd_Router_layWay_41 rfl rfl ?_
      refine zr_iconst hG (v := (4 : Int32)) zd_Router_layWay_42 (by decide) ?_
      refine zr_callV hG zq_F0 (As := [.int (z.2 12 v2.toNatClampNeg), .int (4 : Int32)]) (rest := []) (zm_Grid_next (zc_l x) w hAp g o h) 1 rfl rfl rfl zg_Router_83 zdd_Grid_next ⟨rfl, rfl, by decide, by decide⟩ ⟨by decide, by decide⟩ rfl (Nat.le_of_ble_eq_true rfl) zd_Router_layWay_43 rfl ?_
      rintro _ _ ⟨r171, z171, rfl, rfl, h⟩
      refine zr_aload_n hG zd_Router_layWay_46 rfl rfl ?_
      refine zf_Router_finder hG tk_266 zd_Router_layWay_47 ?_
      refine zf_WayFinder_way hG tk_223 zd_Router_layWay_50 ?_
      refine zr_iload_n hG zd_Router_layWay_53 rfl rfl ?_
      refine zr_iconst hG (v := (1 : Int32)) zd_Router_layWay_54 (by decide) ?_
      refine zr_isub hG zd_Router_layWay_55 ?_
      obtain ⟨hi, h⟩ := h
      refine zl_22 hG hi zd_Router_layWay_56 ?_
      refine zr_icmp_ne hG 77 zd_Router_layWay_57 (by decide) (fun hc => ?_) (fun hc => ?_)
      · have h := h.1 hc
        exact zr_mask [true, true, true, false] (zt_Router_layWay_77 hG hR hAp hW hk2 h)
      · have h := h.2 hc
        refine zr_aload_n hG zd_Router_layWay_60 rfl rfl ?_
        refine zf_Router_layout hG tk_262 zd_Router_layWay_61 ?_
        refine zf_Layout_vias hG tk_128 zd_Router_layWay_64 ?_
        refine zr_aload_n hG zd_Router_layWay_67 rfl rfl ?_
        refine zf_Router_grid hG tk_263 zd_Router_layWay_68 ?_
        refine zr_iload_n hG zd_Router_layWay_71 rfl rfl ?_
        refine zr_callV hG zq_F0 (As := [.int (z.2 12 v2.toNatClampNeg)]) (rest := [.ref (w.2.1 11)]) (zm_Grid_placeOf (zc_l x) w hAp g o h) 1 rfl rfl rfl zg_Router_90 zdd_Grid_placeOf ⟨rfl, rfl, by decide, by decide⟩ ⟨by decide, by decide⟩ rfl (Nat.le_of_ble_eq_true rfl) zd_Router_layWay_72 rfl ?_
        rintro _ _ ⟨r172, z172, rfl, rfl, h⟩
        refine zr_iconst hG (v := (1 : Int32)) zd_Router_layWay_75 (by decide) ?_
        obtain ⟨hi, h⟩ := h
        refine zu_11 hG hW hi zd_Router_layWay_76 ?_
        exact zr_mask [true, true, true, false] (zt_Router_layWay_77 hG hR hAp hW hk2 h)
def zw_Router_layWay (ln : Nat → Nat) (a1 : Int32) (z : zS) (post : zS → Prop) : Prop := zq_Lp (zw_Router_layWay_2 ln post) (a1, (0 : Int32), z)
set_option maxHeartbeats 4000000 in
set_option maxRecDepth 100000 in
theorem zm_Router_layWay (l : Launch) (w : zW) (hAp : zq_Ap w) (g : zS) (o : Nat → Int64) {a1 : Int32} {z : zS} {post : zS → Prop} (h : zw_Router_layWay w.2.2.1 a1 z post) : zq_M l w (zq_A w) zy_Router_layWay zc_Router_layWay 4 none (zq_rm 1 22) [.ref (w.2.1 17), .int a1] (z, g, o) (zq_Pv g o post) := by
  refine zq_mk_M (by decide) (by simp [Value.category]) (Nat.le_of_ble_eq_true rfl) hAp (fun x hx hG hR => ?_)
  subst hx
  have hW := zq_wr hR.2.2.1
  refine zr_iconst hG (v := (0 : Int32)) zd_Router_layWay_0 (by decide) ?_
  refine zr_istore_n hG [some (.ref (w.2.1 17)), some (.int a1), some (.int (0 : Int32)), none] zd_Router_layWay_1 rfl (Nat.le_of_ble_eq_true rfl) rfl ?_
  exact zt_Router_layWay_2 hG hR hAp hW h
