def zw_Gr_all_10 (ln : Nat → Nat) (post : Int32 → zS → Prop) (z : zS) : Prop := False
set_option maxHeartbeats 4000000 in
set_option maxRecDepth 100000 in
theorem zt_Gr_all_10 {x : zC} {w : zW} {g : zS} {o : Nat → Int64} {post : Int32 → zS → Prop} (hG : zq_G x w "GridRouter" zc_Gr_all 3 (zq_rm 6 140)) (hR : zq_R x w (zq_A w) (some .int) (zq_Pi g o post)) (hAp : zq_Ap w) (hW : zq_Wr x w) {z : zS} (h : zw_Gr_all_10 w.2.2.1 post z) : zq_W x w 0 0 (z, g, o) 10 [none, none, none] [] := by
  exact h.elim
def zw_Gr_all (ln : Nat → Nat) (a1 a2 : Int32) (z : zS) (post : Int32 → zS → Prop) : Prop := ((a2 < 0 → zw_Gr_all_10 ln post z) ∧ (¬ a2 < 0 → ((a2 ≤ (20 : Int32) → (zw_Router_lineUp ln a1 z (fun z24 => (zw_Router_serveLine ln a2 z24 (fun z25 => (zw_Router_retryLoose ln z25 (fun z26 => (zw_Checker_loose ln z26 (fun r27 z27 => post ((z26.1 4) - r27) z27))))))))) ∧ (¬ a2 ≤ (20 : Int32) → zw_Gr_all_10 ln post z))))
set_option maxHeartbeats 4000000 in
set_option maxRecDepth 100000 in
theorem zm_Gr_all (l : Launch) (w : zW) (hAp : zq_Ap w) (g : zS) (o : Nat → Int64) {a1 a2 : Int32} {z : zS} {post : Int32 → zS → Prop} (h : zw_Gr_all w.2.2.1 a1 a2 z post) : zq_M l w (zq_A w) zy_Gr_all zc_Gr_all 3 (some .int) (zq_rm 6 140) [.ref (w.2.1 0), .int a1, .int a2] (z, g, o) (zq_Pi g o post) := by
  refine zq_mk_M (by decide) (by simp [Value.category]) (Nat.le_of_ble_eq_true rfl) hAp (fun x hx hG hR => ?_)
  subst hx
  have hW := zq_wr hR.2.2.1
  refine zr_iload_n hG zd_Gr_all_0 rfl rfl ?_
  refine zr_if_lt hG 10 zd_Gr_all_1 (by decide) (fun hc => ?_) (fun hc => ?_)
  · have h := h.1 hc
    exact zr_mask [false, false, false] (zt_Gr_all_10 hG hR hAp hW h)
  · have h := h.2 hc
    refine zr_iload_n hG zd_Gr_all_4 rfl rfl ?_
    refine zr_bipush hG (v := (20 : Int32)) zd_Gr_all_5 (by decide) ?_
    refine zr_icmp_le hG 20 zd_Gr_all_7 (by decide) (fun hc => ?_) (fun hc => ?_)
    · have h := h.1 hc
      refine zr_aload_n hG zd_Gr_all_20 rfl rfl ?_
      refine zf_Gr_router hG tk_303 zd_Gr_all_21 ?_
      refine zr_iload_n hG zd_Gr_all_24 rfl rfl ?_
      refine zr_callV hG (zq_F1 hW) (As := [.int a1]) (rest := []) (zm_Router_lineUp (zc_l x) w hAp g o h) 17 rfl rfl rfl zg_Gr_137 zdd_Router_lineUp ⟨rfl, rfl, by decide, by decide⟩ ⟨by decide, by decide⟩ rfl (Nat.le_of_ble_eq_true rfl) zd_Gr_all_25 rfl ?_
      rintro _ _ ⟨z24, rfl, rfl, h⟩
      refine zr_aload_n hG zd_Gr_all_28 rfl rfl ?_
      refine zf_Gr_router hG tk_303 zd_Gr_all_29 ?_
      refine zr_iload_n hG zd_Gr_all_32 rfl rfl ?_
      refine zr_callV hG (zq_F1 hW) (As := [.int a2]) (rest := []) (zm_Router_serveLine (zc_l x) w hAp g o h) 17 rfl rfl rfl zg_Gr_141 zdd_Router_serveLine ⟨rfl, rfl, by decide, by decide⟩ ⟨by decide, by decide⟩ rfl (Nat.le_of_ble_eq_true rfl) zd_Gr_all_33 rfl ?_
      rintro _ _ ⟨z25, rfl, rfl, h⟩
      refine zr_aload_n hG zd_Gr_all_36 rfl rfl ?_
      refine zf_Gr_router hG tk_303 zd_Gr_all_37 ?_
      refine zr_callV hG (zq_F1 hW) (As := []) (rest := []) (zm_Router_retryLoose (zc_l x) w hAp g o h) 17 rfl rfl rfl zg_Gr_145 zdd_Router_retryLoose ⟨rfl, rfl, by decide, by decide⟩ ⟨by decide, by decide⟩ rfl (Nat.le_of_ble_eq_true rfl) zd_Gr_all_40 rfl ?_
      rintro _ _ ⟨z26, rfl, rfl, h⟩
      refine zr_aload_n hG zd_Gr_all_43 rfl rfl ?_
      refine zf_Gr_nets hG tk_300 zd_Gr_all_44 ?_
      refine zf_Nets_count hG tk_99 zd_Gr_all_47 ?_
      refine zr_aload_n hG zd_Gr_all_50 rfl rfl ?_
      refine zf_Gr_checker hG tk_304 zd_Gr_all_51 ?_
      refine zr_callV hG (zq_F1 hW) (As := []) (rest := [.int (z26.1 4)]) (zm_Checker_loose (zc_l x) w hAp g o h) 14 rfl rfl rfl zg_Gr_148 zdd_Checker_loose ⟨rfl, rfl, by decide, by decide⟩ ⟨by decide, by decide⟩ rfl (Nat.le_of_ble_eq_true rfl) zd_Gr_all_54 rfl ?_
      rintro _ _ ⟨r27, z27, rfl, rfl, h⟩
      refine zr_isub hG zd_Gr_all_57 ?_
      exact zr_iret hG hR zd_Gr_all_58 ⟨_, _, rfl, rfl, h⟩
    · have h := h.2 hc
      exact zr_mask [false, false, false] (zt_Gr_all_10 hG hR hAp hW h)
def zw_Gr_rip (ln : Nat → Nat) (a1 : Int32) (z : zS) (post : zS → Prop) : Prop := (zw_Nets_has ln a1 z (fun r28 z28 => ((¬ r28 = 0 → (zw_Layout_strip ln a1 z28 (fun z29 => post z29))) ∧ (r28 = 0 → False))))
set_option maxHeartbeats 4000000 in
set_option maxRecDepth 100000 in
theorem zm_Gr_rip (l : Launch) (w : zW) (hAp : zq_Ap w) (g : zS) (o : Nat → Int64) {a1 : Int32} {z : zS} {post : zS → Prop} (h : zw_Gr_rip w.2.2.1 a1 z post) : zq_M l w (zq_A w) zy_Gr_rip zc_Gr_rip 2 none (zq_rm 6 110) [.ref (w.2.1 0), .int a1] (z, g, o) (zq_Pv g o post) := by
  refine zq_mk_M (by decide) (by simp [Value.category]) (Nat.le_of_ble_eq_true rfl) hAp (fun x hx hG hR => ?_)
  subst hx
  have hW := zq_wr hR.2.2.1
  have h : (zw_Nets_has w.2.2.1 a1 z (fun r28 z28 => ((¬ r28 = 0 → (zw_Layout_strip w.2.2.1 a1 z28 (fun z29 => post z29))) ∧ (r28 = 0 → False)))) := h
  refine zr_aload_n hG zd_Gr_rip_0 rfl rfl ?_
  refine zf_Gr_nets hG tk_300 zd_Gr_rip_1 ?_
  refine zr_iload_n hG zd_Gr_rip_4 rfl rfl ?_
  refine zr_callV hG zq_F0 (As := [.int a1]) (rest := []) (zm_Nets_has (zc_l x) w hAp g o h) 5 rfl rfl rfl zg_Gr_122 zdd_Nets_has ⟨rfl, rfl, by decide, by decide⟩ ⟨by decide, by decide⟩ rfl (Nat.le_of_ble_eq_true rfl) zd_Gr_rip_5 rfl ?_
  rintro _ _ ⟨r28, z28, rfl, rfl, h⟩
  refine zr_if_ne hG 21 zd_Gr_rip_8 (by decide) (fun hc => ?_) (fun hc => ?_)
  · have h := h.1 hc
    refine zr_aload_n hG zd_Gr_rip_21 rfl rfl ?_
    refine zf_Gr_layout hG tk_301 zd_Gr_rip_22 ?_
    refine zr_iload_n hG zd_Gr_rip_25 rfl rfl ?_
    refine zr_callV hG (zq_F1 hW) (As := [.int a1]) (rest := []) (zm_Layout_strip (zc_l x) w hAp g o h) 9 rfl rfl rfl zg_Gr_152 zdd_Layout_strip ⟨rfl, rfl, by decide, by decide⟩ ⟨by decide, by decide⟩ rfl (Nat.le_of_ble_eq_true rfl) zd_Gr_rip_26 rfl ?_
    rintro _ _ ⟨z29, rfl, rfl, h⟩
    exact zr_vret hG hR zd_Gr_rip_29 ⟨_, rfl, rfl, h⟩
  · have h := h.2 hc
    exact h.elim
def zw_Gr_paint_41 (ln : Nat → Nat) (post : zS → Prop) (v1 v2 v3 v4 : Int32) (z : zS) : Prop := (zw_Grid_cellAt ln v1 v2 v3 z (fun r31 z31 => vp_in r31 (ln 6) ∧ post (zs_a z31 6 r31 v4)))
set_option maxHeartbeats 4000000 in
set_option maxRecDepth 100000 in
theorem zt_Gr_paint_41 {x : zC} {w : zW} {g : zS} {o : Nat → Int64} {post : zS → Prop} (hG : zq_G x w "GridRouter" zc_Gr_paint 5 (zq_rm 6 110)) (hR : zq_R x w (zq_A w) none (zq_Pv g o post)) (hAp : zq_Ap w) (hW : zq_Wr x w) {v1 v2 v3 v4 : Int32} {z : zS} (h : zw_Gr_paint_41 w.2.2.1 post v1 v2 v3 v4 z) : zq_W x w 0 0 (z, g, o) 41 [some (.ref (w.2.1 0)), some (.int v1), some (.int v2), some (.int v3), some (.int v4)] [] := by
  have h : (zw_Grid_cellAt w.2.2.1 v1 v2 v3 z (fun r31 z31 => vp_in r31 (w.2.2.1 6) ∧ post (zs_a z31 6 r31 v4))) := h
  refine zr_aload_n hG zd_Gr_paint_41 rfl rfl ?_
  refine zf_Gr_layout hG tk_301 zd_Gr_paint_42 ?_
  refine zf_Layout_owner hG tk_124 zd_Gr_paint_45 ?_
  refine zr_aload_n hG zd_Gr_paint_48 rfl rfl ?_
  refine zf_Gr_grid hG tk_299 zd_Gr_paint_49 ?_
  refine zr_iload_n hG zd_Gr_paint_52 rfl rfl ?_
  refine zr_iload_n hG zd_Gr_paint_53 rfl rfl ?_
  refine zr_iload_n hG zd_Gr_paint_54 rfl rfl ?_
  refine zr_callV hG zq_F0 (As := [.int v1, .int v2, .int v3]) (rest := [.ref (w.2.1 10)]) (zm_Grid_cellAt (zc_l x) w hAp g o h) 1 rfl rfl rfl zg_Gr_83 zdd_Grid_cellAt ⟨rfl, rfl, by decide, by decide⟩ ⟨by decide, by decide⟩ rfl (Nat.le_of_ble_eq_true rfl) zd_Gr_paint_55 rfl ?_
  rintro _ _ ⟨r31, z31, rfl, rfl, h⟩
  refine zr_iload hG zd_Gr_paint_58 rfl ?_
  obtain ⟨hi, h⟩ := h
  refine zu_10 hG hW hi zd_Gr_paint_60 ?_
  exact zr_vret hG hR zd_Gr_paint_61 ⟨_, rfl, rfl, h⟩
def zw_Gr_paint_31 (ln : Nat → Nat) (post : zS → Prop) (z : zS) : Prop := False
set_option maxHeartbeats 4000000 in
set_option maxRecDepth 100000 in
theorem zt_Gr_paint_31 {x : zC} {w : zW} {g : zS} {o : Nat → Int64} {post : zS → Prop} (hG : zq_G x w "GridRouter" zc_Gr_paint 5 (zq_rm 6 110)) (hR : zq_R x w (zq_A w) none (zq_Pv g o post)) (hAp : zq_Ap w) (hW : zq_Wr x w) {z : zS} (h : zw_Gr_paint_31 w.2.2.1 post z) : zq_W x w 0 0 (z, g, o) 31 [none, none, none, none, none] [] := by
  exact h.elim
def zw_Gr_paint (ln : Nat → Nat) (a1 a2 a3 a4 : Int32) (z : zS) (post : zS → Prop) : Prop := (zw_Grid_hasCell ln a1 a2 a3 z (fun r32 z32 => ((r32 = 0 → zw_Gr_paint_31 ln post z32) ∧ (¬ r32 = 0 → ((a4 = (-1 : Int32) → zw_Gr_paint_41 ln post a1 a2 a3 a4 z32) ∧ (¬ a4 = (-1 : Int32) → (zw_Nets_has ln a4 z32 (fun r33 z33 => ((¬ r33 = 0 → zw_Gr_paint_41 ln post a1 a2 a3 a4 z33) ∧ (r33 = 0 → zw_Gr_paint_31 ln post z33))))))))))
set_option maxHeartbeats 4000000 in
set_option maxRecDepth 100000 in
theorem zm_Gr_paint (l : Launch) (w : zW) (hAp : zq_Ap w) (g : zS) (o : Nat → Int64) {a1 a2 a3 a4 : Int32} {z : zS} {post : zS → Prop} (h : zw_Gr_paint w.2.2.1 a1 a2 a3 a4 z post) : zq_M l w (zq_A w) zy_Gr_paint zc_Gr_paint 5 none (zq_rm 6 110) [.ref (w.2.1 0), .int a1, .int a2, .int a3, .int a4] (z, g, o) (zq_Pv g o post) := by
  refine zq_mk_M (by decide) (by simp [Value.category]) (Nat.le_of_ble_eq_true rfl) hAp (fun x hx hG hR => ?_)
  subst hx
  have hW := zq_wr hR.2.2.1
  have h : (zw_Grid_hasCell w.2.2.1 a1 a2 a3 z (fun r32 z32 => ((r32 = 0 → zw_Gr_paint_31 w.2.2.1 post z32) ∧ (¬ r32 = 0 → ((a4 = (-1 : Int32) → zw_Gr_paint_41 w.2.2.1 post a1 a2 a3 a4 z32) ∧ (¬ a4 = (-1 : Int32) → (zw_Nets_has w.2.2.1 a4 z32 (fun r33 z33 => ((¬ r33 = 0 → zw_Gr_paint_41 w.2.2.1 post a1 a2 a3 a4 z33) ∧ (r33 = 0 → zw_Gr_paint_31 w.2.2.1 post z33)))))))))) := h
  refine zr_aload_n hG zd_Gr_paint_0 rfl rfl ?_
  refine zf_Gr_grid hG tk_299 zd_Gr_paint_1 ?_
  refine zr_iload_n hG zd_Gr_paint_4 rfl rfl ?_
  refine zr_iload_n hG zd_Gr_paint_5 rfl rfl ?_
  refine zr_iload_n hG zd_Gr_paint_6 rfl rfl ?_
  refine zr_callV hG zq_F0 (As := [.int a1, .int a2, .int a3]) (rest := []) (zm_Grid_hasCell (zc_l x) w hAp g o h) 1 rfl rfl rfl zg_Gr_72 zdd_Grid_hasCell ⟨rfl, rfl, by decide, by decide⟩ ⟨by decide, by decide⟩ rfl (Nat.le_of_ble_eq_true rfl) zd_Gr_paint_7 rfl ?_
  rintro _ _ ⟨r32, z32, rfl, rfl, h⟩
  refine zr_if_eq hG 31 zd_Gr_paint_10 (by decide) (fun hc => ?_) (fun hc => ?_)
  · have h := h.1 hc
    exact zr_mask [false, false, false, false, false] (zt_Gr_paint_31 hG hR hAp hW h)
  · have h := h.2 hc
    refine zr_iload hG zd_Gr_paint_13 rfl ?_
    refine zr_iconst hG (v := (-1 : Int32)) zd_Gr_paint_15 (by decide) ?_
    refine zr_icmp_eq hG 41 zd_Gr_paint_16 (by decide) (fun hc => ?_) (fun hc => ?_)
    · have h := h.1 hc
      exact zt_Gr_paint_41 hG hR hAp hW h
    · have h := h.2 hc
      refine zr_aload_n hG zd_Gr_paint_19 rfl rfl ?_
      refine zf_Gr_nets hG tk_300 zd_Gr_paint_20 ?_
      refine zr_iload hG zd_Gr_paint_23 rfl ?_
      refine zr_callV hG zq_F0 (As := [.int a4]) (rest := []) (zm_Nets_has (zc_l x) w hAp g o h) 5 rfl rfl rfl zg_Gr_122 zdd_Nets_has ⟨rfl, rfl, by decide, by decide⟩ ⟨by decide, by decide⟩ rfl (Nat.le_of_ble_eq_true rfl) zd_Gr_paint_25 rfl ?_
      rintro _ _ ⟨r33, z33, rfl, rfl, h⟩
      refine zr_if_ne hG 41 zd_Gr_paint_28 (by decide) (fun hc => ?_) (fun hc => ?_)
      · have h := h.1 hc
        exact zt_Gr_paint_41 hG hR hAp hW h
      · have h := h.2 hc
        exact zr_mask [false, false, false, false, false] (zt_Gr_paint_31 hG hR hAp hW h)
def zw_Gr_stitch_58 (ln : Nat → Nat) (post : Int32 → zS → Prop) (v3 u0 u1 : Int32) (z : zS) : Prop := vp_in u1 (ln 7) ∧ vp_in v3 (ln 7) ∧ (narrow .boolean (.int ((zs_a z 7 u1 (vp_nar .boolean u0)).2 7 v3.toNatClampNeg)) = .int ((zs_a z 7 u1 (vp_nar .boolean u0)).2 7 v3.toNatClampNeg) ∧ post ((zs_a z 7 u1 (vp_nar .boolean u0)).2 7 v3.toNatClampNeg) (zs_a z 7 u1 (vp_nar .boolean u0)))
set_option maxHeartbeats 4000000 in
set_option maxRecDepth 100000 in
theorem zt_Gr_stitch_58 {x : zC} {w : zW} {g : zS} {o : Nat → Int64} {post : Int32 → zS → Prop} (hG : zq_G x w "GridRouter" zc_Gr_stitch 4 (zq_rm 6 110)) (hR : zq_R x w (zq_A w) (some .boolean) (zq_Pi g o post)) (hAp : zq_Ap w) (hW : zq_Wr x w) {v3 u0 u1 : Int32} {z : zS} (h : zw_Gr_stitch_58 w.2.2.1 post v3 u0 u1 z) : zq_W x w 0 0 (z, g, o) 58 [some (.ref (w.2.1 0)), none, none, some (.int v3)] [.int u0, .int u1, .ref (w.2.1 11)] := by
  obtain ⟨hi, h⟩ := h
  refine zu_11 hG hW hi zd_Gr_stitch_58 ?_
  refine zr_aload_n hG zd_Gr_stitch_59 rfl rfl ?_
  refine zf_Gr_layout hG tk_301 zd_Gr_stitch_60 ?_
  refine zf_Layout_vias hG tk_130 zd_Gr_stitch_63 ?_
  refine zr_iload_n hG zd_Gr_stitch_66 rfl rfl ?_
  obtain ⟨hi, h⟩ := h
  refine zl_11 hG hi zd_Gr_stitch_67 ?_
  obtain ⟨hn, h⟩ := h
  exact zr_zret hG hR zd_Gr_stitch_68 hn ⟨_, _, rfl, rfl, h⟩
def zw_Gr_stitch (ln : Nat → Nat) (a1 a2 : Int32) (z : zS) (post : Int32 → zS → Prop) : Prop := (zw_Grid_hasPlace ln a1 a2 z (fun r37 z37 => ((¬ r37 = 0 → (zw_Grid_cellAt ln (0 : Int32) a1 a2 z37 (fun r38 z38 => vp_in r38 (ln 7) ∧ ((¬ (z38.2 7 r38.toNatClampNeg) = 0 → zw_Gr_stitch_58 ln post r38 (0 : Int32) r38 z38) ∧ ((z38.2 7 r38.toNatClampNeg) = 0 → zw_Gr_stitch_58 ln post r38 (1 : Int32) r38 z38))))) ∧ (r37 = 0 → False))))
set_option maxHeartbeats 4000000 in
set_option maxRecDepth 100000 in
theorem zm_Gr_stitch (l : Launch) (w : zW) (hAp : zq_Ap w) (g : zS) (o : Nat → Int64) {a1 a2 : Int32} {z : zS} {post : Int32 → zS → Prop} (h : zw_Gr_stitch w.2.2.1 a1 a2 z post) : zq_M l w (zq_A w) zy_Gr_stitch zc_Gr_stitch 4 (some .boolean) (zq_rm 6 110) [.ref (w.2.1 0), .int a1, .int a2] (z, g, o) (zq_Pi g o post) := by
  refine zq_mk_M (by decide) (by simp [Value.category]) (Nat.le_of_ble_eq_true rfl) hAp (fun x hx hG hR => ?_)
  subst hx
  have hW := zq_wr hR.2.2.1
  have h : (zw_Grid_hasPlace w.2.2.1 a1 a2 z (fun r37 z37 => ((¬ r37 = 0 → (zw_Grid_cellAt w.2.2.1 (0 : Int32) a1 a2 z37 (fun r38 z38 => vp_in r38 (w.2.2.1 7) ∧ ((¬ (z38.2 7 r38.toNatClampNeg) = 0 → zw_Gr_stitch_58 w.2.2.1 post r38 (0 : Int32) r38 z38) ∧ ((z38.2 7 r38.toNatClampNeg) = 0 → zw_Gr_stitch_58 w.2.2.1 post r38 (1 : Int32) r38 z38))))) ∧ (r37 = 0 → False)))) := h
  refine zr_aload_n hG zd_Gr_stitch_0 rfl rfl ?_
  refine zf_Gr_grid hG tk_299 zd_Gr_stitch_1 ?_
  refine zr_iload_n hG zd_Gr_stitch_4 rfl rfl ?_
  refine zr_iload_n hG zd_Gr_stitch_5 rfl rfl ?_
  refine zr_callV hG zq_F0 (As := [.int a1, .int a2]) (rest := []) (zm_Grid_hasPlace (zc_l x) w hAp g o h) 1 rfl rfl rfl zg_Gr_157 zdd_Grid_hasPlace ⟨rfl, rfl, by decide, by decide⟩ ⟨by decide, by decide⟩ rfl (Nat.le_of_ble_eq_true rfl) zd_Gr_stitch_6 rfl ?_
  rintro _ _ ⟨r37, z37, rfl, rfl, h⟩
  refine zr_if_ne hG 22 zd_Gr_stitch_9 (by decide) (fun hc => ?_) (fun hc => ?_)
  · have h := h.1 hc
    refine zr_aload_n hG zd_Gr_stitch_22 rfl rfl ?_
    refine zf_Gr_grid hG tk_299 zd_Gr_stitch_23 ?_
    refine zr_iconst hG (v := (0 : Int32)) zd_Gr_stitch_26 (by decide) ?_
    refine zr_iload_n hG zd_Gr_stitch_27 rfl rfl ?_
    refine zr_iload_n hG zd_Gr_stitch_28 rfl rfl ?_
    refine zr_callV hG zq_F0 (As := [.int (0 : Int32), .int a1, .int a2]) (rest := []) (zm_Grid_cellAt (zc_l x) w hAp g o h) 1 rfl rfl rfl zg_Gr_83 zdd_Grid_cellAt ⟨rfl, rfl, by decide, by decide⟩ ⟨by decide, by decide⟩ rfl (Nat.le_of_ble_eq_true rfl) zd_Gr_stitch_29 rfl ?_
    rintro _ _ ⟨r38, z38, rfl, rfl, h⟩
    refine zr_istore_n hG [some (.ref (w.2.1 0)), some (.int a1), some (.int a2), some (.int r38)] zd_Gr_stitch_32 rfl (Nat.le_of_ble_eq_true rfl) rfl ?_
    refine zr_aload_n hG zd_Gr_stitch_33 rfl rfl ?_
    refine zf_Gr_layout hG tk_301 zd_Gr_stitch_34 ?_
    refine zf_Layout_vias hG tk_130 zd_Gr_stitch_37 ?_
    refine zr_iload_n hG zd_Gr_stitch_40 rfl rfl ?_
    refine zr_aload_n hG zd_Gr_stitch_41 rfl rfl ?_
    refine zf_Gr_layout hG tk_301 zd_Gr_stitch_42 ?_
    refine zf_Layout_vias hG tk_130 zd_Gr_stitch_45 ?_
    refine zr_iload_n hG zd_Gr_stitch_48 rfl rfl ?_
    obtain ⟨hi, h⟩ := h
    refine zl_11 hG hi zd_Gr_stitch_49 ?_
    refine zr_if_ne hG 57 zd_Gr_stitch_50 (by decide) (fun hc => ?_) (fun hc => ?_)
    · have h := h.1 hc
      refine zr_iconst hG (v := (0 : Int32)) zd_Gr_stitch_57 (by decide) ?_
      exact zr_mask [true, false, false, true] (zt_Gr_stitch_58 hG hR hAp hW h)
    · have h := h.2 hc
      refine zr_iconst hG (v := (1 : Int32)) zd_Gr_stitch_53 (by decide) ?_
      refine zr_goto hG 58 zd_Gr_stitch_54 (by decide) ?_
      exact zr_mask [true, false, false, true] (zt_Gr_stitch_58 hG hR hAp hW h)
  · have h := h.2 hc
    exact h.elim
def zw_Gr_cell (ln : Nat → Nat) (a1 a2 a3 : Int32) (z : zS) (post : Int32 → zS → Prop) : Prop := (zw_Grid_hasCell ln a1 a2 a3 z (fun r41 z41 => ((¬ r41 = 0 → (zw_Grid_cellAt ln a1 a2 a3 z41 (fun r42 z42 => vp_in r42 (ln 6) ∧ post (z42.2 6 r42.toNatClampNeg) z42))) ∧ (r41 = 0 → False))))
set_option maxHeartbeats 4000000 in
set_option maxRecDepth 100000 in
theorem zm_Gr_cell (l : Launch) (w : zW) (hAp : zq_Ap w) (g : zS) (o : Nat → Int64) {a1 a2 a3 : Int32} {z : zS} {post : Int32 → zS → Prop} (h : zw_Gr_cell w.2.2.1 a1 a2 a3 z post) : zq_M l w zq_0 zy_Gr_cell zc_Gr_cell 4 (some .int) (zq_rm 6 110) [.ref (w.2.1 0), .int a1, .int a2, .int a3] (z, g, o) (zq_Pi g o post) := by
  refine zq_mk_M (by decide) (by simp [Value.category]) (Nat.le_of_ble_eq_true rfl) hAp (fun x hx hG hR => ?_)
  subst hx
  have h : (zw_Grid_hasCell w.2.2.1 a1 a2 a3 z (fun r41 z41 => ((¬ r41 = 0 → (zw_Grid_cellAt w.2.2.1 a1 a2 a3 z41 (fun r42 z42 => vp_in r42 (w.2.2.1 6) ∧ post (z42.2 6 r42.toNatClampNeg) z42))) ∧ (r41 = 0 → False)))) := h
  refine zr_aload_n hG zd_Gr_cell_0 rfl rfl ?_
  refine zf_Gr_grid hG tk_299 zd_Gr_cell_1 ?_
  refine zr_iload_n hG zd_Gr_cell_4 rfl rfl ?_
  refine zr_iload_n hG zd_Gr_cell_5 rfl rfl ?_
  refine zr_iload_n hG zd_Gr_cell_6 rfl rfl ?_
  refine zr_callV hG zq_F0 (As := [.int a1, .int a2, .int a3]) (rest := []) (zm_Grid_hasCell (zc_l x) w hAp g o h) 1 rfl rfl rfl zg_Gr_72 zdd_Grid_hasCell ⟨rfl, rfl, by decide, by decide⟩ ⟨by decide, by decide⟩ rfl (Nat.le_of_ble_eq_true rfl) zd_Gr_cell_7 rfl ?_
  rintro _ _ ⟨r41, z41, rfl, rfl, h⟩
  refine zr_if_ne hG 23 zd_Gr_cell_10 (by decide) (fun hc => ?_) (fun hc => ?_)
  · have h := h.1 hc
    refine zr_aload_n hG zd_Gr_cell_23 rfl rfl ?_
    refine zf_Gr_layout hG tk_301 zd_Gr_cell_24 ?_
    refine zf_Layout_owner hG tk_124 zd_Gr_cell_27 ?_
    refine zr_aload_n hG zd_Gr_cell_30 rfl rfl ?_
    refine zf_Gr_grid hG tk_299 zd_Gr_cell_31 ?_
    refine zr_iload_n hG zd_Gr_cell_34 rfl rfl ?_
    refine zr_iload_n hG zd_Gr_cell_35 rfl rfl ?_
    refine zr_iload_n hG zd_Gr_cell_36 rfl rfl ?_
    refine zr_callV hG zq_F0 (As := [.int a1, .int a2, .int a3]) (rest := [.ref (w.2.1 10)]) (zm_Grid_cellAt (zc_l x) w hAp g o h) 1 rfl rfl rfl zg_Gr_83 zdd_Grid_cellAt ⟨rfl, rfl, by decide, by decide⟩ ⟨by decide, by decide⟩ rfl (Nat.le_of_ble_eq_true rfl) zd_Gr_cell_37 rfl ?_
    rintro _ _ ⟨r42, z42, rfl, rfl, h⟩
    obtain ⟨hi, h⟩ := h
    refine zl_10 hG hi zd_Gr_cell_40 ?_
    exact zr_iret hG hR zd_Gr_cell_41 ⟨_, _, rfl, rfl, h⟩
  · have h := h.2 hc
    exact h.elim
def zw_Gr_via (ln : Nat → Nat) (a1 a2 : Int32) (z : zS) (post : Int32 → zS → Prop) : Prop := (zw_Grid_hasPlace ln a1 a2 z (fun r45 z45 => ((¬ r45 = 0 → (zw_Grid_cellAt ln (0 : Int32) a1 a2 z45 (fun r46 z46 => vp_in r46 (ln 7) ∧ (narrow .boolean (.int (z46.2 7 r46.toNatClampNeg)) = .int (z46.2 7 r46.toNatClampNeg) ∧ post (z46.2 7 r46.toNatClampNeg) z46)))) ∧ (r45 = 0 → False))))
set_option maxHeartbeats 4000000 in
set_option maxRecDepth 100000 in
theorem zm_Gr_via (l : Launch) (w : zW) (hAp : zq_Ap w) (g : zS) (o : Nat → Int64) {a1 a2 : Int32} {z : zS} {post : Int32 → zS → Prop} (h : zw_Gr_via w.2.2.1 a1 a2 z post) : zq_M l w zq_0 zy_Gr_via zc_Gr_via 3 (some .boolean) (zq_rm 6 110) [.ref (w.2.1 0), .int a1, .int a2] (z, g, o) (zq_Pi g o post) := by
  refine zq_mk_M (by decide) (by simp [Value.category]) (Nat.le_of_ble_eq_true rfl) hAp (fun x hx hG hR => ?_)
  subst hx
  have h : (zw_Grid_hasPlace w.2.2.1 a1 a2 z (fun r45 z45 => ((¬ r45 = 0 → (zw_Grid_cellAt w.2.2.1 (0 : Int32) a1 a2 z45 (fun r46 z46 => vp_in r46 (w.2.2.1 7) ∧ (narrow .boolean (.int (z46.2 7 r46.toNatClampNeg)) = .int (z46.2 7 r46.toNatClampNeg) ∧ post (z46.2 7 r46.toNatClampNeg) z46)))) ∧ (r45 = 0 → False)))) := h
  refine zr_aload_n hG zd_Gr_via_0 rfl rfl ?_
  refine zf_Gr_grid hG tk_299 zd_Gr_via_1 ?_
  refine zr_iload_n hG zd_Gr_via_4 rfl rfl ?_
  refine zr_iload_n hG zd_Gr_via_5 rfl rfl ?_
  refine zr_callV hG zq_F0 (As := [.int a1, .int a2]) (rest := []) (zm_Grid_hasPlace (zc_l x) w hAp g o h) 1 rfl rfl rfl zg_Gr_157 zdd_Grid_hasPlace ⟨rfl, rfl, by decide, by decide⟩ ⟨by decide, by decide⟩ rfl (Nat.le_of_ble_eq_true rfl) zd_Gr_via_6 rfl ?_
  rintro _ _ ⟨r45, z45, rfl, rfl, h⟩
  refine zr_if_ne hG 22 zd_Gr_via_9 (by decide) (fun hc => ?_) (fun hc => ?_)
  · have h := h.1 hc
    refine zr_aload_n hG zd_Gr_via_22 rfl rfl ?_
    refine zf_Gr_layout hG tk_301 zd_Gr_via_23 ?_
    refine zf_Layout_vias hG tk_130 zd_Gr_via_26 ?_
    refine zr_aload_n hG zd_Gr_via_29 rfl rfl ?_
    refine zf_Gr_grid hG tk_299 zd_Gr_via_30 ?_
    refine zr_iconst hG (v := (0 : Int32)) zd_Gr_via_33 (by decide) ?_
    refine zr_iload_n hG zd_Gr_via_34 rfl rfl ?_
    refine zr_iload_n hG zd_Gr_via_35 rfl rfl ?_
    refine zr_callV hG zq_F0 (As := [.int (0 : Int32), .int a1, .int a2]) (rest := [.ref (w.2.1 11)]) (zm_Grid_cellAt (zc_l x) w hAp g o h) 1 rfl rfl rfl zg_Gr_83 zdd_Grid_cellAt ⟨rfl, rfl, by decide, by decide⟩ ⟨by decide, by decide⟩ rfl (Nat.le_of_ble_eq_true rfl) zd_Gr_via_36 rfl ?_
    rintro _ _ ⟨r46, z46, rfl, rfl, h⟩
    obtain ⟨hi, h⟩ := h
    refine zl_11 hG hi zd_Gr_via_39 ?_
    obtain ⟨hn, h⟩ := h
    exact zr_zret hG hR zd_Gr_via_40 hn ⟨_, _, rfl, rfl, h⟩
  · have h := h.2 hc
    exact h.elim
def zw_Checker_badVias_66 (ln : Nat → Nat) (post : Int32 → zS → Prop) (k4 : Int32 × Int32 × zS → Prop) (v1 v2 : Int32) (z : zS) : Prop := k4 (v1, (v2 + (1 : Int32)), z)
set_option maxHeartbeats 4000000 in
set_option maxRecDepth 100000 in
theorem zt_Checker_badVias_66 {x : zC} {w : zW} {g : zS} {o : Nat → Int64} {post : Int32 → zS → Prop} (hG : zq_G x w "GridRouter$Checker" zc_Checker_badVias 4 (zq_rm 0 0)) (hR : zq_R x w zq_0 (some .int) (zq_Pi g o post)) (hAp : zq_Ap w) {k4 : Int32 × Int32 × zS → Prop} (hk4 : ∀ b : Int32 × Int32 × zS, k4 b → zq_W x w 0 0 (b.2.2, g, o) 4 [some (.ref (w.2.1 14)), some (.int (b.1)), some (.int (b.2.1)), none] []) {v1 v2 : Int32} {z : zS} (h : zw_Checker_badVias_66 w.2.2.1 post k4 v1 v2 z) : zq_W x w 0 0 (z, g, o) 66 [some (.ref (w.2.1 14)), some (.int v1), some (.int v2), none] [] := by
  refine zr_iinc hG (u := (1 : Int32)) [some (.ref (w.2.1 14)), some (.int v1), some (.int (v2 + (1 : Int32))), none] zd_Checker_badVias_66 rfl (by decide) (Nat.le_of_ble_eq_true rfl) rfl ?_
  refine zr_goto hG 4 zd_Checker_badVias_69 (by decide) ?_
  have h := hk4 _ h
  exact h
def zw_Checker_badVias_63 (ln : Nat → Nat) (post : Int32 → zS → Prop) (k4 : Int32 × Int32 × zS → Prop) (v1 v2 : Int32) (z : zS) : Prop := zw_Checker_badVias_66 ln post k4 (v1 + (1 : Int32)) v2 z
set_option maxHeartbeats 4000000 in
set_option maxRecDepth 100000 in
theorem zt_Checker_badVias_63 {x : zC} {w : zW} {g : zS} {o : Nat → Int64} {post : Int32 → zS → Prop} (hG : zq_G x w "GridRouter$Checker" zc_Checker_badVias 4 (zq_rm 0 0)) (hR : zq_R x w zq_0 (some .int) (zq_Pi g o post)) (hAp : zq_Ap w) {k4 : Int32 × Int32 × zS → Prop} (hk4 : ∀ b : Int32 × Int32 × zS, k4 b → zq_W x w 0 0 (b.2.2, g, o) 4 [some (.ref (w.2.1 14)), some (.int (b.1)), some (.int (b.2.1)), none] []) {v1 v2 : Int32} {z : zS} (h : zw_Checker_badVias_63 w.2.2.1 post k4 v1 v2 z) : zq_W x w 0 0 (z, g, o) 63 [some (.ref (w.2.1 14)), some (.int v1), some (.int v2), none] [] := by
  refine zr_iinc hG (u := (1 : Int32)) [some (.ref (w.2.1 14)), some (.int (v1 + (1 : Int32))), some (.int v2), none] zd_Checker_badVias_63 rfl (by decide) (Nat.le_of_ble_eq_true rfl) rfl ?_
  exact zt_Checker_badVias_66 hG hR hAp hk4 h
def zw_Checker_badVias_4 (ln : Nat → Nat) (post : Int32 → zS → Prop) (k4 : Int32 × Int32 × zS → Prop) : Int32 × Int32 × zS → Prop := fun b => match b with
  | (v1, v2, z) => (((z.1 2) ≤ v2 → post v1 z) ∧ (¬ (z.1 2) ≤ v2 → vp_in v2 (ln 7) ∧ (((z.2 7 v2.toNatClampNeg) = 0 → zw_Checker_badVias_66 ln post k4 v1 v2 z) ∧ (¬ (z.2 7 v2.toNatClampNeg) = 0 → vp_in v2 (ln 6) ∧ (((z.2 6 v2.toNatClampNeg) = (-1 : Int32) → zw_Checker_badVias_63 ln post k4 v1 v2 z) ∧ (¬ (z.2 6 v2.toNatClampNeg) = (-1 : Int32) → vp_in (v2 + (z.1 2)) (ln 6) ∧ (((z.2 6 (v2 + (z.1 2)).toNatClampNeg) = (z.2 6 v2.toNatClampNeg) → zw_Checker_badVias_66 ln post k4 v1 v2 z) ∧ (¬ (z.2 6 (v2 + (z.1 2)).toNatClampNeg) = (z.2 6 v2.toNatClampNeg) → zw_Checker_badVias_63 ln post k4 v1 v2 z))))))))
set_option maxHeartbeats 4000000 in
set_option maxRecDepth 100000 in
theorem zt_Checker_badVias_4 {x : zC} {w : zW} {g : zS} {o : Nat → Int64} {post : Int32 → zS → Prop} (hG : zq_G x w "GridRouter$Checker" zc_Checker_badVias 4 (zq_rm 0 0)) (hR : zq_R x w zq_0 (some .int) (zq_Pi g o post)) (hAp : zq_Ap w) {v1 v2 : Int32} {z : zS} (h : zq_Lp (zw_Checker_badVias_4 w.2.2.1 post) (v1, v2, z)) : zq_W x w 0 0 (z, g, o) 4 [some (.ref (w.2.1 14)), some (.int v1), some (.int v2), none] [] := by
  refine zq_Lp_W (WW := fun b => zq_W x w 0 0 (b.2.2, g, o) 4 [some (.ref (w.2.1 14)), some (.int (b.1)), some (.int (b.2.1)), none] []) (fun k4 hk4 b h => ?_) h
  obtain ⟨v1, v2, z⟩ := b
  show zq_W x w 0 0 (z, g, o) 4 [some (.ref (w.2.1 14)), some (.int v1), some (.int v2), none] []
  refine zr_iload_n hG zd_Checker_badVias_4 rfl rfl ?_
  refine zr_aload_n hG zd_Checker_badVias_5 rfl rfl ?_
  refine zf_Checker_grid hG tk_175 zd_Checker_badVias_6 ?_
  refine zf_Grid_area hG tk_44 zd_Checker_badVias_9 ?_
  refine zr_icmp_ge hG 72 zd_Checker_badVias_12 (by decide) (fun hc => ?_) (fun hc => ?_)
  · have h := h.1 hc
    refine zr_iload_n hG zd_Checker_badVias_72 rfl rfl ?_
    exact zr_iret hG hR zd_Checker_badVias_73 ⟨_, _, rfl, rfl, h⟩
  · have h := h.2 hc
    refine zr_aload_n hG zd_Checker_badVias_15 rfl rfl ?_
    refine zf_Checker_layout hG tk_177 zd_Checker_badVias_16 ?_
    refine zf_Layout_vias hG tk_129 zd_Checker_badVias_19 ?_
    refine zr_iload_n hG zd_Checker_badVias_22 rfl rfl ?_
    obtain ⟨hi, h⟩ := h
    refine zl_11 hG hi zd_Checker_badVias_23 ?_
    refine zr_if_eq hG 66 zd_Checker_badVias_24 (by decide) (fun hc => ?_) (fun hc => ?_)
    · have h := h.1 hc
      exact zt_Checker_badVias_66 hG hR hAp hk4 h
    · have h := h.2 hc
      refine zr_aload_n hG zd_Checker_badVias_27 rfl rfl ?_
      refine zf_Checker_layout hG tk_177 zd_Checker_badVias_28 ?_
      refine zf_Layout_owner hG tk_123 zd_Checker_badVias_31 ?_
      refine zr_iload_n hG zd_Checker_badVias_34 rfl rfl ?_
      obtain ⟨hi, h⟩ := h
      refine zl_10 hG hi zd_Checker_badVias_35 ?_
      refine zr_istore_n hG [some (.ref (w.2.1 14)), some (.int v1), some (.int v2), some (.int (z.2 6 v2.toNatClampNeg))] zd_Checker_badVias_36 rfl (Nat.le_of_ble_eq_true rfl) rfl ?_
      refine zr_iload_n hG zd_Checker_badVias_37 rfl rfl ?_
      refine zr_iconst hG (v := (-1 : Int32)) zd_Checker_badVias_38 (by decide) ?_
      refine zr_icmp_eq hG 63 zd_Checker_badVias_39 (by decide) (fun hc => ?_) (fun hc => ?_)
      · have h := h.1 hc
        exact zr_mask [true, true, true, false] (zt_Checker_badVias_63 hG hR hAp hk4 h)
      · have h := h.2 hc
        refine zr_aload_n hG zd_Checker_badVias_42 rfl rfl ?_
        refine zf_Checker_layout hG tk_177 zd_Checker_badVias_43 ?_
        refine zf_Layout_owner hG tk_123 zd_Checker_badVias_46 ?_
        refine zr_iload_n hG zd_Checker_badVias_49 rfl rfl ?_
        refine zr_aload_n hG zd_Checker_badVias_50 rfl rfl ?_
        refine zf_Checker_grid hG tk_175 zd_Checker_badVias_51 ?_
        refine zf_Grid_area hG tk_44 zd_Checker_badVias_54 ?_
        refine zr_iadd hG zd_Checker_badVias_57 ?_
        obtain ⟨hi, h⟩ := h
        refine zl_10 hG hi zd_Checker_badVias_58 ?_
        refine zr_iload_n hG zd_Checker_badVias_59 rfl rfl ?_
        refine zr_icmp_eq hG 66 zd_Checker_badVias_60 (by decide) (fun hc => ?_) (fun hc => ?_)
        · have h := h.1 hc
          exact zr_mask [true, true, true, false] (zt_Checker_badVias_66 hG hR hAp hk4 h)
        · have h := h.2 hc
          exact zr_mask [true, true, true, false] (zt_Checker_badVias_63 hG hR hAp hk4 h)
def zw_Checker_badVias (ln : Nat → Nat) (z : zS) (post : Int32 → zS → Prop) : Prop := zq_Lp (zw_Checker_badVias_4 ln post) ((0 : Int32), (0 : Int32), z)
set_option maxHeartbeats 4000000 in
set_option maxRecDepth 100000 in
theorem zm_Checker_badVias (l : Launch) (w : zW) (hAp : zq_Ap w) (g : zS) (o : Nat → Int64) {z : zS} {post : Int32 → zS → Prop} (h : zw_Checker_badVias w.2.2.1 z post) : zq_M l w zq_0 zy_Checker_badVias zc_Checker_badVias 4 (some .int) (zq_rm 0 0) [.ref (w.2.1 14)] (z, g, o) (zq_Pi g o post) := by
  refine zq_mk_M (by decide) (by simp [Value.category]) (Nat.le_of_ble_eq_true rfl) hAp (fun x hx hG hR => ?_)
  subst hx
  refine zr_iconst hG (v := (0 : Int32)) zd_Checker_badVias_0 (by decide) ?_
  refine zr_istore_n hG [some (.ref (w.2.1 14)), some (.int (0 : Int32)), none, none] zd_Checker_badVias_1 rfl (Nat.le_of_ble_eq_true rfl) rfl ?_
  refine zr_iconst hG (v := (0 : Int32)) zd_Checker_badVias_2 (by decide) ?_
  refine zr_istore_n hG [some (.ref (w.2.1 14)), some (.int (0 : Int32)), some (.int (0 : Int32)), none] zd_Checker_badVias_3 rfl (Nat.le_of_ble_eq_true rfl) rfl ?_
  exact zt_Checker_badVias_4 hG hR hAp h
def zw_Checker_clash_59 (ln : Nat → Nat) (post : Int32 → zS → Prop) (u0 : Int32) (z : zS) : Prop := post u0 z
set_option maxHeartbeats 4000000 in
set_option maxRecDepth 100000 in
theorem zt_Checker_clash_59 {x : zC} {w : zW} {g : zS} {o : Nat → Int64} {post : Int32 → zS → Prop} (hG : zq_G x w "GridRouter$Checker" zc_Checker_clash 3 (zq_rm 0 0)) (hR : zq_R x w zq_0 (some .int) (zq_Pi g o post)) (hAp : zq_Ap w) {u0 : Int32} {z : zS} (h : zw_Checker_clash_59 w.2.2.1 post u0 z) : zq_W x w 0 0 (z, g, o) 59 [none, none, none] [.int u0] := by
  exact zr_iret hG hR zd_Checker_clash_59 ⟨_, _, rfl, rfl, h⟩
def zw_Checker_clash_31 (ln : Nat → Nat) (post : Int32 → zS → Prop) (z : zS) : Prop := post (0 : Int32) z
set_option maxHeartbeats 4000000 in
set_option maxRecDepth 100000 in
theorem zt_Checker_clash_31 {x : zC} {w : zW} {g : zS} {o : Nat → Int64} {post : Int32 → zS → Prop} (hG : zq_G x w "GridRouter$Checker" zc_Checker_clash 3 (zq_rm 0 0)) (hR : zq_R x w zq_0 (some .int) (zq_Pi g o post)) (hAp : zq_Ap w) {z : zS} (h : zw_Checker_clash_31 w.2.2.1 post z) : zq_W x w 0 0 (z, g, o) 31 [none, none, none] [] := by
  refine zr_iconst hG (v := (0 : Int32)) zd_Checker_clash_31 (by decide) ?_
  exact zr_iret hG hR zd_Checker_clash_32 ⟨_, _, rfl, rfl, h⟩
def zw_Checker_clash (ln : Nat → Nat) (a1 a2 : Int32) (z : zS) (post : Int32 → zS → Prop) : Prop := ((a2 = (-1 : Int32) → zw_Checker_clash_31 ln post z) ∧ (¬ a2 = (-1 : Int32) → vp_in a1 (ln 6) ∧ (((z.2 6 a1.toNatClampNeg) = (-1 : Int32) → zw_Checker_clash_31 ln post z) ∧ (¬ (z.2 6 a1.toNatClampNeg) = (-1 : Int32) → vp_in a2 (ln 6) ∧ ((¬ (z.2 6 a2.toNatClampNeg) = (-1 : Int32) → vp_in a1 (ln 6) ∧ vp_in a2 (ln 6) ∧ ((¬ (z.2 6 a1.toNatClampNeg) = (z.2 6 a2.toNatClampNeg) → zw_Checker_clash_59 ln post (1 : Int32) z) ∧ ((z.2 6 a1.toNatClampNeg) = (z.2 6 a2.toNatClampNeg) → zw_Checker_clash_59 ln post (0 : Int32) z))) ∧ ((z.2 6 a2.toNatClampNeg) = (-1 : Int32) → zw_Checker_clash_31 ln post z))))))
set_option maxHeartbeats 4000000 in
set_option maxRecDepth 100000 in
theorem zm_Checker_clash (l : Launch) (w : zW) (hAp : zq_Ap w) (g : zS) (o : Nat → Int64) {a1 a2 : Int32} {z : zS} {post : Int32 → zS → Prop} (h : zw_Checker_clash w.2.2.1 a1 a2 z post) : zq_M l w zq_0 zy_Checker_clash zc_Checker_clash 3 (some .int) (zq_rm 0 0) [.ref (w.2.1 14), .int a1, .int a2] (z, g, o) (zq_Pi g o post) := by
  refine zq_mk_M (by decide) (by simp [Value.category]) (Nat.le_of_ble_eq_true rfl) hAp (fun x hx hG hR => ?_)
  subst hx
  refine zr_iload_n hG zd_Checker_clash_0 rfl rfl ?_
  refine zr_iconst hG (v := (-1 : Int32)) zd_Checker_clash_1 (by decide) ?_
  refine zr_icmp_eq hG 31 zd_Checker_clash_2 (by decide) (fun hc => ?_) (fun hc => ?_)
  · have h := h.1 hc
    exact zr_mask [false, false, false] (zt_Checker_clash_31 hG hR hAp h)
  · have h := h.2 hc
    refine zr_aload_n hG zd_Checker_clash_5 rfl rfl ?_
    refine zf_Checker_layout hG tk_177 zd_Checker_clash_6 ?_
    refine zf_Layout_owner hG tk_123 zd_Checker_clash_9 ?_
    refine zr_iload_n hG zd_Checker_clash_12 rfl rfl ?_
    obtain ⟨hi, h⟩ := h
    refine zl_10 hG hi zd_Checker_clash_13 ?_
    refine zr_iconst hG (v := (-1 : Int32)) zd_Checker_clash_14 (by decide) ?_
    refine zr_icmp_eq hG 31 zd_Checker_clash_15 (by decide) (fun hc => ?_) (fun hc => ?_)
    · have h := h.1 hc
      exact zr_mask [false, false, false] (zt_Checker_clash_31 hG hR hAp h)
    · have h := h.2 hc
      refine zr_aload_n hG zd_Checker_clash_18 rfl rfl ?_
      refine zf_Checker_layout hG tk_177 zd_Checker_clash_19 ?_
      refine zf_Layout_owner hG tk_123 zd_Checker_clash_22 ?_
      refine zr_iload_n hG zd_Checker_clash_25 rfl rfl ?_
      obtain ⟨hi, h⟩ := h
      refine zl_10 hG hi zd_Checker_clash_26 ?_
      refine zr_iconst hG (v := (-1 : Int32)) zd_Checker_clash_27 (by decide) ?_
      refine zr_icmp_ne hG 33 zd_Checker_clash_28 (by decide) (fun hc => ?_) (fun hc => ?_)
      · have h := h.1 hc
        refine zr_aload_n hG zd_Checker_clash_33 rfl rfl ?_
        refine zf_Checker_layout hG tk_177 zd_Checker_clash_34 ?_
        refine zf_Layout_owner hG tk_123 zd_Checker_clash_37 ?_
        refine zr_iload_n hG zd_Checker_clash_40 rfl rfl ?_
        obtain ⟨hi, h⟩ := h
        refine zl_10 hG hi zd_Checker_clash_41 ?_
        refine zr_aload_n hG zd_Checker_clash_42 rfl rfl ?_
        refine zf_Checker_layout hG tk_177 zd_Checker_clash_43 ?_
        refine zf_Layout_owner hG tk_123 zd_Checker_clash_46 ?_
        refine zr_iload_n hG zd_Checker_clash_49 rfl rfl ?_
        obtain ⟨hi, h⟩ := h
        refine zl_10 hG hi zd_Checker_clash_50 ?_
        refine zr_icmp_ne hG 58 zd_Checker_clash_51 (by decide) (fun hc => ?_) (fun hc => ?_)
        · have h := h.1 hc
          refine zr_iconst hG (v := (1 : Int32)) zd_Checker_clash_58 (by decide) ?_
          exact zr_mask [false, false, false] (zt_Checker_clash_59 hG hR hAp h)
        · have h := h.2 hc
          refine zr_iconst hG (v := (0 : Int32)) zd_Checker_clash_54 (by decide) ?_
          refine zr_goto hG 59 zd_Checker_clash_55 (by decide) ?_
          exact zr_mask [false, false, false] (zt_Checker_clash_59 hG hR hAp h)
      · have h := h.2 hc
        exact zr_mask [false, false, false] (zt_Checker_clash_31 hG hR hAp h)
def zw_Checker_crowded_65 (ln : Nat → Nat) (post : Int32 → zS → Prop) (v1 : Int32) (z : zS) : Prop := post v1 z
set_option maxHeartbeats 4000000 in
set_option maxRecDepth 100000 in
theorem zt_Checker_crowded_65 {x : zC} {w : zW} {g : zS} {o : Nat → Int64} {post : Int32 → zS → Prop} (hG : zq_G x w "GridRouter$Checker" zc_Checker_crowded 3 (zq_rm 1 22)) (hR : zq_R x w zq_0 (some .int) (zq_Pi g o post)) (hAp : zq_Ap w) {v1 : Int32} {z : zS} (h : zw_Checker_crowded_65 w.2.2.1 post v1 z) : zq_W x w 0 0 (z, g, o) 65 [none, some (.int v1), none] [] := by
  refine zr_iload_n hG zd_Checker_crowded_65 rfl rfl ?_
  exact zr_iret hG hR zd_Checker_crowded_66 ⟨_, _, rfl, rfl, h⟩
def zw_Checker_crowded_14 (ln : Nat → Nat) (post : Int32 → zS → Prop) (k14 : Int32 × Int32 × zS → Prop) : Int32 × Int32 × zS → Prop := fun b => match b with
  | (v1, v2, z) => (((z.1 3) ≤ v2 → zw_Checker_crowded_65 ln post v1 z) ∧ (¬ (z.1 3) ≤ v2 → (zw_Grid_next ln v2 (1 : Int32) z (fun r139 z139 => (zw_Checker_clash ln v2 r139 z139 (fun r140 z140 => (zw_Grid_next ln v2 (3 : Int32) z140 (fun r141 z141 => (zw_Checker_clash ln v2 r141 z141 (fun r142 z142 => k14 (((v1 + r140) + r142), (v2 + (1 : Int32)), z142)))))))))))
set_option maxHeartbeats 4000000 in
set_option maxRecDepth 100000 in
theorem zt_Checker_crowded_14 {x : zC} {w : zW} {g : zS} {o : Nat → Int64} {post : Int32 → zS → Prop} (hG : zq_G x w "GridRouter$Checker" zc_Checker_crowded 3 (zq_rm 1 22)) (hR : zq_R x w zq_0 (some .int) (zq_Pi g o post)) (hAp : zq_Ap w) {v1 v2 : Int32} {z : zS} (h : zq_Lp (zw_Checker_crowded_14 w.2.2.1 post) (v1, v2, z)) : zq_W x w 0 0 (z, g, o) 14 [some (.ref (w.2.1 14)), some (.int v1), some (.int v2)] [] := by
  refine zq_Lp_W (WW := fun b => zq_W x w 0 0 (b.2.2, g, o) 14 [some (.ref (w.2.1 14)), some (.int (b.1)), some (.int (b.2.1))] []) (fun k14 hk14 b h => ?_) h
  obtain ⟨v1, v2, z⟩ := b
  show zq_W x w 0 0 (z, g, o) 14 [some (.ref (w.2.1 14)), some (.int v1), some (.int v2)] []
  refine zr_iload_n hG zd_Checker_crowded_14 rfl rfl ?_
  refine zr_aload_n hG zd_Checker_crowded_15 rfl rfl ?_
  refine zf_Checker_grid hG tk_175 zd_Checker_crowded_16 ?_
  refine zf_Grid_cells hG tk_49 zd_Checker_crowded_19 ?_
  refine zr_icmp_ge hG 65 zd_Checker_crowded_22 (by decide) (fun hc => ?_) (fun hc => ?_)
  · have h := h.1 hc
    exact zr_mask [false, true, false] (zt_Checker_crowded_65 hG hR hAp h)
  · have h := h.2 hc
    refine zr_iload_n hG zd_Checker_crowded_25 rfl rfl ?_
    refine zr_aload_n hG zd_Checker_crowded_26 rfl rfl ?_
    refine zr_iload_n hG zd_Checker_crowded_27 rfl rfl ?_
    refine zr_aload_n hG zd_Checker_crowded_28 rfl rfl ?_
    refine zf_Checker_grid hG tk_175 zd_Checker_crowded_29 ?_
    refine zr_iload_n hG zd_Checker_crowded_32 rfl rfl ?_
    refine zr_iconst hG (v := (1 : Int32)) zd_Checker_crowded_33 (by decide) ?_
    refine zr_callV hG zq_F0 (As := [.int v2, .int (1 : Int32)]) (rest := [.int v2, .ref (w.2.1 14), .int v1]) (zm_Grid_next (zc_l x) w hAp g o h) 1 rfl rfl rfl zg_Checker_76 zdd_Grid_next ⟨rfl, rfl, by decide, by decide⟩ ⟨by decide, by decide⟩ rfl (Nat.le_of_ble_eq_true rfl) zd_Checker_crowded_34 rfl ?_
    rintro _ _ ⟨r139, z139, rfl, rfl, h⟩
    refine zr_callV hG zq_F0 (As := [.int v2, .int r139]) (rest := [.int v1]) (zm_Checker_clash (zc_l x) w hAp g o h) 14 rfl rfl rfl zg_Checker_80 zdd_Checker_clash ⟨rfl, rfl, by decide, by decide⟩ ⟨by decide, by decide⟩ rfl (Nat.le_of_ble_eq_true rfl) zd_Checker_crowded_37 rfl ?_
    rintro _ _ ⟨r140, z140, rfl, rfl, h⟩
    refine zr_iadd hG zd_Checker_crowded_40 ?_
    refine zr_istore_n hG [some (.ref (w.2.1 14)), some (.int (v1 + r140)), some (.int v2)] zd_Checker_crowded_41 rfl (Nat.le_of_ble_eq_true rfl) rfl ?_
    refine zr_iload_n hG zd_Checker_crowded_42 rfl rfl ?_
    refine zr_aload_n hG zd_Checker_crowded_43 rfl rfl ?_
    refine zr_iload_n hG zd_Checker_crowded_44 rfl rfl ?_
    refine zr_aload_n hG zd_Checker_crowded_45 rfl rfl ?_
    refine zf_Checker_grid hG tk_175 zd_Checker_crowded_46 ?_
    refine zr_iload_n hG zd_Checker_crowded_49 rfl rfl ?_
    refine zr_iconst hG (v := (3 : Int32)) zd_Checker_crowded_50 (by decide) ?_
    refine zr_callV hG zq_F0 (As := [.int v2, .int (3 : Int32)]) (rest := [.int v2, .ref (w.2.1 14), .int (v1 + r140)]) (zm_Grid_next (zc_l x) w hAp g o h) 1 rfl rfl rfl zg_Checker_76 zdd_Grid_next ⟨rfl, rfl, by decide, by decide⟩ ⟨by decide, by decide⟩ rfl (Nat.le_of_ble_eq_true rfl) zd_Checker_crowded_51 rfl ?_
    rintro _ _ ⟨r141, z141, rfl, rfl, h⟩
    refine zr_callV hG zq_F0 (As := [.int v2, .int r141]) (rest := [.int (v1 + r140)]) (zm_Checker_clash (zc_l x) w hAp g o h) 14 rfl rfl rfl zg_Checker_80 zdd_Checker_clash ⟨rfl, rfl, by decide, by decide⟩ ⟨by decide, by decide⟩ rfl (Nat.le_of_ble_eq_true rfl) zd_Checker_crowded_54 rfl ?_
    rintro _ _ ⟨r142, z142, rfl, rfl, h⟩
    refine zr_iadd hG zd_Checker_crowded_57 ?_
    refine zr_istore_n hG [some (.ref (w.2.1 14)), some (.int ((v1 + r140) + r142)), some (.int v2)] zd_Checker_crowded_58 rfl (Nat.le_of_ble_eq_true rfl) rfl ?_
    refine zr_iinc hG (u := (1 : Int32)) [some (.ref (w.2.1 14)), some (.int ((v1 + r140) + r142)), some (.int (v2 + (1 : Int32)))] zd_Checker_crowded_59 rfl (by decide) (Nat.le_of_ble_eq_true rfl) rfl ?_
    refine zr_goto hG 14 zd_Checker_crowded_62 (by decide) ?_
    have h := hk14 _ h
    exact h
def zw_Checker_crowded (ln : Nat → Nat) (z : zS) (post : Int32 → zS → Prop) : Prop := (((z.1 5) = 0 → zw_Checker_crowded_65 ln post (0 : Int32) z) ∧ (¬ (z.1 5) = 0 → zq_Lp (zw_Checker_crowded_14 ln post) ((0 : Int32), (0 : Int32), z)))
set_option maxHeartbeats 4000000 in
set_option maxRecDepth 100000 in
theorem zm_Checker_crowded (l : Launch) (w : zW) (hAp : zq_Ap w) (g : zS) (o : Nat → Int64) {z : zS} {post : Int32 → zS → Prop} (h : zw_Checker_crowded w.2.2.1 z post) : zq_M l w zq_0 zy_Checker_crowded zc_Checker_crowded 3 (some .int) (zq_rm 1 22) [.ref (w.2.1 14)] (z, g, o) (zq_Pi g o post) := by
  refine zq_mk_M (by decide) (by simp [Value.category]) (Nat.le_of_ble_eq_true rfl) hAp (fun x hx hG hR => ?_)
  subst hx
  refine zr_iconst hG (v := (0 : Int32)) zd_Checker_crowded_0 (by decide) ?_
  refine zr_istore_n hG [some (.ref (w.2.1 14)), some (.int (0 : Int32)), none] zd_Checker_crowded_1 rfl (Nat.le_of_ble_eq_true rfl) rfl ?_
  refine zr_aload_n hG zd_Checker_crowded_2 rfl rfl ?_
  refine zf_Checker_rules hG tk_178 zd_Checker_crowded_3 ?_
  refine zf_Rules_spaced hG tk_153 zd_Checker_crowded_6 ?_
  refine zr_if_eq hG 65 zd_Checker_crowded_9 (by decide) (fun hc => ?_) (fun hc => ?_)
  · have h := h.1 hc
    exact zr_mask [false, true, false] (zt_Checker_crowded_65 hG hR hAp h)
  · have h := h.2 hc
    refine zr_iconst hG (v := (0 : Int32)) zd_Checker_crowded_12 (by decide) ?_
    refine zr_istore_n hG [some (.ref (w.2.1 14)), some (.int (0 : Int32)), some (.int (0 : Int32))] zd_Checker_crowded_13 rfl (Nat.le_of_ble_eq_true rfl) rfl ?_
    exact zt_Checker_crowded_14 hG hR hAp h
def zw_Checker_misplaced_68 (ln : Nat → Nat) (post : Int32 → zS → Prop) (k4 : Int32 × Int32 × zS → Prop) (v1 v2 : Int32) (z : zS) : Prop := k4 (v1, (v2 + (1 : Int32)), z)
set_option maxHeartbeats 4000000 in
set_option maxRecDepth 100000 in
theorem zt_Checker_misplaced_68 {x : zC} {w : zW} {g : zS} {o : Nat → Int64} {post : Int32 → zS → Prop} (hG : zq_G x w "GridRouter$Checker" zc_Checker_misplaced 5 (zq_rm 0 0)) (hR : zq_R x w zq_0 (some .int) (zq_Pi g o post)) (hAp : zq_Ap w) {k4 : Int32 × Int32 × zS → Prop} (hk4 : ∀ b : Int32 × Int32 × zS, k4 b → zq_W x w 0 0 (b.2.2, g, o) 4 [some (.ref (w.2.1 14)), some (.int (b.1)), some (.int (b.2.1)), none, none] []) {v1 v2 : Int32} {z : zS} (h : zw_Checker_misplaced_68 w.2.2.1 post k4 v1 v2 z) : zq_W x w 0 0 (z, g, o) 68 [some (.ref (w.2.1 14)), some (.int v1), some (.int v2), none, none] [] := by
  refine zr_iinc hG (u := (1 : Int32)) [some (.ref (w.2.1 14)), some (.int v1), some (.int (v2 + (1 : Int32))), none, none] zd_Checker_misplaced_68 rfl (by decide) (Nat.le_of_ble_eq_true rfl) rfl ?_
  refine zr_goto hG 4 zd_Checker_misplaced_71 (by decide) ?_
  have h := hk4 _ h
  exact h
def zw_Checker_misplaced_65 (ln : Nat → Nat) (post : Int32 → zS → Prop) (k4 : Int32 × Int32 × zS → Prop) (v1 v2 : Int32) (z : zS) : Prop := zw_Checker_misplaced_68 ln post k4 (v1 + (1 : Int32)) v2 z
set_option maxHeartbeats 4000000 in
set_option maxRecDepth 100000 in
theorem zt_Checker_misplaced_65 {x : zC} {w : zW} {g : zS} {o : Nat → Int64} {post : Int32 → zS → Prop} (hG : zq_G x w "GridRouter$Checker" zc_Checker_misplaced 5 (zq_rm 0 0)) (hR : zq_R x w zq_0 (some .int) (zq_Pi g o post)) (hAp : zq_Ap w) {k4 : Int32 × Int32 × zS → Prop} (hk4 : ∀ b : Int32 × Int32 × zS, k4 b → zq_W x w 0 0 (b.2.2, g, o) 4 [some (.ref (w.2.1 14)), some (.int (b.1)), some (.int (b.2.1)), none, none] []) {v1 v2 : Int32} {z : zS} (h : zw_Checker_misplaced_65 w.2.2.1 post k4 v1 v2 z) : zq_W x w 0 0 (z, g, o) 65 [some (.ref (w.2.1 14)), some (.int v1), some (.int v2), none, none] [] := by
  refine zr_iinc hG (u := (1 : Int32)) [some (.ref (w.2.1 14)), some (.int (v1 + (1 : Int32))), some (.int v2), none, none] zd_Checker_misplaced_65 rfl (by decide) (Nat.le_of_ble_eq_true rfl) rfl ?_
  exact zt_Checker_misplaced_68 hG hR hAp hk4 h
def zw_Checker_misplaced_4 (ln : Nat → Nat) (post : Int32 → zS → Prop) (k4 : Int32 × Int32 × zS → Prop) : Int32 × Int32 × zS → Prop := fun b => match b with
  | (v1, v2, z) => (((z.1 3) ≤ v2 → post v1 z) ∧ (¬ (z.1 3) ≤ v2 → vp_in v2 (ln 6) ∧ vp_in v2 (ln 5) ∧ (((z.2 6 v2.toNatClampNeg) = (-1 : Int32) → zw_Checker_misplaced_68 ln post k4 v1 v2 z) ∧ (¬ (z.2 6 v2.toNatClampNeg) = (-1 : Int32) → vp_in v2 (ln 8) ∧ ((¬ (z.2 8 v2.toNatClampNeg) = 0 → zw_Checker_misplaced_65 ln post k4 v1 v2 z) ∧ ((z.2 8 v2.toNatClampNeg) = 0 → (((z.2 5 v2.toNatClampNeg) = (-1 : Int32) → zw_Checker_misplaced_68 ln post k4 v1 v2 z) ∧ (¬ (z.2 5 v2.toNatClampNeg) = (-1 : Int32) → (((z.2 5 v2.toNatClampNeg) = (z.2 6 v2.toNatClampNeg) → zw_Checker_misplaced_68 ln post k4 v1 v2 z) ∧ (¬ (z.2 5 v2.toNatClampNeg) = (z.2 6 v2.toNatClampNeg) → zw_Checker_misplaced_65 ln post k4 v1 v2 z))))))))))
set_option maxHeartbeats 4000000 in
set_option maxRecDepth 100000 in
theorem zt_Checker_misplaced_4 {x : zC} {w : zW} {g : zS} {o : Nat → Int64} {post : Int32 → zS → Prop} (hG : zq_G x w "GridRouter$Checker" zc_Checker_misplaced 5 (zq_rm 0 0)) (hR : zq_R x w zq_0 (some .int) (zq_Pi g o post)) (hAp : zq_Ap w) {v1 v2 : Int32} {z : zS} (h : zq_Lp (zw_Checker_misplaced_4 w.2.2.1 post) (v1, v2, z)) : zq_W x w 0 0 (z, g, o) 4 [some (.ref (w.2.1 14)), some (.int v1), some (.int v2), none, none] [] := by
  refine zq_Lp_W (WW := fun b => zq_W x w 0 0 (b.2.2, g, o) 4 [some (.ref (w.2.1 14)), some (.int (b.1)), some (.int (b.2.1)), none, none] []) (fun k4 hk4 b h => ?_) h
  obtain ⟨v1, v2, z⟩ := b
  show zq_W x w 0 0 (z, g, o) 4 [some (.ref (w.2.1 14)), some (.int v1), some (.int v2), none, none] []
  refine zr_iload_n hG zd_Checker_misplaced_4 rfl rfl ?_
  refine zr_aload_n hG zd_Checker_misplaced_5 rfl rfl ?_
  refine zf_Checker_grid hG tk_175 zd_Checker_misplaced_6 ?_
  refine zf_Grid_cells hG tk_49 zd_Checker_misplaced_9 ?_
  refine zr_icmp_ge hG 74 zd_Checker_misplaced_12 (by decide) (fun hc => ?_) (fun hc => ?_)
  · have h := h.1 hc
    refine zr_iload_n hG zd_Checker_misplaced_74 rfl rfl ?_
    exact zr_iret hG hR zd_Checker_misplaced_75 ⟨_, _, rfl, rfl, h⟩
  · have h := h.2 hc
    refine zr_aload_n hG zd_Checker_misplaced_15 rfl rfl ?_
    refine zf_Checker_layout hG tk_177 zd_Checker_misplaced_16 ?_
    refine zf_Layout_owner hG tk_123 zd_Checker_misplaced_19 ?_
    refine zr_iload_n hG zd_Checker_misplaced_22 rfl rfl ?_
    obtain ⟨hi, h⟩ := h
    refine zl_10 hG hi zd_Checker_misplaced_23 ?_
    refine zr_istore_n hG [some (.ref (w.2.1 14)), some (.int v1), some (.int v2), some (.int (z.2 6 v2.toNatClampNeg)), none] zd_Checker_misplaced_24 rfl (Nat.le_of_ble_eq_true rfl) rfl ?_
    refine zr_aload_n hG zd_Checker_misplaced_25 rfl rfl ?_
    refine zf_Checker_nets hG tk_176 zd_Checker_misplaced_26 ?_
    refine zf_Nets_pinOwner hG tk_97 zd_Checker_misplaced_29 ?_
    refine zr_iload_n hG zd_Checker_misplaced_32 rfl rfl ?_
    obtain ⟨hi, h⟩ := h
    refine zl_8 hG hi zd_Checker_misplaced_33 ?_
    refine zr_istore hG [some (.ref (w.2.1 14)), some (.int v1), some (.int v2), some (.int (z.2 6 v2.toNatClampNeg)), some (.int (z.2 5 v2.toNatClampNeg))] zd_Checker_misplaced_34 (Nat.le_of_ble_eq_true rfl) rfl ?_
    refine zr_iload_n hG zd_Checker_misplaced_36 rfl rfl ?_
    refine zr_iconst hG (v := (-1 : Int32)) zd_Checker_misplaced_37 (by decide) ?_
    refine zr_icmp_eq hG 68 zd_Checker_misplaced_38 (by decide) (fun hc => ?_) (fun hc => ?_)
    · have h := h.1 hc
      exact zr_mask [true, true, true, false, false] (zt_Checker_misplaced_68 hG hR hAp hk4 h)
    · have h := h.2 hc
      refine zr_aload_n hG zd_Checker_misplaced_41 rfl rfl ?_
      refine zf_Checker_rules hG tk_178 zd_Checker_misplaced_42 ?_
      refine zf_Rules_blocked hG tk_151 zd_Checker_misplaced_45 ?_
      refine zr_iload_n hG zd_Checker_misplaced_48 rfl rfl ?_
      obtain ⟨hi, h⟩ := h
      refine zl_13 hG hi zd_Checker_misplaced_49 ?_
      refine zr_if_ne hG 65 zd_Checker_misplaced_50 (by decide) (fun hc => ?_) (fun hc => ?_)
      · have h := h.1 hc
        exact zr_mask [true, true, true, false, false] (zt_Checker_misplaced_65 hG hR hAp hk4 h)
      · have h := h.2 hc
        refine zr_iload hG zd_Checker_misplaced_53 rfl ?_
        refine zr_iconst hG (v := (-1 : Int32)) zd_Checker_misplaced_55 (by decide) ?_
        refine zr_icmp_eq hG 68 zd_Checker_misplaced_56 (by decide) (fun hc => ?_) (fun hc => ?_)
        · have h := h.1 hc
          exact zr_mask [true, true, true, false, false] (zt_Checker_misplaced_68 hG hR hAp hk4 h)
        · have h := h.2 hc
          refine zr_iload hG zd_Checker_misplaced_59 rfl ?_
          refine zr_iload_n hG zd_Checker_misplaced_61 rfl rfl ?_
          refine zr_icmp_eq hG 68 zd_Checker_misplaced_62 (by decide) (fun hc => ?_) (fun hc => ?_)
          · have h := h.1 hc
            exact zr_mask [true, true, true, false, false] (zt_Checker_misplaced_68 hG hR hAp hk4 h)
          · have h := h.2 hc
            exact zr_mask [true, true, true, false, false] (zt_Checker_misplaced_65 hG hR hAp hk4 h)
def zw_Checker_misplaced (ln : Nat → Nat) (z : zS) (post : Int32 → zS → Prop) : Prop := zq_Lp (zw_Checker_misplaced_4 ln post) ((0 : Int32), (0 : Int32), z)
set_option maxHeartbeats 4000000 in
set_option maxRecDepth 100000 in
theorem zm_Checker_misplaced (l : Launch) (w : zW) (hAp : zq_Ap w) (g : zS) (o : Nat → Int64) {z : zS} {post : Int32 → zS → Prop} (h : zw_Checker_misplaced w.2.2.1 z post) : zq_M l w zq_0 zy_Checker_misplaced zc_Checker_misplaced 5 (some .int) (zq_rm 0 0) [.ref (w.2.1 14)] (z, g, o) (zq_Pi g o post) := by
  refine zq_mk_M (by decide) (by simp [Value.category]) (Nat.le_of_ble_eq_true rfl) hAp (fun x hx hG hR => ?_)
  subst hx
  refine zr_iconst hG (v := (0 : Int32)) zd_Checker_misplaced_0 (by decide) ?_
  refine zr_istore_n hG [some (.ref (w.2.1 14)), some (.int (0 : Int32)), none, none, none] zd_Checker_misplaced_1 rfl (Nat.le_of_ble_eq_true rfl) rfl ?_
  refine zr_iconst hG (v := (0 : Int32)) zd_Checker_misplaced_2 (by decide) ?_
  refine zr_istore_n hG [some (.ref (w.2.1 14)), some (.int (0 : Int32)), some (.int (0 : Int32)), none, none] zd_Checker_misplaced_3 rfl (Nat.le_of_ble_eq_true rfl) rfl ?_
  exact zt_Checker_misplaced_4 hG hR hAp h
def zw_Checker_count (ln : Nat → Nat) (a1 : Int32) (z : zS) (post : Int32 → zS → Prop) : Prop := ((a1 = 0 → (zw_Checker_misplaced ln z (fun r135 z135 => post r135 z135))) ∧ (a1 = 1 → (zw_Checker_crowded ln z (fun r136 z136 => post r136 z136))) ∧ (a1 = 2 → (zw_Checker_badVias ln z (fun r137 z137 => post r137 z137))) ∧ (¬ a1 = 0 ∧ ¬ a1 = 1 ∧ ¬ a1 = 2 → (zw_Checker_loose ln z (fun r138 z138 => post r138 z138))))
set_option maxHeartbeats 4000000 in
set_option maxRecDepth 100000 in
theorem zm_Checker_count (l : Launch) (w : zW) (hAp : zq_Ap w) (g : zS) (o : Nat → Int64) {a1 : Int32} {z : zS} {post : Int32 → zS → Prop} (h : zw_Checker_count w.2.2.1 a1 z post) : zq_M l w (zq_A w) zy_Checker_count zc_Checker_count 2 (some .int) (zq_rm 4 89) [.ref (w.2.1 14), .int a1] (z, g, o) (zq_Pi g o post) := by
  refine zq_mk_M (by decide) (by simp [Value.category]) (Nat.le_of_ble_eq_true rfl) hAp (fun x hx hG hR => ?_)
  subst hx
  have hW := zq_wr hR.2.2.1
  refine zr_iload_n hG zd_Checker_count_0 rfl rfl ?_
  by_cases hc0 : a1 = 0
  · have h := h.1 hc0
    refine zr_swIn hG 28 zd_Checker_count_1 (by rw [hc0]; decide) (by rw [hc0]; decide) (by rw [hc0]; rfl) (by decide) ?_
    refine zr_aload_n hG zd_Checker_count_28 rfl rfl ?_
    refine zr_callV hG zq_F0 (As := []) (rest := []) (zm_Checker_misplaced (zc_l x) w hAp g o h) 14 rfl rfl rfl zg_Checker_44 zdd_Checker_misplaced ⟨rfl, rfl, by decide, by decide⟩ ⟨by decide, by decide⟩ rfl (Nat.le_of_ble_eq_true rfl) zd_Checker_count_29 rfl ?_
    rintro _ _ ⟨r135, z135, rfl, rfl, h⟩
    exact zr_iret hG hR zd_Checker_count_32 ⟨_, _, rfl, rfl, h⟩
  have h := h.2
  by_cases hc1 : a1 = 1
  · have h := h.1 hc1
    refine zr_swIn hG 33 zd_Checker_count_1 (by rw [hc1]; decide) (by rw [hc1]; decide) (by rw [hc1]; rfl) (by decide) ?_
    refine zr_aload_n hG zd_Checker_count_33 rfl rfl ?_
    refine zr_callV hG zq_F0 (As := []) (rest := []) (zm_Checker_crowded (zc_l x) w hAp g o h) 14 rfl rfl rfl zg_Checker_48 zdd_Checker_crowded ⟨rfl, rfl, by decide, by decide⟩ ⟨by decide, by decide⟩ rfl (Nat.le_of_ble_eq_true rfl) zd_Checker_count_34 rfl ?_
    rintro _ _ ⟨r136, z136, rfl, rfl, h⟩
    exact zr_iret hG hR zd_Checker_count_37 ⟨_, _, rfl, rfl, h⟩
  have h := h.2
  by_cases hc2 : a1 = 2
  · have h := h.1 hc2
    refine zr_swIn hG 38 zd_Checker_count_1 (by rw [hc2]; decide) (by rw [hc2]; decide) (by rw [hc2]; rfl) (by decide) ?_
    refine zr_aload_n hG zd_Checker_count_38 rfl rfl ?_
    refine zr_callV hG zq_F0 (As := []) (rest := []) (zm_Checker_badVias (zc_l x) w hAp g o h) 14 rfl rfl rfl zg_Checker_51 zdd_Checker_badVias ⟨rfl, rfl, by decide, by decide⟩ ⟨by decide, by decide⟩ rfl (Nat.le_of_ble_eq_true rfl) zd_Checker_count_39 rfl ?_
    rintro _ _ ⟨r137, z137, rfl, rfl, h⟩
    exact zr_iret hG hR zd_Checker_count_42 ⟨_, _, rfl, rfl, h⟩
  have h := h.2
  have h := h ⟨hc0, hc1, hc2⟩
  refine zr_swOut hG 43 zd_Checker_count_1 (zq_sw0_2 hc0 hc1 hc2) (by decide) ?_
  refine zr_aload_n hG zd_Checker_count_43 rfl rfl ?_
  refine zr_callV hG (zq_F1 hW) (As := []) (rest := []) (zm_Checker_loose (zc_l x) w hAp g o h) 14 rfl rfl rfl zg_Checker_54 zdd_Checker_loose ⟨rfl, rfl, by decide, by decide⟩ ⟨by decide, by decide⟩ rfl (Nat.le_of_ble_eq_true rfl) zd_Checker_count_44 rfl ?_
  rintro _ _ ⟨r138, z138, rfl, rfl, h⟩
  exact zr_iret hG hR zd_Checker_count_47 ⟨_, _, rfl, rfl, h⟩
def zw_Gr_faults_9 (ln : Nat → Nat) (post : Int32 → zS → Prop) (z : zS) : Prop := False
set_option maxHeartbeats 4000000 in
set_option maxRecDepth 100000 in
theorem zt_Gr_faults_9 {x : zC} {w : zW} {g : zS} {o : Nat → Int64} {post : Int32 → zS → Prop} (hG : zq_G x w "GridRouter" zc_Gr_faults 2 (zq_rm 6 110)) (hR : zq_R x w (zq_A w) (some .int) (zq_Pi g o post)) (hAp : zq_Ap w) (hW : zq_Wr x w) {z : zS} (h : zw_Gr_faults_9 w.2.2.1 post z) : zq_W x w 0 0 (z, g, o) 9 [none, none] [] := by
  exact h.elim
def zw_Gr_faults (ln : Nat → Nat) (a1 : Int32) (z : zS) (post : Int32 → zS → Prop) : Prop := ((a1 < 0 → zw_Gr_faults_9 ln post z) ∧ (¬ a1 < 0 → ((a1 < (4 : Int32) → (zw_Checker_count ln a1 z (fun r49 z49 => post r49 z49))) ∧ (¬ a1 < (4 : Int32) → zw_Gr_faults_9 ln post z))))
set_option maxHeartbeats 4000000 in
set_option maxRecDepth 100000 in
theorem zm_Gr_faults (l : Launch) (w : zW) (hAp : zq_Ap w) (g : zS) (o : Nat → Int64) {a1 : Int32} {z : zS} {post : Int32 → zS → Prop} (h : zw_Gr_faults w.2.2.1 a1 z post) : zq_M l w (zq_A w) zy_Gr_faults zc_Gr_faults 2 (some .int) (zq_rm 6 110) [.ref (w.2.1 0), .int a1] (z, g, o) (zq_Pi g o post) := by
  refine zq_mk_M (by decide) (by simp [Value.category]) (Nat.le_of_ble_eq_true rfl) hAp (fun x hx hG hR => ?_)
  subst hx
  have hW := zq_wr hR.2.2.1
  refine zr_iload_n hG zd_Gr_faults_0 rfl rfl ?_
  refine zr_if_lt hG 9 zd_Gr_faults_1 (by decide) (fun hc => ?_) (fun hc => ?_)
  · have h := h.1 hc
    exact zr_mask [false, false] (zt_Gr_faults_9 hG hR hAp hW h)
  · have h := h.2 hc
    refine zr_iload_n hG zd_Gr_faults_4 rfl rfl ?_
    refine zr_iconst hG (v := (4 : Int32)) zd_Gr_faults_5 (by decide) ?_
    refine zr_icmp_lt hG 19 zd_Gr_faults_6 (by decide) (fun hc => ?_) (fun hc => ?_)
    · have h := h.1 hc
      refine zr_aload_n hG zd_Gr_faults_19 rfl rfl ?_
      refine zf_Gr_checker hG tk_304 zd_Gr_faults_20 ?_
      refine zr_iload_n hG zd_Gr_faults_23 rfl rfl ?_
      refine zr_callV hG (zq_F1 hW) (As := [.int a1]) (rest := []) (zm_Checker_count (zc_l x) w hAp g o h) 14 rfl rfl rfl zg_Gr_167 zdd_Checker_count ⟨rfl, rfl, by decide, by decide⟩ ⟨by decide, by decide⟩ rfl (Nat.le_of_ble_eq_true rfl) zd_Gr_faults_24 rfl ?_
      rintro _ _ ⟨r49, z49, rfl, rfl, h⟩
      exact zr_iret hG hR zd_Gr_faults_27 ⟨_, _, rfl, rfl, h⟩
    · have h := h.2 hc
      exact zr_mask [false, false] (zt_Gr_faults_9 hG hR hAp hW h)
def zw_Shapes_isStart_48 (ln : Nat → Nat) (post : Int32 → zS → Prop) (u0 : Int32) (z : zS) : Prop := (narrow .boolean (.int u0) = .int u0 ∧ post u0 z)
set_option maxHeartbeats 4000000 in
set_option maxRecDepth 100000 in
theorem zt_Shapes_isStart_48 {x : zC} {w : zW} {g : zS} {o : Nat → Int64} {post : Int32 → zS → Prop} (hG : zq_G x w "GridRouter$Shapes" zc_Shapes_isStart 4 (zq_rm 1 22)) (hR : zq_R x w zq_0 (some .boolean) (zq_Pi g o post)) (hAp : zq_Ap w) {u0 : Int32} {z : zS} (h : zw_Shapes_isStart_48 w.2.2.1 post u0 z) : zq_W x w 0 0 (z, g, o) 48 [none, none, none, none] [.int u0] := by
  obtain ⟨hn, h⟩ := h
  exact zr_zret hG hR zd_Shapes_isStart_48 hn ⟨_, _, rfl, rfl, h⟩
def zw_Shapes_isStart_47 (ln : Nat → Nat) (post : Int32 → zS → Prop) (z : zS) : Prop := zw_Shapes_isStart_48 ln post (0 : Int32) z
set_option maxHeartbeats 4000000 in
set_option maxRecDepth 100000 in
theorem zt_Shapes_isStart_47 {x : zC} {w : zW} {g : zS} {o : Nat → Int64} {post : Int32 → zS → Prop} (hG : zq_G x w "GridRouter$Shapes" zc_Shapes_isStart 4 (zq_rm 1 22)) (hR : zq_R x w zq_0 (some .boolean) (zq_Pi g o post)) (hAp : zq_Ap w) {z : zS} (h : zw_Shapes_isStart_47 w.2.2.1 post z) : zq_W x w 0 0 (z, g, o) 47 [none, none, none, none] [] := by
  refine zr_iconst hG (v := (0 : Int32)) zd_Shapes_isStart_47 (by decide) ?_
  exact zt_Shapes_isStart_48 hG hR hAp h
def zw_Shapes_isStart_43 (ln : Nat → Nat) (post : Int32 → zS → Prop) (z : zS) : Prop := zw_Shapes_isStart_48 ln post (1 : Int32) z
set_option maxHeartbeats 4000000 in
set_option maxRecDepth 100000 in
theorem zt_Shapes_isStart_43 {x : zC} {w : zW} {g : zS} {o : Nat → Int64} {post : Int32 → zS → Prop} (hG : zq_G x w "GridRouter$Shapes" zc_Shapes_isStart 4 (zq_rm 1 22)) (hR : zq_R x w zq_0 (some .boolean) (zq_Pi g o post)) (hAp : zq_Ap w) {z : zS} (h : zw_Shapes_isStart_43 w.2.2.1 post z) : zq_W x w 0 0 (z, g, o) 43 [none, none, none, none] [] := by
  refine zr_iconst hG (v := (1 : Int32)) zd_Shapes_isStart_43 (by decide) ?_
  refine zr_goto hG 48 zd_Shapes_isStart_44 (by decide) ?_
  exact zt_Shapes_isStart_48 hG hR hAp h
def zw_Shapes_isStart (ln : Nat → Nat) (a1 : Int32) (z : zS) (post : Int32 → zS → Prop) : Prop := vp_in a1 (ln 6) ∧ (zw_Grid_next ln a1 (0 : Int32) z (fun r195 z195 => (((z.2 6 a1.toNatClampNeg) = (-1 : Int32) → zw_Shapes_isStart_47 ln post z195) ∧ (¬ (z.2 6 a1.toNatClampNeg) = (-1 : Int32) → ((r195 = (-1 : Int32) → zw_Shapes_isStart_43 ln post z195) ∧ (¬ r195 = (-1 : Int32) → vp_in r195 (ln 6) ∧ (((z195.2 6 r195.toNatClampNeg) = (z.2 6 a1.toNatClampNeg) → zw_Shapes_isStart_47 ln post z195) ∧ (¬ (z195.2 6 r195.toNatClampNeg) = (z.2 6 a1.toNatClampNeg) → zw_Shapes_isStart_43 ln post z195))))))))
set_option maxHeartbeats 4000000 in
set_option maxRecDepth 100000 in
theorem zm_Shapes_isStart (l : Launch) (w : zW) (hAp : zq_Ap w) (g : zS) (o : Nat → Int64) {a1 : Int32} {z : zS} {post : Int32 → zS → Prop} (h : zw_Shapes_isStart w.2.2.1 a1 z post) : zq_M l w zq_0 zy_Shapes_isStart zc_Shapes_isStart 4 (some .boolean) (zq_rm 1 22) [.ref (w.2.1 27), .int a1] (z, g, o) (zq_Pi g o post) := by
  refine zq_mk_M (by decide) (by simp [Value.category]) (Nat.le_of_ble_eq_true rfl) hAp (fun x hx hG hR => ?_)
  subst hx
  refine zr_aload_n hG zd_Shapes_isStart_0 rfl rfl ?_
  refine zf_Shapes_layout hG tk_293 zd_Shapes_isStart_1 ?_
  refine zf_Layout_owner hG tk_126 zd_Shapes_isStart_4 ?_
  refine zr_iload_n hG zd_Shapes_isStart_7 rfl rfl ?_
  obtain ⟨hi, h⟩ := h
  refine zl_10 hG hi zd_Shapes_isStart_8 ?_
  refine zr_istore_n hG [some (.ref (w.2.1 27)), some (.int a1), some (.int (z.2 6 a1.toNatClampNeg)), none] zd_Shapes_isStart_9 rfl (Nat.le_of_ble_eq_true rfl) rfl ?_
  refine zr_aload_n hG zd_Shapes_isStart_10 rfl rfl ?_
  refine zf_Shapes_grid hG tk_292 zd_Shapes_isStart_11 ?_
  refine zr_iload_n hG zd_Shapes_isStart_14 rfl rfl ?_
  refine zr_iconst hG (v := (0 : Int32)) zd_Shapes_isStart_15 (by decide) ?_
  refine zr_callV hG zq_F0 (As := [.int a1, .int (0 : Int32)]) (rest := []) (zm_Grid_next (zc_l x) w hAp g o h) 1 rfl rfl rfl zg_Shapes_48 zdd_Grid_next ⟨rfl, rfl, by decide, by decide⟩ ⟨by decide, by decide⟩ rfl (Nat.le_of_ble_eq_true rfl) zd_Shapes_isStart_16 rfl ?_
  rintro _ _ ⟨r195, z195, rfl, rfl, h⟩
  refine zr_istore_n hG [some (.ref (w.2.1 27)), some (.int a1), some (.int (z.2 6 a1.toNatClampNeg)), some (.int r195)] zd_Shapes_isStart_19 rfl (Nat.le_of_ble_eq_true rfl) rfl ?_
  refine zr_iload_n hG zd_Shapes_isStart_20 rfl rfl ?_
  refine zr_iconst hG (v := (-1 : Int32)) zd_Shapes_isStart_21 (by decide) ?_
  refine zr_icmp_eq hG 47 zd_Shapes_isStart_22 (by decide) (fun hc => ?_) (fun hc => ?_)
  · have h := h.1 hc
    exact zr_mask [false, false, false, false] (zt_Shapes_isStart_47 hG hR hAp h)
  · have h := h.2 hc
    refine zr_iload_n hG zd_Shapes_isStart_25 rfl rfl ?_
    refine zr_iconst hG (v := (-1 : Int32)) zd_Shapes_isStart_26 (by decide) ?_
    refine zr_icmp_eq hG 43 zd_Shapes_isStart_27 (by decide) (fun hc => ?_) (fun hc => ?_)
    · have h := h.1 hc
      exact zr_mask [false, false, false, false] (zt_Shapes_isStart_43 hG hR hAp h)
    · have h := h.2 hc
      refine zr_aload_n hG zd_Shapes_isStart_30 rfl rfl ?_
      refine zf_Shapes_layout hG tk_293 zd_Shapes_isStart_31 ?_
      refine zf_Layout_owner hG tk_126 zd_Shapes_isStart_34 ?_
      refine zr_iload_n hG zd_Shapes_isStart_37 rfl rfl ?_
      obtain ⟨hi, h⟩ := h
      refine zl_10 hG hi zd_Shapes_isStart_38 ?_
      refine zr_iload_n hG zd_Shapes_isStart_39 rfl rfl ?_
      refine zr_icmp_eq hG 47 zd_Shapes_isStart_40 (by decide) (fun hc => ?_) (fun hc => ?_)
      · have h := h.1 hc
        exact zr_mask [false, false, false, false] (zt_Shapes_isStart_47 hG hR hAp h)
      · have h := h.2 hc
        exact zr_mask [false, false, false, false] (zt_Shapes_isStart_43 hG hR hAp h)
