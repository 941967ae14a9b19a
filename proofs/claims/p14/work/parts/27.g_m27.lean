def zw_Mo_paint_55 (post : zS → Prop) (z : zS) : Prop := post z
set_option maxHeartbeats 4000000 in
set_option maxRecDepth 100000 in
theorem zt_Mo_paint_55 {x : zC} {w : zW} {g : zS} {o : Nat → Int64} {post : zS → Prop} (hG : zq_G x w "GridRouterModel" zc_Mo_paint 6 (zq_rm 2 45)) (hR : zq_R x w (zq_A w) none (zq_Nv g o post)) (hAp : zq_Ap w) (hW : zq_Wr x w) {z : zS} (h : zw_Mo_paint_55 post z) : zq_W x w 0 0 (g, z, o) 55 [none, none, none, none, none, none] [] := by
  exact zr_vret hG hR zd_Mo_paint_55 ⟨_, rfl, rfl, h⟩
def zw_Mo_paint_36 (post : zS → Prop) (v4 v5 u0 : Int32) (z : zS) : Prop := ((¬ ((zs_s z 4 u0).1 4) = 0 → zw_Mo_paint_55 post (zs_s z 4 u0)) ∧ (((zs_s z 4 u0).1 4) = 0 → vp_in v5 162 ∧ zw_Mo_paint_55 post (zs_a (zs_s z 4 u0) 2 v5 v4)))
set_option maxHeartbeats 4000000 in
set_option maxRecDepth 100000 in
theorem zt_Mo_paint_36 {x : zC} {w : zW} {g : zS} {o : Nat → Int64} {post : zS → Prop} (hG : zq_G x w "GridRouterModel" zc_Mo_paint 6 (zq_rm 2 45)) (hR : zq_R x w (zq_A w) none (zq_Nv g o post)) (hAp : zq_Ap w) (hW : zq_Wr x w) {v4 v5 u0 : Int32} {z : zS} (h : zw_Mo_paint_36 post v4 v5 u0 z) : zq_W x w 0 0 (g, z, o) 36 [some (.ref (w.2.1 28)), none, none, none, some (.int v4), some (.int v5)] [.int u0, .ref (w.2.1 28)] := by
  refine zp_Mo_code hG hW tk_767 zd_Mo_paint_36 ?_
  refine zr_aload_n hG zd_Mo_paint_39 rfl rfl ?_
  refine zf_Mo_code hG tk_767 zd_Mo_paint_40 ?_
  refine zr_if_ne hG 55 zd_Mo_paint_43 (by decide) (fun hc => ?_) (fun hc => ?_)
  · have h := h.1 hc
    exact zr_mask [false, false, false, false, false, false] (zt_Mo_paint_55 hG hR hAp hW h)
  · have h := h.2 hc
    refine zr_aload_n hG zd_Mo_paint_46 rfl rfl ?_
    refine zf_Mo_owner hG tk_770 zd_Mo_paint_47 ?_
    refine zr_iload hG zd_Mo_paint_50 rfl ?_
    refine zr_iload hG zd_Mo_paint_52 rfl ?_
    obtain ⟨hi, h⟩ := h
    refine zu_31 hG hW hi zd_Mo_paint_54 ?_
    exact zr_mask [false, false, false, false, false, false] (zt_Mo_paint_55 hG hR hAp hW h)
def zw_Mo_paint_35 (post : zS → Prop) (v4 v5 : Int32) (z : zS) : Prop := zw_Mo_paint_36 post v4 v5 (1 : Int32) z
set_option maxHeartbeats 4000000 in
set_option maxRecDepth 100000 in
theorem zt_Mo_paint_35 {x : zC} {w : zW} {g : zS} {o : Nat → Int64} {post : zS → Prop} (hG : zq_G x w "GridRouterModel" zc_Mo_paint 6 (zq_rm 2 45)) (hR : zq_R x w (zq_A w) none (zq_Nv g o post)) (hAp : zq_Ap w) (hW : zq_Wr x w) {v4 v5 : Int32} {z : zS} (h : zw_Mo_paint_35 post v4 v5 z) : zq_W x w 0 0 (g, z, o) 35 [some (.ref (w.2.1 28)), none, none, none, some (.int v4), some (.int v5)] [.ref (w.2.1 28)] := by
  refine zr_iconst hG (v := (1 : Int32)) zd_Mo_paint_35 (by decide) ?_
  exact zt_Mo_paint_36 hG hR hAp hW h
def zw_Mo_paint_31 (post : zS → Prop) (v4 v5 : Int32) (z : zS) : Prop := zw_Mo_paint_36 post v4 v5 (0 : Int32) z
set_option maxHeartbeats 4000000 in
set_option maxRecDepth 100000 in
theorem zt_Mo_paint_31 {x : zC} {w : zW} {g : zS} {o : Nat → Int64} {post : zS → Prop} (hG : zq_G x w "GridRouterModel" zc_Mo_paint 6 (zq_rm 2 45)) (hR : zq_R x w (zq_A w) none (zq_Nv g o post)) (hAp : zq_Ap w) (hW : zq_Wr x w) {v4 v5 : Int32} {z : zS} (h : zw_Mo_paint_31 post v4 v5 z) : zq_W x w 0 0 (g, z, o) 31 [some (.ref (w.2.1 28)), none, none, none, some (.int v4), some (.int v5)] [.ref (w.2.1 28)] := by
  refine zr_iconst hG (v := (0 : Int32)) zd_Mo_paint_31 (by decide) ?_
  refine zr_goto hG 36 zd_Mo_paint_32 (by decide) ?_
  exact zt_Mo_paint_36 hG hR hAp hW h
def zw_Mo_paint (a1 a2 a3 a4 : Int32) (z : zS) (post : zS → Prop) : Prop := (zw_Mo_at a1 a2 a3 z (fun r111 z111 => ((r111 = (-1 : Int32) → zw_Mo_paint_35 post a4 r111 z111) ∧ (¬ r111 = (-1 : Int32) → ((a4 = (-1 : Int32) → zw_Mo_paint_31 post a4 r111 z111) ∧ (¬ a4 = (-1 : Int32) → (zw_Mo_isNet a4 z111 (fun r112 z112 => ((r112 = 0 → zw_Mo_paint_35 post a4 r111 z112) ∧ (¬ r112 = 0 → zw_Mo_paint_31 post a4 r111 z112))))))))))
set_option maxHeartbeats 4000000 in
set_option maxRecDepth 100000 in
theorem zm_Mo_paint (l : Launch) (w : zW) (hAp : zq_Ap w) (g : zS) (o : Nat → Int64) {a1 a2 a3 a4 : Int32} {z : zS} {post : zS → Prop} (h : zw_Mo_paint a1 a2 a3 a4 z post) : zq_M l w (zq_A w) zy_Mo_paint zc_Mo_paint 6 none (zq_rm 2 45) [.ref (w.2.1 28), .int a1, .int a2, .int a3, .int a4] (g, z, o) (zq_Nv g o post) := by
  refine zq_mk_M (by decide) (by simp [Value.category]) (Nat.le_of_ble_eq_true rfl) hAp (fun x hx hG hR => ?_)
  subst hx
  have hW := zq_wr hR.2.2.1
  have h : (zw_Mo_at a1 a2 a3 z (fun r111 z111 => ((r111 = (-1 : Int32) → zw_Mo_paint_35 post a4 r111 z111) ∧ (¬ r111 = (-1 : Int32) → ((a4 = (-1 : Int32) → zw_Mo_paint_31 post a4 r111 z111) ∧ (¬ a4 = (-1 : Int32) → (zw_Mo_isNet a4 z111 (fun r112 z112 => ((r112 = 0 → zw_Mo_paint_35 post a4 r111 z112) ∧ (¬ r112 = 0 → zw_Mo_paint_31 post a4 r111 z112)))))))))) := h
  refine zr_aload_n hG zd_Mo_paint_0 rfl rfl ?_
  refine zr_iload_n hG zd_Mo_paint_1 rfl rfl ?_
  refine zr_iload_n hG zd_Mo_paint_2 rfl rfl ?_
  refine zr_iload_n hG zd_Mo_paint_3 rfl rfl ?_
  refine zr_callV hG zq_F0 (As := [.int a1, .int a2, .int a3]) (rest := []) (zm_Mo_at (zc_l x) w hAp g o h) 28 rfl rfl rfl zg_Mo_65 zdd_Mo_at ⟨rfl, rfl, by decide, by decide⟩ ⟨by decide, by decide⟩ rfl (Nat.le_of_ble_eq_true rfl) zd_Mo_paint_4 rfl ?_
  rintro _ _ ⟨r111, z111, rfl, rfl, h⟩
  refine zr_istore hG [some (.ref (w.2.1 28)), some (.int a1), some (.int a2), some (.int a3), some (.int a4), some (.int r111)] zd_Mo_paint_7 (Nat.le_of_ble_eq_true rfl) rfl ?_
  refine zr_aload_n hG zd_Mo_paint_9 rfl rfl ?_
  refine zr_iload hG zd_Mo_paint_10 rfl ?_
  refine zr_iconst hG (v := (-1 : Int32)) zd_Mo_paint_12 (by decide) ?_
  refine zr_icmp_eq hG 35 zd_Mo_paint_13 (by decide) (fun hc => ?_) (fun hc => ?_)
  · have h := h.1 hc
    exact zr_mask [true, false, false, false, true, true] (zt_Mo_paint_35 hG hR hAp hW h)
  · have h := h.2 hc
    refine zr_iload hG zd_Mo_paint_16 rfl ?_
    refine zr_iconst hG (v := (-1 : Int32)) zd_Mo_paint_18 (by decide) ?_
    refine zr_icmp_eq hG 31 zd_Mo_paint_19 (by decide) (fun hc => ?_) (fun hc => ?_)
    · have h := h.1 hc
      exact zr_mask [true, false, false, false, true, true] (zt_Mo_paint_31 hG hR hAp hW h)
    · have h := h.2 hc
      refine zr_aload_n hG zd_Mo_paint_22 rfl rfl ?_
      refine zr_iload hG zd_Mo_paint_23 rfl ?_
      refine zr_callV hG zq_F0 (As := [.int a4]) (rest := [.ref (w.2.1 28)]) (zm_Mo_isNet (zc_l x) w hAp g o h) 28 rfl rfl rfl zg_Mo_122 zdd_Mo_isNet ⟨rfl, rfl, by decide, by decide⟩ ⟨by decide, by decide⟩ rfl (Nat.le_of_ble_eq_true rfl) zd_Mo_paint_25 rfl ?_
      rintro _ _ ⟨r112, z112, rfl, rfl, h⟩
      refine zr_if_eq hG 35 zd_Mo_paint_28 (by decide) (fun hc => ?_) (fun hc => ?_)
      · have h := h.1 hc
        exact zr_mask [true, false, false, false, true, true] (zt_Mo_paint_35 hG hR hAp hW h)
      · have h := h.2 hc
        exact zr_mask [true, false, false, false, true, true] (zt_Mo_paint_31 hG hR hAp hW h)
def zw_Mo_stitch_60 (post : Int32 → zS → Prop) (v1 v2 u0 u1 : Int32) (z : zS) : Prop := vp_in u1 81 ∧ vp_in ((v2 * ((zs_a z 3 u1 (vp_nar .boolean u0)).1 0)) + v1) 81 ∧ (narrow .boolean (.int ((zs_a z 3 u1 (vp_nar .boolean u0)).2 3 ((v2 * ((zs_a z 3 u1 (vp_nar .boolean u0)).1 0)) + v1).toNatClampNeg)) = .int ((zs_a z 3 u1 (vp_nar .boolean u0)).2 3 ((v2 * ((zs_a z 3 u1 (vp_nar .boolean u0)).1 0)) + v1).toNatClampNeg) ∧ post ((zs_a z 3 u1 (vp_nar .boolean u0)).2 3 ((v2 * ((zs_a z 3 u1 (vp_nar .boolean u0)).1 0)) + v1).toNatClampNeg) (zs_a z 3 u1 (vp_nar .boolean u0)))
set_option maxHeartbeats 4000000 in
set_option maxRecDepth 100000 in
theorem zt_Mo_stitch_60 {x : zC} {w : zW} {g : zS} {o : Nat → Int64} {post : Int32 → zS → Prop} (hG : zq_G x w "GridRouterModel" zc_Mo_stitch 3 (zq_rm 1 22)) (hR : zq_R x w (zq_A w) (some .boolean) (zq_Ni g o post)) (hAp : zq_Ap w) (hW : zq_Wr x w) {v1 v2 u0 u1 : Int32} {z : zS} (h : zw_Mo_stitch_60 post v1 v2 u0 u1 z) : zq_W x w 0 0 (g, z, o) 60 [some (.ref (w.2.1 28)), some (.int v1), some (.int v2)] [.int u0, .int u1, .ref (w.2.1 32)] := by
  obtain ⟨hi, h⟩ := h
  refine zu_32 hG hW hi zd_Mo_stitch_60 ?_
  refine zr_aload_n hG zd_Mo_stitch_61 rfl rfl ?_
  refine zf_Mo_vias hG tk_771 zd_Mo_stitch_62 ?_
  refine zr_iload_n hG zd_Mo_stitch_65 rfl rfl ?_
  refine zr_aload_n hG zd_Mo_stitch_66 rfl rfl ?_
  refine zf_Mo_width hG tk_763 zd_Mo_stitch_67 ?_
  refine zr_imul hG zd_Mo_stitch_70 ?_
  refine zr_iload_n hG zd_Mo_stitch_71 rfl rfl ?_
  refine zr_iadd hG zd_Mo_stitch_72 ?_
  obtain ⟨hi, h⟩ := h
  refine zl_32 hG hi zd_Mo_stitch_73 ?_
  obtain ⟨hn, h⟩ := h
  exact zr_zret hG hR zd_Mo_stitch_74 hn ⟨_, _, rfl, rfl, h⟩
def zw_Mo_stitch_15 (post : Int32 → zS → Prop) (v1 v2 u0 : Int32) (z : zS) : Prop := ((((zs_s z 4 u0).1 4) ≤ 0 → vp_in ((v2 * ((zs_s z 4 u0).1 0)) + v1) 81 ∧ ((¬ ((zs_s z 4 u0).2 3 ((v2 * ((zs_s z 4 u0).1 0)) + v1).toNatClampNeg) = 0 → zw_Mo_stitch_60 post v1 v2 (0 : Int32) ((v2 * ((zs_s z 4 u0).1 0)) + v1) (zs_s z 4 u0)) ∧ (((zs_s z 4 u0).2 3 ((v2 * ((zs_s z 4 u0).1 0)) + v1).toNatClampNeg) = 0 → zw_Mo_stitch_60 post v1 v2 (1 : Int32) ((v2 * ((zs_s z 4 u0).1 0)) + v1) (zs_s z 4 u0)))) ∧ (¬ ((zs_s z 4 u0).1 4) ≤ 0 → (narrow .boolean (.int (0 : Int32)) = .int (0 : Int32) ∧ post (0 : Int32) (zs_s z 4 u0))))
set_option maxHeartbeats 4000000 in
set_option maxRecDepth 100000 in
theorem zt_Mo_stitch_15 {x : zC} {w : zW} {g : zS} {o : Nat → Int64} {post : Int32 → zS → Prop} (hG : zq_G x w "GridRouterModel" zc_Mo_stitch 3 (zq_rm 1 22)) (hR : zq_R x w (zq_A w) (some .boolean) (zq_Ni g o post)) (hAp : zq_Ap w) (hW : zq_Wr x w) {v1 v2 u0 : Int32} {z : zS} (h : zw_Mo_stitch_15 post v1 v2 u0 z) : zq_W x w 0 0 (g, z, o) 15 [some (.ref (w.2.1 28)), some (.int v1), some (.int v2)] [.int u0, .ref (w.2.1 28)] := by
  refine zp_Mo_code hG hW tk_767 zd_Mo_stitch_15 ?_
  refine zr_aload_n hG zd_Mo_stitch_18 rfl rfl ?_
  refine zf_Mo_code hG tk_767 zd_Mo_stitch_19 ?_
  refine zr_if_le hG 27 zd_Mo_stitch_22 (by decide) (fun hc => ?_) (fun hc => ?_)
  · have h := h.1 hc
    refine zr_aload_n hG zd_Mo_stitch_27 rfl rfl ?_
    refine zf_Mo_vias hG tk_771 zd_Mo_stitch_28 ?_
    refine zr_iload_n hG zd_Mo_stitch_31 rfl rfl ?_
    refine zr_aload_n hG zd_Mo_stitch_32 rfl rfl ?_
    refine zf_Mo_width hG tk_763 zd_Mo_stitch_33 ?_
    refine zr_imul hG zd_Mo_stitch_36 ?_
    refine zr_iload_n hG zd_Mo_stitch_37 rfl rfl ?_
    refine zr_iadd hG zd_Mo_stitch_38 ?_
    refine zr_aload_n hG zd_Mo_stitch_39 rfl rfl ?_
    refine zf_Mo_vias hG tk_771 zd_Mo_stitch_40 ?_
    refine zr_iload_n hG zd_Mo_stitch_43 rfl rfl ?_
    refine zr_aload_n hG zd_Mo_stitch_44 rfl rfl ?_
    refine zf_Mo_width hG tk_763 zd_Mo_stitch_45 ?_
    refine zr_imul hG zd_Mo_stitch_48 ?_
    refine zr_iload_n hG zd_Mo_stitch_49 rfl rfl ?_
    refine zr_iadd hG zd_Mo_stitch_50 ?_
    obtain ⟨hi, h⟩ := h
    refine zl_32 hG hi zd_Mo_stitch_51 ?_
    refine zr_if_ne hG 59 zd_Mo_stitch_52 (by decide) (fun hc => ?_) (fun hc => ?_)
    · have h := h.1 hc
      refine zr_iconst hG (v := (0 : Int32)) zd_Mo_stitch_59 (by decide) ?_
      exact zt_Mo_stitch_60 hG hR hAp hW h
    · have h := h.2 hc
      refine zr_iconst hG (v := (1 : Int32)) zd_Mo_stitch_55 (by decide) ?_
      refine zr_goto hG 60 zd_Mo_stitch_56 (by decide) ?_
      exact zt_Mo_stitch_60 hG hR hAp hW h
  · have h := h.2 hc
    refine zr_iconst hG (v := (0 : Int32)) zd_Mo_stitch_25 (by decide) ?_
    obtain ⟨hn, h⟩ := h
    exact zr_zret hG hR zd_Mo_stitch_26 hn ⟨_, _, rfl, rfl, h⟩
def zw_Mo_stitch (a1 a2 : Int32) (z : zS) (post : Int32 → zS → Prop) : Prop := (zw_Mo_isPlace a1 a2 z (fun r113 z113 => ((r113 = 0 → zw_Mo_stitch_15 post a1 a2 (1 : Int32) z113) ∧ (¬ r113 = 0 → zw_Mo_stitch_15 post a1 a2 (0 : Int32) z113))))
set_option maxHeartbeats 4000000 in
set_option maxRecDepth 100000 in
theorem zm_Mo_stitch (l : Launch) (w : zW) (hAp : zq_Ap w) (g : zS) (o : Nat → Int64) {a1 a2 : Int32} {z : zS} {post : Int32 → zS → Prop} (h : zw_Mo_stitch a1 a2 z post) : zq_M l w (zq_A w) zy_Mo_stitch zc_Mo_stitch 3 (some .boolean) (zq_rm 1 22) [.ref (w.2.1 28), .int a1, .int a2] (g, z, o) (zq_Ni g o post) := by
  refine zq_mk_M (by decide) (by simp [Value.category]) (Nat.le_of_ble_eq_true rfl) hAp (fun x hx hG hR => ?_)
  subst hx
  have hW := zq_wr hR.2.2.1
  have h : (zw_Mo_isPlace a1 a2 z (fun r113 z113 => ((r113 = 0 → zw_Mo_stitch_15 post a1 a2 (1 : Int32) z113) ∧ (¬ r113 = 0 → zw_Mo_stitch_15 post a1 a2 (0 : Int32) z113)))) := h
  refine zr_aload_n hG zd_Mo_stitch_0 rfl rfl ?_
  refine zr_aload_n hG zd_Mo_stitch_1 rfl rfl ?_
  refine zr_iload_n hG zd_Mo_stitch_2 rfl rfl ?_
  refine zr_iload_n hG zd_Mo_stitch_3 rfl rfl ?_
  refine zr_callV hG zq_F0 (As := [.int a1, .int a2]) (rest := [.ref (w.2.1 28)]) (zm_Mo_isPlace (zc_l x) w hAp g o h) 28 rfl rfl rfl zg_Mo_61 zdd_Mo_isPlace ⟨rfl, rfl, by decide, by decide⟩ ⟨by decide, by decide⟩ rfl (Nat.le_of_ble_eq_true rfl) zd_Mo_stitch_4 rfl ?_
  rintro _ _ ⟨r113, z113, rfl, rfl, h⟩
  refine zr_if_eq hG 14 zd_Mo_stitch_7 (by decide) (fun hc => ?_) (fun hc => ?_)
  · have h := h.1 hc
    refine zr_iconst hG (v := (1 : Int32)) zd_Mo_stitch_14 (by decide) ?_
    exact zt_Mo_stitch_15 hG hR hAp hW h
  · have h := h.2 hc
    refine zr_iconst hG (v := (0 : Int32)) zd_Mo_stitch_10 (by decide) ?_
    refine zr_goto hG 15 zd_Mo_stitch_11 (by decide) ?_
    exact zt_Mo_stitch_15 hG hR hAp hW h
def zw_Mo_cell_42 (post : Int32 → zS → Prop) (u0 : Int32) (z : zS) : Prop := post u0 z
set_option maxHeartbeats 4000000 in
set_option maxRecDepth 100000 in
theorem zt_Mo_cell_42 {x : zC} {w : zW} {g : zS} {o : Nat → Int64} {post : Int32 → zS → Prop} (hG : zq_G x w "GridRouterModel" zc_Mo_cell 5 (zq_rm 2 45)) (hR : zq_R x w (zq_A w) (some .int) (zq_Ni g o post)) (hAp : zq_Ap w) (hW : zq_Wr x w) {u0 : Int32} {z : zS} (h : zw_Mo_cell_42 post u0 z) : zq_W x w 0 0 (g, z, o) 42 [none, none, none, none, none] [.int u0] := by
  exact zr_iret hG hR zd_Mo_cell_42 ⟨_, _, rfl, rfl, h⟩
def zw_Mo_cell_21 (post : Int32 → zS → Prop) (v4 u0 : Int32) (z : zS) : Prop := ((¬ ((zs_s z 4 u0).1 4) = 0 → zw_Mo_cell_42 post (0 : Int32) (zs_s z 4 u0)) ∧ (((zs_s z 4 u0).1 4) = 0 → vp_in v4 162 ∧ zw_Mo_cell_42 post ((zs_s z 4 u0).2 2 v4.toNatClampNeg) (zs_s z 4 u0)))
set_option maxHeartbeats 4000000 in
set_option maxRecDepth 100000 in
theorem zt_Mo_cell_21 {x : zC} {w : zW} {g : zS} {o : Nat → Int64} {post : Int32 → zS → Prop} (hG : zq_G x w "GridRouterModel" zc_Mo_cell 5 (zq_rm 2 45)) (hR : zq_R x w (zq_A w) (some .int) (zq_Ni g o post)) (hAp : zq_Ap w) (hW : zq_Wr x w) {v4 u0 : Int32} {z : zS} (h : zw_Mo_cell_21 post v4 u0 z) : zq_W x w 0 0 (g, z, o) 21 [some (.ref (w.2.1 28)), none, none, none, some (.int v4)] [.int u0, .ref (w.2.1 28)] := by
  refine zp_Mo_code hG hW tk_767 zd_Mo_cell_21 ?_
  refine zr_aload_n hG zd_Mo_cell_24 rfl rfl ?_
  refine zf_Mo_code hG tk_767 zd_Mo_cell_25 ?_
  refine zr_if_ne hG 41 zd_Mo_cell_28 (by decide) (fun hc => ?_) (fun hc => ?_)
  · have h := h.1 hc
    refine zr_iconst hG (v := (0 : Int32)) zd_Mo_cell_41 (by decide) ?_
    exact zr_mask [false, false, false, false, false] (zt_Mo_cell_42 hG hR hAp hW h)
  · have h := h.2 hc
    refine zr_aload_n hG zd_Mo_cell_31 rfl rfl ?_
    refine zf_Mo_owner hG tk_770 zd_Mo_cell_32 ?_
    refine zr_iload hG zd_Mo_cell_35 rfl ?_
    obtain ⟨hi, h⟩ := h
    refine zl_31 hG hi zd_Mo_cell_37 ?_
    refine zr_goto hG 42 zd_Mo_cell_38 (by decide) ?_
    exact zr_mask [false, false, false, false, false] (zt_Mo_cell_42 hG hR hAp hW h)
def zw_Mo_cell (a1 a2 a3 : Int32) (z : zS) (post : Int32 → zS → Prop) : Prop := (zw_Mo_at a1 a2 a3 z (fun r114 z114 => ((¬ r114 = (-1 : Int32) → zw_Mo_cell_21 post r114 (0 : Int32) z114) ∧ (r114 = (-1 : Int32) → zw_Mo_cell_21 post r114 (1 : Int32) z114))))
set_option maxHeartbeats 4000000 in
set_option maxRecDepth 100000 in
theorem zm_Mo_cell (l : Launch) (w : zW) (hAp : zq_Ap w) (g : zS) (o : Nat → Int64) {a1 a2 a3 : Int32} {z : zS} {post : Int32 → zS → Prop} (h : zw_Mo_cell a1 a2 a3 z post) : zq_M l w (zq_A w) zy_Mo_cell zc_Mo_cell 5 (some .int) (zq_rm 2 45) [.ref (w.2.1 28), .int a1, .int a2, .int a3] (g, z, o) (zq_Ni g o post) := by
  refine zq_mk_M (by decide) (by simp [Value.category]) (Nat.le_of_ble_eq_true rfl) hAp (fun x hx hG hR => ?_)
  subst hx
  have hW := zq_wr hR.2.2.1
  have h : (zw_Mo_at a1 a2 a3 z (fun r114 z114 => ((¬ r114 = (-1 : Int32) → zw_Mo_cell_21 post r114 (0 : Int32) z114) ∧ (r114 = (-1 : Int32) → zw_Mo_cell_21 post r114 (1 : Int32) z114)))) := h
  refine zr_aload_n hG zd_Mo_cell_0 rfl rfl ?_
  refine zr_iload_n hG zd_Mo_cell_1 rfl rfl ?_
  refine zr_iload_n hG zd_Mo_cell_2 rfl rfl ?_
  refine zr_iload_n hG zd_Mo_cell_3 rfl rfl ?_
  refine zr_callV hG zq_F0 (As := [.int a1, .int a2, .int a3]) (rest := []) (zm_Mo_at (zc_l x) w hAp g o h) 28 rfl rfl rfl zg_Mo_65 zdd_Mo_at ⟨rfl, rfl, by decide, by decide⟩ ⟨by decide, by decide⟩ rfl (Nat.le_of_ble_eq_true rfl) zd_Mo_cell_4 rfl ?_
  rintro _ _ ⟨r114, z114, rfl, rfl, h⟩
  refine zr_istore hG [some (.ref (w.2.1 28)), some (.int a1), some (.int a2), some (.int a3), some (.int r114)] zd_Mo_cell_7 (Nat.le_of_ble_eq_true rfl) rfl ?_
  refine zr_aload_n hG zd_Mo_cell_9 rfl rfl ?_
  refine zr_iload hG zd_Mo_cell_10 rfl ?_
  refine zr_iconst hG (v := (-1 : Int32)) zd_Mo_cell_12 (by decide) ?_
  refine zr_icmp_ne hG 20 zd_Mo_cell_13 (by decide) (fun hc => ?_) (fun hc => ?_)
  · have h := h.1 hc
    refine zr_iconst hG (v := (0 : Int32)) zd_Mo_cell_20 (by decide) ?_
    exact zr_mask [true, false, false, false, true] (zt_Mo_cell_21 hG hR hAp hW h)
  · have h := h.2 hc
    refine zr_iconst hG (v := (1 : Int32)) zd_Mo_cell_16 (by decide) ?_
    refine zr_goto hG 21 zd_Mo_cell_17 (by decide) ?_
    exact zr_mask [true, false, false, false, true] (zt_Mo_cell_21 hG hR hAp hW h)
def zw_Mo_via_46 (post : Int32 → zS → Prop) (u0 : Int32) (z : zS) : Prop := (narrow .boolean (.int u0) = .int u0 ∧ post u0 z)
set_option maxHeartbeats 4000000 in
set_option maxRecDepth 100000 in
theorem zt_Mo_via_46 {x : zC} {w : zW} {g : zS} {o : Nat → Int64} {post : Int32 → zS → Prop} (hG : zq_G x w "GridRouterModel" zc_Mo_via 3 (zq_rm 1 22)) (hR : zq_R x w (zq_A w) (some .boolean) (zq_Ni g o post)) (hAp : zq_Ap w) (hW : zq_Wr x w) {u0 : Int32} {z : zS} (h : zw_Mo_via_46 post u0 z) : zq_W x w 0 0 (g, z, o) 46 [none, none, none] [.int u0] := by
  obtain ⟨hn, h⟩ := h
  exact zr_zret hG hR zd_Mo_via_46 hn ⟨_, _, rfl, rfl, h⟩
def zw_Mo_via_45 (post : Int32 → zS → Prop) (z : zS) : Prop := zw_Mo_via_46 post (0 : Int32) z
set_option maxHeartbeats 4000000 in
set_option maxRecDepth 100000 in
theorem zt_Mo_via_45 {x : zC} {w : zW} {g : zS} {o : Nat → Int64} {post : Int32 → zS → Prop} (hG : zq_G x w "GridRouterModel" zc_Mo_via 3 (zq_rm 1 22)) (hR : zq_R x w (zq_A w) (some .boolean) (zq_Ni g o post)) (hAp : zq_Ap w) (hW : zq_Wr x w) {z : zS} (h : zw_Mo_via_45 post z) : zq_W x w 0 0 (g, z, o) 45 [none, none, none] [] := by
  refine zr_iconst hG (v := (0 : Int32)) zd_Mo_via_45 (by decide) ?_
  exact zt_Mo_via_46 hG hR hAp hW h
def zw_Mo_via_15 (post : Int32 → zS → Prop) (v1 v2 u0 : Int32) (z : zS) : Prop := ((¬ ((zs_s z 4 u0).1 4) = 0 → zw_Mo_via_45 post (zs_s z 4 u0)) ∧ (((zs_s z 4 u0).1 4) = 0 → vp_in ((v2 * ((zs_s z 4 u0).1 0)) + v1) 81 ∧ ((((zs_s z 4 u0).2 3 ((v2 * ((zs_s z 4 u0).1 0)) + v1).toNatClampNeg) = 0 → zw_Mo_via_45 post (zs_s z 4 u0)) ∧ (¬ ((zs_s z 4 u0).2 3 ((v2 * ((zs_s z 4 u0).1 0)) + v1).toNatClampNeg) = 0 → zw_Mo_via_46 post (1 : Int32) (zs_s z 4 u0)))))
set_option maxHeartbeats 4000000 in
set_option maxRecDepth 100000 in
theorem zt_Mo_via_15 {x : zC} {w : zW} {g : zS} {o : Nat → Int64} {post : Int32 → zS → Prop} (hG : zq_G x w "GridRouterModel" zc_Mo_via 3 (zq_rm 1 22)) (hR : zq_R x w (zq_A w) (some .boolean) (zq_Ni g o post)) (hAp : zq_Ap w) (hW : zq_Wr x w) {v1 v2 u0 : Int32} {z : zS} (h : zw_Mo_via_15 post v1 v2 u0 z) : zq_W x w 0 0 (g, z, o) 15 [some (.ref (w.2.1 28)), some (.int v1), some (.int v2)] [.int u0, .ref (w.2.1 28)] := by
  refine zp_Mo_code hG hW tk_767 zd_Mo_via_15 ?_
  refine zr_aload_n hG zd_Mo_via_18 rfl rfl ?_
  refine zf_Mo_code hG tk_767 zd_Mo_via_19 ?_
  refine zr_if_ne hG 45 zd_Mo_via_22 (by decide) (fun hc => ?_) (fun hc => ?_)
  · have h := h.1 hc
    exact zr_mask [false, false, false] (zt_Mo_via_45 hG hR hAp hW h)
  · have h := h.2 hc
    refine zr_aload_n hG zd_Mo_via_25 rfl rfl ?_
    refine zf_Mo_vias hG tk_771 zd_Mo_via_26 ?_
    refine zr_iload_n hG zd_Mo_via_29 rfl rfl ?_
    refine zr_aload_n hG zd_Mo_via_30 rfl rfl ?_
    refine zf_Mo_width hG tk_763 zd_Mo_via_31 ?_
    refine zr_imul hG zd_Mo_via_34 ?_
    refine zr_iload_n hG zd_Mo_via_35 rfl rfl ?_
    refine zr_iadd hG zd_Mo_via_36 ?_
    obtain ⟨hi, h⟩ := h
    refine zl_32 hG hi zd_Mo_via_37 ?_
    refine zr_if_eq hG 45 zd_Mo_via_38 (by decide) (fun hc => ?_) (fun hc => ?_)
    · have h := h.1 hc
      exact zr_mask [false, false, false] (zt_Mo_via_45 hG hR hAp hW h)
    · have h := h.2 hc
      refine zr_iconst hG (v := (1 : Int32)) zd_Mo_via_41 (by decide) ?_
      refine zr_goto hG 46 zd_Mo_via_42 (by decide) ?_
      exact zr_mask [false, false, false] (zt_Mo_via_46 hG hR hAp hW h)
def zw_Mo_via (a1 a2 : Int32) (z : zS) (post : Int32 → zS → Prop) : Prop := (zw_Mo_isPlace a1 a2 z (fun r115 z115 => ((r115 = 0 → zw_Mo_via_15 post a1 a2 (1 : Int32) z115) ∧ (¬ r115 = 0 → zw_Mo_via_15 post a1 a2 (0 : Int32) z115))))
set_option maxHeartbeats 4000000 in
set_option maxRecDepth 100000 in
theorem zm_Mo_via (l : Launch) (w : zW) (hAp : zq_Ap w) (g : zS) (o : Nat → Int64) {a1 a2 : Int32} {z : zS} {post : Int32 → zS → Prop} (h : zw_Mo_via a1 a2 z post) : zq_M l w (zq_A w) zy_Mo_via zc_Mo_via 3 (some .boolean) (zq_rm 1 22) [.ref (w.2.1 28), .int a1, .int a2] (g, z, o) (zq_Ni g o post) := by
  refine zq_mk_M (by decide) (by simp [Value.category]) (Nat.le_of_ble_eq_true rfl) hAp (fun x hx hG hR => ?_)
  subst hx
  have hW := zq_wr hR.2.2.1
  have h : (zw_Mo_isPlace a1 a2 z (fun r115 z115 => ((r115 = 0 → zw_Mo_via_15 post a1 a2 (1 : Int32) z115) ∧ (¬ r115 = 0 → zw_Mo_via_15 post a1 a2 (0 : Int32) z115)))) := h
  refine zr_aload_n hG zd_Mo_via_0 rfl rfl ?_
  refine zr_aload_n hG zd_Mo_via_1 rfl rfl ?_
  refine zr_iload_n hG zd_Mo_via_2 rfl rfl ?_
  refine zr_iload_n hG zd_Mo_via_3 rfl rfl ?_
  refine zr_callV hG zq_F0 (As := [.int a1, .int a2]) (rest := [.ref (w.2.1 28)]) (zm_Mo_isPlace (zc_l x) w hAp g o h) 28 rfl rfl rfl zg_Mo_61 zdd_Mo_isPlace ⟨rfl, rfl, by decide, by decide⟩ ⟨by decide, by decide⟩ rfl (Nat.le_of_ble_eq_true rfl) zd_Mo_via_4 rfl ?_
  rintro _ _ ⟨r115, z115, rfl, rfl, h⟩
  refine zr_if_eq hG 14 zd_Mo_via_7 (by decide) (fun hc => ?_) (fun hc => ?_)
  · have h := h.1 hc
    refine zr_iconst hG (v := (1 : Int32)) zd_Mo_via_14 (by decide) ?_
    exact zt_Mo_via_15 hG hR hAp hW h
  · have h := h.2 hc
    refine zr_iconst hG (v := (0 : Int32)) zd_Mo_via_10 (by decide) ?_
    refine zr_goto hG 15 zd_Mo_via_11 (by decide) ?_
    exact zt_Mo_via_15 hG hR hAp hW h
def zw_Mo_countNear_84 (post : Int32 → zS → Prop) (v1 : Int32) (z : zS) : Prop := post v1 z
set_option maxHeartbeats 4000000 in
set_option maxRecDepth 100000 in
theorem zt_Mo_countNear_84 {x : zC} {w : zW} {g : zS} {o : Nat → Int64} {post : Int32 → zS → Prop} (hG : zq_G x w "GridRouterModel" zc_Mo_countNear 5 (zq_rm 3 70)) (hR : zq_R x w zq_0 (some .int) (zq_Ni g o post)) (hAp : zq_Ap w) {v1 : Int32} {z : zS} (h : zw_Mo_countNear_84 post v1 z) : zq_W x w 0 0 (g, z, o) 84 [none, some (.int v1), none, none, none] [] := by
  refine zr_iload_n hG zd_Mo_countNear_84 rfl rfl ?_
  exact zr_iret hG hR zd_Mo_countNear_85 ⟨_, _, rfl, rfl, h⟩
def zw_Mo_countNear_72 (post : Int32 → zS → Prop) (k4 : Int32 × Int32 × zS → Prop) (k21 : Int32 × Int32 × Int32 × zS → Prop) (v1 v2 v3 : Int32) (z : zS) : Prop := k21 (v1, v2, (v3 + (2 : Int32)), z)
set_option maxHeartbeats 4000000 in
set_option maxRecDepth 100000 in
theorem zt_Mo_countNear_72 {x : zC} {w : zW} {g : zS} {o : Nat → Int64} {post : Int32 → zS → Prop} (hG : zq_G x w "GridRouterModel" zc_Mo_countNear 5 (zq_rm 3 70)) (hR : zq_R x w zq_0 (some .int) (zq_Ni g o post)) (hAp : zq_Ap w) {k4 : Int32 × Int32 × zS → Prop} {k21 : Int32 × Int32 × Int32 × zS → Prop} (hk4 : ∀ b : Int32 × Int32 × zS, k4 b → zq_W x w 0 0 (g, b.2.2, o) 4 [some (.ref (w.2.1 28)), some (.int (b.1)), some (.int (b.2.1)), none, none] []) (hk21 : ∀ b : Int32 × Int32 × Int32 × zS, k21 b → zq_W x w 0 0 (g, b.2.2.2, o) 21 [some (.ref (w.2.1 28)), some (.int (b.1)), some (.int (b.2.1)), some (.int (b.2.2.1)), none] []) {v1 v2 v3 : Int32} {z : zS} (h : zw_Mo_countNear_72 post k4 k21 v1 v2 v3 z) : zq_W x w 0 0 (g, z, o) 72 [some (.ref (w.2.1 28)), some (.int v1), some (.int v2), some (.int v3), none] [] := by
  refine zr_iinc hG (u := (2 : Int32)) [some (.ref (w.2.1 28)), some (.int v1), some (.int v2), some (.int (v3 + (2 : Int32))), none] zd_Mo_countNear_72 rfl (by decide) (Nat.le_of_ble_eq_true rfl) rfl ?_
  refine zr_goto hG 21 zd_Mo_countNear_75 (by decide) ?_
  have h := hk21 _ h
  exact h
def zw_Mo_countNear_21 (post : Int32 → zS → Prop) (k4 : Int32 × Int32 × zS → Prop) (k21 : Int32 × Int32 × Int32 × zS → Prop) : Int32 × Int32 × Int32 × zS → Prop := fun b => match b with
  | (v1, v2, v3, z) => (((4 : Int32) ≤ v3 → k4 (v1, (v2 + (1 : Int32)), z)) ∧ (¬ (4 : Int32) ≤ v3 → (zw_Mo_side v2 v3 z (fun r123 z123 => ((r123 = (-1 : Int32) → zw_Mo_countNear_72 post k4 k21 v1 v2 v3 z123) ∧ (¬ r123 = (-1 : Int32) → vp_in v2 162 ∧ (((z123.2 2 v2.toNatClampNeg) = (-1 : Int32) → zw_Mo_countNear_72 post k4 k21 v1 v2 v3 z123) ∧ (¬ (z123.2 2 v2.toNatClampNeg) = (-1 : Int32) → vp_in r123 162 ∧ vp_in v2 162 ∧ (zw_Mo_isOther (z123.2 2 r123.toNatClampNeg) (z123.2 2 v2.toNatClampNeg) z123 (fun r124 z124 => ((r124 = 0 → zw_Mo_countNear_72 post k4 k21 v1 v2 v3 z124) ∧ (¬ r124 = 0 → zw_Mo_countNear_72 post k4 k21 (v1 + (1 : Int32)) v2 v3 z124))))))))))))
set_option maxHeartbeats 4000000 in
set_option maxRecDepth 100000 in
theorem zt_Mo_countNear_21 {x : zC} {w : zW} {g : zS} {o : Nat → Int64} {post : Int32 → zS → Prop} (hG : zq_G x w "GridRouterModel" zc_Mo_countNear 5 (zq_rm 3 70)) (hR : zq_R x w zq_0 (some .int) (zq_Ni g o post)) (hAp : zq_Ap w) {k4 : Int32 × Int32 × zS → Prop} (hk4 : ∀ b : Int32 × Int32 × zS, k4 b → zq_W x w 0 0 (g, b.2.2, o) 4 [some (.ref (w.2.1 28)), some (.int (b.1)), some (.int (b.2.1)), none, none] []) {v1 v2 v3 : Int32} {z : zS} (h : zq_Lp (zw_Mo_countNear_21 post k4) (v1, v2, v3, z)) : zq_W x w 0 0 (g, z, o) 21 [some (.ref (w.2.1 28)), some (.int v1), some (.int v2), some (.int v3), none] [] := by
  refine zq_Lp_W (WW := fun b => zq_W x w 0 0 (g, b.2.2.2, o) 21 [some (.ref (w.2.1 28)), some (.int (b.1)), some (.int (b.2.1)), some (.int (b.2.2.1)), none] []) (fun k21 hk21 b h => ?_) h
  obtain ⟨v1, v2, v3, z⟩ := b
  show zq_W x w 0 0 (g, z, o) 21 [some (.ref (w.2.1 28)), some (.int v1), some (.int v2), some (.int v3), none] []
  refine zr_iload_n hG zd_Mo_countNear_21 rfl rfl ?_
  refine zr_iconst hG (v := (4 : Int32)) zd_Mo_countNear_22 (by decide) ?_
  refine zr_icmp_ge hG 78 zd_Mo_countNear_23 (by decide) (fun hc => ?_) (fun hc => ?_)
  · have h := h.1 hc
    refine zr_iinc hG (u := (1 : Int32)) [some (.ref (w.2.1 28)), some (.int v1), some (.int (v2 + (1 : Int32))), some (.int v3), none] zd_Mo_countNear_78 rfl (by decide) (Nat.le_of_ble_eq_true rfl) rfl ?_
    refine zr_goto hG 4 zd_Mo_countNear_81 (by decide) ?_
    have h := hk4 _ h
    exact zr_mask [true, true, true, false, false] (h)
  · have h := h.2 hc
    refine zr_aload_n hG zd_Mo_countNear_26 rfl rfl ?_
    refine zr_iload_n hG zd_Mo_countNear_27 rfl rfl ?_
    refine zr_iload_n hG zd_Mo_countNear_28 rfl rfl ?_
    refine zr_callV hG zq_F0 (As := [.int v2, .int v3]) (rest := []) (zm_Mo_side (zc_l x) w hAp g o h) 28 rfl rfl rfl zg_Mo_72 zdd_Mo_side ⟨rfl, rfl, by decide, by decide⟩ ⟨by decide, by decide⟩ rfl (Nat.le_of_ble_eq_true rfl) zd_Mo_countNear_29 rfl ?_
    rintro _ _ ⟨r123, z123, rfl, rfl, h⟩
    refine zr_istore hG [some (.ref (w.2.1 28)), some (.int v1), some (.int v2), some (.int v3), some (.int r123)] zd_Mo_countNear_32 (Nat.le_of_ble_eq_true rfl) rfl ?_
    refine zr_iload hG zd_Mo_countNear_34 rfl ?_
    refine zr_iconst hG (v := (-1 : Int32)) zd_Mo_countNear_36 (by decide) ?_
    refine zr_icmp_eq hG 72 zd_Mo_countNear_37 (by decide) (fun hc => ?_) (fun hc => ?_)
    · have h := h.1 hc
      exact zr_mask [true, true, true, true, false] (zt_Mo_countNear_72 hG hR hAp hk4 hk21 h)
    · have h := h.2 hc
      refine zr_aload_n hG zd_Mo_countNear_40 rfl rfl ?_
      refine zf_Mo_owner hG tk_770 zd_Mo_countNear_41 ?_
      refine zr_iload_n hG zd_Mo_countNear_44 rfl rfl ?_
      obtain ⟨hi, h⟩ := h
      refine zl_31 hG hi zd_Mo_countNear_45 ?_
      refine zr_iconst hG (v := (-1 : Int32)) zd_Mo_countNear_46 (by decide) ?_
      refine zr_icmp_eq hG 72 zd_Mo_countNear_47 (by decide) (fun hc => ?_) (fun hc => ?_)
      · have h := h.1 hc
        exact zr_mask [true, true, true, true, false] (zt_Mo_countNear_72 hG hR hAp hk4 hk21 h)
      · have h := h.2 hc
        refine zr_aload_n hG zd_Mo_countNear_50 rfl rfl ?_
        refine zf_Mo_owner hG tk_770 zd_Mo_countNear_51 ?_
        refine zr_iload hG zd_Mo_countNear_54 rfl ?_
        obtain ⟨hi, h⟩ := h
        refine zl_31 hG hi zd_Mo_countNear_56 ?_
        refine zr_aload_n hG zd_Mo_countNear_57 rfl rfl ?_
        refine zf_Mo_owner hG tk_770 zd_Mo_countNear_58 ?_
        refine zr_iload_n hG zd_Mo_countNear_61 rfl rfl ?_
        obtain ⟨hi, h⟩ := h
        refine zl_31 hG hi zd_Mo_countNear_62 ?_
        refine zr_callS hG zq_F0 (As := [.int (z123.2 2 r123.toNatClampNeg), .int (z123.2 2 v2.toNatClampNeg)]) (rest := []) (zm_Mo_isOther (zc_l x) w hAp g o h) rfl zg_Mo_69 zdd_Mo_isOther ⟨rfl, rfl, by decide, by decide⟩ ⟨by decide, by decide⟩ rfl (Nat.le_of_ble_eq_true rfl) zd_Mo_countNear_63 rfl ?_
        rintro _ _ ⟨r124, z124, rfl, rfl, h⟩
        refine zr_if_eq hG 72 zd_Mo_countNear_66 (by decide) (fun hc => ?_) (fun hc => ?_)
        · have h := h.1 hc
          exact zr_mask [true, true, true, true, false] (zt_Mo_countNear_72 hG hR hAp hk4 hk21 h)
        · have h := h.2 hc
          refine zr_iinc hG (u := (1 : Int32)) [some (.ref (w.2.1 28)), some (.int (v1 + (1 : Int32))), some (.int v2), some (.int v3), some (.int r123)] zd_Mo_countNear_69 rfl (by decide) (Nat.le_of_ble_eq_true rfl) rfl ?_
          exact zr_mask [true, true, true, true, false] (zt_Mo_countNear_72 hG hR hAp hk4 hk21 h)
def zw_Mo_countNear_4 (post : Int32 → zS → Prop) (k4 : Int32 × Int32 × zS → Prop) : Int32 × Int32 × zS → Prop := fun b => match b with
  | (v1, v2, z) => (zw_Mo_many z (fun r122 z122 => ((r122 ≤ v2 → zw_Mo_countNear_84 post v1 z122) ∧ (¬ r122 ≤ v2 → (((z122.1 3) = 0 → zw_Mo_countNear_84 post v1 z122) ∧ (¬ (z122.1 3) = 0 → zq_Lp (zw_Mo_countNear_21 post k4) (v1, v2, (1 : Int32), z122)))))))
set_option maxHeartbeats 4000000 in
set_option maxRecDepth 100000 in
theorem zt_Mo_countNear_4 {x : zC} {w : zW} {g : zS} {o : Nat → Int64} {post : Int32 → zS → Prop} (hG : zq_G x w "GridRouterModel" zc_Mo_countNear 5 (zq_rm 3 70)) (hR : zq_R x w zq_0 (some .int) (zq_Ni g o post)) (hAp : zq_Ap w) {v1 v2 : Int32} {z : zS} (h : zq_Lp (zw_Mo_countNear_4 post) (v1, v2, z)) : zq_W x w 0 0 (g, z, o) 4 [some (.ref (w.2.1 28)), some (.int v1), some (.int v2), none, none] [] := by
  refine zq_Lp_W (WW := fun b => zq_W x w 0 0 (g, b.2.2, o) 4 [some (.ref (w.2.1 28)), some (.int (b.1)), some (.int (b.2.1)), none, none] []) (fun k4 hk4 b h => ?_) h
  obtain ⟨v1, v2, z⟩ := b
  show zq_W x w 0 0 (g, z, o) 4 [some (.ref (w.2.1 28)), some (.int v1), some (.int v2), none, none] []
  have h : (zw_Mo_many z (fun r122 z122 => ((r122 ≤ v2 → zw_Mo_countNear_84 post v1 z122) ∧ (¬ r122 ≤ v2 → (((z122.1 3) = 0 → zw_Mo_countNear_84 post v1 z122) ∧ (¬ (z122.1 3) = 0 → zq_Lp (zw_Mo_countNear_21 post k4) (v1, v2, (1 : Int32), z122))))))) := h
  refine zr_iload_n hG zd_Mo_countNear_4 rfl rfl ?_
  refine zr_aload_n hG zd_Mo_countNear_5 rfl rfl ?_
  refine zr_callV hG zq_F0 (As := []) (rest := [.int v2]) (zm_Mo_many (zc_l x) w hAp g o h) 28 rfl rfl rfl zg_Mo_86 zdd_Mo_many ⟨rfl, rfl, by decide, by decide⟩ ⟨by decide, by decide⟩ rfl (Nat.le_of_ble_eq_true rfl) zd_Mo_countNear_6 rfl ?_
  rintro _ _ ⟨r122, z122, rfl, rfl, h⟩
  refine zr_icmp_ge hG 84 zd_Mo_countNear_9 (by decide) (fun hc => ?_) (fun hc => ?_)
  · have h := h.1 hc
    exact zr_mask [false, true, false, false, false] (zt_Mo_countNear_84 hG hR hAp h)
  · have h := h.2 hc
    refine zr_aload_n hG zd_Mo_countNear_12 rfl rfl ?_
    refine zf_Mo_wide hG tk_766 zd_Mo_countNear_13 ?_
    refine zr_if_eq hG 84 zd_Mo_countNear_16 (by decide) (fun hc => ?_) (fun hc => ?_)
    · have h := h.1 hc
      exact zr_mask [false, true, false, false, false] (zt_Mo_countNear_84 hG hR hAp h)
    · have h := h.2 hc
      refine zr_iconst hG (v := (1 : Int32)) zd_Mo_countNear_19 (by decide) ?_
      refine zr_istore_n hG [some (.ref (w.2.1 28)), some (.int v1), some (.int v2), some (.int (1 : Int32)), none] zd_Mo_countNear_20 rfl (Nat.le_of_ble_eq_true rfl) rfl ?_
      exact zt_Mo_countNear_21 hG hR hAp hk4 h
def zw_Mo_countNear (z : zS) (post : Int32 → zS → Prop) : Prop := zq_Lp (zw_Mo_countNear_4 post) ((0 : Int32), (0 : Int32), z)
set_option maxHeartbeats 4000000 in
set_option maxRecDepth 100000 in
theorem zm_Mo_countNear (l : Launch) (w : zW) (hAp : zq_Ap w) (g : zS) (o : Nat → Int64) {z : zS} {post : Int32 → zS → Prop} (h : zw_Mo_countNear z post) : zq_M l w zq_0 zy_Mo_countNear zc_Mo_countNear 5 (some .int) (zq_rm 3 70) [.ref (w.2.1 28)] (g, z, o) (zq_Ni g o post) := by
  refine zq_mk_M (by decide) (by simp [Value.category]) (Nat.le_of_ble_eq_true rfl) hAp (fun x hx hG hR => ?_)
  subst hx
  refine zr_iconst hG (v := (0 : Int32)) zd_Mo_countNear_0 (by decide) ?_
  refine zr_istore_n hG [some (.ref (w.2.1 28)), some (.int (0 : Int32)), none, none, none] zd_Mo_countNear_1 rfl (Nat.le_of_ble_eq_true rfl) rfl ?_
  refine zr_iconst hG (v := (0 : Int32)) zd_Mo_countNear_2 (by decide) ?_
  refine zr_istore_n hG [some (.ref (w.2.1 28)), some (.int (0 : Int32)), some (.int (0 : Int32)), none, none] zd_Mo_countNear_3 rfl (Nat.le_of_ble_eq_true rfl) rfl ?_
  exact zt_Mo_countNear_4 hG hR hAp h
def zw_Mo_faults_187 (post : Int32 → zS → Prop) (k51 : Int32 × Int32 × Int32 × zS → Prop) (v1 v2 v3 : Int32) (z : zS) : Prop := k51 (v1, v2, (v3 + (1 : Int32)), z)
set_option maxHeartbeats 4000000 in
set_option maxRecDepth 100000 in
theorem zt_Mo_faults_187 {x : zC} {w : zW} {g : zS} {o : Nat → Int64} {post : Int32 → zS → Prop} (hG : zq_G x w "GridRouterModel" zc_Mo_faults 6 (zq_rm 6 139)) (hR : zq_R x w (zq_A w) (some .int) (zq_Ni g o post)) (hAp : zq_Ap w) (hW : zq_Wr x w) {k51 : Int32 × Int32 × Int32 × zS → Prop} (hk51 : ∀ b : Int32 × Int32 × Int32 × zS, k51 b → zq_W x w 0 0 (g, b.2.2.2, o) 51 [some (.ref (w.2.1 28)), some (.int (b.1)), some (.int (b.2.1)), some (.int (b.2.2.1)), none, none] []) {v1 v2 v3 : Int32} {z : zS} (h : zw_Mo_faults_187 post k51 v1 v2 v3 z) : zq_W x w 0 0 (g, z, o) 187 [some (.ref (w.2.1 28)), some (.int v1), some (.int v2), some (.int v3), none, none] [] := by
  refine zr_iinc hG (u := (1 : Int32)) [some (.ref (w.2.1 28)), some (.int v1), some (.int v2), some (.int (v3 + (1 : Int32))), none, none] zd_Mo_faults_187 rfl (by decide) (Nat.le_of_ble_eq_true rfl) rfl ?_
  refine zr_goto hG 51 zd_Mo_faults_190 (by decide) ?_
  have h := hk51 _ h
  exact h
def zw_Mo_faults_184 (post : Int32 → zS → Prop) (k51 : Int32 × Int32 × Int32 × zS → Prop) (v1 v2 v3 : Int32) (z : zS) : Prop := zw_Mo_faults_187 post k51 v1 (v2 + (1 : Int32)) v3 z
set_option maxHeartbeats 4000000 in
set_option maxRecDepth 100000 in
theorem zt_Mo_faults_184 {x : zC} {w : zW} {g : zS} {o : Nat → Int64} {post : Int32 → zS → Prop} (hG : zq_G x w "GridRouterModel" zc_Mo_faults 6 (zq_rm 6 139)) (hR : zq_R x w (zq_A w) (some .int) (zq_Ni g o post)) (hAp : zq_Ap w) (hW : zq_Wr x w) {k51 : Int32 × Int32 × Int32 × zS → Prop} (hk51 : ∀ b : Int32 × Int32 × Int32 × zS, k51 b → zq_W x w 0 0 (g, b.2.2.2, o) 51 [some (.ref (w.2.1 28)), some (.int (b.1)), some (.int (b.2.1)), some (.int (b.2.2.1)), none, none] []) {v1 v2 v3 : Int32} {z : zS} (h : zw_Mo_faults_184 post k51 v1 v2 v3 z) : zq_W x w 0 0 (g, z, o) 184 [some (.ref (w.2.1 28)), some (.int v1), some (.int v2), some (.int v3), none, none] [] := by
  refine zr_iinc hG (u := (1 : Int32)) [some (.ref (w.2.1 28)), some (.int v1), some (.int (v2 + (1 : Int32))), some (.int v3), none, none] zd_Mo_faults_184 rfl (by decide) (Nat.le_of_ble_eq_true rfl) rfl ?_
  exact zt_Mo_faults_187 hG hR hAp hW hk51 h
def zw_Mo_faults_165 (post : Int32 → zS → Prop) (k51 : Int32 × Int32 × Int32 × zS → Prop) (v1 v2 v3 v4 u0 : Int32) (z : zS) : Prop := ((¬ v1 = 0 → ((u0 = 0 → zw_Mo_faults_187 post k51 v1 v2 v3 z) ∧ (¬ u0 = 0 → zw_Mo_faults_184 post k51 v1 v2 v3 z))) ∧ (v1 = 0 → ((v4 = 0 → zw_Mo_faults_187 post k51 v1 v2 v3 z) ∧ (¬ v4 = 0 → zw_Mo_faults_184 post k51 v1 v2 v3 z))))
set_option maxHeartbeats 4000000 in
set_option maxRecDepth 100000 in
theorem zt_Mo_faults_165 {x : zC} {w : zW} {g : zS} {o : Nat → Int64} {post : Int32 → zS → Prop} (hG : zq_G x w "GridRouterModel" zc_Mo_faults 6 (zq_rm 6 139)) (hR : zq_R x w (zq_A w) (some .int) (zq_Ni g o post)) (hAp : zq_Ap w) (hW : zq_Wr x w) {k51 : Int32 × Int32 × Int32 × zS → Prop} (hk51 : ∀ b : Int32 × Int32 × Int32 × zS, k51 b → zq_W x w 0 0 (g, b.2.2.2, o) 51 [some (.ref (w.2.1 28)), some (.int (b.1)), some (.int (b.2.1)), some (.int (b.2.2.1)), none, none] []) {v1 v2 v3 v4 u0 : Int32} {z : zS} (h : zw_Mo_faults_165 post k51 v1 v2 v3 v4 u0 z) : zq_W x w 0 0 (g, z, o) 165 [some (.ref (w.2.1 28)), some (.int v1), some (.int v2), some (.int v3), some (.int v4), none] [.int u0] := by
  refine zr_istore hG [some (.ref (w.2.1 28)), some (.int v1), some (.int v2), some (.int v3), some (.int v4), some (.int u0)] zd_Mo_faults_165 (Nat.le_of_ble_eq_true rfl) rfl ?_
  refine zr_iload_n hG zd_Mo_faults_167 rfl rfl ?_
  refine zr_if_ne hG 179 zd_Mo_faults_168 (by decide) (fun hc => ?_) (fun hc => ?_)
  · have h := h.1 hc
    refine zr_iload hG zd_Mo_faults_179 rfl ?_
    refine zr_if_eq hG 187 zd_Mo_faults_181 (by decide) (fun hc => ?_) (fun hc => ?_)
    · have h := h.1 hc
      exact zr_mask [true, true, true, true, false, false] (zt_Mo_faults_187 hG hR hAp hW hk51 h)
    · have h := h.2 hc
      exact zr_mask [true, true, true, true, false, false] (zt_Mo_faults_184 hG hR hAp hW hk51 h)
  · have h := h.2 hc
    refine zr_iload hG zd_Mo_faults_171 rfl ?_
    refine zr_if_eq hG 187 zd_Mo_faults_173 (by decide) (fun hc => ?_) (fun hc => ?_)
    · have h := h.1 hc
      exact zr_mask [true, true, true, true, false, false] (zt_Mo_faults_187 hG hR hAp hW hk51 h)
    · have h := h.2 hc
      refine zr_goto hG 184 zd_Mo_faults_176 (by decide) ?_
      exact zr_mask [true, true, true, true, false, false] (zt_Mo_faults_184 hG hR hAp hW hk51 h)
def zw_Mo_faults_164 (post : Int32 → zS → Prop) (k51 : Int32 × Int32 × Int32 × zS → Prop) (v1 v2 v3 v4 : Int32) (z : zS) : Prop := zw_Mo_faults_165 post k51 v1 v2 v3 v4 (0 : Int32) z
set_option maxHeartbeats 4000000 in
set_option maxRecDepth 100000 in
theorem zt_Mo_faults_164 {x : zC} {w : zW} {g : zS} {o : Nat → Int64} {post : Int32 → zS → Prop} (hG : zq_G x w "GridRouterModel" zc_Mo_faults 6 (zq_rm 6 139)) (hR : zq_R x w (zq_A w) (some .int) (zq_Ni g o post)) (hAp : zq_Ap w) (hW : zq_Wr x w) {k51 : Int32 × Int32 × Int32 × zS → Prop} (hk51 : ∀ b : Int32 × Int32 × Int32 × zS, k51 b → zq_W x w 0 0 (g, b.2.2.2, o) 51 [some (.ref (w.2.1 28)), some (.int (b.1)), some (.int (b.2.1)), some (.int (b.2.2.1)), none, none] []) {v1 v2 v3 v4 : Int32} {z : zS} (h : zw_Mo_faults_164 post k51 v1 v2 v3 v4 z) : zq_W x w 0 0 (g, z, o) 164 [some (.ref (w.2.1 28)), some (.int v1), some (.int v2), some (.int v3), some (.int v4), none] [] := by
  refine zr_iconst hG (v := (0 : Int32)) zd_Mo_faults_164 (by decide) ?_
  exact zt_Mo_faults_165 hG hR hAp hW hk51 h
def zw_Mo_faults_160 (post : Int32 → zS → Prop) (k51 : Int32 × Int32 × Int32 × zS → Prop) (v1 v2 v3 v4 : Int32) (z : zS) : Prop := zw_Mo_faults_165 post k51 v1 v2 v3 v4 (1 : Int32) z
set_option maxHeartbeats 4000000 in
set_option maxRecDepth 100000 in
theorem zt_Mo_faults_160 {x : zC} {w : zW} {g : zS} {o : Nat → Int64} {post : Int32 → zS → Prop} (hG : zq_G x w "GridRouterModel" zc_Mo_faults 6 (zq_rm 6 139)) (hR : zq_R x w (zq_A w) (some .int) (zq_Ni g o post)) (hAp : zq_Ap w) (hW : zq_Wr x w) {k51 : Int32 × Int32 × Int32 × zS → Prop} (hk51 : ∀ b : Int32 × Int32 × Int32 × zS, k51 b → zq_W x w 0 0 (g, b.2.2.2, o) 51 [some (.ref (w.2.1 28)), some (.int (b.1)), some (.int (b.2.1)), some (.int (b.2.2.1)), none, none] []) {v1 v2 v3 v4 : Int32} {z : zS} (h : zw_Mo_faults_160 post k51 v1 v2 v3 v4 z) : zq_W x w 0 0 (g, z, o) 160 [some (.ref (w.2.1 28)), some (.int v1), some (.int v2), some (.int v3), some (.int v4), none] [] := by
  refine zr_iconst hG (v := (1 : Int32)) zd_Mo_faults_160 (by decide) ?_
  refine zr_goto hG 165 zd_Mo_faults_161 (by decide) ?_
  exact zt_Mo_faults_165 hG hR hAp hW hk51 h
def zw_Mo_faults_101 (post : Int32 → zS → Prop) (k51 : Int32 × Int32 × Int32 × zS → Prop) (v1 v2 v3 u0 : Int32) (z : zS) : Prop := ((((z.1 0) * (z.1 1)) ≤ v3 → zw_Mo_faults_164 post k51 v1 v2 v3 u0 z) ∧ (¬ ((z.1 0) * (z.1 1)) ≤ v3 → vp_in v3 81 ∧ (((z.2 3 v3.toNatClampNeg) = 0 → zw_Mo_faults_164 post k51 v1 v2 v3 u0 z) ∧ (¬ (z.2 3 v3.toNatClampNeg) = 0 → vp_in v3 162 ∧ (((z.2 2 v3.toNatClampNeg) = (-1 : Int32) → zw_Mo_faults_160 post k51 v1 v2 v3 u0 z) ∧ (¬ (z.2 2 v3.toNatClampNeg) = (-1 : Int32) → vp_in v3 162 ∧ vp_in (v3 + ((z.1 0) * (z.1 1))) 162 ∧ (((z.2 2 v3.toNatClampNeg) = (z.2 2 (v3 + ((z.1 0) * (z.1 1))).toNatClampNeg) → zw_Mo_faults_164 post k51 v1 v2 v3 u0 z) ∧ (¬ (z.2 2 v3.toNatClampNeg) = (z.2 2 (v3 + ((z.1 0) * (z.1 1))).toNatClampNeg) → zw_Mo_faults_160 post k51 v1 v2 v3 u0 z))))))))
set_option maxHeartbeats 4000000 in
set_option maxRecDepth 100000 in
theorem zt_Mo_faults_101 {x : zC} {w : zW} {g : zS} {o : Nat → Int64} {post : Int32 → zS → Prop} (hG : zq_G x w "GridRouterModel" zc_Mo_faults 6 (zq_rm 6 139)) (hR : zq_R x w (zq_A w) (some .int) (zq_Ni g o post)) (hAp : zq_Ap w) (hW : zq_Wr x w) {k51 : Int32 × Int32 × Int32 × zS → Prop} (hk51 : ∀ b : Int32 × Int32 × Int32 × zS, k51 b → zq_W x w 0 0 (g, b.2.2.2, o) 51 [some (.ref (w.2.1 28)), some (.int (b.1)), some (.int (b.2.1)), some (.int (b.2.2.1)), none, none] []) {v1 v2 v3 u0 : Int32} {z : zS} (h : zw_Mo_faults_101 post k51 v1 v2 v3 u0 z) : zq_W x w 0 0 (g, z, o) 101 [some (.ref (w.2.1 28)), some (.int v1), some (.int v2), some (.int v3), none, none] [.int u0] := by
  refine zr_istore hG [some (.ref (w.2.1 28)), some (.int v1), some (.int v2), some (.int v3), some (.int u0), none] zd_Mo_faults_101 (Nat.le_of_ble_eq_true rfl) rfl ?_
  refine zr_iload_n hG zd_Mo_faults_103 rfl rfl ?_
  refine zr_aload_n hG zd_Mo_faults_104 rfl rfl ?_
  refine zf_Mo_width hG tk_763 zd_Mo_faults_105 ?_
  refine zr_aload_n hG zd_Mo_faults_108 rfl rfl ?_
  refine zf_Mo_height hG tk_764 zd_Mo_faults_109 ?_
  refine zr_imul hG zd_Mo_faults_112 ?_
  refine zr_icmp_ge hG 164 zd_Mo_faults_113 (by decide) (fun hc => ?_) (fun hc => ?_)
  · have h := h.1 hc
    exact zt_Mo_faults_164 hG hR hAp hW hk51 h
  · have h := h.2 hc
    refine zr_aload_n hG zd_Mo_faults_116 rfl rfl ?_
    refine zf_Mo_vias hG tk_771 zd_Mo_faults_117 ?_
    refine zr_iload_n hG zd_Mo_faults_120 rfl rfl ?_
    obtain ⟨hi, h⟩ := h
    refine zl_32 hG hi zd_Mo_faults_121 ?_
    refine zr_if_eq hG 164 zd_Mo_faults_122 (by decide) (fun hc => ?_) (fun hc => ?_)
    · have h := h.1 hc
      exact zt_Mo_faults_164 hG hR hAp hW hk51 h
    · have h := h.2 hc
      refine zr_aload_n hG zd_Mo_faults_125 rfl rfl ?_
      refine zf_Mo_owner hG tk_770 zd_Mo_faults_126 ?_
      refine zr_iload_n hG zd_Mo_faults_129 rfl rfl ?_
      obtain ⟨hi, h⟩ := h
      refine zl_31 hG hi zd_Mo_faults_130 ?_
      refine zr_iconst hG (v := (-1 : Int32)) zd_Mo_faults_131 (by decide) ?_
      refine zr_icmp_eq hG 160 zd_Mo_faults_132 (by decide) (fun hc => ?_) (fun hc => ?_)
      · have h := h.1 hc
        exact zt_Mo_faults_160 hG hR hAp hW hk51 h
      · have h := h.2 hc
        refine zr_aload_n hG zd_Mo_faults_135 rfl rfl ?_
        refine zf_Mo_owner hG tk_770 zd_Mo_faults_136 ?_
        refine zr_iload_n hG zd_Mo_faults_139 rfl rfl ?_
        obtain ⟨hi, h⟩ := h
        refine zl_31 hG hi zd_Mo_faults_140 ?_
        refine zr_aload_n hG zd_Mo_faults_141 rfl rfl ?_
        refine zf_Mo_owner hG tk_770 zd_Mo_faults_142 ?_
        refine zr_iload_n hG zd_Mo_faults_145 rfl rfl ?_
        refine zr_aload_n hG zd_Mo_faults_146 rfl rfl ?_
        refine zf_Mo_width hG tk_763 zd_Mo_faults_147 ?_
        refine zr_aload_n hG zd_Mo_faults_150 rfl rfl ?_
        refine zf_Mo_height hG tk_764 zd_Mo_faults_151 ?_
        refine zr_imul hG zd_Mo_faults_154 ?_
        refine zr_iadd hG zd_Mo_faults_155 ?_
        obtain ⟨hi, h⟩ := h
        refine zl_31 hG hi zd_Mo_faults_156 ?_
        refine zr_icmp_eq hG 164 zd_Mo_faults_157 (by decide) (fun hc => ?_) (fun hc => ?_)
        · have h := h.1 hc
          exact zt_Mo_faults_164 hG hR hAp hW hk51 h
        · have h := h.2 hc
          exact zt_Mo_faults_160 hG hR hAp hW hk51 h
def zw_Mo_faults_100 (post : Int32 → zS → Prop) (k51 : Int32 × Int32 × Int32 × zS → Prop) (v1 v2 v3 : Int32) (z : zS) : Prop := zw_Mo_faults_101 post k51 v1 v2 v3 (0 : Int32) z
set_option maxHeartbeats 4000000 in
set_option maxRecDepth 100000 in
theorem zt_Mo_faults_100 {x : zC} {w : zW} {g : zS} {o : Nat → Int64} {post : Int32 → zS → Prop} (hG : zq_G x w "GridRouterModel" zc_Mo_faults 6 (zq_rm 6 139)) (hR : zq_R x w (zq_A w) (some .int) (zq_Ni g o post)) (hAp : zq_Ap w) (hW : zq_Wr x w) {k51 : Int32 × Int32 × Int32 × zS → Prop} (hk51 : ∀ b : Int32 × Int32 × Int32 × zS, k51 b → zq_W x w 0 0 (g, b.2.2.2, o) 51 [some (.ref (w.2.1 28)), some (.int (b.1)), some (.int (b.2.1)), some (.int (b.2.2.1)), none, none] []) {v1 v2 v3 : Int32} {z : zS} (h : zw_Mo_faults_100 post k51 v1 v2 v3 z) : zq_W x w 0 0 (g, z, o) 100 [some (.ref (w.2.1 28)), some (.int v1), some (.int v2), some (.int v3), none, none] [] := by
  refine zr_iconst hG (v := (0 : Int32)) zd_Mo_faults_100 (by decide) ?_
  exact zt_Mo_faults_101 hG hR hAp hW hk51 h
def zw_Mo_faults_96 (post : Int32 → zS → Prop) (k51 : Int32 × Int32 × Int32 × zS → Prop) (v1 v2 v3 : Int32) (z : zS) : Prop := zw_Mo_faults_101 post k51 v1 v2 v3 (1 : Int32) z
set_option maxHeartbeats 4000000 in
set_option maxRecDepth 100000 in
theorem zt_Mo_faults_96 {x : zC} {w : zW} {g : zS} {o : Nat → Int64} {post : Int32 → zS → Prop} (hG : zq_G x w "GridRouterModel" zc_Mo_faults 6 (zq_rm 6 139)) (hR : zq_R x w (zq_A w) (some .int) (zq_Ni g o post)) (hAp : zq_Ap w) (hW : zq_Wr x w) {k51 : Int32 × Int32 × Int32 × zS → Prop} (hk51 : ∀ b : Int32 × Int32 × Int32 × zS, k51 b → zq_W x w 0 0 (g, b.2.2.2, o) 51 [some (.ref (w.2.1 28)), some (.int (b.1)), some (.int (b.2.1)), some (.int (b.2.2.1)), none, none] []) {v1 v2 v3 : Int32} {z : zS} (h : zw_Mo_faults_96 post k51 v1 v2 v3 z) : zq_W x w 0 0 (g, z, o) 96 [some (.ref (w.2.1 28)), some (.int v1), some (.int v2), some (.int v3), none, none] [] := by
  refine zr_iconst hG (v := (1 : Int32)) zd_Mo_faults_96 (by decide) ?_
  refine zr_goto hG 101 zd_Mo_faults_97 (by decide) ?_
  exact zt_Mo_faults_101 hG hR hAp hW hk51 h
def zw_Mo_faults_51 (post : Int32 → zS → Prop) (k51 : Int32 × Int32 × Int32 × zS → Prop) : Int32 × Int32 × Int32 × zS → Prop := fun b => match b with
  | (v1, v2, v3, z) => (zw_Mo_many z (fun r127 z127 => ((r127 ≤ v3 → post v2 z127) ∧ (¬ r127 ≤ v3 → vp_in v3 162 ∧ (((z127.2 2 v3.toNatClampNeg) = (-1 : Int32) → zw_Mo_faults_100 post k51 v1 v2 v3 z127) ∧ (¬ (z127.2 2 v3.toNatClampNeg) = (-1 : Int32) → vp_in v3 162 ∧ ((¬ (z127.2 0 v3.toNatClampNeg) = 0 → zw_Mo_faults_96 post k51 v1 v2 v3 z127) ∧ ((z127.2 0 v3.toNatClampNeg) = 0 → vp_in v3 162 ∧ vp_in v3 162 ∧ (zw_Mo_isOther (z127.2 1 v3.toNatClampNeg) (z127.2 2 v3.toNatClampNeg) z127 (fun r128 z128 => ((r128 = 0 → zw_Mo_faults_100 post k51 v1 v2 v3 z128) ∧ (¬ r128 = 0 → zw_Mo_faults_96 post k51 v1 v2 v3 z128))))))))))))
set_option maxHeartbeats 4000000 in
set_option maxRecDepth 100000 in
theorem zt_Mo_faults_51 {x : zC} {w : zW} {g : zS} {o : Nat → Int64} {post : Int32 → zS → Prop} (hG : zq_G x w "GridRouterModel" zc_Mo_faults 6 (zq_rm 6 139)) (hR : zq_R x w (zq_A w) (some .int) (zq_Ni g o post)) (hAp : zq_Ap w) (hW : zq_Wr x w) {v1 v2 v3 : Int32} {z : zS} (h : zq_Lp (zw_Mo_faults_51 post) (v1, v2, v3, z)) : zq_W x w 0 0 (g, z, o) 51 [some (.ref (w.2.1 28)), some (.int v1), some (.int v2), some (.int v3), none, none] [] := by
  refine zq_Lp_W (WW := fun b => zq_W x w 0 0 (g, b.2.2.2, o) 51 [some (.ref (w.2.1 28)), some (.int (b.1)), some (.int (b.2.1)), some (.int (b.2.2.1)), none, none] []) (fun k51 hk51 b h => ?_) h
  obtain ⟨v1, v2, v3, z⟩ := b
  show zq_W x w 0 0 (g, z, o) 51 [some (.ref (w.2.1 28)), some (.int v1), some (.int v2), some (.int v3), none, none] []
  have h : (zw_Mo_many z (fun r127 z127 => ((r127 ≤ v3 → post v2 z127) ∧ (¬ r127 ≤ v3 → vp_in v3 162 ∧ (((z127.2 2 v3.toNatClampNeg) = (-1 : Int32) → zw_Mo_faults_100 post k51 v1 v2 v3 z127) ∧ (¬ (z127.2 2 v3.toNatClampNeg) = (-1 : Int32) → vp_in v3 162 ∧ ((¬ (z127.2 0 v3.toNatClampNeg) = 0 → zw_Mo_faults_96 post k51 v1 v2 v3 z127) ∧ ((z127.2 0 v3.toNatClampNeg) = 0 → vp_in v3 162 ∧ vp_in v3 162 ∧ (zw_Mo_isOther (z127.2 1 v3.toNatClampNeg) (z127.2 2 v3.toNatClampNeg) z127 (fun r128 z128 => ((r128 = 0 → zw_Mo_faults_100 post k51 v1 v2 v3 z128) ∧ (¬ r128 = 0 → zw_Mo_faults_96 post k51 v1 v2 v3 z128)))))))))))) := h
  refine zr_iload_n hG zd_Mo_faults_51 rfl rfl ?_
  refine zr_aload_n hG zd_Mo_faults_52 rfl rfl ?_
  refine zr_callV hG zq_F0 (As := []) (rest := [.int v3]) (zm_Mo_many (zc_l x) w hAp g o h) 28 rfl rfl rfl zg_Mo_86 zdd_Mo_many ⟨rfl, rfl, by decide, by decide⟩ ⟨by decide, by decide⟩ rfl (Nat.le_of_ble_eq_true rfl) zd_Mo_faults_53 rfl ?_
  rintro _ _ ⟨r127, z127, rfl, rfl, h⟩
  refine zr_icmp_ge hG 193 zd_Mo_faults_56 (by decide) (fun hc => ?_) (fun hc => ?_)
  · have h := h.1 hc
    refine zr_iload_n hG zd_Mo_faults_193 rfl rfl ?_
    exact zr_iret hG hR zd_Mo_faults_194 ⟨_, _, rfl, rfl, h⟩
  · have h := h.2 hc
    refine zr_aload_n hG zd_Mo_faults_59 rfl rfl ?_
    refine zf_Mo_owner hG tk_770 zd_Mo_faults_60 ?_
    refine zr_iload_n hG zd_Mo_faults_63 rfl rfl ?_
    obtain ⟨hi, h⟩ := h
    refine zl_31 hG hi zd_Mo_faults_64 ?_
    refine zr_iconst hG (v := (-1 : Int32)) zd_Mo_faults_65 (by decide) ?_
    refine zr_icmp_eq hG 100 zd_Mo_faults_66 (by decide) (fun hc => ?_) (fun hc => ?_)
    · have h := h.1 hc
      exact zt_Mo_faults_100 hG hR hAp hW hk51 h
    · have h := h.2 hc
      refine zr_aload_n hG zd_Mo_faults_69 rfl rfl ?_
      refine zf_Mo_blocked hG tk_768 zd_Mo_faults_70 ?_
      refine zr_iload_n hG zd_Mo_faults_73 rfl rfl ?_
      obtain ⟨hi, h⟩ := h
      refine zl_29 hG hi zd_Mo_faults_74 ?_
      refine zr_if_ne hG 96 zd_Mo_faults_75 (by decide) (fun hc => ?_) (fun hc => ?_)
      · have h := h.1 hc
        exact zt_Mo_faults_96 hG hR hAp hW hk51 h
      · have h := h.2 hc
        refine zr_aload_n hG zd_Mo_faults_78 rfl rfl ?_
        refine zf_Mo_pin hG tk_769 zd_Mo_faults_79 ?_
        refine zr_iload_n hG zd_Mo_faults_82 rfl rfl ?_
        obtain ⟨hi, h⟩ := h
        refine zl_30 hG hi zd_Mo_faults_83 ?_
        refine zr_aload_n hG zd_Mo_faults_84 rfl rfl ?_
        refine zf_Mo_owner hG tk_770 zd_Mo_faults_85 ?_
        refine zr_iload_n hG zd_Mo_faults_88 rfl rfl ?_
        obtain ⟨hi, h⟩ := h
        refine zl_31 hG hi zd_Mo_faults_89 ?_
        refine zr_callS hG zq_F0 (As := [.int (z127.2 1 v3.toNatClampNeg), .int (z127.2 2 v3.toNatClampNeg)]) (rest := []) (zm_Mo_isOther (zc_l x) w hAp g o h) rfl zg_Mo_69 zdd_Mo_isOther ⟨rfl, rfl, by decide, by decide⟩ ⟨by decide, by decide⟩ rfl (Nat.le_of_ble_eq_true rfl) zd_Mo_faults_90 rfl ?_
        rintro _ _ ⟨r128, z128, rfl, rfl, h⟩
        refine zr_if_eq hG 100 zd_Mo_faults_93 (by decide) (fun hc => ?_) (fun hc => ?_)
        · have h := h.1 hc
          exact zt_Mo_faults_100 hG hR hAp hW hk51 h
        · have h := h.2 hc
          exact zt_Mo_faults_96 hG hR hAp hW hk51 h
def zw_Mo_faults_15 (post : Int32 → zS → Prop) (v1 u0 : Int32) (z : zS) : Prop := ((((zs_s z 4 u0).1 4) ≤ 0 → ((¬ v1 = (3 : Int32) → ((¬ v1 = (1 : Int32) → zq_Lp (zw_Mo_faults_51 post) (v1, (0 : Int32), (0 : Int32), (zs_s z 4 u0))) ∧ (v1 = (1 : Int32) → (zw_Mo_countNear (zs_s z 4 u0) (fun r125 z125 => post r125 z125))))) ∧ (v1 = (3 : Int32) → (zw_Mo_countOpen (zs_s z 4 u0) (fun r126 z126 => post r126 z126))))) ∧ (¬ ((zs_s z 4 u0).1 4) ≤ 0 → post (0 : Int32) (zs_s z 4 u0)))
set_option maxHeartbeats 4000000 in
set_option maxRecDepth 100000 in
theorem zt_Mo_faults_15 {x : zC} {w : zW} {g : zS} {o : Nat → Int64} {post : Int32 → zS → Prop} (hG : zq_G x w "GridRouterModel" zc_Mo_faults 6 (zq_rm 6 139)) (hR : zq_R x w (zq_A w) (some .int) (zq_Ni g o post)) (hAp : zq_Ap w) (hW : zq_Wr x w) {v1 u0 : Int32} {z : zS} (h : zw_Mo_faults_15 post v1 u0 z) : zq_W x w 0 0 (g, z, o) 15 [some (.ref (w.2.1 28)), some (.int v1), none, none, none, none] [.int u0, .ref (w.2.1 28)] := by
  refine zp_Mo_code hG hW tk_767 zd_Mo_faults_15 ?_
  refine zr_aload_n hG zd_Mo_faults_18 rfl rfl ?_
  refine zf_Mo_code hG tk_767 zd_Mo_faults_19 ?_
  refine zr_if_le hG 27 zd_Mo_faults_22 (by decide) (fun hc => ?_) (fun hc => ?_)
  · have h := h.1 hc
    refine zr_iload_n hG zd_Mo_faults_27 rfl rfl ?_
    refine zr_iconst hG (v := (3 : Int32)) zd_Mo_faults_28 (by decide) ?_
    refine zr_icmp_ne hG 37 zd_Mo_faults_29 (by decide) (fun hc => ?_) (fun hc => ?_)
    · have h := h.1 hc
      refine zr_iload_n hG zd_Mo_faults_37 rfl rfl ?_
      refine zr_iconst hG (v := (1 : Int32)) zd_Mo_faults_38 (by decide) ?_
      refine zr_icmp_ne hG 47 zd_Mo_faults_39 (by decide) (fun hc => ?_) (fun hc => ?_)
      · have h := h.1 hc
        refine zr_iconst hG (v := (0 : Int32)) zd_Mo_faults_47 (by decide) ?_
        refine zr_istore_n hG [some (.ref (w.2.1 28)), some (.int v1), some (.int (0 : Int32)), none, none, none] zd_Mo_faults_48 rfl (Nat.le_of_ble_eq_true rfl) rfl ?_
        refine zr_iconst hG (v := (0 : Int32)) zd_Mo_faults_49 (by decide) ?_
        refine zr_istore_n hG [some (.ref (w.2.1 28)), some (.int v1), some (.int (0 : Int32)), some (.int (0 : Int32)), none, none] zd_Mo_faults_50 rfl (Nat.le_of_ble_eq_true rfl) rfl ?_
        exact zt_Mo_faults_51 hG hR hAp hW h
      · have h := h.2 hc
        refine zr_aload_n hG zd_Mo_faults_42 rfl rfl ?_
        refine zr_callV hG zq_F0 (As := []) (rest := []) (zm_Mo_countNear (zc_l x) w hAp g o h) 28 rfl rfl rfl zg_Mo_155 zdd_Mo_countNear ⟨rfl, rfl, by decide, by decide⟩ ⟨by decide, by decide⟩ rfl (Nat.le_of_ble_eq_true rfl) zd_Mo_faults_43 rfl ?_
        rintro _ _ ⟨r125, z125, rfl, rfl, h⟩
        exact zr_iret hG hR zd_Mo_faults_46 ⟨_, _, rfl, rfl, h⟩
    · have h := h.2 hc
      refine zr_aload_n hG zd_Mo_faults_32 rfl rfl ?_
      refine zr_callV hG (zq_F1 hW) (As := []) (rest := []) (zm_Mo_countOpen (zc_l x) w hAp g o h) 28 rfl rfl rfl zg_Mo_149 zdd_Mo_countOpen ⟨rfl, rfl, by decide, by decide⟩ ⟨by decide, by decide⟩ rfl (Nat.le_of_ble_eq_true rfl) zd_Mo_faults_33 rfl ?_
      rintro _ _ ⟨r126, z126, rfl, rfl, h⟩
      exact zr_iret hG hR zd_Mo_faults_36 ⟨_, _, rfl, rfl, h⟩
  · have h := h.2 hc
    refine zr_iconst hG (v := (0 : Int32)) zd_Mo_faults_25 (by decide) ?_
    exact zr_iret hG hR zd_Mo_faults_26 ⟨_, _, rfl, rfl, h⟩
def zw_Mo_faults_10 (post : Int32 → zS → Prop) (v1 : Int32) (z : zS) : Prop := zw_Mo_faults_15 post v1 (1 : Int32) z
set_option maxHeartbeats 4000000 in
set_option maxRecDepth 100000 in
theorem zt_Mo_faults_10 {x : zC} {w : zW} {g : zS} {o : Nat → Int64} {post : Int32 → zS → Prop} (hG : zq_G x w "GridRouterModel" zc_Mo_faults 6 (zq_rm 6 139)) (hR : zq_R x w (zq_A w) (some .int) (zq_Ni g o post)) (hAp : zq_Ap w) (hW : zq_Wr x w) {v1 : Int32} {z : zS} (h : zw_Mo_faults_10 post v1 z) : zq_W x w 0 0 (g, z, o) 10 [some (.ref (w.2.1 28)), some (.int v1), none, none, none, none] [.ref (w.2.1 28)] := by
  refine zr_iconst hG (v := (1 : Int32)) zd_Mo_faults_10 (by decide) ?_
  refine zr_goto hG 15 zd_Mo_faults_11 (by decide) ?_
  exact zt_Mo_faults_15 hG hR hAp hW h
def zw_Mo_faults (a1 : Int32) (z : zS) (post : Int32 → zS → Prop) : Prop := ((a1 < 0 → zw_Mo_faults_10 post a1 z) ∧ (¬ a1 < 0 → ((a1 ≤ (3 : Int32) → zw_Mo_faults_15 post a1 (0 : Int32) z) ∧ (¬ a1 ≤ (3 : Int32) → zw_Mo_faults_10 post a1 z))))
set_option maxHeartbeats 4000000 in
set_option maxRecDepth 100000 in
theorem zm_Mo_faults (l : Launch) (w : zW) (hAp : zq_Ap w) (g : zS) (o : Nat → Int64) {a1 : Int32} {z : zS} {post : Int32 → zS → Prop} (h : zw_Mo_faults a1 z post) : zq_M l w (zq_A w) zy_Mo_faults zc_Mo_faults 6 (some .int) (zq_rm 6 139) [.ref (w.2.1 28), .int a1] (g, z, o) (zq_Ni g o post) := by
  refine zq_mk_M (by decide) (by simp [Value.category]) (Nat.le_of_ble_eq_true rfl) hAp (fun x hx hG hR => ?_)
  subst hx
  have hW := zq_wr hR.2.2.1
  refine zr_aload_n hG zd_Mo_faults_0 rfl rfl ?_
  refine zr_iload_n hG zd_Mo_faults_1 rfl rfl ?_
  refine zr_if_lt hG 10 zd_Mo_faults_2 (by decide) (fun hc => ?_) (fun hc => ?_)
  · have h := h.1 hc
    exact zt_Mo_faults_10 hG hR hAp hW h
  · have h := h.2 hc
    refine zr_iload_n hG zd_Mo_faults_5 rfl rfl ?_
    refine zr_iconst hG (v := (3 : Int32)) zd_Mo_faults_6 (by decide) ?_
    refine zr_icmp_le hG 14 zd_Mo_faults_7 (by decide) (fun hc => ?_) (fun hc => ?_)
    · have h := h.1 hc
      refine zr_iconst hG (v := (0 : Int32)) zd_Mo_faults_14 (by decide) ?_
      exact zt_Mo_faults_15 hG hR hAp hW h
    · have h := h.2 hc
      exact zt_Mo_faults_10 hG hR hAp hW h
def zw_Mo_begins_41 (post : Int32 → zS → Prop) (u0 : Int32) (z : zS) : Prop := (narrow .boolean (.int u0) = .int u0 ∧ post u0 z)
set_option maxHeartbeats 4000000 in
set_option maxRecDepth 100000 in
theorem zt_Mo_begins_41 {x : zC} {w : zW} {g : zS} {o : Nat → Int64} {post : Int32 → zS → Prop} (hG : zq_G x w "GridRouterModel" zc_Mo_begins 2 (zq_rm 0 0)) (hR : zq_R x w zq_0 (some .boolean) (zq_Ni g o post)) (hAp : zq_Ap w) {u0 : Int32} {z : zS} (h : zw_Mo_begins_41 post u0 z) : zq_W x w 0 0 (g, z, o) 41 [none, none] [.int u0] := by
  obtain ⟨hn, h⟩ := h
  exact zr_zret hG hR zd_Mo_begins_41 hn ⟨_, _, rfl, rfl, h⟩
def zw_Mo_begins_40 (post : Int32 → zS → Prop) (z : zS) : Prop := zw_Mo_begins_41 post (0 : Int32) z
set_option maxHeartbeats 4000000 in
set_option maxRecDepth 100000 in
theorem zt_Mo_begins_40 {x : zC} {w : zW} {g : zS} {o : Nat → Int64} {post : Int32 → zS → Prop} (hG : zq_G x w "GridRouterModel" zc_Mo_begins 2 (zq_rm 0 0)) (hR : zq_R x w zq_0 (some .boolean) (zq_Ni g o post)) (hAp : zq_Ap w) {z : zS} (h : zw_Mo_begins_40 post z) : zq_W x w 0 0 (g, z, o) 40 [none, none] [] := by
  refine zr_iconst hG (v := (0 : Int32)) zd_Mo_begins_40 (by decide) ?_
  exact zt_Mo_begins_41 hG hR hAp h
def zw_Mo_begins_36 (post : Int32 → zS → Prop) (z : zS) : Prop := zw_Mo_begins_41 post (1 : Int32) z
set_option maxHeartbeats 4000000 in
set_option maxRecDepth 100000 in
theorem zt_Mo_begins_36 {x : zC} {w : zW} {g : zS} {o : Nat → Int64} {post : Int32 → zS → Prop} (hG : zq_G x w "GridRouterModel" zc_Mo_begins 2 (zq_rm 0 0)) (hR : zq_R x w zq_0 (some .boolean) (zq_Ni g o post)) (hAp : zq_Ap w) {z : zS} (h : zw_Mo_begins_36 post z) : zq_W x w 0 0 (g, z, o) 36 [none, none] [] := by
  refine zr_iconst hG (v := (1 : Int32)) zd_Mo_begins_36 (by decide) ?_
  refine zr_goto hG 41 zd_Mo_begins_37 (by decide) ?_
  exact zt_Mo_begins_41 hG hR hAp h
def zw_Mo_begins (a1 : Int32) (z : zS) (post : Int32 → zS → Prop) : Prop := vp_in a1 162 ∧ (((z.2 2 a1.toNatClampNeg) = (-1 : Int32) → zw_Mo_begins_40 post z) ∧ (¬ (z.2 2 a1.toNatClampNeg) = (-1 : Int32) → ¬ (z.1 0) = 0 ∧ (((a1 - a1 / (z.1 0) * (z.1 0)) = 0 → zw_Mo_begins_36 post z) ∧ (¬ (a1 - a1 / (z.1 0) * (z.1 0)) = 0 → vp_in (a1 - (1 : Int32)) 162 ∧ vp_in a1 162 ∧ (((z.2 2 (a1 - (1 : Int32)).toNatClampNeg) = (z.2 2 a1.toNatClampNeg) → zw_Mo_begins_40 post z) ∧ (¬ (z.2 2 (a1 - (1 : Int32)).toNatClampNeg) = (z.2 2 a1.toNatClampNeg) → zw_Mo_begins_36 post z))))))
set_option maxHeartbeats 4000000 in
set_option maxRecDepth 100000 in
theorem zm_Mo_begins (l : Launch) (w : zW) (hAp : zq_Ap w) (g : zS) (o : Nat → Int64) {a1 : Int32} {z : zS} {post : Int32 → zS → Prop} (h : zw_Mo_begins a1 z post) : zq_M l w zq_0 zy_Mo_begins zc_Mo_begins 2 (some .boolean) (zq_rm 0 0) [.ref (w.2.1 28), .int a1] (g, z, o) (zq_Ni g o post) := by
  refine zq_mk_M (by decide) (by simp [Value.category]) (Nat.le_of_ble_eq_true rfl) hAp (fun x hx hG hR => ?_)
  subst hx
  refine zr_aload_n hG zd_Mo_begins_0 rfl rfl ?_
  refine zf_Mo_owner hG tk_770 zd_Mo_begins_1 ?_
  refine zr_iload_n hG zd_Mo_begins_4 rfl rfl ?_
  obtain ⟨hi, h⟩ := h
  refine zl_31 hG hi zd_Mo_begins_5 ?_
  refine zr_iconst hG (v := (-1 : Int32)) zd_Mo_begins_6 (by decide) ?_
  refine zr_icmp_eq hG 40 zd_Mo_begins_7 (by decide) (fun hc => ?_) (fun hc => ?_)
  · have h := h.1 hc
    exact zr_mask [false, false] (zt_Mo_begins_40 hG hR hAp h)
  · have h := h.2 hc
    refine zr_iload_n hG zd_Mo_begins_10 rfl rfl ?_
    refine zr_aload_n hG zd_Mo_begins_11 rfl rfl ?_
    refine zf_Mo_width hG tk_763 zd_Mo_begins_12 ?_
    obtain ⟨hi, h⟩ := h
    refine zr_irem hG zd_Mo_begins_15 hi ?_
    refine zr_if_eq hG 36 zd_Mo_begins_16 (by decide) (fun hc => ?_) (fun hc => ?_)
    · have h := h.1 hc
      exact zr_mask [false, false] (zt_Mo_begins_36 hG hR hAp h)
    · have h := h.2 hc
      refine zr_aload_n hG zd_Mo_begins_19 rfl rfl ?_
      refine zf_Mo_owner hG tk_770 zd_Mo_begins_20 ?_
      refine zr_iload_n hG zd_Mo_begins_23 rfl rfl ?_
      refine zr_iconst hG (v := (1 : Int32)) zd_Mo_begins_24 (by decide) ?_
      refine zr_isub hG zd_Mo_begins_25 ?_
      obtain ⟨hi, h⟩ := h
      refine zl_31 hG hi zd_Mo_begins_26 ?_
      refine zr_aload_n hG zd_Mo_begins_27 rfl rfl ?_
      refine zf_Mo_owner hG tk_770 zd_Mo_begins_28 ?_
      refine zr_iload_n hG zd_Mo_begins_31 rfl rfl ?_
      obtain ⟨hi, h⟩ := h
      refine zl_31 hG hi zd_Mo_begins_32 ?_
      refine zr_icmp_eq hG 40 zd_Mo_begins_33 (by decide) (fun hc => ?_) (fun hc => ?_)
      · have h := h.1 hc
        exact zr_mask [false, false] (zt_Mo_begins_40 hG hR hAp h)
      · have h := h.2 hc
        exact zr_mask [false, false] (zt_Mo_begins_36 hG hR hAp h)
