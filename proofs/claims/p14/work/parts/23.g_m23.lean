def zw_Shapes_count_26 (ln : Nat → Nat) (post : Int32 → zS → Prop) (k4 : Int32 × Int32 × zS → Prop) (v1 v2 : Int32) (z : zS) : Prop := k4 (v1, (v2 + (1 : Int32)), z)
set_option maxHeartbeats 4000000 in
set_option maxRecDepth 100000 in
theorem zt_Shapes_count_26 {x : zC} {w : zW} {g : zS} {o : Nat → Int64} {post : Int32 → zS → Prop} (hG : zq_G x w "GridRouter$Shapes" zc_Shapes_count 3 (zq_rm 2 45)) (hR : zq_R x w zq_0 (some .int) (zq_Pi g o post)) (hAp : zq_Ap w) {k4 : Int32 × Int32 × zS → Prop} (hk4 : ∀ b : Int32 × Int32 × zS, k4 b → zq_W x w 0 0 (b.2.2, g, o) 4 [some (.ref (w.2.1 27)), some (.int (b.1)), some (.int (b.2.1))] []) {v1 v2 : Int32} {z : zS} (h : zw_Shapes_count_26 w.2.2.1 post k4 v1 v2 z) : zq_W x w 0 0 (z, g, o) 26 [some (.ref (w.2.1 27)), some (.int v1), some (.int v2)] [] := by
  refine zr_iinc hG (u := (1 : Int32)) [some (.ref (w.2.1 27)), some (.int v1), some (.int (v2 + (1 : Int32)))] zd_Shapes_count_26 rfl (by decide) (Nat.le_of_ble_eq_true rfl) rfl ?_
  refine zr_goto hG 4 zd_Shapes_count_29 (by decide) ?_
  have h := hk4 _ h
  exact h
def zw_Shapes_count_4 (ln : Nat → Nat) (post : Int32 → zS → Prop) (k4 : Int32 × Int32 × zS → Prop) : Int32 × Int32 × zS → Prop := fun b => match b with
  | (v1, v2, z) => (((z.1 3) ≤ v2 → post v1 z) ∧ (¬ (z.1 3) ≤ v2 → (zw_Shapes_isStart ln v2 z (fun r191 z191 => ((r191 = 0 → zw_Shapes_count_26 ln post k4 v1 v2 z191) ∧ (¬ r191 = 0 → zw_Shapes_count_26 ln post k4 (v1 + (1 : Int32)) v2 z191))))))
set_option maxHeartbeats 4000000 in
set_option maxRecDepth 100000 in
theorem zt_Shapes_count_4 {x : zC} {w : zW} {g : zS} {o : Nat → Int64} {post : Int32 → zS → Prop} (hG : zq_G x w "GridRouter$Shapes" zc_Shapes_count 3 (zq_rm 2 45)) (hR : zq_R x w zq_0 (some .int) (zq_Pi g o post)) (hAp : zq_Ap w) {v1 v2 : Int32} {z : zS} (h : zq_Lp (zw_Shapes_count_4 w.2.2.1 post) (v1, v2, z)) : zq_W x w 0 0 (z, g, o) 4 [some (.ref (w.2.1 27)), some (.int v1), some (.int v2)] [] := by
  refine zq_Lp_W (WW := fun b => zq_W x w 0 0 (b.2.2, g, o) 4 [some (.ref (w.2.1 27)), some (.int (b.1)), some (.int (b.2.1))] []) (fun k4 hk4 b h => ?_) h
  obtain ⟨v1, v2, z⟩ := b
  show zq_W x w 0 0 (z, g, o) 4 [some (.ref (w.2.1 27)), some (.int v1), some (.int v2)] []
  refine zr_iload_n hG zd_Shapes_count_4 rfl rfl ?_
  refine zr_aload_n hG zd_Shapes_count_5 rfl rfl ?_
  refine zf_Shapes_grid hG tk_292 zd_Shapes_count_6 ?_
  refine zf_Grid_cells hG tk_51 zd_Shapes_count_9 ?_
  refine zr_icmp_ge hG 32 zd_Shapes_count_12 (by decide) (fun hc => ?_) (fun hc => ?_)
  · have h := h.1 hc
    refine zr_iload_n hG zd_Shapes_count_32 rfl rfl ?_
    exact zr_iret hG hR zd_Shapes_count_33 ⟨_, _, rfl, rfl, h⟩
  · have h := h.2 hc
    refine zr_aload_n hG zd_Shapes_count_15 rfl rfl ?_
    refine zr_iload_n hG zd_Shapes_count_16 rfl rfl ?_
    refine zr_callV hG zq_F0 (As := [.int v2]) (rest := []) (zm_Shapes_isStart (zc_l x) w hAp g o h) 27 rfl rfl rfl zg_Shapes_25 zdd_Shapes_isStart ⟨rfl, rfl, by decide, by decide⟩ ⟨by decide, by decide⟩ rfl (Nat.le_of_ble_eq_true rfl) zd_Shapes_count_17 rfl ?_
    rintro _ _ ⟨r191, z191, rfl, rfl, h⟩
    refine zr_if_eq hG 26 zd_Shapes_count_20 (by decide) (fun hc => ?_) (fun hc => ?_)
    · have h := h.1 hc
      exact zt_Shapes_count_26 hG hR hAp hk4 h
    · have h := h.2 hc
      refine zr_iinc hG (u := (1 : Int32)) [some (.ref (w.2.1 27)), some (.int (v1 + (1 : Int32))), some (.int v2)] zd_Shapes_count_23 rfl (by decide) (Nat.le_of_ble_eq_true rfl) rfl ?_
      exact zt_Shapes_count_26 hG hR hAp hk4 h
def zw_Shapes_count (ln : Nat → Nat) (z : zS) (post : Int32 → zS → Prop) : Prop := zq_Lp (zw_Shapes_count_4 ln post) ((0 : Int32), (0 : Int32), z)
set_option maxHeartbeats 4000000 in
set_option maxRecDepth 100000 in
theorem zm_Shapes_count (l : Launch) (w : zW) (hAp : zq_Ap w) (g : zS) (o : Nat → Int64) {z : zS} {post : Int32 → zS → Prop} (h : zw_Shapes_count w.2.2.1 z post) : zq_M l w zq_0 zy_Shapes_count zc_Shapes_count 3 (some .int) (zq_rm 2 45) [.ref (w.2.1 27)] (z, g, o) (zq_Pi g o post) := by
  refine zq_mk_M (by decide) (by simp [Value.category]) (Nat.le_of_ble_eq_true rfl) hAp (fun x hx hG hR => ?_)
  subst hx
  refine zr_iconst hG (v := (0 : Int32)) zd_Shapes_count_0 (by decide) ?_
  refine zr_istore_n hG [some (.ref (w.2.1 27)), some (.int (0 : Int32)), none] zd_Shapes_count_1 rfl (Nat.le_of_ble_eq_true rfl) rfl ?_
  refine zr_iconst hG (v := (0 : Int32)) zd_Shapes_count_2 (by decide) ?_
  refine zr_istore_n hG [some (.ref (w.2.1 27)), some (.int (0 : Int32)), some (.int (0 : Int32))] zd_Shapes_count_3 rfl (Nat.le_of_ble_eq_true rfl) rfl ?_
  exact zt_Shapes_count_4 hG hR hAp h
def zw_Gr_shapes (ln : Nat → Nat) (z : zS) (post : Int32 → zS → Prop) : Prop := (zw_Shapes_count ln z (fun r50 z50 => post r50 z50))
set_option maxHeartbeats 4000000 in
set_option maxRecDepth 100000 in
theorem zm_Gr_shapes (l : Launch) (w : zW) (hAp : zq_Ap w) (g : zS) (o : Nat → Int64) {z : zS} {post : Int32 → zS → Prop} (h : zw_Gr_shapes w.2.2.1 z post) : zq_M l w zq_0 zy_Gr_shapes zc_Gr_shapes 1 (some .int) (zq_rm 3 67) [.ref (w.2.1 0)] (z, g, o) (zq_Pi g o post) := by
  refine zq_mk_M (by decide) (by simp [Value.category]) (Nat.le_of_ble_eq_true rfl) hAp (fun x hx hG hR => ?_)
  subst hx
  have h : (zw_Shapes_count w.2.2.1 z (fun r50 z50 => post r50 z50)) := h
  refine zr_aload_n hG zd_Gr_shapes_0 rfl rfl ?_
  refine zf_Gr_rows hG tk_305 zd_Gr_shapes_1 ?_
  refine zr_callV hG zq_F0 (As := []) (rest := []) (zm_Shapes_count (zc_l x) w hAp g o h) 27 rfl rfl rfl zg_Gr_169 zdd_Shapes_count ⟨rfl, rfl, by decide, by decide⟩ ⟨by decide, by decide⟩ rfl (Nat.le_of_ble_eq_true rfl) zd_Gr_shapes_4 rfl ?_
  rintro _ _ ⟨r50, z50, rfl, rfl, h⟩
  exact zr_iret hG hR zd_Gr_shapes_7 ⟨_, _, rfl, rfl, h⟩
def zw_Shapes_startOf_33 (ln : Nat → Nat) (post : Int32 → zS → Prop) (k4 : Int32 × Int32 × Int32 × zS → Prop) (v1 v2 v3 : Int32) (z : zS) : Prop := k4 (v1, v2, (v3 + (1 : Int32)), z)
set_option maxHeartbeats 4000000 in
set_option maxRecDepth 100000 in
theorem zt_Shapes_startOf_33 {x : zC} {w : zW} {g : zS} {o : Nat → Int64} {post : Int32 → zS → Prop} (hG : zq_G x w "GridRouter$Shapes" zc_Shapes_startOf 4 (zq_rm 2 45)) (hR : zq_R x w zq_0 (some .int) (zq_Pi g o post)) (hAp : zq_Ap w) {k4 : Int32 × Int32 × Int32 × zS → Prop} (hk4 : ∀ b : Int32 × Int32 × Int32 × zS, k4 b → zq_W x w 0 0 (b.2.2.2, g, o) 4 [some (.ref (w.2.1 27)), some (.int (b.1)), some (.int (b.2.1)), some (.int (b.2.2.1))] []) {v1 v2 v3 : Int32} {z : zS} (h : zw_Shapes_startOf_33 w.2.2.1 post k4 v1 v2 v3 z) : zq_W x w 0 0 (z, g, o) 33 [some (.ref (w.2.1 27)), some (.int v1), some (.int v2), some (.int v3)] [] := by
  refine zr_iinc hG (u := (1 : Int32)) [some (.ref (w.2.1 27)), some (.int v1), some (.int v2), some (.int (v3 + (1 : Int32)))] zd_Shapes_startOf_33 rfl (by decide) (Nat.le_of_ble_eq_true rfl) rfl ?_
  refine zr_goto hG 4 zd_Shapes_startOf_36 (by decide) ?_
  have h := hk4 _ h
  exact h
def zw_Shapes_startOf_4 (ln : Nat → Nat) (post : Int32 → zS → Prop) (k4 : Int32 × Int32 × Int32 × zS → Prop) : Int32 × Int32 × Int32 × zS → Prop := fun b => match b with
  | (v1, v2, v3, z) => (((z.1 3) ≤ v3 → post (-1 : Int32) z) ∧ (¬ (z.1 3) ≤ v3 → (zw_Shapes_isStart ln v3 z (fun r192 z192 => ((r192 = 0 → zw_Shapes_startOf_33 ln post k4 v1 v2 v3 z192) ∧ (¬ r192 = 0 → ((¬ v2 = v1 → zw_Shapes_startOf_33 ln post k4 v1 (v2 + (1 : Int32)) v3 z192) ∧ (v2 = v1 → post v3 z192))))))))
set_option maxHeartbeats 4000000 in
set_option maxRecDepth 100000 in
theorem zt_Shapes_startOf_4 {x : zC} {w : zW} {g : zS} {o : Nat → Int64} {post : Int32 → zS → Prop} (hG : zq_G x w "GridRouter$Shapes" zc_Shapes_startOf 4 (zq_rm 2 45)) (hR : zq_R x w zq_0 (some .int) (zq_Pi g o post)) (hAp : zq_Ap w) {v1 v2 v3 : Int32} {z : zS} (h : zq_Lp (zw_Shapes_startOf_4 w.2.2.1 post) (v1, v2, v3, z)) : zq_W x w 0 0 (z, g, o) 4 [some (.ref (w.2.1 27)), some (.int v1), some (.int v2), some (.int v3)] [] := by
  refine zq_Lp_W (WW := fun b => zq_W x w 0 0 (b.2.2.2, g, o) 4 [some (.ref (w.2.1 27)), some (.int (b.1)), some (.int (b.2.1)), some (.int (b.2.2.1))] []) (fun k4 hk4 b h => ?_) h
  obtain ⟨v1, v2, v3, z⟩ := b
  show zq_W x w 0 0 (z, g, o) 4 [some (.ref (w.2.1 27)), some (.int v1), some (.int v2), some (.int v3)] []
  refine zr_iload_n hG zd_Shapes_startOf_4 rfl rfl ?_
  refine zr_aload_n hG zd_Shapes_startOf_5 rfl rfl ?_
  refine zf_Shapes_grid hG tk_292 zd_Shapes_startOf_6 ?_
  refine zf_Grid_cells hG tk_51 zd_Shapes_startOf_9 ?_
  refine zr_icmp_ge hG 39 zd_Shapes_startOf_12 (by decide) (fun hc => ?_) (fun hc => ?_)
  · have h := h.1 hc
    refine zr_iconst hG (v := (-1 : Int32)) zd_Shapes_startOf_39 (by decide) ?_
    exact zr_iret hG hR zd_Shapes_startOf_40 ⟨_, _, rfl, rfl, h⟩
  · have h := h.2 hc
    refine zr_aload_n hG zd_Shapes_startOf_15 rfl rfl ?_
    refine zr_iload_n hG zd_Shapes_startOf_16 rfl rfl ?_
    refine zr_callV hG zq_F0 (As := [.int v3]) (rest := []) (zm_Shapes_isStart (zc_l x) w hAp g o h) 27 rfl rfl rfl zg_Shapes_25 zdd_Shapes_isStart ⟨rfl, rfl, by decide, by decide⟩ ⟨by decide, by decide⟩ rfl (Nat.le_of_ble_eq_true rfl) zd_Shapes_startOf_17 rfl ?_
    rintro _ _ ⟨r192, z192, rfl, rfl, h⟩
    refine zr_if_eq hG 33 zd_Shapes_startOf_20 (by decide) (fun hc => ?_) (fun hc => ?_)
    · have h := h.1 hc
      exact zt_Shapes_startOf_33 hG hR hAp hk4 h
    · have h := h.2 hc
      refine zr_iload_n hG zd_Shapes_startOf_23 rfl rfl ?_
      refine zr_iload_n hG zd_Shapes_startOf_24 rfl rfl ?_
      refine zr_icmp_ne hG 30 zd_Shapes_startOf_25 (by decide) (fun hc => ?_) (fun hc => ?_)
      · have h := h.1 hc
        refine zr_iinc hG (u := (1 : Int32)) [some (.ref (w.2.1 27)), some (.int v1), some (.int (v2 + (1 : Int32))), some (.int v3)] zd_Shapes_startOf_30 rfl (by decide) (Nat.le_of_ble_eq_true rfl) rfl ?_
        exact zt_Shapes_startOf_33 hG hR hAp hk4 h
      · have h := h.2 hc
        refine zr_iload_n hG zd_Shapes_startOf_28 rfl rfl ?_
        exact zr_iret hG hR zd_Shapes_startOf_29 ⟨_, _, rfl, rfl, h⟩
def zw_Shapes_startOf (ln : Nat → Nat) (a1 : Int32) (z : zS) (post : Int32 → zS → Prop) : Prop := zq_Lp (zw_Shapes_startOf_4 ln post) (a1, (0 : Int32), (0 : Int32), z)
set_option maxHeartbeats 4000000 in
set_option maxRecDepth 100000 in
theorem zm_Shapes_startOf (l : Launch) (w : zW) (hAp : zq_Ap w) (g : zS) (o : Nat → Int64) {a1 : Int32} {z : zS} {post : Int32 → zS → Prop} (h : zw_Shapes_startOf w.2.2.1 a1 z post) : zq_M l w zq_0 zy_Shapes_startOf zc_Shapes_startOf 4 (some .int) (zq_rm 2 45) [.ref (w.2.1 27), .int a1] (z, g, o) (zq_Pi g o post) := by
  refine zq_mk_M (by decide) (by simp [Value.category]) (Nat.le_of_ble_eq_true rfl) hAp (fun x hx hG hR => ?_)
  subst hx
  refine zr_iconst hG (v := (0 : Int32)) zd_Shapes_startOf_0 (by decide) ?_
  refine zr_istore_n hG [some (.ref (w.2.1 27)), some (.int a1), some (.int (0 : Int32)), none] zd_Shapes_startOf_1 rfl (Nat.le_of_ble_eq_true rfl) rfl ?_
  refine zr_iconst hG (v := (0 : Int32)) zd_Shapes_startOf_2 (by decide) ?_
  refine zr_istore_n hG [some (.ref (w.2.1 27)), some (.int a1), some (.int (0 : Int32)), some (.int (0 : Int32))] zd_Shapes_startOf_3 rfl (Nat.le_of_ble_eq_true rfl) rfl ?_
  exact zt_Shapes_startOf_4 hG hR hAp h
def zw_Shapes_lastX_57 (ln : Nat → Nat) (post : Int32 → zS → Prop) (v2 : Int32) (z : zS) : Prop := post v2 z
set_option maxHeartbeats 4000000 in
set_option maxRecDepth 100000 in
theorem zt_Shapes_lastX_57 {x : zC} {w : zW} {g : zS} {o : Nat → Int64} {post : Int32 → zS → Prop} (hG : zq_G x w "GridRouter$Shapes" zc_Shapes_lastX 4 (zq_rm 0 0)) (hR : zq_R x w zq_0 (some .int) (zq_Pi g o post)) (hAp : zq_Ap w) {v2 : Int32} {z : zS} (h : zw_Shapes_lastX_57 w.2.2.1 post v2 z) : zq_W x w 0 0 (z, g, o) 57 [none, none, some (.int v2), none] [] := by
  refine zr_iload_n hG zd_Shapes_lastX_57 rfl rfl ?_
  exact zr_iret hG hR zd_Shapes_lastX_58 ⟨_, _, rfl, rfl, h⟩
def zw_Shapes_lastX_12 (ln : Nat → Nat) (post : Int32 → zS → Prop) (k12 : Int32 × Int32 × Int32 × zS → Prop) : Int32 × Int32 × Int32 × zS → Prop := fun b => match b with
  | (v1, v2, v3, z) => ((((z.1 0) - (1 : Int32)) ≤ v2 → zw_Shapes_lastX_57 ln post v2 z) ∧ (¬ ((z.1 0) - (1 : Int32)) ≤ v2 → vp_in (v3 + (1 : Int32)) (ln 6) ∧ vp_in v1 (ln 6) ∧ ((¬ (z.2 6 (v3 + (1 : Int32)).toNatClampNeg) = (z.2 6 v1.toNatClampNeg) → zw_Shapes_lastX_57 ln post v2 z) ∧ ((z.2 6 (v3 + (1 : Int32)).toNatClampNeg) = (z.2 6 v1.toNatClampNeg) → k12 (v1, (v2 + (1 : Int32)), (v3 + (1 : Int32)), z)))))
set_option maxHeartbeats 4000000 in
set_option maxRecDepth 100000 in
theorem zt_Shapes_lastX_12 {x : zC} {w : zW} {g : zS} {o : Nat → Int64} {post : Int32 → zS → Prop} (hG : zq_G x w "GridRouter$Shapes" zc_Shapes_lastX 4 (zq_rm 0 0)) (hR : zq_R x w zq_0 (some .int) (zq_Pi g o post)) (hAp : zq_Ap w) {v1 v2 v3 : Int32} {z : zS} (h : zq_Lp (zw_Shapes_lastX_12 w.2.2.1 post) (v1, v2, v3, z)) : zq_W x w 0 0 (z, g, o) 12 [some (.ref (w.2.1 27)), some (.int v1), some (.int v2), some (.int v3)] [] := by
  refine zq_Lp_W (WW := fun b => zq_W x w 0 0 (b.2.2.2, g, o) 12 [some (.ref (w.2.1 27)), some (.int (b.1)), some (.int (b.2.1)), some (.int (b.2.2.1))] []) (fun k12 hk12 b h => ?_) h
  obtain ⟨v1, v2, v3, z⟩ := b
  show zq_W x w 0 0 (z, g, o) 12 [some (.ref (w.2.1 27)), some (.int v1), some (.int v2), some (.int v3)] []
  refine zr_iload_n hG zd_Shapes_lastX_12 rfl rfl ?_
  refine zr_aload_n hG zd_Shapes_lastX_13 rfl rfl ?_
  refine zf_Shapes_grid hG tk_292 zd_Shapes_lastX_14 ?_
  refine zf_Grid_width hG tk_40 zd_Shapes_lastX_17 ?_
  refine zr_iconst hG (v := (1 : Int32)) zd_Shapes_lastX_20 (by decide) ?_
  refine zr_isub hG zd_Shapes_lastX_21 ?_
  refine zr_icmp_ge hG 57 zd_Shapes_lastX_22 (by decide) (fun hc => ?_) (fun hc => ?_)
  · have h := h.1 hc
    exact zr_mask [false, false, true, false] (zt_Shapes_lastX_57 hG hR hAp h)
  · have h := h.2 hc
    refine zr_aload_n hG zd_Shapes_lastX_25 rfl rfl ?_
    refine zf_Shapes_layout hG tk_293 zd_Shapes_lastX_26 ?_
    refine zf_Layout_owner hG tk_126 zd_Shapes_lastX_29 ?_
    refine zr_iload_n hG zd_Shapes_lastX_32 rfl rfl ?_
    refine zr_iconst hG (v := (1 : Int32)) zd_Shapes_lastX_33 (by decide) ?_
    refine zr_iadd hG zd_Shapes_lastX_34 ?_
    obtain ⟨hi, h⟩ := h
    refine zl_10 hG hi zd_Shapes_lastX_35 ?_
    refine zr_aload_n hG zd_Shapes_lastX_36 rfl rfl ?_
    refine zf_Shapes_layout hG tk_293 zd_Shapes_lastX_37 ?_
    refine zf_Layout_owner hG tk_126 zd_Shapes_lastX_40 ?_
    refine zr_iload_n hG zd_Shapes_lastX_43 rfl rfl ?_
    obtain ⟨hi, h⟩ := h
    refine zl_10 hG hi zd_Shapes_lastX_44 ?_
    refine zr_icmp_ne hG 57 zd_Shapes_lastX_45 (by decide) (fun hc => ?_) (fun hc => ?_)
    · have h := h.1 hc
      exact zr_mask [false, false, true, false] (zt_Shapes_lastX_57 hG hR hAp h)
    · have h := h.2 hc
      refine zr_iinc hG (u := (1 : Int32)) [some (.ref (w.2.1 27)), some (.int v1), some (.int v2), some (.int (v3 + (1 : Int32)))] zd_Shapes_lastX_48 rfl (by decide) (Nat.le_of_ble_eq_true rfl) rfl ?_
      refine zr_iinc hG (u := (1 : Int32)) [some (.ref (w.2.1 27)), some (.int v1), some (.int (v2 + (1 : Int32))), some (.int (v3 + (1 : Int32)))] zd_Shapes_lastX_51 rfl (by decide) (Nat.le_of_ble_eq_true rfl) rfl ?_
      refine zr_goto hG 12 zd_Shapes_lastX_54 (by decide) ?_
      have h := hk12 _ h
      exact h
def zw_Shapes_lastX (ln : Nat → Nat) (a1 : Int32) (z : zS) (post : Int32 → zS → Prop) : Prop := vp_in a1 (ln 0) ∧ zq_Lp (zw_Shapes_lastX_12 ln post) (a1, (z.2 0 a1.toNatClampNeg), a1, z)
set_option maxHeartbeats 4000000 in
set_option maxRecDepth 100000 in
theorem zm_Shapes_lastX (l : Launch) (w : zW) (hAp : zq_Ap w) (g : zS) (o : Nat → Int64) {a1 : Int32} {z : zS} {post : Int32 → zS → Prop} (h : zw_Shapes_lastX w.2.2.1 a1 z post) : zq_M l w zq_0 zy_Shapes_lastX zc_Shapes_lastX 4 (some .int) (zq_rm 0 0) [.ref (w.2.1 27), .int a1] (z, g, o) (zq_Pi g o post) := by
  refine zq_mk_M (by decide) (by simp [Value.category]) (Nat.le_of_ble_eq_true rfl) hAp (fun x hx hG hR => ?_)
  subst hx
  refine zr_aload_n hG zd_Shapes_lastX_0 rfl rfl ?_
  refine zf_Shapes_grid hG tk_292 zd_Shapes_lastX_1 ?_
  refine zf_Grid_xOf hG tk_54 zd_Shapes_lastX_4 ?_
  refine zr_iload_n hG zd_Shapes_lastX_7 rfl rfl ?_
  obtain ⟨hi, h⟩ := h
  refine zl_2 hG hi zd_Shapes_lastX_8 ?_
  refine zr_istore_n hG [some (.ref (w.2.1 27)), some (.int a1), some (.int (z.2 0 a1.toNatClampNeg)), none] zd_Shapes_lastX_9 rfl (Nat.le_of_ble_eq_true rfl) rfl ?_
  refine zr_iload_n hG zd_Shapes_lastX_10 rfl rfl ?_
  refine zr_istore_n hG [some (.ref (w.2.1 27)), some (.int a1), some (.int (z.2 0 a1.toNatClampNeg)), some (.int a1)] zd_Shapes_lastX_11 rfl (Nat.le_of_ble_eq_true rfl) rfl ?_
  exact zt_Shapes_lastX_12 hG hR hAp h
def zw_Shapes_tell (ln : Nat → Nat) (a1 a2 : Int32) (z : zS) (post : Int32 → zS → Prop) : Prop := ((a2 = 0 → (zw_Grid_layerOf ln a1 z (fun r193 z193 => post r193 z193))) ∧ (a2 = 1 → vp_in a1 (ln 1) ∧ post (z.2 1 a1.toNatClampNeg) z) ∧ (a2 = 2 → vp_in a1 (ln 0) ∧ post (z.2 0 a1.toNatClampNeg) z) ∧ (a2 = 3 → (zw_Shapes_lastX ln a1 z (fun r194 z194 => post r194 z194))) ∧ (¬ a2 = 0 ∧ ¬ a2 = 1 ∧ ¬ a2 = 2 ∧ ¬ a2 = 3 → vp_in a1 (ln 6) ∧ post (z.2 6 a1.toNatClampNeg) z))
set_option maxHeartbeats 4000000 in
set_option maxRecDepth 100000 in
theorem zm_Shapes_tell (l : Launch) (w : zW) (hAp : zq_Ap w) (g : zS) (o : Nat → Int64) {a1 a2 : Int32} {z : zS} {post : Int32 → zS → Prop} (h : zw_Shapes_tell w.2.2.1 a1 a2 z post) : zq_M l w zq_0 zy_Shapes_tell zc_Shapes_tell 3 (some .int) (zq_rm 1 23) [.ref (w.2.1 27), .int a1, .int a2] (z, g, o) (zq_Pi g o post) := by
  refine zq_mk_M (by decide) (by simp [Value.category]) (Nat.le_of_ble_eq_true rfl) hAp (fun x hx hG hR => ?_)
  subst hx
  refine zr_iload_n hG zd_Shapes_tell_0 rfl rfl ?_
  by_cases hc0 : a2 = 0
  · have h := h.1 hc0
    refine zr_swIn hG 32 zd_Shapes_tell_1 (by rw [hc0]; decide) (by rw [hc0]; decide) (by rw [hc0]; rfl) (by decide) ?_
    refine zr_aload_n hG zd_Shapes_tell_32 rfl rfl ?_
    refine zf_Shapes_grid hG tk_292 zd_Shapes_tell_33 ?_
    refine zr_iload_n hG zd_Shapes_tell_36 rfl rfl ?_
    refine zr_callV hG zq_F0 (As := [.int a1]) (rest := []) (zm_Grid_layerOf (zc_l x) w hAp g o h) 1 rfl rfl rfl zg_Shapes_29 zdd_Grid_layerOf ⟨rfl, rfl, by decide, by decide⟩ ⟨by decide, by decide⟩ rfl (Nat.le_of_ble_eq_true rfl) zd_Shapes_tell_37 rfl ?_
    rintro _ _ ⟨r193, z193, rfl, rfl, h⟩
    exact zr_iret hG hR zd_Shapes_tell_40 ⟨_, _, rfl, rfl, h⟩
  have h := h.2
  by_cases hc1 : a2 = 1
  · have h := h.1 hc1
    refine zr_swIn hG 41 zd_Shapes_tell_1 (by rw [hc1]; decide) (by rw [hc1]; decide) (by rw [hc1]; rfl) (by decide) ?_
    refine zr_aload_n hG zd_Shapes_tell_41 rfl rfl ?_
    refine zf_Shapes_grid hG tk_292 zd_Shapes_tell_42 ?_
    refine zf_Grid_yOf hG tk_56 zd_Shapes_tell_45 ?_
    refine zr_iload_n hG zd_Shapes_tell_48 rfl rfl ?_
    obtain ⟨hi, h⟩ := h
    refine zl_3 hG hi zd_Shapes_tell_49 ?_
    exact zr_iret hG hR zd_Shapes_tell_50 ⟨_, _, rfl, rfl, h⟩
  have h := h.2
  by_cases hc2 : a2 = 2
  · have h := h.1 hc2
    refine zr_swIn hG 51 zd_Shapes_tell_1 (by rw [hc2]; decide) (by rw [hc2]; decide) (by rw [hc2]; rfl) (by decide) ?_
    refine zr_aload_n hG zd_Shapes_tell_51 rfl rfl ?_
    refine zf_Shapes_grid hG tk_292 zd_Shapes_tell_52 ?_
    refine zf_Grid_xOf hG tk_54 zd_Shapes_tell_55 ?_
    refine zr_iload_n hG zd_Shapes_tell_58 rfl rfl ?_
    obtain ⟨hi, h⟩ := h
    refine zl_2 hG hi zd_Shapes_tell_59 ?_
    exact zr_iret hG hR zd_Shapes_tell_60 ⟨_, _, rfl, rfl, h⟩
  have h := h.2
  by_cases hc3 : a2 = 3
  · have h := h.1 hc3
    refine zr_swIn hG 61 zd_Shapes_tell_1 (by rw [hc3]; decide) (by rw [hc3]; decide) (by rw [hc3]; rfl) (by decide) ?_
    refine zr_aload_n hG zd_Shapes_tell_61 rfl rfl ?_
    refine zr_iload_n hG zd_Shapes_tell_62 rfl rfl ?_
    refine zr_callV hG zq_F0 (As := [.int a1]) (rest := []) (zm_Shapes_lastX (zc_l x) w hAp g o h) 27 rfl rfl rfl zg_Shapes_40 zdd_Shapes_lastX ⟨rfl, rfl, by decide, by decide⟩ ⟨by decide, by decide⟩ rfl (Nat.le_of_ble_eq_true rfl) zd_Shapes_tell_63 rfl ?_
    rintro _ _ ⟨r194, z194, rfl, rfl, h⟩
    exact zr_iret hG hR zd_Shapes_tell_66 ⟨_, _, rfl, rfl, h⟩
  have h := h.2
  have h := h ⟨hc0, hc1, hc2, hc3⟩
  refine zr_swOut hG 67 zd_Shapes_tell_1 (zq_sw0_3 hc0 hc1 hc2 hc3) (by decide) ?_
  refine zr_aload_n hG zd_Shapes_tell_67 rfl rfl ?_
  refine zf_Shapes_layout hG tk_293 zd_Shapes_tell_68 ?_
  refine zf_Layout_owner hG tk_126 zd_Shapes_tell_71 ?_
  refine zr_iload_n hG zd_Shapes_tell_74 rfl rfl ?_
  obtain ⟨hi, h⟩ := h
  refine zl_10 hG hi zd_Shapes_tell_75 ?_
  exact zr_iret hG hR zd_Shapes_tell_76 ⟨_, _, rfl, rfl, h⟩
def zw_Gr_shape_33 (ln : Nat → Nat) (post : Int32 → zS → Prop) (z : zS) : Prop := False
set_option maxHeartbeats 4000000 in
set_option maxRecDepth 100000 in
theorem zt_Gr_shape_33 {x : zC} {w : zW} {g : zS} {o : Nat → Int64} {post : Int32 → zS → Prop} (hG : zq_G x w "GridRouter" zc_Gr_shape 4 (zq_rm 6 110)) (hR : zq_R x w zq_0 (some .int) (zq_Pi g o post)) (hAp : zq_Ap w) {z : zS} (h : zw_Gr_shape_33 w.2.2.1 post z) : zq_W x w 0 0 (z, g, o) 33 [none, none, none, none] [] := by
  exact h.elim
def zw_Gr_shape (ln : Nat → Nat) (a1 a2 : Int32) (z : zS) (post : Int32 → zS → Prop) : Prop := (zw_Shapes_startOf ln a1 z (fun r51 z51 => ((¬ r51 = (-1 : Int32) → ((a2 < 0 → zw_Gr_shape_33 ln post z51) ∧ (¬ a2 < 0 → ((a2 < (5 : Int32) → (zw_Shapes_tell ln r51 a2 z51 (fun r52 z52 => post r52 z52))) ∧ (¬ a2 < (5 : Int32) → zw_Gr_shape_33 ln post z51))))) ∧ (r51 = (-1 : Int32) → False))))
set_option maxHeartbeats 4000000 in
set_option maxRecDepth 100000 in
theorem zm_Gr_shape (l : Launch) (w : zW) (hAp : zq_Ap w) (g : zS) (o : Nat → Int64) {a1 a2 : Int32} {z : zS} {post : Int32 → zS → Prop} (h : zw_Gr_shape w.2.2.1 a1 a2 z post) : zq_M l w zq_0 zy_Gr_shape zc_Gr_shape 4 (some .int) (zq_rm 6 110) [.ref (w.2.1 0), .int a1, .int a2] (z, g, o) (zq_Pi g o post) := by
  refine zq_mk_M (by decide) (by simp [Value.category]) (Nat.le_of_ble_eq_true rfl) hAp (fun x hx hG hR => ?_)
  subst hx
  have h : (zw_Shapes_startOf w.2.2.1 a1 z (fun r51 z51 => ((¬ r51 = (-1 : Int32) → ((a2 < 0 → zw_Gr_shape_33 w.2.2.1 post z51) ∧ (¬ a2 < 0 → ((a2 < (5 : Int32) → (zw_Shapes_tell w.2.2.1 r51 a2 z51 (fun r52 z52 => post r52 z52))) ∧ (¬ a2 < (5 : Int32) → zw_Gr_shape_33 w.2.2.1 post z51))))) ∧ (r51 = (-1 : Int32) → False)))) := h
  refine zr_aload_n hG zd_Gr_shape_0 rfl rfl ?_
  refine zf_Gr_rows hG tk_305 zd_Gr_shape_1 ?_
  refine zr_iload_n hG zd_Gr_shape_4 rfl rfl ?_
  refine zr_callV hG zq_F0 (As := [.int a1]) (rest := []) (zm_Shapes_startOf (zc_l x) w hAp g o h) 27 rfl rfl rfl zg_Gr_171 zdd_Shapes_startOf ⟨rfl, rfl, by decide, by decide⟩ ⟨by decide, by decide⟩ rfl (Nat.le_of_ble_eq_true rfl) zd_Gr_shape_5 rfl ?_
  rintro _ _ ⟨r51, z51, rfl, rfl, h⟩
  refine zr_istore_n hG [some (.ref (w.2.1 0)), some (.int a1), some (.int a2), some (.int r51)] zd_Gr_shape_8 rfl (Nat.le_of_ble_eq_true rfl) rfl ?_
  refine zr_iload_n hG zd_Gr_shape_9 rfl rfl ?_
  refine zr_iconst hG (v := (-1 : Int32)) zd_Gr_shape_10 (by decide) ?_
  refine zr_icmp_ne hG 24 zd_Gr_shape_11 (by decide) (fun hc => ?_) (fun hc => ?_)
  · have h := h.1 hc
    refine zr_iload_n hG zd_Gr_shape_24 rfl rfl ?_
    refine zr_if_lt hG 33 zd_Gr_shape_25 (by decide) (fun hc => ?_) (fun hc => ?_)
    · have h := h.1 hc
      exact zr_mask [false, false, false, false] (zt_Gr_shape_33 hG hR hAp h)
    · have h := h.2 hc
      refine zr_iload_n hG zd_Gr_shape_28 rfl rfl ?_
      refine zr_iconst hG (v := (5 : Int32)) zd_Gr_shape_29 (by decide) ?_
      refine zr_icmp_lt hG 43 zd_Gr_shape_30 (by decide) (fun hc => ?_) (fun hc => ?_)
      · have h := h.1 hc
        refine zr_aload_n hG zd_Gr_shape_43 rfl rfl ?_
        refine zf_Gr_rows hG tk_305 zd_Gr_shape_44 ?_
        refine zr_iload_n hG zd_Gr_shape_47 rfl rfl ?_
        refine zr_iload_n hG zd_Gr_shape_48 rfl rfl ?_
        refine zr_callV hG zq_F0 (As := [.int r51, .int a2]) (rest := []) (zm_Shapes_tell (zc_l x) w hAp g o h) 27 rfl rfl rfl zg_Gr_178 zdd_Shapes_tell ⟨rfl, rfl, by decide, by decide⟩ ⟨by decide, by decide⟩ rfl (Nat.le_of_ble_eq_true rfl) zd_Gr_shape_49 rfl ?_
        rintro _ _ ⟨r52, z52, rfl, rfl, h⟩
        exact zr_iret hG hR zd_Gr_shape_52 ⟨_, _, rfl, rfl, h⟩
      · have h := h.2 hc
        exact zr_mask [false, false, false, false] (zt_Gr_shape_33 hG hR hAp h)
  · have h := h.2 hc
    exact h.elim
def zw_Mo_thrown (z : zS) (post : Int32 → zS → Prop) : Prop := post (z.1 4) z
set_option maxHeartbeats 4000000 in
set_option maxRecDepth 100000 in
theorem zm_Mo_thrown (l : Launch) (w : zW) (hAp : zq_Ap w) (g : zS) (o : Nat → Int64) {z : zS} {post : Int32 → zS → Prop} (h : zw_Mo_thrown z post) : zq_M l w zq_0 zy_Mo_thrown zc_Mo_thrown 1 (some .int) (zq_rm 0 0) [.ref (w.2.1 28)] (g, z, o) (zq_Ni g o post) := by
  refine zq_mk_M (by decide) (by simp [Value.category]) (Nat.le_of_ble_eq_true rfl) hAp (fun x hx hG hR => ?_)
  subst hx
  refine zr_aload_n hG zd_Mo_thrown_0 rfl rfl ?_
  refine zf_Mo_code hG tk_767 zd_Mo_thrown_1 ?_
  exact zr_iret hG hR zd_Mo_thrown_4 ⟨_, _, rfl, rfl, h⟩
def zw_Mo_fail (a1 : Int32) (z : zS) (post : Int32 → zS → Prop) : Prop := post (0 : Int32) (zs_s z 4 a1)
set_option maxHeartbeats 4000000 in
set_option maxRecDepth 100000 in
theorem zm_Mo_fail (l : Launch) (w : zW) (hAp : zq_Ap w) (g : zS) (o : Nat → Int64) {a1 : Int32} {z : zS} {post : Int32 → zS → Prop} (h : zw_Mo_fail a1 z post) : zq_M l w (zq_A w) zy_Mo_fail zc_Mo_fail 2 (some .int) (zq_rm 0 0) [.ref (w.2.1 28), .int a1] (g, z, o) (zq_Ni g o post) := by
  refine zq_mk_M (by decide) (by simp [Value.category]) (Nat.le_of_ble_eq_true rfl) hAp (fun x hx hG hR => ?_)
  subst hx
  have hW := zq_wr hR.2.2.1
  refine zr_aload_n hG zd_Mo_fail_0 rfl rfl ?_
  refine zr_iload_n hG zd_Mo_fail_1 rfl rfl ?_
  refine zp_Mo_code hG hW tk_767 zd_Mo_fail_2 ?_
  refine zr_iconst hG (v := (0 : Int32)) zd_Mo_fail_5 (by decide) ?_
  exact zr_iret hG hR zd_Mo_fail_6 ⟨_, _, rfl, rfl, h⟩
def zw_Mo_many (z : zS) (post : Int32 → zS → Prop) : Prop := post (((2 : Int32) * (z.1 0)) * (z.1 1)) z
set_option maxHeartbeats 4000000 in
set_option maxRecDepth 100000 in
theorem zm_Mo_many (l : Launch) (w : zW) (hAp : zq_Ap w) (g : zS) (o : Nat → Int64) {z : zS} {post : Int32 → zS → Prop} (h : zw_Mo_many z post) : zq_M l w zq_0 zy_Mo_many zc_Mo_many 1 (some .int) (zq_rm 0 0) [.ref (w.2.1 28)] (g, z, o) (zq_Ni g o post) := by
  refine zq_mk_M (by decide) (by simp [Value.category]) (Nat.le_of_ble_eq_true rfl) hAp (fun x hx hG hR => ?_)
  subst hx
  refine zr_iconst hG (v := (2 : Int32)) zd_Mo_many_0 (by decide) ?_
  refine zr_aload_n hG zd_Mo_many_1 rfl rfl ?_
  refine zf_Mo_width hG tk_763 zd_Mo_many_2 ?_
  refine zr_imul hG zd_Mo_many_5 ?_
  refine zr_aload_n hG zd_Mo_many_6 rfl rfl ?_
  refine zf_Mo_height hG tk_764 zd_Mo_many_7 ?_
  refine zr_imul hG zd_Mo_many_10 ?_
  exact zr_iret hG hR zd_Mo_many_11 ⟨_, _, rfl, rfl, h⟩
def zw_Mo_isPlace_29 (post : Int32 → zS → Prop) (u0 : Int32) (z : zS) : Prop := (narrow .boolean (.int u0) = .int u0 ∧ post u0 z)
set_option maxHeartbeats 4000000 in
set_option maxRecDepth 100000 in
theorem zt_Mo_isPlace_29 {x : zC} {w : zW} {g : zS} {o : Nat → Int64} {post : Int32 → zS → Prop} (hG : zq_G x w "GridRouterModel" zc_Mo_isPlace 3 (zq_rm 0 0)) (hR : zq_R x w zq_0 (some .boolean) (zq_Ni g o post)) (hAp : zq_Ap w) {u0 : Int32} {z : zS} (h : zw_Mo_isPlace_29 post u0 z) : zq_W x w 0 0 (g, z, o) 29 [none, none, none] [.int u0] := by
  obtain ⟨hn, h⟩ := h
  exact zr_zret hG hR zd_Mo_isPlace_29 hn ⟨_, _, rfl, rfl, h⟩
def zw_Mo_isPlace_28 (post : Int32 → zS → Prop) (z : zS) : Prop := zw_Mo_isPlace_29 post (0 : Int32) z
set_option maxHeartbeats 4000000 in
set_option maxRecDepth 100000 in
theorem zt_Mo_isPlace_28 {x : zC} {w : zW} {g : zS} {o : Nat → Int64} {post : Int32 → zS → Prop} (hG : zq_G x w "GridRouterModel" zc_Mo_isPlace 3 (zq_rm 0 0)) (hR : zq_R x w zq_0 (some .boolean) (zq_Ni g o post)) (hAp : zq_Ap w) {z : zS} (h : zw_Mo_isPlace_28 post z) : zq_W x w 0 0 (g, z, o) 28 [none, none, none] [] := by
  refine zr_iconst hG (v := (0 : Int32)) zd_Mo_isPlace_28 (by decide) ?_
  exact zt_Mo_isPlace_29 hG hR hAp h
def zw_Mo_isPlace (a1 a2 : Int32) (z : zS) (post : Int32 → zS → Prop) : Prop := ((a1 < 0 → zw_Mo_isPlace_28 post z) ∧ (¬ a1 < 0 → (((z.1 0) ≤ a1 → zw_Mo_isPlace_28 post z) ∧ (¬ (z.1 0) ≤ a1 → ((a2 < 0 → zw_Mo_isPlace_28 post z) ∧ (¬ a2 < 0 → (((z.1 1) ≤ a2 → zw_Mo_isPlace_28 post z) ∧ (¬ (z.1 1) ≤ a2 → zw_Mo_isPlace_29 post (1 : Int32) z))))))))
set_option maxHeartbeats 4000000 in
set_option maxRecDepth 100000 in
theorem zm_Mo_isPlace (l : Launch) (w : zW) (hAp : zq_Ap w) (g : zS) (o : Nat → Int64) {a1 a2 : Int32} {z : zS} {post : Int32 → zS → Prop} (h : zw_Mo_isPlace a1 a2 z post) : zq_M l w zq_0 zy_Mo_isPlace zc_Mo_isPlace 3 (some .boolean) (zq_rm 0 0) [.ref (w.2.1 28), .int a1, .int a2] (g, z, o) (zq_Ni g o post) := by
  refine zq_mk_M (by decide) (by simp [Value.category]) (Nat.le_of_ble_eq_true rfl) hAp (fun x hx hG hR => ?_)
  subst hx
  refine zr_iload_n hG zd_Mo_isPlace_0 rfl rfl ?_
  refine zr_if_lt hG 28 zd_Mo_isPlace_1 (by decide) (fun hc => ?_) (fun hc => ?_)
  · have h := h.1 hc
    exact zr_mask [false, false, false] (zt_Mo_isPlace_28 hG hR hAp h)
  · have h := h.2 hc
    refine zr_iload_n hG zd_Mo_isPlace_4 rfl rfl ?_
    refine zr_aload_n hG zd_Mo_isPlace_5 rfl rfl ?_
    refine zf_Mo_width hG tk_763 zd_Mo_isPlace_6 ?_
    refine zr_icmp_ge hG 28 zd_Mo_isPlace_9 (by decide) (fun hc => ?_) (fun hc => ?_)
    · have h := h.1 hc
      exact zr_mask [false, false, false] (zt_Mo_isPlace_28 hG hR hAp h)
    · have h := h.2 hc
      refine zr_iload_n hG zd_Mo_isPlace_12 rfl rfl ?_
      refine zr_if_lt hG 28 zd_Mo_isPlace_13 (by decide) (fun hc => ?_) (fun hc => ?_)
      · have h := h.1 hc
        exact zr_mask [false, false, false] (zt_Mo_isPlace_28 hG hR hAp h)
      · have h := h.2 hc
        refine zr_iload_n hG zd_Mo_isPlace_16 rfl rfl ?_
        refine zr_aload_n hG zd_Mo_isPlace_17 rfl rfl ?_
        refine zf_Mo_height hG tk_764 zd_Mo_isPlace_18 ?_
        refine zr_icmp_ge hG 28 zd_Mo_isPlace_21 (by decide) (fun hc => ?_) (fun hc => ?_)
        · have h := h.1 hc
          exact zr_mask [false, false, false] (zt_Mo_isPlace_28 hG hR hAp h)
        · have h := h.2 hc
          refine zr_iconst hG (v := (1 : Int32)) zd_Mo_isPlace_24 (by decide) ?_
          refine zr_goto hG 29 zd_Mo_isPlace_25 (by decide) ?_
          exact zr_mask [false, false, false] (zt_Mo_isPlace_29 hG hR hAp h)
def zw_Mo_at_37 (post : Int32 → zS → Prop) (u0 : Int32) (z : zS) : Prop := post u0 z
set_option maxHeartbeats 4000000 in
set_option maxRecDepth 100000 in
theorem zt_Mo_at_37 {x : zC} {w : zW} {g : zS} {o : Nat → Int64} {post : Int32 → zS → Prop} (hG : zq_G x w "GridRouterModel" zc_Mo_at 4 (zq_rm 1 22)) (hR : zq_R x w zq_0 (some .int) (zq_Ni g o post)) (hAp : zq_Ap w) {u0 : Int32} {z : zS} (h : zw_Mo_at_37 post u0 z) : zq_W x w 0 0 (g, z, o) 37 [none, none, none, none] [.int u0] := by
  exact zr_iret hG hR zd_Mo_at_37 ⟨_, _, rfl, rfl, h⟩
def zw_Mo_at_36 (post : Int32 → zS → Prop) (z : zS) : Prop := zw_Mo_at_37 post (-1 : Int32) z
set_option maxHeartbeats 4000000 in
set_option maxRecDepth 100000 in
theorem zt_Mo_at_36 {x : zC} {w : zW} {g : zS} {o : Nat → Int64} {post : Int32 → zS → Prop} (hG : zq_G x w "GridRouterModel" zc_Mo_at 4 (zq_rm 1 22)) (hR : zq_R x w zq_0 (some .int) (zq_Ni g o post)) (hAp : zq_Ap w) {z : zS} (h : zw_Mo_at_36 post z) : zq_W x w 0 0 (g, z, o) 36 [none, none, none, none] [] := by
  refine zr_iconst hG (v := (-1 : Int32)) zd_Mo_at_36 (by decide) ?_
  exact zt_Mo_at_37 hG hR hAp h
def zw_Mo_at_18 (post : Int32 → zS → Prop) (v1 v2 v3 : Int32) (z : zS) : Prop := zw_Mo_at_37 post ((((v1 * (z.1 1)) + v3) * (z.1 0)) + v2) z
set_option maxHeartbeats 4000000 in
set_option maxRecDepth 100000 in
theorem zt_Mo_at_18 {x : zC} {w : zW} {g : zS} {o : Nat → Int64} {post : Int32 → zS → Prop} (hG : zq_G x w "GridRouterModel" zc_Mo_at 4 (zq_rm 1 22)) (hR : zq_R x w zq_0 (some .int) (zq_Ni g o post)) (hAp : zq_Ap w) {v1 v2 v3 : Int32} {z : zS} (h : zw_Mo_at_18 post v1 v2 v3 z) : zq_W x w 0 0 (g, z, o) 18 [some (.ref (w.2.1 28)), some (.int v1), some (.int v2), some (.int v3)] [] := by
  refine zr_iload_n hG zd_Mo_at_18 rfl rfl ?_
  refine zr_aload_n hG zd_Mo_at_19 rfl rfl ?_
  refine zf_Mo_height hG tk_764 zd_Mo_at_20 ?_
  refine zr_imul hG zd_Mo_at_23 ?_
  refine zr_iload_n hG zd_Mo_at_24 rfl rfl ?_
  refine zr_iadd hG zd_Mo_at_25 ?_
  refine zr_aload_n hG zd_Mo_at_26 rfl rfl ?_
  refine zf_Mo_width hG tk_763 zd_Mo_at_27 ?_
  refine zr_imul hG zd_Mo_at_30 ?_
  refine zr_iload_n hG zd_Mo_at_31 rfl rfl ?_
  refine zr_iadd hG zd_Mo_at_32 ?_
  refine zr_goto hG 37 zd_Mo_at_33 (by decide) ?_
  exact zr_mask [false, false, false, false] (zt_Mo_at_37 hG hR hAp h)
def zw_Mo_at (a1 a2 a3 : Int32) (z : zS) (post : Int32 → zS → Prop) : Prop := (zw_Mo_isPlace a2 a3 z (fun r55 z55 => ((r55 = 0 → zw_Mo_at_36 post z55) ∧ (¬ r55 = 0 → ((a1 = 0 → zw_Mo_at_18 post a1 a2 a3 z55) ∧ (¬ a1 = 0 → ((¬ a1 = (1 : Int32) → zw_Mo_at_36 post z55) ∧ (a1 = (1 : Int32) → zw_Mo_at_18 post a1 a2 a3 z55))))))))
set_option maxHeartbeats 4000000 in
set_option maxRecDepth 100000 in
theorem zm_Mo_at (l : Launch) (w : zW) (hAp : zq_Ap w) (g : zS) (o : Nat → Int64) {a1 a2 a3 : Int32} {z : zS} {post : Int32 → zS → Prop} (h : zw_Mo_at a1 a2 a3 z post) : zq_M l w zq_0 zy_Mo_at zc_Mo_at 4 (some .int) (zq_rm 1 22) [.ref (w.2.1 28), .int a1, .int a2, .int a3] (g, z, o) (zq_Ni g o post) := by
  refine zq_mk_M (by decide) (by simp [Value.category]) (Nat.le_of_ble_eq_true rfl) hAp (fun x hx hG hR => ?_)
  subst hx
  have h : (zw_Mo_isPlace a2 a3 z (fun r55 z55 => ((r55 = 0 → zw_Mo_at_36 post z55) ∧ (¬ r55 = 0 → ((a1 = 0 → zw_Mo_at_18 post a1 a2 a3 z55) ∧ (¬ a1 = 0 → ((¬ a1 = (1 : Int32) → zw_Mo_at_36 post z55) ∧ (a1 = (1 : Int32) → zw_Mo_at_18 post a1 a2 a3 z55)))))))) := h
  refine zr_aload_n hG zd_Mo_at_0 rfl rfl ?_
  refine zr_iload_n hG zd_Mo_at_1 rfl rfl ?_
  refine zr_iload_n hG zd_Mo_at_2 rfl rfl ?_
  refine zr_callV hG zq_F0 (As := [.int a2, .int a3]) (rest := []) (zm_Mo_isPlace (zc_l x) w hAp g o h) 28 rfl rfl rfl zg_Mo_61 zdd_Mo_isPlace ⟨rfl, rfl, by decide, by decide⟩ ⟨by decide, by decide⟩ rfl (Nat.le_of_ble_eq_true rfl) zd_Mo_at_3 rfl ?_
  rintro _ _ ⟨r55, z55, rfl, rfl, h⟩
  refine zr_if_eq hG 36 zd_Mo_at_6 (by decide) (fun hc => ?_) (fun hc => ?_)
  · have h := h.1 hc
    exact zr_mask [false, false, false, false] (zt_Mo_at_36 hG hR hAp h)
  · have h := h.2 hc
    refine zr_iload_n hG zd_Mo_at_9 rfl rfl ?_
    refine zr_if_eq hG 18 zd_Mo_at_10 (by decide) (fun hc => ?_) (fun hc => ?_)
    · have h := h.1 hc
      exact zt_Mo_at_18 hG hR hAp h
    · have h := h.2 hc
      refine zr_iload_n hG zd_Mo_at_13 rfl rfl ?_
      refine zr_iconst hG (v := (1 : Int32)) zd_Mo_at_14 (by decide) ?_
      refine zr_icmp_ne hG 36 zd_Mo_at_15 (by decide) (fun hc => ?_) (fun hc => ?_)
      · have h := h.1 hc
        exact zr_mask [false, false, false, false] (zt_Mo_at_36 hG hR hAp h)
      · have h := h.2 hc
        exact zt_Mo_at_18 hG hR hAp h
def zw_Mo_side_101 (post : Int32 → zS → Prop) (u0 u1 u2 : Int32) (z : zS) : Prop := (zw_Mo_at u2 u1 u0 z (fun r56 z56 => post r56 z56))
set_option maxHeartbeats 4000000 in
set_option maxRecDepth 100000 in
theorem zt_Mo_side_101 {x : zC} {w : zW} {g : zS} {o : Nat → Int64} {post : Int32 → zS → Prop} (hG : zq_G x w "GridRouterModel" zc_Mo_side 6 (zq_rm 2 45)) (hR : zq_R x w zq_0 (some .int) (zq_Ni g o post)) (hAp : zq_Ap w) {u0 u1 u2 : Int32} {z : zS} (h : zw_Mo_side_101 post u0 u1 u2 z) : zq_W x w 0 0 (g, z, o) 101 [none, none, none, none, none, none] [.int u0, .int u1, .int u2, .ref (w.2.1 28)] := by
  have h : (zw_Mo_at u2 u1 u0 z (fun r56 z56 => post r56 z56)) := h
  refine zr_callV hG zq_F0 (As := [.int u2, .int u1, .int u0]) (rest := []) (zm_Mo_at (zc_l x) w hAp g o h) 28 rfl rfl rfl zg_Mo_65 zdd_Mo_at ⟨rfl, rfl, by decide, by decide⟩ ⟨by decide, by decide⟩ rfl (Nat.le_of_ble_eq_true rfl) zd_Mo_side_101 rfl ?_
  rintro _ _ ⟨r56, z56, rfl, rfl, h⟩
  exact zr_iret hG hR zd_Mo_side_104 ⟨_, _, rfl, rfl, h⟩
def zw_Mo_side_75 (post : Int32 → zS → Prop) (v2 v4 u0 u1 : Int32) (z : zS) : Prop := ((¬ v2 = (2 : Int32) → ((¬ v2 = (3 : Int32) → zw_Mo_side_101 post v4 u0 u1 z) ∧ (v2 = (3 : Int32) → zw_Mo_side_101 post (v4 + (1 : Int32)) u0 u1 z))) ∧ (v2 = (2 : Int32) → zw_Mo_side_101 post (v4 - (1 : Int32)) u0 u1 z))
set_option maxHeartbeats 4000000 in
set_option maxRecDepth 100000 in
theorem zt_Mo_side_75 {x : zC} {w : zW} {g : zS} {o : Nat → Int64} {post : Int32 → zS → Prop} (hG : zq_G x w "GridRouterModel" zc_Mo_side 6 (zq_rm 2 45)) (hR : zq_R x w zq_0 (some .int) (zq_Ni g o post)) (hAp : zq_Ap w) {v2 v4 u0 u1 : Int32} {z : zS} (h : zw_Mo_side_75 post v2 v4 u0 u1 z) : zq_W x w 0 0 (g, z, o) 75 [none, none, some (.int v2), none, some (.int v4), none] [.int u0, .int u1, .ref (w.2.1 28)] := by
  refine zr_iload_n hG zd_Mo_side_75 rfl rfl ?_
  refine zr_iconst hG (v := (2 : Int32)) zd_Mo_side_76 (by decide) ?_
  refine zr_icmp_ne hG 87 zd_Mo_side_77 (by decide) (fun hc => ?_) (fun hc => ?_)
  · have h := h.1 hc
    refine zr_iload_n hG zd_Mo_side_87 rfl rfl ?_
    refine zr_iconst hG (v := (3 : Int32)) zd_Mo_side_88 (by decide) ?_
    refine zr_icmp_ne hG 99 zd_Mo_side_89 (by decide) (fun hc => ?_) (fun hc => ?_)
    · have h := h.1 hc
      refine zr_iload hG zd_Mo_side_99 rfl ?_
      exact zr_mask [false, false, false, false, false, false] (zt_Mo_side_101 hG hR hAp h)
    · have h := h.2 hc
      refine zr_iload hG zd_Mo_side_92 rfl ?_
      refine zr_iconst hG (v := (1 : Int32)) zd_Mo_side_94 (by decide) ?_
      refine zr_iadd hG zd_Mo_side_95 ?_
      refine zr_goto hG 101 zd_Mo_side_96 (by decide) ?_
      exact zr_mask [false, false, false, false, false, false] (zt_Mo_side_101 hG hR hAp h)
  · have h := h.2 hc
    refine zr_iload hG zd_Mo_side_80 rfl ?_
    refine zr_iconst hG (v := (1 : Int32)) zd_Mo_side_82 (by decide) ?_
    refine zr_isub hG zd_Mo_side_83 ?_
    refine zr_goto hG 101 zd_Mo_side_84 (by decide) ?_
    exact zr_mask [false, false, false, false, false, false] (zt_Mo_side_101 hG hR hAp h)
def zw_Mo_side (a1 a2 : Int32) (z : zS) (post : Int32 → zS → Prop) : Prop := ¬ (z.1 0) = 0 ∧ ¬ (z.1 0) = 0 ∧ ¬ (z.1 1) = 0 ∧ ¬ ((z.1 0) * (z.1 1)) = 0 ∧ ((¬ a2 = (4 : Int32) → ((¬ a2 = 0 → ((¬ a2 = (1 : Int32) → zw_Mo_side_75 post a2 ((a1 / (z.1 0)) - (a1 / (z.1 0)) / (z.1 1) * (z.1 1)) (a1 - a1 / (z.1 0) * (z.1 0)) (a1 / ((z.1 0) * (z.1 1))) z) ∧ (a2 = (1 : Int32) → zw_Mo_side_75 post a2 ((a1 / (z.1 0)) - (a1 / (z.1 0)) / (z.1 1) * (z.1 1)) ((a1 - a1 / (z.1 0) * (z.1 0)) + (1 : Int32)) (a1 / ((z.1 0) * (z.1 1))) z))) ∧ (a2 = 0 → zw_Mo_side_75 post a2 ((a1 / (z.1 0)) - (a1 / (z.1 0)) / (z.1 1) * (z.1 1)) ((a1 - a1 / (z.1 0) * (z.1 0)) - (1 : Int32)) (a1 / ((z.1 0) * (z.1 1))) z))) ∧ (a2 = (4 : Int32) → (zw_Mo_at ((1 : Int32) - (a1 / ((z.1 0) * (z.1 1)))) (a1 - a1 / (z.1 0) * (z.1 0)) ((a1 / (z.1 0)) - (a1 / (z.1 0)) / (z.1 1) * (z.1 1)) z (fun r57 z57 => post r57 z57))))
set_option maxHeartbeats 4000000 in
set_option maxRecDepth 100000 in
theorem zm_Mo_side (l : Launch) (w : zW) (hAp : zq_Ap w) (g : zS) (o : Nat → Int64) {a1 a2 : Int32} {z : zS} {post : Int32 → zS → Prop} (h : zw_Mo_side a1 a2 z post) : zq_M l w zq_0 zy_Mo_side zc_Mo_side 6 (some .int) (zq_rm 2 45) [.ref (w.2.1 28), .int a1, .int a2] (g, z, o) (zq_Ni g o post) := by
  refine zq_mk_M (by decide) (by simp [Value.category]) (Nat.le_of_ble_eq_true rfl) hAp (fun x hx hG hR => ?_)
  subst hx
  refine zr_iload_n hG zd_Mo_side_0 rfl rfl ?_
  refine zr_aload_n hG zd_Mo_side_1 rfl rfl ?_
  refine zf_Mo_width hG tk_763 zd_Mo_side_2 ?_
  obtain ⟨hi, h⟩ := h
  refine zr_irem hG zd_Mo_side_5 hi ?_
  refine zr_istore_n hG [some (.ref (w.2.1 28)), some (.int a1), some (.int a2), some (.int (a1 - a1 / (z.1 0) * (z.1 0))), none, none] zd_Mo_side_6 rfl (Nat.le_of_ble_eq_true rfl) rfl ?_
  refine zr_iload_n hG zd_Mo_side_7 rfl rfl ?_
  refine zr_aload_n hG zd_Mo_side_8 rfl rfl ?_
  refine zf_Mo_width hG tk_763 zd_Mo_side_9 ?_
  obtain ⟨hi, h⟩ := h
  refine zr_idiv hG zd_Mo_side_12 hi ?_
  refine zr_aload_n hG zd_Mo_side_13 rfl rfl ?_
  refine zf_Mo_height hG tk_764 zd_Mo_side_14 ?_
  obtain ⟨hi, h⟩ := h
  refine zr_irem hG zd_Mo_side_17 hi ?_
  refine zr_istore hG [some (.ref (w.2.1 28)), some (.int a1), some (.int a2), some (.int (a1 - a1 / (z.1 0) * (z.1 0))), some (.int ((a1 / (z.1 0)) - (a1 / (z.1 0)) / (z.1 1) * (z.1 1))), none] zd_Mo_side_18 (Nat.le_of_ble_eq_true rfl) rfl ?_
  refine zr_iload_n hG zd_Mo_side_20 rfl rfl ?_
  refine zr_aload_n hG zd_Mo_side_21 rfl rfl ?_
  refine zf_Mo_width hG tk_763 zd_Mo_side_22 ?_
  refine zr_aload_n hG zd_Mo_side_25 rfl rfl ?_
  refine zf_Mo_height hG tk_764 zd_Mo_side_26 ?_
  refine zr_imul hG zd_Mo_side_29 ?_
  obtain ⟨hi, h⟩ := h
  refine zr_idiv hG zd_Mo_side_30 hi ?_
  refine zr_istore hG [some (.ref (w.2.1 28)), some (.int a1), some (.int a2), some (.int (a1 - a1 / (z.1 0) * (z.1 0))), some (.int ((a1 / (z.1 0)) - (a1 / (z.1 0)) / (z.1 1) * (z.1 1))), some (.int (a1 / ((z.1 0) * (z.1 1))))] zd_Mo_side_31 (Nat.le_of_ble_eq_true rfl) rfl ?_
  refine zr_iload_n hG zd_Mo_side_33 rfl rfl ?_
  refine zr_iconst hG (v := (4 : Int32)) zd_Mo_side_34 (by decide) ?_
  refine zr_icmp_ne hG 50 zd_Mo_side_35 (by decide) (fun hc => ?_) (fun hc => ?_)
  · have h := h.1 hc
    refine zr_aload_n hG zd_Mo_side_50 rfl rfl ?_
    refine zr_iload hG zd_Mo_side_51 rfl ?_
    refine zr_iload_n hG zd_Mo_side_53 rfl rfl ?_
    refine zr_if_ne hG 63 zd_Mo_side_54 (by decide) (fun hc => ?_) (fun hc => ?_)
    · have h := h.1 hc
      refine zr_iload_n hG zd_Mo_side_63 rfl rfl ?_
      refine zr_iconst hG (v := (1 : Int32)) zd_Mo_side_64 (by decide) ?_
      refine zr_icmp_ne hG 74 zd_Mo_side_65 (by decide) (fun hc => ?_) (fun hc => ?_)
      · have h := h.1 hc
        refine zr_iload_n hG zd_Mo_side_74 rfl rfl ?_
        exact zr_mask [false, false, true, false, true, false] (zt_Mo_side_75 hG hR hAp h)
      · have h := h.2 hc
        refine zr_iload_n hG zd_Mo_side_68 rfl rfl ?_
        refine zr_iconst hG (v := (1 : Int32)) zd_Mo_side_69 (by decide) ?_
        refine zr_iadd hG zd_Mo_side_70 ?_
        refine zr_goto hG 75 zd_Mo_side_71 (by decide) ?_
        exact zr_mask [false, false, true, false, true, false] (zt_Mo_side_75 hG hR hAp h)
    · have h := h.2 hc
      refine zr_iload_n hG zd_Mo_side_57 rfl rfl ?_
      refine zr_iconst hG (v := (1 : Int32)) zd_Mo_side_58 (by decide) ?_
      refine zr_isub hG zd_Mo_side_59 ?_
      refine zr_goto hG 75 zd_Mo_side_60 (by decide) ?_
      exact zr_mask [false, false, true, false, true, false] (zt_Mo_side_75 hG hR hAp h)
  · have h := h.2 hc
    refine zr_aload_n hG zd_Mo_side_38 rfl rfl ?_
    refine zr_iconst hG (v := (1 : Int32)) zd_Mo_side_39 (by decide) ?_
    refine zr_iload hG zd_Mo_side_40 rfl ?_
    refine zr_isub hG zd_Mo_side_42 ?_
    refine zr_iload_n hG zd_Mo_side_43 rfl rfl ?_
    refine zr_iload hG zd_Mo_side_44 rfl ?_
    refine zr_callV hG zq_F0 (As := [.int ((1 : Int32) - (a1 / ((z.1 0) * (z.1 1)))), .int (a1 - a1 / (z.1 0) * (z.1 0)), .int ((a1 / (z.1 0)) - (a1 / (z.1 0)) / (z.1 1) * (z.1 1))]) (rest := []) (zm_Mo_at (zc_l x) w hAp g o h) 28 rfl rfl rfl zg_Mo_65 zdd_Mo_at ⟨rfl, rfl, by decide, by decide⟩ ⟨by decide, by decide⟩ rfl (Nat.le_of_ble_eq_true rfl) zd_Mo_side_46 rfl ?_
    rintro _ _ ⟨r57, z57, rfl, rfl, h⟩
    exact zr_iret hG hR zd_Mo_side_49 ⟨_, _, rfl, rfl, h⟩
def zw_Mo_placeOf (a1 : Int32) (z : zS) (post : Int32 → zS → Prop) : Prop := ¬ ((z.1 0) * (z.1 1)) = 0 ∧ post (a1 - a1 / ((z.1 0) * (z.1 1)) * ((z.1 0) * (z.1 1))) z
set_option maxHeartbeats 4000000 in
set_option maxRecDepth 100000 in
theorem zm_Mo_placeOf (l : Launch) (w : zW) (hAp : zq_Ap w) (g : zS) (o : Nat → Int64) {a1 : Int32} {z : zS} {post : Int32 → zS → Prop} (h : zw_Mo_placeOf a1 z post) : zq_M l w zq_0 zy_Mo_placeOf zc_Mo_placeOf 2 (some .int) (zq_rm 0 0) [.ref (w.2.1 28), .int a1] (g, z, o) (zq_Ni g o post) := by
  refine zq_mk_M (by decide) (by simp [Value.category]) (Nat.le_of_ble_eq_true rfl) hAp (fun x hx hG hR => ?_)
  subst hx
  refine zr_iload_n hG zd_Mo_placeOf_0 rfl rfl ?_
  refine zr_aload_n hG zd_Mo_placeOf_1 rfl rfl ?_
  refine zf_Mo_width hG tk_763 zd_Mo_placeOf_2 ?_
  refine zr_aload_n hG zd_Mo_placeOf_5 rfl rfl ?_
  refine zf_Mo_height hG tk_764 zd_Mo_placeOf_6 ?_
  refine zr_imul hG zd_Mo_placeOf_9 ?_
  obtain ⟨hi, h⟩ := h
  refine zr_irem hG zd_Mo_placeOf_10 hi ?_
  exact zr_iret hG hR zd_Mo_placeOf_11 ⟨_, _, rfl, rfl, h⟩
def zw_Mo_isOther_15 (post : Int32 → zS → Prop) (u0 : Int32) (z : zS) : Prop := (narrow .boolean (.int u0) = .int u0 ∧ post u0 z)
set_option maxHeartbeats 4000000 in
set_option maxRecDepth 100000 in
theorem zt_Mo_isOther_15 {x : zC} {w : zW} {g : zS} {o : Nat → Int64} {post : Int32 → zS → Prop} (hG : zq_G x w "GridRouterModel" zc_Mo_isOther 2 (zq_rm 0 0)) (hR : zq_R x w zq_0 (some .boolean) (zq_Ni g o post)) (hAp : zq_Ap w) {u0 : Int32} {z : zS} (h : zw_Mo_isOther_15 post u0 z) : zq_W x w 0 0 (g, z, o) 15 [none, none] [.int u0] := by
  obtain ⟨hn, h⟩ := h
  exact zr_zret hG hR zd_Mo_isOther_15 hn ⟨_, _, rfl, rfl, h⟩
def zw_Mo_isOther_14 (post : Int32 → zS → Prop) (z : zS) : Prop := zw_Mo_isOther_15 post (0 : Int32) z
set_option maxHeartbeats 4000000 in
set_option maxRecDepth 100000 in
theorem zt_Mo_isOther_14 {x : zC} {w : zW} {g : zS} {o : Nat → Int64} {post : Int32 → zS → Prop} (hG : zq_G x w "GridRouterModel" zc_Mo_isOther 2 (zq_rm 0 0)) (hR : zq_R x w zq_0 (some .boolean) (zq_Ni g o post)) (hAp : zq_Ap w) {z : zS} (h : zw_Mo_isOther_14 post z) : zq_W x w 0 0 (g, z, o) 14 [none, none] [] := by
  refine zr_iconst hG (v := (0 : Int32)) zd_Mo_isOther_14 (by decide) ?_
  exact zt_Mo_isOther_15 hG hR hAp h
def zw_Mo_isOther (a0 a1 : Int32) (z : zS) (post : Int32 → zS → Prop) : Prop := ((a0 = (-1 : Int32) → zw_Mo_isOther_14 post z) ∧ (¬ a0 = (-1 : Int32) → ((a0 = a1 → zw_Mo_isOther_14 post z) ∧ (¬ a0 = a1 → zw_Mo_isOther_15 post (1 : Int32) z))))
set_option maxHeartbeats 4000000 in
set_option maxRecDepth 100000 in
theorem zm_Mo_isOther (l : Launch) (w : zW) (hAp : zq_Ap w) (g : zS) (o : Nat → Int64) {a0 a1 : Int32} {z : zS} {post : Int32 → zS → Prop} (h : zw_Mo_isOther a0 a1 z post) : zq_M l w zq_0 zy_Mo_isOther zc_Mo_isOther 2 (some .boolean) (zq_rm 0 0) [.int a0, .int a1] (g, z, o) (zq_Ni g o post) := by
  refine zq_mk_M (by decide) (by simp [Value.category]) (Nat.le_of_ble_eq_true rfl) hAp (fun x hx hG hR => ?_)
  subst hx
  refine zr_iload_n hG zd_Mo_isOther_0 rfl rfl ?_
  refine zr_iconst hG (v := (-1 : Int32)) zd_Mo_isOther_1 (by decide) ?_
  refine zr_icmp_eq hG 14 zd_Mo_isOther_2 (by decide) (fun hc => ?_) (fun hc => ?_)
  · have h := h.1 hc
    exact zr_mask [false, false] (zt_Mo_isOther_14 hG hR hAp h)
  · have h := h.2 hc
    refine zr_iload_n hG zd_Mo_isOther_5 rfl rfl ?_
    refine zr_iload_n hG zd_Mo_isOther_6 rfl rfl ?_
    refine zr_icmp_eq hG 14 zd_Mo_isOther_7 (by decide) (fun hc => ?_) (fun hc => ?_)
    · have h := h.1 hc
      exact zr_mask [false, false] (zt_Mo_isOther_14 hG hR hAp h)
    · have h := h.2 hc
      refine zr_iconst hG (v := (1 : Int32)) zd_Mo_isOther_10 (by decide) ?_
      refine zr_goto hG 15 zd_Mo_isOther_11 (by decide) ?_
      exact zr_mask [false, false] (zt_Mo_isOther_15 hG hR hAp h)
def zw_Mo_isBarred_89 (post : Int32 → zS → Prop) (v3 : Int32) (z : zS) : Prop := (narrow .boolean (.int v3) = .int v3 ∧ post v3 z)
set_option maxHeartbeats 4000000 in
set_option maxRecDepth 100000 in
theorem zt_Mo_isBarred_89 {x : zC} {w : zW} {g : zS} {o : Nat → Int64} {post : Int32 → zS → Prop} (hG : zq_G x w "GridRouterModel" zc_Mo_isBarred 6 (zq_rm 3 70)) (hR : zq_R x w zq_0 (some .boolean) (zq_Ni g o post)) (hAp : zq_Ap w) {v3 : Int32} {z : zS} (h : zw_Mo_isBarred_89 post v3 z) : zq_W x w 0 0 (g, z, o) 89 [none, none, none, some (.int v3), none, none] [] := by
  refine zr_iload_n hG zd_Mo_isBarred_89 rfl rfl ?_
  obtain ⟨hn, h⟩ := h
  exact zr_zret hG hR zd_Mo_isBarred_90 hn ⟨_, _, rfl, rfl, h⟩
def zw_Mo_isBarred_82 (post : Int32 → zS → Prop) (k31 : Int32 × Int32 × Int32 × Int32 × zS → Prop) (v1 v2 v4 u0 : Int32) (z : zS) : Prop := k31 (v1, v2, u0, (v4 + (1 : Int32)), z)
set_option maxHeartbeats 4000000 in
set_option maxRecDepth 100000 in
theorem zt_Mo_isBarred_82 {x : zC} {w : zW} {g : zS} {o : Nat → Int64} {post : Int32 → zS → Prop} (hG : zq_G x w "GridRouterModel" zc_Mo_isBarred 6 (zq_rm 3 70)) (hR : zq_R x w zq_0 (some .boolean) (zq_Ni g o post)) (hAp : zq_Ap w) {k31 : Int32 × Int32 × Int32 × Int32 × zS → Prop} (hk31 : ∀ b : Int32 × Int32 × Int32 × Int32 × zS, k31 b → zq_W x w 0 0 (g, b.2.2.2.2, o) 31 [some (.ref (w.2.1 28)), some (.int (b.1)), some (.int (b.2.1)), some (.int (b.2.2.1)), some (.int (b.2.2.2.1)), none] []) {v1 v2 v4 u0 : Int32} {z : zS} (h : zw_Mo_isBarred_82 post k31 v1 v2 v4 u0 z) : zq_W x w 0 0 (g, z, o) 82 [some (.ref (w.2.1 28)), some (.int v1), some (.int v2), none, some (.int v4), none] [.int u0] := by
  refine zr_istore_n hG [some (.ref (w.2.1 28)), some (.int v1), some (.int v2), some (.int u0), some (.int v4), none] zd_Mo_isBarred_82 rfl (Nat.le_of_ble_eq_true rfl) rfl ?_
  refine zr_iinc hG (u := (1 : Int32)) [some (.ref (w.2.1 28)), some (.int v1), some (.int v2), some (.int u0), some (.int (v4 + (1 : Int32))), none] zd_Mo_isBarred_83 rfl (by decide) (Nat.le_of_ble_eq_true rfl) rfl ?_
  refine zr_goto hG 31 zd_Mo_isBarred_86 (by decide) ?_
  have h := hk31 _ h
  exact h
def zw_Mo_isBarred_81 (post : Int32 → zS → Prop) (k31 : Int32 × Int32 × Int32 × Int32 × zS → Prop) (v1 v2 v4 : Int32) (z : zS) : Prop := zw_Mo_isBarred_82 post k31 v1 v2 v4 (0 : Int32) z
set_option maxHeartbeats 4000000 in
set_option maxRecDepth 100000 in
theorem zt_Mo_isBarred_81 {x : zC} {w : zW} {g : zS} {o : Nat → Int64} {post : Int32 → zS → Prop} (hG : zq_G x w "GridRouterModel" zc_Mo_isBarred 6 (zq_rm 3 70)) (hR : zq_R x w zq_0 (some .boolean) (zq_Ni g o post)) (hAp : zq_Ap w) {k31 : Int32 × Int32 × Int32 × Int32 × zS → Prop} (hk31 : ∀ b : Int32 × Int32 × Int32 × Int32 × zS, k31 b → zq_W x w 0 0 (g, b.2.2.2.2, o) 31 [some (.ref (w.2.1 28)), some (.int (b.1)), some (.int (b.2.1)), some (.int (b.2.2.1)), some (.int (b.2.2.2.1)), none] []) {v1 v2 v4 : Int32} {z : zS} (h : zw_Mo_isBarred_81 post k31 v1 v2 v4 z) : zq_W x w 0 0 (g, z, o) 81 [some (.ref (w.2.1 28)), some (.int v1), some (.int v2), none, some (.int v4), none] [] := by
  refine zr_iconst hG (v := (0 : Int32)) zd_Mo_isBarred_81 (by decide) ?_
  exact zt_Mo_isBarred_82 hG hR hAp hk31 h
def zw_Mo_isBarred_77 (post : Int32 → zS → Prop) (k31 : Int32 × Int32 × Int32 × Int32 × zS → Prop) (v1 v2 v4 : Int32) (z : zS) : Prop := zw_Mo_isBarred_82 post k31 v1 v2 v4 (1 : Int32) z
set_option maxHeartbeats 4000000 in
set_option maxRecDepth 100000 in
theorem zt_Mo_isBarred_77 {x : zC} {w : zW} {g : zS} {o : Nat → Int64} {post : Int32 → zS → Prop} (hG : zq_G x w "GridRouterModel" zc_Mo_isBarred 6 (zq_rm 3 70)) (hR : zq_R x w zq_0 (some .boolean) (zq_Ni g o post)) (hAp : zq_Ap w) {k31 : Int32 × Int32 × Int32 × Int32 × zS → Prop} (hk31 : ∀ b : Int32 × Int32 × Int32 × Int32 × zS, k31 b → zq_W x w 0 0 (g, b.2.2.2.2, o) 31 [some (.ref (w.2.1 28)), some (.int (b.1)), some (.int (b.2.1)), some (.int (b.2.2.1)), some (.int (b.2.2.2.1)), none] []) {v1 v2 v4 : Int32} {z : zS} (h : zw_Mo_isBarred_77 post k31 v1 v2 v4 z) : zq_W x w 0 0 (g, z, o) 77 [some (.ref (w.2.1 28)), some (.int v1), some (.int v2), none, some (.int v4), none] [] := by
  refine zr_iconst hG (v := (1 : Int32)) zd_Mo_isBarred_77 (by decide) ?_
  refine zr_goto hG 82 zd_Mo_isBarred_78 (by decide) ?_
  exact zt_Mo_isBarred_82 hG hR hAp hk31 h
def zw_Mo_isBarred_31 (post : Int32 → zS → Prop) (k31 : Int32 × Int32 × Int32 × Int32 × zS → Prop) : Int32 × Int32 × Int32 × Int32 × zS → Prop := fun b => match b with
  | (v1, v2, v3, v4, z) => (((4 : Int32) ≤ v4 → zw_Mo_isBarred_89 post v3 z) ∧ (¬ (4 : Int32) ≤ v4 → (((z.1 3) = 0 → zw_Mo_isBarred_89 post v3 z) ∧ (¬ (z.1 3) = 0 → (zw_Mo_side v1 v4 z (fun r58 z58 => ((¬ v3 = 0 → zw_Mo_isBarred_77 post k31 v1 v2 v4 z58) ∧ (v3 = 0 → ((r58 = (-1 : Int32) → zw_Mo_isBarred_81 post k31 v1 v2 v4 z58) ∧ (¬ r58 = (-1 : Int32) → vp_in r58 162 ∧ (zw_Mo_isOther (z58.2 1 r58.toNatClampNeg) v2 z58 (fun r59 z59 => ((r59 = 0 → zw_Mo_isBarred_81 post k31 v1 v2 v4 z59) ∧ (¬ r59 = 0 → zw_Mo_isBarred_77 post k31 v1 v2 v4 z59))))))))))))))
set_option maxHeartbeats 4000000 in
set_option maxRecDepth 100000 in
theorem zt_Mo_isBarred_31 {x : zC} {w : zW} {g : zS} {o : Nat → Int64} {post : Int32 → zS → Prop} (hG : zq_G x w "GridRouterModel" zc_Mo_isBarred 6 (zq_rm 3 70)) (hR : zq_R x w zq_0 (some .boolean) (zq_Ni g o post)) (hAp : zq_Ap w) {v1 v2 v3 v4 : Int32} {z : zS} (h : zq_Lp (zw_Mo_isBarred_31 post) (v1, v2, v3, v4, z)) : zq_W x w 0 0 (g, z, o) 31 [some (.ref (w.2.1 28)), some (.int v1), some (.int v2), some (.int v3), some (.int v4), none] [] := by
  refine zq_Lp_W (WW := fun b => zq_W x w 0 0 (g, b.2.2.2.2, o) 31 [some (.ref (w.2.1 28)), some (.int (b.1)), some (.int (b.2.1)), some (.int (b.2.2.1)), some (.int (b.2.2.2.1)), none] []) (fun k31 hk31 b h => ?_) h
  obtain ⟨v1, v2, v3, v4, z⟩ := b
  show zq_W x w 0 0 (g, z, o) 31 [some (.ref (w.2.1 28)), some (.int v1), some (.int v2), some (.int v3), some (.int v4), none] []
  refine zr_iload hG zd_Mo_isBarred_31 rfl ?_
  refine zr_iconst hG (v := (4 : Int32)) zd_Mo_isBarred_33 (by decide) ?_
  refine zr_icmp_ge hG 89 zd_Mo_isBarred_34 (by decide) (fun hc => ?_) (fun hc => ?_)
  · have h := h.1 hc
    exact zr_mask [false, false, false, true, false, false] (zt_Mo_isBarred_89 hG hR hAp h)
  · have h := h.2 hc
    refine zr_aload_n hG zd_Mo_isBarred_37 rfl rfl ?_
    refine zf_Mo_wide hG tk_766 zd_Mo_isBarred_38 ?_
    refine zr_if_eq hG 89 zd_Mo_isBarred_41 (by decide) (fun hc => ?_) (fun hc => ?_)
    · have h := h.1 hc
      exact zr_mask [false, false, false, true, false, false] (zt_Mo_isBarred_89 hG hR hAp h)
    · have h := h.2 hc
      refine zr_aload_n hG zd_Mo_isBarred_44 rfl rfl ?_
      refine zr_iload_n hG zd_Mo_isBarred_45 rfl rfl ?_
      refine zr_iload hG zd_Mo_isBarred_46 rfl ?_
      refine zr_callV hG zq_F0 (As := [.int v1, .int v4]) (rest := []) (zm_Mo_side (zc_l x) w hAp g o h) 28 rfl rfl rfl zg_Mo_72 zdd_Mo_side ⟨rfl, rfl, by decide, by decide⟩ ⟨by decide, by decide⟩ rfl (Nat.le_of_ble_eq_true rfl) zd_Mo_isBarred_48 rfl ?_
      rintro _ _ ⟨r58, z58, rfl, rfl, h⟩
      refine zr_istore hG [some (.ref (w.2.1 28)), some (.int v1), some (.int v2), some (.int v3), some (.int v4), some (.int r58)] zd_Mo_isBarred_51 (Nat.le_of_ble_eq_true rfl) rfl ?_
      refine zr_iload_n hG zd_Mo_isBarred_53 rfl rfl ?_
      refine zr_if_ne hG 77 zd_Mo_isBarred_54 (by decide) (fun hc => ?_) (fun hc => ?_)
      · have h := h.1 hc
        exact zr_mask [true, true, true, false, true, false] (zt_Mo_isBarred_77 hG hR hAp hk31 h)
      · have h := h.2 hc
        refine zr_iload hG zd_Mo_isBarred_57 rfl ?_
        refine zr_iconst hG (v := (-1 : Int32)) zd_Mo_isBarred_59 (by decide) ?_
        refine zr_icmp_eq hG 81 zd_Mo_isBarred_60 (by decide) (fun hc => ?_) (fun hc => ?_)
        · have h := h.1 hc
          exact zr_mask [true, true, true, false, true, false] (zt_Mo_isBarred_81 hG hR hAp hk31 h)
        · have h := h.2 hc
          refine zr_aload_n hG zd_Mo_isBarred_63 rfl rfl ?_
          refine zf_Mo_pin hG tk_769 zd_Mo_isBarred_64 ?_
          refine zr_iload hG zd_Mo_isBarred_67 rfl ?_
          obtain ⟨hi, h⟩ := h
          refine zl_30 hG hi zd_Mo_isBarred_69 ?_
          refine zr_iload_n hG zd_Mo_isBarred_70 rfl rfl ?_
          refine zr_callS hG zq_F0 (As := [.int (z58.2 1 r58.toNatClampNeg), .int v2]) (rest := []) (zm_Mo_isOther (zc_l x) w hAp g o h) rfl zg_Mo_69 zdd_Mo_isOther ⟨rfl, rfl, by decide, by decide⟩ ⟨by decide, by decide⟩ rfl (Nat.le_of_ble_eq_true rfl) zd_Mo_isBarred_71 rfl ?_
          rintro _ _ ⟨r59, z59, rfl, rfl, h⟩
          refine zr_if_eq hG 81 zd_Mo_isBarred_74 (by decide) (fun hc => ?_) (fun hc => ?_)
          · have h := h.1 hc
            exact zr_mask [true, true, true, false, true, false] (zt_Mo_isBarred_81 hG hR hAp hk31 h)
          · have h := h.2 hc
            exact zr_mask [true, true, true, false, true, false] (zt_Mo_isBarred_77 hG hR hAp hk31 h)
def zw_Mo_isBarred_27 (post : Int32 → zS → Prop) (v1 v2 u0 : Int32) (z : zS) : Prop := zq_Lp (zw_Mo_isBarred_31 post) (v1, v2, u0, (0 : Int32), z)
set_option maxHeartbeats 4000000 in
set_option maxRecDepth 100000 in
theorem zt_Mo_isBarred_27 {x : zC} {w : zW} {g : zS} {o : Nat → Int64} {post : Int32 → zS → Prop} (hG : zq_G x w "GridRouterModel" zc_Mo_isBarred 6 (zq_rm 3 70)) (hR : zq_R x w zq_0 (some .boolean) (zq_Ni g o post)) (hAp : zq_Ap w) {v1 v2 u0 : Int32} {z : zS} (h : zw_Mo_isBarred_27 post v1 v2 u0 z) : zq_W x w 0 0 (g, z, o) 27 [some (.ref (w.2.1 28)), some (.int v1), some (.int v2), none, none, none] [.int u0] := by
  refine zr_istore_n hG [some (.ref (w.2.1 28)), some (.int v1), some (.int v2), some (.int u0), none, none] zd_Mo_isBarred_27 rfl (Nat.le_of_ble_eq_true rfl) rfl ?_
  refine zr_iconst hG (v := (0 : Int32)) zd_Mo_isBarred_28 (by decide) ?_
  refine zr_istore hG [some (.ref (w.2.1 28)), some (.int v1), some (.int v2), some (.int u0), some (.int (0 : Int32)), none] zd_Mo_isBarred_29 (Nat.le_of_ble_eq_true rfl) rfl ?_
  exact zt_Mo_isBarred_31 hG hR hAp h
def zw_Mo_isBarred_22 (post : Int32 → zS → Prop) (v1 v2 : Int32) (z : zS) : Prop := zw_Mo_isBarred_27 post v1 v2 (1 : Int32) z
set_option maxHeartbeats 4000000 in
set_option maxRecDepth 100000 in
theorem zt_Mo_isBarred_22 {x : zC} {w : zW} {g : zS} {o : Nat → Int64} {post : Int32 → zS → Prop} (hG : zq_G x w "GridRouterModel" zc_Mo_isBarred 6 (zq_rm 3 70)) (hR : zq_R x w zq_0 (some .boolean) (zq_Ni g o post)) (hAp : zq_Ap w) {v1 v2 : Int32} {z : zS} (h : zw_Mo_isBarred_22 post v1 v2 z) : zq_W x w 0 0 (g, z, o) 22 [some (.ref (w.2.1 28)), some (.int v1), some (.int v2), none, none, none] [] := by
  refine zr_iconst hG (v := (1 : Int32)) zd_Mo_isBarred_22 (by decide) ?_
  refine zr_goto hG 27 zd_Mo_isBarred_23 (by decide) ?_
  exact zt_Mo_isBarred_27 hG hR hAp h
def zw_Mo_isBarred (a1 a2 : Int32) (z : zS) (post : Int32 → zS → Prop) : Prop := vp_in a1 162 ∧ ((¬ (z.2 0 a1.toNatClampNeg) = 0 → zw_Mo_isBarred_22 post a1 a2 z) ∧ ((z.2 0 a1.toNatClampNeg) = 0 → vp_in a1 162 ∧ (zw_Mo_isOther (z.2 1 a1.toNatClampNeg) a2 z (fun r60 z60 => ((r60 = 0 → zw_Mo_isBarred_27 post a1 a2 (0 : Int32) z60) ∧ (¬ r60 = 0 → zw_Mo_isBarred_22 post a1 a2 z60))))))
set_option maxHeartbeats 4000000 in
set_option maxRecDepth 100000 in
theorem zm_Mo_isBarred (l : Launch) (w : zW) (hAp : zq_Ap w) (g : zS) (o : Nat → Int64) {a1 a2 : Int32} {z : zS} {post : Int32 → zS → Prop} (h : zw_Mo_isBarred a1 a2 z post) : zq_M l w zq_0 zy_Mo_isBarred zc_Mo_isBarred 6 (some .boolean) (zq_rm 3 70) [.ref (w.2.1 28), .int a1, .int a2] (g, z, o) (zq_Ni g o post) := by
  refine zq_mk_M (by decide) (by simp [Value.category]) (Nat.le_of_ble_eq_true rfl) hAp (fun x hx hG hR => ?_)
  subst hx
  refine zr_aload_n hG zd_Mo_isBarred_0 rfl rfl ?_
  refine zf_Mo_blocked hG tk_768 zd_Mo_isBarred_1 ?_
  refine zr_iload_n hG zd_Mo_isBarred_4 rfl rfl ?_
  obtain ⟨hi, h⟩ := h
  refine zl_29 hG hi zd_Mo_isBarred_5 ?_
  refine zr_if_ne hG 22 zd_Mo_isBarred_6 (by decide) (fun hc => ?_) (fun hc => ?_)
  · have h := h.1 hc
    exact zt_Mo_isBarred_22 hG hR hAp h
  · have h := h.2 hc
    refine zr_aload_n hG zd_Mo_isBarred_9 rfl rfl ?_
    refine zf_Mo_pin hG tk_769 zd_Mo_isBarred_10 ?_
    refine zr_iload_n hG zd_Mo_isBarred_13 rfl rfl ?_
    obtain ⟨hi, h⟩ := h
    refine zl_30 hG hi zd_Mo_isBarred_14 ?_
    refine zr_iload_n hG zd_Mo_isBarred_15 rfl rfl ?_
    refine zr_callS hG zq_F0 (As := [.int (z.2 1 a1.toNatClampNeg), .int a2]) (rest := []) (zm_Mo_isOther (zc_l x) w hAp g o h) rfl zg_Mo_69 zdd_Mo_isOther ⟨rfl, rfl, by decide, by decide⟩ ⟨by decide, by decide⟩ rfl (Nat.le_of_ble_eq_true rfl) zd_Mo_isBarred_16 rfl ?_
    rintro _ _ ⟨r60, z60, rfl, rfl, h⟩
    refine zr_if_eq hG 26 zd_Mo_isBarred_19 (by decide) (fun hc => ?_) (fun hc => ?_)
    · have h := h.1 hc
      refine zr_iconst hG (v := (0 : Int32)) zd_Mo_isBarred_26 (by decide) ?_
      exact zt_Mo_isBarred_27 hG hR hAp h
    · have h := h.2 hc
      exact zt_Mo_isBarred_22 hG hR hAp h
