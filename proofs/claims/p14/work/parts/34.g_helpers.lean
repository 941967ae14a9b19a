theorem zfc1 : Cond.castable "java/lang/IndexOutOfBoundsException" "java/lang/IndexOutOfBoundsException" ∈ zq_fc := List.mem_filter.mpr ⟨List.mem_append_right _ (List.mem_of_getElem? (i := 359) (by decide +kernel)), by decide +kernel⟩
theorem zfc2 : Cond.castable "java/lang/IllegalArgumentException" "java/lang/IllegalArgumentException" ∈ zq_fc := List.mem_filter.mpr ⟨List.mem_append_right _ (List.mem_of_getElem? (i := 463) (by decide +kernel)), by decide +kernel⟩
theorem zfc3 : Cond.castable "java/lang/IllegalStateException" "java/lang/IllegalStateException" ∈ zq_fc := List.mem_filter.mpr ⟨List.mem_append_right _ (List.mem_of_getElem? (i := 431) (by decide +kernel)), by decide +kernel⟩
def zw_La_h_block (ln : Nat → Nat) (a1 a2 a3 : Int32) (z : zS) (o : Nat → Int64) (post : Int32 → zS → (Nat → Int64) → Prop) : Prop := zw_Gr_block ln a1 a2 a3 z (fun r z1 => post 0 z1 (vp_updL o (0 : Int32).toNatClampNeg (if r = 0 then 0 else 1))) ∨ zw_Gr_block_X ln a1 a2 a3 z (fun c z1 => (c = 1 ∧ post 1 z1 o) ∨ (c = 3 ∧ post 2 z1 o))
set_option maxHeartbeats 4000000 in
set_option maxRecDepth 100000 in
theorem zm_La_h_block (l : Launch) (hfl : l.flags = pinnedFlags ++ [noTraceFlag]) (w : zW) (hAp : zq_Ap w) (g : zS) {a1 a2 a3 : Int32} {z : zS} {o : Nat → Int64} {post : Int32 → zS → (Nat → Int64) → Prop} (h : zw_La_h_block w.2.2.1 a1 a2 a3 z o post) : zq_MH l w zy_La_h_block zc_La_h_block 6 [(0, 19, 22, 13), (0, 19, 26, 15)] (zq_rx 7 134) [.ref (w.2.1 0), .int a1, .int a2, .int a3, .ref (w.2.1 40)] (z, g, o) (zq_PH g post) := by
  refine zq_mk_H (by decide) (by simp [Value.category]) (Nat.le_of_ble_eq_true rfl) hAp (fun x hx hG hR => ?_)
  subst hx
  have hW : zq_Wr x w := zq_wr hR.2.2.1
  have hG : zq_G x w "GridRouterLaw" zc_La_h_block 6 (zq_rx 7 134) := hG
  rcases h with h | h
  · refine zr_widen (k' := 1) (n' := 6) (by decide) (by decide) ?_
    refine zr_aload hG zd_La_h_block_0 rfl ?_
    refine zr_iconst hG (v := 0) zd_La_h_block_2 (by decide) ?_
    refine zr_aload_n hG zd_La_h_block_3 rfl rfl ?_
    refine zr_iload_n hG zd_La_h_block_4 rfl rfl ?_
    refine zr_iload_n hG zd_La_h_block_5 rfl rfl ?_
    refine zr_iload_n hG zd_La_h_block_6 rfl rfl ?_
    refine zr_callV hG (zq_F1 hW) (As := [.int a1, .int a2, .int a3]) (rest := [.int (0 : Int32), .ref (w.2.1 40)]) (zm_Gr_block (zc_l x) w hAp g o h) 0 rfl rfl rfl zg_La_7 zdd_Gr_block ⟨rfl, rfl, by decide, by decide⟩ ⟨by decide, by decide⟩ rfl (Nat.le_of_ble_eq_true rfl) zd_La_h_block_7 rfl ?_
    rintro _ _ ⟨r, z1, rfl, rfl, h⟩
    have h : post 0 z1 (vp_updL o (0 : Int32).toNatClampNeg (if r = 0 then 0 else 1)) := h
    refine zr_if_eq hG 17 zd_La_h_block_10 (by decide) (fun hc => ?_) (fun hc => ?_)
    · rw [if_pos hc] at h
      refine zr_lconst hG (v := 0) zd_La_h_block_17 (by decide) ?_
      refine zu_40 hG hW zd_La_h_block_18 ?_
      refine zr_goto hG 30 zd_La_h_block_19 (by decide) ?_
      refine zr_iconst hG (v := 0) zd_La_h_block_30 (by decide) ?_
      exact zr_hret hG hR zd_La_h_block_31 ⟨_, _, _, rfl, rfl, h⟩
    · rw [if_neg hc] at h
      refine zr_lconst hG (v := 1) zd_La_h_block_13 (by decide) ?_
      refine zr_goto hG 18 zd_La_h_block_14 (by decide) ?_
      refine zu_40 hG hW zd_La_h_block_18 ?_
      refine zr_goto hG 30 zd_La_h_block_19 (by decide) ?_
      refine zr_iconst hG (v := 0) zd_La_h_block_30 (by decide) ?_
      exact zr_hret hG hR zd_La_h_block_31 ⟨_, _, _, rfl, rfl, h⟩
  · refine zr_aload hG zd_La_h_block_0 rfl ?_
    refine zr_iconst hG (v := 0) zd_La_h_block_2 (by decide) ?_
    refine zr_aload_n hG zd_La_h_block_3 rfl rfl ?_
    refine zr_iload_n hG zd_La_h_block_4 rfl rfl ?_
    refine zr_iload_n hG zd_La_h_block_5 rfl rfl ?_
    refine zr_iload_n hG zd_La_h_block_6 rfl rfl ?_
    refine zr_callX hG hR.2.2.1 hR.2.2.2.2.2.2 (As := [.int a1, .int a2, .int a3]) (rest := [.int (0 : Int32), .ref (w.2.1 40)]) (zm_Gr_block_X (zc_l x) hfl w hAp g o h) 0 rfl rfl rfl zg_La_7 zdd_Gr_block ⟨rfl, rfl, by decide, by decide⟩ ⟨by decide, by decide⟩ rfl (Nat.le_of_ble_eq_true rfl) zd_La_h_block_7 rfl (fun cd => if cd = 1 then 22 else 26) (fun cd σ' hT th hf => ?_) (fun cd a σ' hT => ?_)
    · obtain ⟨z1, -, hT⟩ := hT
      refine zq_ht.hit _ _ hR.2.2.2.2.1 ?_
      rcases hT with ⟨rfl, -⟩ | ⟨rfl, -⟩
      · exact zq_h1 hG hR hf tk_343 zfc1 (by decide) (by decide)
      · exact zq_h2 hG hR hf tk_343 (List.mem_of_getElem? (i := 0) rfl) (by decide) (by decide) (zq_h1 hG hR hf tk_344 zfc3 (by decide) (by decide))
    · obtain ⟨z1, rfl, hT⟩ := hT
      rcases hT with ⟨rfl, h⟩ | ⟨rfl, h⟩
      · show zq_W x w 1 6 (z1, g, o) 22 [some (.ref (w.2.1 0)), some (.int a1), some (.int a2), some (.int a3), some (.ref (w.2.1 40)), none] [.ref a]
        refine zr_astore hG [some (.ref (w.2.1 0)), some (.int a1), some (.int a2), some (.int a3), some (.ref (w.2.1 40)), some (.ref a)] zd_La_h_block_22 (Nat.le_of_ble_eq_true rfl) rfl ?_
        refine zr_iconst hG (v := 1) zd_La_h_block_24 (by decide) ?_
        exact zr_hret hG hR zd_La_h_block_25 ⟨_, _, _, rfl, rfl, h⟩
      · show zq_W x w 1 6 (z1, g, o) 26 [some (.ref (w.2.1 0)), some (.int a1), some (.int a2), some (.int a3), some (.ref (w.2.1 40)), none] [.ref a]
        refine zr_astore hG [some (.ref (w.2.1 0)), some (.int a1), some (.int a2), some (.int a3), some (.ref (w.2.1 40)), some (.ref a)] zd_La_h_block_26 (Nat.le_of_ble_eq_true rfl) rfl ?_
        refine zr_iconst hG (v := 2) zd_La_h_block_28 (by decide) ?_
        exact zr_hret hG hR zd_La_h_block_29 ⟨_, _, _, rfl, rfl, h⟩
def zw_La_h_net (ln : Nat → Nat) (a1 a2 a3 a4 a5 a6 : Int32) (z : zS) (o : Nat → Int64) (post : Int32 → zS → (Nat → Int64) → Prop) : Prop := zw_Gr_net ln a1 a2 a3 a4 a5 a6 z (fun r z1 => post 0 z1 (vp_updL o (0 : Int32).toNatClampNeg r.toInt64)) ∨ zw_Gr_net_X ln a1 a2 a3 a4 a5 a6 z (fun c z1 => (c = 1 ∧ post 1 z1 o) ∨ (c = 2 ∧ post 2 z1 o) ∨ (c = 3 ∧ post 3 z1 o))
set_option maxHeartbeats 4000000 in
set_option maxRecDepth 100000 in
theorem zm_La_h_net (l : Launch) (hfl : l.flags = pinnedFlags ++ [noTraceFlag]) (w : zW) (hAp : zq_Ap w) (g : zS) {a1 a2 a3 a4 a5 a6 : Int32} {z : zS} {o : Nat → Int64} {post : Int32 → zS → (Nat → Int64) → Prop} (h : zw_La_h_net w.2.2.1 a1 a2 a3 a4 a5 a6 z o post) : zq_MH l w zy_La_h_net zc_La_h_net 9 [(0, 18, 21, 13), (0, 18, 25, 21), (0, 18, 29, 15)] (zq_rx 7 139) [.ref (w.2.1 0), .int a1, .int a2, .int a3, .int a4, .int a5, .int a6, .ref (w.2.1 40)] (z, g, o) (zq_PH g post) := by
  refine zq_mk_H (by decide) (by simp [Value.category]) (Nat.le_of_ble_eq_true rfl) hAp (fun x hx hG hR => ?_)
  subst hx
  have hW : zq_Wr x w := zq_wr hR.2.2.1
  have hG : zq_G x w "GridRouterLaw" zc_La_h_net 9 (zq_rx 7 139) := hG
  rcases h with h | h
  · refine zr_widen (k' := 1) (n' := 6) (by decide) (by decide) ?_
    refine zr_aload hG zd_La_h_net_0 rfl ?_
    refine zr_iconst hG (v := 0) zd_La_h_net_2 (by decide) ?_
    refine zr_aload_n hG zd_La_h_net_3 rfl rfl ?_
    refine zr_iload_n hG zd_La_h_net_4 rfl rfl ?_
    refine zr_iload_n hG zd_La_h_net_5 rfl rfl ?_
    refine zr_iload_n hG zd_La_h_net_6 rfl rfl ?_
    refine zr_iload hG zd_La_h_net_7 rfl ?_
    refine zr_iload hG zd_La_h_net_9 rfl ?_
    refine zr_iload hG zd_La_h_net_11 rfl ?_
    refine zr_callV hG (zq_F1 hW) (As := [.int a1, .int a2, .int a3, .int a4, .int a5, .int a6]) (rest := [.int (0 : Int32), .ref (w.2.1 40)]) (zm_Gr_net (zc_l x) w hAp g o h) 0 rfl rfl rfl zg_La_17 zdd_Gr_net ⟨rfl, rfl, by decide, by decide⟩ ⟨by decide, by decide⟩ rfl (Nat.le_of_ble_eq_true rfl) zd_La_h_net_13 rfl ?_
    rintro _ _ ⟨r, z1, rfl, rfl, h⟩
    have h : post 0 z1 (vp_updL o (0 : Int32).toNatClampNeg r.toInt64) := h
    refine zr_i2l hG zd_La_h_net_16 ?_
    refine zu_40 hG hW zd_La_h_net_17 ?_
    refine zr_goto hG 33 zd_La_h_net_18 (by decide) ?_
    refine zr_iconst hG (v := 0) zd_La_h_net_33 (by decide) ?_
    exact zr_hret hG hR zd_La_h_net_34 ⟨_, _, _, rfl, rfl, h⟩
  · refine zr_aload hG zd_La_h_net_0 rfl ?_
    refine zr_iconst hG (v := 0) zd_La_h_net_2 (by decide) ?_
    refine zr_aload_n hG zd_La_h_net_3 rfl rfl ?_
    refine zr_iload_n hG zd_La_h_net_4 rfl rfl ?_
    refine zr_iload_n hG zd_La_h_net_5 rfl rfl ?_
    refine zr_iload_n hG zd_La_h_net_6 rfl rfl ?_
    refine zr_iload hG zd_La_h_net_7 rfl ?_
    refine zr_iload hG zd_La_h_net_9 rfl ?_
    refine zr_iload hG zd_La_h_net_11 rfl ?_
    refine zr_callX hG hR.2.2.1 hR.2.2.2.2.2.2 (As := [.int a1, .int a2, .int a3, .int a4, .int a5, .int a6]) (rest := [.int (0 : Int32), .ref (w.2.1 40)]) (zm_Gr_net_X (zc_l x) hfl w hAp g o h) 0 rfl rfl rfl zg_La_17 zdd_Gr_net ⟨rfl, rfl, by decide, by decide⟩ ⟨by decide, by decide⟩ rfl (Nat.le_of_ble_eq_true rfl) zd_La_h_net_13 rfl (fun cd => if cd = 1 then 21 else if cd = 2 then 25 else 29) (fun cd σ' hT th hf => ?_) (fun cd a σ' hT => ?_)
    · obtain ⟨z1, -, hT⟩ := hT
      refine zq_ht.hit _ _ hR.2.2.2.2.1 ?_
      rcases hT with ⟨rfl, -⟩ | ⟨rfl, -⟩ | ⟨rfl, -⟩
      · exact zq_h1 hG hR hf tk_343 zfc1 (by decide) (by decide)
      · exact zq_h2 hG hR hf tk_343 (List.mem_of_getElem? (i := 1) rfl) (by decide) (by decide) (zq_h1 hG hR hf tk_448 zfc2 (by decide) (by decide))
      · exact zq_h2 hG hR hf tk_343 (List.mem_of_getElem? (i := 0) rfl) (by decide) (by decide) (zq_h2 hG hR hf tk_448 (List.mem_of_getElem? (i := 2) rfl) (by decide) (by decide) (zq_h1 hG hR hf tk_344 zfc3 (by decide) (by decide)))
    · obtain ⟨z1, rfl, hT⟩ := hT
      rcases hT with ⟨rfl, h⟩ | ⟨rfl, h⟩ | ⟨rfl, h⟩
      · show zq_W x w 1 6 (z1, g, o) 21 [some (.ref (w.2.1 0)), some (.int a1), some (.int a2), some (.int a3), some (.int a4), some (.int a5), some (.int a6), some (.ref (w.2.1 40)), none] [.ref a]
        refine zr_astore hG [some (.ref (w.2.1 0)), some (.int a1), some (.int a2), some (.int a3), some (.int a4), some (.int a5), some (.int a6), some (.ref (w.2.1 40)), some (.ref a)] zd_La_h_net_21 (Nat.le_of_ble_eq_true rfl) rfl ?_
        refine zr_iconst hG (v := 1) zd_La_h_net_23 (by decide) ?_
        exact zr_hret hG hR zd_La_h_net_24 ⟨_, _, _, rfl, rfl, h⟩
      · show zq_W x w 1 6 (z1, g, o) 25 [some (.ref (w.2.1 0)), some (.int a1), some (.int a2), some (.int a3), some (.int a4), some (.int a5), some (.int a6), some (.ref (w.2.1 40)), none] [.ref a]
        refine zr_astore hG [some (.ref (w.2.1 0)), some (.int a1), some (.int a2), some (.int a3), some (.int a4), some (.int a5), some (.int a6), some (.ref (w.2.1 40)), some (.ref a)] zd_La_h_net_25 (Nat.le_of_ble_eq_true rfl) rfl ?_
        refine zr_iconst hG (v := 2) zd_La_h_net_27 (by decide) ?_
        exact zr_hret hG hR zd_La_h_net_28 ⟨_, _, _, rfl, rfl, h⟩
      · show zq_W x w 1 6 (z1, g, o) 29 [some (.ref (w.2.1 0)), some (.int a1), some (.int a2), some (.int a3), some (.int a4), some (.int a5), some (.int a6), some (.ref (w.2.1 40)), none] [.ref a]
        refine zr_astore hG [some (.ref (w.2.1 0)), some (.int a1), some (.int a2), some (.int a3), some (.int a4), some (.int a5), some (.int a6), some (.ref (w.2.1 40)), some (.ref a)] zd_La_h_net_29 (Nat.le_of_ble_eq_true rfl) rfl ?_
        refine zr_iconst hG (v := 3) zd_La_h_net_31 (by decide) ?_
        exact zr_hret hG hR zd_La_h_net_32 ⟨_, _, _, rfl, rfl, h⟩
def zw_La_h_route (ln : Nat → Nat) (a1 : Int32) (z : zS) (o : Nat → Int64) (post : Int32 → zS → (Nat → Int64) → Prop) : Prop := zw_Gr_route ln a1 z (fun r z1 => post 0 z1 (vp_updL o (0 : Int32).toNatClampNeg r.toInt64)) ∨ zw_Gr_route_X ln a1 z (fun c z1 => (c = 1 ∧ post 1 z1 o))
set_option maxHeartbeats 4000000 in
set_option maxRecDepth 100000 in
theorem zm_La_h_route (l : Launch) (hfl : l.flags = pinnedFlags ++ [noTraceFlag]) (w : zW) (hAp : zq_Ap w) (g : zS) {a1 : Int32} {z : zS} {o : Nat → Int64} {post : Int32 → zS → (Nat → Int64) → Prop} (h : zw_La_h_route w.2.2.1 a1 z o post) : zq_MH l w zy_La_h_route zc_La_h_route 4 [(0, 9, 12, 13)] (zq_rx 7 137) [.ref (w.2.1 0), .int a1, .ref (w.2.1 40)] (z, g, o) (zq_PH g post) := by
  refine zq_mk_H (by decide) (by simp [Value.category]) (Nat.le_of_ble_eq_true rfl) hAp (fun x hx hG hR => ?_)
  subst hx
  have hW : zq_Wr x w := zq_wr hR.2.2.1
  have hG : zq_G x w "GridRouterLaw" zc_La_h_route 4 (zq_rx 7 137) := hG
  rcases h with h | h
  · refine zr_widen (k' := 1) (n' := 6) (by decide) (by decide) ?_
    refine zr_aload_n hG zd_La_h_route_0 rfl rfl ?_
    refine zr_iconst hG (v := 0) zd_La_h_route_1 (by decide) ?_
    refine zr_aload_n hG zd_La_h_route_2 rfl rfl ?_
    refine zr_iload_n hG zd_La_h_route_3 rfl rfl ?_
    refine zr_callV hG (zq_F1 hW) (As := [.int a1]) (rest := [.int (0 : Int32), .ref (w.2.1 40)]) (zm_Gr_route (zc_l x) w hAp g o h) 0 rfl rfl rfl zg_La_23 zdd_Gr_route ⟨rfl, rfl, by decide, by decide⟩ ⟨by decide, by decide⟩ rfl (Nat.le_of_ble_eq_true rfl) zd_La_h_route_4 rfl ?_
    rintro _ _ ⟨r, z1, rfl, rfl, h⟩
    have h : post 0 z1 (vp_updL o (0 : Int32).toNatClampNeg r.toInt64) := h
    refine zr_i2l hG zd_La_h_route_7 ?_
    refine zu_40 hG hW zd_La_h_route_8 ?_
    refine zr_goto hG 15 zd_La_h_route_9 (by decide) ?_
    refine zr_iconst hG (v := 0) zd_La_h_route_15 (by decide) ?_
    exact zr_hret hG hR zd_La_h_route_16 ⟨_, _, _, rfl, rfl, h⟩
  · refine zr_aload_n hG zd_La_h_route_0 rfl rfl ?_
    refine zr_iconst hG (v := 0) zd_La_h_route_1 (by decide) ?_
    refine zr_aload_n hG zd_La_h_route_2 rfl rfl ?_
    refine zr_iload_n hG zd_La_h_route_3 rfl rfl ?_
    refine zr_callX hG hR.2.2.1 hR.2.2.2.2.2.2 (As := [.int a1]) (rest := [.int (0 : Int32), .ref (w.2.1 40)]) (zm_Gr_route_X (zc_l x) hfl w hAp g o h) 0 rfl rfl rfl zg_La_23 zdd_Gr_route ⟨rfl, rfl, by decide, by decide⟩ ⟨by decide, by decide⟩ rfl (Nat.le_of_ble_eq_true rfl) zd_La_h_route_4 rfl (fun cd => 12) (fun cd σ' hT th hf => ?_) (fun cd a σ' hT => ?_)
    · obtain ⟨z1, -, hT⟩ := hT
      refine zq_ht.hit _ _ hR.2.2.2.2.1 ?_
      obtain ⟨rfl, -⟩ := hT
      exact zq_h1 hG hR hf tk_343 zfc1 (by decide) (by decide)
    · obtain ⟨z1, rfl, hT⟩ := hT
      obtain ⟨rfl, h⟩ := hT
      show zq_W x w 1 6 (z1, g, o) 12 [some (.ref (w.2.1 0)), some (.int a1), some (.ref (w.2.1 40)), none] [.ref a]
      refine zr_astore_n hG [some (.ref (w.2.1 0)), some (.int a1), some (.ref (w.2.1 40)), some (.ref a)] zd_La_h_route_12 rfl (Nat.le_of_ble_eq_true rfl) rfl ?_
      refine zr_iconst hG (v := 1) zd_La_h_route_13 (by decide) ?_
      exact zr_hret hG hR zd_La_h_route_14 ⟨_, _, _, rfl, rfl, h⟩
def zw_La_h_push (ln : Nat → Nat) (a1 : Int32) (z : zS) (o : Nat → Int64) (post : Int32 → zS → (Nat → Int64) → Prop) : Prop := zw_Gr_push ln a1 z (fun r z1 => post 0 z1 (vp_updL o (0 : Int32).toNatClampNeg r.toInt64)) ∨ zw_Gr_push_X ln a1 z (fun c z1 => (c = 1 ∧ post 1 z1 o))
set_option maxHeartbeats 4000000 in
set_option maxRecDepth 100000 in
theorem zm_La_h_push (l : Launch) (hfl : l.flags = pinnedFlags ++ [noTraceFlag]) (w : zW) (hAp : zq_Ap w) (g : zS) {a1 : Int32} {z : zS} {o : Nat → Int64} {post : Int32 → zS → (Nat → Int64) → Prop} (h : zw_La_h_push w.2.2.1 a1 z o post) : zq_MH l w zy_La_h_push zc_La_h_push 4 [(0, 9, 12, 13)] (zq_rx 7 137) [.ref (w.2.1 0), .int a1, .ref (w.2.1 40)] (z, g, o) (zq_PH g post) := by
  refine zq_mk_H (by decide) (by simp [Value.category]) (Nat.le_of_ble_eq_true rfl) hAp (fun x hx hG hR => ?_)
  subst hx
  have hW : zq_Wr x w := zq_wr hR.2.2.1
  have hG : zq_G x w "GridRouterLaw" zc_La_h_push 4 (zq_rx 7 137) := hG
  rcases h with h | h
  · refine zr_widen (k' := 1) (n' := 6) (by decide) (by decide) ?_
    refine zr_aload_n hG zd_La_h_push_0 rfl rfl ?_
    refine zr_iconst hG (v := 0) zd_La_h_push_1 (by decide) ?_
    refine zr_aload_n hG zd_La_h_push_2 rfl rfl ?_
    refine zr_iload_n hG zd_La_h_push_3 rfl rfl ?_
    refine zr_callV hG (zq_F1 hW) (As := [.int a1]) (rest := [.int (0 : Int32), .ref (w.2.1 40)]) (zm_Gr_push (zc_l x) w hAp g o h) 0 rfl rfl rfl zg_La_27 zdd_Gr_push ⟨rfl, rfl, by decide, by decide⟩ ⟨by decide, by decide⟩ rfl (Nat.le_of_ble_eq_true rfl) zd_La_h_push_4 rfl ?_
    rintro _ _ ⟨r, z1, rfl, rfl, h⟩
    have h : post 0 z1 (vp_updL o (0 : Int32).toNatClampNeg r.toInt64) := h
    refine zr_i2l hG zd_La_h_push_7 ?_
    refine zu_40 hG hW zd_La_h_push_8 ?_
    refine zr_goto hG 15 zd_La_h_push_9 (by decide) ?_
    refine zr_iconst hG (v := 0) zd_La_h_push_15 (by decide) ?_
    exact zr_hret hG hR zd_La_h_push_16 ⟨_, _, _, rfl, rfl, h⟩
  · refine zr_aload_n hG zd_La_h_push_0 rfl rfl ?_
    refine zr_iconst hG (v := 0) zd_La_h_push_1 (by decide) ?_
    refine zr_aload_n hG zd_La_h_push_2 rfl rfl ?_
    refine zr_iload_n hG zd_La_h_push_3 rfl rfl ?_
    refine zr_callX hG hR.2.2.1 hR.2.2.2.2.2.2 (As := [.int a1]) (rest := [.int (0 : Int32), .ref (w.2.1 40)]) (zm_Gr_push_X (zc_l x) hfl w hAp g o h) 0 rfl rfl rfl zg_La_27 zdd_Gr_push ⟨rfl, rfl, by decide, by decide⟩ ⟨by decide, by decide⟩ rfl (Nat.le_of_ble_eq_true rfl) zd_La_h_push_4 rfl (fun cd => 12) (fun cd σ' hT th hf => ?_) (fun cd a σ' hT => ?_)
    · obtain ⟨z1, -, hT⟩ := hT
      refine zq_ht.hit _ _ hR.2.2.2.2.1 ?_
      obtain ⟨rfl, -⟩ := hT
      exact zq_h1 hG hR hf tk_343 zfc1 (by decide) (by decide)
    · obtain ⟨z1, rfl, hT⟩ := hT
      obtain ⟨rfl, h⟩ := hT
      show zq_W x w 1 6 (z1, g, o) 12 [some (.ref (w.2.1 0)), some (.int a1), some (.ref (w.2.1 40)), none] [.ref a]
      refine zr_astore_n hG [some (.ref (w.2.1 0)), some (.int a1), some (.ref (w.2.1 40)), some (.ref a)] zd_La_h_push_12 rfl (Nat.le_of_ble_eq_true rfl) rfl ?_
      refine zr_iconst hG (v := 1) zd_La_h_push_13 (by decide) ?_
      exact zr_hret hG hR zd_La_h_push_14 ⟨_, _, _, rfl, rfl, h⟩
def zw_La_h_all (ln : Nat → Nat) (a1 a2 : Int32) (z : zS) (o : Nat → Int64) (post : Int32 → zS → (Nat → Int64) → Prop) : Prop := zw_Gr_all ln a1 a2 z (fun r z1 => post 0 z1 (vp_updL o (0 : Int32).toNatClampNeg r.toInt64)) ∨ zw_Gr_all_X ln a1 a2 z (fun c z1 => (c = 2 ∧ post 1 z1 o))
set_option maxHeartbeats 4000000 in
set_option maxRecDepth 100000 in
theorem zm_La_h_all (l : Launch) (hfl : l.flags = pinnedFlags ++ [noTraceFlag]) (w : zW) (hAp : zq_Ap w) (g : zS) {a1 a2 : Int32} {z : zS} {o : Nat → Int64} {post : Int32 → zS → (Nat → Int64) → Prop} (h : zw_La_h_all w.2.2.1 a1 a2 z o post) : zq_MH l w zy_La_h_all zc_La_h_all 5 [(0, 10, 13, 21)] (zq_rx 7 162) [.ref (w.2.1 0), .int a1, .int a2, .ref (w.2.1 40)] (z, g, o) (zq_PH g post) := by
  refine zq_mk_H (by decide) (by simp [Value.category]) (Nat.le_of_ble_eq_true rfl) hAp (fun x hx hG hR => ?_)
  subst hx
  have hW : zq_Wr x w := zq_wr hR.2.2.1
  have hG : zq_G x w "GridRouterLaw" zc_La_h_all 5 (zq_rx 7 162) := hG
  rcases h with h | h
  · refine zr_widen (k' := 1) (n' := 6) (by decide) (by decide) ?_
    refine zr_aload_n hG zd_La_h_all_0 rfl rfl ?_
    refine zr_iconst hG (v := 0) zd_La_h_all_1 (by decide) ?_
    refine zr_aload_n hG zd_La_h_all_2 rfl rfl ?_
    refine zr_iload_n hG zd_La_h_all_3 rfl rfl ?_
    refine zr_iload_n hG zd_La_h_all_4 rfl rfl ?_
    refine zr_callV hG (zq_F1 hW) (As := [.int a1, .int a2]) (rest := [.int (0 : Int32), .ref (w.2.1 40)]) (zm_Gr_all (zc_l x) w hAp g o h) 0 rfl rfl rfl zg_La_30 zdd_Gr_all ⟨rfl, rfl, by decide, by decide⟩ ⟨by decide, by decide⟩ rfl (Nat.le_of_ble_eq_true rfl) zd_La_h_all_5 rfl ?_
    rintro _ _ ⟨r, z1, rfl, rfl, h⟩
    have h : post 0 z1 (vp_updL o (0 : Int32).toNatClampNeg r.toInt64) := h
    refine zr_i2l hG zd_La_h_all_8 ?_
    refine zu_40 hG hW zd_La_h_all_9 ?_
    refine zr_goto hG 17 zd_La_h_all_10 (by decide) ?_
    refine zr_iconst hG (v := 0) zd_La_h_all_17 (by decide) ?_
    exact zr_hret hG hR zd_La_h_all_18 ⟨_, _, _, rfl, rfl, h⟩
  · refine zr_aload_n hG zd_La_h_all_0 rfl rfl ?_
    refine zr_iconst hG (v := 0) zd_La_h_all_1 (by decide) ?_
    refine zr_aload_n hG zd_La_h_all_2 rfl rfl ?_
    refine zr_iload_n hG zd_La_h_all_3 rfl rfl ?_
    refine zr_iload_n hG zd_La_h_all_4 rfl rfl ?_
    refine zr_callX hG hR.2.2.1 hR.2.2.2.2.2.2 (As := [.int a1, .int a2]) (rest := [.int (0 : Int32), .ref (w.2.1 40)]) (zm_Gr_all_X (zc_l x) hfl w hAp g o h) 0 rfl rfl rfl zg_La_30 zdd_Gr_all ⟨rfl, rfl, by decide, by decide⟩ ⟨by decide, by decide⟩ rfl (Nat.le_of_ble_eq_true rfl) zd_La_h_all_5 rfl (fun cd => 13) (fun cd σ' hT th hf => ?_) (fun cd a σ' hT => ?_)
    · obtain ⟨z1, -, hT⟩ := hT
      refine zq_ht.hit _ _ hR.2.2.2.2.1 ?_
      obtain ⟨rfl, -⟩ := hT
      exact zq_h1 hG hR hf tk_448 zfc2 (by decide) (by decide)
    · obtain ⟨z1, rfl, hT⟩ := hT
      obtain ⟨rfl, h⟩ := hT
      show zq_W x w 1 6 (z1, g, o) 13 [some (.ref (w.2.1 0)), some (.int a1), some (.int a2), some (.ref (w.2.1 40)), none] [.ref a]
      refine zr_astore hG [some (.ref (w.2.1 0)), some (.int a1), some (.int a2), some (.ref (w.2.1 40)), some (.ref a)] zd_La_h_all_13 (Nat.le_of_ble_eq_true rfl) rfl ?_
      refine zr_iconst hG (v := 1) zd_La_h_all_15 (by decide) ?_
      exact zr_hret hG hR zd_La_h_all_16 ⟨_, _, _, rfl, rfl, h⟩
def zw_La_h_rip (ln : Nat → Nat) (a1 : Int32) (z : zS) (o : Nat → Int64) (post : Int32 → zS → (Nat → Int64) → Prop) : Prop := zw_Gr_rip ln a1 z (fun z1 => post 0 z1 o) ∨ zw_Gr_rip_X ln a1 z (fun c z1 => (c = 1 ∧ post 1 z1 o))
set_option maxHeartbeats 4000000 in
set_option maxRecDepth 100000 in
theorem zm_La_h_rip (l : Launch) (hfl : l.flags = pinnedFlags ++ [noTraceFlag]) (w : zW) (hAp : zq_Ap w) (g : zS) {a1 : Int32} {z : zS} {o : Nat → Int64} {post : Int32 → zS → (Nat → Int64) → Prop} (h : zw_La_h_rip w.2.2.1 a1 z o post) : zq_MH l w zy_La_h_rip zc_La_h_rip 3 [(0, 5, 8, 13)] (zq_rx 7 131) [.ref (w.2.1 0), .int a1] (z, g, o) (zq_PH g post) := by
  refine zq_mk_H (by decide) (by simp [Value.category]) (Nat.le_of_ble_eq_true rfl) hAp (fun x hx hG hR => ?_)
  subst hx
  have hW : zq_Wr x w := zq_wr hR.2.2.1
  have hG : zq_G x w "GridRouterLaw" zc_La_h_rip 3 (zq_rx 7 131) := hG
  rcases h with h | h
  · refine zr_widen (k' := 1) (n' := 6) (by decide) (by decide) ?_
    refine zr_aload_n hG zd_La_h_rip_0 rfl rfl ?_
    refine zr_iload_n hG zd_La_h_rip_1 rfl rfl ?_
    refine zr_callV hG (zq_F1 hW) (As := [.int a1]) (rest := []) (zm_Gr_rip (zc_l x) w hAp g o h) 0 rfl rfl rfl zg_La_34 zdd_Gr_rip ⟨rfl, rfl, by decide, by decide⟩ ⟨by decide, by decide⟩ rfl (Nat.le_of_ble_eq_true rfl) zd_La_h_rip_2 rfl ?_
    rintro _ _ ⟨z1, rfl, rfl, h⟩
    have h : post 0 z1 o := h
    refine zr_goto hG 11 zd_La_h_rip_5 (by decide) ?_
    refine zr_iconst hG (v := 0) zd_La_h_rip_11 (by decide) ?_
    exact zr_hret hG hR zd_La_h_rip_12 ⟨_, _, _, rfl, rfl, h⟩
  · refine zr_aload_n hG zd_La_h_rip_0 rfl rfl ?_
    refine zr_iload_n hG zd_La_h_rip_1 rfl rfl ?_
    refine zr_callX hG hR.2.2.1 hR.2.2.2.2.2.2 (As := [.int a1]) (rest := []) (zm_Gr_rip_X (zc_l x) hfl w hAp g o h) 0 rfl rfl rfl zg_La_34 zdd_Gr_rip ⟨rfl, rfl, by decide, by decide⟩ ⟨by decide, by decide⟩ rfl (Nat.le_of_ble_eq_true rfl) zd_La_h_rip_2 rfl (fun cd => 8) (fun cd σ' hT th hf => ?_) (fun cd a σ' hT => ?_)
    · obtain ⟨z1, -, hT⟩ := hT
      refine zq_ht.hit _ _ hR.2.2.2.2.1 ?_
      obtain ⟨rfl, -⟩ := hT
      exact zq_h1 hG hR hf tk_343 zfc1 (by decide) (by decide)
    · obtain ⟨z1, rfl, hT⟩ := hT
      obtain ⟨rfl, h⟩ := hT
      show zq_W x w 1 6 (z1, g, o) 8 [some (.ref (w.2.1 0)), some (.int a1), none] [.ref a]
      refine zr_astore_n hG [some (.ref (w.2.1 0)), some (.int a1), some (.ref a)] zd_La_h_rip_8 rfl (Nat.le_of_ble_eq_true rfl) rfl ?_
      refine zr_iconst hG (v := 1) zd_La_h_rip_9 (by decide) ?_
      exact zr_hret hG hR zd_La_h_rip_10 ⟨_, _, _, rfl, rfl, h⟩
def zw_La_h_paint (ln : Nat → Nat) (a1 a2 a3 a4 : Int32) (z : zS) (o : Nat → Int64) (post : Int32 → zS → (Nat → Int64) → Prop) : Prop := zw_Gr_paint ln a1 a2 a3 a4 z (fun z1 => post 0 z1 o) ∨ zw_Gr_paint_X ln a1 a2 a3 a4 z (fun c z1 => (c = 1 ∧ post 1 z1 o))
set_option maxHeartbeats 4000000 in
set_option maxRecDepth 100000 in
theorem zm_La_h_paint (l : Launch) (hfl : l.flags = pinnedFlags ++ [noTraceFlag]) (w : zW) (hAp : zq_Ap w) (g : zS) {a1 a2 a3 a4 : Int32} {z : zS} {o : Nat → Int64} {post : Int32 → zS → (Nat → Int64) → Prop} (h : zw_La_h_paint w.2.2.1 a1 a2 a3 a4 z o post) : zq_MH l w zy_La_h_paint zc_La_h_paint 6 [(0, 9, 12, 13)] (zq_rx 7 134) [.ref (w.2.1 0), .int a1, .int a2, .int a3, .int a4] (z, g, o) (zq_PH g post) := by
  refine zq_mk_H (by decide) (by simp [Value.category]) (Nat.le_of_ble_eq_true rfl) hAp (fun x hx hG hR => ?_)
  subst hx
  have hW : zq_Wr x w := zq_wr hR.2.2.1
  have hG : zq_G x w "GridRouterLaw" zc_La_h_paint 6 (zq_rx 7 134) := hG
  rcases h with h | h
  · refine zr_widen (k' := 1) (n' := 6) (by decide) (by decide) ?_
    refine zr_aload_n hG zd_La_h_paint_0 rfl rfl ?_
    refine zr_iload_n hG zd_La_h_paint_1 rfl rfl ?_
    refine zr_iload_n hG zd_La_h_paint_2 rfl rfl ?_
    refine zr_iload_n hG zd_La_h_paint_3 rfl rfl ?_
    refine zr_iload hG zd_La_h_paint_4 rfl ?_
    refine zr_callV hG (zq_F1 hW) (As := [.int a1, .int a2, .int a3, .int a4]) (rest := []) (zm_Gr_paint (zc_l x) w hAp g o h) 0 rfl rfl rfl zg_La_38 zdd_Gr_paint ⟨rfl, rfl, by decide, by decide⟩ ⟨by decide, by decide⟩ rfl (Nat.le_of_ble_eq_true rfl) zd_La_h_paint_6 rfl ?_
    rintro _ _ ⟨z1, rfl, rfl, h⟩
    have h : post 0 z1 o := h
    refine zr_goto hG 16 zd_La_h_paint_9 (by decide) ?_
    refine zr_iconst hG (v := 0) zd_La_h_paint_16 (by decide) ?_
    exact zr_hret hG hR zd_La_h_paint_17 ⟨_, _, _, rfl, rfl, h⟩
  · refine zr_aload_n hG zd_La_h_paint_0 rfl rfl ?_
    refine zr_iload_n hG zd_La_h_paint_1 rfl rfl ?_
    refine zr_iload_n hG zd_La_h_paint_2 rfl rfl ?_
    refine zr_iload_n hG zd_La_h_paint_3 rfl rfl ?_
    refine zr_iload hG zd_La_h_paint_4 rfl ?_
    refine zr_callX hG hR.2.2.1 hR.2.2.2.2.2.2 (As := [.int a1, .int a2, .int a3, .int a4]) (rest := []) (zm_Gr_paint_X (zc_l x) hfl w hAp g o h) 0 rfl rfl rfl zg_La_38 zdd_Gr_paint ⟨rfl, rfl, by decide, by decide⟩ ⟨by decide, by decide⟩ rfl (Nat.le_of_ble_eq_true rfl) zd_La_h_paint_6 rfl (fun cd => 12) (fun cd σ' hT th hf => ?_) (fun cd a σ' hT => ?_)
    · obtain ⟨z1, -, hT⟩ := hT
      refine zq_ht.hit _ _ hR.2.2.2.2.1 ?_
      obtain ⟨rfl, -⟩ := hT
      exact zq_h1 hG hR hf tk_343 zfc1 (by decide) (by decide)
    · obtain ⟨z1, rfl, hT⟩ := hT
      obtain ⟨rfl, h⟩ := hT
      show zq_W x w 1 6 (z1, g, o) 12 [some (.ref (w.2.1 0)), some (.int a1), some (.int a2), some (.int a3), some (.int a4), none] [.ref a]
      refine zr_astore hG [some (.ref (w.2.1 0)), some (.int a1), some (.int a2), some (.int a3), some (.int a4), some (.ref a)] zd_La_h_paint_12 (Nat.le_of_ble_eq_true rfl) rfl ?_
      refine zr_iconst hG (v := 1) zd_La_h_paint_14 (by decide) ?_
      exact zr_hret hG hR zd_La_h_paint_15 ⟨_, _, _, rfl, rfl, h⟩
def zw_La_h_stitch (ln : Nat → Nat) (a1 a2 : Int32) (z : zS) (o : Nat → Int64) (post : Int32 → zS → (Nat → Int64) → Prop) : Prop := zw_Gr_stitch ln a1 a2 z (fun r z1 => post 0 z1 (vp_updL o (0 : Int32).toNatClampNeg (if r = 0 then 0 else 1))) ∨ zw_Gr_stitch_X ln a1 a2 z (fun c z1 => (c = 1 ∧ post 1 z1 o))
set_option maxHeartbeats 4000000 in
set_option maxRecDepth 100000 in
theorem zm_La_h_stitch (l : Launch) (hfl : l.flags = pinnedFlags ++ [noTraceFlag]) (w : zW) (hAp : zq_Ap w) (g : zS) {a1 a2 : Int32} {z : zS} {o : Nat → Int64} {post : Int32 → zS → (Nat → Int64) → Prop} (h : zw_La_h_stitch w.2.2.1 a1 a2 z o post) : zq_MH l w zy_La_h_stitch zc_La_h_stitch 5 [(0, 17, 20, 13)] (zq_rx 7 133) [.ref (w.2.1 0), .int a1, .int a2, .ref (w.2.1 40)] (z, g, o) (zq_PH g post) := by
  refine zq_mk_H (by decide) (by simp [Value.category]) (Nat.le_of_ble_eq_true rfl) hAp (fun x hx hG hR => ?_)
  subst hx
  have hW : zq_Wr x w := zq_wr hR.2.2.1
  have hG : zq_G x w "GridRouterLaw" zc_La_h_stitch 5 (zq_rx 7 133) := hG
  rcases h with h | h
  · refine zr_widen (k' := 1) (n' := 6) (by decide) (by decide) ?_
    refine zr_aload_n hG zd_La_h_stitch_0 rfl rfl ?_
    refine zr_iconst hG (v := 0) zd_La_h_stitch_1 (by decide) ?_
    refine zr_aload_n hG zd_La_h_stitch_2 rfl rfl ?_
    refine zr_iload_n hG zd_La_h_stitch_3 rfl rfl ?_
    refine zr_iload_n hG zd_La_h_stitch_4 rfl rfl ?_
    refine zr_callV hG (zq_F1 hW) (As := [.int a1, .int a2]) (rest := [.int (0 : Int32), .ref (w.2.1 40)]) (zm_Gr_stitch (zc_l x) w hAp g o h) 0 rfl rfl rfl zg_La_42 zdd_Gr_stitch ⟨rfl, rfl, by decide, by decide⟩ ⟨by decide, by decide⟩ rfl (Nat.le_of_ble_eq_true rfl) zd_La_h_stitch_5 rfl ?_
    rintro _ _ ⟨r, z1, rfl, rfl, h⟩
    have h : post 0 z1 (vp_updL o (0 : Int32).toNatClampNeg (if r = 0 then 0 else 1)) := h
    refine zr_if_eq hG 15 zd_La_h_stitch_8 (by decide) (fun hc => ?_) (fun hc => ?_)
    · rw [if_pos hc] at h
      refine zr_lconst hG (v := 0) zd_La_h_stitch_15 (by decide) ?_
      refine zu_40 hG hW zd_La_h_stitch_16 ?_
      refine zr_goto hG 24 zd_La_h_stitch_17 (by decide) ?_
      refine zr_iconst hG (v := 0) zd_La_h_stitch_24 (by decide) ?_
      exact zr_hret hG hR zd_La_h_stitch_25 ⟨_, _, _, rfl, rfl, h⟩
    · rw [if_neg hc] at h
      refine zr_lconst hG (v := 1) zd_La_h_stitch_11 (by decide) ?_
      refine zr_goto hG 16 zd_La_h_stitch_12 (by decide) ?_
      refine zu_40 hG hW zd_La_h_stitch_16 ?_
      refine zr_goto hG 24 zd_La_h_stitch_17 (by decide) ?_
      refine zr_iconst hG (v := 0) zd_La_h_stitch_24 (by decide) ?_
      exact zr_hret hG hR zd_La_h_stitch_25 ⟨_, _, _, rfl, rfl, h⟩
  · refine zr_aload_n hG zd_La_h_stitch_0 rfl rfl ?_
    refine zr_iconst hG (v := 0) zd_La_h_stitch_1 (by decide) ?_
    refine zr_aload_n hG zd_La_h_stitch_2 rfl rfl ?_
    refine zr_iload_n hG zd_La_h_stitch_3 rfl rfl ?_
    refine zr_iload_n hG zd_La_h_stitch_4 rfl rfl ?_
    refine zr_callX hG hR.2.2.1 hR.2.2.2.2.2.2 (As := [.int a1, .int a2]) (rest := [.int (0 : Int32), .ref (w.2.1 40)]) (zm_Gr_stitch_X (zc_l x) hfl w hAp g o h) 0 rfl rfl rfl zg_La_42 zdd_Gr_stitch ⟨rfl, rfl, by decide, by decide⟩ ⟨by decide, by decide⟩ rfl (Nat.le_of_ble_eq_true rfl) zd_La_h_stitch_5 rfl (fun cd => 20) (fun cd σ' hT th hf => ?_) (fun cd a σ' hT => ?_)
    · obtain ⟨z1, -, hT⟩ := hT
      refine zq_ht.hit _ _ hR.2.2.2.2.1 ?_
      obtain ⟨rfl, -⟩ := hT
      exact zq_h1 hG hR hf tk_343 zfc1 (by decide) (by decide)
    · obtain ⟨z1, rfl, hT⟩ := hT
      obtain ⟨rfl, h⟩ := hT
      show zq_W x w 1 6 (z1, g, o) 20 [some (.ref (w.2.1 0)), some (.int a1), some (.int a2), some (.ref (w.2.1 40)), none] [.ref a]
      refine zr_astore hG [some (.ref (w.2.1 0)), some (.int a1), some (.int a2), some (.ref (w.2.1 40)), some (.ref a)] zd_La_h_stitch_20 (Nat.le_of_ble_eq_true rfl) rfl ?_
      refine zr_iconst hG (v := 1) zd_La_h_stitch_22 (by decide) ?_
      exact zr_hret hG hR zd_La_h_stitch_23 ⟨_, _, _, rfl, rfl, h⟩
def zw_La_h_cell (ln : Nat → Nat) (a1 a2 a3 : Int32) (z : zS) (o : Nat → Int64) (post : Int32 → zS → (Nat → Int64) → Prop) : Prop := zw_Gr_cell ln a1 a2 a3 z (fun r z1 => post 0 z1 (vp_updL o (0 : Int32).toNatClampNeg r.toInt64)) ∨ zw_Gr_cell_X ln a1 a2 a3 z (fun c z1 => (c = 1 ∧ post 1 z1 o))
set_option maxHeartbeats 4000000 in
set_option maxRecDepth 100000 in
theorem zm_La_h_cell (l : Launch) (hfl : l.flags = pinnedFlags ++ [noTraceFlag]) (w : zW) (hAp : zq_Ap w) (g : zS) {a1 a2 a3 : Int32} {z : zS} {o : Nat → Int64} {post : Int32 → zS → (Nat → Int64) → Prop} (h : zw_La_h_cell w.2.2.1 a1 a2 a3 z o post) : zq_MH l w zy_La_h_cell zc_La_h_cell 6 [(0, 12, 15, 13)] (zq_rx 7 133) [.ref (w.2.1 0), .int a1, .int a2, .int a3, .ref (w.2.1 40)] (z, g, o) (zq_PH g post) := by
  refine zq_mk_H (by decide) (by simp [Value.category]) (Nat.le_of_ble_eq_true rfl) hAp (fun x hx hG hR => ?_)
  subst hx
  have hW : zq_Wr x w := zq_wr hR.2.2.1
  have hG : zq_G x w "GridRouterLaw" zc_La_h_cell 6 (zq_rx 7 133) := hG
  rcases h with h | h
  · refine zr_widen (k' := 1) (n' := 6) (by decide) (by decide) ?_
    refine zr_aload hG zd_La_h_cell_0 rfl ?_
    refine zr_iconst hG (v := 0) zd_La_h_cell_2 (by decide) ?_
    refine zr_aload_n hG zd_La_h_cell_3 rfl rfl ?_
    refine zr_iload_n hG zd_La_h_cell_4 rfl rfl ?_
    refine zr_iload_n hG zd_La_h_cell_5 rfl rfl ?_
    refine zr_iload_n hG zd_La_h_cell_6 rfl rfl ?_
    refine zr_callV hG zq_F0 (As := [.int a1, .int a2, .int a3]) (rest := [.int (0 : Int32), .ref (w.2.1 40)]) (zm_Gr_cell (zc_l x) w hAp g o h) 0 rfl rfl rfl zg_La_46 zdd_Gr_cell ⟨rfl, rfl, by decide, by decide⟩ ⟨by decide, by decide⟩ rfl (Nat.le_of_ble_eq_true rfl) zd_La_h_cell_7 rfl ?_
    rintro _ _ ⟨r, z1, rfl, rfl, h⟩
    have h : post 0 z1 (vp_updL o (0 : Int32).toNatClampNeg r.toInt64) := h
    refine zr_i2l hG zd_La_h_cell_10 ?_
    refine zu_40 hG hW zd_La_h_cell_11 ?_
    refine zr_goto hG 19 zd_La_h_cell_12 (by decide) ?_
    refine zr_iconst hG (v := 0) zd_La_h_cell_19 (by decide) ?_
    exact zr_hret hG hR zd_La_h_cell_20 ⟨_, _, _, rfl, rfl, h⟩
  · refine zr_aload hG zd_La_h_cell_0 rfl ?_
    refine zr_iconst hG (v := 0) zd_La_h_cell_2 (by decide) ?_
    refine zr_aload_n hG zd_La_h_cell_3 rfl rfl ?_
    refine zr_iload_n hG zd_La_h_cell_4 rfl rfl ?_
    refine zr_iload_n hG zd_La_h_cell_5 rfl rfl ?_
    refine zr_iload_n hG zd_La_h_cell_6 rfl rfl ?_
    refine zr_callX hG hR.2.2.1 hR.2.2.2.2.2.2 (As := [.int a1, .int a2, .int a3]) (rest := [.int (0 : Int32), .ref (w.2.1 40)]) (zm_Gr_cell_X (zc_l x) hfl w hAp g o h) 0 rfl rfl rfl zg_La_46 zdd_Gr_cell ⟨rfl, rfl, by decide, by decide⟩ ⟨by decide, by decide⟩ rfl (Nat.le_of_ble_eq_true rfl) zd_La_h_cell_7 rfl (fun cd => 15) (fun cd σ' hT th hf => ?_) (fun cd a σ' hT => ?_)
    · obtain ⟨z1, -, hT⟩ := hT
      refine zq_ht.hit _ _ hR.2.2.2.2.1 ?_
      obtain ⟨rfl, -⟩ := hT
      exact zq_h1 hG hR hf tk_343 zfc1 (by decide) (by decide)
    · obtain ⟨z1, rfl, hT⟩ := hT
      obtain ⟨rfl, h⟩ := hT
      show zq_W x w 1 6 (z1, g, o) 15 [some (.ref (w.2.1 0)), some (.int a1), some (.int a2), some (.int a3), some (.ref (w.2.1 40)), none] [.ref a]
      refine zr_astore hG [some (.ref (w.2.1 0)), some (.int a1), some (.int a2), some (.int a3), some (.ref (w.2.1 40)), some (.ref a)] zd_La_h_cell_15 (Nat.le_of_ble_eq_true rfl) rfl ?_
      refine zr_iconst hG (v := 1) zd_La_h_cell_17 (by decide) ?_
      exact zr_hret hG hR zd_La_h_cell_18 ⟨_, _, _, rfl, rfl, h⟩
def zw_La_h_via (ln : Nat → Nat) (a1 a2 : Int32) (z : zS) (o : Nat → Int64) (post : Int32 → zS → (Nat → Int64) → Prop) : Prop := zw_Gr_via ln a1 a2 z (fun r z1 => post 0 z1 (vp_updL o (0 : Int32).toNatClampNeg (if r = 0 then 0 else 1))) ∨ zw_Gr_via_X ln a1 a2 z (fun c z1 => (c = 1 ∧ post 1 z1 o))
set_option maxHeartbeats 4000000 in
set_option maxRecDepth 100000 in
theorem zm_La_h_via (l : Launch) (hfl : l.flags = pinnedFlags ++ [noTraceFlag]) (w : zW) (hAp : zq_Ap w) (g : zS) {a1 a2 : Int32} {z : zS} {o : Nat → Int64} {post : Int32 → zS → (Nat → Int64) → Prop} (h : zw_La_h_via w.2.2.1 a1 a2 z o post) : zq_MH l w zy_La_h_via zc_La_h_via 5 [(0, 17, 20, 13)] (zq_rx 7 132) [.ref (w.2.1 0), .int a1, .int a2, .ref (w.2.1 40)] (z, g, o) (zq_PH g post) := by
  refine zq_mk_H (by decide) (by simp [Value.category]) (Nat.le_of_ble_eq_true rfl) hAp (fun x hx hG hR => ?_)
  subst hx
  have hW : zq_Wr x w := zq_wr hR.2.2.1
  have hG : zq_G x w "GridRouterLaw" zc_La_h_via 5 (zq_rx 7 132) := hG
  rcases h with h | h
  · refine zr_widen (k' := 1) (n' := 6) (by decide) (by decide) ?_
    refine zr_aload_n hG zd_La_h_via_0 rfl rfl ?_
    refine zr_iconst hG (v := 0) zd_La_h_via_1 (by decide) ?_
    refine zr_aload_n hG zd_La_h_via_2 rfl rfl ?_
    refine zr_iload_n hG zd_La_h_via_3 rfl rfl ?_
    refine zr_iload_n hG zd_La_h_via_4 rfl rfl ?_
    refine zr_callV hG zq_F0 (As := [.int a1, .int a2]) (rest := [.int (0 : Int32), .ref (w.2.1 40)]) (zm_Gr_via (zc_l x) w hAp g o h) 0 rfl rfl rfl zg_La_50 zdd_Gr_via ⟨rfl, rfl, by decide, by decide⟩ ⟨by decide, by decide⟩ rfl (Nat.le_of_ble_eq_true rfl) zd_La_h_via_5 rfl ?_
    rintro _ _ ⟨r, z1, rfl, rfl, h⟩
    have h : post 0 z1 (vp_updL o (0 : Int32).toNatClampNeg (if r = 0 then 0 else 1)) := h
    refine zr_if_eq hG 15 zd_La_h_via_8 (by decide) (fun hc => ?_) (fun hc => ?_)
    · rw [if_pos hc] at h
      refine zr_lconst hG (v := 0) zd_La_h_via_15 (by decide) ?_
      refine zu_40 hG hW zd_La_h_via_16 ?_
      refine zr_goto hG 24 zd_La_h_via_17 (by decide) ?_
      refine zr_iconst hG (v := 0) zd_La_h_via_24 (by decide) ?_
      exact zr_hret hG hR zd_La_h_via_25 ⟨_, _, _, rfl, rfl, h⟩
    · rw [if_neg hc] at h
      refine zr_lconst hG (v := 1) zd_La_h_via_11 (by decide) ?_
      refine zr_goto hG 16 zd_La_h_via_12 (by decide) ?_
      refine zu_40 hG hW zd_La_h_via_16 ?_
      refine zr_goto hG 24 zd_La_h_via_17 (by decide) ?_
      refine zr_iconst hG (v := 0) zd_La_h_via_24 (by decide) ?_
      exact zr_hret hG hR zd_La_h_via_25 ⟨_, _, _, rfl, rfl, h⟩
  · refine zr_aload_n hG zd_La_h_via_0 rfl rfl ?_
    refine zr_iconst hG (v := 0) zd_La_h_via_1 (by decide) ?_
    refine zr_aload_n hG zd_La_h_via_2 rfl rfl ?_
    refine zr_iload_n hG zd_La_h_via_3 rfl rfl ?_
    refine zr_iload_n hG zd_La_h_via_4 rfl rfl ?_
    refine zr_callX hG hR.2.2.1 hR.2.2.2.2.2.2 (As := [.int a1, .int a2]) (rest := [.int (0 : Int32), .ref (w.2.1 40)]) (zm_Gr_via_X (zc_l x) hfl w hAp g o h) 0 rfl rfl rfl zg_La_50 zdd_Gr_via ⟨rfl, rfl, by decide, by decide⟩ ⟨by decide, by decide⟩ rfl (Nat.le_of_ble_eq_true rfl) zd_La_h_via_5 rfl (fun cd => 20) (fun cd σ' hT th hf => ?_) (fun cd a σ' hT => ?_)
    · obtain ⟨z1, -, hT⟩ := hT
      refine zq_ht.hit _ _ hR.2.2.2.2.1 ?_
      obtain ⟨rfl, -⟩ := hT
      exact zq_h1 hG hR hf tk_343 zfc1 (by decide) (by decide)
    · obtain ⟨z1, rfl, hT⟩ := hT
      obtain ⟨rfl, h⟩ := hT
      show zq_W x w 1 6 (z1, g, o) 20 [some (.ref (w.2.1 0)), some (.int a1), some (.int a2), some (.ref (w.2.1 40)), none] [.ref a]
      refine zr_astore hG [some (.ref (w.2.1 0)), some (.int a1), some (.int a2), some (.ref (w.2.1 40)), some (.ref a)] zd_La_h_via_20 (Nat.le_of_ble_eq_true rfl) rfl ?_
      refine zr_iconst hG (v := 1) zd_La_h_via_22 (by decide) ?_
      exact zr_hret hG hR zd_La_h_via_23 ⟨_, _, _, rfl, rfl, h⟩
def zw_La_h_faults (ln : Nat → Nat) (a1 : Int32) (z : zS) (o : Nat → Int64) (post : Int32 → zS → (Nat → Int64) → Prop) : Prop := zw_Gr_faults ln a1 z (fun r z1 => post 0 z1 (vp_updL o (0 : Int32).toNatClampNeg r.toInt64)) ∨ zw_Gr_faults_X ln a1 z (fun c z1 => (c = 2 ∧ post 1 z1 o))
set_option maxHeartbeats 4000000 in
set_option maxRecDepth 100000 in
theorem zm_La_h_faults (l : Launch) (hfl : l.flags = pinnedFlags ++ [noTraceFlag]) (w : zW) (hAp : zq_Ap w) (g : zS) {a1 : Int32} {z : zS} {o : Nat → Int64} {post : Int32 → zS → (Nat → Int64) → Prop} (h : zw_La_h_faults w.2.2.1 a1 z o post) : zq_MH l w zy_La_h_faults zc_La_h_faults 4 [(0, 9, 12, 21)] (zq_rx 7 131) [.ref (w.2.1 0), .int a1, .ref (w.2.1 40)] (z, g, o) (zq_PH g post) := by
  refine zq_mk_H (by decide) (by simp [Value.category]) (Nat.le_of_ble_eq_true rfl) hAp (fun x hx hG hR => ?_)
  subst hx
  have hW : zq_Wr x w := zq_wr hR.2.2.1
  have hG : zq_G x w "GridRouterLaw" zc_La_h_faults 4 (zq_rx 7 131) := hG
  rcases h with h | h
  · refine zr_widen (k' := 1) (n' := 6) (by decide) (by decide) ?_
    refine zr_aload_n hG zd_La_h_faults_0 rfl rfl ?_
    refine zr_iconst hG (v := 0) zd_La_h_faults_1 (by decide) ?_
    refine zr_aload_n hG zd_La_h_faults_2 rfl rfl ?_
    refine zr_iload_n hG zd_La_h_faults_3 rfl rfl ?_
    refine zr_callV hG (zq_F1 hW) (As := [.int a1]) (rest := [.int (0 : Int32), .ref (w.2.1 40)]) (zm_Gr_faults (zc_l x) w hAp g o h) 0 rfl rfl rfl zg_La_53 zdd_Gr_faults ⟨rfl, rfl, by decide, by decide⟩ ⟨by decide, by decide⟩ rfl (Nat.le_of_ble_eq_true rfl) zd_La_h_faults_4 rfl ?_
    rintro _ _ ⟨r, z1, rfl, rfl, h⟩
    have h : post 0 z1 (vp_updL o (0 : Int32).toNatClampNeg r.toInt64) := h
    refine zr_i2l hG zd_La_h_faults_7 ?_
    refine zu_40 hG hW zd_La_h_faults_8 ?_
    refine zr_goto hG 15 zd_La_h_faults_9 (by decide) ?_
    refine zr_iconst hG (v := 0) zd_La_h_faults_15 (by decide) ?_
    exact zr_hret hG hR zd_La_h_faults_16 ⟨_, _, _, rfl, rfl, h⟩
  · refine zr_aload_n hG zd_La_h_faults_0 rfl rfl ?_
    refine zr_iconst hG (v := 0) zd_La_h_faults_1 (by decide) ?_
    refine zr_aload_n hG zd_La_h_faults_2 rfl rfl ?_
    refine zr_iload_n hG zd_La_h_faults_3 rfl rfl ?_
    refine zr_callX hG hR.2.2.1 hR.2.2.2.2.2.2 (As := [.int a1]) (rest := [.int (0 : Int32), .ref (w.2.1 40)]) (zm_Gr_faults_X (zc_l x) hfl w hAp g o h) 0 rfl rfl rfl zg_La_53 zdd_Gr_faults ⟨rfl, rfl, by decide, by decide⟩ ⟨by decide, by decide⟩ rfl (Nat.le_of_ble_eq_true rfl) zd_La_h_faults_4 rfl (fun cd => 12) (fun cd σ' hT th hf => ?_) (fun cd a σ' hT => ?_)
    · obtain ⟨z1, -, hT⟩ := hT
      refine zq_ht.hit _ _ hR.2.2.2.2.1 ?_
      obtain ⟨rfl, -⟩ := hT
      exact zq_h1 hG hR hf tk_448 zfc2 (by decide) (by decide)
    · obtain ⟨z1, rfl, hT⟩ := hT
      obtain ⟨rfl, h⟩ := hT
      show zq_W x w 1 6 (z1, g, o) 12 [some (.ref (w.2.1 0)), some (.int a1), some (.ref (w.2.1 40)), none] [.ref a]
      refine zr_astore_n hG [some (.ref (w.2.1 0)), some (.int a1), some (.ref (w.2.1 40)), some (.ref a)] zd_La_h_faults_12 rfl (Nat.le_of_ble_eq_true rfl) rfl ?_
      refine zr_iconst hG (v := 1) zd_La_h_faults_13 (by decide) ?_
      exact zr_hret hG hR zd_La_h_faults_14 ⟨_, _, _, rfl, rfl, h⟩
def zw_La_h_shape (ln : Nat → Nat) (a1 a2 : Int32) (z : zS) (o : Nat → Int64) (post : Int32 → zS → (Nat → Int64) → Prop) : Prop := zw_Gr_shape ln a1 a2 z (fun r z1 => post 0 z1 (vp_updL o (0 : Int32).toNatClampNeg r.toInt64)) ∨ zw_Gr_shape_X ln a1 a2 z (fun c z1 => (c = 1 ∧ post 1 z1 o) ∨ (c = 2 ∧ post 2 z1 o))
set_option maxHeartbeats 4000000 in
set_option maxRecDepth 100000 in
theorem zm_La_h_shape (l : Launch) (hfl : l.flags = pinnedFlags ++ [noTraceFlag]) (w : zW) (hAp : zq_Ap w) (g : zS) {a1 a2 : Int32} {z : zS} {o : Nat → Int64} {post : Int32 → zS → (Nat → Int64) → Prop} (h : zw_La_h_shape w.2.2.1 a1 a2 z o post) : zq_MH l w zy_La_h_shape zc_La_h_shape 5 [(0, 10, 13, 13), (0, 10, 17, 21)] (zq_rx 7 133) [.ref (w.2.1 0), .int a1, .int a2, .ref (w.2.1 40)] (z, g, o) (zq_PH g post) := by
  refine zq_mk_H (by decide) (by simp [Value.category]) (Nat.le_of_ble_eq_true rfl) hAp (fun x hx hG hR => ?_)
  subst hx
  have hW : zq_Wr x w := zq_wr hR.2.2.1
  have hG : zq_G x w "GridRouterLaw" zc_La_h_shape 5 (zq_rx 7 133) := hG
  rcases h with h | h
  · refine zr_widen (k' := 1) (n' := 6) (by decide) (by decide) ?_
    refine zr_aload_n hG zd_La_h_shape_0 rfl rfl ?_
    refine zr_iconst hG (v := 0) zd_La_h_shape_1 (by decide) ?_
    refine zr_aload_n hG zd_La_h_shape_2 rfl rfl ?_
    refine zr_iload_n hG zd_La_h_shape_3 rfl rfl ?_
    refine zr_iload_n hG zd_La_h_shape_4 rfl rfl ?_
    refine zr_callV hG zq_F0 (As := [.int a1, .int a2]) (rest := [.int (0 : Int32), .ref (w.2.1 40)]) (zm_Gr_shape (zc_l x) w hAp g o h) 0 rfl rfl rfl zg_La_56 zdd_Gr_shape ⟨rfl, rfl, by decide, by decide⟩ ⟨by decide, by decide⟩ rfl (Nat.le_of_ble_eq_true rfl) zd_La_h_shape_5 rfl ?_
    rintro _ _ ⟨r, z1, rfl, rfl, h⟩
    have h : post 0 z1 (vp_updL o (0 : Int32).toNatClampNeg r.toInt64) := h
    refine zr_i2l hG zd_La_h_shape_8 ?_
    refine zu_40 hG hW zd_La_h_shape_9 ?_
    refine zr_goto hG 21 zd_La_h_shape_10 (by decide) ?_
    refine zr_iconst hG (v := 0) zd_La_h_shape_21 (by decide) ?_
    exact zr_hret hG hR zd_La_h_shape_22 ⟨_, _, _, rfl, rfl, h⟩
  · refine zr_aload_n hG zd_La_h_shape_0 rfl rfl ?_
    refine zr_iconst hG (v := 0) zd_La_h_shape_1 (by decide) ?_
    refine zr_aload_n hG zd_La_h_shape_2 rfl rfl ?_
    refine zr_iload_n hG zd_La_h_shape_3 rfl rfl ?_
    refine zr_iload_n hG zd_La_h_shape_4 rfl rfl ?_
    refine zr_callX hG hR.2.2.1 hR.2.2.2.2.2.2 (As := [.int a1, .int a2]) (rest := [.int (0 : Int32), .ref (w.2.1 40)]) (zm_Gr_shape_X (zc_l x) hfl w hAp g o h) 0 rfl rfl rfl zg_La_56 zdd_Gr_shape ⟨rfl, rfl, by decide, by decide⟩ ⟨by decide, by decide⟩ rfl (Nat.le_of_ble_eq_true rfl) zd_La_h_shape_5 rfl (fun cd => if cd = 1 then 13 else 17) (fun cd σ' hT th hf => ?_) (fun cd a σ' hT => ?_)
    · obtain ⟨z1, -, hT⟩ := hT
      refine zq_ht.hit _ _ hR.2.2.2.2.1 ?_
      rcases hT with ⟨rfl, -⟩ | ⟨rfl, -⟩
      · exact zq_h1 hG hR hf tk_343 zfc1 (by decide) (by decide)
      · exact zq_h2 hG hR hf tk_343 (List.mem_of_getElem? (i := 1) rfl) (by decide) (by decide) (zq_h1 hG hR hf tk_448 zfc2 (by decide) (by decide))
    · obtain ⟨z1, rfl, hT⟩ := hT
      rcases hT with ⟨rfl, h⟩ | ⟨rfl, h⟩
      · show zq_W x w 1 6 (z1, g, o) 13 [some (.ref (w.2.1 0)), some (.int a1), some (.int a2), some (.ref (w.2.1 40)), none] [.ref a]
        refine zr_astore hG [some (.ref (w.2.1 0)), some (.int a1), some (.int a2), some (.ref (w.2.1 40)), some (.ref a)] zd_La_h_shape_13 (Nat.le_of_ble_eq_true rfl) rfl ?_
        refine zr_iconst hG (v := 1) zd_La_h_shape_15 (by decide) ?_
        exact zr_hret hG hR zd_La_h_shape_16 ⟨_, _, _, rfl, rfl, h⟩
      · show zq_W x w 1 6 (z1, g, o) 17 [some (.ref (w.2.1 0)), some (.int a1), some (.int a2), some (.ref (w.2.1 40)), none] [.ref a]
        refine zr_astore hG [some (.ref (w.2.1 0)), some (.int a1), some (.int a2), some (.ref (w.2.1 40)), some (.ref a)] zd_La_h_shape_17 (Nat.le_of_ble_eq_true rfl) rfl ?_
        refine zr_iconst hG (v := 2) zd_La_h_shape_19 (by decide) ?_
        exact zr_hret hG hR zd_La_h_shape_20 ⟨_, _, _, rfl, rfl, h⟩
