def zw_Gr_block_X_86 (ln : Nat → Nat) (post : Nat → zS → Prop) (u0 u1 : Int32) (z : zS) : Prop := False
set_option maxHeartbeats 4000000 in
set_option maxRecDepth 100000 in
theorem zt_Gr_block_X_86 {x : zC} {w : zW} {g : zS} {o : Nat → Int64} {post : Nat → zS → Prop} (hG : zq_G x w "GridRouter" zc_Gr_block 5 (zq_rx 6 110)) (hR : zq_RX x w (zq_Px g o post)) (hAp : zq_Ap w) {u0 u1 : Int32} {z : zS} (h : zw_Gr_block_X_86 w.2.2.1 post u0 u1 z) : zq_W x w 0 0 (z, g, o) 86 [none, none, none, none, none] [.int u0, .int u1, .ref (w.2.1 13)] := by
  exact h.elim
def zw_Gr_block_X (ln : Nat → Nat) (a1 a2 a3 : Int32) (z : zS) (post : Nat → zS → Prop) : Prop := (zw_Grid_hasCell ln a1 a2 a3 z (fun r3 z3 => ((¬ r3 = 0 → (zw_Grid_cellAt ln a1 a2 a3 z3 (fun r4 z4 => vp_in r4 (ln 5) ∧ (((z4.2 5 r4.toNatClampNeg) = (-1 : Int32) → vp_in r4 (ln 8) ∧ ((¬ (z4.2 8 r4.toNatClampNeg) = 0 → zw_Gr_block_X_86 ln post (0 : Int32) r4 z4) ∧ ((z4.2 8 r4.toNatClampNeg) = 0 → zw_Gr_block_X_86 ln post (1 : Int32) r4 z4))) ∧ (¬ (z4.2 5 r4.toNatClampNeg) = (-1 : Int32) → post 3 z4))))) ∧ (r3 = 0 → post 1 z3))))
set_option maxHeartbeats 4000000 in
set_option maxRecDepth 100000 in
theorem zm_Gr_block_X (l : Launch) (hfl : l.flags = pinnedFlags ++ [noTraceFlag]) (w : zW) (hAp : zq_Ap w) (g : zS) (o : Nat → Int64) {a1 a2 a3 : Int32} {z : zS} {post : Nat → zS → Prop} (h : zw_Gr_block_X w.2.2.1 a1 a2 a3 z post) : zq_MX l w zy_Gr_block zc_Gr_block 5 (some .boolean) (zq_rx 6 110) [.ref (w.2.1 0), .int a1, .int a2, .int a3] (z, g, o) (zq_Px g o post) := by
  refine zq_mk_X (by decide) (by simp [Value.category]) (Nat.le_of_ble_eq_true rfl) hfl hAp (fun x hx hG hR => ?_)
  subst hx
  have h : (zw_Grid_hasCell w.2.2.1 a1 a2 a3 z (fun r3 z3 => ((¬ r3 = 0 → (zw_Grid_cellAt w.2.2.1 a1 a2 a3 z3 (fun r4 z4 => vp_in r4 (w.2.2.1 5) ∧ (((z4.2 5 r4.toNatClampNeg) = (-1 : Int32) → vp_in r4 (w.2.2.1 8) ∧ ((¬ (z4.2 8 r4.toNatClampNeg) = 0 → zw_Gr_block_X_86 w.2.2.1 post (0 : Int32) r4 z4) ∧ ((z4.2 8 r4.toNatClampNeg) = 0 → zw_Gr_block_X_86 w.2.2.1 post (1 : Int32) r4 z4))) ∧ (¬ (z4.2 5 r4.toNatClampNeg) = (-1 : Int32) → post 3 z4))))) ∧ (r3 = 0 → post 1 z3)))) := h
  refine zr_aload_n hG zd_Gr_block_0 rfl rfl ?_
  refine zf_Gr_grid hG tk_299 zd_Gr_block_1 ?_
  refine zr_iload_n hG zd_Gr_block_4 rfl rfl ?_
  refine zr_iload_n hG zd_Gr_block_5 rfl rfl ?_
  refine zr_iload_n hG zd_Gr_block_6 rfl rfl ?_
  refine zr_callV hG zq_F0 (As := [.int a1, .int a2, .int a3]) (rest := []) (zm_Grid_hasCell (zc_l x) w hAp g o h) 1 rfl rfl rfl zg_Gr_72 zdd_Grid_hasCell ⟨rfl, rfl, by decide, by decide⟩ ⟨by decide, by decide⟩ rfl (Nat.le_of_ble_eq_true rfl) zd_Gr_block_7 rfl ?_
  rintro _ _ ⟨r3, z3, rfl, rfl, h⟩
  refine zr_if_ne hG 23 zd_Gr_block_10 (by decide) (fun hc => ?_) (fun hc => ?_)
  · have h := h.1 hc
    refine zr_aload_n hG zd_Gr_block_23 rfl rfl ?_
    refine zf_Gr_grid hG tk_299 zd_Gr_block_24 ?_
    refine zr_iload_n hG zd_Gr_block_27 rfl rfl ?_
    refine zr_iload_n hG zd_Gr_block_28 rfl rfl ?_
    refine zr_iload_n hG zd_Gr_block_29 rfl rfl ?_
    refine zr_callV hG zq_F0 (As := [.int a1, .int a2, .int a3]) (rest := []) (zm_Grid_cellAt (zc_l x) w hAp g o h) 1 rfl rfl rfl zg_Gr_83 zdd_Grid_cellAt ⟨rfl, rfl, by decide, by decide⟩ ⟨by decide, by decide⟩ rfl (Nat.le_of_ble_eq_true rfl) zd_Gr_block_30 rfl ?_
    rintro _ _ ⟨r4, z4, rfl, rfl, h⟩
    refine zr_istore hG [some (.ref (w.2.1 0)), some (.int a1), some (.int a2), some (.int a3), some (.int r4)] zd_Gr_block_33 (Nat.le_of_ble_eq_true rfl) rfl ?_
    refine zr_aload_n hG zd_Gr_block_35 rfl rfl ?_
    refine zf_Gr_nets hG tk_300 zd_Gr_block_36 ?_
    refine zf_Nets_pinOwner hG tk_95 zd_Gr_block_39 ?_
    refine zr_iload hG zd_Gr_block_42 rfl ?_
    obtain ⟨hi, h⟩ := h
    refine zl_8 hG hi zd_Gr_block_44 ?_
    refine zr_iconst hG (v := (-1 : Int32)) zd_Gr_block_45 (by decide) ?_
    refine zr_icmp_eq hG 59 zd_Gr_block_46 (by decide) (fun hc => ?_) (fun hc => ?_)
    · have h := h.1 hc
      refine zr_aload_n hG zd_Gr_block_59 rfl rfl ?_
      refine zf_Gr_rules hG tk_302 zd_Gr_block_60 ?_
      refine zf_Rules_blocked hG tk_150 zd_Gr_block_63 ?_
      refine zr_iload hG zd_Gr_block_66 rfl ?_
      refine zr_aload_n hG zd_Gr_block_68 rfl rfl ?_
      refine zf_Gr_rules hG tk_302 zd_Gr_block_69 ?_
      refine zf_Rules_blocked hG tk_150 zd_Gr_block_72 ?_
      refine zr_iload hG zd_Gr_block_75 rfl ?_
      obtain ⟨hi, h⟩ := h
      refine zl_13 hG hi zd_Gr_block_77 ?_
      refine zr_if_ne hG 85 zd_Gr_block_78 (by decide) (fun hc => ?_) (fun hc => ?_)
      · have h := h.1 hc
        refine zr_iconst hG (v := (0 : Int32)) zd_Gr_block_85 (by decide) ?_
        exact zr_mask [false, false, false, false, false] (zt_Gr_block_X_86 hG hR hAp h)
      · have h := h.2 hc
        refine zr_iconst hG (v := (1 : Int32)) zd_Gr_block_81 (by decide) ?_
        refine zr_goto hG 86 zd_Gr_block_82 (by decide) ?_
        exact zr_mask [false, false, false, false, false] (zt_Gr_block_X_86 hG hR hAp h)
    · have h := h.2 hc
      exact zr_throw (cd := 3) hG hR rfl tk_429 tk_430 tk_17 (List.mem_of_getElem? (i := 1) rfl) (by decide +kernel) zq_own3 ⟨by decide, by decide, by decide, by decide⟩ rfl zd_Gr_block_49 zd_Gr_block_52 zd_Gr_block_53 zd_Gr_block_55 zd_Gr_block_58 ⟨_, rfl, h⟩
  · have h := h.2 hc
    exact zr_throw (cd := 1) hG hR rfl tk_357 tk_358 tk_16 (List.mem_of_getElem? (i := 0) rfl) (by decide +kernel) zq_own1 ⟨by decide, by decide, by decide, by decide⟩ rfl zd_Gr_block_13 zd_Gr_block_16 zd_Gr_block_17 zd_Gr_block_19 zd_Gr_block_22 ⟨_, rfl, h⟩
def zw_Gr_net_X_111 (ln : Nat → Nat) (post : Nat → zS → Prop) (z : zS) : Prop := post 2 z
set_option maxHeartbeats 4000000 in
set_option maxRecDepth 100000 in
theorem zt_Gr_net_X_111 {x : zC} {w : zW} {g : zS} {o : Nat → Int64} {post : Nat → zS → Prop} (hG : zq_G x w "GridRouter" zc_Gr_net 10 (zq_rx 6 110)) (hR : zq_RX x w (zq_Px g o post)) (hAp : zq_Ap w) {z : zS} (h : zw_Gr_net_X_111 w.2.2.1 post z) : zq_W x w 0 0 (z, g, o) 111 [none, none, none, none, none, none, none, none, none, none] [] := by
  exact zr_throw (cd := 2) hG hR rfl tk_461 tk_462 tk_18 (List.mem_of_getElem? (i := 2) rfl) (by decide +kernel) zq_own2 ⟨by decide, by decide, by decide, by decide⟩ rfl zd_Gr_net_111 zd_Gr_net_114 zd_Gr_net_115 zd_Gr_net_117 zd_Gr_net_120 ⟨_, rfl, h⟩
def zw_Gr_net_X_29 (ln : Nat → Nat) (post : Nat → zS → Prop) (z : zS) : Prop := post 1 z
set_option maxHeartbeats 4000000 in
set_option maxRecDepth 100000 in
theorem zt_Gr_net_X_29 {x : zC} {w : zW} {g : zS} {o : Nat → Int64} {post : Nat → zS → Prop} (hG : zq_G x w "GridRouter" zc_Gr_net 10 (zq_rx 6 110)) (hR : zq_RX x w (zq_Px g o post)) (hAp : zq_Ap w) {z : zS} (h : zw_Gr_net_X_29 w.2.2.1 post z) : zq_W x w 0 0 (z, g, o) 29 [none, none, none, none, none, none, none, none, none, none] [] := by
  exact zr_throw (cd := 1) hG hR rfl tk_357 tk_358 tk_16 (List.mem_of_getElem? (i := 0) rfl) (by decide +kernel) zq_own1 ⟨by decide, by decide, by decide, by decide⟩ rfl zd_Gr_net_29 zd_Gr_net_32 zd_Gr_net_33 zd_Gr_net_35 zd_Gr_net_38 ⟨_, rfl, h⟩
def zw_Gr_net_X (ln : Nat → Nat) (a1 a2 a3 a4 a5 a6 : Int32) (z : zS) (post : Nat → zS → Prop) : Prop := (zw_Grid_hasCell ln a1 a2 a3 z (fun r12 z12 => ((r12 = 0 → zw_Gr_net_X_29 ln post z12) ∧ (¬ r12 = 0 → (zw_Grid_hasCell ln a4 a5 a6 z12 (fun r13 z13 => ((¬ r13 = 0 → (zw_Grid_cellAt ln a1 a2 a3 z13 (fun r14 z14 => (zw_Grid_cellAt ln a4 a5 a6 z14 (fun r15 z15 => ((r14 = r15 → zw_Gr_net_X_111 ln post z15) ∧ (¬ r14 = r15 → (zw_Rules_isBarred ln r14 (z15.1 4) z15 (fun r16 z16 => ((¬ r16 = 0 → zw_Gr_net_X_111 ln post z16) ∧ (r16 = 0 → (zw_Rules_isBarred ln r15 (z16.1 4) z16 (fun r17 z17 => ((r17 = 0 → (((z17.1 4) < (6 : Int32) → False) ∧ (¬ (z17.1 4) < (6 : Int32) → post 3 z17))) ∧ (¬ r17 = 0 → zw_Gr_net_X_111 ln post z17))))))))))))))) ∧ (r13 = 0 → zw_Gr_net_X_29 ln post z13))))))))
set_option maxHeartbeats 4000000 in
set_option maxRecDepth 100000 in
theorem zm_Gr_net_X (l : Launch) (hfl : l.flags = pinnedFlags ++ [noTraceFlag]) (w : zW) (hAp : zq_Ap w) (g : zS) (o : Nat → Int64) {a1 a2 a3 a4 a5 a6 : Int32} {z : zS} {post : Nat → zS → Prop} (h : zw_Gr_net_X w.2.2.1 a1 a2 a3 a4 a5 a6 z post) : zq_MX l w zy_Gr_net zc_Gr_net 10 (some .int) (zq_rx 6 110) [.ref (w.2.1 0), .int a1, .int a2, .int a3, .int a4, .int a5, .int a6] (z, g, o) (zq_Px g o post) := by
  refine zq_mk_X (by decide) (by simp [Value.category]) (Nat.le_of_ble_eq_true rfl) hfl hAp (fun x hx hG hR => ?_)
  subst hx
  have h : (zw_Grid_hasCell w.2.2.1 a1 a2 a3 z (fun r12 z12 => ((r12 = 0 → zw_Gr_net_X_29 w.2.2.1 post z12) ∧ (¬ r12 = 0 → (zw_Grid_hasCell w.2.2.1 a4 a5 a6 z12 (fun r13 z13 => ((¬ r13 = 0 → (zw_Grid_cellAt w.2.2.1 a1 a2 a3 z13 (fun r14 z14 => (zw_Grid_cellAt w.2.2.1 a4 a5 a6 z14 (fun r15 z15 => ((r14 = r15 → zw_Gr_net_X_111 w.2.2.1 post z15) ∧ (¬ r14 = r15 → (zw_Rules_isBarred w.2.2.1 r14 (z15.1 4) z15 (fun r16 z16 => ((¬ r16 = 0 → zw_Gr_net_X_111 w.2.2.1 post z16) ∧ (r16 = 0 → (zw_Rules_isBarred w.2.2.1 r15 (z16.1 4) z16 (fun r17 z17 => ((r17 = 0 → (((z17.1 4) < (6 : Int32) → False) ∧ (¬ (z17.1 4) < (6 : Int32) → post 3 z17))) ∧ (¬ r17 = 0 → zw_Gr_net_X_111 w.2.2.1 post z17))))))))))))))) ∧ (r13 = 0 → zw_Gr_net_X_29 w.2.2.1 post z13)))))))) := h
  refine zr_aload_n hG zd_Gr_net_0 rfl rfl ?_
  refine zf_Gr_grid hG tk_299 zd_Gr_net_1 ?_
  refine zr_iload_n hG zd_Gr_net_4 rfl rfl ?_
  refine zr_iload_n hG zd_Gr_net_5 rfl rfl ?_
  refine zr_iload_n hG zd_Gr_net_6 rfl rfl ?_
  refine zr_callV hG zq_F0 (As := [.int a1, .int a2, .int a3]) (rest := []) (zm_Grid_hasCell (zc_l x) w hAp g o h) 1 rfl rfl rfl zg_Gr_72 zdd_Grid_hasCell ⟨rfl, rfl, by decide, by decide⟩ ⟨by decide, by decide⟩ rfl (Nat.le_of_ble_eq_true rfl) zd_Gr_net_7 rfl ?_
  rintro _ _ ⟨r12, z12, rfl, rfl, h⟩
  refine zr_if_eq hG 29 zd_Gr_net_10 (by decide) (fun hc => ?_) (fun hc => ?_)
  · have h := h.1 hc
    exact zr_mask [false, false, false, false, false, false, false, false, false, false] (zt_Gr_net_X_29 hG hR hAp h)
  · have h := h.2 hc
    refine zr_aload_n hG zd_Gr_net_13 rfl rfl ?_
    refine zf_Gr_grid hG tk_299 zd_Gr_net_14 ?_
    refine zr_iload hG zd_Gr_net_17 rfl ?_
    refine zr_iload hG zd_Gr_net_19 rfl ?_
    refine zr_iload hG zd_Gr_net_21 rfl ?_
    refine zr_callV hG zq_F0 (As := [.int a4, .int a5, .int a6]) (rest := []) (zm_Grid_hasCell (zc_l x) w hAp g o h) 1 rfl rfl rfl zg_Gr_72 zdd_Grid_hasCell ⟨rfl, rfl, by decide, by decide⟩ ⟨by decide, by decide⟩ rfl (Nat.le_of_ble_eq_true rfl) zd_Gr_net_23 rfl ?_
    rintro _ _ ⟨r13, z13, rfl, rfl, h⟩
    refine zr_if_ne hG 39 zd_Gr_net_26 (by decide) (fun hc => ?_) (fun hc => ?_)
    · have h := h.1 hc
      refine zr_aload_n hG zd_Gr_net_39 rfl rfl ?_
      refine zf_Gr_grid hG tk_299 zd_Gr_net_40 ?_
      refine zr_iload_n hG zd_Gr_net_43 rfl rfl ?_
      refine zr_iload_n hG zd_Gr_net_44 rfl rfl ?_
      refine zr_iload_n hG zd_Gr_net_45 rfl rfl ?_
      refine zr_callV hG zq_F0 (As := [.int a1, .int a2, .int a3]) (rest := []) (zm_Grid_cellAt (zc_l x) w hAp g o h) 1 rfl rfl rfl zg_Gr_83 zdd_Grid_cellAt ⟨rfl, rfl, by decide, by decide⟩ ⟨by decide, by decide⟩ rfl (Nat.le_of_ble_eq_true rfl) zd_Gr_net_46 rfl ?_
      rintro _ _ ⟨r14, z14, rfl, rfl, h⟩
      refine zr_istore hG [some (.ref (w.2.1 0)), some (.int a1), some (.int a2), some (.int a3), some (.int a4), some (.int a5), some (.int a6), some (.int r14), none, none] zd_Gr_net_49 (Nat.le_of_ble_eq_true rfl) rfl ?_
      refine zr_aload_n hG zd_Gr_net_51 rfl rfl ?_
      refine zf_Gr_grid hG tk_299 zd_Gr_net_52 ?_
      refine zr_iload hG zd_Gr_net_55 rfl ?_
      refine zr_iload hG zd_Gr_net_57 rfl ?_
      refine zr_iload hG zd_Gr_net_59 rfl ?_
      refine zr_callV hG zq_F0 (As := [.int a4, .int a5, .int a6]) (rest := []) (zm_Grid_cellAt (zc_l x) w hAp g o h) 1 rfl rfl rfl zg_Gr_83 zdd_Grid_cellAt ⟨rfl, rfl, by decide, by decide⟩ ⟨by decide, by decide⟩ rfl (Nat.le_of_ble_eq_true rfl) zd_Gr_net_61 rfl ?_
      rintro _ _ ⟨r15, z15, rfl, rfl, h⟩
      refine zr_istore hG [some (.ref (w.2.1 0)), some (.int a1), some (.int a2), some (.int a3), some (.int a4), some (.int a5), some (.int a6), some (.int r14), some (.int r15), none] zd_Gr_net_64 (Nat.le_of_ble_eq_true rfl) rfl ?_
      refine zr_iload hG zd_Gr_net_66 rfl ?_
      refine zr_iload hG zd_Gr_net_68 rfl ?_
      refine zr_icmp_eq hG 111 zd_Gr_net_70 (by decide) (fun hc => ?_) (fun hc => ?_)
      · have h := h.1 hc
        exact zr_mask [false, false, false, false, false, false, false, false, false, false] (zt_Gr_net_X_111 hG hR hAp h)
      · have h := h.2 hc
        refine zr_aload_n hG zd_Gr_net_73 rfl rfl ?_
        refine zf_Gr_rules hG tk_302 zd_Gr_net_74 ?_
        refine zr_iload hG zd_Gr_net_77 rfl ?_
        refine zr_aload_n hG zd_Gr_net_79 rfl rfl ?_
        refine zf_Gr_nets hG tk_300 zd_Gr_net_80 ?_
        refine zf_Nets_count hG tk_99 zd_Gr_net_83 ?_
        refine zr_callV hG zq_F0 (As := [.int r14, .int (z15.1 4)]) (rest := []) (zm_Rules_isBarred (zc_l x) w hAp g o h) 12 rfl rfl rfl zg_Gr_104 zdd_Rules_isBarred ⟨rfl, rfl, by decide, by decide⟩ ⟨by decide, by decide⟩ rfl (Nat.le_of_ble_eq_true rfl) zd_Gr_net_86 rfl ?_
        rintro _ _ ⟨r16, z16, rfl, rfl, h⟩
        refine zr_if_ne hG 111 zd_Gr_net_89 (by decide) (fun hc => ?_) (fun hc => ?_)
        · have h := h.1 hc
          exact zr_mask [false, false, false, false, false, false, false, false, false, false] (zt_Gr_net_X_111 hG hR hAp h)
        · have h := h.2 hc
          refine zr_aload_n hG zd_Gr_net_92 rfl rfl ?_
          refine zf_Gr_rules hG tk_302 zd_Gr_net_93 ?_
          refine zr_iload hG zd_Gr_net_96 rfl ?_
          refine zr_aload_n hG zd_Gr_net_98 rfl rfl ?_
          refine zf_Gr_nets hG tk_300 zd_Gr_net_99 ?_
          refine zf_Nets_count hG tk_99 zd_Gr_net_102 ?_
          refine zr_callV hG zq_F0 (As := [.int r15, .int (z16.1 4)]) (rest := []) (zm_Rules_isBarred (zc_l x) w hAp g o h) 12 rfl rfl rfl zg_Gr_104 zdd_Rules_isBarred ⟨rfl, rfl, by decide, by decide⟩ ⟨by decide, by decide⟩ rfl (Nat.le_of_ble_eq_true rfl) zd_Gr_net_105 rfl ?_
          rintro _ _ ⟨r17, z17, rfl, rfl, h⟩
          refine zr_if_eq hG 121 zd_Gr_net_108 (by decide) (fun hc => ?_) (fun hc => ?_)
          · have h := h.1 hc
            refine zr_aload_n hG zd_Gr_net_121 rfl rfl ?_
            refine zf_Gr_nets hG tk_300 zd_Gr_net_122 ?_
            refine zf_Nets_count hG tk_99 zd_Gr_net_125 ?_
            refine zr_bipush hG (v := (6 : Int32)) zd_Gr_net_128 (by decide) ?_
            refine zr_icmp_lt hG 143 zd_Gr_net_130 (by decide) (fun hc => ?_) (fun hc => ?_)
            · have h := h.1 hc
              refine zr_aload_n hG zd_Gr_net_143 rfl rfl ?_
              refine zf_Gr_nets hG tk_300 zd_Gr_net_144 ?_
              refine zr_iload hG zd_Gr_net_147 rfl ?_
              refine zr_iload hG zd_Gr_net_149 rfl ?_
              exact h.elim
            · have h := h.2 hc
              exact zr_throw (cd := 3) hG hR rfl tk_429 tk_430 tk_17 (List.mem_of_getElem? (i := 3) rfl) (by decide +kernel) zq_own3 ⟨by decide, by decide, by decide, by decide⟩ rfl zd_Gr_net_133 zd_Gr_net_136 zd_Gr_net_137 zd_Gr_net_139 zd_Gr_net_142 ⟨_, rfl, h⟩
          · have h := h.2 hc
            exact zr_mask [false, false, false, false, false, false, false, false, false, false] (zt_Gr_net_X_111 hG hR hAp h)
    · have h := h.2 hc
      exact zr_mask [false, false, false, false, false, false, false, false, false, false] (zt_Gr_net_X_29 hG hR hAp h)
def zw_Gr_route_X (ln : Nat → Nat) (a1 : Int32) (z : zS) (post : Nat → zS → Prop) : Prop := (zw_Nets_has ln a1 z (fun r20 z20 => ((¬ r20 = 0 → False) ∧ (r20 = 0 → post 1 z20))))
set_option maxHeartbeats 4000000 in
set_option maxRecDepth 100000 in
theorem zm_Gr_route_X (l : Launch) (hfl : l.flags = pinnedFlags ++ [noTraceFlag]) (w : zW) (hAp : zq_Ap w) (g : zS) (o : Nat → Int64) {a1 : Int32} {z : zS} {post : Nat → zS → Prop} (h : zw_Gr_route_X w.2.2.1 a1 z post) : zq_MX l w zy_Gr_route zc_Gr_route 2 (some .int) (zq_rx 6 116) [.ref (w.2.1 0), .int a1] (z, g, o) (zq_Px g o post) := by
  refine zq_mk_X (by decide) (by simp [Value.category]) (Nat.le_of_ble_eq_true rfl) hfl hAp (fun x hx hG hR => ?_)
  subst hx
  have h : (zw_Nets_has w.2.2.1 a1 z (fun r20 z20 => ((¬ r20 = 0 → False) ∧ (r20 = 0 → post 1 z20)))) := h
  refine zr_aload_n hG zd_Gr_route_0 rfl rfl ?_
  refine zf_Gr_nets hG tk_300 zd_Gr_route_1 ?_
  refine zr_iload_n hG zd_Gr_route_4 rfl rfl ?_
  refine zr_callV hG zq_F0 (As := [.int a1]) (rest := []) (zm_Nets_has (zc_l x) w hAp g o h) 5 rfl rfl rfl zg_Gr_122 zdd_Nets_has ⟨rfl, rfl, by decide, by decide⟩ ⟨by decide, by decide⟩ rfl (Nat.le_of_ble_eq_true rfl) zd_Gr_route_5 rfl ?_
  rintro _ _ ⟨r20, z20, rfl, rfl, h⟩
  refine zr_if_ne hG 21 zd_Gr_route_8 (by decide) (fun hc => ?_) (fun hc => ?_)
  · have h := h.1 hc
    refine zr_aload_n hG zd_Gr_route_21 rfl rfl ?_
    refine zf_Gr_router hG tk_303 zd_Gr_route_22 ?_
    refine zr_iload_n hG zd_Gr_route_25 rfl rfl ?_
    exact h.elim
  · have h := h.2 hc
    exact zr_throw (cd := 1) hG hR rfl tk_357 tk_358 tk_16 (List.mem_of_getElem? (i := 4) rfl) (by decide +kernel) zq_own1 ⟨by decide, by decide, by decide, by decide⟩ rfl zd_Gr_route_11 zd_Gr_route_14 zd_Gr_route_15 zd_Gr_route_17 zd_Gr_route_20 ⟨_, rfl, h⟩
def zw_Gr_push_X (ln : Nat → Nat) (a1 : Int32) (z : zS) (post : Nat → zS → Prop) : Prop := (zw_Nets_has ln a1 z (fun r23 z23 => ((¬ r23 = 0 → False) ∧ (r23 = 0 → post 1 z23))))
set_option maxHeartbeats 4000000 in
set_option maxRecDepth 100000 in
theorem zm_Gr_push_X (l : Launch) (hfl : l.flags = pinnedFlags ++ [noTraceFlag]) (w : zW) (hAp : zq_Ap w) (g : zS) (o : Nat → Int64) {a1 : Int32} {z : zS} {post : Nat → zS → Prop} (h : zw_Gr_push_X w.2.2.1 a1 z post) : zq_MX l w zy_Gr_push zc_Gr_push 2 (some .int) (zq_rx 6 116) [.ref (w.2.1 0), .int a1] (z, g, o) (zq_Px g o post) := by
  refine zq_mk_X (by decide) (by simp [Value.category]) (Nat.le_of_ble_eq_true rfl) hfl hAp (fun x hx hG hR => ?_)
  subst hx
  have h : (zw_Nets_has w.2.2.1 a1 z (fun r23 z23 => ((¬ r23 = 0 → False) ∧ (r23 = 0 → post 1 z23)))) := h
  refine zr_aload_n hG zd_Gr_push_0 rfl rfl ?_
  refine zf_Gr_nets hG tk_300 zd_Gr_push_1 ?_
  refine zr_iload_n hG zd_Gr_push_4 rfl rfl ?_
  refine zr_callV hG zq_F0 (As := [.int a1]) (rest := []) (zm_Nets_has (zc_l x) w hAp g o h) 5 rfl rfl rfl zg_Gr_122 zdd_Nets_has ⟨rfl, rfl, by decide, by decide⟩ ⟨by decide, by decide⟩ rfl (Nat.le_of_ble_eq_true rfl) zd_Gr_push_5 rfl ?_
  rintro _ _ ⟨r23, z23, rfl, rfl, h⟩
  refine zr_if_ne hG 21 zd_Gr_push_8 (by decide) (fun hc => ?_) (fun hc => ?_)
  · have h := h.1 hc
    refine zr_aload_n hG zd_Gr_push_21 rfl rfl ?_
    refine zf_Gr_router hG tk_303 zd_Gr_push_22 ?_
    refine zr_iload_n hG zd_Gr_push_25 rfl rfl ?_
    exact h.elim
  · have h := h.2 hc
    exact zr_throw (cd := 1) hG hR rfl tk_357 tk_358 tk_16 (List.mem_of_getElem? (i := 4) rfl) (by decide +kernel) zq_own1 ⟨by decide, by decide, by decide, by decide⟩ rfl zd_Gr_push_11 zd_Gr_push_14 zd_Gr_push_15 zd_Gr_push_17 zd_Gr_push_20 ⟨_, rfl, h⟩
def zw_Gr_all_X_10 (ln : Nat → Nat) (post : Nat → zS → Prop) (z : zS) : Prop := post 2 z
set_option maxHeartbeats 4000000 in
set_option maxRecDepth 100000 in
theorem zt_Gr_all_X_10 {x : zC} {w : zW} {g : zS} {o : Nat → Int64} {post : Nat → zS → Prop} (hG : zq_G x w "GridRouter" zc_Gr_all 3 (zq_rx 6 140)) (hR : zq_RX x w (zq_Px g o post)) (hAp : zq_Ap w) {z : zS} (h : zw_Gr_all_X_10 w.2.2.1 post z) : zq_W x w 0 0 (z, g, o) 10 [none, none, none] [] := by
  exact zr_throw (cd := 2) hG hR rfl tk_461 tk_462 tk_18 (List.mem_of_getElem? (i := 5) rfl) (by decide +kernel) zq_own2 ⟨by decide, by decide, by decide, by decide⟩ rfl zd_Gr_all_10 zd_Gr_all_13 zd_Gr_all_14 zd_Gr_all_16 zd_Gr_all_19 ⟨_, rfl, h⟩
def zw_Gr_all_X (ln : Nat → Nat) (a1 a2 : Int32) (z : zS) (post : Nat → zS → Prop) : Prop := ((a2 < 0 → zw_Gr_all_X_10 ln post z) ∧ (¬ a2 < 0 → ((a2 ≤ (20 : Int32) → False) ∧ (¬ a2 ≤ (20 : Int32) → zw_Gr_all_X_10 ln post z))))
set_option maxHeartbeats 4000000 in
set_option maxRecDepth 100000 in
theorem zm_Gr_all_X (l : Launch) (hfl : l.flags = pinnedFlags ++ [noTraceFlag]) (w : zW) (hAp : zq_Ap w) (g : zS) (o : Nat → Int64) {a1 a2 : Int32} {z : zS} {post : Nat → zS → Prop} (h : zw_Gr_all_X w.2.2.1 a1 a2 z post) : zq_MX l w zy_Gr_all zc_Gr_all 3 (some .int) (zq_rx 6 140) [.ref (w.2.1 0), .int a1, .int a2] (z, g, o) (zq_Px g o post) := by
  refine zq_mk_X (by decide) (by simp [Value.category]) (Nat.le_of_ble_eq_true rfl) hfl hAp (fun x hx hG hR => ?_)
  subst hx
  refine zr_iload_n hG zd_Gr_all_0 rfl rfl ?_
  refine zr_if_lt hG 10 zd_Gr_all_1 (by decide) (fun hc => ?_) (fun hc => ?_)
  · have h := h.1 hc
    exact zr_mask [false, false, false] (zt_Gr_all_X_10 hG hR hAp h)
  · have h := h.2 hc
    refine zr_iload_n hG zd_Gr_all_4 rfl rfl ?_
    refine zr_bipush hG (v := (20 : Int32)) zd_Gr_all_5 (by decide) ?_
    refine zr_icmp_le hG 20 zd_Gr_all_7 (by decide) (fun hc => ?_) (fun hc => ?_)
    · have h := h.1 hc
      refine zr_aload_n hG zd_Gr_all_20 rfl rfl ?_
      refine zf_Gr_router hG tk_303 zd_Gr_all_21 ?_
      refine zr_iload_n hG zd_Gr_all_24 rfl rfl ?_
      exact h.elim
    · have h := h.2 hc
      exact zr_mask [false, false, false] (zt_Gr_all_X_10 hG hR hAp h)
def zw_Gr_rip_X (ln : Nat → Nat) (a1 : Int32) (z : zS) (post : Nat → zS → Prop) : Prop := (zw_Nets_has ln a1 z (fun r30 z30 => ((¬ r30 = 0 → False) ∧ (r30 = 0 → post 1 z30))))
set_option maxHeartbeats 4000000 in
set_option maxRecDepth 100000 in
theorem zm_Gr_rip_X (l : Launch) (hfl : l.flags = pinnedFlags ++ [noTraceFlag]) (w : zW) (hAp : zq_Ap w) (g : zS) (o : Nat → Int64) {a1 : Int32} {z : zS} {post : Nat → zS → Prop} (h : zw_Gr_rip_X w.2.2.1 a1 z post) : zq_MX l w zy_Gr_rip zc_Gr_rip 2 none (zq_rx 6 110) [.ref (w.2.1 0), .int a1] (z, g, o) (zq_Px g o post) := by
  refine zq_mk_X (by decide) (by simp [Value.category]) (Nat.le_of_ble_eq_true rfl) hfl hAp (fun x hx hG hR => ?_)
  subst hx
  have h : (zw_Nets_has w.2.2.1 a1 z (fun r30 z30 => ((¬ r30 = 0 → False) ∧ (r30 = 0 → post 1 z30)))) := h
  refine zr_aload_n hG zd_Gr_rip_0 rfl rfl ?_
  refine zf_Gr_nets hG tk_300 zd_Gr_rip_1 ?_
  refine zr_iload_n hG zd_Gr_rip_4 rfl rfl ?_
  refine zr_callV hG zq_F0 (As := [.int a1]) (rest := []) (zm_Nets_has (zc_l x) w hAp g o h) 5 rfl rfl rfl zg_Gr_122 zdd_Nets_has ⟨rfl, rfl, by decide, by decide⟩ ⟨by decide, by decide⟩ rfl (Nat.le_of_ble_eq_true rfl) zd_Gr_rip_5 rfl ?_
  rintro _ _ ⟨r30, z30, rfl, rfl, h⟩
  refine zr_if_ne hG 21 zd_Gr_rip_8 (by decide) (fun hc => ?_) (fun hc => ?_)
  · have h := h.1 hc
    refine zr_aload_n hG zd_Gr_rip_21 rfl rfl ?_
    refine zf_Gr_layout hG tk_301 zd_Gr_rip_22 ?_
    refine zr_iload_n hG zd_Gr_rip_25 rfl rfl ?_
    exact h.elim
  · have h := h.2 hc
    exact zr_throw (cd := 1) hG hR rfl tk_357 tk_358 tk_16 (List.mem_of_getElem? (i := 4) rfl) (by decide +kernel) zq_own1 ⟨by decide, by decide, by decide, by decide⟩ rfl zd_Gr_rip_11 zd_Gr_rip_14 zd_Gr_rip_15 zd_Gr_rip_17 zd_Gr_rip_20 ⟨_, rfl, h⟩
def zw_Gr_paint_X_41 (ln : Nat → Nat) (post : Nat → zS → Prop) (v1 v2 v3 v4 : Int32) (z : zS) : Prop := (zw_Grid_cellAt ln v1 v2 v3 z (fun r34 z34 => False))
set_option maxHeartbeats 4000000 in
set_option maxRecDepth 100000 in
theorem zt_Gr_paint_X_41 {x : zC} {w : zW} {g : zS} {o : Nat → Int64} {post : Nat → zS → Prop} (hG : zq_G x w "GridRouter" zc_Gr_paint 5 (zq_rx 6 110)) (hR : zq_RX x w (zq_Px g o post)) (hAp : zq_Ap w) {v1 v2 v3 v4 : Int32} {z : zS} (h : zw_Gr_paint_X_41 w.2.2.1 post v1 v2 v3 v4 z) : zq_W x w 0 0 (z, g, o) 41 [some (.ref (w.2.1 0)), some (.int v1), some (.int v2), some (.int v3), some (.int v4)] [] := by
  have h : (zw_Grid_cellAt w.2.2.1 v1 v2 v3 z (fun r34 z34 => False)) := h
  refine zr_aload_n hG zd_Gr_paint_41 rfl rfl ?_
  refine zf_Gr_layout hG tk_301 zd_Gr_paint_42 ?_
  refine zf_Layout_owner hG tk_124 zd_Gr_paint_45 ?_
  refine zr_aload_n hG zd_Gr_paint_48 rfl rfl ?_
  refine zf_Gr_grid hG tk_299 zd_Gr_paint_49 ?_
  refine zr_iload_n hG zd_Gr_paint_52 rfl rfl ?_
  refine zr_iload_n hG zd_Gr_paint_53 rfl rfl ?_
  refine zr_iload_n hG zd_Gr_paint_54 rfl rfl ?_
  refine zr_callV hG zq_F0 (As := [.int v1, .int v2, .int v3]) (rest := [.ref (w.2.1 10)]) (zm_Grid_cellAt (zc_l x) w hAp g o h) 1 rfl rfl rfl zg_Gr_83 zdd_Grid_cellAt ⟨rfl, rfl, by decide, by decide⟩ ⟨by decide, by decide⟩ rfl (Nat.le_of_ble_eq_true rfl) zd_Gr_paint_55 rfl ?_
  rintro _ _ ⟨r34, z34, rfl, rfl, h⟩
  refine zr_iload hG zd_Gr_paint_58 rfl ?_
  exact h.elim
def zw_Gr_paint_X_31 (ln : Nat → Nat) (post : Nat → zS → Prop) (z : zS) : Prop := post 1 z
set_option maxHeartbeats 4000000 in
set_option maxRecDepth 100000 in
theorem zt_Gr_paint_X_31 {x : zC} {w : zW} {g : zS} {o : Nat → Int64} {post : Nat → zS → Prop} (hG : zq_G x w "GridRouter" zc_Gr_paint 5 (zq_rx 6 110)) (hR : zq_RX x w (zq_Px g o post)) (hAp : zq_Ap w) {z : zS} (h : zw_Gr_paint_X_31 w.2.2.1 post z) : zq_W x w 0 0 (z, g, o) 31 [none, none, none, none, none] [] := by
  exact zr_throw (cd := 1) hG hR rfl tk_357 tk_358 tk_16 (List.mem_of_getElem? (i := 6) rfl) (by decide +kernel) zq_own1 ⟨by decide, by decide, by decide, by decide⟩ rfl zd_Gr_paint_31 zd_Gr_paint_34 zd_Gr_paint_35 zd_Gr_paint_37 zd_Gr_paint_40 ⟨_, rfl, h⟩
def zw_Gr_paint_X (ln : Nat → Nat) (a1 a2 a3 a4 : Int32) (z : zS) (post : Nat → zS → Prop) : Prop := (zw_Grid_hasCell ln a1 a2 a3 z (fun r35 z35 => ((r35 = 0 → zw_Gr_paint_X_31 ln post z35) ∧ (¬ r35 = 0 → ((a4 = (-1 : Int32) → zw_Gr_paint_X_41 ln post a1 a2 a3 a4 z35) ∧ (¬ a4 = (-1 : Int32) → (zw_Nets_has ln a4 z35 (fun r36 z36 => ((¬ r36 = 0 → zw_Gr_paint_X_41 ln post a1 a2 a3 a4 z36) ∧ (r36 = 0 → zw_Gr_paint_X_31 ln post z36))))))))))
set_option maxHeartbeats 4000000 in
set_option maxRecDepth 100000 in
theorem zm_Gr_paint_X (l : Launch) (hfl : l.flags = pinnedFlags ++ [noTraceFlag]) (w : zW) (hAp : zq_Ap w) (g : zS) (o : Nat → Int64) {a1 a2 a3 a4 : Int32} {z : zS} {post : Nat → zS → Prop} (h : zw_Gr_paint_X w.2.2.1 a1 a2 a3 a4 z post) : zq_MX l w zy_Gr_paint zc_Gr_paint 5 none (zq_rx 6 110) [.ref (w.2.1 0), .int a1, .int a2, .int a3, .int a4] (z, g, o) (zq_Px g o post) := by
  refine zq_mk_X (by decide) (by simp [Value.category]) (Nat.le_of_ble_eq_true rfl) hfl hAp (fun x hx hG hR => ?_)
  subst hx
  have h : (zw_Grid_hasCell w.2.2.1 a1 a2 a3 z (fun r35 z35 => ((r35 = 0 → zw_Gr_paint_X_31 w.2.2.1 post z35) ∧ (¬ r35 = 0 → ((a4 = (-1 : Int32) → zw_Gr_paint_X_41 w.2.2.1 post a1 a2 a3 a4 z35) ∧ (¬ a4 = (-1 : Int32) → (zw_Nets_has w.2.2.1 a4 z35 (fun r36 z36 => ((¬ r36 = 0 → zw_Gr_paint_X_41 w.2.2.1 post a1 a2 a3 a4 z36) ∧ (r36 = 0 → zw_Gr_paint_X_31 w.2.2.1 post z36)))))))))) := h
  refine zr_aload_n hG zd_Gr_paint_0 rfl rfl ?_
  refine zf_Gr_grid hG tk_299 zd_Gr_paint_1 ?_
  refine zr_iload_n hG zd_Gr_paint_4 rfl rfl ?_
  refine zr_iload_n hG zd_Gr_paint_5 rfl rfl ?_
  refine zr_iload_n hG zd_Gr_paint_6 rfl rfl ?_
  refine zr_callV hG zq_F0 (As := [.int a1, .int a2, .int a3]) (rest := []) (zm_Grid_hasCell (zc_l x) w hAp g o h) 1 rfl rfl rfl zg_Gr_72 zdd_Grid_hasCell ⟨rfl, rfl, by decide, by decide⟩ ⟨by decide, by decide⟩ rfl (Nat.le_of_ble_eq_true rfl) zd_Gr_paint_7 rfl ?_
  rintro _ _ ⟨r35, z35, rfl, rfl, h⟩
  refine zr_if_eq hG 31 zd_Gr_paint_10 (by decide) (fun hc => ?_) (fun hc => ?_)
  · have h := h.1 hc
    exact zr_mask [false, false, false, false, false] (zt_Gr_paint_X_31 hG hR hAp h)
  · have h := h.2 hc
    refine zr_iload hG zd_Gr_paint_13 rfl ?_
    refine zr_iconst hG (v := (-1 : Int32)) zd_Gr_paint_15 (by decide) ?_
    refine zr_icmp_eq hG 41 zd_Gr_paint_16 (by decide) (fun hc => ?_) (fun hc => ?_)
    · have h := h.1 hc
      exact zt_Gr_paint_X_41 hG hR hAp h
    · have h := h.2 hc
      refine zr_aload_n hG zd_Gr_paint_19 rfl rfl ?_
      refine zf_Gr_nets hG tk_300 zd_Gr_paint_20 ?_
      refine zr_iload hG zd_Gr_paint_23 rfl ?_
      refine zr_callV hG zq_F0 (As := [.int a4]) (rest := []) (zm_Nets_has (zc_l x) w hAp g o h) 5 rfl rfl rfl zg_Gr_122 zdd_Nets_has ⟨rfl, rfl, by decide, by decide⟩ ⟨by decide, by decide⟩ rfl (Nat.le_of_ble_eq_true rfl) zd_Gr_paint_25 rfl ?_
      rintro _ _ ⟨r36, z36, rfl, rfl, h⟩
      refine zr_if_ne hG 41 zd_Gr_paint_28 (by decide) (fun hc => ?_) (fun hc => ?_)
      · have h := h.1 hc
        exact zt_Gr_paint_X_41 hG hR hAp h
      · have h := h.2 hc
        exact zr_mask [false, false, false, false, false] (zt_Gr_paint_X_31 hG hR hAp h)
def zw_Gr_stitch_X_58 (ln : Nat → Nat) (post : Nat → zS → Prop) (u0 u1 : Int32) (z : zS) : Prop := False
set_option maxHeartbeats 4000000 in
set_option maxRecDepth 100000 in
theorem zt_Gr_stitch_X_58 {x : zC} {w : zW} {g : zS} {o : Nat → Int64} {post : Nat → zS → Prop} (hG : zq_G x w "GridRouter" zc_Gr_stitch 4 (zq_rx 6 110)) (hR : zq_RX x w (zq_Px g o post)) (hAp : zq_Ap w) {u0 u1 : Int32} {z : zS} (h : zw_Gr_stitch_X_58 w.2.2.1 post u0 u1 z) : zq_W x w 0 0 (z, g, o) 58 [none, none, none, none] [.int u0, .int u1, .ref (w.2.1 11)] := by
  exact h.elim
def zw_Gr_stitch_X (ln : Nat → Nat) (a1 a2 : Int32) (z : zS) (post : Nat → zS → Prop) : Prop := (zw_Grid_hasPlace ln a1 a2 z (fun r39 z39 => ((¬ r39 = 0 → (zw_Grid_cellAt ln (0 : Int32) a1 a2 z39 (fun r40 z40 => vp_in r40 (ln 7) ∧ ((¬ (z40.2 7 r40.toNatClampNeg) = 0 → zw_Gr_stitch_X_58 ln post (0 : Int32) r40 z40) ∧ ((z40.2 7 r40.toNatClampNeg) = 0 → zw_Gr_stitch_X_58 ln post (1 : Int32) r40 z40))))) ∧ (r39 = 0 → post 1 z39))))
set_option maxHeartbeats 4000000 in
set_option maxRecDepth 100000 in
theorem zm_Gr_stitch_X (l : Launch) (hfl : l.flags = pinnedFlags ++ [noTraceFlag]) (w : zW) (hAp : zq_Ap w) (g : zS) (o : Nat → Int64) {a1 a2 : Int32} {z : zS} {post : Nat → zS → Prop} (h : zw_Gr_stitch_X w.2.2.1 a1 a2 z post) : zq_MX l w zy_Gr_stitch zc_Gr_stitch 4 (some .boolean) (zq_rx 6 110) [.ref (w.2.1 0), .int a1, .int a2] (z, g, o) (zq_Px g o post) := by
  refine zq_mk_X (by decide) (by simp [Value.category]) (Nat.le_of_ble_eq_true rfl) hfl hAp (fun x hx hG hR => ?_)
  subst hx
  have h : (zw_Grid_hasPlace w.2.2.1 a1 a2 z (fun r39 z39 => ((¬ r39 = 0 → (zw_Grid_cellAt w.2.2.1 (0 : Int32) a1 a2 z39 (fun r40 z40 => vp_in r40 (w.2.2.1 7) ∧ ((¬ (z40.2 7 r40.toNatClampNeg) = 0 → zw_Gr_stitch_X_58 w.2.2.1 post (0 : Int32) r40 z40) ∧ ((z40.2 7 r40.toNatClampNeg) = 0 → zw_Gr_stitch_X_58 w.2.2.1 post (1 : Int32) r40 z40))))) ∧ (r39 = 0 → post 1 z39)))) := h
  refine zr_aload_n hG zd_Gr_stitch_0 rfl rfl ?_
  refine zf_Gr_grid hG tk_299 zd_Gr_stitch_1 ?_
  refine zr_iload_n hG zd_Gr_stitch_4 rfl rfl ?_
  refine zr_iload_n hG zd_Gr_stitch_5 rfl rfl ?_
  refine zr_callV hG zq_F0 (As := [.int a1, .int a2]) (rest := []) (zm_Grid_hasPlace (zc_l x) w hAp g o h) 1 rfl rfl rfl zg_Gr_157 zdd_Grid_hasPlace ⟨rfl, rfl, by decide, by decide⟩ ⟨by decide, by decide⟩ rfl (Nat.le_of_ble_eq_true rfl) zd_Gr_stitch_6 rfl ?_
  rintro _ _ ⟨r39, z39, rfl, rfl, h⟩
  refine zr_if_ne hG 22 zd_Gr_stitch_9 (by decide) (fun hc => ?_) (fun hc => ?_)
  · have h := h.1 hc
    refine zr_aload_n hG zd_Gr_stitch_22 rfl rfl ?_
    refine zf_Gr_grid hG tk_299 zd_Gr_stitch_23 ?_
    refine zr_iconst hG (v := (0 : Int32)) zd_Gr_stitch_26 (by decide) ?_
    refine zr_iload_n hG zd_Gr_stitch_27 rfl rfl ?_
    refine zr_iload_n hG zd_Gr_stitch_28 rfl rfl ?_
    refine zr_callV hG zq_F0 (As := [.int (0 : Int32), .int a1, .int a2]) (rest := []) (zm_Grid_cellAt (zc_l x) w hAp g o h) 1 rfl rfl rfl zg_Gr_83 zdd_Grid_cellAt ⟨rfl, rfl, by decide, by decide⟩ ⟨by decide, by decide⟩ rfl (Nat.le_of_ble_eq_true rfl) zd_Gr_stitch_29 rfl ?_
    rintro _ _ ⟨r40, z40, rfl, rfl, h⟩
    refine zr_istore_n hG [some (.ref (w.2.1 0)), some (.int a1), some (.int a2), some (.int r40)] zd_Gr_stitch_32 rfl (Nat.le_of_ble_eq_true rfl) rfl ?_
    refine zr_aload_n hG zd_Gr_stitch_33 rfl rfl ?_
    refine zf_Gr_layout hG tk_301 zd_Gr_stitch_34 ?_
    refine zf_Layout_vias hG tk_130 zd_Gr_stitch_37 ?_
    refine zr_iload_n hG zd_Gr_stitch_40 rfl rfl ?_
    refine zr_aload_n hG zd_Gr_stitch_41 rfl rfl ?_
    refine zf_Gr_layout hG tk_301 zd_Gr_stitch_42 ?_
    refine zf_Layout_vias hG tk_130 zd_Gr_stitch_45 ?_
    refine zr_iload_n hG zd_Gr_stitch_48 rfl rfl ?_
    obtain ⟨hi, h⟩ := h
    refine zl_11 hG hi zd_Gr_stitch_49 ?_
    refine zr_if_ne hG 57 zd_Gr_stitch_50 (by decide) (fun hc => ?_) (fun hc => ?_)
    · have h := h.1 hc
      refine zr_iconst hG (v := (0 : Int32)) zd_Gr_stitch_57 (by decide) ?_
      exact zr_mask [false, false, false, false] (zt_Gr_stitch_X_58 hG hR hAp h)
    · have h := h.2 hc
      refine zr_iconst hG (v := (1 : Int32)) zd_Gr_stitch_53 (by decide) ?_
      refine zr_goto hG 58 zd_Gr_stitch_54 (by decide) ?_
      exact zr_mask [false, false, false, false] (zt_Gr_stitch_X_58 hG hR hAp h)
  · have h := h.2 hc
    exact zr_throw (cd := 1) hG hR rfl tk_357 tk_358 tk_16 (List.mem_of_getElem? (i := 7) rfl) (by decide +kernel) zq_own1 ⟨by decide, by decide, by decide, by decide⟩ rfl zd_Gr_stitch_12 zd_Gr_stitch_15 zd_Gr_stitch_16 zd_Gr_stitch_18 zd_Gr_stitch_21 ⟨_, rfl, h⟩
def zw_Gr_cell_X (ln : Nat → Nat) (a1 a2 a3 : Int32) (z : zS) (post : Nat → zS → Prop) : Prop := (zw_Grid_hasCell ln a1 a2 a3 z (fun r43 z43 => ((¬ r43 = 0 → (zw_Grid_cellAt ln a1 a2 a3 z43 (fun r44 z44 => vp_in r44 (ln 6) ∧ False))) ∧ (r43 = 0 → post 1 z43))))
set_option maxHeartbeats 4000000 in
set_option maxRecDepth 100000 in
theorem zm_Gr_cell_X (l : Launch) (hfl : l.flags = pinnedFlags ++ [noTraceFlag]) (w : zW) (hAp : zq_Ap w) (g : zS) (o : Nat → Int64) {a1 a2 a3 : Int32} {z : zS} {post : Nat → zS → Prop} (h : zw_Gr_cell_X w.2.2.1 a1 a2 a3 z post) : zq_MX l w zy_Gr_cell zc_Gr_cell 4 (some .int) (zq_rx 6 110) [.ref (w.2.1 0), .int a1, .int a2, .int a3] (z, g, o) (zq_Px g o post) := by
  refine zq_mk_X (by decide) (by simp [Value.category]) (Nat.le_of_ble_eq_true rfl) hfl hAp (fun x hx hG hR => ?_)
  subst hx
  have h : (zw_Grid_hasCell w.2.2.1 a1 a2 a3 z (fun r43 z43 => ((¬ r43 = 0 → (zw_Grid_cellAt w.2.2.1 a1 a2 a3 z43 (fun r44 z44 => vp_in r44 (w.2.2.1 6) ∧ False))) ∧ (r43 = 0 → post 1 z43)))) := h
  refine zr_aload_n hG zd_Gr_cell_0 rfl rfl ?_
  refine zf_Gr_grid hG tk_299 zd_Gr_cell_1 ?_
  refine zr_iload_n hG zd_Gr_cell_4 rfl rfl ?_
  refine zr_iload_n hG zd_Gr_cell_5 rfl rfl ?_
  refine zr_iload_n hG zd_Gr_cell_6 rfl rfl ?_
  refine zr_callV hG zq_F0 (As := [.int a1, .int a2, .int a3]) (rest := []) (zm_Grid_hasCell (zc_l x) w hAp g o h) 1 rfl rfl rfl zg_Gr_72 zdd_Grid_hasCell ⟨rfl, rfl, by decide, by decide⟩ ⟨by decide, by decide⟩ rfl (Nat.le_of_ble_eq_true rfl) zd_Gr_cell_7 rfl ?_
  rintro _ _ ⟨r43, z43, rfl, rfl, h⟩
  refine zr_if_ne hG 23 zd_Gr_cell_10 (by decide) (fun hc => ?_) (fun hc => ?_)
  · have h := h.1 hc
    refine zr_aload_n hG zd_Gr_cell_23 rfl rfl ?_
    refine zf_Gr_layout hG tk_301 zd_Gr_cell_24 ?_
    refine zf_Layout_owner hG tk_124 zd_Gr_cell_27 ?_
    refine zr_aload_n hG zd_Gr_cell_30 rfl rfl ?_
    refine zf_Gr_grid hG tk_299 zd_Gr_cell_31 ?_
    refine zr_iload_n hG zd_Gr_cell_34 rfl rfl ?_
    refine zr_iload_n hG zd_Gr_cell_35 rfl rfl ?_
    refine zr_iload_n hG zd_Gr_cell_36 rfl rfl ?_
    refine zr_callV hG zq_F0 (As := [.int a1, .int a2, .int a3]) (rest := [.ref (w.2.1 10)]) (zm_Grid_cellAt (zc_l x) w hAp g o h) 1 rfl rfl rfl zg_Gr_83 zdd_Grid_cellAt ⟨rfl, rfl, by decide, by decide⟩ ⟨by decide, by decide⟩ rfl (Nat.le_of_ble_eq_true rfl) zd_Gr_cell_37 rfl ?_
    rintro _ _ ⟨r44, z44, rfl, rfl, h⟩
    obtain ⟨hi, h⟩ := h
    refine zl_10 hG hi zd_Gr_cell_40 ?_
    exact h.elim
  · have h := h.2 hc
    exact zr_throw (cd := 1) hG hR rfl tk_357 tk_358 tk_16 (List.mem_of_getElem? (i := 0) rfl) (by decide +kernel) zq_own1 ⟨by decide, by decide, by decide, by decide⟩ rfl zd_Gr_cell_13 zd_Gr_cell_16 zd_Gr_cell_17 zd_Gr_cell_19 zd_Gr_cell_22 ⟨_, rfl, h⟩
def zw_Gr_via_X (ln : Nat → Nat) (a1 a2 : Int32) (z : zS) (post : Nat → zS → Prop) : Prop := (zw_Grid_hasPlace ln a1 a2 z (fun r47 z47 => ((¬ r47 = 0 → (zw_Grid_cellAt ln (0 : Int32) a1 a2 z47 (fun r48 z48 => vp_in r48 (ln 7) ∧ False))) ∧ (r47 = 0 → post 1 z47))))
set_option maxHeartbeats 4000000 in
set_option maxRecDepth 100000 in
theorem zm_Gr_via_X (l : Launch) (hfl : l.flags = pinnedFlags ++ [noTraceFlag]) (w : zW) (hAp : zq_Ap w) (g : zS) (o : Nat → Int64) {a1 a2 : Int32} {z : zS} {post : Nat → zS → Prop} (h : zw_Gr_via_X w.2.2.1 a1 a2 z post) : zq_MX l w zy_Gr_via zc_Gr_via 3 (some .boolean) (zq_rx 6 110) [.ref (w.2.1 0), .int a1, .int a2] (z, g, o) (zq_Px g o post) := by
  refine zq_mk_X (by decide) (by simp [Value.category]) (Nat.le_of_ble_eq_true rfl) hfl hAp (fun x hx hG hR => ?_)
  subst hx
  have h : (zw_Grid_hasPlace w.2.2.1 a1 a2 z (fun r47 z47 => ((¬ r47 = 0 → (zw_Grid_cellAt w.2.2.1 (0 : Int32) a1 a2 z47 (fun r48 z48 => vp_in r48 (w.2.2.1 7) ∧ False))) ∧ (r47 = 0 → post 1 z47)))) := h
  refine zr_aload_n hG zd_Gr_via_0 rfl rfl ?_
  refine zf_Gr_grid hG tk_299 zd_Gr_via_1 ?_
  refine zr_iload_n hG zd_Gr_via_4 rfl rfl ?_
  refine zr_iload_n hG zd_Gr_via_5 rfl rfl ?_
  refine zr_callV hG zq_F0 (As := [.int a1, .int a2]) (rest := []) (zm_Grid_hasPlace (zc_l x) w hAp g o h) 1 rfl rfl rfl zg_Gr_157 zdd_Grid_hasPlace ⟨rfl, rfl, by decide, by decide⟩ ⟨by decide, by decide⟩ rfl (Nat.le_of_ble_eq_true rfl) zd_Gr_via_6 rfl ?_
  rintro _ _ ⟨r47, z47, rfl, rfl, h⟩
  refine zr_if_ne hG 22 zd_Gr_via_9 (by decide) (fun hc => ?_) (fun hc => ?_)
  · have h := h.1 hc
    refine zr_aload_n hG zd_Gr_via_22 rfl rfl ?_
    refine zf_Gr_layout hG tk_301 zd_Gr_via_23 ?_
    refine zf_Layout_vias hG tk_130 zd_Gr_via_26 ?_
    refine zr_aload_n hG zd_Gr_via_29 rfl rfl ?_
    refine zf_Gr_grid hG tk_299 zd_Gr_via_30 ?_
    refine zr_iconst hG (v := (0 : Int32)) zd_Gr_via_33 (by decide) ?_
    refine zr_iload_n hG zd_Gr_via_34 rfl rfl ?_
    refine zr_iload_n hG zd_Gr_via_35 rfl rfl ?_
    refine zr_callV hG zq_F0 (As := [.int (0 : Int32), .int a1, .int a2]) (rest := [.ref (w.2.1 11)]) (zm_Grid_cellAt (zc_l x) w hAp g o h) 1 rfl rfl rfl zg_Gr_83 zdd_Grid_cellAt ⟨rfl, rfl, by decide, by decide⟩ ⟨by decide, by decide⟩ rfl (Nat.le_of_ble_eq_true rfl) zd_Gr_via_36 rfl ?_
    rintro _ _ ⟨r48, z48, rfl, rfl, h⟩
    obtain ⟨hi, h⟩ := h
    refine zl_11 hG hi zd_Gr_via_39 ?_
    exact h.elim
  · have h := h.2 hc
    exact zr_throw (cd := 1) hG hR rfl tk_357 tk_358 tk_16 (List.mem_of_getElem? (i := 7) rfl) (by decide +kernel) zq_own1 ⟨by decide, by decide, by decide, by decide⟩ rfl zd_Gr_via_12 zd_Gr_via_15 zd_Gr_via_16 zd_Gr_via_18 zd_Gr_via_21 ⟨_, rfl, h⟩
def zw_Gr_faults_X_9 (ln : Nat → Nat) (post : Nat → zS → Prop) (z : zS) : Prop := post 2 z
set_option maxHeartbeats 4000000 in
set_option maxRecDepth 100000 in
theorem zt_Gr_faults_X_9 {x : zC} {w : zW} {g : zS} {o : Nat → Int64} {post : Nat → zS → Prop} (hG : zq_G x w "GridRouter" zc_Gr_faults 2 (zq_rx 6 110)) (hR : zq_RX x w (zq_Px g o post)) (hAp : zq_Ap w) {z : zS} (h : zw_Gr_faults_X_9 w.2.2.1 post z) : zq_W x w 0 0 (z, g, o) 9 [none, none] [] := by
  exact zr_throw (cd := 2) hG hR rfl tk_461 tk_462 tk_18 (List.mem_of_getElem? (i := 8) rfl) (by decide +kernel) zq_own2 ⟨by decide, by decide, by decide, by decide⟩ rfl zd_Gr_faults_9 zd_Gr_faults_12 zd_Gr_faults_13 zd_Gr_faults_15 zd_Gr_faults_18 ⟨_, rfl, h⟩
def zw_Gr_faults_X (ln : Nat → Nat) (a1 : Int32) (z : zS) (post : Nat → zS → Prop) : Prop := ((a1 < 0 → zw_Gr_faults_X_9 ln post z) ∧ (¬ a1 < 0 → ((a1 < (4 : Int32) → False) ∧ (¬ a1 < (4 : Int32) → zw_Gr_faults_X_9 ln post z))))
set_option maxHeartbeats 4000000 in
set_option maxRecDepth 100000 in
theorem zm_Gr_faults_X (l : Launch) (hfl : l.flags = pinnedFlags ++ [noTraceFlag]) (w : zW) (hAp : zq_Ap w) (g : zS) (o : Nat → Int64) {a1 : Int32} {z : zS} {post : Nat → zS → Prop} (h : zw_Gr_faults_X w.2.2.1 a1 z post) : zq_MX l w zy_Gr_faults zc_Gr_faults 2 (some .int) (zq_rx 6 110) [.ref (w.2.1 0), .int a1] (z, g, o) (zq_Px g o post) := by
  refine zq_mk_X (by decide) (by simp [Value.category]) (Nat.le_of_ble_eq_true rfl) hfl hAp (fun x hx hG hR => ?_)
  subst hx
  refine zr_iload_n hG zd_Gr_faults_0 rfl rfl ?_
  refine zr_if_lt hG 9 zd_Gr_faults_1 (by decide) (fun hc => ?_) (fun hc => ?_)
  · have h := h.1 hc
    exact zr_mask [false, false] (zt_Gr_faults_X_9 hG hR hAp h)
  · have h := h.2 hc
    refine zr_iload_n hG zd_Gr_faults_4 rfl rfl ?_
    refine zr_iconst hG (v := (4 : Int32)) zd_Gr_faults_5 (by decide) ?_
    refine zr_icmp_lt hG 19 zd_Gr_faults_6 (by decide) (fun hc => ?_) (fun hc => ?_)
    · have h := h.1 hc
      refine zr_aload_n hG zd_Gr_faults_19 rfl rfl ?_
      refine zf_Gr_checker hG tk_304 zd_Gr_faults_20 ?_
      refine zr_iload_n hG zd_Gr_faults_23 rfl rfl ?_
      exact h.elim
    · have h := h.2 hc
      exact zr_mask [false, false] (zt_Gr_faults_X_9 hG hR hAp h)
def zw_Gr_shape_X_33 (ln : Nat → Nat) (post : Nat → zS → Prop) (z : zS) : Prop := post 2 z
set_option maxHeartbeats 4000000 in
set_option maxRecDepth 100000 in
theorem zt_Gr_shape_X_33 {x : zC} {w : zW} {g : zS} {o : Nat → Int64} {post : Nat → zS → Prop} (hG : zq_G x w "GridRouter" zc_Gr_shape 4 (zq_rx 6 110)) (hR : zq_RX x w (zq_Px g o post)) (hAp : zq_Ap w) {z : zS} (h : zw_Gr_shape_X_33 w.2.2.1 post z) : zq_W x w 0 0 (z, g, o) 33 [none, none, none, none] [] := by
  exact zr_throw (cd := 2) hG hR rfl tk_461 tk_462 tk_18 (List.mem_of_getElem? (i := 10) rfl) (by decide +kernel) zq_own2 ⟨by decide, by decide, by decide, by decide⟩ rfl zd_Gr_shape_33 zd_Gr_shape_36 zd_Gr_shape_37 zd_Gr_shape_39 zd_Gr_shape_42 ⟨_, rfl, h⟩
def zw_Gr_shape_X (ln : Nat → Nat) (a1 a2 : Int32) (z : zS) (post : Nat → zS → Prop) : Prop := (zw_Shapes_startOf ln a1 z (fun r53 z53 => ((¬ r53 = (-1 : Int32) → ((a2 < 0 → zw_Gr_shape_X_33 ln post z53) ∧ (¬ a2 < 0 → ((a2 < (5 : Int32) → (zw_Shapes_tell ln r53 a2 z53 (fun r54 z54 => False))) ∧ (¬ a2 < (5 : Int32) → zw_Gr_shape_X_33 ln post z53))))) ∧ (r53 = (-1 : Int32) → post 1 z53))))
set_option maxHeartbeats 4000000 in
set_option maxRecDepth 100000 in
theorem zm_Gr_shape_X (l : Launch) (hfl : l.flags = pinnedFlags ++ [noTraceFlag]) (w : zW) (hAp : zq_Ap w) (g : zS) (o : Nat → Int64) {a1 a2 : Int32} {z : zS} {post : Nat → zS → Prop} (h : zw_Gr_shape_X w.2.2.1 a1 a2 z post) : zq_MX l w zy_Gr_shape zc_Gr_shape 4 (some .int) (zq_rx 6 110) [.ref (w.2.1 0), .int a1, .int a2] (z, g, o) (zq_Px g o post) := by
  refine zq_mk_X (by decide) (by simp [Value.category]) (Nat.le_of_ble_eq_true rfl) hfl hAp (fun x hx hG hR => ?_)
  subst hx
  have h : (zw_Shapes_startOf w.2.2.1 a1 z (fun r53 z53 => ((¬ r53 = (-1 : Int32) → ((a2 < 0 → zw_Gr_shape_X_33 w.2.2.1 post z53) ∧ (¬ a2 < 0 → ((a2 < (5 : Int32) → (zw_Shapes_tell w.2.2.1 r53 a2 z53 (fun r54 z54 => False))) ∧ (¬ a2 < (5 : Int32) → zw_Gr_shape_X_33 w.2.2.1 post z53))))) ∧ (r53 = (-1 : Int32) → post 1 z53)))) := h
  refine zr_aload_n hG zd_Gr_shape_0 rfl rfl ?_
  refine zf_Gr_rows hG tk_305 zd_Gr_shape_1 ?_
  refine zr_iload_n hG zd_Gr_shape_4 rfl rfl ?_
  refine zr_callV hG zq_F0 (As := [.int a1]) (rest := []) (zm_Shapes_startOf (zc_l x) w hAp g o h) 27 rfl rfl rfl zg_Gr_171 zdd_Shapes_startOf ⟨rfl, rfl, by decide, by decide⟩ ⟨by decide, by decide⟩ rfl (Nat.le_of_ble_eq_true rfl) zd_Gr_shape_5 rfl ?_
  rintro _ _ ⟨r53, z53, rfl, rfl, h⟩
  refine zr_istore_n hG [some (.ref (w.2.1 0)), some (.int a1), some (.int a2), some (.int r53)] zd_Gr_shape_8 rfl (Nat.le_of_ble_eq_true rfl) rfl ?_
  refine zr_iload_n hG zd_Gr_shape_9 rfl rfl ?_
  refine zr_iconst hG (v := (-1 : Int32)) zd_Gr_shape_10 (by decide) ?_
  refine zr_icmp_ne hG 24 zd_Gr_shape_11 (by decide) (fun hc => ?_) (fun hc => ?_)
  · have h := h.1 hc
    refine zr_iload_n hG zd_Gr_shape_24 rfl rfl ?_
    refine zr_if_lt hG 33 zd_Gr_shape_25 (by decide) (fun hc => ?_) (fun hc => ?_)
    · have h := h.1 hc
      exact zr_mask [false, false, false, false] (zt_Gr_shape_X_33 hG hR hAp h)
    · have h := h.2 hc
      refine zr_iload_n hG zd_Gr_shape_28 rfl rfl ?_
      refine zr_iconst hG (v := (5 : Int32)) zd_Gr_shape_29 (by decide) ?_
      refine zr_icmp_lt hG 43 zd_Gr_shape_30 (by decide) (fun hc => ?_) (fun hc => ?_)
      · have h := h.1 hc
        refine zr_aload_n hG zd_Gr_shape_43 rfl rfl ?_
        refine zf_Gr_rows hG tk_305 zd_Gr_shape_44 ?_
        refine zr_iload_n hG zd_Gr_shape_47 rfl rfl ?_
        refine zr_iload_n hG zd_Gr_shape_48 rfl rfl ?_
        refine zr_callV hG zq_F0 (As := [.int r53, .int a2]) (rest := []) (zm_Shapes_tell (zc_l x) w hAp g o h) 27 rfl rfl rfl zg_Gr_178 zdd_Shapes_tell ⟨rfl, rfl, by decide, by decide⟩ ⟨by decide, by decide⟩ rfl (Nat.le_of_ble_eq_true rfl) zd_Gr_shape_49 rfl ?_
        rintro _ _ ⟨r54, z54, rfl, rfl, h⟩
        exact h.elim
      · have h := h.2 hc
        exact zr_mask [false, false, false, false] (zt_Gr_shape_X_33 hG hR hAp h)
  · have h := h.2 hc
    exact zr_throw (cd := 1) hG hR rfl tk_357 tk_358 tk_16 (List.mem_of_getElem? (i := 9) rfl) (by decide +kernel) zq_own1 ⟨by decide, by decide, by decide, by decide⟩ rfl zd_Gr_shape_14 zd_Gr_shape_17 zd_Gr_shape_18 zd_Gr_shape_20 zd_Gr_shape_23 ⟨_, rfl, h⟩
