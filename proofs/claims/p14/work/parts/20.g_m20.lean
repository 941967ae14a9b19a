def zw_WayFinder_trace_62 (ln : Nat → Nat) (post : zS → Prop) (z : zS) : Prop := post z
set_option maxHeartbeats 4000000 in
set_option maxRecDepth 100000 in
theorem zt_WayFinder_trace_62 {x : zC} {w : zW} {g : zS} {o : Nat → Int64} {post : zS → Prop} (hG : zq_G x w "GridRouter$WayFinder" zc_WayFinder_trace 4 (zq_rm 2 45)) (hR : zq_R x w (zq_A w) none (zq_Pv g o post)) (hAp : zq_Ap w) (hW : zq_Wr x w) {z : zS} (h : zw_WayFinder_trace_62 w.2.2.1 post z) : zq_W x w 0 0 (z, g, o) 62 [none, none, none, none] [] := by
  exact zr_vret hG hR zd_WayFinder_trace_62 ⟨_, rfl, rfl, h⟩
def zw_WayFinder_trace_14 (ln : Nat → Nat) (post : zS → Prop) (k14 : Int32 × Int32 × zS → Prop) : Int32 × Int32 × zS → Prop := fun b => match b with
  | (v1, v3, z) => (((z.1 3) ≤ (z.1 7) → zw_WayFinder_trace_62 ln post z) ∧ (¬ (z.1 3) ≤ (z.1 7) → ((v3 = v1 → zw_WayFinder_trace_62 ln post z) ∧ (¬ v3 = v1 → (zw_WayFinder_predecessor ln v3 z (fun r210 z210 => vp_in (z210.1 7) (ln 12) ∧ k14 (v1, r210, (zs_s (zs_a z210 12 (z210.1 7) r210) 7 (((zs_a z210 12 (z210.1 7) r210).1 7) + (1 : Int32))))))))))
set_option maxHeartbeats 4000000 in
set_option maxRecDepth 100000 in
theorem zt_WayFinder_trace_14 {x : zC} {w : zW} {g : zS} {o : Nat → Int64} {post : zS → Prop} (hG : zq_G x w "GridRouter$WayFinder" zc_WayFinder_trace 4 (zq_rm 2 45)) (hR : zq_R x w (zq_A w) none (zq_Pv g o post)) (hAp : zq_Ap w) (hW : zq_Wr x w) {v1 v3 : Int32} {z : zS} (h : zq_Lp (zw_WayFinder_trace_14 w.2.2.1 post) (v1, v3, z)) : zq_W x w 0 0 (z, g, o) 14 [some (.ref (w.2.1 21)), some (.int v1), none, some (.int v3)] [] := by
  refine zq_Lp_W (WW := fun b => zq_W x w 0 0 (b.2.2, g, o) 14 [some (.ref (w.2.1 21)), some (.int (b.1)), none, some (.int (b.2.1))] []) (fun k14 hk14 b h => ?_) h
  obtain ⟨v1, v3, z⟩ := b
  show zq_W x w 0 0 (z, g, o) 14 [some (.ref (w.2.1 21)), some (.int v1), none, some (.int v3)] []
  refine zr_aload_n hG zd_WayFinder_trace_14 rfl rfl ?_
  refine zf_WayFinder_length hG tk_224 zd_WayFinder_trace_15 ?_
  refine zr_aload_n hG zd_WayFinder_trace_18 rfl rfl ?_
  refine zf_WayFinder_grid hG tk_226 zd_WayFinder_trace_19 ?_
  refine zf_Grid_cells hG tk_50 zd_WayFinder_trace_22 ?_
  refine zr_icmp_ge hG 62 zd_WayFinder_trace_25 (by decide) (fun hc => ?_) (fun hc => ?_)
  · have h := h.1 hc
    exact zr_mask [false, false, false, false] (zt_WayFinder_trace_62 hG hR hAp hW h)
  · have h := h.2 hc
    refine zr_iload_n hG zd_WayFinder_trace_28 rfl rfl ?_
    refine zr_iload_n hG zd_WayFinder_trace_29 rfl rfl ?_
    refine zr_icmp_eq hG 62 zd_WayFinder_trace_30 (by decide) (fun hc => ?_) (fun hc => ?_)
    · have h := h.1 hc
      exact zr_mask [false, false, false, false] (zt_WayFinder_trace_62 hG hR hAp hW h)
    · have h := h.2 hc
      refine zr_aload_n hG zd_WayFinder_trace_33 rfl rfl ?_
      refine zr_iload_n hG zd_WayFinder_trace_34 rfl rfl ?_
      refine zr_callV hG zq_F0 (As := [.int v3]) (rest := []) (zm_WayFinder_predecessor (zc_l x) w hAp g o h) 21 rfl rfl rfl zg_WayFinder_111 zdd_WayFinder_predecessor ⟨rfl, rfl, by decide, by decide⟩ ⟨by decide, by decide⟩ rfl (Nat.le_of_ble_eq_true rfl) zd_WayFinder_trace_35 rfl ?_
      rintro _ _ ⟨r210, z210, rfl, rfl, h⟩
      refine zr_istore_n hG [some (.ref (w.2.1 21)), some (.int v1), none, some (.int r210)] zd_WayFinder_trace_38 rfl (Nat.le_of_ble_eq_true rfl) rfl ?_
      refine zr_aload_n hG zd_WayFinder_trace_39 rfl rfl ?_
      refine zf_WayFinder_way hG tk_222 zd_WayFinder_trace_40 ?_
      refine zr_aload_n hG zd_WayFinder_trace_43 rfl rfl ?_
      refine zf_WayFinder_length hG tk_224 zd_WayFinder_trace_44 ?_
      refine zr_iload_n hG zd_WayFinder_trace_47 rfl rfl ?_
      obtain ⟨hi, h⟩ := h
      refine zu_22 hG hW hi zd_WayFinder_trace_48 ?_
      refine zr_aload_n hG zd_WayFinder_trace_49 rfl rfl ?_
      refine zr_dup hG zd_WayFinder_trace_50 rfl ?_
      refine zf_WayFinder_length hG tk_224 zd_WayFinder_trace_51 ?_
      refine zr_iconst hG (v := (1 : Int32)) zd_WayFinder_trace_54 (by decide) ?_
      refine zr_iadd hG zd_WayFinder_trace_55 ?_
      refine zp_WayFinder_length hG hW tk_224 zd_WayFinder_trace_56 ?_
      refine zr_goto hG 14 zd_WayFinder_trace_59 (by decide) ?_
      have h := hk14 _ h
      exact h
def zw_WayFinder_trace (ln : Nat → Nat) (a1 a2 : Int32) (z : zS) (post : zS → Prop) : Prop := vp_in (0 : Int32) (ln 12) ∧ zq_Lp (zw_WayFinder_trace_14 ln post) (a1, a2, (zs_s (zs_a z 12 (0 : Int32) a2) 7 (1 : Int32)))
set_option maxHeartbeats 4000000 in
set_option maxRecDepth 100000 in
theorem zm_WayFinder_trace (l : Launch) (w : zW) (hAp : zq_Ap w) (g : zS) (o : Nat → Int64) {a1 a2 : Int32} {z : zS} {post : zS → Prop} (h : zw_WayFinder_trace w.2.2.1 a1 a2 z post) : zq_M l w (zq_A w) zy_WayFinder_trace zc_WayFinder_trace 4 none (zq_rm 2 45) [.ref (w.2.1 21), .int a1, .int a2] (z, g, o) (zq_Pv g o post) := by
  refine zq_mk_M (by decide) (by simp [Value.category]) (Nat.le_of_ble_eq_true rfl) hAp (fun x hx hG hR => ?_)
  subst hx
  have hW := zq_wr hR.2.2.1
  refine zr_iload_n hG zd_WayFinder_trace_0 rfl rfl ?_
  refine zr_istore_n hG [some (.ref (w.2.1 21)), some (.int a1), some (.int a2), some (.int a2)] zd_WayFinder_trace_1 rfl (Nat.le_of_ble_eq_true rfl) rfl ?_
  refine zr_aload_n hG zd_WayFinder_trace_2 rfl rfl ?_
  refine zf_WayFinder_way hG tk_222 zd_WayFinder_trace_3 ?_
  refine zr_iconst hG (v := (0 : Int32)) zd_WayFinder_trace_6 (by decide) ?_
  refine zr_iload_n hG zd_WayFinder_trace_7 rfl rfl ?_
  obtain ⟨hi, h⟩ := h
  refine zu_22 hG hW hi zd_WayFinder_trace_8 ?_
  refine zr_aload_n hG zd_WayFinder_trace_9 rfl rfl ?_
  refine zr_iconst hG (v := (1 : Int32)) zd_WayFinder_trace_10 (by decide) ?_
  refine zp_WayFinder_length hG hW tk_224 zd_WayFinder_trace_11 ?_
  exact zr_mask [true, true, false, true] (zt_WayFinder_trace_14 hG hR hAp hW h)
def zw_WayFinder_find_37 (ln : Nat → Nat) (post : Int32 → zS → Prop) (k2 : Int32 × Int32 × Int32 × zS → Prop) (v1 v2 v3 u0 u1 : Int32) (z : zS) : Prop := vp_in u1 (ln 13) ∧ k2 (v1, v2, (v3 + (1 : Int32)), (zs_a z 13 u1 u0))
set_option maxHeartbeats 4000000 in
set_option maxRecDepth 100000 in
theorem zt_WayFinder_find_37 {x : zC} {w : zW} {g : zS} {o : Nat → Int64} {post : Int32 → zS → Prop} (hG : zq_G x w "GridRouter$WayFinder" zc_WayFinder_find 4 (zq_rm 3 71)) (hR : zq_R x w (zq_A w) (some .int) (zq_Pi g o post)) (hAp : zq_Ap w) (hW : zq_Wr x w) {k2 : Int32 × Int32 × Int32 × zS → Prop} (hk2 : ∀ b : Int32 × Int32 × Int32 × zS, k2 b → zq_W x w 0 0 (b.2.2.2, g, o) 2 [some (.ref (w.2.1 21)), some (.int (b.1)), some (.int (b.2.1)), some (.int (b.2.2.1))] []) {v1 v2 v3 u0 u1 : Int32} {z : zS} (h : zw_WayFinder_find_37 w.2.2.1 post k2 v1 v2 v3 u0 u1 z) : zq_W x w 0 0 (z, g, o) 37 [some (.ref (w.2.1 21)), some (.int v1), some (.int v2), some (.int v3)] [.int u0, .int u1, .ref (w.2.1 23)] := by
  obtain ⟨hi, h⟩ := h
  refine zu_23 hG hW hi zd_WayFinder_find_37 ?_
  refine zr_iinc hG (u := (1 : Int32)) [some (.ref (w.2.1 21)), some (.int v1), some (.int v2), some (.int (v3 + (1 : Int32)))] zd_WayFinder_find_38 rfl (by decide) (Nat.le_of_ble_eq_true rfl) rfl ?_
  refine zr_goto hG 2 zd_WayFinder_find_41 (by decide) ?_
  have h := hk2 _ h
  exact h
def zw_WayFinder_find_2 (ln : Nat → Nat) (post : Int32 → zS → Prop) (k2 : Int32 × Int32 × Int32 × zS → Prop) : Int32 × Int32 × Int32 × zS → Prop := fun b => match b with
  | (v1, v2, v3, z) => (((z.1 3) ≤ v3 → vp_in v1 (ln 3) ∧ (zw_WayFinder_spread ln (z.2 3 v1.toNatClampNeg) z (fun z196 => vp_in v1 (ln 4) ∧ vp_in (z196.2 4 v1.toNatClampNeg) (ln 14) ∧ ((¬ (z196.2 14 (z196.2 4 v1.toNatClampNeg).toNatClampNeg) = (1000000 : Int32) → vp_in v1 (ln 3) ∧ vp_in v1 (ln 4) ∧ (zw_WayFinder_trace ln (z196.2 3 v1.toNatClampNeg) (z196.2 4 v1.toNatClampNeg) z196 (fun z197 => post (z196.2 14 (z196.2 4 v1.toNatClampNeg).toNatClampNeg) z197))) ∧ ((z196.2 14 (z196.2 4 v1.toNatClampNeg).toNatClampNeg) = (1000000 : Int32) → post (-1 : Int32) (zs_s z196 7 (0 : Int32))))))) ∧ (¬ (z.1 3) ≤ v3 → ((v2 = 0 → (zw_WayFinder_freeToll ln v3 v1 z (fun r198 z198 => zw_WayFinder_find_37 ln post k2 v1 v2 v3 r198 v3 z198))) ∧ (¬ v2 = 0 → (zw_WayFinder_pushToll ln v3 v1 z (fun r199 z199 => zw_WayFinder_find_37 ln post k2 v1 v2 v3 r199 v3 z199))))))
set_option maxHeartbeats 4000000 in
set_option maxRecDepth 100000 in
theorem zt_WayFinder_find_2 {x : zC} {w : zW} {g : zS} {o : Nat → Int64} {post : Int32 → zS → Prop} (hG : zq_G x w "GridRouter$WayFinder" zc_WayFinder_find 4 (zq_rm 3 71)) (hR : zq_R x w (zq_A w) (some .int) (zq_Pi g o post)) (hAp : zq_Ap w) (hW : zq_Wr x w) {v1 v2 v3 : Int32} {z : zS} (h : zq_Lp (zw_WayFinder_find_2 w.2.2.1 post) (v1, v2, v3, z)) : zq_W x w 0 0 (z, g, o) 2 [some (.ref (w.2.1 21)), some (.int v1), some (.int v2), some (.int v3)] [] := by
  refine zq_Lp_W (WW := fun b => zq_W x w 0 0 (b.2.2.2, g, o) 2 [some (.ref (w.2.1 21)), some (.int (b.1)), some (.int (b.2.1)), some (.int (b.2.2.1))] []) (fun k2 hk2 b h => ?_) h
  obtain ⟨v1, v2, v3, z⟩ := b
  show zq_W x w 0 0 (z, g, o) 2 [some (.ref (w.2.1 21)), some (.int v1), some (.int v2), some (.int v3)] []
  refine zr_iload_n hG zd_WayFinder_find_2 rfl rfl ?_
  refine zr_aload_n hG zd_WayFinder_find_3 rfl rfl ?_
  refine zf_WayFinder_grid hG tk_226 zd_WayFinder_find_4 ?_
  refine zf_Grid_cells hG tk_50 zd_WayFinder_find_7 ?_
  refine zr_icmp_ge hG 44 zd_WayFinder_find_10 (by decide) (fun hc => ?_) (fun hc => ?_)
  · have h := h.1 hc
    refine zr_aload_n hG zd_WayFinder_find_44 rfl rfl ?_
    refine zr_aload_n hG zd_WayFinder_find_45 rfl rfl ?_
    refine zf_WayFinder_nets hG tk_227 zd_WayFinder_find_46 ?_
    refine zf_Nets_first hG tk_86 zd_WayFinder_find_49 ?_
    refine zr_iload_n hG zd_WayFinder_find_52 rfl rfl ?_
    obtain ⟨hi, h⟩ := h
    refine zl_6 hG hi zd_WayFinder_find_53 ?_
    refine zr_callV hG (zq_F1 hW) (As := [.int (z.2 3 v1.toNatClampNeg)]) (rest := []) (zm_WayFinder_spread (zc_l x) w hAp g o h) 21 rfl rfl rfl zg_WayFinder_70 zdd_WayFinder_spread ⟨rfl, rfl, by decide, by decide⟩ ⟨by decide, by decide⟩ rfl (Nat.le_of_ble_eq_true rfl) zd_WayFinder_find_54 rfl ?_
    rintro _ _ ⟨z196, rfl, rfl, h⟩
    refine zr_aload_n hG zd_WayFinder_find_57 rfl rfl ?_
    refine zf_WayFinder_least hG tk_231 zd_WayFinder_find_58 ?_
    refine zr_aload_n hG zd_WayFinder_find_61 rfl rfl ?_
    refine zf_WayFinder_nets hG tk_227 zd_WayFinder_find_62 ?_
    refine zf_Nets_second hG tk_90 zd_WayFinder_find_65 ?_
    refine zr_iload_n hG zd_WayFinder_find_68 rfl rfl ?_
    obtain ⟨hi, h⟩ := h
    refine zl_7 hG hi zd_WayFinder_find_69 ?_
    obtain ⟨hi, h⟩ := h
    refine zl_24 hG hi zd_WayFinder_find_70 ?_
    refine zr_istore_n hG [some (.ref (w.2.1 21)), some (.int v1), some (.int v2), some (.int (z196.2 14 (z196.2 4 v1.toNatClampNeg).toNatClampNeg))] zd_WayFinder_find_71 rfl (Nat.le_of_ble_eq_true rfl) rfl ?_
    refine zr_iload_n hG zd_WayFinder_find_72 rfl rfl ?_
    refine zr_ldc hG (v := 1000000) tk_535 zd_WayFinder_find_73 ?_
    refine zr_icmp_ne hG 85 zd_WayFinder_find_75 (by decide) (fun hc => ?_) (fun hc => ?_)
    · have h := h.1 hc
      refine zr_aload_n hG zd_WayFinder_find_85 rfl rfl ?_
      refine zr_aload_n hG zd_WayFinder_find_86 rfl rfl ?_
      refine zf_WayFinder_nets hG tk_227 zd_WayFinder_find_87 ?_
      refine zf_Nets_first hG tk_86 zd_WayFinder_find_90 ?_
      refine zr_iload_n hG zd_WayFinder_find_93 rfl rfl ?_
      obtain ⟨hi, h⟩ := h
      refine zl_6 hG hi zd_WayFinder_find_94 ?_
      refine zr_aload_n hG zd_WayFinder_find_95 rfl rfl ?_
      refine zf_WayFinder_nets hG tk_227 zd_WayFinder_find_96 ?_
      refine zf_Nets_second hG tk_90 zd_WayFinder_find_99 ?_
      refine zr_iload_n hG zd_WayFinder_find_102 rfl rfl ?_
      obtain ⟨hi, h⟩ := h
      refine zl_7 hG hi zd_WayFinder_find_103 ?_
      refine zr_callV hG (zq_F1 hW) (As := [.int (z196.2 3 v1.toNatClampNeg), .int (z196.2 4 v1.toNatClampNeg)]) (rest := []) (zm_WayFinder_trace (zc_l x) w hAp g o h) 21 rfl rfl rfl zg_WayFinder_78 zdd_WayFinder_trace ⟨rfl, rfl, by decide, by decide⟩ ⟨by decide, by decide⟩ rfl (Nat.le_of_ble_eq_true rfl) zd_WayFinder_find_104 rfl ?_
      rintro _ _ ⟨z197, rfl, rfl, h⟩
      refine zr_iload_n hG zd_WayFinder_find_107 rfl rfl ?_
      exact zr_iret hG hR zd_WayFinder_find_108 ⟨_, _, rfl, rfl, h⟩
    · have h := h.2 hc
      refine zr_aload_n hG zd_WayFinder_find_78 rfl rfl ?_
      refine zr_iconst hG (v := (0 : Int32)) zd_WayFinder_find_79 (by decide) ?_
      refine zp_WayFinder_length hG hW tk_224 zd_WayFinder_find_80 ?_
      refine zr_iconst hG (v := (-1 : Int32)) zd_WayFinder_find_83 (by decide) ?_
      exact zr_iret hG hR zd_WayFinder_find_84 ⟨_, _, rfl, rfl, h⟩
  · have h := h.2 hc
    refine zr_aload_n hG zd_WayFinder_find_13 rfl rfl ?_
    refine zf_WayFinder_toll hG tk_230 zd_WayFinder_find_14 ?_
    refine zr_iload_n hG zd_WayFinder_find_17 rfl rfl ?_
    refine zr_iload_n hG zd_WayFinder_find_18 rfl rfl ?_
    refine zr_if_eq hG 31 zd_WayFinder_find_19 (by decide) (fun hc => ?_) (fun hc => ?_)
    · have h := h.1 hc
      refine zr_aload_n hG zd_WayFinder_find_31 rfl rfl ?_
      refine zr_iload_n hG zd_WayFinder_find_32 rfl rfl ?_
      refine zr_iload_n hG zd_WayFinder_find_33 rfl rfl ?_
      refine zr_callV hG zq_F0 (As := [.int v3, .int v1]) (rest := [.int v3, .ref (w.2.1 23)]) (zm_WayFinder_freeToll (zc_l x) w hAp g o h) 21 rfl rfl rfl zg_WayFinder_62 zdd_WayFinder_freeToll ⟨rfl, rfl, by decide, by decide⟩ ⟨by decide, by decide⟩ rfl (Nat.le_of_ble_eq_true rfl) zd_WayFinder_find_34 rfl ?_
      rintro _ _ ⟨r198, z198, rfl, rfl, h⟩
      exact zt_WayFinder_find_37 hG hR hAp hW hk2 h
    · have h := h.2 hc
      refine zr_aload_n hG zd_WayFinder_find_22 rfl rfl ?_
      refine zr_iload_n hG zd_WayFinder_find_23 rfl rfl ?_
      refine zr_iload_n hG zd_WayFinder_find_24 rfl rfl ?_
      refine zr_callV hG zq_F0 (As := [.int v3, .int v1]) (rest := [.int v3, .ref (w.2.1 23)]) (zm_WayFinder_pushToll (zc_l x) w hAp g o h) 21 rfl rfl rfl zg_WayFinder_58 zdd_WayFinder_pushToll ⟨rfl, rfl, by decide, by decide⟩ ⟨by decide, by decide⟩ rfl (Nat.le_of_ble_eq_true rfl) zd_WayFinder_find_25 rfl ?_
      rintro _ _ ⟨r199, z199, rfl, rfl, h⟩
      refine zr_goto hG 37 zd_WayFinder_find_28 (by decide) ?_
      exact zt_WayFinder_find_37 hG hR hAp hW hk2 h
def zw_WayFinder_find (ln : Nat → Nat) (a1 a2 : Int32) (z : zS) (post : Int32 → zS → Prop) : Prop := zq_Lp (zw_WayFinder_find_2 ln post) (a1, a2, (0 : Int32), z)
set_option maxHeartbeats 4000000 in
set_option maxRecDepth 100000 in
theorem zm_WayFinder_find (l : Launch) (w : zW) (hAp : zq_Ap w) (g : zS) (o : Nat → Int64) {a1 a2 : Int32} {z : zS} {post : Int32 → zS → Prop} (h : zw_WayFinder_find w.2.2.1 a1 a2 z post) : zq_M l w (zq_A w) zy_WayFinder_find zc_WayFinder_find 4 (some .int) (zq_rm 3 71) [.ref (w.2.1 21), .int a1, .int a2] (z, g, o) (zq_Pi g o post) := by
  refine zq_mk_M (by decide) (by simp [Value.category]) (Nat.le_of_ble_eq_true rfl) hAp (fun x hx hG hR => ?_)
  subst hx
  have hW := zq_wr hR.2.2.1
  refine zr_iconst hG (v := (0 : Int32)) zd_WayFinder_find_0 (by decide) ?_
  refine zr_istore_n hG [some (.ref (w.2.1 21)), some (.int a1), some (.int a2), some (.int (0 : Int32))] zd_WayFinder_find_1 rfl (Nat.le_of_ble_eq_true rfl) rfl ?_
  exact zt_WayFinder_find_2 hG hR hAp hW h
def zw_Router_lay_28 (ln : Nat → Nat) (post : Int32 → zS → Prop) (v2 : Int32) (z : zS) : Prop := post v2 z
set_option maxHeartbeats 4000000 in
set_option maxRecDepth 100000 in
theorem zt_Router_lay_28 {x : zC} {w : zW} {g : zS} {o : Nat → Int64} {post : Int32 → zS → Prop} (hG : zq_G x w "GridRouter$Router" zc_Router_lay 3 (zq_rm 4 94)) (hR : zq_R x w (zq_A w) (some .int) (zq_Pi g o post)) (hAp : zq_Ap w) (hW : zq_Wr x w) {v2 : Int32} {z : zS} (h : zw_Router_lay_28 w.2.2.1 post v2 z) : zq_W x w 0 0 (z, g, o) 28 [none, none, some (.int v2)] [] := by
  refine zr_iload_n hG zd_Router_lay_28 rfl rfl ?_
  exact zr_iret hG hR zd_Router_lay_29 ⟨_, _, rfl, rfl, h⟩
def zw_Router_lay (ln : Nat → Nat) (a1 : Int32) (z : zS) (post : Int32 → zS → Prop) : Prop := (zw_Layout_strip ln a1 z (fun z163 => (zw_WayFinder_find ln a1 (0 : Int32) z163 (fun r164 z164 => ((r164 = (-1 : Int32) → zw_Router_lay_28 ln post r164 z164) ∧ (¬ r164 = (-1 : Int32) → (zw_Router_layWay ln a1 z164 (fun z165 => zw_Router_lay_28 ln post r164 z165))))))))
set_option maxHeartbeats 4000000 in
set_option maxRecDepth 100000 in
theorem zm_Router_lay (l : Launch) (w : zW) (hAp : zq_Ap w) (g : zS) (o : Nat → Int64) {a1 : Int32} {z : zS} {post : Int32 → zS → Prop} (h : zw_Router_lay w.2.2.1 a1 z post) : zq_M l w (zq_A w) zy_Router_lay zc_Router_lay 3 (some .int) (zq_rm 4 94) [.ref (w.2.1 17), .int a1] (z, g, o) (zq_Pi g o post) := by
  refine zq_mk_M (by decide) (by simp [Value.category]) (Nat.le_of_ble_eq_true rfl) hAp (fun x hx hG hR => ?_)
  subst hx
  have hW := zq_wr hR.2.2.1
  have h : (zw_Layout_strip w.2.2.1 a1 z (fun z163 => (zw_WayFinder_find w.2.2.1 a1 (0 : Int32) z163 (fun r164 z164 => ((r164 = (-1 : Int32) → zw_Router_lay_28 w.2.2.1 post r164 z164) ∧ (¬ r164 = (-1 : Int32) → (zw_Router_layWay w.2.2.1 a1 z164 (fun z165 => zw_Router_lay_28 w.2.2.1 post r164 z165)))))))) := h
  refine zr_aload_n hG zd_Router_lay_0 rfl rfl ?_
  refine zf_Router_layout hG tk_262 zd_Router_lay_1 ?_
  refine zr_iload_n hG zd_Router_lay_4 rfl rfl ?_
  refine zr_callV hG (zq_F1 hW) (As := [.int a1]) (rest := []) (zm_Layout_strip (zc_l x) w hAp g o h) 9 rfl rfl rfl zg_Router_51 zdd_Layout_strip ⟨rfl, rfl, by decide, by decide⟩ ⟨by decide, by decide⟩ rfl (Nat.le_of_ble_eq_true rfl) zd_Router_lay_5 rfl ?_
  rintro _ _ ⟨z163, rfl, rfl, h⟩
  refine zr_aload_n hG zd_Router_lay_8 rfl rfl ?_
  refine zf_Router_finder hG tk_266 zd_Router_lay_9 ?_
  refine zr_iload_n hG zd_Router_lay_12 rfl rfl ?_
  refine zr_iconst hG (v := (0 : Int32)) zd_Router_lay_13 (by decide) ?_
  refine zr_callV hG (zq_F1 hW) (As := [.int a1, .int (0 : Int32)]) (rest := []) (zm_WayFinder_find (zc_l x) w hAp g o h) 21 rfl rfl rfl zg_Router_57 zdd_WayFinder_find ⟨rfl, rfl, by decide, by decide⟩ ⟨by decide, by decide⟩ rfl (Nat.le_of_ble_eq_true rfl) zd_Router_lay_14 rfl ?_
  rintro _ _ ⟨r164, z164, rfl, rfl, h⟩
  refine zr_istore_n hG [some (.ref (w.2.1 17)), some (.int a1), some (.int r164)] zd_Router_lay_17 rfl (Nat.le_of_ble_eq_true rfl) rfl ?_
  refine zr_iload_n hG zd_Router_lay_18 rfl rfl ?_
  refine zr_iconst hG (v := (-1 : Int32)) zd_Router_lay_19 (by decide) ?_
  refine zr_icmp_eq hG 28 zd_Router_lay_20 (by decide) (fun hc => ?_) (fun hc => ?_)
  · have h := h.1 hc
    exact zr_mask [false, false, true] (zt_Router_lay_28 hG hR hAp hW h)
  · have h := h.2 hc
    refine zr_aload_n hG zd_Router_lay_23 rfl rfl ?_
    refine zr_iload_n hG zd_Router_lay_24 rfl rfl ?_
    refine zr_callV hG (zq_F1 hW) (As := [.int a1]) (rest := []) (zm_Router_layWay (zc_l x) w hAp g o h) 17 rfl rfl rfl zg_Router_61 zdd_Router_layWay ⟨rfl, rfl, by decide, by decide⟩ ⟨by decide, by decide⟩ rfl (Nat.le_of_ble_eq_true rfl) zd_Router_lay_25 rfl ?_
    rintro _ _ ⟨z165, rfl, rfl, h⟩
    exact zr_mask [false, false, true] (zt_Router_lay_28 hG hR hAp hW h)
def zw_Gr_route (ln : Nat → Nat) (a1 : Int32) (z : zS) (post : Int32 → zS → Prop) : Prop := (zw_Nets_has ln a1 z (fun r18 z18 => ((¬ r18 = 0 → (zw_Router_lay ln a1 z18 (fun r19 z19 => post r19 z19))) ∧ (r18 = 0 → False))))
set_option maxHeartbeats 4000000 in
set_option maxRecDepth 100000 in
theorem zm_Gr_route (l : Launch) (w : zW) (hAp : zq_Ap w) (g : zS) (o : Nat → Int64) {a1 : Int32} {z : zS} {post : Int32 → zS → Prop} (h : zw_Gr_route w.2.2.1 a1 z post) : zq_M l w (zq_A w) zy_Gr_route zc_Gr_route 2 (some .int) (zq_rm 6 116) [.ref (w.2.1 0), .int a1] (z, g, o) (zq_Pi g o post) := by
  refine zq_mk_M (by decide) (by simp [Value.category]) (Nat.le_of_ble_eq_true rfl) hAp (fun x hx hG hR => ?_)
  subst hx
  have hW := zq_wr hR.2.2.1
  have h : (zw_Nets_has w.2.2.1 a1 z (fun r18 z18 => ((¬ r18 = 0 → (zw_Router_lay w.2.2.1 a1 z18 (fun r19 z19 => post r19 z19))) ∧ (r18 = 0 → False)))) := h
  refine zr_aload_n hG zd_Gr_route_0 rfl rfl ?_
  refine zf_Gr_nets hG tk_300 zd_Gr_route_1 ?_
  refine zr_iload_n hG zd_Gr_route_4 rfl rfl ?_
  refine zr_callV hG zq_F0 (As := [.int a1]) (rest := []) (zm_Nets_has (zc_l x) w hAp g o h) 5 rfl rfl rfl zg_Gr_122 zdd_Nets_has ⟨rfl, rfl, by decide, by decide⟩ ⟨by decide, by decide⟩ rfl (Nat.le_of_ble_eq_true rfl) zd_Gr_route_5 rfl ?_
  rintro _ _ ⟨r18, z18, rfl, rfl, h⟩
  refine zr_if_ne hG 21 zd_Gr_route_8 (by decide) (fun hc => ?_) (fun hc => ?_)
  · have h := h.1 hc
    refine zr_aload_n hG zd_Gr_route_21 rfl rfl ?_
    refine zf_Gr_router hG tk_303 zd_Gr_route_22 ?_
    refine zr_iload_n hG zd_Gr_route_25 rfl rfl ?_
    refine zr_callV hG (zq_F1 hW) (As := [.int a1]) (rest := []) (zm_Router_lay (zc_l x) w hAp g o h) 17 rfl rfl rfl zg_Gr_128 zdd_Router_lay ⟨rfl, rfl, by decide, by decide⟩ ⟨by decide, by decide⟩ rfl (Nat.le_of_ble_eq_true rfl) zd_Gr_route_26 rfl ?_
    rintro _ _ ⟨r19, z19, rfl, rfl, h⟩
    exact zr_iret hG hR zd_Gr_route_29 ⟨_, _, rfl, rfl, h⟩
  · have h := h.2 hc
    exact h.elim
def zw_Router_markHolder_46 (ln : Nat → Nat) (post : zS → Prop) (z : zS) : Prop := post z
set_option maxHeartbeats 4000000 in
set_option maxRecDepth 100000 in
theorem zt_Router_markHolder_46 {x : zC} {w : zW} {g : zS} {o : Nat → Int64} {post : zS → Prop} (hG : zq_G x w "GridRouter$Router" zc_Router_markHolder 3 (zq_rm 0 0)) (hR : zq_R x w (zq_A w) none (zq_Pv g o post)) (hAp : zq_Ap w) (hW : zq_Wr x w) {z : zS} (h : zw_Router_markHolder_46 w.2.2.1 post z) : zq_W x w 0 0 (z, g, o) 46 [none, none, none] [] := by
  exact zr_vret hG hR zd_Router_markHolder_46 ⟨_, rfl, rfl, h⟩
def zw_Router_markHolder (ln : Nat → Nat) (a1 a2 : Int32) (z : zS) (post : zS → Prop) : Prop := ((a1 = (-1 : Int32) → zw_Router_markHolder_46 ln post z) ∧ (¬ a1 = (-1 : Int32) → vp_in a1 (ln 6) ∧ (((z.2 6 a1.toNatClampNeg) = (-1 : Int32) → zw_Router_markHolder_46 ln post z) ∧ (¬ (z.2 6 a1.toNatClampNeg) = (-1 : Int32) → vp_in a1 (ln 6) ∧ (((z.2 6 a1.toNatClampNeg) = a2 → zw_Router_markHolder_46 ln post z) ∧ (¬ (z.2 6 a1.toNatClampNeg) = a2 → vp_in a1 (ln 6) ∧ vp_in (z.2 6 a1.toNatClampNeg) (ln 9) ∧ zw_Router_markHolder_46 ln post (zs_a z 9 (z.2 6 a1.toNatClampNeg) (vp_nar .boolean (1 : Int32)))))))))
set_option maxHeartbeats 4000000 in
set_option maxRecDepth 100000 in
theorem zm_Router_markHolder (l : Launch) (w : zW) (hAp : zq_Ap w) (g : zS) (o : Nat → Int64) {a1 a2 : Int32} {z : zS} {post : zS → Prop} (h : zw_Router_markHolder w.2.2.1 a1 a2 z post) : zq_M l w (zq_A w) zy_Router_markHolder zc_Router_markHolder 3 none (zq_rm 0 0) [.ref (w.2.1 17), .int a1, .int a2] (z, g, o) (zq_Pv g o post) := by
  refine zq_mk_M (by decide) (by simp [Value.category]) (Nat.le_of_ble_eq_true rfl) hAp (fun x hx hG hR => ?_)
  subst hx
  have hW := zq_wr hR.2.2.1
  refine zr_iload_n hG zd_Router_markHolder_0 rfl rfl ?_
  refine zr_iconst hG (v := (-1 : Int32)) zd_Router_markHolder_1 (by decide) ?_
  refine zr_icmp_eq hG 46 zd_Router_markHolder_2 (by decide) (fun hc => ?_) (fun hc => ?_)
  · have h := h.1 hc
    exact zr_mask [false, false, false] (zt_Router_markHolder_46 hG hR hAp hW h)
  · have h := h.2 hc
    refine zr_aload_n hG zd_Router_markHolder_5 rfl rfl ?_
    refine zf_Router_layout hG tk_262 zd_Router_markHolder_6 ?_
    refine zf_Layout_owner hG tk_125 zd_Router_markHolder_9 ?_
    refine zr_iload_n hG zd_Router_markHolder_12 rfl rfl ?_
    obtain ⟨hi, h⟩ := h
    refine zl_10 hG hi zd_Router_markHolder_13 ?_
    refine zr_iconst hG (v := (-1 : Int32)) zd_Router_markHolder_14 (by decide) ?_
    refine zr_icmp_eq hG 46 zd_Router_markHolder_15 (by decide) (fun hc => ?_) (fun hc => ?_)
    · have h := h.1 hc
      exact zr_mask [false, false, false] (zt_Router_markHolder_46 hG hR hAp hW h)
    · have h := h.2 hc
      refine zr_aload_n hG zd_Router_markHolder_18 rfl rfl ?_
      refine zf_Router_layout hG tk_262 zd_Router_markHolder_19 ?_
      refine zf_Layout_owner hG tk_125 zd_Router_markHolder_22 ?_
      refine zr_iload_n hG zd_Router_markHolder_25 rfl rfl ?_
      obtain ⟨hi, h⟩ := h
      refine zl_10 hG hi zd_Router_markHolder_26 ?_
      refine zr_iload_n hG zd_Router_markHolder_27 rfl rfl ?_
      refine zr_icmp_eq hG 46 zd_Router_markHolder_28 (by decide) (fun hc => ?_) (fun hc => ?_)
      · have h := h.1 hc
        exact zr_mask [false, false, false] (zt_Router_markHolder_46 hG hR hAp hW h)
      · have h := h.2 hc
        refine zr_aload_n hG zd_Router_markHolder_31 rfl rfl ?_
        refine zf_Router_pushedOut hG tk_268 zd_Router_markHolder_32 ?_
        refine zr_aload_n hG zd_Router_markHolder_35 rfl rfl ?_
        refine zf_Router_layout hG tk_262 zd_Router_markHolder_36 ?_
        refine zf_Layout_owner hG tk_125 zd_Router_markHolder_39 ?_
        refine zr_iload_n hG zd_Router_markHolder_42 rfl rfl ?_
        obtain ⟨hi, h⟩ := h
        refine zl_10 hG hi zd_Router_markHolder_43 ?_
        refine zr_iconst hG (v := (1 : Int32)) zd_Router_markHolder_44 (by decide) ?_
        obtain ⟨hi, h⟩ := h
        refine zu_20 hG hW hi zd_Router_markHolder_45 ?_
        exact zr_mask [false, false, false] (zt_Router_markHolder_46 hG hR hAp hW h)
def zw_Router_markPushedOut_90 (ln : Nat → Nat) (post : zS → Prop) (k23 : Int32 × Int32 × zS → Prop) (v1 v2 : Int32) (z : zS) : Prop := k23 (v1, (v2 + (1 : Int32)), z)
set_option maxHeartbeats 4000000 in
set_option maxRecDepth 100000 in
theorem zt_Router_markPushedOut_90 {x : zC} {w : zW} {g : zS} {o : Nat → Int64} {post : zS → Prop} (hG : zq_G x w "GridRouter$Router" zc_Router_markPushedOut 5 (zq_rm 1 22)) (hR : zq_R x w (zq_A w) none (zq_Pv g o post)) (hAp : zq_Ap w) (hW : zq_Wr x w) {k23 : Int32 × Int32 × zS → Prop} (hk23 : ∀ b : Int32 × Int32 × zS, k23 b → zq_W x w 0 0 (b.2.2, g, o) 23 [some (.ref (w.2.1 17)), some (.int (b.1)), some (.int (b.2.1)), none, none] []) {v1 v2 : Int32} {z : zS} (h : zw_Router_markPushedOut_90 w.2.2.1 post k23 v1 v2 z) : zq_W x w 0 0 (z, g, o) 90 [some (.ref (w.2.1 17)), some (.int v1), some (.int v2), none, none] [] := by
  refine zr_iinc hG (u := (1 : Int32)) [some (.ref (w.2.1 17)), some (.int v1), some (.int (v2 + (1 : Int32))), none, none] zd_Router_markPushedOut_90 rfl (by decide) (Nat.le_of_ble_eq_true rfl) rfl ?_
  refine zr_goto hG 23 zd_Router_markPushedOut_93 (by decide) ?_
  have h := hk23 _ h
  exact h
def zw_Router_markPushedOut_63 (ln : Nat → Nat) (post : zS → Prop) (k23 : Int32 × Int32 × zS → Prop) (k63 : Int32 × Int32 × Int32 × Int32 × zS → Prop) : Int32 × Int32 × Int32 × Int32 × zS → Prop := fun b => match b with
  | (v1, v2, v3, v4, z) => (((4 : Int32) ≤ v4 → zw_Router_markPushedOut_90 ln post k23 v1 v2 z) ∧ (¬ (4 : Int32) ≤ v4 → (zw_Grid_next ln v3 v4 z (fun r174 z174 => (zw_Router_markHolder ln r174 v1 z174 (fun z175 => k63 (v1, v2, v3, (v4 + (1 : Int32)), z175)))))))
set_option maxHeartbeats 4000000 in
set_option maxRecDepth 100000 in
theorem zt_Router_markPushedOut_63 {x : zC} {w : zW} {g : zS} {o : Nat → Int64} {post : zS → Prop} (hG : zq_G x w "GridRouter$Router" zc_Router_markPushedOut 5 (zq_rm 1 22)) (hR : zq_R x w (zq_A w) none (zq_Pv g o post)) (hAp : zq_Ap w) (hW : zq_Wr x w) {k23 : Int32 × Int32 × zS → Prop} (hk23 : ∀ b : Int32 × Int32 × zS, k23 b → zq_W x w 0 0 (b.2.2, g, o) 23 [some (.ref (w.2.1 17)), some (.int (b.1)), some (.int (b.2.1)), none, none] []) {v1 v2 v3 v4 : Int32} {z : zS} (h : zq_Lp (zw_Router_markPushedOut_63 w.2.2.1 post k23) (v1, v2, v3, v4, z)) : zq_W x w 0 0 (z, g, o) 63 [some (.ref (w.2.1 17)), some (.int v1), some (.int v2), some (.int v3), some (.int v4)] [] := by
  refine zq_Lp_W (WW := fun b => zq_W x w 0 0 (b.2.2.2.2, g, o) 63 [some (.ref (w.2.1 17)), some (.int (b.1)), some (.int (b.2.1)), some (.int (b.2.2.1)), some (.int (b.2.2.2.1))] []) (fun k63 hk63 b h => ?_) h
  obtain ⟨v1, v2, v3, v4, z⟩ := b
  show zq_W x w 0 0 (z, g, o) 63 [some (.ref (w.2.1 17)), some (.int v1), some (.int v2), some (.int v3), some (.int v4)] []
  refine zr_iload hG zd_Router_markPushedOut_63 rfl ?_
  refine zr_iconst hG (v := (4 : Int32)) zd_Router_markPushedOut_65 (by decide) ?_
  refine zr_icmp_ge hG 90 zd_Router_markPushedOut_66 (by decide) (fun hc => ?_) (fun hc => ?_)
  · have h := h.1 hc
    exact zr_mask [true, true, true, false, false] (zt_Router_markPushedOut_90 hG hR hAp hW hk23 h)
  · have h := h.2 hc
    refine zr_aload_n hG zd_Router_markPushedOut_69 rfl rfl ?_
    refine zr_aload_n hG zd_Router_markPushedOut_70 rfl rfl ?_
    refine zf_Router_grid hG tk_263 zd_Router_markPushedOut_71 ?_
    refine zr_iload_n hG zd_Router_markPushedOut_74 rfl rfl ?_
    refine zr_iload hG zd_Router_markPushedOut_75 rfl ?_
    refine zr_callV hG zq_F0 (As := [.int v3, .int v4]) (rest := [.ref (w.2.1 17)]) (zm_Grid_next (zc_l x) w hAp g o h) 1 rfl rfl rfl zg_Router_83 zdd_Grid_next ⟨rfl, rfl, by decide, by decide⟩ ⟨by decide, by decide⟩ rfl (Nat.le_of_ble_eq_true rfl) zd_Router_markPushedOut_77 rfl ?_
    rintro _ _ ⟨r174, z174, rfl, rfl, h⟩
    refine zr_iload_n hG zd_Router_markPushedOut_80 rfl rfl ?_
    refine zr_callV hG (zq_F1 hW) (As := [.int r174, .int v1]) (rest := []) (zm_Router_markHolder (zc_l x) w hAp g o h) 17 rfl rfl rfl zg_Router_94 zdd_Router_markHolder ⟨rfl, rfl, by decide, by decide⟩ ⟨by decide, by decide⟩ rfl (Nat.le_of_ble_eq_true rfl) zd_Router_markPushedOut_81 rfl ?_
    rintro _ _ ⟨z175, rfl, rfl, h⟩
    refine zr_iinc hG (u := (1 : Int32)) [some (.ref (w.2.1 17)), some (.int v1), some (.int v2), some (.int v3), some (.int (v4 + (1 : Int32)))] zd_Router_markPushedOut_84 rfl (by decide) (Nat.le_of_ble_eq_true rfl) rfl ?_
    refine zr_goto hG 63 zd_Router_markPushedOut_87 (by decide) ?_
    have h := hk63 _ h
    exact h
def zw_Router_markPushedOut_23 (ln : Nat → Nat) (post : zS → Prop) (k23 : Int32 × Int32 × zS → Prop) : Int32 × Int32 × zS → Prop := fun b => match b with
  | (v1, v2, z) => (((z.1 7) ≤ v2 → post z) ∧ (¬ (z.1 7) ≤ v2 → vp_in v2 (ln 12) ∧ (zw_Router_markHolder ln (z.2 12 v2.toNatClampNeg) v1 z (fun z173 => (((z173.1 5) = 0 → zw_Router_markPushedOut_90 ln post k23 v1 v2 z173) ∧ (¬ (z173.1 5) = 0 → zq_Lp (zw_Router_markPushedOut_63 ln post k23) (v1, v2, (z.2 12 v2.toNatClampNeg), (0 : Int32), z173)))))))
set_option maxHeartbeats 4000000 in
set_option maxRecDepth 100000 in
theorem zt_Router_markPushedOut_23 {x : zC} {w : zW} {g : zS} {o : Nat → Int64} {post : zS → Prop} (hG : zq_G x w "GridRouter$Router" zc_Router_markPushedOut 5 (zq_rm 1 22)) (hR : zq_R x w (zq_A w) none (zq_Pv g o post)) (hAp : zq_Ap w) (hW : zq_Wr x w) {v1 v2 : Int32} {z : zS} (h : zq_Lp (zw_Router_markPushedOut_23 w.2.2.1 post) (v1, v2, z)) : zq_W x w 0 0 (z, g, o) 23 [some (.ref (w.2.1 17)), some (.int v1), some (.int v2), none, none] [] := by
  refine zq_Lp_W (WW := fun b => zq_W x w 0 0 (b.2.2, g, o) 23 [some (.ref (w.2.1 17)), some (.int (b.1)), some (.int (b.2.1)), none, none] []) (fun k23 hk23 b h => ?_) h
  obtain ⟨v1, v2, z⟩ := b
  show zq_W x w 0 0 (z, g, o) 23 [some (.ref (w.2.1 17)), some (.int v1), some (.int v2), none, none] []
  refine zr_iload_n hG zd_Router_markPushedOut_23 rfl rfl ?_
  refine zr_aload_n hG zd_Router_markPushedOut_24 rfl rfl ?_
  refine zf_Router_finder hG tk_266 zd_Router_markPushedOut_25 ?_
  refine zf_WayFinder_length hG tk_225 zd_Router_markPushedOut_28 ?_
  refine zr_icmp_ge hG 96 zd_Router_markPushedOut_31 (by decide) (fun hc => ?_) (fun hc => ?_)
  · have h := h.1 hc
    exact zr_vret hG hR zd_Router_markPushedOut_96 ⟨_, rfl, rfl, h⟩
  · have h := h.2 hc
    refine zr_aload_n hG zd_Router_markPushedOut_34 rfl rfl ?_
    refine zf_Router_finder hG tk_266 zd_Router_markPushedOut_35 ?_
    refine zf_WayFinder_way hG tk_223 zd_Router_markPushedOut_38 ?_
    refine zr_iload_n hG zd_Router_markPushedOut_41 rfl rfl ?_
    obtain ⟨hi, h⟩ := h
    refine zl_22 hG hi zd_Router_markPushedOut_42 ?_
    refine zr_istore_n hG [some (.ref (w.2.1 17)), some (.int v1), some (.int v2), some (.int (z.2 12 v2.toNatClampNeg)), none] zd_Router_markPushedOut_43 rfl (Nat.le_of_ble_eq_true rfl) rfl ?_
    refine zr_aload_n hG zd_Router_markPushedOut_44 rfl rfl ?_
    refine zr_iload_n hG zd_Router_markPushedOut_45 rfl rfl ?_
    refine zr_iload_n hG zd_Router_markPushedOut_46 rfl rfl ?_
    refine zr_callV hG (zq_F1 hW) (As := [.int (z.2 12 v2.toNatClampNeg), .int v1]) (rest := []) (zm_Router_markHolder (zc_l x) w hAp g o h) 17 rfl rfl rfl zg_Router_94 zdd_Router_markHolder ⟨rfl, rfl, by decide, by decide⟩ ⟨by decide, by decide⟩ rfl (Nat.le_of_ble_eq_true rfl) zd_Router_markPushedOut_47 rfl ?_
    rintro _ _ ⟨z173, rfl, rfl, h⟩
    refine zr_aload_n hG zd_Router_markPushedOut_50 rfl rfl ?_
    refine zf_Router_rules hG tk_264 zd_Router_markPushedOut_51 ?_
    refine zf_Rules_spaced hG tk_154 zd_Router_markPushedOut_54 ?_
    refine zr_if_eq hG 90 zd_Router_markPushedOut_57 (by decide) (fun hc => ?_) (fun hc => ?_)
    · have h := h.1 hc
      exact zr_mask [true, true, true, false, false] (zt_Router_markPushedOut_90 hG hR hAp hW hk23 h)
    · have h := h.2 hc
      refine zr_iconst hG (v := (0 : Int32)) zd_Router_markPushedOut_60 (by decide) ?_
      refine zr_istore hG [some (.ref (w.2.1 17)), some (.int v1), some (.int v2), some (.int (z.2 12 v2.toNatClampNeg)), some (.int (0 : Int32))] zd_Router_markPushedOut_61 (Nat.le_of_ble_eq_true rfl) rfl ?_
      exact zt_Router_markPushedOut_63 hG hR hAp hW hk23 h
def zw_Router_markPushedOut_2 (ln : Nat → Nat) (post : zS → Prop) (k2 : Int32 × Int32 × zS → Prop) : Int32 × Int32 × zS → Prop := fun b => match b with
  | (v1, v2, z) => (((6 : Int32) ≤ v2 → zq_Lp (zw_Router_markPushedOut_23 ln post) (v1, (0 : Int32), z)) ∧ (¬ (6 : Int32) ≤ v2 → vp_in v2 (ln 9) ∧ k2 (v1, (v2 + (1 : Int32)), (zs_a z 9 v2 (vp_nar .boolean (0 : Int32))))))
set_option maxHeartbeats 4000000 in
set_option maxRecDepth 100000 in
theorem zt_Router_markPushedOut_2 {x : zC} {w : zW} {g : zS} {o : Nat → Int64} {post : zS → Prop} (hG : zq_G x w "GridRouter$Router" zc_Router_markPushedOut 5 (zq_rm 1 22)) (hR : zq_R x w (zq_A w) none (zq_Pv g o post)) (hAp : zq_Ap w) (hW : zq_Wr x w) {v1 v2 : Int32} {z : zS} (h : zq_Lp (zw_Router_markPushedOut_2 w.2.2.1 post) (v1, v2, z)) : zq_W x w 0 0 (z, g, o) 2 [some (.ref (w.2.1 17)), some (.int v1), some (.int v2), none, none] [] := by
  refine zq_Lp_W (WW := fun b => zq_W x w 0 0 (b.2.2, g, o) 2 [some (.ref (w.2.1 17)), some (.int (b.1)), some (.int (b.2.1)), none, none] []) (fun k2 hk2 b h => ?_) h
  obtain ⟨v1, v2, z⟩ := b
  show zq_W x w 0 0 (z, g, o) 2 [some (.ref (w.2.1 17)), some (.int v1), some (.int v2), none, none] []
  refine zr_iload_n hG zd_Router_markPushedOut_2 rfl rfl ?_
  refine zr_bipush hG (v := (6 : Int32)) zd_Router_markPushedOut_3 (by decide) ?_
  refine zr_icmp_ge hG 21 zd_Router_markPushedOut_5 (by decide) (fun hc => ?_) (fun hc => ?_)
  · have h := h.1 hc
    refine zr_iconst hG (v := (0 : Int32)) zd_Router_markPushedOut_21 (by decide) ?_
    refine zr_istore_n hG [some (.ref (w.2.1 17)), some (.int v1), some (.int (0 : Int32)), none, none] zd_Router_markPushedOut_22 rfl (Nat.le_of_ble_eq_true rfl) rfl ?_
    exact zt_Router_markPushedOut_23 hG hR hAp hW h
  · have h := h.2 hc
    refine zr_aload_n hG zd_Router_markPushedOut_8 rfl rfl ?_
    refine zf_Router_pushedOut hG tk_268 zd_Router_markPushedOut_9 ?_
    refine zr_iload_n hG zd_Router_markPushedOut_12 rfl rfl ?_
    refine zr_iconst hG (v := (0 : Int32)) zd_Router_markPushedOut_13 (by decide) ?_
    obtain ⟨hi, h⟩ := h
    refine zu_20 hG hW hi zd_Router_markPushedOut_14 ?_
    refine zr_iinc hG (u := (1 : Int32)) [some (.ref (w.2.1 17)), some (.int v1), some (.int (v2 + (1 : Int32))), none, none] zd_Router_markPushedOut_15 rfl (by decide) (Nat.le_of_ble_eq_true rfl) rfl ?_
    refine zr_goto hG 2 zd_Router_markPushedOut_18 (by decide) ?_
    have h := hk2 _ h
    exact h
def zw_Router_markPushedOut (ln : Nat → Nat) (a1 : Int32) (z : zS) (post : zS → Prop) : Prop := zq_Lp (zw_Router_markPushedOut_2 ln post) (a1, (0 : Int32), z)
set_option maxHeartbeats 4000000 in
set_option maxRecDepth 100000 in
theorem zm_Router_markPushedOut (l : Launch) (w : zW) (hAp : zq_Ap w) (g : zS) (o : Nat → Int64) {a1 : Int32} {z : zS} {post : zS → Prop} (h : zw_Router_markPushedOut w.2.2.1 a1 z post) : zq_M l w (zq_A w) zy_Router_markPushedOut zc_Router_markPushedOut 5 none (zq_rm 1 22) [.ref (w.2.1 17), .int a1] (z, g, o) (zq_Pv g o post) := by
  refine zq_mk_M (by decide) (by simp [Value.category]) (Nat.le_of_ble_eq_true rfl) hAp (fun x hx hG hR => ?_)
  subst hx
  have hW := zq_wr hR.2.2.1
  refine zr_iconst hG (v := (0 : Int32)) zd_Router_markPushedOut_0 (by decide) ?_
  refine zr_istore_n hG [some (.ref (w.2.1 17)), some (.int a1), some (.int (0 : Int32)), none, none] zd_Router_markPushedOut_1 rfl (Nat.le_of_ble_eq_true rfl) rfl ?_
  exact zt_Router_markPushedOut_2 hG hR hAp hW h
def zw_Router_stripPushedOut_66 (ln : Nat → Nat) (post : zS → Prop) (k38 : Int32 × zS → Prop) (v1 : Int32) (z : zS) : Prop := k38 ((v1 + (1 : Int32)), z)
set_option maxHeartbeats 4000000 in
set_option maxRecDepth 100000 in
theorem zt_Router_stripPushedOut_66 {x : zC} {w : zW} {g : zS} {o : Nat → Int64} {post : zS → Prop} (hG : zq_G x w "GridRouter$Router" zc_Router_stripPushedOut 2 (zq_rm 2 43)) (hR : zq_R x w (zq_A w) none (zq_Pv g o post)) (hAp : zq_Ap w) (hW : zq_Wr x w) {k38 : Int32 × zS → Prop} (hk38 : ∀ b : Int32 × zS, k38 b → zq_W x w 0 0 (b.2, g, o) 38 [some (.ref (w.2.1 17)), some (.int (b.1))] []) {v1 : Int32} {z : zS} (h : zw_Router_stripPushedOut_66 w.2.2.1 post k38 v1 z) : zq_W x w 0 0 (z, g, o) 66 [some (.ref (w.2.1 17)), some (.int v1)] [] := by
  refine zr_iinc hG (u := (1 : Int32)) [some (.ref (w.2.1 17)), some (.int (v1 + (1 : Int32)))] zd_Router_stripPushedOut_66 rfl (by decide) (Nat.le_of_ble_eq_true rfl) rfl ?_
  refine zr_goto hG 38 zd_Router_stripPushedOut_69 (by decide) ?_
  have h := hk38 _ h
  exact h
def zw_Router_stripPushedOut_38 (ln : Nat → Nat) (post : zS → Prop) (k38 : Int32 × zS → Prop) : Int32 × zS → Prop := fun b => match b with
  | (v1, z) => (((z.1 4) ≤ v1 → post z) ∧ (¬ (z.1 4) ≤ v1 → vp_in v1 (ln 9) ∧ (((z.2 9 v1.toNatClampNeg) = 0 → zw_Router_stripPushedOut_66 ln post k38 v1 z) ∧ (¬ (z.2 9 v1.toNatClampNeg) = 0 → (zw_Layout_restorePins ln v1 z (fun z177 => zw_Router_stripPushedOut_66 ln post k38 v1 z177))))))
set_option maxHeartbeats 4000000 in
set_option maxRecDepth 100000 in
theorem zt_Router_stripPushedOut_38 {x : zC} {w : zW} {g : zS} {o : Nat → Int64} {post : zS → Prop} (hG : zq_G x w "GridRouter$Router" zc_Router_stripPushedOut 2 (zq_rm 2 43)) (hR : zq_R x w (zq_A w) none (zq_Pv g o post)) (hAp : zq_Ap w) (hW : zq_Wr x w) {v1 : Int32} {z : zS} (h : zq_Lp (zw_Router_stripPushedOut_38 w.2.2.1 post) (v1, z)) : zq_W x w 0 0 (z, g, o) 38 [some (.ref (w.2.1 17)), some (.int v1)] [] := by
  refine zq_Lp_W (WW := fun b => zq_W x w 0 0 (b.2, g, o) 38 [some (.ref (w.2.1 17)), some (.int (b.1))] []) (fun k38 hk38 b h => ?_) h
  obtain ⟨v1, z⟩ := b
  show zq_W x w 0 0 (z, g, o) 38 [some (.ref (w.2.1 17)), some (.int v1)] []
  refine zr_iload_n hG zd_Router_stripPushedOut_38 rfl rfl ?_
  refine zr_aload_n hG zd_Router_stripPushedOut_39 rfl rfl ?_
  refine zf_Router_nets hG tk_261 zd_Router_stripPushedOut_40 ?_
  refine zf_Nets_count hG tk_100 zd_Router_stripPushedOut_43 ?_
  refine zr_icmp_ge hG 72 zd_Router_stripPushedOut_46 (by decide) (fun hc => ?_) (fun hc => ?_)
  · have h := h.1 hc
    exact zr_vret hG hR zd_Router_stripPushedOut_72 ⟨_, rfl, rfl, h⟩
  · have h := h.2 hc
    refine zr_aload_n hG zd_Router_stripPushedOut_49 rfl rfl ?_
    refine zf_Router_pushedOut hG tk_268 zd_Router_stripPushedOut_50 ?_
    refine zr_iload_n hG zd_Router_stripPushedOut_53 rfl rfl ?_
    obtain ⟨hi, h⟩ := h
    refine zl_20 hG hi zd_Router_stripPushedOut_54 ?_
    refine zr_if_eq hG 66 zd_Router_stripPushedOut_55 (by decide) (fun hc => ?_) (fun hc => ?_)
    · have h := h.1 hc
      exact zt_Router_stripPushedOut_66 hG hR hAp hW hk38 h
    · have h := h.2 hc
      refine zr_aload_n hG zd_Router_stripPushedOut_58 rfl rfl ?_
      refine zf_Router_layout hG tk_262 zd_Router_stripPushedOut_59 ?_
      refine zr_iload_n hG zd_Router_stripPushedOut_62 rfl rfl ?_
      refine zr_callV hG (zq_F1 hW) (As := [.int v1]) (rest := []) (zm_Layout_restorePins (zc_l x) w hAp g o h) 9 rfl rfl rfl zg_Router_112 zdd_Layout_restorePins ⟨rfl, rfl, by decide, by decide⟩ ⟨by decide, by decide⟩ rfl (Nat.le_of_ble_eq_true rfl) zd_Router_stripPushedOut_63 rfl ?_
      rintro _ _ ⟨z177, rfl, rfl, h⟩
      exact zt_Router_stripPushedOut_66 hG hR hAp hW hk38 h
def zw_Router_stripPushedOut_30 (ln : Nat → Nat) (post : zS → Prop) (k2 : Int32 × zS → Prop) (v1 : Int32) (z : zS) : Prop := k2 ((v1 + (1 : Int32)), z)
set_option maxHeartbeats 4000000 in
set_option maxRecDepth 100000 in
theorem zt_Router_stripPushedOut_30 {x : zC} {w : zW} {g : zS} {o : Nat → Int64} {post : zS → Prop} (hG : zq_G x w "GridRouter$Router" zc_Router_stripPushedOut 2 (zq_rm 2 43)) (hR : zq_R x w (zq_A w) none (zq_Pv g o post)) (hAp : zq_Ap w) (hW : zq_Wr x w) {k2 : Int32 × zS → Prop} (hk2 : ∀ b : Int32 × zS, k2 b → zq_W x w 0 0 (b.2, g, o) 2 [some (.ref (w.2.1 17)), some (.int (b.1))] []) {v1 : Int32} {z : zS} (h : zw_Router_stripPushedOut_30 w.2.2.1 post k2 v1 z) : zq_W x w 0 0 (z, g, o) 30 [some (.ref (w.2.1 17)), some (.int v1)] [] := by
  refine zr_iinc hG (u := (1 : Int32)) [some (.ref (w.2.1 17)), some (.int (v1 + (1 : Int32)))] zd_Router_stripPushedOut_30 rfl (by decide) (Nat.le_of_ble_eq_true rfl) rfl ?_
  refine zr_goto hG 2 zd_Router_stripPushedOut_33 (by decide) ?_
  have h := hk2 _ h
  exact h
def zw_Router_stripPushedOut_2 (ln : Nat → Nat) (post : zS → Prop) (k2 : Int32 × zS → Prop) : Int32 × zS → Prop := fun b => match b with
  | (v1, z) => (((z.1 4) ≤ v1 → zq_Lp (zw_Router_stripPushedOut_38 ln post) ((0 : Int32), z)) ∧ (¬ (z.1 4) ≤ v1 → vp_in v1 (ln 9) ∧ (((z.2 9 v1.toNatClampNeg) = 0 → zw_Router_stripPushedOut_30 ln post k2 v1 z) ∧ (¬ (z.2 9 v1.toNatClampNeg) = 0 → (zw_Layout_clear ln v1 z (fun z176 => zw_Router_stripPushedOut_30 ln post k2 v1 z176))))))
set_option maxHeartbeats 4000000 in
set_option maxRecDepth 100000 in
theorem zt_Router_stripPushedOut_2 {x : zC} {w : zW} {g : zS} {o : Nat → Int64} {post : zS → Prop} (hG : zq_G x w "GridRouter$Router" zc_Router_stripPushedOut 2 (zq_rm 2 43)) (hR : zq_R x w (zq_A w) none (zq_Pv g o post)) (hAp : zq_Ap w) (hW : zq_Wr x w) {v1 : Int32} {z : zS} (h : zq_Lp (zw_Router_stripPushedOut_2 w.2.2.1 post) (v1, z)) : zq_W x w 0 0 (z, g, o) 2 [some (.ref (w.2.1 17)), some (.int v1)] [] := by
  refine zq_Lp_W (WW := fun b => zq_W x w 0 0 (b.2, g, o) 2 [some (.ref (w.2.1 17)), some (.int (b.1))] []) (fun k2 hk2 b h => ?_) h
  obtain ⟨v1, z⟩ := b
  show zq_W x w 0 0 (z, g, o) 2 [some (.ref (w.2.1 17)), some (.int v1)] []
  refine zr_iload_n hG zd_Router_stripPushedOut_2 rfl rfl ?_
  refine zr_aload_n hG zd_Router_stripPushedOut_3 rfl rfl ?_
  refine zf_Router_nets hG tk_261 zd_Router_stripPushedOut_4 ?_
  refine zf_Nets_count hG tk_100 zd_Router_stripPushedOut_7 ?_
  refine zr_icmp_ge hG 36 zd_Router_stripPushedOut_10 (by decide) (fun hc => ?_) (fun hc => ?_)
  · have h := h.1 hc
    refine zr_iconst hG (v := (0 : Int32)) zd_Router_stripPushedOut_36 (by decide) ?_
    refine zr_istore_n hG [some (.ref (w.2.1 17)), some (.int (0 : Int32))] zd_Router_stripPushedOut_37 rfl (Nat.le_of_ble_eq_true rfl) rfl ?_
    exact zt_Router_stripPushedOut_38 hG hR hAp hW h
  · have h := h.2 hc
    refine zr_aload_n hG zd_Router_stripPushedOut_13 rfl rfl ?_
    refine zf_Router_pushedOut hG tk_268 zd_Router_stripPushedOut_14 ?_
    refine zr_iload_n hG zd_Router_stripPushedOut_17 rfl rfl ?_
    obtain ⟨hi, h⟩ := h
    refine zl_20 hG hi zd_Router_stripPushedOut_18 ?_
    refine zr_if_eq hG 30 zd_Router_stripPushedOut_19 (by decide) (fun hc => ?_) (fun hc => ?_)
    · have h := h.1 hc
      exact zt_Router_stripPushedOut_30 hG hR hAp hW hk2 h
    · have h := h.2 hc
      refine zr_aload_n hG zd_Router_stripPushedOut_22 rfl rfl ?_
      refine zf_Router_layout hG tk_262 zd_Router_stripPushedOut_23 ?_
      refine zr_iload_n hG zd_Router_stripPushedOut_26 rfl rfl ?_
      refine zr_callV hG (zq_F1 hW) (As := [.int v1]) (rest := []) (zm_Layout_clear (zc_l x) w hAp g o h) 9 rfl rfl rfl zg_Router_109 zdd_Layout_clear ⟨rfl, rfl, by decide, by decide⟩ ⟨by decide, by decide⟩ rfl (Nat.le_of_ble_eq_true rfl) zd_Router_stripPushedOut_27 rfl ?_
      rintro _ _ ⟨z176, rfl, rfl, h⟩
      exact zt_Router_stripPushedOut_30 hG hR hAp hW hk2 h
def zw_Router_stripPushedOut (ln : Nat → Nat) (z : zS) (post : zS → Prop) : Prop := zq_Lp (zw_Router_stripPushedOut_2 ln post) ((0 : Int32), z)
set_option maxHeartbeats 4000000 in
set_option maxRecDepth 100000 in
theorem zm_Router_stripPushedOut (l : Launch) (w : zW) (hAp : zq_Ap w) (g : zS) (o : Nat → Int64) {z : zS} {post : zS → Prop} (h : zw_Router_stripPushedOut w.2.2.1 z post) : zq_M l w (zq_A w) zy_Router_stripPushedOut zc_Router_stripPushedOut 2 none (zq_rm 2 43) [.ref (w.2.1 17)] (z, g, o) (zq_Pv g o post) := by
  refine zq_mk_M (by decide) (by simp [Value.category]) (Nat.le_of_ble_eq_true rfl) hAp (fun x hx hG hR => ?_)
  subst hx
  have hW := zq_wr hR.2.2.1
  refine zr_iconst hG (v := (0 : Int32)) zd_Router_stripPushedOut_0 (by decide) ?_
  refine zr_istore_n hG [some (.ref (w.2.1 17)), some (.int (0 : Int32))] zd_Router_stripPushedOut_1 rfl (Nat.le_of_ble_eq_true rfl) rfl ?_
  exact zt_Router_stripPushedOut_2 hG hR hAp hW h
def zw_Router_shove_37 (ln : Nat → Nat) (post : Int32 → zS → Prop) (v2 : Int32) (z : zS) : Prop := post v2 z
set_option maxHeartbeats 4000000 in
set_option maxRecDepth 100000 in
theorem zt_Router_shove_37 {x : zC} {w : zW} {g : zS} {o : Nat → Int64} {post : Int32 → zS → Prop} (hG : zq_G x w "GridRouter$Router" zc_Router_shove 3 (zq_rm 4 94)) (hR : zq_R x w (zq_A w) (some .int) (zq_Pi g o post)) (hAp : zq_Ap w) (hW : zq_Wr x w) {v2 : Int32} {z : zS} (h : zw_Router_shove_37 w.2.2.1 post v2 z) : zq_W x w 0 0 (z, g, o) 37 [none, none, some (.int v2)] [] := by
  refine zr_iload_n hG zd_Router_shove_37 rfl rfl ?_
  exact zr_iret hG hR zd_Router_shove_38 ⟨_, _, rfl, rfl, h⟩
def zw_Router_shove (ln : Nat → Nat) (a1 : Int32) (z : zS) (post : Int32 → zS → Prop) : Prop := (zw_Layout_strip ln a1 z (fun z166 => (zw_WayFinder_find ln a1 (1 : Int32) z166 (fun r167 z167 => ((r167 = (-1 : Int32) → zw_Router_shove_37 ln post r167 z167) ∧ (¬ r167 = (-1 : Int32) → (zw_Router_markPushedOut ln a1 z167 (fun z168 => (zw_Router_stripPushedOut ln z168 (fun z169 => (zw_Router_layWay ln a1 z169 (fun z170 => zw_Router_shove_37 ln post r167 z170))))))))))))
set_option maxHeartbeats 4000000 in
set_option maxRecDepth 100000 in
theorem zm_Router_shove (l : Launch) (w : zW) (hAp : zq_Ap w) (g : zS) (o : Nat → Int64) {a1 : Int32} {z : zS} {post : Int32 → zS → Prop} (h : zw_Router_shove w.2.2.1 a1 z post) : zq_M l w (zq_A w) zy_Router_shove zc_Router_shove 3 (some .int) (zq_rm 4 94) [.ref (w.2.1 17), .int a1] (z, g, o) (zq_Pi g o post) := by
  refine zq_mk_M (by decide) (by simp [Value.category]) (Nat.le_of_ble_eq_true rfl) hAp (fun x hx hG hR => ?_)
  subst hx
  have hW := zq_wr hR.2.2.1
  have h : (zw_Layout_strip w.2.2.1 a1 z (fun z166 => (zw_WayFinder_find w.2.2.1 a1 (1 : Int32) z166 (fun r167 z167 => ((r167 = (-1 : Int32) → zw_Router_shove_37 w.2.2.1 post r167 z167) ∧ (¬ r167 = (-1 : Int32) → (zw_Router_markPushedOut w.2.2.1 a1 z167 (fun z168 => (zw_Router_stripPushedOut w.2.2.1 z168 (fun z169 => (zw_Router_layWay w.2.2.1 a1 z169 (fun z170 => zw_Router_shove_37 w.2.2.1 post r167 z170)))))))))))) := h
  refine zr_aload_n hG zd_Router_shove_0 rfl rfl ?_
  refine zf_Router_layout hG tk_262 zd_Router_shove_1 ?_
  refine zr_iload_n hG zd_Router_shove_4 rfl rfl ?_
  refine zr_callV hG (zq_F1 hW) (As := [.int a1]) (rest := []) (zm_Layout_strip (zc_l x) w hAp g o h) 9 rfl rfl rfl zg_Router_51 zdd_Layout_strip ⟨rfl, rfl, by decide, by decide⟩ ⟨by decide, by decide⟩ rfl (Nat.le_of_ble_eq_true rfl) zd_Router_shove_5 rfl ?_
  rintro _ _ ⟨z166, rfl, rfl, h⟩
  refine zr_aload_n hG zd_Router_shove_8 rfl rfl ?_
  refine zf_Router_finder hG tk_266 zd_Router_shove_9 ?_
  refine zr_iload_n hG zd_Router_shove_12 rfl rfl ?_
  refine zr_iconst hG (v := (1 : Int32)) zd_Router_shove_13 (by decide) ?_
  refine zr_callV hG (zq_F1 hW) (As := [.int a1, .int (1 : Int32)]) (rest := []) (zm_WayFinder_find (zc_l x) w hAp g o h) 21 rfl rfl rfl zg_Router_57 zdd_WayFinder_find ⟨rfl, rfl, by decide, by decide⟩ ⟨by decide, by decide⟩ rfl (Nat.le_of_ble_eq_true rfl) zd_Router_shove_14 rfl ?_
  rintro _ _ ⟨r167, z167, rfl, rfl, h⟩
  refine zr_istore_n hG [some (.ref (w.2.1 17)), some (.int a1), some (.int r167)] zd_Router_shove_17 rfl (Nat.le_of_ble_eq_true rfl) rfl ?_
  refine zr_iload_n hG zd_Router_shove_18 rfl rfl ?_
  refine zr_iconst hG (v := (-1 : Int32)) zd_Router_shove_19 (by decide) ?_
  refine zr_icmp_eq hG 37 zd_Router_shove_20 (by decide) (fun hc => ?_) (fun hc => ?_)
  · have h := h.1 hc
    exact zr_mask [false, false, true] (zt_Router_shove_37 hG hR hAp hW h)
  · have h := h.2 hc
    refine zr_aload_n hG zd_Router_shove_23 rfl rfl ?_
    refine zr_iload_n hG zd_Router_shove_24 rfl rfl ?_
    refine zr_callV hG (zq_F1 hW) (As := [.int a1]) (rest := []) (zm_Router_markPushedOut (zc_l x) w hAp g o h) 17 rfl rfl rfl zg_Router_64 zdd_Router_markPushedOut ⟨rfl, rfl, by decide, by decide⟩ ⟨by decide, by decide⟩ rfl (Nat.le_of_ble_eq_true rfl) zd_Router_shove_25 rfl ?_
    rintro _ _ ⟨z168, rfl, rfl, h⟩
    refine zr_aload_n hG zd_Router_shove_28 rfl rfl ?_
    refine zr_callV hG (zq_F1 hW) (As := []) (rest := []) (zm_Router_stripPushedOut (zc_l x) w hAp g o h) 17 rfl rfl rfl zg_Router_67 zdd_Router_stripPushedOut ⟨rfl, rfl, by decide, by decide⟩ ⟨by decide, by decide⟩ rfl (Nat.le_of_ble_eq_true rfl) zd_Router_shove_29 rfl ?_
    rintro _ _ ⟨z169, rfl, rfl, h⟩
    refine zr_aload_n hG zd_Router_shove_32 rfl rfl ?_
    refine zr_iload_n hG zd_Router_shove_33 rfl rfl ?_
    refine zr_callV hG (zq_F1 hW) (As := [.int a1]) (rest := []) (zm_Router_layWay (zc_l x) w hAp g o h) 17 rfl rfl rfl zg_Router_61 zdd_Router_layWay ⟨rfl, rfl, by decide, by decide⟩ ⟨by decide, by decide⟩ rfl (Nat.le_of_ble_eq_true rfl) zd_Router_shove_34 rfl ?_
    rintro _ _ ⟨z170, rfl, rfl, h⟩
    exact zr_mask [false, false, true] (zt_Router_shove_37 hG hR hAp hW h)
def zw_Gr_push (ln : Nat → Nat) (a1 : Int32) (z : zS) (post : Int32 → zS → Prop) : Prop := (zw_Nets_has ln a1 z (fun r21 z21 => ((¬ r21 = 0 → (zw_Router_shove ln a1 z21 (fun r22 z22 => post r22 z22))) ∧ (r21 = 0 → False))))
set_option maxHeartbeats 4000000 in
set_option maxRecDepth 100000 in
theorem zm_Gr_push (l : Launch) (w : zW) (hAp : zq_Ap w) (g : zS) (o : Nat → Int64) {a1 : Int32} {z : zS} {post : Int32 → zS → Prop} (h : zw_Gr_push w.2.2.1 a1 z post) : zq_M l w (zq_A w) zy_Gr_push zc_Gr_push 2 (some .int) (zq_rm 6 116) [.ref (w.2.1 0), .int a1] (z, g, o) (zq_Pi g o post) := by
  refine zq_mk_M (by decide) (by simp [Value.category]) (Nat.le_of_ble_eq_true rfl) hAp (fun x hx hG hR => ?_)
  subst hx
  have hW := zq_wr hR.2.2.1
  have h : (zw_Nets_has w.2.2.1 a1 z (fun r21 z21 => ((¬ r21 = 0 → (zw_Router_shove w.2.2.1 a1 z21 (fun r22 z22 => post r22 z22))) ∧ (r21 = 0 → False)))) := h
  refine zr_aload_n hG zd_Gr_push_0 rfl rfl ?_
  refine zf_Gr_nets hG tk_300 zd_Gr_push_1 ?_
  refine zr_iload_n hG zd_Gr_push_4 rfl rfl ?_
  refine zr_callV hG zq_F0 (As := [.int a1]) (rest := []) (zm_Nets_has (zc_l x) w hAp g o h) 5 rfl rfl rfl zg_Gr_122 zdd_Nets_has ⟨rfl, rfl, by decide, by decide⟩ ⟨by decide, by decide⟩ rfl (Nat.le_of_ble_eq_true rfl) zd_Gr_push_5 rfl ?_
  rintro _ _ ⟨r21, z21, rfl, rfl, h⟩
  refine zr_if_ne hG 21 zd_Gr_push_8 (by decide) (fun hc => ?_) (fun hc => ?_)
  · have h := h.1 hc
    refine zr_aload_n hG zd_Gr_push_21 rfl rfl ?_
    refine zf_Gr_router hG tk_303 zd_Gr_push_22 ?_
    refine zr_iload_n hG zd_Gr_push_25 rfl rfl ?_
    refine zr_callV hG (zq_F1 hW) (As := [.int a1]) (rest := []) (zm_Router_shove (zc_l x) w hAp g o h) 17 rfl rfl rfl zg_Gr_132 zdd_Router_shove ⟨rfl, rfl, by decide, by decide⟩ ⟨by decide, by decide⟩ rfl (Nat.le_of_ble_eq_true rfl) zd_Gr_push_26 rfl ?_
    rintro _ _ ⟨r22, z22, rfl, rfl, h⟩
    exact zr_iret hG hR zd_Gr_push_29 ⟨_, _, rfl, rfl, h⟩
  · have h := h.2 hc
    exact h.elim
def zw_Checker_reach_54 (ln : Nat → Nat) (post : zS → Prop) (z : zS) : Prop := post z
set_option maxHeartbeats 4000000 in
set_option maxRecDepth 100000 in
theorem zt_Checker_reach_54 {x : zC} {w : zW} {g : zS} {o : Nat → Int64} {post : zS → Prop} (hG : zq_G x w "GridRouter$Checker" zc_Checker_reach 3 (zq_rm 0 0)) (hR : zq_R x w (zq_A w) none (zq_Pv g o post)) (hAp : zq_Ap w) (hW : zq_Wr x w) {z : zS} (h : zw_Checker_reach_54 w.2.2.1 post z) : zq_W x w 0 0 (z, g, o) 54 [none, none, none] [] := by
  exact zr_vret hG hR zd_Checker_reach_54 ⟨_, rfl, rfl, h⟩
def zw_Checker_reach (ln : Nat → Nat) (a1 a2 : Int32) (z : zS) (post : zS → Prop) : Prop := ((a1 = (-1 : Int32) → zw_Checker_reach_54 ln post z) ∧ (¬ a1 = (-1 : Int32) → vp_in a1 (ln 11) ∧ ((¬ (z.2 11 a1.toNatClampNeg) = 0 → zw_Checker_reach_54 ln post z) ∧ ((z.2 11 a1.toNatClampNeg) = 0 → vp_in a1 (ln 6) ∧ ((¬ (z.2 6 a1.toNatClampNeg) = a2 → zw_Checker_reach_54 ln post z) ∧ ((z.2 6 a1.toNatClampNeg) = a2 → vp_in a1 (ln 11) ∧ vp_in ((zs_a z 11 a1 (vp_nar .boolean (1 : Int32))).1 6) (ln 10) ∧ zw_Checker_reach_54 ln post (zs_s (zs_a (zs_a z 11 a1 (vp_nar .boolean (1 : Int32))) 10 ((zs_a z 11 a1 (vp_nar .boolean (1 : Int32))).1 6) a1) 6 (((zs_a (zs_a z 11 a1 (vp_nar .boolean (1 : Int32))) 10 ((zs_a z 11 a1 (vp_nar .boolean (1 : Int32))).1 6) a1).1 6) + (1 : Int32)))))))))
set_option maxHeartbeats 4000000 in
set_option maxRecDepth 100000 in
theorem zm_Checker_reach (l : Launch) (w : zW) (hAp : zq_Ap w) (g : zS) (o : Nat → Int64) {a1 a2 : Int32} {z : zS} {post : zS → Prop} (h : zw_Checker_reach w.2.2.1 a1 a2 z post) : zq_M l w (zq_A w) zy_Checker_reach zc_Checker_reach 3 none (zq_rm 0 0) [.ref (w.2.1 14), .int a1, .int a2] (z, g, o) (zq_Pv g o post) := by
  refine zq_mk_M (by decide) (by simp [Value.category]) (Nat.le_of_ble_eq_true rfl) hAp (fun x hx hG hR => ?_)
  subst hx
  have hW := zq_wr hR.2.2.1
  refine zr_iload_n hG zd_Checker_reach_0 rfl rfl ?_
  refine zr_iconst hG (v := (-1 : Int32)) zd_Checker_reach_1 (by decide) ?_
  refine zr_icmp_eq hG 54 zd_Checker_reach_2 (by decide) (fun hc => ?_) (fun hc => ?_)
  · have h := h.1 hc
    exact zr_mask [false, false, false] (zt_Checker_reach_54 hG hR hAp hW h)
  · have h := h.2 hc
    refine zr_aload_n hG zd_Checker_reach_5 rfl rfl ?_
    refine zf_Checker_seen hG tk_180 zd_Checker_reach_6 ?_
    refine zr_iload_n hG zd_Checker_reach_9 rfl rfl ?_
    obtain ⟨hi, h⟩ := h
    refine zl_16 hG hi zd_Checker_reach_10 ?_
    refine zr_if_ne hG 54 zd_Checker_reach_11 (by decide) (fun hc => ?_) (fun hc => ?_)
    · have h := h.1 hc
      exact zr_mask [false, false, false] (zt_Checker_reach_54 hG hR hAp hW h)
    · have h := h.2 hc
      refine zr_aload_n hG zd_Checker_reach_14 rfl rfl ?_
      refine zf_Checker_layout hG tk_177 zd_Checker_reach_15 ?_
      refine zf_Layout_owner hG tk_123 zd_Checker_reach_18 ?_
      refine zr_iload_n hG zd_Checker_reach_21 rfl rfl ?_
      obtain ⟨hi, h⟩ := h
      refine zl_10 hG hi zd_Checker_reach_22 ?_
      refine zr_iload_n hG zd_Checker_reach_23 rfl rfl ?_
      refine zr_icmp_ne hG 54 zd_Checker_reach_24 (by decide) (fun hc => ?_) (fun hc => ?_)
      · have h := h.1 hc
        exact zr_mask [false, false, false] (zt_Checker_reach_54 hG hR hAp hW h)
      · have h := h.2 hc
        refine zr_aload_n hG zd_Checker_reach_27 rfl rfl ?_
        refine zf_Checker_seen hG tk_180 zd_Checker_reach_28 ?_
        refine zr_iload_n hG zd_Checker_reach_31 rfl rfl ?_
        refine zr_iconst hG (v := (1 : Int32)) zd_Checker_reach_32 (by decide) ?_
        obtain ⟨hi, h⟩ := h
        refine zu_16 hG hW hi zd_Checker_reach_33 ?_
        refine zr_aload_n hG zd_Checker_reach_34 rfl rfl ?_
        refine zf_Checker_reached hG tk_179 zd_Checker_reach_35 ?_
        refine zr_aload_n hG zd_Checker_reach_38 rfl rfl ?_
        refine zf_Checker_found hG tk_181 zd_Checker_reach_39 ?_
        refine zr_iload_n hG zd_Checker_reach_42 rfl rfl ?_
        obtain ⟨hi, h⟩ := h
        refine zu_15 hG hW hi zd_Checker_reach_43 ?_
        refine zr_aload_n hG zd_Checker_reach_44 rfl rfl ?_
        refine zr_dup hG zd_Checker_reach_45 rfl ?_
        refine zf_Checker_found hG tk_181 zd_Checker_reach_46 ?_
        refine zr_iconst hG (v := (1 : Int32)) zd_Checker_reach_49 (by decide) ?_
        refine zr_iadd hG zd_Checker_reach_50 ?_
        refine zp_Checker_found hG hW tk_181 zd_Checker_reach_51 ?_
        exact zr_mask [false, false, false] (zt_Checker_reach_54 hG hR hAp hW h)
def zw_Checker_reachFrom_60 (ln : Nat → Nat) (post : zS → Prop) (z : zS) : Prop := post z
set_option maxHeartbeats 4000000 in
set_option maxRecDepth 100000 in
theorem zt_Checker_reachFrom_60 {x : zC} {w : zW} {g : zS} {o : Nat → Int64} {post : zS → Prop} (hG : zq_G x w "GridRouter$Checker" zc_Checker_reachFrom 4 (zq_rm 1 22)) (hR : zq_R x w (zq_A w) none (zq_Pv g o post)) (hAp : zq_Ap w) (hW : zq_Wr x w) {z : zS} (h : zw_Checker_reachFrom_60 w.2.2.1 post z) : zq_W x w 0 0 (z, g, o) 60 [none, none, none, none] [] := by
  exact zr_vret hG hR zd_Checker_reachFrom_60 ⟨_, rfl, rfl, h⟩
def zw_Checker_reachFrom_2 (ln : Nat → Nat) (post : zS → Prop) (k2 : Int32 × Int32 × Int32 × zS → Prop) : Int32 × Int32 × Int32 × zS → Prop := fun b => match b with
  | (v1, v2, v3, z) => (((4 : Int32) ≤ v3 → (zw_Grid_placeOf ln v1 z (fun r146 z146 => vp_in r146 (ln 7) ∧ (((z146.2 7 r146.toNatClampNeg) = 0 → zw_Checker_reachFrom_60 ln post z146) ∧ (¬ (z146.2 7 r146.toNatClampNeg) = 0 → (zw_Grid_next ln v1 (4 : Int32) z146 (fun r147 z147 => (zw_Checker_reach ln r147 v2 z147 (fun z148 => zw_Checker_reachFrom_60 ln post z148))))))))) ∧ (¬ (4 : Int32) ≤ v3 → (zw_Grid_next ln v1 v3 z (fun r149 z149 => (zw_Checker_reach ln r149 v2 z149 (fun z150 => k2 (v1, v2, (v3 + (1 : Int32)), z150)))))))
set_option maxHeartbeats 4000000 in
set_option maxRecDepth 100000 in
theorem zt_Checker_reachFrom_2 {x : zC} {w : zW} {g : zS} {o : Nat → Int64} {post : zS → Prop} (hG : zq_G x w "GridRouter$Checker" zc_Checker_reachFrom 4 (zq_rm 1 22)) (hR : zq_R x w (zq_A w) none (zq_Pv g o post)) (hAp : zq_Ap w) (hW : zq_Wr x w) {v1 v2 v3 : Int32} {z : zS} (h : zq_Lp (zw_Checker_reachFrom_2 w.2.2.1 post) (v1, v2, v3, z)) : zq_W x w 0 0 (z, g, o) 2 [some (.ref (w.2.1 14)), some (.int v1), some (.int v2), some (.int v3)] [] := by
  refine zq_Lp_W (WW := fun b => zq_W x w 0 0 (b.2.2.2, g, o) 2 [some (.ref (w.2.1 14)), some (.int (b.1)), some (.int (b.2.1)), some (.int (b.2.2.1))] []) (fun k2 hk2 b h => ?_) h
  obtain ⟨v1, v2, v3, z⟩ := b
  show zq_W x w 0 0 (z, g, o) 2 [some (.ref (w.2.1 14)), some (.int v1), some (.int v2), some (.int v3)] []
  refine zr_iload_n hG zd_Checker_reachFrom_2 rfl rfl ?_
  refine zr_iconst hG (v := (4 : Int32)) zd_Checker_reachFrom_3 (by decide) ?_
  refine zr_icmp_ge hG 27 zd_Checker_reachFrom_4 (by decide) (fun hc => ?_) (fun hc => ?_)
  · have h := h.1 hc
    refine zr_aload_n hG zd_Checker_reachFrom_27 rfl rfl ?_
    refine zf_Checker_layout hG tk_177 zd_Checker_reachFrom_28 ?_
    refine zf_Layout_vias hG tk_129 zd_Checker_reachFrom_31 ?_
    refine zr_aload_n hG zd_Checker_reachFrom_34 rfl rfl ?_
    refine zf_Checker_grid hG tk_175 zd_Checker_reachFrom_35 ?_
    refine zr_iload_n hG zd_Checker_reachFrom_38 rfl rfl ?_
    refine zr_callV hG zq_F0 (As := [.int v1]) (rest := [.ref (w.2.1 11)]) (zm_Grid_placeOf (zc_l x) w hAp g o h) 1 rfl rfl rfl zg_Checker_109 zdd_Grid_placeOf ⟨rfl, rfl, by decide, by decide⟩ ⟨by decide, by decide⟩ rfl (Nat.le_of_ble_eq_true rfl) zd_Checker_reachFrom_39 rfl ?_
    rintro _ _ ⟨r146, z146, rfl, rfl, h⟩
    obtain ⟨hi, h⟩ := h
    refine zl_11 hG hi zd_Checker_reachFrom_42 ?_
    refine zr_if_eq hG 60 zd_Checker_reachFrom_43 (by decide) (fun hc => ?_) (fun hc => ?_)
    · have h := h.1 hc
      exact zr_mask [false, false, false, false] (zt_Checker_reachFrom_60 hG hR hAp hW h)
    · have h := h.2 hc
      refine zr_aload_n hG zd_Checker_reachFrom_46 rfl rfl ?_
      refine zr_aload_n hG zd_Checker_reachFrom_47 rfl rfl ?_
      refine zf_Checker_grid hG tk_175 zd_Checker_reachFrom_48 ?_
      refine zr_iload_n hG zd_Checker_reachFrom_51 rfl rfl ?_
      refine zr_iconst hG (v := (4 : Int32)) zd_Checker_reachFrom_52 (by decide) ?_
      refine zr_callV hG zq_F0 (As := [.int v1, .int (4 : Int32)]) (rest := [.ref (w.2.1 14)]) (zm_Grid_next (zc_l x) w hAp g o h) 1 rfl rfl rfl zg_Checker_76 zdd_Grid_next ⟨rfl, rfl, by decide, by decide⟩ ⟨by decide, by decide⟩ rfl (Nat.le_of_ble_eq_true rfl) zd_Checker_reachFrom_53 rfl ?_
      rintro _ _ ⟨r147, z147, rfl, rfl, h⟩
      refine zr_iload_n hG zd_Checker_reachFrom_56 rfl rfl ?_
      refine zr_callV hG (zq_F1 hW) (As := [.int r147, .int v2]) (rest := []) (zm_Checker_reach (zc_l x) w hAp g o h) 14 rfl rfl rfl zg_Checker_99 zdd_Checker_reach ⟨rfl, rfl, by decide, by decide⟩ ⟨by decide, by decide⟩ rfl (Nat.le_of_ble_eq_true rfl) zd_Checker_reachFrom_57 rfl ?_
      rintro _ _ ⟨z148, rfl, rfl, h⟩
      exact zr_mask [false, false, false, false] (zt_Checker_reachFrom_60 hG hR hAp hW h)
  · have h := h.2 hc
    refine zr_aload_n hG zd_Checker_reachFrom_7 rfl rfl ?_
    refine zr_aload_n hG zd_Checker_reachFrom_8 rfl rfl ?_
    refine zf_Checker_grid hG tk_175 zd_Checker_reachFrom_9 ?_
    refine zr_iload_n hG zd_Checker_reachFrom_12 rfl rfl ?_
    refine zr_iload_n hG zd_Checker_reachFrom_13 rfl rfl ?_
    refine zr_callV hG zq_F0 (As := [.int v1, .int v3]) (rest := [.ref (w.2.1 14)]) (zm_Grid_next (zc_l x) w hAp g o h) 1 rfl rfl rfl zg_Checker_76 zdd_Grid_next ⟨rfl, rfl, by decide, by decide⟩ ⟨by decide, by decide⟩ rfl (Nat.le_of_ble_eq_true rfl) zd_Checker_reachFrom_14 rfl ?_
    rintro _ _ ⟨r149, z149, rfl, rfl, h⟩
    refine zr_iload_n hG zd_Checker_reachFrom_17 rfl rfl ?_
    refine zr_callV hG (zq_F1 hW) (As := [.int r149, .int v2]) (rest := []) (zm_Checker_reach (zc_l x) w hAp g o h) 14 rfl rfl rfl zg_Checker_99 zdd_Checker_reach ⟨rfl, rfl, by decide, by decide⟩ ⟨by decide, by decide⟩ rfl (Nat.le_of_ble_eq_true rfl) zd_Checker_reachFrom_18 rfl ?_
    rintro _ _ ⟨z150, rfl, rfl, h⟩
    refine zr_iinc hG (u := (1 : Int32)) [some (.ref (w.2.1 14)), some (.int v1), some (.int v2), some (.int (v3 + (1 : Int32)))] zd_Checker_reachFrom_21 rfl (by decide) (Nat.le_of_ble_eq_true rfl) rfl ?_
    refine zr_goto hG 2 zd_Checker_reachFrom_24 (by decide) ?_
    have h := hk2 _ h
    exact h
def zw_Checker_reachFrom (ln : Nat → Nat) (a1 a2 : Int32) (z : zS) (post : zS → Prop) : Prop := zq_Lp (zw_Checker_reachFrom_2 ln post) (a1, a2, (0 : Int32), z)
set_option maxHeartbeats 4000000 in
set_option maxRecDepth 100000 in
theorem zm_Checker_reachFrom (l : Launch) (w : zW) (hAp : zq_Ap w) (g : zS) (o : Nat → Int64) {a1 a2 : Int32} {z : zS} {post : zS → Prop} (h : zw_Checker_reachFrom w.2.2.1 a1 a2 z post) : zq_M l w (zq_A w) zy_Checker_reachFrom zc_Checker_reachFrom 4 none (zq_rm 1 22) [.ref (w.2.1 14), .int a1, .int a2] (z, g, o) (zq_Pv g o post) := by
  refine zq_mk_M (by decide) (by simp [Value.category]) (Nat.le_of_ble_eq_true rfl) hAp (fun x hx hG hR => ?_)
  subst hx
  have hW := zq_wr hR.2.2.1
  refine zr_iconst hG (v := (0 : Int32)) zd_Checker_reachFrom_0 (by decide) ?_
  refine zr_istore_n hG [some (.ref (w.2.1 14)), some (.int a1), some (.int a2), some (.int (0 : Int32))] zd_Checker_reachFrom_1 rfl (Nat.le_of_ble_eq_true rfl) rfl ?_
  exact zt_Checker_reachFrom_2 hG hR hAp hW h
