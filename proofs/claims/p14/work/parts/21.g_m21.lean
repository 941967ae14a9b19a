def zw_Checker_isJoined_83 (ln : Nat → Nat) (post : Int32 → zS → Prop) (v1 : Int32) (z : zS) : Prop := vp_in v1 (ln 4) ∧ vp_in (z.2 4 v1.toNatClampNeg) (ln 11) ∧ (narrow .boolean (.int (z.2 11 (z.2 4 v1.toNatClampNeg).toNatClampNeg)) = .int (z.2 11 (z.2 4 v1.toNatClampNeg).toNatClampNeg) ∧ post (z.2 11 (z.2 4 v1.toNatClampNeg).toNatClampNeg) z)
set_option maxHeartbeats 4000000 in
set_option maxRecDepth 100000 in
theorem zt_Checker_isJoined_83 {x : zC} {w : zW} {g : zS} {o : Nat → Int64} {post : Int32 → zS → Prop} (hG : zq_G x w "GridRouter$Checker" zc_Checker_isJoined 3 (zq_rm 2 45)) (hR : zq_R x w (zq_A w) (some .boolean) (zq_Pi g o post)) (hAp : zq_Ap w) (hW : zq_Wr x w) {v1 : Int32} {z : zS} (h : zw_Checker_isJoined_83 w.2.2.1 post v1 z) : zq_W x w 0 0 (z, g, o) 83 [some (.ref (w.2.1 14)), some (.int v1), none] [] := by
  refine zr_aload_n hG zd_Checker_isJoined_83 rfl rfl ?_
  refine zf_Checker_seen hG tk_180 zd_Checker_isJoined_84 ?_
  refine zr_aload_n hG zd_Checker_isJoined_87 rfl rfl ?_
  refine zf_Checker_nets hG tk_176 zd_Checker_isJoined_88 ?_
  refine zf_Nets_second hG tk_92 zd_Checker_isJoined_91 ?_
  refine zr_iload_n hG zd_Checker_isJoined_94 rfl rfl ?_
  obtain ⟨hi, h⟩ := h
  refine zl_7 hG hi zd_Checker_isJoined_95 ?_
  obtain ⟨hi, h⟩ := h
  refine zl_16 hG hi zd_Checker_isJoined_96 ?_
  obtain ⟨hn, h⟩ := h
  exact zr_zret hG hR zd_Checker_isJoined_97 hn ⟨_, _, rfl, rfl, h⟩
def zw_Checker_isJoined_47 (ln : Nat → Nat) (post : Int32 → zS → Prop) (k47 : Int32 × Int32 × zS → Prop) : Int32 × Int32 × zS → Prop := fun b => match b with
  | (v1, v2, z) => (((z.1 6) ≤ v2 → zw_Checker_isJoined_83 ln post v1 z) ∧ (¬ (z.1 6) ≤ v2 → (((z.1 3) ≤ v2 → zw_Checker_isJoined_83 ln post v1 z) ∧ (¬ (z.1 3) ≤ v2 → vp_in v2 (ln 10) ∧ (zw_Checker_reachFrom ln (z.2 10 v2.toNatClampNeg) v1 z (fun z145 => k47 (v1, (v2 + (1 : Int32)), z145)))))))
set_option maxHeartbeats 4000000 in
set_option maxRecDepth 100000 in
theorem zt_Checker_isJoined_47 {x : zC} {w : zW} {g : zS} {o : Nat → Int64} {post : Int32 → zS → Prop} (hG : zq_G x w "GridRouter$Checker" zc_Checker_isJoined 3 (zq_rm 2 45)) (hR : zq_R x w (zq_A w) (some .boolean) (zq_Pi g o post)) (hAp : zq_Ap w) (hW : zq_Wr x w) {v1 v2 : Int32} {z : zS} (h : zq_Lp (zw_Checker_isJoined_47 w.2.2.1 post) (v1, v2, z)) : zq_W x w 0 0 (z, g, o) 47 [some (.ref (w.2.1 14)), some (.int v1), some (.int v2)] [] := by
  refine zq_Lp_W (WW := fun b => zq_W x w 0 0 (b.2.2, g, o) 47 [some (.ref (w.2.1 14)), some (.int (b.1)), some (.int (b.2.1))] []) (fun k47 hk47 b h => ?_) h
  obtain ⟨v1, v2, z⟩ := b
  show zq_W x w 0 0 (z, g, o) 47 [some (.ref (w.2.1 14)), some (.int v1), some (.int v2)] []
  refine zr_iload_n hG zd_Checker_isJoined_47 rfl rfl ?_
  refine zr_aload_n hG zd_Checker_isJoined_48 rfl rfl ?_
  refine zf_Checker_found hG tk_181 zd_Checker_isJoined_49 ?_
  refine zr_icmp_ge hG 83 zd_Checker_isJoined_52 (by decide) (fun hc => ?_) (fun hc => ?_)
  · have h := h.1 hc
    exact zr_mask [true, true, false] (zt_Checker_isJoined_83 hG hR hAp hW h)
  · have h := h.2 hc
    refine zr_iload_n hG zd_Checker_isJoined_55 rfl rfl ?_
    refine zr_aload_n hG zd_Checker_isJoined_56 rfl rfl ?_
    refine zf_Checker_grid hG tk_175 zd_Checker_isJoined_57 ?_
    refine zf_Grid_cells hG tk_49 zd_Checker_isJoined_60 ?_
    refine zr_icmp_ge hG 83 zd_Checker_isJoined_63 (by decide) (fun hc => ?_) (fun hc => ?_)
    · have h := h.1 hc
      exact zr_mask [true, true, false] (zt_Checker_isJoined_83 hG hR hAp hW h)
    · have h := h.2 hc
      refine zr_aload_n hG zd_Checker_isJoined_66 rfl rfl ?_
      refine zr_aload_n hG zd_Checker_isJoined_67 rfl rfl ?_
      refine zf_Checker_reached hG tk_179 zd_Checker_isJoined_68 ?_
      refine zr_iload_n hG zd_Checker_isJoined_71 rfl rfl ?_
      obtain ⟨hi, h⟩ := h
      refine zl_15 hG hi zd_Checker_isJoined_72 ?_
      refine zr_iload_n hG zd_Checker_isJoined_73 rfl rfl ?_
      refine zr_callV hG (zq_F1 hW) (As := [.int (z.2 10 v2.toNatClampNeg), .int v1]) (rest := []) (zm_Checker_reachFrom (zc_l x) w hAp g o h) 14 rfl rfl rfl zg_Checker_103 zdd_Checker_reachFrom ⟨rfl, rfl, by decide, by decide⟩ ⟨by decide, by decide⟩ rfl (Nat.le_of_ble_eq_true rfl) zd_Checker_isJoined_74 rfl ?_
      rintro _ _ ⟨z145, rfl, rfl, h⟩
      refine zr_iinc hG (u := (1 : Int32)) [some (.ref (w.2.1 14)), some (.int v1), some (.int (v2 + (1 : Int32)))] zd_Checker_isJoined_77 rfl (by decide) (Nat.le_of_ble_eq_true rfl) rfl ?_
      refine zr_goto hG 47 zd_Checker_isJoined_80 (by decide) ?_
      have h := hk47 _ h
      exact h
def zw_Checker_isJoined_2 (ln : Nat → Nat) (post : Int32 → zS → Prop) (k2 : Int32 × Int32 × zS → Prop) : Int32 × Int32 × zS → Prop := fun b => match b with
  | (v1, v2, z) => (((z.1 3) ≤ v2 → vp_in v1 (ln 3) ∧ (zw_Checker_reach ln ((zs_s z 6 (0 : Int32)).2 3 v1.toNatClampNeg) v1 (zs_s z 6 (0 : Int32)) (fun z144 => zq_Lp (zw_Checker_isJoined_47 ln post) (v1, (0 : Int32), z144)))) ∧ (¬ (z.1 3) ≤ v2 → vp_in v2 (ln 11) ∧ k2 (v1, (v2 + (1 : Int32)), (zs_a z 11 v2 (vp_nar .boolean (0 : Int32))))))
set_option maxHeartbeats 4000000 in
set_option maxRecDepth 100000 in
theorem zt_Checker_isJoined_2 {x : zC} {w : zW} {g : zS} {o : Nat → Int64} {post : Int32 → zS → Prop} (hG : zq_G x w "GridRouter$Checker" zc_Checker_isJoined 3 (zq_rm 2 45)) (hR : zq_R x w (zq_A w) (some .boolean) (zq_Pi g o post)) (hAp : zq_Ap w) (hW : zq_Wr x w) {v1 v2 : Int32} {z : zS} (h : zq_Lp (zw_Checker_isJoined_2 w.2.2.1 post) (v1, v2, z)) : zq_W x w 0 0 (z, g, o) 2 [some (.ref (w.2.1 14)), some (.int v1), some (.int v2)] [] := by
  refine zq_Lp_W (WW := fun b => zq_W x w 0 0 (b.2.2, g, o) 2 [some (.ref (w.2.1 14)), some (.int (b.1)), some (.int (b.2.1))] []) (fun k2 hk2 b h => ?_) h
  obtain ⟨v1, v2, z⟩ := b
  show zq_W x w 0 0 (z, g, o) 2 [some (.ref (w.2.1 14)), some (.int v1), some (.int v2)] []
  refine zr_iload_n hG zd_Checker_isJoined_2 rfl rfl ?_
  refine zr_aload_n hG zd_Checker_isJoined_3 rfl rfl ?_
  refine zf_Checker_grid hG tk_175 zd_Checker_isJoined_4 ?_
  refine zf_Grid_cells hG tk_49 zd_Checker_isJoined_7 ?_
  refine zr_icmp_ge hG 26 zd_Checker_isJoined_10 (by decide) (fun hc => ?_) (fun hc => ?_)
  · have h := h.1 hc
    refine zr_aload_n hG zd_Checker_isJoined_26 rfl rfl ?_
    refine zr_iconst hG (v := (0 : Int32)) zd_Checker_isJoined_27 (by decide) ?_
    refine zp_Checker_found hG hW tk_181 zd_Checker_isJoined_28 ?_
    refine zr_aload_n hG zd_Checker_isJoined_31 rfl rfl ?_
    refine zr_aload_n hG zd_Checker_isJoined_32 rfl rfl ?_
    refine zf_Checker_nets hG tk_176 zd_Checker_isJoined_33 ?_
    refine zf_Nets_first hG tk_88 zd_Checker_isJoined_36 ?_
    refine zr_iload_n hG zd_Checker_isJoined_39 rfl rfl ?_
    obtain ⟨hi, h⟩ := h
    refine zl_6 hG hi zd_Checker_isJoined_40 ?_
    refine zr_iload_n hG zd_Checker_isJoined_41 rfl rfl ?_
    refine zr_callV hG (zq_F1 hW) (As := [.int ((zs_s z 6 (0 : Int32)).2 3 v1.toNatClampNeg), .int v1]) (rest := []) (zm_Checker_reach (zc_l x) w hAp g o h) 14 rfl rfl rfl zg_Checker_99 zdd_Checker_reach ⟨rfl, rfl, by decide, by decide⟩ ⟨by decide, by decide⟩ rfl (Nat.le_of_ble_eq_true rfl) zd_Checker_isJoined_42 rfl ?_
    rintro _ _ ⟨z144, rfl, rfl, h⟩
    refine zr_iconst hG (v := (0 : Int32)) zd_Checker_isJoined_45 (by decide) ?_
    refine zr_istore_n hG [some (.ref (w.2.1 14)), some (.int v1), some (.int (0 : Int32))] zd_Checker_isJoined_46 rfl (Nat.le_of_ble_eq_true rfl) rfl ?_
    exact zt_Checker_isJoined_47 hG hR hAp hW h
  · have h := h.2 hc
    refine zr_aload_n hG zd_Checker_isJoined_13 rfl rfl ?_
    refine zf_Checker_seen hG tk_180 zd_Checker_isJoined_14 ?_
    refine zr_iload_n hG zd_Checker_isJoined_17 rfl rfl ?_
    refine zr_iconst hG (v := (0 : Int32)) zd_Checker_isJoined_18 (by decide) ?_
    obtain ⟨hi, h⟩ := h
    refine zu_16 hG hW hi zd_Checker_isJoined_19 ?_
    refine zr_iinc hG (u := (1 : Int32)) [some (.ref (w.2.1 14)), some (.int v1), some (.int (v2 + (1 : Int32)))] zd_Checker_isJoined_20 rfl (by decide) (Nat.le_of_ble_eq_true rfl) rfl ?_
    refine zr_goto hG 2 zd_Checker_isJoined_23 (by decide) ?_
    have h := hk2 _ h
    exact h
def zw_Checker_isJoined (ln : Nat → Nat) (a1 : Int32) (z : zS) (post : Int32 → zS → Prop) : Prop := zq_Lp (zw_Checker_isJoined_2 ln post) (a1, (0 : Int32), z)
set_option maxHeartbeats 4000000 in
set_option maxRecDepth 100000 in
theorem zm_Checker_isJoined (l : Launch) (w : zW) (hAp : zq_Ap w) (g : zS) (o : Nat → Int64) {a1 : Int32} {z : zS} {post : Int32 → zS → Prop} (h : zw_Checker_isJoined w.2.2.1 a1 z post) : zq_M l w (zq_A w) zy_Checker_isJoined zc_Checker_isJoined 3 (some .boolean) (zq_rm 2 45) [.ref (w.2.1 14), .int a1] (z, g, o) (zq_Pi g o post) := by
  refine zq_mk_M (by decide) (by simp [Value.category]) (Nat.le_of_ble_eq_true rfl) hAp (fun x hx hG hR => ?_)
  subst hx
  have hW := zq_wr hR.2.2.1
  refine zr_iconst hG (v := (0 : Int32)) zd_Checker_isJoined_0 (by decide) ?_
  refine zr_istore_n hG [some (.ref (w.2.1 14)), some (.int a1), some (.int (0 : Int32))] zd_Checker_isJoined_1 rfl (Nat.le_of_ble_eq_true rfl) rfl ?_
  exact zt_Checker_isJoined_2 hG hR hAp hW h
def zw_Checker_loose_26 (ln : Nat → Nat) (post : Int32 → zS → Prop) (k4 : Int32 × Int32 × zS → Prop) (v1 v2 : Int32) (z : zS) : Prop := k4 (v1, (v2 + (1 : Int32)), z)
set_option maxHeartbeats 4000000 in
set_option maxRecDepth 100000 in
theorem zt_Checker_loose_26 {x : zC} {w : zW} {g : zS} {o : Nat → Int64} {post : Int32 → zS → Prop} (hG : zq_G x w "GridRouter$Checker" zc_Checker_loose 3 (zq_rm 3 67)) (hR : zq_R x w (zq_A w) (some .int) (zq_Pi g o post)) (hAp : zq_Ap w) (hW : zq_Wr x w) {k4 : Int32 × Int32 × zS → Prop} (hk4 : ∀ b : Int32 × Int32 × zS, k4 b → zq_W x w 0 0 (b.2.2, g, o) 4 [some (.ref (w.2.1 14)), some (.int (b.1)), some (.int (b.2.1))] []) {v1 v2 : Int32} {z : zS} (h : zw_Checker_loose_26 w.2.2.1 post k4 v1 v2 z) : zq_W x w 0 0 (z, g, o) 26 [some (.ref (w.2.1 14)), some (.int v1), some (.int v2)] [] := by
  refine zr_iinc hG (u := (1 : Int32)) [some (.ref (w.2.1 14)), some (.int v1), some (.int (v2 + (1 : Int32)))] zd_Checker_loose_26 rfl (by decide) (Nat.le_of_ble_eq_true rfl) rfl ?_
  refine zr_goto hG 4 zd_Checker_loose_29 (by decide) ?_
  have h := hk4 _ h
  exact h
def zw_Checker_loose_4 (ln : Nat → Nat) (post : Int32 → zS → Prop) (k4 : Int32 × Int32 × zS → Prop) : Int32 × Int32 × zS → Prop := fun b => match b with
  | (v1, v2, z) => (((z.1 4) ≤ v2 → post v1 z) ∧ (¬ (z.1 4) ≤ v2 → (zw_Checker_isJoined ln v2 z (fun r143 z143 => ((¬ r143 = 0 → zw_Checker_loose_26 ln post k4 v1 v2 z143) ∧ (r143 = 0 → zw_Checker_loose_26 ln post k4 (v1 + (1 : Int32)) v2 z143))))))
set_option maxHeartbeats 4000000 in
set_option maxRecDepth 100000 in
theorem zt_Checker_loose_4 {x : zC} {w : zW} {g : zS} {o : Nat → Int64} {post : Int32 → zS → Prop} (hG : zq_G x w "GridRouter$Checker" zc_Checker_loose 3 (zq_rm 3 67)) (hR : zq_R x w (zq_A w) (some .int) (zq_Pi g o post)) (hAp : zq_Ap w) (hW : zq_Wr x w) {v1 v2 : Int32} {z : zS} (h : zq_Lp (zw_Checker_loose_4 w.2.2.1 post) (v1, v2, z)) : zq_W x w 0 0 (z, g, o) 4 [some (.ref (w.2.1 14)), some (.int v1), some (.int v2)] [] := by
  refine zq_Lp_W (WW := fun b => zq_W x w 0 0 (b.2.2, g, o) 4 [some (.ref (w.2.1 14)), some (.int (b.1)), some (.int (b.2.1))] []) (fun k4 hk4 b h => ?_) h
  obtain ⟨v1, v2, z⟩ := b
  show zq_W x w 0 0 (z, g, o) 4 [some (.ref (w.2.1 14)), some (.int v1), some (.int v2)] []
  refine zr_iload_n hG zd_Checker_loose_4 rfl rfl ?_
  refine zr_aload_n hG zd_Checker_loose_5 rfl rfl ?_
  refine zf_Checker_nets hG tk_176 zd_Checker_loose_6 ?_
  refine zf_Nets_count hG tk_101 zd_Checker_loose_9 ?_
  refine zr_icmp_ge hG 32 zd_Checker_loose_12 (by decide) (fun hc => ?_) (fun hc => ?_)
  · have h := h.1 hc
    refine zr_iload_n hG zd_Checker_loose_32 rfl rfl ?_
    exact zr_iret hG hR zd_Checker_loose_33 ⟨_, _, rfl, rfl, h⟩
  · have h := h.2 hc
    refine zr_aload_n hG zd_Checker_loose_15 rfl rfl ?_
    refine zr_iload_n hG zd_Checker_loose_16 rfl rfl ?_
    refine zr_callV hG (zq_F1 hW) (As := [.int v2]) (rest := []) (zm_Checker_isJoined (zc_l x) w hAp g o h) 14 rfl rfl rfl zg_Checker_92 zdd_Checker_isJoined ⟨rfl, rfl, by decide, by decide⟩ ⟨by decide, by decide⟩ rfl (Nat.le_of_ble_eq_true rfl) zd_Checker_loose_17 rfl ?_
    rintro _ _ ⟨r143, z143, rfl, rfl, h⟩
    refine zr_if_ne hG 26 zd_Checker_loose_20 (by decide) (fun hc => ?_) (fun hc => ?_)
    · have h := h.1 hc
      exact zt_Checker_loose_26 hG hR hAp hW hk4 h
    · have h := h.2 hc
      refine zr_iinc hG (u := (1 : Int32)) [some (.ref (w.2.1 14)), some (.int (v1 + (1 : Int32))), some (.int v2)] zd_Checker_loose_23 rfl (by decide) (Nat.le_of_ble_eq_true rfl) rfl ?_
      exact zt_Checker_loose_26 hG hR hAp hW hk4 h
def zw_Checker_loose (ln : Nat → Nat) (z : zS) (post : Int32 → zS → Prop) : Prop := zq_Lp (zw_Checker_loose_4 ln post) ((0 : Int32), (0 : Int32), z)
set_option maxHeartbeats 4000000 in
set_option maxRecDepth 100000 in
theorem zm_Checker_loose (l : Launch) (w : zW) (hAp : zq_Ap w) (g : zS) (o : Nat → Int64) {z : zS} {post : Int32 → zS → Prop} (h : zw_Checker_loose w.2.2.1 z post) : zq_M l w (zq_A w) zy_Checker_loose zc_Checker_loose 3 (some .int) (zq_rm 3 67) [.ref (w.2.1 14)] (z, g, o) (zq_Pi g o post) := by
  refine zq_mk_M (by decide) (by simp [Value.category]) (Nat.le_of_ble_eq_true rfl) hAp (fun x hx hG hR => ?_)
  subst hx
  have hW := zq_wr hR.2.2.1
  refine zr_iconst hG (v := (0 : Int32)) zd_Checker_loose_0 (by decide) ?_
  refine zr_istore_n hG [some (.ref (w.2.1 14)), some (.int (0 : Int32)), none] zd_Checker_loose_1 rfl (Nat.le_of_ble_eq_true rfl) rfl ?_
  refine zr_iconst hG (v := (0 : Int32)) zd_Checker_loose_2 (by decide) ?_
  refine zr_istore_n hG [some (.ref (w.2.1 14)), some (.int (0 : Int32)), some (.int (0 : Int32))] zd_Checker_loose_3 rfl (Nat.le_of_ble_eq_true rfl) rfl ?_
  exact zt_Checker_loose_4 hG hR hAp hW h
def zw_Line_join_2 (ln : Nat → Nat) (post : zS → Prop) (k2 : Int32 × Int32 × zS → Prop) : Int32 × Int32 × zS → Prop := fun b => match b with
  | (v1, v2, z) => (((z.1 11) ≤ v2 → vp_in (z.1 11) (ln 17) ∧ post (zs_s (zs_a z 17 (z.1 11) v1) 11 (((zs_a z 17 (z.1 11) v1).1 11) + (1 : Int32)))) ∧ (¬ (z.1 11) ≤ v2 → vp_in v2 (ln 17) ∧ ((¬ (z.2 17 v2.toNatClampNeg) = v1 → k2 (v1, (v2 + (1 : Int32)), z)) ∧ ((z.2 17 v2.toNatClampNeg) = v1 → post z))))
set_option maxHeartbeats 4000000 in
set_option maxRecDepth 100000 in
theorem zt_Line_join_2 {x : zC} {w : zW} {g : zS} {o : Nat → Int64} {post : zS → Prop} (hG : zq_G x w "GridRouter$Line" zc_Line_join 3 (zq_rm 0 0)) (hR : zq_R x w (zq_A w) none (zq_Pv g o post)) (hAp : zq_Ap w) (hW : zq_Wr x w) {v1 v2 : Int32} {z : zS} (h : zq_Lp (zw_Line_join_2 w.2.2.1 post) (v1, v2, z)) : zq_W x w 0 0 (z, g, o) 2 [some (.ref (w.2.1 18)), some (.int v1), some (.int v2)] [] := by
  refine zq_Lp_W (WW := fun b => zq_W x w 0 0 (b.2.2, g, o) 2 [some (.ref (w.2.1 18)), some (.int (b.1)), some (.int (b.2.1))] []) (fun k2 hk2 b h => ?_) h
  obtain ⟨v1, v2, z⟩ := b
  show zq_W x w 0 0 (z, g, o) 2 [some (.ref (w.2.1 18)), some (.int v1), some (.int v2)] []
  refine zr_iload_n hG zd_Line_join_2 rfl rfl ?_
  refine zr_aload_n hG zd_Line_join_3 rfl rfl ?_
  refine zf_Line_size hG tk_210 zd_Line_join_4 ?_
  refine zr_icmp_ge hG 27 zd_Line_join_7 (by decide) (fun hc => ?_) (fun hc => ?_)
  · have h := h.1 hc
    refine zr_aload_n hG zd_Line_join_27 rfl rfl ?_
    refine zf_Line_members hG tk_209 zd_Line_join_28 ?_
    refine zr_aload_n hG zd_Line_join_31 rfl rfl ?_
    refine zf_Line_size hG tk_210 zd_Line_join_32 ?_
    refine zr_iload_n hG zd_Line_join_35 rfl rfl ?_
    obtain ⟨hi, h⟩ := h
    refine zu_19 hG hW hi zd_Line_join_36 ?_
    refine zr_aload_n hG zd_Line_join_37 rfl rfl ?_
    refine zr_dup hG zd_Line_join_38 rfl ?_
    refine zf_Line_size hG tk_210 zd_Line_join_39 ?_
    refine zr_iconst hG (v := (1 : Int32)) zd_Line_join_42 (by decide) ?_
    refine zr_iadd hG zd_Line_join_43 ?_
    refine zp_Line_size hG hW tk_210 zd_Line_join_44 ?_
    exact zr_vret hG hR zd_Line_join_47 ⟨_, rfl, rfl, h⟩
  · have h := h.2 hc
    refine zr_aload_n hG zd_Line_join_10 rfl rfl ?_
    refine zf_Line_members hG tk_209 zd_Line_join_11 ?_
    refine zr_iload_n hG zd_Line_join_14 rfl rfl ?_
    obtain ⟨hi, h⟩ := h
    refine zl_19 hG hi zd_Line_join_15 ?_
    refine zr_iload_n hG zd_Line_join_16 rfl rfl ?_
    refine zr_icmp_ne hG 21 zd_Line_join_17 (by decide) (fun hc => ?_) (fun hc => ?_)
    · have h := h.1 hc
      refine zr_iinc hG (u := (1 : Int32)) [some (.ref (w.2.1 18)), some (.int v1), some (.int (v2 + (1 : Int32)))] zd_Line_join_21 rfl (by decide) (Nat.le_of_ble_eq_true rfl) rfl ?_
      refine zr_goto hG 2 zd_Line_join_24 (by decide) ?_
      have h := hk2 _ h
      exact h
    · have h := h.2 hc
      exact zr_vret hG hR zd_Line_join_20 ⟨_, rfl, rfl, h⟩
def zw_Line_join (ln : Nat → Nat) (a1 : Int32) (z : zS) (post : zS → Prop) : Prop := zq_Lp (zw_Line_join_2 ln post) (a1, (0 : Int32), z)
set_option maxHeartbeats 4000000 in
set_option maxRecDepth 100000 in
theorem zm_Line_join (l : Launch) (w : zW) (hAp : zq_Ap w) (g : zS) (o : Nat → Int64) {a1 : Int32} {z : zS} {post : zS → Prop} (h : zw_Line_join w.2.2.1 a1 z post) : zq_M l w (zq_A w) zy_Line_join zc_Line_join 3 none (zq_rm 0 0) [.ref (w.2.1 18), .int a1] (z, g, o) (zq_Pv g o post) := by
  refine zq_mk_M (by decide) (by simp [Value.category]) (Nat.le_of_ble_eq_true rfl) hAp (fun x hx hG hR => ?_)
  subst hx
  have hW := zq_wr hR.2.2.1
  refine zr_iconst hG (v := (0 : Int32)) zd_Line_join_0 (by decide) ?_
  refine zr_istore_n hG [some (.ref (w.2.1 18)), some (.int a1), some (.int (0 : Int32))] zd_Line_join_1 rfl (Nat.le_of_ble_eq_true rfl) rfl ?_
  exact zt_Line_join_2 hG hR hAp hW h
def zw_Grid_layerOf_13 (ln : Nat → Nat) (post : Int32 → zS → Prop) (u0 : Int32) (z : zS) : Prop := post u0 z
set_option maxHeartbeats 4000000 in
set_option maxRecDepth 100000 in
theorem zt_Grid_layerOf_13 {x : zC} {w : zW} {g : zS} {o : Nat → Int64} {post : Int32 → zS → Prop} (hG : zq_G x w "GridRouter$Grid" zc_Grid_layerOf 2 (zq_rm 0 0)) (hR : zq_R x w zq_0 (some .int) (zq_Pi g o post)) (hAp : zq_Ap w) {u0 : Int32} {z : zS} (h : zw_Grid_layerOf_13 w.2.2.1 post u0 z) : zq_W x w 0 0 (z, g, o) 13 [none, none] [.int u0] := by
  exact zr_iret hG hR zd_Grid_layerOf_13 ⟨_, _, rfl, rfl, h⟩
def zw_Grid_layerOf (ln : Nat → Nat) (a1 : Int32) (z : zS) (post : Int32 → zS → Prop) : Prop := (((z.1 2) ≤ a1 → zw_Grid_layerOf_13 ln post (1 : Int32) z) ∧ (¬ (z.1 2) ≤ a1 → zw_Grid_layerOf_13 ln post (0 : Int32) z))
set_option maxHeartbeats 4000000 in
set_option maxRecDepth 100000 in
theorem zm_Grid_layerOf (l : Launch) (w : zW) (hAp : zq_Ap w) (g : zS) (o : Nat → Int64) {a1 : Int32} {z : zS} {post : Int32 → zS → Prop} (h : zw_Grid_layerOf w.2.2.1 a1 z post) : zq_M l w zq_0 zy_Grid_layerOf zc_Grid_layerOf 2 (some .int) (zq_rm 0 0) [.ref (w.2.1 1), .int a1] (z, g, o) (zq_Pi g o post) := by
  refine zq_mk_M (by decide) (by simp [Value.category]) (Nat.le_of_ble_eq_true rfl) hAp (fun x hx hG hR => ?_)
  subst hx
  refine zr_iload_n hG zd_Grid_layerOf_0 rfl rfl ?_
  refine zr_aload_n hG zd_Grid_layerOf_1 rfl rfl ?_
  refine zf_Grid_area hG tk_42 zd_Grid_layerOf_2 ?_
  refine zr_icmp_ge hG 12 zd_Grid_layerOf_5 (by decide) (fun hc => ?_) (fun hc => ?_)
  · have h := h.1 hc
    refine zr_iconst hG (v := (1 : Int32)) zd_Grid_layerOf_12 (by decide) ?_
    exact zr_mask [false, false] (zt_Grid_layerOf_13 hG hR hAp h)
  · have h := h.2 hc
    refine zr_iconst hG (v := (0 : Int32)) zd_Grid_layerOf_8 (by decide) ?_
    refine zr_goto hG 13 zd_Grid_layerOf_9 (by decide) ?_
    exact zr_mask [false, false] (zt_Grid_layerOf_13 hG hR hAp h)
def zw_Nets_span (ln : Nat → Nat) (a1 : Int32) (z : zS) (post : Int32 → zS → Prop) : Prop := vp_in a1 (ln 3) ∧ vp_in a1 (ln 4) ∧ (zw_Grid_layerOf ln (z.2 3 a1.toNatClampNeg) z (fun r158 z158 => (zw_Grid_layerOf ln (z.2 4 a1.toNatClampNeg) z158 (fun r159 z159 => vp_in (z.2 3 a1.toNatClampNeg) (ln 0) ∧ vp_in (z.2 4 a1.toNatClampNeg) (ln 0) ∧ vp_in (z.2 3 a1.toNatClampNeg) (ln 1) ∧ vp_in (z.2 4 a1.toNatClampNeg) (ln 1) ∧ post (((if 0 ≤ (r158 - r159) then (r158 - r159) else 0 - (r158 - r159)) + (if 0 ≤ ((z159.2 0 (z.2 3 a1.toNatClampNeg).toNatClampNeg) - (z159.2 0 (z.2 4 a1.toNatClampNeg).toNatClampNeg)) then ((z159.2 0 (z.2 3 a1.toNatClampNeg).toNatClampNeg) - (z159.2 0 (z.2 4 a1.toNatClampNeg).toNatClampNeg)) else 0 - ((z159.2 0 (z.2 3 a1.toNatClampNeg).toNatClampNeg) - (z159.2 0 (z.2 4 a1.toNatClampNeg).toNatClampNeg)))) + (if 0 ≤ ((z159.2 1 (z.2 3 a1.toNatClampNeg).toNatClampNeg) - (z159.2 1 (z.2 4 a1.toNatClampNeg).toNatClampNeg)) then ((z159.2 1 (z.2 3 a1.toNatClampNeg).toNatClampNeg) - (z159.2 1 (z.2 4 a1.toNatClampNeg).toNatClampNeg)) else 0 - ((z159.2 1 (z.2 3 a1.toNatClampNeg).toNatClampNeg) - (z159.2 1 (z.2 4 a1.toNatClampNeg).toNatClampNeg)))) z159))))
set_option maxHeartbeats 4000000 in
set_option maxRecDepth 100000 in
theorem zm_Nets_span (l : Launch) (w : zW) (hAp : zq_Ap w) (g : zS) (o : Nat → Int64) {a1 : Int32} {z : zS} {post : Int32 → zS → Prop} (h : zw_Nets_span w.2.2.1 a1 z post) : zq_M l w zq_0 zy_Nets_span zc_Nets_span 4 (some .int) (zq_rm 1 60) [.ref (w.2.1 5), .int a1] (z, g, o) (zq_Pi g o post) := by
  refine zq_mk_M (by decide) (by simp [Value.category]) (Nat.le_of_ble_eq_true rfl) hAp (fun x hx hG hR => ?_)
  subst hx
  refine zr_aload_n hG zd_Nets_span_0 rfl rfl ?_
  refine zf_Nets_first hG tk_85 zd_Nets_span_1 ?_
  refine zr_iload_n hG zd_Nets_span_4 rfl rfl ?_
  obtain ⟨hi, h⟩ := h
  refine zl_6 hG hi zd_Nets_span_5 ?_
  refine zr_istore_n hG [some (.ref (w.2.1 5)), some (.int a1), some (.int (z.2 3 a1.toNatClampNeg)), none] zd_Nets_span_6 rfl (Nat.le_of_ble_eq_true rfl) rfl ?_
  refine zr_aload_n hG zd_Nets_span_7 rfl rfl ?_
  refine zf_Nets_second hG tk_89 zd_Nets_span_8 ?_
  refine zr_iload_n hG zd_Nets_span_11 rfl rfl ?_
  obtain ⟨hi, h⟩ := h
  refine zl_7 hG hi zd_Nets_span_12 ?_
  refine zr_istore_n hG [some (.ref (w.2.1 5)), some (.int a1), some (.int (z.2 3 a1.toNatClampNeg)), some (.int (z.2 4 a1.toNatClampNeg))] zd_Nets_span_13 rfl (Nat.le_of_ble_eq_true rfl) rfl ?_
  refine zr_aload_n hG zd_Nets_span_14 rfl rfl ?_
  refine zf_Nets_grid hG tk_102 zd_Nets_span_15 ?_
  refine zr_iload_n hG zd_Nets_span_18 rfl rfl ?_
  refine zr_callV hG zq_F0 (As := [.int (z.2 3 a1.toNatClampNeg)]) (rest := []) (zm_Grid_layerOf (zc_l x) w hAp g o h) 1 rfl rfl rfl zg_Nets_40 zdd_Grid_layerOf ⟨rfl, rfl, by decide, by decide⟩ ⟨by decide, by decide⟩ rfl (Nat.le_of_ble_eq_true rfl) zd_Nets_span_19 rfl ?_
  rintro _ _ ⟨r158, z158, rfl, rfl, h⟩
  refine zr_aload_n hG zd_Nets_span_22 rfl rfl ?_
  refine zf_Nets_grid hG tk_102 zd_Nets_span_23 ?_
  refine zr_iload_n hG zd_Nets_span_26 rfl rfl ?_
  refine zr_callV hG zq_F0 (As := [.int (z.2 4 a1.toNatClampNeg)]) (rest := [.int r158]) (zm_Grid_layerOf (zc_l x) w hAp g o h) 1 rfl rfl rfl zg_Nets_40 zdd_Grid_layerOf ⟨rfl, rfl, by decide, by decide⟩ ⟨by decide, by decide⟩ rfl (Nat.le_of_ble_eq_true rfl) zd_Nets_span_27 rfl ?_
  rintro _ _ ⟨r159, z159, rfl, rfl, h⟩
  refine zr_isub hG zd_Nets_span_30 ?_
  refine zr_abs hG tk_620 tk_621 tk_19 tk_622 ⟨by decide, (Nat.le_of_ble_eq_true rfl)⟩ ⟨by decide, by decide⟩ rfl zd_Nets_span_31 ?_
  refine zr_aload_n hG zd_Nets_span_34 rfl rfl ?_
  refine zf_Nets_grid hG tk_102 zd_Nets_span_35 ?_
  refine zf_Grid_xOf hG tk_53 zd_Nets_span_38 ?_
  refine zr_iload_n hG zd_Nets_span_41 rfl rfl ?_
  obtain ⟨hi, h⟩ := h
  refine zl_2 hG hi zd_Nets_span_42 ?_
  refine zr_aload_n hG zd_Nets_span_43 rfl rfl ?_
  refine zf_Nets_grid hG tk_102 zd_Nets_span_44 ?_
  refine zf_Grid_xOf hG tk_53 zd_Nets_span_47 ?_
  refine zr_iload_n hG zd_Nets_span_50 rfl rfl ?_
  obtain ⟨hi, h⟩ := h
  refine zl_2 hG hi zd_Nets_span_51 ?_
  refine zr_isub hG zd_Nets_span_52 ?_
  refine zr_abs hG tk_620 tk_621 tk_19 tk_622 ⟨by decide, (Nat.le_of_ble_eq_true rfl)⟩ ⟨by decide, by decide⟩ rfl zd_Nets_span_53 ?_
  refine zr_iadd hG zd_Nets_span_56 ?_
  refine zr_aload_n hG zd_Nets_span_57 rfl rfl ?_
  refine zf_Nets_grid hG tk_102 zd_Nets_span_58 ?_
  refine zf_Grid_yOf hG tk_57 zd_Nets_span_61 ?_
  refine zr_iload_n hG zd_Nets_span_64 rfl rfl ?_
  obtain ⟨hi, h⟩ := h
  refine zl_3 hG hi zd_Nets_span_65 ?_
  refine zr_aload_n hG zd_Nets_span_66 rfl rfl ?_
  refine zf_Nets_grid hG tk_102 zd_Nets_span_67 ?_
  refine zf_Grid_yOf hG tk_57 zd_Nets_span_70 ?_
  refine zr_iload_n hG zd_Nets_span_73 rfl rfl ?_
  obtain ⟨hi, h⟩ := h
  refine zl_3 hG hi zd_Nets_span_74 ?_
  refine zr_isub hG zd_Nets_span_75 ?_
  refine zr_abs hG tk_620 tk_621 tk_19 tk_622 ⟨by decide, (Nat.le_of_ble_eq_true rfl)⟩ ⟨by decide, by decide⟩ rfl zd_Nets_span_76 ?_
  refine zr_iadd hG zd_Nets_span_79 ?_
  exact zr_iret hG hR zd_Nets_span_80 ⟨_, _, rfl, rfl, h⟩
def zw_Line_sortBySpan_5_68 (ln : Nat → Nat) (post : zS → Prop) (k2 : Int32 × zS → Prop) (v2 v3 v4 : Int32) (z : zS) : Prop := vp_in v4 (ln 17) ∧ k2 ((v2 + (1 : Int32)), (zs_a z 17 v4 v3))
set_option maxHeartbeats 4000000 in
set_option maxRecDepth 100000 in
theorem zt_Line_sortBySpan_5_68 {x : zC} {w : zW} {g : zS} {o : Nat → Int64} {post : zS → Prop} (hG : zq_G x w "GridRouter$Line" zc_Line_sortBySpan 5 (zq_rm 2 83)) (hR : zq_R x w (zq_A w) none (zq_Pv g o post)) (hAp : zq_Ap w) (hW : zq_Wr x w) {k2 : Int32 × zS → Prop} (hk2 : ∀ b : Int32 × zS, k2 b → zq_W x w 0 0 (b.2, g, o) 2 [some (.ref (w.2.1 18)), some (.ref (w.2.1 5)), some (.int (b.1)), none, none] []) {v2 v3 v4 : Int32} {z : zS} (h : zw_Line_sortBySpan_5_68 w.2.2.1 post k2 v2 v3 v4 z) : zq_W x w 0 0 (z, g, o) 68 [some (.ref (w.2.1 18)), some (.ref (w.2.1 5)), some (.int v2), some (.int v3), some (.int v4)] [] := by
  refine zr_aload_n hG zd_Line_sortBySpan_68 rfl rfl ?_
  refine zf_Line_members hG tk_209 zd_Line_sortBySpan_69 ?_
  refine zr_iload hG zd_Line_sortBySpan_72 rfl ?_
  refine zr_iload_n hG zd_Line_sortBySpan_74 rfl rfl ?_
  obtain ⟨hi, h⟩ := h
  refine zu_19 hG hW hi zd_Line_sortBySpan_75 ?_
  refine zr_iinc hG (u := (1 : Int32)) [some (.ref (w.2.1 18)), some (.ref (w.2.1 5)), some (.int (v2 + (1 : Int32))), some (.int v3), some (.int v4)] zd_Line_sortBySpan_76 rfl (by decide) (Nat.le_of_ble_eq_true rfl) rfl ?_
  refine zr_goto hG 2 zd_Line_sortBySpan_79 (by decide) ?_
  have h := hk2 _ h
  exact zr_mask [true, true, true, false, false] (h)
def zw_Line_sortBySpan_5_20 (ln : Nat → Nat) (post : zS → Prop) (k2 : Int32 × zS → Prop) (k20 : Int32 × Int32 × Int32 × zS → Prop) : Int32 × Int32 × Int32 × zS → Prop := fun b => match b with
  | (v2, v3, v4, z) => ((v4 ≤ 0 → zw_Line_sortBySpan_5_68 ln post k2 v2 v3 v4 z) ∧ (¬ v4 ≤ 0 → vp_in (v4 - (1 : Int32)) (ln 17) ∧ (zw_Nets_span ln (z.2 17 (v4 - (1 : Int32)).toNatClampNeg) z (fun r156 z156 => (zw_Nets_span ln v3 z156 (fun r157 z157 => ((r156 ≤ r157 → zw_Line_sortBySpan_5_68 ln post k2 v2 v3 v4 z157) ∧ (¬ r156 ≤ r157 → vp_in (v4 - (1 : Int32)) (ln 17) ∧ vp_in v4 (ln 17) ∧ k20 (v2, v3, (v4 + (-1 : Int32)), (zs_a z157 17 v4 (z157.2 17 (v4 - (1 : Int32)).toNatClampNeg)))))))))))
set_option maxHeartbeats 4000000 in
set_option maxRecDepth 100000 in
theorem zt_Line_sortBySpan_5_20 {x : zC} {w : zW} {g : zS} {o : Nat → Int64} {post : zS → Prop} (hG : zq_G x w "GridRouter$Line" zc_Line_sortBySpan 5 (zq_rm 2 83)) (hR : zq_R x w (zq_A w) none (zq_Pv g o post)) (hAp : zq_Ap w) (hW : zq_Wr x w) {k2 : Int32 × zS → Prop} (hk2 : ∀ b : Int32 × zS, k2 b → zq_W x w 0 0 (b.2, g, o) 2 [some (.ref (w.2.1 18)), some (.ref (w.2.1 5)), some (.int (b.1)), none, none] []) {v2 v3 v4 : Int32} {z : zS} (h : zq_Lp (zw_Line_sortBySpan_5_20 w.2.2.1 post k2) (v2, v3, v4, z)) : zq_W x w 0 0 (z, g, o) 20 [some (.ref (w.2.1 18)), some (.ref (w.2.1 5)), some (.int v2), some (.int v3), some (.int v4)] [] := by
  refine zq_Lp_W (WW := fun b => zq_W x w 0 0 (b.2.2.2, g, o) 20 [some (.ref (w.2.1 18)), some (.ref (w.2.1 5)), some (.int (b.1)), some (.int (b.2.1)), some (.int (b.2.2.1))] []) (fun k20 hk20 b h => ?_) h
  obtain ⟨v2, v3, v4, z⟩ := b
  show zq_W x w 0 0 (z, g, o) 20 [some (.ref (w.2.1 18)), some (.ref (w.2.1 5)), some (.int v2), some (.int v3), some (.int v4)] []
  refine zr_iload hG zd_Line_sortBySpan_20 rfl ?_
  refine zr_if_le hG 68 zd_Line_sortBySpan_22 (by decide) (fun hc => ?_) (fun hc => ?_)
  · have h := h.1 hc
    exact zt_Line_sortBySpan_5_68 hG hR hAp hW hk2 h
  · have h := h.2 hc
    refine zr_aload_n hG zd_Line_sortBySpan_25 rfl rfl ?_
    refine zr_aload_n hG zd_Line_sortBySpan_26 rfl rfl ?_
    refine zf_Line_members hG tk_209 zd_Line_sortBySpan_27 ?_
    refine zr_iload hG zd_Line_sortBySpan_30 rfl ?_
    refine zr_iconst hG (v := (1 : Int32)) zd_Line_sortBySpan_32 (by decide) ?_
    refine zr_isub hG zd_Line_sortBySpan_33 ?_
    obtain ⟨hi, h⟩ := h
    refine zl_19 hG hi zd_Line_sortBySpan_34 ?_
    refine zr_callV hG zq_F0 (As := [.int (z.2 17 (v4 - (1 : Int32)).toNatClampNeg)]) (rest := []) (zm_Nets_span (zc_l x) w hAp g o h) 5 rfl rfl rfl zg_Line_25 zdd_Nets_span ⟨rfl, rfl, by decide, by decide⟩ ⟨by decide, by decide⟩ rfl (Nat.le_of_ble_eq_true rfl) zd_Line_sortBySpan_35 rfl ?_
    rintro _ _ ⟨r156, z156, rfl, rfl, h⟩
    refine zr_aload_n hG zd_Line_sortBySpan_38 rfl rfl ?_
    refine zr_iload_n hG zd_Line_sortBySpan_39 rfl rfl ?_
    refine zr_callV hG zq_F0 (As := [.int v3]) (rest := [.int r156]) (zm_Nets_span (zc_l x) w hAp g o h) 5 rfl rfl rfl zg_Line_25 zdd_Nets_span ⟨rfl, rfl, by decide, by decide⟩ ⟨by decide, by decide⟩ rfl (Nat.le_of_ble_eq_true rfl) zd_Line_sortBySpan_40 rfl ?_
    rintro _ _ ⟨r157, z157, rfl, rfl, h⟩
    refine zr_icmp_le hG 68 zd_Line_sortBySpan_43 (by decide) (fun hc => ?_) (fun hc => ?_)
    · have h := h.1 hc
      exact zt_Line_sortBySpan_5_68 hG hR hAp hW hk2 h
    · have h := h.2 hc
      refine zr_aload_n hG zd_Line_sortBySpan_46 rfl rfl ?_
      refine zf_Line_members hG tk_209 zd_Line_sortBySpan_47 ?_
      refine zr_iload hG zd_Line_sortBySpan_50 rfl ?_
      refine zr_aload_n hG zd_Line_sortBySpan_52 rfl rfl ?_
      refine zf_Line_members hG tk_209 zd_Line_sortBySpan_53 ?_
      refine zr_iload hG zd_Line_sortBySpan_56 rfl ?_
      refine zr_iconst hG (v := (1 : Int32)) zd_Line_sortBySpan_58 (by decide) ?_
      refine zr_isub hG zd_Line_sortBySpan_59 ?_
      obtain ⟨hi, h⟩ := h
      refine zl_19 hG hi zd_Line_sortBySpan_60 ?_
      obtain ⟨hi, h⟩ := h
      refine zu_19 hG hW hi zd_Line_sortBySpan_61 ?_
      refine zr_iinc hG (u := (-1 : Int32)) [some (.ref (w.2.1 18)), some (.ref (w.2.1 5)), some (.int v2), some (.int v3), some (.int (v4 + (-1 : Int32)))] zd_Line_sortBySpan_62 rfl (by decide) (Nat.le_of_ble_eq_true rfl) rfl ?_
      refine zr_goto hG 20 zd_Line_sortBySpan_65 (by decide) ?_
      have h := hk20 _ h
      exact h
def zw_Line_sortBySpan_5_2 (ln : Nat → Nat) (post : zS → Prop) (k2 : Int32 × zS → Prop) : Int32 × zS → Prop := fun b => match b with
  | (v2, z) => (((z.1 11) ≤ v2 → post z) ∧ (¬ (z.1 11) ≤ v2 → vp_in v2 (ln 17) ∧ zq_Lp (zw_Line_sortBySpan_5_20 ln post k2) (v2, (z.2 17 v2.toNatClampNeg), v2, z)))
set_option maxHeartbeats 4000000 in
set_option maxRecDepth 100000 in
theorem zt_Line_sortBySpan_5_2 {x : zC} {w : zW} {g : zS} {o : Nat → Int64} {post : zS → Prop} (hG : zq_G x w "GridRouter$Line" zc_Line_sortBySpan 5 (zq_rm 2 83)) (hR : zq_R x w (zq_A w) none (zq_Pv g o post)) (hAp : zq_Ap w) (hW : zq_Wr x w) {v2 : Int32} {z : zS} (h : zq_Lp (zw_Line_sortBySpan_5_2 w.2.2.1 post) (v2, z)) : zq_W x w 0 0 (z, g, o) 2 [some (.ref (w.2.1 18)), some (.ref (w.2.1 5)), some (.int v2), none, none] [] := by
  refine zq_Lp_W (WW := fun b => zq_W x w 0 0 (b.2, g, o) 2 [some (.ref (w.2.1 18)), some (.ref (w.2.1 5)), some (.int (b.1)), none, none] []) (fun k2 hk2 b h => ?_) h
  obtain ⟨v2, z⟩ := b
  show zq_W x w 0 0 (z, g, o) 2 [some (.ref (w.2.1 18)), some (.ref (w.2.1 5)), some (.int v2), none, none] []
  refine zr_iload_n hG zd_Line_sortBySpan_2 rfl rfl ?_
  refine zr_aload_n hG zd_Line_sortBySpan_3 rfl rfl ?_
  refine zf_Line_size hG tk_210 zd_Line_sortBySpan_4 ?_
  refine zr_icmp_ge hG 82 zd_Line_sortBySpan_7 (by decide) (fun hc => ?_) (fun hc => ?_)
  · have h := h.1 hc
    exact zr_vret hG hR zd_Line_sortBySpan_82 ⟨_, rfl, rfl, h⟩
  · have h := h.2 hc
    refine zr_aload_n hG zd_Line_sortBySpan_10 rfl rfl ?_
    refine zf_Line_members hG tk_209 zd_Line_sortBySpan_11 ?_
    refine zr_iload_n hG zd_Line_sortBySpan_14 rfl rfl ?_
    obtain ⟨hi, h⟩ := h
    refine zl_19 hG hi zd_Line_sortBySpan_15 ?_
    refine zr_istore_n hG [some (.ref (w.2.1 18)), some (.ref (w.2.1 5)), some (.int v2), some (.int (z.2 17 v2.toNatClampNeg)), none] zd_Line_sortBySpan_16 rfl (Nat.le_of_ble_eq_true rfl) rfl ?_
    refine zr_iload_n hG zd_Line_sortBySpan_17 rfl rfl ?_
    refine zr_istore hG [some (.ref (w.2.1 18)), some (.ref (w.2.1 5)), some (.int v2), some (.int (z.2 17 v2.toNatClampNeg)), some (.int v2)] zd_Line_sortBySpan_18 (Nat.le_of_ble_eq_true rfl) rfl ?_
    exact zt_Line_sortBySpan_5_20 hG hR hAp hW hk2 h
def zw_Line_sortBySpan_5 (ln : Nat → Nat) (z : zS) (post : zS → Prop) : Prop := zq_Lp (zw_Line_sortBySpan_5_2 ln post) ((1 : Int32), z)
set_option maxHeartbeats 4000000 in
set_option maxRecDepth 100000 in
theorem zm_Line_sortBySpan_5 (l : Launch) (w : zW) (hAp : zq_Ap w) (g : zS) (o : Nat → Int64) {z : zS} {post : zS → Prop} (h : zw_Line_sortBySpan_5 w.2.2.1 z post) : zq_M l w (zq_A w) zy_Line_sortBySpan zc_Line_sortBySpan 5 none (zq_rm 2 83) [.ref (w.2.1 18), .ref (w.2.1 5)] (z, g, o) (zq_Pv g o post) := by
  refine zq_mk_M (by decide) (by simp [Value.category]) (Nat.le_of_ble_eq_true rfl) hAp (fun x hx hG hR => ?_)
  subst hx
  have hW := zq_wr hR.2.2.1
  refine zr_iconst hG (v := (1 : Int32)) zd_Line_sortBySpan_0 (by decide) ?_
  refine zr_istore_n hG [some (.ref (w.2.1 18)), some (.ref (w.2.1 5)), some (.int (1 : Int32)), none, none] zd_Line_sortBySpan_1 rfl (Nat.le_of_ble_eq_true rfl) rfl ?_
  exact zt_Line_sortBySpan_5_2 hG hR hAp hW h
def zw_Router_lineUp_50 (ln : Nat → Nat) (post : zS → Prop) (z : zS) : Prop := post z
set_option maxHeartbeats 4000000 in
set_option maxRecDepth 100000 in
theorem zt_Router_lineUp_50 {x : zC} {w : zW} {g : zS} {o : Nat → Int64} {post : zS → Prop} (hG : zq_G x w "GridRouter$Router" zc_Router_lineUp 3 (zq_rm 3 107)) (hR : zq_R x w (zq_A w) none (zq_Pv g o post)) (hAp : zq_Ap w) (hW : zq_Wr x w) {z : zS} (h : zw_Router_lineUp_50 w.2.2.1 post z) : zq_W x w 0 0 (z, g, o) 50 [none, none, none] [] := by
  exact zr_vret hG hR zd_Router_lineUp_50 ⟨_, rfl, rfl, h⟩
def zw_Router_lineUp_2 (ln : Nat → Nat) (post : zS → Prop) (k2 : Int32 × Int32 × zS → Prop) : Int32 × Int32 × zS → Prop := fun b => match b with
  | (v1, v2, z) => (((z.1 4) ≤ v2 → ((v1 = 0 → zw_Router_lineUp_50 ln post z) ∧ (¬ v1 = 0 → (zw_Line_sortBySpan_5 ln z (fun z178 => zw_Router_lineUp_50 ln post z178))))) ∧ (¬ (z.1 4) ≤ v2 → (zw_Layout_strip ln v2 z (fun z179 => (zw_Line_join ln v2 z179 (fun z180 => k2 (v1, (v2 + (1 : Int32)), z180)))))))
set_option maxHeartbeats 4000000 in
set_option maxRecDepth 100000 in
theorem zt_Router_lineUp_2 {x : zC} {w : zW} {g : zS} {o : Nat → Int64} {post : zS → Prop} (hG : zq_G x w "GridRouter$Router" zc_Router_lineUp 3 (zq_rm 3 107)) (hR : zq_R x w (zq_A w) none (zq_Pv g o post)) (hAp : zq_Ap w) (hW : zq_Wr x w) {v1 v2 : Int32} {z : zS} (h : zq_Lp (zw_Router_lineUp_2 w.2.2.1 post) (v1, v2, z)) : zq_W x w 0 0 (z, g, o) 2 [some (.ref (w.2.1 17)), some (.int v1), some (.int v2)] [] := by
  refine zq_Lp_W (WW := fun b => zq_W x w 0 0 (b.2.2, g, o) 2 [some (.ref (w.2.1 17)), some (.int (b.1)), some (.int (b.2.1))] []) (fun k2 hk2 b h => ?_) h
  obtain ⟨v1, v2, z⟩ := b
  show zq_W x w 0 0 (z, g, o) 2 [some (.ref (w.2.1 17)), some (.int v1), some (.int v2)] []
  refine zr_iload_n hG zd_Router_lineUp_2 rfl rfl ?_
  refine zr_aload_n hG zd_Router_lineUp_3 rfl rfl ?_
  refine zf_Router_nets hG tk_261 zd_Router_lineUp_4 ?_
  refine zf_Nets_count hG tk_100 zd_Router_lineUp_7 ?_
  refine zr_icmp_ge hG 35 zd_Router_lineUp_10 (by decide) (fun hc => ?_) (fun hc => ?_)
  · have h := h.1 hc
    refine zr_iload_n hG zd_Router_lineUp_35 rfl rfl ?_
    refine zr_if_eq hG 50 zd_Router_lineUp_36 (by decide) (fun hc => ?_) (fun hc => ?_)
    · have h := h.1 hc
      exact zr_mask [false, false, false] (zt_Router_lineUp_50 hG hR hAp hW h)
    · have h := h.2 hc
      refine zr_aload_n hG zd_Router_lineUp_39 rfl rfl ?_
      refine zf_Router_line hG tk_267 zd_Router_lineUp_40 ?_
      refine zr_aload_n hG zd_Router_lineUp_43 rfl rfl ?_
      refine zf_Router_nets hG tk_261 zd_Router_lineUp_44 ?_
      refine zr_callV hG (zq_F1 hW) (As := [.ref (w.2.1 5)]) (rest := []) (zm_Line_sortBySpan_5 (zc_l x) w hAp g o h) 18 rfl rfl rfl zg_Router_118 zdd_Line_sortBySpan ⟨rfl, rfl, by decide, by decide⟩ ⟨by decide, by decide⟩ rfl (Nat.le_of_ble_eq_true rfl) zd_Router_lineUp_47 rfl ?_
      rintro _ _ ⟨z178, rfl, rfl, h⟩
      exact zr_mask [false, false, false] (zt_Router_lineUp_50 hG hR hAp hW h)
  · have h := h.2 hc
    refine zr_aload_n hG zd_Router_lineUp_13 rfl rfl ?_
    refine zf_Router_layout hG tk_262 zd_Router_lineUp_14 ?_
    refine zr_iload_n hG zd_Router_lineUp_17 rfl rfl ?_
    refine zr_callV hG (zq_F1 hW) (As := [.int v2]) (rest := []) (zm_Layout_strip (zc_l x) w hAp g o h) 9 rfl rfl rfl zg_Router_51 zdd_Layout_strip ⟨rfl, rfl, by decide, by decide⟩ ⟨by decide, by decide⟩ rfl (Nat.le_of_ble_eq_true rfl) zd_Router_lineUp_18 rfl ?_
    rintro _ _ ⟨z179, rfl, rfl, h⟩
    refine zr_aload_n hG zd_Router_lineUp_21 rfl rfl ?_
    refine zf_Router_line hG tk_267 zd_Router_lineUp_22 ?_
    refine zr_iload_n hG zd_Router_lineUp_25 rfl rfl ?_
    refine zr_callV hG (zq_F1 hW) (As := [.int v2]) (rest := []) (zm_Line_join (zc_l x) w hAp g o h) 18 rfl rfl rfl zg_Router_115 zdd_Line_join ⟨rfl, rfl, by decide, by decide⟩ ⟨by decide, by decide⟩ rfl (Nat.le_of_ble_eq_true rfl) zd_Router_lineUp_26 rfl ?_
    rintro _ _ ⟨z180, rfl, rfl, h⟩
    refine zr_iinc hG (u := (1 : Int32)) [some (.ref (w.2.1 17)), some (.int v1), some (.int (v2 + (1 : Int32)))] zd_Router_lineUp_29 rfl (by decide) (Nat.le_of_ble_eq_true rfl) rfl ?_
    refine zr_goto hG 2 zd_Router_lineUp_32 (by decide) ?_
    have h := hk2 _ h
    exact h
def zw_Router_lineUp (ln : Nat → Nat) (a1 : Int32) (z : zS) (post : zS → Prop) : Prop := zq_Lp (zw_Router_lineUp_2 ln post) (a1, (0 : Int32), z)
set_option maxHeartbeats 4000000 in
set_option maxRecDepth 100000 in
theorem zm_Router_lineUp (l : Launch) (w : zW) (hAp : zq_Ap w) (g : zS) (o : Nat → Int64) {a1 : Int32} {z : zS} {post : zS → Prop} (h : zw_Router_lineUp w.2.2.1 a1 z post) : zq_M l w (zq_A w) zy_Router_lineUp zc_Router_lineUp 3 none (zq_rm 3 107) [.ref (w.2.1 17), .int a1] (z, g, o) (zq_Pv g o post) := by
  refine zq_mk_M (by decide) (by simp [Value.category]) (Nat.le_of_ble_eq_true rfl) hAp (fun x hx hG hR => ?_)
  subst hx
  have hW := zq_wr hR.2.2.1
  refine zr_iconst hG (v := (0 : Int32)) zd_Router_lineUp_0 (by decide) ?_
  refine zr_istore_n hG [some (.ref (w.2.1 17)), some (.int a1), some (.int (0 : Int32))] zd_Router_lineUp_1 rfl (Nat.le_of_ble_eq_true rfl) rfl ?_
  exact zt_Router_lineUp_2 hG hR hAp hW h
def zw_Router_retryLoose_63 (ln : Nat → Nat) (post : zS → Prop) (z : zS) : Prop := post z
set_option maxHeartbeats 4000000 in
set_option maxRecDepth 100000 in
theorem zt_Router_retryLoose_63 {x : zC} {w : zW} {g : zS} {o : Nat → Int64} {post : zS → Prop} (hG : zq_G x w "GridRouter$Router" zc_Router_retryLoose 4 (zq_rm 5 116)) (hR : zq_R x w (zq_A w) none (zq_Pv g o post)) (hAp : zq_Ap w) (hW : zq_Wr x w) {z : zS} (h : zw_Router_retryLoose_63 w.2.2.1 post z) : zq_W x w 0 0 (z, g, o) 63 [none, none, none, none] [] := by
  exact zr_vret hG hR zd_Router_retryLoose_63 ⟨_, rfl, rfl, h⟩
def zw_Router_retryLoose_51 (ln : Nat → Nat) (post : zS → Prop) (k4 : Int32 × Int32 × zS → Prop) (k18 : Int32 × Int32 × Int32 × zS → Prop) (v1 v2 v3 : Int32) (z : zS) : Prop := k18 (v1, v2, (v3 + (1 : Int32)), z)
set_option maxHeartbeats 4000000 in
set_option maxRecDepth 100000 in
theorem zt_Router_retryLoose_51 {x : zC} {w : zW} {g : zS} {o : Nat → Int64} {post : zS → Prop} (hG : zq_G x w "GridRouter$Router" zc_Router_retryLoose 4 (zq_rm 5 116)) (hR : zq_R x w (zq_A w) none (zq_Pv g o post)) (hAp : zq_Ap w) (hW : zq_Wr x w) {k4 : Int32 × Int32 × zS → Prop} {k18 : Int32 × Int32 × Int32 × zS → Prop} (hk4 : ∀ b : Int32 × Int32 × zS, k4 b → zq_W x w 0 0 (b.2.2, g, o) 4 [some (.ref (w.2.1 17)), some (.int (b.1)), some (.int (b.2.1)), none] []) (hk18 : ∀ b : Int32 × Int32 × Int32 × zS, k18 b → zq_W x w 0 0 (b.2.2.2, g, o) 18 [some (.ref (w.2.1 17)), some (.int (b.1)), some (.int (b.2.1)), some (.int (b.2.2.1))] []) {v1 v2 v3 : Int32} {z : zS} (h : zw_Router_retryLoose_51 w.2.2.1 post k4 k18 v1 v2 v3 z) : zq_W x w 0 0 (z, g, o) 51 [some (.ref (w.2.1 17)), some (.int v1), some (.int v2), some (.int v3)] [] := by
  refine zr_iinc hG (u := (1 : Int32)) [some (.ref (w.2.1 17)), some (.int v1), some (.int v2), some (.int (v3 + (1 : Int32)))] zd_Router_retryLoose_51 rfl (by decide) (Nat.le_of_ble_eq_true rfl) rfl ?_
  refine zr_goto hG 18 zd_Router_retryLoose_54 (by decide) ?_
  have h := hk18 _ h
  exact h
def zw_Router_retryLoose_18 (ln : Nat → Nat) (post : zS → Prop) (k4 : Int32 × Int32 × zS → Prop) (k18 : Int32 × Int32 × Int32 × zS → Prop) : Int32 × Int32 × Int32 × zS → Prop := fun b => match b with
  | (v1, v2, v3, z) => (((z.1 4) ≤ v3 → k4 (v1, (v2 + (1 : Int32)), z)) ∧ (¬ (z.1 4) ≤ v3 → (zw_Checker_isJoined ln v3 z (fun r187 z187 => ((¬ r187 = 0 → zw_Router_retryLoose_51 ln post k4 k18 v1 v2 v3 z187) ∧ (r187 = 0 → (zw_Router_lay ln v3 z187 (fun r188 z188 => ((r188 = (-1 : Int32) → zw_Router_retryLoose_51 ln post k4 k18 v1 v2 v3 z188) ∧ (¬ r188 = (-1 : Int32) → zw_Router_retryLoose_51 ln post k4 k18 (1 : Int32) v2 v3 z188))))))))))
set_option maxHeartbeats 4000000 in
set_option maxRecDepth 100000 in
theorem zt_Router_retryLoose_18 {x : zC} {w : zW} {g : zS} {o : Nat → Int64} {post : zS → Prop} (hG : zq_G x w "GridRouter$Router" zc_Router_retryLoose 4 (zq_rm 5 116)) (hR : zq_R x w (zq_A w) none (zq_Pv g o post)) (hAp : zq_Ap w) (hW : zq_Wr x w) {k4 : Int32 × Int32 × zS → Prop} (hk4 : ∀ b : Int32 × Int32 × zS, k4 b → zq_W x w 0 0 (b.2.2, g, o) 4 [some (.ref (w.2.1 17)), some (.int (b.1)), some (.int (b.2.1)), none] []) {v1 v2 v3 : Int32} {z : zS} (h : zq_Lp (zw_Router_retryLoose_18 w.2.2.1 post k4) (v1, v2, v3, z)) : zq_W x w 0 0 (z, g, o) 18 [some (.ref (w.2.1 17)), some (.int v1), some (.int v2), some (.int v3)] [] := by
  refine zq_Lp_W (WW := fun b => zq_W x w 0 0 (b.2.2.2, g, o) 18 [some (.ref (w.2.1 17)), some (.int (b.1)), some (.int (b.2.1)), some (.int (b.2.2.1))] []) (fun k18 hk18 b h => ?_) h
  obtain ⟨v1, v2, v3, z⟩ := b
  show zq_W x w 0 0 (z, g, o) 18 [some (.ref (w.2.1 17)), some (.int v1), some (.int v2), some (.int v3)] []
  refine zr_iload_n hG zd_Router_retryLoose_18 rfl rfl ?_
  refine zr_aload_n hG zd_Router_retryLoose_19 rfl rfl ?_
  refine zf_Router_nets hG tk_261 zd_Router_retryLoose_20 ?_
  refine zf_Nets_count hG tk_100 zd_Router_retryLoose_23 ?_
  refine zr_icmp_ge hG 57 zd_Router_retryLoose_26 (by decide) (fun hc => ?_) (fun hc => ?_)
  · have h := h.1 hc
    refine zr_iinc hG (u := (1 : Int32)) [some (.ref (w.2.1 17)), some (.int v1), some (.int (v2 + (1 : Int32))), some (.int v3)] zd_Router_retryLoose_57 rfl (by decide) (Nat.le_of_ble_eq_true rfl) rfl ?_
    refine zr_goto hG 4 zd_Router_retryLoose_60 (by decide) ?_
    have h := hk4 _ h
    exact zr_mask [true, true, true, false] (h)
  · have h := h.2 hc
    refine zr_aload_n hG zd_Router_retryLoose_29 rfl rfl ?_
    refine zf_Router_checker hG tk_265 zd_Router_retryLoose_30 ?_
    refine zr_iload_n hG zd_Router_retryLoose_33 rfl rfl ?_
    refine zr_callV hG (zq_F1 hW) (As := [.int v3]) (rest := []) (zm_Checker_isJoined (zc_l x) w hAp g o h) 14 rfl rfl rfl zg_Router_139 zdd_Checker_isJoined ⟨rfl, rfl, by decide, by decide⟩ ⟨by decide, by decide⟩ rfl (Nat.le_of_ble_eq_true rfl) zd_Router_retryLoose_34 rfl ?_
    rintro _ _ ⟨r187, z187, rfl, rfl, h⟩
    refine zr_if_ne hG 51 zd_Router_retryLoose_37 (by decide) (fun hc => ?_) (fun hc => ?_)
    · have h := h.1 hc
      exact zt_Router_retryLoose_51 hG hR hAp hW hk4 hk18 h
    · have h := h.2 hc
      refine zr_aload_n hG zd_Router_retryLoose_40 rfl rfl ?_
      refine zr_iload_n hG zd_Router_retryLoose_41 rfl rfl ?_
      refine zr_callV hG (zq_F1 hW) (As := [.int v3]) (rest := []) (zm_Router_lay (zc_l x) w hAp g o h) 17 rfl rfl rfl zg_Router_130 zdd_Router_lay ⟨rfl, rfl, by decide, by decide⟩ ⟨by decide, by decide⟩ rfl (Nat.le_of_ble_eq_true rfl) zd_Router_retryLoose_42 rfl ?_
      rintro _ _ ⟨r188, z188, rfl, rfl, h⟩
      refine zr_iconst hG (v := (-1 : Int32)) zd_Router_retryLoose_45 (by decide) ?_
      refine zr_icmp_eq hG 51 zd_Router_retryLoose_46 (by decide) (fun hc => ?_) (fun hc => ?_)
      · have h := h.1 hc
        exact zt_Router_retryLoose_51 hG hR hAp hW hk4 hk18 h
      · have h := h.2 hc
        refine zr_iconst hG (v := (1 : Int32)) zd_Router_retryLoose_49 (by decide) ?_
        refine zr_istore_n hG [some (.ref (w.2.1 17)), some (.int (1 : Int32)), some (.int v2), some (.int v3)] zd_Router_retryLoose_50 rfl (Nat.le_of_ble_eq_true rfl) rfl ?_
        exact zt_Router_retryLoose_51 hG hR hAp hW hk4 hk18 h
def zw_Router_retryLoose_4 (ln : Nat → Nat) (post : zS → Prop) (k4 : Int32 × Int32 × zS → Prop) : Int32 × Int32 × zS → Prop := fun b => match b with
  | (v1, v2, z) => (((6 : Int32) < v2 → zw_Router_retryLoose_63 ln post z) ∧ (¬ (6 : Int32) < v2 → ((v1 = 0 → zw_Router_retryLoose_63 ln post z) ∧ (¬ v1 = 0 → zq_Lp (zw_Router_retryLoose_18 ln post k4) ((0 : Int32), v2, (0 : Int32), z)))))
set_option maxHeartbeats 4000000 in
set_option maxRecDepth 100000 in
theorem zt_Router_retryLoose_4 {x : zC} {w : zW} {g : zS} {o : Nat → Int64} {post : zS → Prop} (hG : zq_G x w "GridRouter$Router" zc_Router_retryLoose 4 (zq_rm 5 116)) (hR : zq_R x w (zq_A w) none (zq_Pv g o post)) (hAp : zq_Ap w) (hW : zq_Wr x w) {v1 v2 : Int32} {z : zS} (h : zq_Lp (zw_Router_retryLoose_4 w.2.2.1 post) (v1, v2, z)) : zq_W x w 0 0 (z, g, o) 4 [some (.ref (w.2.1 17)), some (.int v1), some (.int v2), none] [] := by
  refine zq_Lp_W (WW := fun b => zq_W x w 0 0 (b.2.2, g, o) 4 [some (.ref (w.2.1 17)), some (.int (b.1)), some (.int (b.2.1)), none] []) (fun k4 hk4 b h => ?_) h
  obtain ⟨v1, v2, z⟩ := b
  show zq_W x w 0 0 (z, g, o) 4 [some (.ref (w.2.1 17)), some (.int v1), some (.int v2), none] []
  refine zr_iload_n hG zd_Router_retryLoose_4 rfl rfl ?_
  refine zr_bipush hG (v := (6 : Int32)) zd_Router_retryLoose_5 (by decide) ?_
  refine zr_icmp_gt hG 63 zd_Router_retryLoose_7 (by decide) (fun hc => ?_) (fun hc => ?_)
  · have h := h.1 hc
    exact zr_mask [false, false, false, false] (zt_Router_retryLoose_63 hG hR hAp hW h)
  · have h := h.2 hc
    refine zr_iload_n hG zd_Router_retryLoose_10 rfl rfl ?_
    refine zr_if_eq hG 63 zd_Router_retryLoose_11 (by decide) (fun hc => ?_) (fun hc => ?_)
    · have h := h.1 hc
      exact zr_mask [false, false, false, false] (zt_Router_retryLoose_63 hG hR hAp hW h)
    · have h := h.2 hc
      refine zr_iconst hG (v := (0 : Int32)) zd_Router_retryLoose_14 (by decide) ?_
      refine zr_istore_n hG [some (.ref (w.2.1 17)), some (.int (0 : Int32)), some (.int v2), none] zd_Router_retryLoose_15 rfl (Nat.le_of_ble_eq_true rfl) rfl ?_
      refine zr_iconst hG (v := (0 : Int32)) zd_Router_retryLoose_16 (by decide) ?_
      refine zr_istore_n hG [some (.ref (w.2.1 17)), some (.int (0 : Int32)), some (.int v2), some (.int (0 : Int32))] zd_Router_retryLoose_17 rfl (Nat.le_of_ble_eq_true rfl) rfl ?_
      exact zt_Router_retryLoose_18 hG hR hAp hW hk4 h
def zw_Router_retryLoose (ln : Nat → Nat) (z : zS) (post : zS → Prop) : Prop := zq_Lp (zw_Router_retryLoose_4 ln post) ((1 : Int32), (0 : Int32), z)
set_option maxHeartbeats 4000000 in
set_option maxRecDepth 100000 in
theorem zm_Router_retryLoose (l : Launch) (w : zW) (hAp : zq_Ap w) (g : zS) (o : Nat → Int64) {z : zS} {post : zS → Prop} (h : zw_Router_retryLoose w.2.2.1 z post) : zq_M l w (zq_A w) zy_Router_retryLoose zc_Router_retryLoose 4 none (zq_rm 5 116) [.ref (w.2.1 17)] (z, g, o) (zq_Pv g o post) := by
  refine zq_mk_M (by decide) (by simp [Value.category]) (Nat.le_of_ble_eq_true rfl) hAp (fun x hx hG hR => ?_)
  subst hx
  have hW := zq_wr hR.2.2.1
  refine zr_iconst hG (v := (1 : Int32)) zd_Router_retryLoose_0 (by decide) ?_
  refine zr_istore_n hG [some (.ref (w.2.1 17)), some (.int (1 : Int32)), none, none] zd_Router_retryLoose_1 rfl (Nat.le_of_ble_eq_true rfl) rfl ?_
  refine zr_iconst hG (v := (0 : Int32)) zd_Router_retryLoose_2 (by decide) ?_
  refine zr_istore_n hG [some (.ref (w.2.1 17)), some (.int (1 : Int32)), some (.int (0 : Int32)), none] zd_Router_retryLoose_3 rfl (Nat.le_of_ble_eq_true rfl) rfl ?_
  exact zt_Router_retryLoose_4 hG hR hAp hW h
def zw_Line_isEmpty_12 (ln : Nat → Nat) (post : Int32 → zS → Prop) (u0 : Int32) (z : zS) : Prop := (narrow .boolean (.int u0) = .int u0 ∧ post u0 z)
set_option maxHeartbeats 4000000 in
set_option maxRecDepth 100000 in
theorem zt_Line_isEmpty_12 {x : zC} {w : zW} {g : zS} {o : Nat → Int64} {post : Int32 → zS → Prop} (hG : zq_G x w "GridRouter$Line" zc_Line_isEmpty 1 (zq_rm 0 0)) (hR : zq_R x w zq_0 (some .boolean) (zq_Pi g o post)) (hAp : zq_Ap w) {u0 : Int32} {z : zS} (h : zw_Line_isEmpty_12 w.2.2.1 post u0 z) : zq_W x w 0 0 (z, g, o) 12 [none] [.int u0] := by
  obtain ⟨hn, h⟩ := h
  exact zr_zret hG hR zd_Line_isEmpty_12 hn ⟨_, _, rfl, rfl, h⟩
def zw_Line_isEmpty (ln : Nat → Nat) (z : zS) (post : Int32 → zS → Prop) : Prop := ((¬ (z.1 11) = 0 → zw_Line_isEmpty_12 ln post (0 : Int32) z) ∧ ((z.1 11) = 0 → zw_Line_isEmpty_12 ln post (1 : Int32) z))
set_option maxHeartbeats 4000000 in
set_option maxRecDepth 100000 in
theorem zm_Line_isEmpty (l : Launch) (w : zW) (hAp : zq_Ap w) (g : zS) (o : Nat → Int64) {z : zS} {post : Int32 → zS → Prop} (h : zw_Line_isEmpty w.2.2.1 z post) : zq_M l w zq_0 zy_Line_isEmpty zc_Line_isEmpty 1 (some .boolean) (zq_rm 0 0) [.ref (w.2.1 18)] (z, g, o) (zq_Pi g o post) := by
  refine zq_mk_M (by decide) (by simp [Value.category]) (Nat.le_of_ble_eq_true rfl) hAp (fun x hx hG hR => ?_)
  subst hx
  refine zr_aload_n hG zd_Line_isEmpty_0 rfl rfl ?_
  refine zf_Line_size hG tk_210 zd_Line_isEmpty_1 ?_
  refine zr_if_ne hG 11 zd_Line_isEmpty_4 (by decide) (fun hc => ?_) (fun hc => ?_)
  · have h := h.1 hc
    refine zr_iconst hG (v := (0 : Int32)) zd_Line_isEmpty_11 (by decide) ?_
    exact zr_mask [false] (zt_Line_isEmpty_12 hG hR hAp h)
  · have h := h.2 hc
    refine zr_iconst hG (v := (1 : Int32)) zd_Line_isEmpty_7 (by decide) ?_
    refine zr_goto hG 12 zd_Line_isEmpty_8 (by decide) ?_
    exact zr_mask [false] (zt_Line_isEmpty_12 hG hR hAp h)
def zw_Line_leave (ln : Nat → Nat) (z : zS) (post : Int32 → zS → Prop) : Prop := vp_in (0 : Int32) (ln 17) ∧ (¬ (1 : Int32) < 0 ∧ ¬ (0 : Int32) < 0 ∧ ¬ ((zs_s z 11 ((z.1 11) - (1 : Int32))).1 11) < 0 ∧ (1 : Int32).toNatClampNeg + ((zs_s z 11 ((z.1 11) - (1 : Int32))).1 11).toNatClampNeg ≤ (ln 17) ∧ (0 : Int32).toNatClampNeg + ((zs_s z 11 ((z.1 11) - (1 : Int32))).1 11).toNatClampNeg ≤ (ln 17) ∧ post (z.2 17 (0 : Int32).toNatClampNeg) (zs_r (zs_s z 11 ((z.1 11) - (1 : Int32))) 17 (va_cpy ((zs_s z 11 ((z.1 11) - (1 : Int32))).2 17) ((zs_s z 11 ((z.1 11) - (1 : Int32))).2 17) (1 : Int32).toNatClampNeg (0 : Int32).toNatClampNeg ((zs_s z 11 ((z.1 11) - (1 : Int32))).1 11).toNatClampNeg)))
set_option maxHeartbeats 4000000 in
set_option maxRecDepth 100000 in
theorem zm_Line_leave (l : Launch) (w : zW) (hAp : zq_Ap w) (g : zS) (o : Nat → Int64) {z : zS} {post : Int32 → zS → Prop} (h : zw_Line_leave w.2.2.1 z post) : zq_M l w (zq_A w) zy_Line_leave zc_Line_leave 2 (some .int) (zq_rm 1 60) [.ref (w.2.1 18)] (z, g, o) (zq_Pi g o post) := by
  refine zq_mk_M (by decide) (by simp [Value.category]) (Nat.le_of_ble_eq_true rfl) hAp (fun x hx hG hR => ?_)
  subst hx
  have hW := zq_wr hR.2.2.1
  refine zr_aload_n hG zd_Line_leave_0 rfl rfl ?_
  refine zf_Line_members hG tk_209 zd_Line_leave_1 ?_
  refine zr_iconst hG (v := (0 : Int32)) zd_Line_leave_4 (by decide) ?_
  obtain ⟨hi, h⟩ := h
  refine zl_19 hG hi zd_Line_leave_5 ?_
  refine zr_istore_n hG [some (.ref (w.2.1 18)), some (.int (z.2 17 (0 : Int32).toNatClampNeg))] zd_Line_leave_6 rfl (Nat.le_of_ble_eq_true rfl) rfl ?_
  refine zr_aload_n hG zd_Line_leave_7 rfl rfl ?_
  refine zr_dup hG zd_Line_leave_8 rfl ?_
  refine zf_Line_size hG tk_210 zd_Line_leave_9 ?_
  refine zr_iconst hG (v := (1 : Int32)) zd_Line_leave_12 (by decide) ?_
  refine zr_isub hG zd_Line_leave_13 ?_
  refine zp_Line_size hG hW tk_210 zd_Line_leave_14 ?_
  refine zr_aload_n hG zd_Line_leave_17 rfl rfl ?_
  refine zf_Line_members hG tk_209 zd_Line_leave_18 ?_
  refine zr_iconst hG (v := (1 : Int32)) zd_Line_leave_21 (by decide) ?_
  refine zr_aload_n hG zd_Line_leave_22 rfl rfl ?_
  refine zf_Line_members hG tk_209 zd_Line_leave_23 ?_
  refine zr_iconst hG (v := (0 : Int32)) zd_Line_leave_26 (by decide) ?_
  refine zr_aload_n hG zd_Line_leave_27 rfl rfl ?_
  refine zf_Line_size hG tk_210 zd_Line_leave_28 ?_
  obtain ⟨h1, h2, h3, h4, h5, h⟩ := h
  refine zv_19 hG hW tk_635 tk_637 tk_636 tk_20 ⟨by decide, (Nat.le_of_ble_eq_true rfl)⟩ rfl h1 h2 h3 h4 h5 zd_Line_leave_31 ?_
  refine zr_iload_n hG zd_Line_leave_34 rfl rfl ?_
  exact zr_iret hG hR zd_Line_leave_35 ⟨_, _, rfl, rfl, h⟩
def zw_Router_lineUpPushedOut_30 (ln : Nat → Nat) (post : zS → Prop) (k2 : Int32 × zS → Prop) (v1 : Int32) (z : zS) : Prop := k2 ((v1 + (1 : Int32)), z)
set_option maxHeartbeats 4000000 in
set_option maxRecDepth 100000 in
theorem zt_Router_lineUpPushedOut_30 {x : zC} {w : zW} {g : zS} {o : Nat → Int64} {post : zS → Prop} (hG : zq_G x w "GridRouter$Router" zc_Router_lineUpPushedOut 2 (zq_rm 1 22)) (hR : zq_R x w (zq_A w) none (zq_Pv g o post)) (hAp : zq_Ap w) (hW : zq_Wr x w) {k2 : Int32 × zS → Prop} (hk2 : ∀ b : Int32 × zS, k2 b → zq_W x w 0 0 (b.2, g, o) 2 [some (.ref (w.2.1 17)), some (.int (b.1))] []) {v1 : Int32} {z : zS} (h : zw_Router_lineUpPushedOut_30 w.2.2.1 post k2 v1 z) : zq_W x w 0 0 (z, g, o) 30 [some (.ref (w.2.1 17)), some (.int v1)] [] := by
  refine zr_iinc hG (u := (1 : Int32)) [some (.ref (w.2.1 17)), some (.int (v1 + (1 : Int32)))] zd_Router_lineUpPushedOut_30 rfl (by decide) (Nat.le_of_ble_eq_true rfl) rfl ?_
  refine zr_goto hG 2 zd_Router_lineUpPushedOut_33 (by decide) ?_
  have h := hk2 _ h
  exact h
def zw_Router_lineUpPushedOut_2 (ln : Nat → Nat) (post : zS → Prop) (k2 : Int32 × zS → Prop) : Int32 × zS → Prop := fun b => match b with
  | (v1, z) => (((z.1 4) ≤ v1 → post z) ∧ (¬ (z.1 4) ≤ v1 → vp_in v1 (ln 9) ∧ (((z.2 9 v1.toNatClampNeg) = 0 → zw_Router_lineUpPushedOut_30 ln post k2 v1 z) ∧ (¬ (z.2 9 v1.toNatClampNeg) = 0 → (zw_Line_join ln v1 z (fun z186 => zw_Router_lineUpPushedOut_30 ln post k2 v1 z186))))))
set_option maxHeartbeats 4000000 in
set_option maxRecDepth 100000 in
theorem zt_Router_lineUpPushedOut_2 {x : zC} {w : zW} {g : zS} {o : Nat → Int64} {post : zS → Prop} (hG : zq_G x w "GridRouter$Router" zc_Router_lineUpPushedOut 2 (zq_rm 1 22)) (hR : zq_R x w (zq_A w) none (zq_Pv g o post)) (hAp : zq_Ap w) (hW : zq_Wr x w) {v1 : Int32} {z : zS} (h : zq_Lp (zw_Router_lineUpPushedOut_2 w.2.2.1 post) (v1, z)) : zq_W x w 0 0 (z, g, o) 2 [some (.ref (w.2.1 17)), some (.int v1)] [] := by
  refine zq_Lp_W (WW := fun b => zq_W x w 0 0 (b.2, g, o) 2 [some (.ref (w.2.1 17)), some (.int (b.1))] []) (fun k2 hk2 b h => ?_) h
  obtain ⟨v1, z⟩ := b
  show zq_W x w 0 0 (z, g, o) 2 [some (.ref (w.2.1 17)), some (.int v1)] []
  refine zr_iload_n hG zd_Router_lineUpPushedOut_2 rfl rfl ?_
  refine zr_aload_n hG zd_Router_lineUpPushedOut_3 rfl rfl ?_
  refine zf_Router_nets hG tk_261 zd_Router_lineUpPushedOut_4 ?_
  refine zf_Nets_count hG tk_100 zd_Router_lineUpPushedOut_7 ?_
  refine zr_icmp_ge hG 36 zd_Router_lineUpPushedOut_10 (by decide) (fun hc => ?_) (fun hc => ?_)
  · have h := h.1 hc
    exact zr_vret hG hR zd_Router_lineUpPushedOut_36 ⟨_, rfl, rfl, h⟩
  · have h := h.2 hc
    refine zr_aload_n hG zd_Router_lineUpPushedOut_13 rfl rfl ?_
    refine zf_Router_pushedOut hG tk_268 zd_Router_lineUpPushedOut_14 ?_
    refine zr_iload_n hG zd_Router_lineUpPushedOut_17 rfl rfl ?_
    obtain ⟨hi, h⟩ := h
    refine zl_20 hG hi zd_Router_lineUpPushedOut_18 ?_
    refine zr_if_eq hG 30 zd_Router_lineUpPushedOut_19 (by decide) (fun hc => ?_) (fun hc => ?_)
    · have h := h.1 hc
      exact zt_Router_lineUpPushedOut_30 hG hR hAp hW hk2 h
    · have h := h.2 hc
      refine zr_aload_n hG zd_Router_lineUpPushedOut_22 rfl rfl ?_
      refine zf_Router_line hG tk_267 zd_Router_lineUpPushedOut_23 ?_
      refine zr_iload_n hG zd_Router_lineUpPushedOut_26 rfl rfl ?_
      refine zr_callV hG (zq_F1 hW) (As := [.int v1]) (rest := []) (zm_Line_join (zc_l x) w hAp g o h) 18 rfl rfl rfl zg_Router_115 zdd_Line_join ⟨rfl, rfl, by decide, by decide⟩ ⟨by decide, by decide⟩ rfl (Nat.le_of_ble_eq_true rfl) zd_Router_lineUpPushedOut_27 rfl ?_
      rintro _ _ ⟨z186, rfl, rfl, h⟩
      exact zt_Router_lineUpPushedOut_30 hG hR hAp hW hk2 h
def zw_Router_lineUpPushedOut (ln : Nat → Nat) (z : zS) (post : zS → Prop) : Prop := zq_Lp (zw_Router_lineUpPushedOut_2 ln post) ((0 : Int32), z)
set_option maxHeartbeats 4000000 in
set_option maxRecDepth 100000 in
theorem zm_Router_lineUpPushedOut (l : Launch) (w : zW) (hAp : zq_Ap w) (g : zS) (o : Nat → Int64) {z : zS} {post : zS → Prop} (h : zw_Router_lineUpPushedOut w.2.2.1 z post) : zq_M l w (zq_A w) zy_Router_lineUpPushedOut zc_Router_lineUpPushedOut 2 none (zq_rm 1 22) [.ref (w.2.1 17)] (z, g, o) (zq_Pv g o post) := by
  refine zq_mk_M (by decide) (by simp [Value.category]) (Nat.le_of_ble_eq_true rfl) hAp (fun x hx hG hR => ?_)
  subst hx
  have hW := zq_wr hR.2.2.1
  refine zr_iconst hG (v := (0 : Int32)) zd_Router_lineUpPushedOut_0 (by decide) ?_
  refine zr_istore_n hG [some (.ref (w.2.1 17)), some (.int (0 : Int32))] zd_Router_lineUpPushedOut_1 rfl (Nat.le_of_ble_eq_true rfl) rfl ?_
  exact zt_Router_lineUpPushedOut_2 hG hR hAp hW h
def zw_Router_serveLine_67 (ln : Nat → Nat) (post : zS → Prop) (z : zS) : Prop := post z
set_option maxHeartbeats 4000000 in
set_option maxRecDepth 100000 in
theorem zt_Router_serveLine_67 {x : zC} {w : zW} {g : zS} {o : Nat → Int64} {post : zS → Prop} (hG : zq_G x w "GridRouter$Router" zc_Router_serveLine 5 (zq_rm 5 116)) (hR : zq_R x w (zq_A w) none (zq_Pv g o post)) (hAp : zq_Ap w) (hW : zq_Wr x w) {z : zS} (h : zw_Router_serveLine_67 w.2.2.1 post z) : zq_W x w 0 0 (z, g, o) 67 [none, none, none, none, none] [] := by
  exact zr_vret hG hR zd_Router_serveLine_67 ⟨_, rfl, rfl, h⟩
def zw_Router_serveLine_61 (ln : Nat → Nat) (post : zS → Prop) (k4 : Int32 × Int32 × Int32 × zS → Prop) (v1 v2 v3 : Int32) (z : zS) : Prop := k4 (v1, v2, (v3 + (1 : Int32)), z)
set_option maxHeartbeats 4000000 in
set_option maxRecDepth 100000 in
theorem zt_Router_serveLine_61 {x : zC} {w : zW} {g : zS} {o : Nat → Int64} {post : zS → Prop} (hG : zq_G x w "GridRouter$Router" zc_Router_serveLine 5 (zq_rm 5 116)) (hR : zq_R x w (zq_A w) none (zq_Pv g o post)) (hAp : zq_Ap w) (hW : zq_Wr x w) {k4 : Int32 × Int32 × Int32 × zS → Prop} (hk4 : ∀ b : Int32 × Int32 × Int32 × zS, k4 b → zq_W x w 0 0 (b.2.2.2, g, o) 4 [some (.ref (w.2.1 17)), some (.int (b.1)), some (.int (b.2.1)), some (.int (b.2.2.1)), none] []) {v1 v2 v3 : Int32} {z : zS} (h : zw_Router_serveLine_61 w.2.2.1 post k4 v1 v2 v3 z) : zq_W x w 0 0 (z, g, o) 61 [some (.ref (w.2.1 17)), some (.int v1), some (.int v2), some (.int v3), none] [] := by
  refine zr_iinc hG (u := (1 : Int32)) [some (.ref (w.2.1 17)), some (.int v1), some (.int v2), some (.int (v3 + (1 : Int32))), none] zd_Router_serveLine_61 rfl (by decide) (Nat.le_of_ble_eq_true rfl) rfl ?_
  refine zr_goto hG 4 zd_Router_serveLine_64 (by decide) ?_
  have h := hk4 _ h
  exact h
def zw_Router_serveLine_4 (ln : Nat → Nat) (post : zS → Prop) (k4 : Int32 × Int32 × Int32 × zS → Prop) : Int32 × Int32 × Int32 × zS → Prop := fun b => match b with
  | (v1, v2, v3, z) => (((126 : Int32) ≤ v3 → zw_Router_serveLine_67 ln post z) ∧ (¬ (126 : Int32) ≤ v3 → (zw_Line_isEmpty ln z (fun r181 z181 => ((¬ r181 = 0 → zw_Router_serveLine_67 ln post z181) ∧ (r181 = 0 → (zw_Line_leave ln z181 (fun r182 z182 => (zw_Router_lay ln r182 z182 (fun r183 z183 => ((¬ r183 = (-1 : Int32) → zw_Router_serveLine_61 ln post k4 v1 v2 v3 z183) ∧ (r183 = (-1 : Int32) → ((v1 ≤ v2 → zw_Router_serveLine_61 ln post k4 v1 v2 v3 z183) ∧ (¬ v1 ≤ v2 → (zw_Router_shove ln r182 z183 (fun r184 z184 => ((r184 = (-1 : Int32) → zw_Router_serveLine_61 ln post k4 v1 v2 v3 z184) ∧ (¬ r184 = (-1 : Int32) → (zw_Router_lineUpPushedOut ln z184 (fun z185 => zw_Router_serveLine_61 ln post k4 v1 (v2 + (1 : Int32)) v3 z185))))))))))))))))))))
set_option maxHeartbeats 4000000 in
set_option maxRecDepth 100000 in
theorem zt_Router_serveLine_4 {x : zC} {w : zW} {g : zS} {o : Nat → Int64} {post : zS → Prop} (hG : zq_G x w "GridRouter$Router" zc_Router_serveLine 5 (zq_rm 5 116)) (hR : zq_R x w (zq_A w) none (zq_Pv g o post)) (hAp : zq_Ap w) (hW : zq_Wr x w) {v1 v2 v3 : Int32} {z : zS} (h : zq_Lp (zw_Router_serveLine_4 w.2.2.1 post) (v1, v2, v3, z)) : zq_W x w 0 0 (z, g, o) 4 [some (.ref (w.2.1 17)), some (.int v1), some (.int v2), some (.int v3), none] [] := by
  refine zq_Lp_W (WW := fun b => zq_W x w 0 0 (b.2.2.2, g, o) 4 [some (.ref (w.2.1 17)), some (.int (b.1)), some (.int (b.2.1)), some (.int (b.2.2.1)), none] []) (fun k4 hk4 b h => ?_) h
  obtain ⟨v1, v2, v3, z⟩ := b
  show zq_W x w 0 0 (z, g, o) 4 [some (.ref (w.2.1 17)), some (.int v1), some (.int v2), some (.int v3), none] []
  refine zr_iload_n hG zd_Router_serveLine_4 rfl rfl ?_
  refine zr_bipush hG (v := (126 : Int32)) zd_Router_serveLine_5 (by decide) ?_
  refine zr_icmp_ge hG 67 zd_Router_serveLine_7 (by decide) (fun hc => ?_) (fun hc => ?_)
  · have h := h.1 hc
    exact zr_mask [false, false, false, false, false] (zt_Router_serveLine_67 hG hR hAp hW h)
  · have h := h.2 hc
    refine zr_aload_n hG zd_Router_serveLine_10 rfl rfl ?_
    refine zf_Router_line hG tk_267 zd_Router_serveLine_11 ?_
    refine zr_callV hG zq_F0 (As := []) (rest := []) (zm_Line_isEmpty (zc_l x) w hAp g o h) 18 rfl rfl rfl zg_Router_122 zdd_Line_isEmpty ⟨rfl, rfl, by decide, by decide⟩ ⟨by decide, by decide⟩ rfl (Nat.le_of_ble_eq_true rfl) zd_Router_serveLine_14 rfl ?_
    rintro _ _ ⟨r181, z181, rfl, rfl, h⟩
    refine zr_if_ne hG 67 zd_Router_serveLine_17 (by decide) (fun hc => ?_) (fun hc => ?_)
    · have h := h.1 hc
      exact zr_mask [false, false, false, false, false] (zt_Router_serveLine_67 hG hR hAp hW h)
    · have h := h.2 hc
      refine zr_aload_n hG zd_Router_serveLine_20 rfl rfl ?_
      refine zf_Router_line hG tk_267 zd_Router_serveLine_21 ?_
      refine zr_callV hG (zq_F1 hW) (As := []) (rest := []) (zm_Line_leave (zc_l x) w hAp g o h) 18 rfl rfl rfl zg_Router_126 zdd_Line_leave ⟨rfl, rfl, by decide, by decide⟩ ⟨by decide, by decide⟩ rfl (Nat.le_of_ble_eq_true rfl) zd_Router_serveLine_24 rfl ?_
      rintro _ _ ⟨r182, z182, rfl, rfl, h⟩
      refine zr_istore hG [some (.ref (w.2.1 17)), some (.int v1), some (.int v2), some (.int v3), some (.int r182)] zd_Router_serveLine_27 (Nat.le_of_ble_eq_true rfl) rfl ?_
      refine zr_aload_n hG zd_Router_serveLine_29 rfl rfl ?_
      refine zr_iload hG zd_Router_serveLine_30 rfl ?_
      refine zr_callV hG (zq_F1 hW) (As := [.int r182]) (rest := []) (zm_Router_lay (zc_l x) w hAp g o h) 17 rfl rfl rfl zg_Router_130 zdd_Router_lay ⟨rfl, rfl, by decide, by decide⟩ ⟨by decide, by decide⟩ rfl (Nat.le_of_ble_eq_true rfl) zd_Router_serveLine_32 rfl ?_
      rintro _ _ ⟨r183, z183, rfl, rfl, h⟩
      refine zr_iconst hG (v := (-1 : Int32)) zd_Router_serveLine_35 (by decide) ?_
      refine zr_icmp_ne hG 61 zd_Router_serveLine_36 (by decide) (fun hc => ?_) (fun hc => ?_)
      · have h := h.1 hc
        exact zr_mask [true, true, true, true, false] (zt_Router_serveLine_61 hG hR hAp hW hk4 h)
      · have h := h.2 hc
        refine zr_iload_n hG zd_Router_serveLine_39 rfl rfl ?_
        refine zr_iload_n hG zd_Router_serveLine_40 rfl rfl ?_
        refine zr_icmp_ge hG 61 zd_Router_serveLine_41 (by decide) (fun hc => ?_) (fun hc => ?_)
        · have h := h.1 hc
          exact zr_mask [true, true, true, true, false] (zt_Router_serveLine_61 hG hR hAp hW hk4 h)
        · have h := h.2 hc
          refine zr_aload_n hG zd_Router_serveLine_44 rfl rfl ?_
          refine zr_iload hG zd_Router_serveLine_45 rfl ?_
          refine zr_callV hG (zq_F1 hW) (As := [.int r182]) (rest := []) (zm_Router_shove (zc_l x) w hAp g o h) 17 rfl rfl rfl zg_Router_133 zdd_Router_shove ⟨rfl, rfl, by decide, by decide⟩ ⟨by decide, by decide⟩ rfl (Nat.le_of_ble_eq_true rfl) zd_Router_serveLine_47 rfl ?_
          rintro _ _ ⟨r184, z184, rfl, rfl, h⟩
          refine zr_iconst hG (v := (-1 : Int32)) zd_Router_serveLine_50 (by decide) ?_
          refine zr_icmp_eq hG 61 zd_Router_serveLine_51 (by decide) (fun hc => ?_) (fun hc => ?_)
          · have h := h.1 hc
            exact zr_mask [true, true, true, true, false] (zt_Router_serveLine_61 hG hR hAp hW hk4 h)
          · have h := h.2 hc
            refine zr_iinc hG (u := (1 : Int32)) [some (.ref (w.2.1 17)), some (.int v1), some (.int (v2 + (1 : Int32))), some (.int v3), some (.int r182)] zd_Router_serveLine_54 rfl (by decide) (Nat.le_of_ble_eq_true rfl) rfl ?_
            refine zr_aload_n hG zd_Router_serveLine_57 rfl rfl ?_
            refine zr_callV hG (zq_F1 hW) (As := []) (rest := []) (zm_Router_lineUpPushedOut (zc_l x) w hAp g o h) 17 rfl rfl rfl zg_Router_136 zdd_Router_lineUpPushedOut ⟨rfl, rfl, by decide, by decide⟩ ⟨by decide, by decide⟩ rfl (Nat.le_of_ble_eq_true rfl) zd_Router_serveLine_58 rfl ?_
            rintro _ _ ⟨z185, rfl, rfl, h⟩
            exact zr_mask [true, true, true, true, false] (zt_Router_serveLine_61 hG hR hAp hW hk4 h)
def zw_Router_serveLine (ln : Nat → Nat) (a1 : Int32) (z : zS) (post : zS → Prop) : Prop := zq_Lp (zw_Router_serveLine_4 ln post) (a1, (0 : Int32), (0 : Int32), z)
set_option maxHeartbeats 4000000 in
set_option maxRecDepth 100000 in
theorem zm_Router_serveLine (l : Launch) (w : zW) (hAp : zq_Ap w) (g : zS) (o : Nat → Int64) {a1 : Int32} {z : zS} {post : zS → Prop} (h : zw_Router_serveLine w.2.2.1 a1 z post) : zq_M l w (zq_A w) zy_Router_serveLine zc_Router_serveLine 5 none (zq_rm 5 116) [.ref (w.2.1 17), .int a1] (z, g, o) (zq_Pv g o post) := by
  refine zq_mk_M (by decide) (by simp [Value.category]) (Nat.le_of_ble_eq_true rfl) hAp (fun x hx hG hR => ?_)
  subst hx
  have hW := zq_wr hR.2.2.1
  refine zr_iconst hG (v := (0 : Int32)) zd_Router_serveLine_0 (by decide) ?_
  refine zr_istore_n hG [some (.ref (w.2.1 17)), some (.int a1), some (.int (0 : Int32)), none, none] zd_Router_serveLine_1 rfl (Nat.le_of_ble_eq_true rfl) rfl ?_
  refine zr_iconst hG (v := (0 : Int32)) zd_Router_serveLine_2 (by decide) ?_
  refine zr_istore_n hG [some (.ref (w.2.1 17)), some (.int a1), some (.int (0 : Int32)), some (.int (0 : Int32)), none] zd_Router_serveLine_3 rfl (Nat.le_of_ble_eq_true rfl) rfl ?_
  exact zt_Router_serveLine_4 hG hR hAp hW h
