def zw_Mo_before_69 (post : Int32 → zS → Prop) (k12 : Int32 × Int32 × Int32 × zS → Prop) (v1 v4 v5 : Int32) (z : zS) : Prop := k12 (v1, v4, (v5 + (1 : Int32)), z)
set_option maxHeartbeats 4000000 in
set_option maxRecDepth 100000 in
theorem zt_Mo_before_69 {x : zC} {w : zW} {g : zS} {o : Nat → Int64} {post : Int32 → zS → Prop} (hG : zq_G x w "GridRouterModel" zc_Mo_before 7 (zq_rm 5 118)) (hR : zq_R x w zq_0 (some .int) (zq_Ni g o post)) (hAp : zq_Ap w) {k12 : Int32 × Int32 × Int32 × zS → Prop} (hk12 : ∀ b : Int32 × Int32 × Int32 × zS, k12 b → zq_W x w 0 0 (g, b.2.2.2, o) 12 [some (.ref (w.2.1 28)), some (.int (b.1)), none, none, some (.int (b.2.1)), some (.int (b.2.2.1)), none] []) {v1 v4 v5 : Int32} {z : zS} (h : zw_Mo_before_69 post k12 v1 v4 v5 z) : zq_W x w 0 0 (g, z, o) 69 [some (.ref (w.2.1 28)), some (.int v1), none, none, some (.int v4), some (.int v5), none] [] := by
  refine zr_iinc hG (u := (1 : Int32)) [some (.ref (w.2.1 28)), some (.int v1), none, none, some (.int v4), some (.int (v5 + (1 : Int32))), none] zd_Mo_before_69 rfl (by decide) (Nat.le_of_ble_eq_true rfl) rfl ?_
  refine zr_goto hG 12 zd_Mo_before_72 (by decide) ?_
  have h := hk12 _ h
  exact h
def zw_Mo_before_12 (post : Int32 → zS → Prop) (k12 : Int32 × Int32 × Int32 × zS → Prop) : Int32 × Int32 × Int32 × zS → Prop := fun b => match b with
  | (v1, v4, v5, z) => (((4 : Int32) ≤ v5 → post (4 : Int32) z) ∧ (¬ (4 : Int32) ≤ v5 → (zw_Mo_side v1 v5 z (fun r78 z78 => ((r78 = (-1 : Int32) → zw_Mo_before_69 post k12 v1 v4 v5 z78) ∧ (¬ r78 = (-1 : Int32) → vp_in r78 162 ∧ (((1000000 : Int32) ≤ (z78.2 4 r78.toNatClampNeg) → zw_Mo_before_69 post k12 v1 v4 v5 z78) ∧ (¬ (1000000 : Int32) ≤ (z78.2 4 r78.toNatClampNeg) → vp_in r78 162 ∧ vp_in v1 162 ∧ ((¬ (((z78.2 4 r78.toNatClampNeg) + (1 : Int32)) + v4) = (z78.2 4 v1.toNatClampNeg) → zw_Mo_before_69 post k12 v1 v4 v5 z78) ∧ ((((z78.2 4 r78.toNatClampNeg) + (1 : Int32)) + v4) = (z78.2 4 v1.toNatClampNeg) → post v5 z78))))))))))
set_option maxHeartbeats 4000000 in
set_option maxRecDepth 100000 in
theorem zt_Mo_before_12 {x : zC} {w : zW} {g : zS} {o : Nat → Int64} {post : Int32 → zS → Prop} (hG : zq_G x w "GridRouterModel" zc_Mo_before 7 (zq_rm 5 118)) (hR : zq_R x w zq_0 (some .int) (zq_Ni g o post)) (hAp : zq_Ap w) {v1 v4 v5 : Int32} {z : zS} (h : zq_Lp (zw_Mo_before_12 post) (v1, v4, v5, z)) : zq_W x w 0 0 (g, z, o) 12 [some (.ref (w.2.1 28)), some (.int v1), none, none, some (.int v4), some (.int v5), none] [] := by
  refine zq_Lp_W (WW := fun b => zq_W x w 0 0 (g, b.2.2.2, o) 12 [some (.ref (w.2.1 28)), some (.int (b.1)), none, none, some (.int (b.2.1)), some (.int (b.2.2.1)), none] []) (fun k12 hk12 b h => ?_) h
  obtain ⟨v1, v4, v5, z⟩ := b
  show zq_W x w 0 0 (g, z, o) 12 [some (.ref (w.2.1 28)), some (.int v1), none, none, some (.int v4), some (.int v5), none] []
  refine zr_iload hG zd_Mo_before_12 rfl ?_
  refine zr_iconst hG (v := (4 : Int32)) zd_Mo_before_14 (by decide) ?_
  refine zr_icmp_ge hG 75 zd_Mo_before_15 (by decide) (fun hc => ?_) (fun hc => ?_)
  · have h := h.1 hc
    refine zr_iconst hG (v := (4 : Int32)) zd_Mo_before_75 (by decide) ?_
    exact zr_iret hG hR zd_Mo_before_76 ⟨_, _, rfl, rfl, h⟩
  · have h := h.2 hc
    refine zr_aload_n hG zd_Mo_before_18 rfl rfl ?_
    refine zr_iload_n hG zd_Mo_before_19 rfl rfl ?_
    refine zr_iload hG zd_Mo_before_20 rfl ?_
    refine zr_callV hG zq_F0 (As := [.int v1, .int v5]) (rest := []) (zm_Mo_side (zc_l x) w hAp g o h) 28 rfl rfl rfl zg_Mo_72 zdd_Mo_side ⟨rfl, rfl, by decide, by decide⟩ ⟨by decide, by decide⟩ rfl (Nat.le_of_ble_eq_true rfl) zd_Mo_before_22 rfl ?_
    rintro _ _ ⟨r78, z78, rfl, rfl, h⟩
    refine zr_istore hG [some (.ref (w.2.1 28)), some (.int v1), none, none, some (.int v4), some (.int v5), some (.int r78)] zd_Mo_before_25 (Nat.le_of_ble_eq_true rfl) rfl ?_
    refine zr_iload hG zd_Mo_before_27 rfl ?_
    refine zr_iconst hG (v := (-1 : Int32)) zd_Mo_before_29 (by decide) ?_
    refine zr_icmp_eq hG 69 zd_Mo_before_30 (by decide) (fun hc => ?_) (fun hc => ?_)
    · have h := h.1 hc
      exact zr_mask [true, true, false, false, true, true, false] (zt_Mo_before_69 hG hR hAp hk12 h)
    · have h := h.2 hc
      refine zr_aload_n hG zd_Mo_before_33 rfl rfl ?_
      refine zf_Mo_cost hG tk_772 zd_Mo_before_34 ?_
      refine zr_iload hG zd_Mo_before_37 rfl ?_
      obtain ⟨hi, h⟩ := h
      refine zl_33 hG hi zd_Mo_before_39 ?_
      refine zr_ldc hG (v := 1000000) tk_880 zd_Mo_before_40 ?_
      refine zr_icmp_ge hG 69 zd_Mo_before_42 (by decide) (fun hc => ?_) (fun hc => ?_)
      · have h := h.1 hc
        exact zr_mask [true, true, false, false, true, true, false] (zt_Mo_before_69 hG hR hAp hk12 h)
      · have h := h.2 hc
        refine zr_aload_n hG zd_Mo_before_45 rfl rfl ?_
        refine zf_Mo_cost hG tk_772 zd_Mo_before_46 ?_
        refine zr_iload hG zd_Mo_before_49 rfl ?_
        obtain ⟨hi, h⟩ := h
        refine zl_33 hG hi zd_Mo_before_51 ?_
        refine zr_iconst hG (v := (1 : Int32)) zd_Mo_before_52 (by decide) ?_
        refine zr_iadd hG zd_Mo_before_53 ?_
        refine zr_iload hG zd_Mo_before_54 rfl ?_
        refine zr_iadd hG zd_Mo_before_56 ?_
        refine zr_aload_n hG zd_Mo_before_57 rfl rfl ?_
        refine zf_Mo_cost hG tk_772 zd_Mo_before_58 ?_
        refine zr_iload_n hG zd_Mo_before_61 rfl rfl ?_
        obtain ⟨hi, h⟩ := h
        refine zl_33 hG hi zd_Mo_before_62 ?_
        refine zr_icmp_ne hG 69 zd_Mo_before_63 (by decide) (fun hc => ?_) (fun hc => ?_)
        · have h := h.1 hc
          exact zr_mask [true, true, false, false, true, true, false] (zt_Mo_before_69 hG hR hAp hk12 h)
        · have h := h.2 hc
          refine zr_iload hG zd_Mo_before_66 rfl ?_
          exact zr_iret hG hR zd_Mo_before_68 ⟨_, _, rfl, rfl, h⟩
def zw_Mo_before (a1 a2 a3 : Int32) (z : zS) (post : Int32 → zS → Prop) : Prop := (zw_Mo_toll a1 a2 a3 z (fun r79 z79 => zq_Lp (zw_Mo_before_12 post) (a1, r79, (0 : Int32), z79)))
set_option maxHeartbeats 4000000 in
set_option maxRecDepth 100000 in
theorem zm_Mo_before (l : Launch) (w : zW) (hAp : zq_Ap w) (g : zS) (o : Nat → Int64) {a1 a2 a3 : Int32} {z : zS} {post : Int32 → zS → Prop} (h : zw_Mo_before a1 a2 a3 z post) : zq_M l w zq_0 zy_Mo_before zc_Mo_before 7 (some .int) (zq_rm 5 118) [.ref (w.2.1 28), .int a1, .int a2, .int a3] (g, z, o) (zq_Ni g o post) := by
  refine zq_mk_M (by decide) (by simp [Value.category]) (Nat.le_of_ble_eq_true rfl) hAp (fun x hx hG hR => ?_)
  subst hx
  have h : (zw_Mo_toll a1 a2 a3 z (fun r79 z79 => zq_Lp (zw_Mo_before_12 post) (a1, r79, (0 : Int32), z79))) := h
  refine zr_aload_n hG zd_Mo_before_0 rfl rfl ?_
  refine zr_iload_n hG zd_Mo_before_1 rfl rfl ?_
  refine zr_iload_n hG zd_Mo_before_2 rfl rfl ?_
  refine zr_iload_n hG zd_Mo_before_3 rfl rfl ?_
  refine zr_callV hG zq_F0 (As := [.int a1, .int a2, .int a3]) (rest := []) (zm_Mo_toll (zc_l x) w hAp g o h) 28 rfl rfl rfl zg_Mo_94 zdd_Mo_toll ⟨rfl, rfl, by decide, by decide⟩ ⟨by decide, by decide⟩ rfl (Nat.le_of_ble_eq_true rfl) zd_Mo_before_4 rfl ?_
  rintro _ _ ⟨r79, z79, rfl, rfl, h⟩
  refine zr_istore hG [some (.ref (w.2.1 28)), some (.int a1), some (.int a2), some (.int a3), some (.int r79), none, none] zd_Mo_before_7 (Nat.le_of_ble_eq_true rfl) rfl ?_
  refine zr_iconst hG (v := (0 : Int32)) zd_Mo_before_9 (by decide) ?_
  refine zr_istore hG [some (.ref (w.2.1 28)), some (.int a1), some (.int a2), some (.int a3), some (.int r79), some (.int (0 : Int32)), none] zd_Mo_before_10 (Nat.le_of_ble_eq_true rfl) rfl ?_
  exact zr_mask [true, true, false, false, true, true, false] (zt_Mo_before_12 hG hR hAp h)
def zw_Mo_leave (a1 a2 : Int32) (z : zS) (post : zS → Prop) : Prop := (zw_Mo_isOther a1 a2 z (fun r87 z87 => ((¬ r87 = 0 → (zw_Mo_clear a1 z87 (fun z88 => post (zs_s z88 7 ((z88.1 7) ||| ((1 : Int32) <<< (a1 &&& 31))))))) ∧ (r87 = 0 → post z87))))
set_option maxHeartbeats 4000000 in
set_option maxRecDepth 100000 in
theorem zm_Mo_leave (l : Launch) (w : zW) (hAp : zq_Ap w) (g : zS) (o : Nat → Int64) {a1 a2 : Int32} {z : zS} {post : zS → Prop} (h : zw_Mo_leave a1 a2 z post) : zq_M l w (zq_A w) zy_Mo_leave zc_Mo_leave 3 none (zq_rm 2 43) [.ref (w.2.1 28), .int a1, .int a2] (g, z, o) (zq_Nv g o post) := by
  refine zq_mk_M (by decide) (by simp [Value.category]) (Nat.le_of_ble_eq_true rfl) hAp (fun x hx hG hR => ?_)
  subst hx
  have hW := zq_wr hR.2.2.1
  have h : (zw_Mo_isOther a1 a2 z (fun r87 z87 => ((¬ r87 = 0 → (zw_Mo_clear a1 z87 (fun z88 => post (zs_s z88 7 ((z88.1 7) ||| ((1 : Int32) <<< (a1 &&& 31))))))) ∧ (r87 = 0 → post z87)))) := h
  refine zr_iload_n hG zd_Mo_leave_0 rfl rfl ?_
  refine zr_iload_n hG zd_Mo_leave_1 rfl rfl ?_
  refine zr_callS hG zq_F0 (As := [.int a1, .int a2]) (rest := []) (zm_Mo_isOther (zc_l x) w hAp g o h) rfl zg_Mo_69 zdd_Mo_isOther ⟨rfl, rfl, by decide, by decide⟩ ⟨by decide, by decide⟩ rfl (Nat.le_of_ble_eq_true rfl) zd_Mo_leave_2 rfl ?_
  rintro _ _ ⟨r87, z87, rfl, rfl, h⟩
  refine zr_if_ne hG 9 zd_Mo_leave_5 (by decide) (fun hc => ?_) (fun hc => ?_)
  · have h := h.1 hc
    refine zr_aload_n hG zd_Mo_leave_9 rfl rfl ?_
    refine zr_iload_n hG zd_Mo_leave_10 rfl rfl ?_
    refine zr_callV hG (zq_F1 hW) (As := [.int a1]) (rest := []) (zm_Mo_clear (zc_l x) w hAp g o h) 28 rfl rfl rfl zg_Mo_108 zdd_Mo_clear ⟨rfl, rfl, by decide, by decide⟩ ⟨by decide, by decide⟩ rfl (Nat.le_of_ble_eq_true rfl) zd_Mo_leave_11 rfl ?_
    rintro _ _ ⟨z88, rfl, rfl, h⟩
    refine zr_aload_n hG zd_Mo_leave_14 rfl rfl ?_
    refine zr_dup hG zd_Mo_leave_15 rfl ?_
    refine zf_Mo_out hG tk_781 zd_Mo_leave_16 ?_
    refine zr_iconst hG (v := (1 : Int32)) zd_Mo_leave_19 (by decide) ?_
    refine zr_iload_n hG zd_Mo_leave_20 rfl rfl ?_
    refine zr_ishl hG zd_Mo_leave_21 ?_
    refine zr_ior hG zd_Mo_leave_22 ?_
    refine zp_Mo_out hG hW tk_781 zd_Mo_leave_23 ?_
    exact zr_vret hG hR zd_Mo_leave_26 ⟨_, rfl, rfl, h⟩
  · have h := h.2 hc
    exact zr_vret hG hR zd_Mo_leave_8 ⟨_, rfl, rfl, h⟩
def zw_Mo_pushOut_57 (post : zS → Prop) (z : zS) : Prop := post z
set_option maxHeartbeats 4000000 in
set_option maxRecDepth 100000 in
theorem zt_Mo_pushOut_57 {x : zC} {w : zW} {g : zS} {o : Nat → Int64} {post : zS → Prop} (hG : zq_G x w "GridRouterModel" zc_Mo_pushOut 5 (zq_rm 3 70)) (hR : zq_R x w (zq_A w) none (zq_Nv g o post)) (hAp : zq_Ap w) (hW : zq_Wr x w) {z : zS} (h : zw_Mo_pushOut_57 post z) : zq_W x w 0 0 (g, z, o) 57 [none, none, none, none, none] [] := by
  exact zr_vret hG hR zd_Mo_pushOut_57 ⟨_, rfl, rfl, h⟩
def zw_Mo_pushOut_51 (post : zS → Prop) (k13 : Int32 × Int32 × Int32 × zS → Prop) (v1 v2 v3 : Int32) (z : zS) : Prop := k13 (v1, v2, (v3 + (1 : Int32)), z)
set_option maxHeartbeats 4000000 in
set_option maxRecDepth 100000 in
theorem zt_Mo_pushOut_51 {x : zC} {w : zW} {g : zS} {o : Nat → Int64} {post : zS → Prop} (hG : zq_G x w "GridRouterModel" zc_Mo_pushOut 5 (zq_rm 3 70)) (hR : zq_R x w (zq_A w) none (zq_Nv g o post)) (hAp : zq_Ap w) (hW : zq_Wr x w) {k13 : Int32 × Int32 × Int32 × zS → Prop} (hk13 : ∀ b : Int32 × Int32 × Int32 × zS, k13 b → zq_W x w 0 0 (g, b.2.2.2, o) 13 [some (.ref (w.2.1 28)), some (.int (b.1)), some (.int (b.2.1)), some (.int (b.2.2.1)), none] []) {v1 v2 v3 : Int32} {z : zS} (h : zw_Mo_pushOut_51 post k13 v1 v2 v3 z) : zq_W x w 0 0 (g, z, o) 51 [some (.ref (w.2.1 28)), some (.int v1), some (.int v2), some (.int v3), none] [] := by
  refine zr_iinc hG (u := (1 : Int32)) [some (.ref (w.2.1 28)), some (.int v1), some (.int v2), some (.int (v3 + (1 : Int32))), none] zd_Mo_pushOut_51 rfl (by decide) (Nat.le_of_ble_eq_true rfl) rfl ?_
  refine zr_goto hG 13 zd_Mo_pushOut_54 (by decide) ?_
  have h := hk13 _ h
  exact h
def zw_Mo_pushOut_13 (post : zS → Prop) (k13 : Int32 × Int32 × Int32 × zS → Prop) : Int32 × Int32 × Int32 × zS → Prop := fun b => match b with
  | (v1, v2, v3, z) => (((4 : Int32) ≤ v3 → zw_Mo_pushOut_57 post z) ∧ (¬ (4 : Int32) ≤ v3 → (((z.1 3) = 0 → zw_Mo_pushOut_57 post z) ∧ (¬ (z.1 3) = 0 → (zw_Mo_side v1 v3 z (fun r84 z84 => ((r84 = (-1 : Int32) → zw_Mo_pushOut_51 post k13 v1 v2 v3 z84) ∧ (¬ r84 = (-1 : Int32) → vp_in r84 162 ∧ (zw_Mo_leave (z84.2 2 r84.toNatClampNeg) v2 z84 (fun z85 => zw_Mo_pushOut_51 post k13 v1 v2 v3 z85))))))))))
set_option maxHeartbeats 4000000 in
set_option maxRecDepth 100000 in
theorem zt_Mo_pushOut_13 {x : zC} {w : zW} {g : zS} {o : Nat → Int64} {post : zS → Prop} (hG : zq_G x w "GridRouterModel" zc_Mo_pushOut 5 (zq_rm 3 70)) (hR : zq_R x w (zq_A w) none (zq_Nv g o post)) (hAp : zq_Ap w) (hW : zq_Wr x w) {v1 v2 v3 : Int32} {z : zS} (h : zq_Lp (zw_Mo_pushOut_13 post) (v1, v2, v3, z)) : zq_W x w 0 0 (g, z, o) 13 [some (.ref (w.2.1 28)), some (.int v1), some (.int v2), some (.int v3), none] [] := by
  refine zq_Lp_W (WW := fun b => zq_W x w 0 0 (g, b.2.2.2, o) 13 [some (.ref (w.2.1 28)), some (.int (b.1)), some (.int (b.2.1)), some (.int (b.2.2.1)), none] []) (fun k13 hk13 b h => ?_) h
  obtain ⟨v1, v2, v3, z⟩ := b
  show zq_W x w 0 0 (g, z, o) 13 [some (.ref (w.2.1 28)), some (.int v1), some (.int v2), some (.int v3), none] []
  refine zr_iload_n hG zd_Mo_pushOut_13 rfl rfl ?_
  refine zr_iconst hG (v := (4 : Int32)) zd_Mo_pushOut_14 (by decide) ?_
  refine zr_icmp_ge hG 57 zd_Mo_pushOut_15 (by decide) (fun hc => ?_) (fun hc => ?_)
  · have h := h.1 hc
    exact zr_mask [false, false, false, false, false] (zt_Mo_pushOut_57 hG hR hAp hW h)
  · have h := h.2 hc
    refine zr_aload_n hG zd_Mo_pushOut_18 rfl rfl ?_
    refine zf_Mo_wide hG tk_766 zd_Mo_pushOut_19 ?_
    refine zr_if_eq hG 57 zd_Mo_pushOut_22 (by decide) (fun hc => ?_) (fun hc => ?_)
    · have h := h.1 hc
      exact zr_mask [false, false, false, false, false] (zt_Mo_pushOut_57 hG hR hAp hW h)
    · have h := h.2 hc
      refine zr_aload_n hG zd_Mo_pushOut_25 rfl rfl ?_
      refine zr_iload_n hG zd_Mo_pushOut_26 rfl rfl ?_
      refine zr_iload_n hG zd_Mo_pushOut_27 rfl rfl ?_
      refine zr_callV hG zq_F0 (As := [.int v1, .int v3]) (rest := []) (zm_Mo_side (zc_l x) w hAp g o h) 28 rfl rfl rfl zg_Mo_72 zdd_Mo_side ⟨rfl, rfl, by decide, by decide⟩ ⟨by decide, by decide⟩ rfl (Nat.le_of_ble_eq_true rfl) zd_Mo_pushOut_28 rfl ?_
      rintro _ _ ⟨r84, z84, rfl, rfl, h⟩
      refine zr_istore hG [some (.ref (w.2.1 28)), some (.int v1), some (.int v2), some (.int v3), some (.int r84)] zd_Mo_pushOut_31 (Nat.le_of_ble_eq_true rfl) rfl ?_
      refine zr_iload hG zd_Mo_pushOut_33 rfl ?_
      refine zr_iconst hG (v := (-1 : Int32)) zd_Mo_pushOut_35 (by decide) ?_
      refine zr_icmp_eq hG 51 zd_Mo_pushOut_36 (by decide) (fun hc => ?_) (fun hc => ?_)
      · have h := h.1 hc
        exact zr_mask [true, true, true, true, false] (zt_Mo_pushOut_51 hG hR hAp hW hk13 h)
      · have h := h.2 hc
        refine zr_aload_n hG zd_Mo_pushOut_39 rfl rfl ?_
        refine zr_aload_n hG zd_Mo_pushOut_40 rfl rfl ?_
        refine zf_Mo_owner hG tk_770 zd_Mo_pushOut_41 ?_
        refine zr_iload hG zd_Mo_pushOut_44 rfl ?_
        obtain ⟨hi, h⟩ := h
        refine zl_31 hG hi zd_Mo_pushOut_46 ?_
        refine zr_iload_n hG zd_Mo_pushOut_47 rfl rfl ?_
        refine zr_callV hG (zq_F1 hW) (As := [.int (z84.2 2 r84.toNatClampNeg), .int v2]) (rest := []) (zm_Mo_leave (zc_l x) w hAp g o h) 28 rfl rfl rfl zg_Mo_105 zdd_Mo_leave ⟨rfl, rfl, by decide, by decide⟩ ⟨by decide, by decide⟩ rfl (Nat.le_of_ble_eq_true rfl) zd_Mo_pushOut_48 rfl ?_
        rintro _ _ ⟨z85, rfl, rfl, h⟩
        exact zr_mask [true, true, true, true, false] (zt_Mo_pushOut_51 hG hR hAp hW hk13 h)
def zw_Mo_pushOut (a1 a2 : Int32) (z : zS) (post : zS → Prop) : Prop := vp_in a1 162 ∧ (zw_Mo_leave (z.2 2 a1.toNatClampNeg) a2 z (fun z86 => zq_Lp (zw_Mo_pushOut_13 post) (a1, a2, (0 : Int32), z86)))
set_option maxHeartbeats 4000000 in
set_option maxRecDepth 100000 in
theorem zm_Mo_pushOut (l : Launch) (w : zW) (hAp : zq_Ap w) (g : zS) (o : Nat → Int64) {a1 a2 : Int32} {z : zS} {post : zS → Prop} (h : zw_Mo_pushOut a1 a2 z post) : zq_M l w (zq_A w) zy_Mo_pushOut zc_Mo_pushOut 5 none (zq_rm 3 70) [.ref (w.2.1 28), .int a1, .int a2] (g, z, o) (zq_Nv g o post) := by
  refine zq_mk_M (by decide) (by simp [Value.category]) (Nat.le_of_ble_eq_true rfl) hAp (fun x hx hG hR => ?_)
  subst hx
  have hW := zq_wr hR.2.2.1
  refine zr_aload_n hG zd_Mo_pushOut_0 rfl rfl ?_
  refine zr_aload_n hG zd_Mo_pushOut_1 rfl rfl ?_
  refine zf_Mo_owner hG tk_770 zd_Mo_pushOut_2 ?_
  refine zr_iload_n hG zd_Mo_pushOut_5 rfl rfl ?_
  obtain ⟨hi, h⟩ := h
  refine zl_31 hG hi zd_Mo_pushOut_6 ?_
  refine zr_iload_n hG zd_Mo_pushOut_7 rfl rfl ?_
  refine zr_callV hG (zq_F1 hW) (As := [.int (z.2 2 a1.toNatClampNeg), .int a2]) (rest := []) (zm_Mo_leave (zc_l x) w hAp g o h) 28 rfl rfl rfl zg_Mo_105 zdd_Mo_leave ⟨rfl, rfl, by decide, by decide⟩ ⟨by decide, by decide⟩ rfl (Nat.le_of_ble_eq_true rfl) zd_Mo_pushOut_8 rfl ?_
  rintro _ _ ⟨z86, rfl, rfl, h⟩
  refine zr_iconst hG (v := (0 : Int32)) zd_Mo_pushOut_11 (by decide) ?_
  refine zr_istore_n hG [some (.ref (w.2.1 28)), some (.int a1), some (.int a2), some (.int (0 : Int32)), none] zd_Mo_pushOut_12 rfl (Nat.le_of_ble_eq_true rfl) rfl ?_
  exact zt_Mo_pushOut_13 hG hR hAp hW h
def zw_Mo_lay_167 (post : zS → Prop) (k121 : Int32 × Int32 × Int32 × zS → Prop) (v1 v3 v5 : Int32) (z : zS) : Prop := k121 (v1, v3, (v5 + (1 : Int32)), z)
set_option maxHeartbeats 4000000 in
set_option maxRecDepth 100000 in
theorem zt_Mo_lay_167 {x : zC} {w : zW} {g : zS} {o : Nat → Int64} {post : zS → Prop} (hG : zq_G x w "GridRouterModel" zc_Mo_lay 6 (zq_rm 6 144)) (hR : zq_R x w (zq_A w) none (zq_Nv g o post)) (hAp : zq_Ap w) (hW : zq_Wr x w) {k121 : Int32 × Int32 × Int32 × zS → Prop} (hk121 : ∀ b : Int32 × Int32 × Int32 × zS, k121 b → zq_W x w 0 0 (g, b.2.2.2, o) 121 [some (.ref (w.2.1 28)), some (.int (b.1)), none, some (.int (b.2.1)), none, some (.int (b.2.2.1))] []) {v1 v3 v5 : Int32} {z : zS} (h : zw_Mo_lay_167 post k121 v1 v3 v5 z) : zq_W x w 0 0 (g, z, o) 167 [some (.ref (w.2.1 28)), some (.int v1), none, some (.int v3), none, some (.int v5)] [] := by
  refine zr_iinc hG (u := (1 : Int32)) [some (.ref (w.2.1 28)), some (.int v1), none, some (.int v3), none, some (.int (v5 + (1 : Int32)))] zd_Mo_lay_167 rfl (by decide) (Nat.le_of_ble_eq_true rfl) rfl ?_
  refine zr_goto hG 121 zd_Mo_lay_170 (by decide) ?_
  have h := hk121 _ h
  exact h
def zw_Mo_lay_121 (post : zS → Prop) (k121 : Int32 × Int32 × Int32 × zS → Prop) : Int32 × Int32 × Int32 × zS → Prop := fun b => match b with
  | (v1, v3, v5, z) => ((v3 < v5 → post z) ∧ (¬ v3 < v5 → vp_in v5 162 ∧ vp_in (z.2 6 v5.toNatClampNeg) 162 ∧ vp_in v5 162 ∧ ((((zs_a z 2 (z.2 6 v5.toNatClampNeg) v1).2 7 v5.toNatClampNeg) = 0 → zw_Mo_lay_167 post k121 v1 v3 v5 (zs_a z 2 (z.2 6 v5.toNatClampNeg) v1)) ∧ (¬ ((zs_a z 2 (z.2 6 v5.toNatClampNeg) v1).2 7 v5.toNatClampNeg) = 0 → vp_in v5 162 ∧ (zw_Mo_placeOf ((zs_a z 2 (z.2 6 v5.toNatClampNeg) v1).2 6 v5.toNatClampNeg) (zs_a z 2 (z.2 6 v5.toNatClampNeg) v1) (fun r83 z83 => vp_in r83 81 ∧ zw_Mo_lay_167 post k121 v1 v3 v5 (zs_a z83 3 r83 (vp_nar .boolean (1 : Int32)))))))))
set_option maxHeartbeats 4000000 in
set_option maxRecDepth 100000 in
theorem zt_Mo_lay_121 {x : zC} {w : zW} {g : zS} {o : Nat → Int64} {post : zS → Prop} (hG : zq_G x w "GridRouterModel" zc_Mo_lay 6 (zq_rm 6 144)) (hR : zq_R x w (zq_A w) none (zq_Nv g o post)) (hAp : zq_Ap w) (hW : zq_Wr x w) {v1 v3 v5 : Int32} {z : zS} (h : zq_Lp (zw_Mo_lay_121 post) (v1, v3, v5, z)) : zq_W x w 0 0 (g, z, o) 121 [some (.ref (w.2.1 28)), some (.int v1), none, some (.int v3), none, some (.int v5)] [] := by
  refine zq_Lp_W (WW := fun b => zq_W x w 0 0 (g, b.2.2.2, o) 121 [some (.ref (w.2.1 28)), some (.int (b.1)), none, some (.int (b.2.1)), none, some (.int (b.2.2.1))] []) (fun k121 hk121 b h => ?_) h
  obtain ⟨v1, v3, v5, z⟩ := b
  show zq_W x w 0 0 (g, z, o) 121 [some (.ref (w.2.1 28)), some (.int v1), none, some (.int v3), none, some (.int v5)] []
  refine zr_iload hG zd_Mo_lay_121 rfl ?_
  refine zr_iload_n hG zd_Mo_lay_123 rfl rfl ?_
  refine zr_icmp_gt hG 173 zd_Mo_lay_124 (by decide) (fun hc => ?_) (fun hc => ?_)
  · have h := h.1 hc
    exact zr_vret hG hR zd_Mo_lay_173 ⟨_, rfl, rfl, h⟩
  · have h := h.2 hc
    refine zr_aload_n hG zd_Mo_lay_127 rfl rfl ?_
    refine zf_Mo_owner hG tk_770 zd_Mo_lay_128 ?_
    refine zr_aload_n hG zd_Mo_lay_131 rfl rfl ?_
    refine zf_Mo_way hG tk_774 zd_Mo_lay_132 ?_
    refine zr_iload hG zd_Mo_lay_135 rfl ?_
    obtain ⟨hi, h⟩ := h
    refine zl_35 hG hi zd_Mo_lay_137 ?_
    refine zr_iload_n hG zd_Mo_lay_138 rfl rfl ?_
    obtain ⟨hi, h⟩ := h
    refine zu_31 hG hW hi zd_Mo_lay_139 ?_
    refine zr_aload_n hG zd_Mo_lay_140 rfl rfl ?_
    refine zf_Mo_climbs hG tk_775 zd_Mo_lay_141 ?_
    refine zr_iload hG zd_Mo_lay_144 rfl ?_
    obtain ⟨hi, h⟩ := h
    refine zl_36 hG hi zd_Mo_lay_146 ?_
    refine zr_if_eq hG 167 zd_Mo_lay_147 (by decide) (fun hc => ?_) (fun hc => ?_)
    · have h := h.1 hc
      exact zt_Mo_lay_167 hG hR hAp hW hk121 h
    · have h := h.2 hc
      refine zr_aload_n hG zd_Mo_lay_150 rfl rfl ?_
      refine zf_Mo_vias hG tk_771 zd_Mo_lay_151 ?_
      refine zr_aload_n hG zd_Mo_lay_154 rfl rfl ?_
      refine zr_aload_n hG zd_Mo_lay_155 rfl rfl ?_
      refine zf_Mo_way hG tk_774 zd_Mo_lay_156 ?_
      refine zr_iload hG zd_Mo_lay_159 rfl ?_
      obtain ⟨hi, h⟩ := h
      refine zl_35 hG hi zd_Mo_lay_161 ?_
      refine zr_callV hG zq_F0 (As := [.int ((zs_a z 2 (z.2 6 v5.toNatClampNeg) v1).2 6 v5.toNatClampNeg)]) (rest := [.ref (w.2.1 32)]) (zm_Mo_placeOf (zc_l x) w hAp g o h) 28 rfl rfl rfl zg_Mo_90 zdd_Mo_placeOf ⟨rfl, rfl, by decide, by decide⟩ ⟨by decide, by decide⟩ rfl (Nat.le_of_ble_eq_true rfl) zd_Mo_lay_162 rfl ?_
      rintro _ _ ⟨r83, z83, rfl, rfl, h⟩
      refine zr_iconst hG (v := (1 : Int32)) zd_Mo_lay_165 (by decide) ?_
      obtain ⟨hi, h⟩ := h
      refine zu_32 hG hW hi zd_Mo_lay_166 ?_
      exact zt_Mo_lay_167 hG hR hAp hW hk121 h
def zw_Mo_lay_118 (post : zS → Prop) (v1 v3 : Int32) (z : zS) : Prop := zq_Lp (zw_Mo_lay_121 post) (v1, v3, (0 : Int32), z)
set_option maxHeartbeats 4000000 in
set_option maxRecDepth 100000 in
theorem zt_Mo_lay_118 {x : zC} {w : zW} {g : zS} {o : Nat → Int64} {post : zS → Prop} (hG : zq_G x w "GridRouterModel" zc_Mo_lay 6 (zq_rm 6 144)) (hR : zq_R x w (zq_A w) none (zq_Nv g o post)) (hAp : zq_Ap w) (hW : zq_Wr x w) {v1 v3 : Int32} {z : zS} (h : zw_Mo_lay_118 post v1 v3 z) : zq_W x w 0 0 (g, z, o) 118 [some (.ref (w.2.1 28)), some (.int v1), none, some (.int v3), none, none] [] := by
  refine zr_iconst hG (v := (0 : Int32)) zd_Mo_lay_118 (by decide) ?_
  refine zr_istore hG [some (.ref (w.2.1 28)), some (.int v1), none, some (.int v3), none, some (.int (0 : Int32))] zd_Mo_lay_119 (Nat.le_of_ble_eq_true rfl) rfl ?_
  exact zt_Mo_lay_121 hG hR hAp hW h
def zw_Mo_lay_90 (post : zS → Prop) (k90 : Int32 × Int32 × Int32 × Int32 × zS → Prop) : Int32 × Int32 × Int32 × Int32 × zS → Prop := fun b => match b with
  | (v1, v2, v3, v5, z) => ((v3 < v5 → zw_Mo_lay_118 post v1 v3 z) ∧ (¬ v3 < v5 → ((v2 = 0 → zw_Mo_lay_118 post v1 v3 z) ∧ (¬ v2 = 0 → vp_in v5 162 ∧ (zw_Mo_pushOut (z.2 6 v5.toNatClampNeg) v1 z (fun z82 => k90 (v1, v2, v3, (v5 + (1 : Int32)), z82)))))))
set_option maxHeartbeats 4000000 in
set_option maxRecDepth 100000 in
theorem zt_Mo_lay_90 {x : zC} {w : zW} {g : zS} {o : Nat → Int64} {post : zS → Prop} (hG : zq_G x w "GridRouterModel" zc_Mo_lay 6 (zq_rm 6 144)) (hR : zq_R x w (zq_A w) none (zq_Nv g o post)) (hAp : zq_Ap w) (hW : zq_Wr x w) {v1 v2 v3 v5 : Int32} {z : zS} (h : zq_Lp (zw_Mo_lay_90 post) (v1, v2, v3, v5, z)) : zq_W x w 0 0 (g, z, o) 90 [some (.ref (w.2.1 28)), some (.int v1), some (.int v2), some (.int v3), none, some (.int v5)] [] := by
  refine zq_Lp_W (WW := fun b => zq_W x w 0 0 (g, b.2.2.2.2, o) 90 [some (.ref (w.2.1 28)), some (.int (b.1)), some (.int (b.2.1)), some (.int (b.2.2.1)), none, some (.int (b.2.2.2.1))] []) (fun k90 hk90 b h => ?_) h
  obtain ⟨v1, v2, v3, v5, z⟩ := b
  show zq_W x w 0 0 (g, z, o) 90 [some (.ref (w.2.1 28)), some (.int v1), some (.int v2), some (.int v3), none, some (.int v5)] []
  refine zr_iload hG zd_Mo_lay_90 rfl ?_
  refine zr_iload_n hG zd_Mo_lay_92 rfl rfl ?_
  refine zr_icmp_gt hG 118 zd_Mo_lay_93 (by decide) (fun hc => ?_) (fun hc => ?_)
  · have h := h.1 hc
    exact zr_mask [true, true, false, true, false, false] (zt_Mo_lay_118 hG hR hAp hW h)
  · have h := h.2 hc
    refine zr_iload_n hG zd_Mo_lay_96 rfl rfl ?_
    refine zr_if_eq hG 118 zd_Mo_lay_97 (by decide) (fun hc => ?_) (fun hc => ?_)
    · have h := h.1 hc
      exact zr_mask [true, true, false, true, false, false] (zt_Mo_lay_118 hG hR hAp hW h)
    · have h := h.2 hc
      refine zr_aload_n hG zd_Mo_lay_100 rfl rfl ?_
      refine zr_aload_n hG zd_Mo_lay_101 rfl rfl ?_
      refine zf_Mo_way hG tk_774 zd_Mo_lay_102 ?_
      refine zr_iload hG zd_Mo_lay_105 rfl ?_
      obtain ⟨hi, h⟩ := h
      refine zl_35 hG hi zd_Mo_lay_107 ?_
      refine zr_iload_n hG zd_Mo_lay_108 rfl rfl ?_
      refine zr_callV hG (zq_F1 hW) (As := [.int (z.2 6 v5.toNatClampNeg), .int v1]) (rest := []) (zm_Mo_pushOut (zc_l x) w hAp g o h) 28 rfl rfl rfl zg_Mo_101 zdd_Mo_pushOut ⟨rfl, rfl, by decide, by decide⟩ ⟨by decide, by decide⟩ rfl (Nat.le_of_ble_eq_true rfl) zd_Mo_lay_109 rfl ?_
      rintro _ _ ⟨z82, rfl, rfl, h⟩
      refine zr_iinc hG (u := (1 : Int32)) [some (.ref (w.2.1 28)), some (.int v1), some (.int v2), some (.int v3), none, some (.int (v5 + (1 : Int32)))] zd_Mo_lay_112 rfl (by decide) (Nat.le_of_ble_eq_true rfl) rfl ?_
      refine zr_goto hG 90 zd_Mo_lay_115 (by decide) ?_
      have h := hk90 _ h
      exact h
def zw_Mo_lay_55 (post : zS → Prop) (k10 : Int32 × Int32 × Int32 × Int32 × zS → Prop) (v1 v2 v3 v4 v5 u0 u1 : Int32) (z : zS) : Prop := vp_in u1 162 ∧ (zw_Mo_side v4 v5 (zs_a z 7 u1 (vp_nar .boolean u0)) (fun r81 z81 => k10 (v1, v2, (v3 + (1 : Int32)), r81, z81)))
set_option maxHeartbeats 4000000 in
set_option maxRecDepth 100000 in
theorem zt_Mo_lay_55 {x : zC} {w : zW} {g : zS} {o : Nat → Int64} {post : zS → Prop} (hG : zq_G x w "GridRouterModel" zc_Mo_lay 6 (zq_rm 6 144)) (hR : zq_R x w (zq_A w) none (zq_Nv g o post)) (hAp : zq_Ap w) (hW : zq_Wr x w) {k10 : Int32 × Int32 × Int32 × Int32 × zS → Prop} (hk10 : ∀ b : Int32 × Int32 × Int32 × Int32 × zS, k10 b → zq_W x w 0 0 (g, b.2.2.2.2, o) 10 [some (.ref (w.2.1 28)), some (.int (b.1)), some (.int (b.2.1)), some (.int (b.2.2.1)), some (.int (b.2.2.2.1)), none] []) {v1 v2 v3 v4 v5 u0 u1 : Int32} {z : zS} (h : zw_Mo_lay_55 post k10 v1 v2 v3 v4 v5 u0 u1 z) : zq_W x w 0 0 (g, z, o) 55 [some (.ref (w.2.1 28)), some (.int v1), some (.int v2), some (.int v3), some (.int v4), some (.int v5)] [.int u0, .int u1, .ref (w.2.1 36)] := by
  obtain ⟨hi, h⟩ := h
  refine zu_36 hG hW hi zd_Mo_lay_55 ?_
  refine zr_iinc hG (u := (1 : Int32)) [some (.ref (w.2.1 28)), some (.int v1), some (.int v2), some (.int (v3 + (1 : Int32))), some (.int v4), some (.int v5)] zd_Mo_lay_56 rfl (by decide) (Nat.le_of_ble_eq_true rfl) rfl ?_
  refine zr_aload_n hG zd_Mo_lay_59 rfl rfl ?_
  refine zr_iload hG zd_Mo_lay_60 rfl ?_
  refine zr_iload hG zd_Mo_lay_62 rfl ?_
  refine zr_callV hG zq_F0 (As := [.int v4, .int v5]) (rest := []) (zm_Mo_side (zc_l x) w hAp g o h) 28 rfl rfl rfl zg_Mo_72 zdd_Mo_side ⟨rfl, rfl, by decide, by decide⟩ ⟨by decide, by decide⟩ rfl (Nat.le_of_ble_eq_true rfl) zd_Mo_lay_64 rfl ?_
  rintro _ _ ⟨r81, z81, rfl, rfl, h⟩
  refine zr_istore hG [some (.ref (w.2.1 28)), some (.int v1), some (.int v2), some (.int (v3 + (1 : Int32))), some (.int r81), some (.int v5)] zd_Mo_lay_67 (Nat.le_of_ble_eq_true rfl) rfl ?_
  refine zr_goto hG 10 zd_Mo_lay_69 (by decide) ?_
  have h := hk10 _ h
  exact zr_mask [true, true, true, true, true, false] (h)
def zw_Mo_lay_10 (post : zS → Prop) (k10 : Int32 × Int32 × Int32 × Int32 × zS → Prop) : Int32 × Int32 × Int32 × Int32 × zS → Prop := fun b => match b with
  | (v1, v2, v3, v4, z) => vp_in v1 6 ∧ ((v4 = (z.2 8 v1.toNatClampNeg) → vp_in v3 162 ∧ vp_in v3 162 ∧ zq_Lp (zw_Mo_lay_90 post) (v1, v2, v3, (0 : Int32), (zs_a (zs_a z 6 v3 v4) 7 v3 (vp_nar .boolean (0 : Int32))))) ∧ (¬ v4 = (z.2 8 v1.toNatClampNeg) → (zw_Mo_before v4 v1 v2 z (fun r80 z80 => vp_in v3 162 ∧ ((¬ r80 = (4 : Int32) → zw_Mo_lay_55 post k10 v1 v2 v3 v4 r80 (0 : Int32) v3 (zs_a z80 6 v3 v4)) ∧ (r80 = (4 : Int32) → zw_Mo_lay_55 post k10 v1 v2 v3 v4 r80 (1 : Int32) v3 (zs_a z80 6 v3 v4)))))))
set_option maxHeartbeats 4000000 in
set_option maxRecDepth 100000 in
theorem zt_Mo_lay_10 {x : zC} {w : zW} {g : zS} {o : Nat → Int64} {post : zS → Prop} (hG : zq_G x w "GridRouterModel" zc_Mo_lay 6 (zq_rm 6 144)) (hR : zq_R x w (zq_A w) none (zq_Nv g o post)) (hAp : zq_Ap w) (hW : zq_Wr x w) {v1 v2 v3 v4 : Int32} {z : zS} (h : zq_Lp (zw_Mo_lay_10 post) (v1, v2, v3, v4, z)) : zq_W x w 0 0 (g, z, o) 10 [some (.ref (w.2.1 28)), some (.int v1), some (.int v2), some (.int v3), some (.int v4), none] [] := by
  refine zq_Lp_W (WW := fun b => zq_W x w 0 0 (g, b.2.2.2.2, o) 10 [some (.ref (w.2.1 28)), some (.int (b.1)), some (.int (b.2.1)), some (.int (b.2.2.1)), some (.int (b.2.2.2.1)), none] []) (fun k10 hk10 b h => ?_) h
  obtain ⟨v1, v2, v3, v4, z⟩ := b
  show zq_W x w 0 0 (g, z, o) 10 [some (.ref (w.2.1 28)), some (.int v1), some (.int v2), some (.int v3), some (.int v4), none] []
  refine zr_iload hG zd_Mo_lay_10 rfl ?_
  refine zr_aload_n hG zd_Mo_lay_12 rfl rfl ?_
  refine zf_Mo_first hG tk_777 zd_Mo_lay_13 ?_
  refine zr_iload_n hG zd_Mo_lay_16 rfl rfl ?_
  obtain ⟨hi, h⟩ := h
  refine zl_37 hG hi zd_Mo_lay_17 ?_
  refine zr_icmp_eq hG 72 zd_Mo_lay_18 (by decide) (fun hc => ?_) (fun hc => ?_)
  · have h := h.1 hc
    refine zr_aload_n hG zd_Mo_lay_72 rfl rfl ?_
    refine zf_Mo_way hG tk_774 zd_Mo_lay_73 ?_
    refine zr_iload_n hG zd_Mo_lay_76 rfl rfl ?_
    refine zr_iload hG zd_Mo_lay_77 rfl ?_
    obtain ⟨hi, h⟩ := h
    refine zu_35 hG hW hi zd_Mo_lay_79 ?_
    refine zr_aload_n hG zd_Mo_lay_80 rfl rfl ?_
    refine zf_Mo_climbs hG tk_775 zd_Mo_lay_81 ?_
    refine zr_iload_n hG zd_Mo_lay_84 rfl rfl ?_
    refine zr_iconst hG (v := (0 : Int32)) zd_Mo_lay_85 (by decide) ?_
    obtain ⟨hi, h⟩ := h
    refine zu_36 hG hW hi zd_Mo_lay_86 ?_
    refine zr_iconst hG (v := (0 : Int32)) zd_Mo_lay_87 (by decide) ?_
    refine zr_istore hG [some (.ref (w.2.1 28)), some (.int v1), some (.int v2), some (.int v3), some (.int v4), some (.int (0 : Int32))] zd_Mo_lay_88 (Nat.le_of_ble_eq_true rfl) rfl ?_
    exact zr_mask [true, true, true, true, false, true] (zt_Mo_lay_90 hG hR hAp hW h)
  · have h := h.2 hc
    refine zr_aload_n hG zd_Mo_lay_21 rfl rfl ?_
    refine zr_iload hG zd_Mo_lay_22 rfl ?_
    refine zr_iload_n hG zd_Mo_lay_24 rfl rfl ?_
    refine zr_iload_n hG zd_Mo_lay_25 rfl rfl ?_
    refine zr_callV hG zq_F0 (As := [.int v4, .int v1, .int v2]) (rest := []) (zm_Mo_before (zc_l x) w hAp g o h) 28 rfl rfl rfl zg_Mo_98 zdd_Mo_before ⟨rfl, rfl, by decide, by decide⟩ ⟨by decide, by decide⟩ rfl (Nat.le_of_ble_eq_true rfl) zd_Mo_lay_26 rfl ?_
    rintro _ _ ⟨r80, z80, rfl, rfl, h⟩
    refine zr_istore hG [some (.ref (w.2.1 28)), some (.int v1), some (.int v2), some (.int v3), some (.int v4), some (.int r80)] zd_Mo_lay_29 (Nat.le_of_ble_eq_true rfl) rfl ?_
    refine zr_aload_n hG zd_Mo_lay_31 rfl rfl ?_
    refine zf_Mo_way hG tk_774 zd_Mo_lay_32 ?_
    refine zr_iload_n hG zd_Mo_lay_35 rfl rfl ?_
    refine zr_iload hG zd_Mo_lay_36 rfl ?_
    obtain ⟨hi, h⟩ := h
    refine zu_35 hG hW hi zd_Mo_lay_38 ?_
    refine zr_aload_n hG zd_Mo_lay_39 rfl rfl ?_
    refine zf_Mo_climbs hG tk_775 zd_Mo_lay_40 ?_
    refine zr_iload_n hG zd_Mo_lay_43 rfl rfl ?_
    refine zr_iload hG zd_Mo_lay_44 rfl ?_
    refine zr_iconst hG (v := (4 : Int32)) zd_Mo_lay_46 (by decide) ?_
    refine zr_icmp_ne hG 54 zd_Mo_lay_47 (by decide) (fun hc => ?_) (fun hc => ?_)
    · have h := h.1 hc
      refine zr_iconst hG (v := (0 : Int32)) zd_Mo_lay_54 (by decide) ?_
      exact zt_Mo_lay_55 hG hR hAp hW hk10 h
    · have h := h.2 hc
      refine zr_iconst hG (v := (1 : Int32)) zd_Mo_lay_50 (by decide) ?_
      refine zr_goto hG 55 zd_Mo_lay_51 (by decide) ?_
      exact zt_Mo_lay_55 hG hR hAp hW hk10 h
def zw_Mo_lay (a1 a2 : Int32) (z : zS) (post : zS → Prop) : Prop := vp_in a1 6 ∧ zq_Lp (zw_Mo_lay_10 post) (a1, a2, (0 : Int32), (z.2 9 a1.toNatClampNeg), z)
set_option maxHeartbeats 4000000 in
set_option maxRecDepth 100000 in
theorem zm_Mo_lay (l : Launch) (w : zW) (hAp : zq_Ap w) (g : zS) (o : Nat → Int64) {a1 a2 : Int32} {z : zS} {post : zS → Prop} (h : zw_Mo_lay a1 a2 z post) : zq_M l w (zq_A w) zy_Mo_lay zc_Mo_lay 6 none (zq_rm 6 144) [.ref (w.2.1 28), .int a1, .int a2] (g, z, o) (zq_Nv g o post) := by
  refine zq_mk_M (by decide) (by simp [Value.category]) (Nat.le_of_ble_eq_true rfl) hAp (fun x hx hG hR => ?_)
  subst hx
  have hW := zq_wr hR.2.2.1
  refine zr_iconst hG (v := (0 : Int32)) zd_Mo_lay_0 (by decide) ?_
  refine zr_istore_n hG [some (.ref (w.2.1 28)), some (.int a1), some (.int a2), some (.int (0 : Int32)), none, none] zd_Mo_lay_1 rfl (Nat.le_of_ble_eq_true rfl) rfl ?_
  refine zr_aload_n hG zd_Mo_lay_2 rfl rfl ?_
  refine zf_Mo_second hG tk_778 zd_Mo_lay_3 ?_
  refine zr_iload_n hG zd_Mo_lay_6 rfl rfl ?_
  obtain ⟨hi, h⟩ := h
  refine zl_38 hG hi zd_Mo_lay_7 ?_
  refine zr_istore hG [some (.ref (w.2.1 28)), some (.int a1), some (.int a2), some (.int (0 : Int32)), some (.int (z.2 9 a1.toNatClampNeg)), none] zd_Mo_lay_8 (Nat.le_of_ble_eq_true rfl) rfl ?_
  exact zt_Mo_lay_10 hG hR hAp hW h
def zw_Mo_find (a1 a2 : Int32) (z : zS) (post : Int32 → zS → Prop) : Prop := (zw_Mo_clear a1 z (fun z89 => (zw_Mo_weigh a1 a2 z89 (fun z90 => vp_in a1 6 ∧ vp_in (z90.2 9 a1.toNatClampNeg) 162 ∧ (((z90.2 4 (z90.2 9 a1.toNatClampNeg).toNatClampNeg) < (1000000 : Int32) → (zw_Mo_lay a1 a2 z90 (fun z91 => post (z90.2 4 (z90.2 9 a1.toNatClampNeg).toNatClampNeg) z91))) ∧ (¬ (z90.2 4 (z90.2 9 a1.toNatClampNeg).toNatClampNeg) < (1000000 : Int32) → post (-1 : Int32) z90))))))
set_option maxHeartbeats 4000000 in
set_option maxRecDepth 100000 in
theorem zm_Mo_find (l : Launch) (w : zW) (hAp : zq_Ap w) (g : zS) (o : Nat → Int64) {a1 a2 : Int32} {z : zS} {post : Int32 → zS → Prop} (h : zw_Mo_find a1 a2 z post) : zq_M l w (zq_A w) zy_Mo_find zc_Mo_find 4 (some .int) (zq_rm 7 169) [.ref (w.2.1 28), .int a1, .int a2] (g, z, o) (zq_Ni g o post) := by
  refine zq_mk_M (by decide) (by simp [Value.category]) (Nat.le_of_ble_eq_true rfl) hAp (fun x hx hG hR => ?_)
  subst hx
  have hW := zq_wr hR.2.2.1
  have h : (zw_Mo_clear a1 z (fun z89 => (zw_Mo_weigh a1 a2 z89 (fun z90 => vp_in a1 6 ∧ vp_in (z90.2 9 a1.toNatClampNeg) 162 ∧ (((z90.2 4 (z90.2 9 a1.toNatClampNeg).toNatClampNeg) < (1000000 : Int32) → (zw_Mo_lay a1 a2 z90 (fun z91 => post (z90.2 4 (z90.2 9 a1.toNatClampNeg).toNatClampNeg) z91))) ∧ (¬ (z90.2 4 (z90.2 9 a1.toNatClampNeg).toNatClampNeg) < (1000000 : Int32) → post (-1 : Int32) z90)))))) := h
  refine zr_aload_n hG zd_Mo_find_0 rfl rfl ?_
  refine zr_iload_n hG zd_Mo_find_1 rfl rfl ?_
  refine zr_callV hG (zq_F1 hW) (As := [.int a1]) (rest := []) (zm_Mo_clear (zc_l x) w hAp g o h) 28 rfl rfl rfl zg_Mo_108 zdd_Mo_clear ⟨rfl, rfl, by decide, by decide⟩ ⟨by decide, by decide⟩ rfl (Nat.le_of_ble_eq_true rfl) zd_Mo_find_2 rfl ?_
  rintro _ _ ⟨z89, rfl, rfl, h⟩
  refine zr_aload_n hG zd_Mo_find_5 rfl rfl ?_
  refine zr_iload_n hG zd_Mo_find_6 rfl rfl ?_
  refine zr_iload_n hG zd_Mo_find_7 rfl rfl ?_
  refine zr_callV hG (zq_F1 hW) (As := [.int a1, .int a2]) (rest := []) (zm_Mo_weigh (zc_l x) w hAp g o h) 28 rfl rfl rfl zg_Mo_115 zdd_Mo_weigh ⟨rfl, rfl, by decide, by decide⟩ ⟨by decide, by decide⟩ rfl (Nat.le_of_ble_eq_true rfl) zd_Mo_find_8 rfl ?_
  rintro _ _ ⟨z90, rfl, rfl, h⟩
  refine zr_aload_n hG zd_Mo_find_11 rfl rfl ?_
  refine zf_Mo_cost hG tk_772 zd_Mo_find_12 ?_
  refine zr_aload_n hG zd_Mo_find_15 rfl rfl ?_
  refine zf_Mo_second hG tk_778 zd_Mo_find_16 ?_
  refine zr_iload_n hG zd_Mo_find_19 rfl rfl ?_
  obtain ⟨hi, h⟩ := h
  refine zl_38 hG hi zd_Mo_find_20 ?_
  obtain ⟨hi, h⟩ := h
  refine zl_33 hG hi zd_Mo_find_21 ?_
  refine zr_istore_n hG [some (.ref (w.2.1 28)), some (.int a1), some (.int a2), some (.int (z90.2 4 (z90.2 9 a1.toNatClampNeg).toNatClampNeg))] zd_Mo_find_22 rfl (Nat.le_of_ble_eq_true rfl) rfl ?_
  refine zr_iload_n hG zd_Mo_find_23 rfl rfl ?_
  refine zr_ldc hG (v := 1000000) tk_880 zd_Mo_find_24 ?_
  refine zr_icmp_lt hG 31 zd_Mo_find_26 (by decide) (fun hc => ?_) (fun hc => ?_)
  · have h := h.1 hc
    refine zr_aload_n hG zd_Mo_find_31 rfl rfl ?_
    refine zr_iload_n hG zd_Mo_find_32 rfl rfl ?_
    refine zr_iload_n hG zd_Mo_find_33 rfl rfl ?_
    refine zr_callV hG (zq_F1 hW) (As := [.int a1, .int a2]) (rest := []) (zm_Mo_lay (zc_l x) w hAp g o h) 28 rfl rfl rfl zg_Mo_119 zdd_Mo_lay ⟨rfl, rfl, by decide, by decide⟩ ⟨by decide, by decide⟩ rfl (Nat.le_of_ble_eq_true rfl) zd_Mo_find_34 rfl ?_
    rintro _ _ ⟨z91, rfl, rfl, h⟩
    refine zr_iload_n hG zd_Mo_find_37 rfl rfl ?_
    exact zr_iret hG hR zd_Mo_find_38 ⟨_, _, rfl, rfl, h⟩
  · have h := h.2 hc
    refine zr_iconst hG (v := (-1 : Int32)) zd_Mo_find_29 (by decide) ?_
    exact zr_iret hG hR zd_Mo_find_30 ⟨_, _, rfl, rfl, h⟩
def zw_Mo_route_34 (post : Int32 → zS → Prop) (u0 : Int32) (z : zS) : Prop := post u0 z
set_option maxHeartbeats 4000000 in
set_option maxRecDepth 100000 in
theorem zt_Mo_route_34 {x : zC} {w : zW} {g : zS} {o : Nat → Int64} {post : Int32 → zS → Prop} (hG : zq_G x w "GridRouterModel" zc_Mo_route 2 (zq_rm 8 192)) (hR : zq_R x w (zq_A w) (some .int) (zq_Ni g o post)) (hAp : zq_Ap w) (hW : zq_Wr x w) {u0 : Int32} {z : zS} (h : zw_Mo_route_34 post u0 z) : zq_W x w 0 0 (g, z, o) 34 [none, none] [.int u0] := by
  exact zr_iret hG hR zd_Mo_route_34 ⟨_, _, rfl, rfl, h⟩
def zw_Mo_route_14 (post : Int32 → zS → Prop) (v1 u0 : Int32) (z : zS) : Prop := ((¬ ((zs_s z 4 u0).1 4) = 0 → zw_Mo_route_34 post (0 : Int32) (zs_s z 4 u0)) ∧ (((zs_s z 4 u0).1 4) = 0 → (zw_Mo_find v1 (0 : Int32) (zs_s z 4 u0) (fun r92 z92 => zw_Mo_route_34 post r92 z92))))
set_option maxHeartbeats 4000000 in
set_option maxRecDepth 100000 in
theorem zt_Mo_route_14 {x : zC} {w : zW} {g : zS} {o : Nat → Int64} {post : Int32 → zS → Prop} (hG : zq_G x w "GridRouterModel" zc_Mo_route 2 (zq_rm 8 192)) (hR : zq_R x w (zq_A w) (some .int) (zq_Ni g o post)) (hAp : zq_Ap w) (hW : zq_Wr x w) {v1 u0 : Int32} {z : zS} (h : zw_Mo_route_14 post v1 u0 z) : zq_W x w 0 0 (g, z, o) 14 [some (.ref (w.2.1 28)), some (.int v1)] [.int u0, .ref (w.2.1 28)] := by
  refine zp_Mo_code hG hW tk_767 zd_Mo_route_14 ?_
  refine zr_aload_n hG zd_Mo_route_17 rfl rfl ?_
  refine zf_Mo_code hG tk_767 zd_Mo_route_18 ?_
  refine zr_if_ne hG 33 zd_Mo_route_21 (by decide) (fun hc => ?_) (fun hc => ?_)
  · have h := h.1 hc
    refine zr_iconst hG (v := (0 : Int32)) zd_Mo_route_33 (by decide) ?_
    exact zr_mask [false, false] (zt_Mo_route_34 hG hR hAp hW h)
  · have h := h.2 hc
    refine zr_aload_n hG zd_Mo_route_24 rfl rfl ?_
    refine zr_iload_n hG zd_Mo_route_25 rfl rfl ?_
    refine zr_iconst hG (v := (0 : Int32)) zd_Mo_route_26 (by decide) ?_
    refine zr_callV hG (zq_F1 hW) (As := [.int v1, .int (0 : Int32)]) (rest := []) (zm_Mo_find (zc_l x) w hAp g o h) 28 rfl rfl rfl zg_Mo_126 zdd_Mo_find ⟨rfl, rfl, by decide, by decide⟩ ⟨by decide, by decide⟩ rfl (Nat.le_of_ble_eq_true rfl) zd_Mo_route_27 rfl ?_
    rintro _ _ ⟨r92, z92, rfl, rfl, h⟩
    refine zr_goto hG 34 zd_Mo_route_30 (by decide) ?_
    exact zr_mask [false, false] (zt_Mo_route_34 hG hR hAp hW h)
def zw_Mo_route (a1 : Int32) (z : zS) (post : Int32 → zS → Prop) : Prop := (zw_Mo_isNet a1 z (fun r93 z93 => ((r93 = 0 → zw_Mo_route_14 post a1 (1 : Int32) z93) ∧ (¬ r93 = 0 → zw_Mo_route_14 post a1 (0 : Int32) z93))))
set_option maxHeartbeats 4000000 in
set_option maxRecDepth 100000 in
theorem zm_Mo_route (l : Launch) (w : zW) (hAp : zq_Ap w) (g : zS) (o : Nat → Int64) {a1 : Int32} {z : zS} {post : Int32 → zS → Prop} (h : zw_Mo_route a1 z post) : zq_M l w (zq_A w) zy_Mo_route zc_Mo_route 2 (some .int) (zq_rm 8 192) [.ref (w.2.1 28), .int a1] (g, z, o) (zq_Ni g o post) := by
  refine zq_mk_M (by decide) (by simp [Value.category]) (Nat.le_of_ble_eq_true rfl) hAp (fun x hx hG hR => ?_)
  subst hx
  have hW := zq_wr hR.2.2.1
  have h : (zw_Mo_isNet a1 z (fun r93 z93 => ((r93 = 0 → zw_Mo_route_14 post a1 (1 : Int32) z93) ∧ (¬ r93 = 0 → zw_Mo_route_14 post a1 (0 : Int32) z93)))) := h
  refine zr_aload_n hG zd_Mo_route_0 rfl rfl ?_
  refine zr_aload_n hG zd_Mo_route_1 rfl rfl ?_
  refine zr_iload_n hG zd_Mo_route_2 rfl rfl ?_
  refine zr_callV hG zq_F0 (As := [.int a1]) (rest := [.ref (w.2.1 28)]) (zm_Mo_isNet (zc_l x) w hAp g o h) 28 rfl rfl rfl zg_Mo_122 zdd_Mo_isNet ⟨rfl, rfl, by decide, by decide⟩ ⟨by decide, by decide⟩ rfl (Nat.le_of_ble_eq_true rfl) zd_Mo_route_3 rfl ?_
  rintro _ _ ⟨r93, z93, rfl, rfl, h⟩
  refine zr_if_eq hG 13 zd_Mo_route_6 (by decide) (fun hc => ?_) (fun hc => ?_)
  · have h := h.1 hc
    refine zr_iconst hG (v := (1 : Int32)) zd_Mo_route_13 (by decide) ?_
    exact zt_Mo_route_14 hG hR hAp hW h
  · have h := h.2 hc
    refine zr_iconst hG (v := (0 : Int32)) zd_Mo_route_9 (by decide) ?_
    refine zr_goto hG 14 zd_Mo_route_10 (by decide) ?_
    exact zt_Mo_route_14 hG hR hAp hW h
def zw_Mo_push_34 (post : Int32 → zS → Prop) (u0 : Int32) (z : zS) : Prop := post u0 z
set_option maxHeartbeats 4000000 in
set_option maxRecDepth 100000 in
theorem zt_Mo_push_34 {x : zC} {w : zW} {g : zS} {o : Nat → Int64} {post : Int32 → zS → Prop} (hG : zq_G x w "GridRouterModel" zc_Mo_push 2 (zq_rm 8 192)) (hR : zq_R x w (zq_A w) (some .int) (zq_Ni g o post)) (hAp : zq_Ap w) (hW : zq_Wr x w) {u0 : Int32} {z : zS} (h : zw_Mo_push_34 post u0 z) : zq_W x w 0 0 (g, z, o) 34 [none, none] [.int u0] := by
  exact zr_iret hG hR zd_Mo_push_34 ⟨_, _, rfl, rfl, h⟩
def zw_Mo_push_14 (post : Int32 → zS → Prop) (v1 u0 : Int32) (z : zS) : Prop := ((¬ ((zs_s z 4 u0).1 4) = 0 → zw_Mo_push_34 post (0 : Int32) (zs_s z 4 u0)) ∧ (((zs_s z 4 u0).1 4) = 0 → (zw_Mo_find v1 (1 : Int32) (zs_s z 4 u0) (fun r94 z94 => zw_Mo_push_34 post r94 z94))))
set_option maxHeartbeats 4000000 in
set_option maxRecDepth 100000 in
theorem zt_Mo_push_14 {x : zC} {w : zW} {g : zS} {o : Nat → Int64} {post : Int32 → zS → Prop} (hG : zq_G x w "GridRouterModel" zc_Mo_push 2 (zq_rm 8 192)) (hR : zq_R x w (zq_A w) (some .int) (zq_Ni g o post)) (hAp : zq_Ap w) (hW : zq_Wr x w) {v1 u0 : Int32} {z : zS} (h : zw_Mo_push_14 post v1 u0 z) : zq_W x w 0 0 (g, z, o) 14 [some (.ref (w.2.1 28)), some (.int v1)] [.int u0, .ref (w.2.1 28)] := by
  refine zp_Mo_code hG hW tk_767 zd_Mo_push_14 ?_
  refine zr_aload_n hG zd_Mo_push_17 rfl rfl ?_
  refine zf_Mo_code hG tk_767 zd_Mo_push_18 ?_
  refine zr_if_ne hG 33 zd_Mo_push_21 (by decide) (fun hc => ?_) (fun hc => ?_)
  · have h := h.1 hc
    refine zr_iconst hG (v := (0 : Int32)) zd_Mo_push_33 (by decide) ?_
    exact zr_mask [false, false] (zt_Mo_push_34 hG hR hAp hW h)
  · have h := h.2 hc
    refine zr_aload_n hG zd_Mo_push_24 rfl rfl ?_
    refine zr_iload_n hG zd_Mo_push_25 rfl rfl ?_
    refine zr_iconst hG (v := (1 : Int32)) zd_Mo_push_26 (by decide) ?_
    refine zr_callV hG (zq_F1 hW) (As := [.int v1, .int (1 : Int32)]) (rest := []) (zm_Mo_find (zc_l x) w hAp g o h) 28 rfl rfl rfl zg_Mo_126 zdd_Mo_find ⟨rfl, rfl, by decide, by decide⟩ ⟨by decide, by decide⟩ rfl (Nat.le_of_ble_eq_true rfl) zd_Mo_push_27 rfl ?_
    rintro _ _ ⟨r94, z94, rfl, rfl, h⟩
    refine zr_goto hG 34 zd_Mo_push_30 (by decide) ?_
    exact zr_mask [false, false] (zt_Mo_push_34 hG hR hAp hW h)
def zw_Mo_push (a1 : Int32) (z : zS) (post : Int32 → zS → Prop) : Prop := (zw_Mo_isNet a1 z (fun r95 z95 => ((r95 = 0 → zw_Mo_push_14 post a1 (1 : Int32) z95) ∧ (¬ r95 = 0 → zw_Mo_push_14 post a1 (0 : Int32) z95))))
set_option maxHeartbeats 4000000 in
set_option maxRecDepth 100000 in
theorem zm_Mo_push (l : Launch) (w : zW) (hAp : zq_Ap w) (g : zS) (o : Nat → Int64) {a1 : Int32} {z : zS} {post : Int32 → zS → Prop} (h : zw_Mo_push a1 z post) : zq_M l w (zq_A w) zy_Mo_push zc_Mo_push 2 (some .int) (zq_rm 8 192) [.ref (w.2.1 28), .int a1] (g, z, o) (zq_Ni g o post) := by
  refine zq_mk_M (by decide) (by simp [Value.category]) (Nat.le_of_ble_eq_true rfl) hAp (fun x hx hG hR => ?_)
  subst hx
  have hW := zq_wr hR.2.2.1
  have h : (zw_Mo_isNet a1 z (fun r95 z95 => ((r95 = 0 → zw_Mo_push_14 post a1 (1 : Int32) z95) ∧ (¬ r95 = 0 → zw_Mo_push_14 post a1 (0 : Int32) z95)))) := h
  refine zr_aload_n hG zd_Mo_push_0 rfl rfl ?_
  refine zr_aload_n hG zd_Mo_push_1 rfl rfl ?_
  refine zr_iload_n hG zd_Mo_push_2 rfl rfl ?_
  refine zr_callV hG zq_F0 (As := [.int a1]) (rest := [.ref (w.2.1 28)]) (zm_Mo_isNet (zc_l x) w hAp g o h) 28 rfl rfl rfl zg_Mo_122 zdd_Mo_isNet ⟨rfl, rfl, by decide, by decide⟩ ⟨by decide, by decide⟩ rfl (Nat.le_of_ble_eq_true rfl) zd_Mo_push_3 rfl ?_
  rintro _ _ ⟨r95, z95, rfl, rfl, h⟩
  refine zr_if_eq hG 13 zd_Mo_push_6 (by decide) (fun hc => ?_) (fun hc => ?_)
  · have h := h.1 hc
    refine zr_iconst hG (v := (1 : Int32)) zd_Mo_push_13 (by decide) ?_
    exact zt_Mo_push_14 hG hR hAp hW h
  · have h := h.2 hc
    refine zr_iconst hG (v := (0 : Int32)) zd_Mo_push_9 (by decide) ?_
    refine zr_goto hG 14 zd_Mo_push_10 (by decide) ?_
    exact zt_Mo_push_14 hG hR hAp hW h
def zw_Mo_rip_29 (post : zS → Prop) (z : zS) : Prop := post z
set_option maxHeartbeats 4000000 in
set_option maxRecDepth 100000 in
theorem zt_Mo_rip_29 {x : zC} {w : zW} {g : zS} {o : Nat → Int64} {post : zS → Prop} (hG : zq_G x w "GridRouterModel" zc_Mo_rip 2 (zq_rm 2 43)) (hR : zq_R x w (zq_A w) none (zq_Nv g o post)) (hAp : zq_Ap w) (hW : zq_Wr x w) {z : zS} (h : zw_Mo_rip_29 post z) : zq_W x w 0 0 (g, z, o) 29 [none, none] [] := by
  exact zr_vret hG hR zd_Mo_rip_29 ⟨_, rfl, rfl, h⟩
def zw_Mo_rip_14 (post : zS → Prop) (v1 u0 : Int32) (z : zS) : Prop := ((¬ ((zs_s z 4 u0).1 4) = 0 → zw_Mo_rip_29 post (zs_s z 4 u0)) ∧ (((zs_s z 4 u0).1 4) = 0 → (zw_Mo_clear v1 (zs_s z 4 u0) (fun z96 => zw_Mo_rip_29 post z96))))
set_option maxHeartbeats 4000000 in
set_option maxRecDepth 100000 in
theorem zt_Mo_rip_14 {x : zC} {w : zW} {g : zS} {o : Nat → Int64} {post : zS → Prop} (hG : zq_G x w "GridRouterModel" zc_Mo_rip 2 (zq_rm 2 43)) (hR : zq_R x w (zq_A w) none (zq_Nv g o post)) (hAp : zq_Ap w) (hW : zq_Wr x w) {v1 u0 : Int32} {z : zS} (h : zw_Mo_rip_14 post v1 u0 z) : zq_W x w 0 0 (g, z, o) 14 [some (.ref (w.2.1 28)), some (.int v1)] [.int u0, .ref (w.2.1 28)] := by
  refine zp_Mo_code hG hW tk_767 zd_Mo_rip_14 ?_
  refine zr_aload_n hG zd_Mo_rip_17 rfl rfl ?_
  refine zf_Mo_code hG tk_767 zd_Mo_rip_18 ?_
  refine zr_if_ne hG 29 zd_Mo_rip_21 (by decide) (fun hc => ?_) (fun hc => ?_)
  · have h := h.1 hc
    exact zr_mask [false, false] (zt_Mo_rip_29 hG hR hAp hW h)
  · have h := h.2 hc
    refine zr_aload_n hG zd_Mo_rip_24 rfl rfl ?_
    refine zr_iload_n hG zd_Mo_rip_25 rfl rfl ?_
    refine zr_callV hG (zq_F1 hW) (As := [.int v1]) (rest := []) (zm_Mo_clear (zc_l x) w hAp g o h) 28 rfl rfl rfl zg_Mo_108 zdd_Mo_clear ⟨rfl, rfl, by decide, by decide⟩ ⟨by decide, by decide⟩ rfl (Nat.le_of_ble_eq_true rfl) zd_Mo_rip_26 rfl ?_
    rintro _ _ ⟨z96, rfl, rfl, h⟩
    exact zr_mask [false, false] (zt_Mo_rip_29 hG hR hAp hW h)
def zw_Mo_rip (a1 : Int32) (z : zS) (post : zS → Prop) : Prop := (zw_Mo_isNet a1 z (fun r97 z97 => ((r97 = 0 → zw_Mo_rip_14 post a1 (1 : Int32) z97) ∧ (¬ r97 = 0 → zw_Mo_rip_14 post a1 (0 : Int32) z97))))
set_option maxHeartbeats 4000000 in
set_option maxRecDepth 100000 in
theorem zm_Mo_rip (l : Launch) (w : zW) (hAp : zq_Ap w) (g : zS) (o : Nat → Int64) {a1 : Int32} {z : zS} {post : zS → Prop} (h : zw_Mo_rip a1 z post) : zq_M l w (zq_A w) zy_Mo_rip zc_Mo_rip 2 none (zq_rm 2 43) [.ref (w.2.1 28), .int a1] (g, z, o) (zq_Nv g o post) := by
  refine zq_mk_M (by decide) (by simp [Value.category]) (Nat.le_of_ble_eq_true rfl) hAp (fun x hx hG hR => ?_)
  subst hx
  have hW := zq_wr hR.2.2.1
  have h : (zw_Mo_isNet a1 z (fun r97 z97 => ((r97 = 0 → zw_Mo_rip_14 post a1 (1 : Int32) z97) ∧ (¬ r97 = 0 → zw_Mo_rip_14 post a1 (0 : Int32) z97)))) := h
  refine zr_aload_n hG zd_Mo_rip_0 rfl rfl ?_
  refine zr_aload_n hG zd_Mo_rip_1 rfl rfl ?_
  refine zr_iload_n hG zd_Mo_rip_2 rfl rfl ?_
  refine zr_callV hG zq_F0 (As := [.int a1]) (rest := [.ref (w.2.1 28)]) (zm_Mo_isNet (zc_l x) w hAp g o h) 28 rfl rfl rfl zg_Mo_122 zdd_Mo_isNet ⟨rfl, rfl, by decide, by decide⟩ ⟨by decide, by decide⟩ rfl (Nat.le_of_ble_eq_true rfl) zd_Mo_rip_3 rfl ?_
  rintro _ _ ⟨r97, z97, rfl, rfl, h⟩
  refine zr_if_eq hG 13 zd_Mo_rip_6 (by decide) (fun hc => ?_) (fun hc => ?_)
  · have h := h.1 hc
    refine zr_iconst hG (v := (1 : Int32)) zd_Mo_rip_13 (by decide) ?_
    exact zt_Mo_rip_14 hG hR hAp hW h
  · have h := h.2 hc
    refine zr_iconst hG (v := (0 : Int32)) zd_Mo_rip_9 (by decide) ?_
    refine zr_goto hG 14 zd_Mo_rip_10 (by decide) ?_
    exact zt_Mo_rip_14 hG hR hAp hW h
def zw_Mo_apart_14 (post : Int32 → zS → Prop) (u0 : Int32) (z : zS) : Prop := post u0 z
set_option maxHeartbeats 4000000 in
set_option maxRecDepth 100000 in
theorem zt_Mo_apart_14 {x : zC} {w : zW} {g : zS} {o : Nat → Int64} {post : Int32 → zS → Prop} (hG : zq_G x w "GridRouterModel" zc_Mo_apart 2 (zq_rm 0 0)) (hR : zq_R x w zq_0 (some .int) (zq_Ni g o post)) (hAp : zq_Ap w) {u0 : Int32} {z : zS} (h : zw_Mo_apart_14 post u0 z) : zq_W x w 0 0 (g, z, o) 14 [none, none] [.int u0] := by
  exact zr_iret hG hR zd_Mo_apart_14 ⟨_, _, rfl, rfl, h⟩
def zw_Mo_apart (a0 a1 : Int32) (z : zS) (post : Int32 → zS → Prop) : Prop := ((a1 ≤ a0 → zw_Mo_apart_14 post (a0 - a1) z) ∧ (¬ a1 ≤ a0 → zw_Mo_apart_14 post (a1 - a0) z))
set_option maxHeartbeats 4000000 in
set_option maxRecDepth 100000 in
theorem zm_Mo_apart (l : Launch) (w : zW) (hAp : zq_Ap w) (g : zS) (o : Nat → Int64) {a0 a1 : Int32} {z : zS} {post : Int32 → zS → Prop} (h : zw_Mo_apart a0 a1 z post) : zq_M l w zq_0 zy_Mo_apart zc_Mo_apart 2 (some .int) (zq_rm 0 0) [.int a0, .int a1] (g, z, o) (zq_Ni g o post) := by
  refine zq_mk_M (by decide) (by simp [Value.category]) (Nat.le_of_ble_eq_true rfl) hAp (fun x hx hG hR => ?_)
  subst hx
  refine zr_iload_n hG zd_Mo_apart_0 rfl rfl ?_
  refine zr_iload_n hG zd_Mo_apart_1 rfl rfl ?_
  refine zr_icmp_ge hG 11 zd_Mo_apart_2 (by decide) (fun hc => ?_) (fun hc => ?_)
  · have h := h.1 hc
    refine zr_iload_n hG zd_Mo_apart_11 rfl rfl ?_
    refine zr_iload_n hG zd_Mo_apart_12 rfl rfl ?_
    refine zr_isub hG zd_Mo_apart_13 ?_
    exact zr_mask [false, false] (zt_Mo_apart_14 hG hR hAp h)
  · have h := h.2 hc
    refine zr_iload_n hG zd_Mo_apart_5 rfl rfl ?_
    refine zr_iload_n hG zd_Mo_apart_6 rfl rfl ?_
    refine zr_isub hG zd_Mo_apart_7 ?_
    refine zr_goto hG 14 zd_Mo_apart_8 (by decide) ?_
    exact zr_mask [false, false] (zt_Mo_apart_14 hG hR hAp h)
def zw_Mo_spread (a1 : Int32) (z : zS) (post : Int32 → zS → Prop) : Prop := vp_in a1 6 ∧ vp_in a1 6 ∧ ¬ ((z.1 0) * (z.1 1)) = 0 ∧ ¬ ((z.1 0) * (z.1 1)) = 0 ∧ (zw_Mo_apart ((z.2 8 a1.toNatClampNeg) / ((z.1 0) * (z.1 1))) ((z.2 9 a1.toNatClampNeg) / ((z.1 0) * (z.1 1))) z (fun r98 z98 => ¬ (z98.1 0) = 0 ∧ ¬ (z98.1 0) = 0 ∧ (zw_Mo_apart ((z.2 8 a1.toNatClampNeg) - (z.2 8 a1.toNatClampNeg) / (z98.1 0) * (z98.1 0)) ((z.2 9 a1.toNatClampNeg) - (z.2 9 a1.toNatClampNeg) / (z98.1 0) * (z98.1 0)) z98 (fun r99 z99 => ¬ (z99.1 0) = 0 ∧ ¬ (z99.1 1) = 0 ∧ ¬ (z99.1 0) = 0 ∧ ¬ (z99.1 1) = 0 ∧ (zw_Mo_apart (((z.2 8 a1.toNatClampNeg) / (z99.1 0)) - ((z.2 8 a1.toNatClampNeg) / (z99.1 0)) / (z99.1 1) * (z99.1 1)) (((z.2 9 a1.toNatClampNeg) / (z99.1 0)) - ((z.2 9 a1.toNatClampNeg) / (z99.1 0)) / (z99.1 1) * (z99.1 1)) z99 (fun r100 z100 => post ((r98 + r99) + r100) z100))))))
set_option maxHeartbeats 4000000 in
set_option maxRecDepth 100000 in
theorem zm_Mo_spread (l : Launch) (w : zW) (hAp : zq_Ap w) (g : zS) (o : Nat → Int64) {a1 : Int32} {z : zS} {post : Int32 → zS → Prop} (h : zw_Mo_spread a1 z post) : zq_M l w zq_0 zy_Mo_spread zc_Mo_spread 4 (some .int) (zq_rm 1 21) [.ref (w.2.1 28), .int a1] (g, z, o) (zq_Ni g o post) := by
  refine zq_mk_M (by decide) (by simp [Value.category]) (Nat.le_of_ble_eq_true rfl) hAp (fun x hx hG hR => ?_)
  subst hx
  refine zr_aload_n hG zd_Mo_spread_0 rfl rfl ?_
  refine zf_Mo_first hG tk_777 zd_Mo_spread_1 ?_
  refine zr_iload_n hG zd_Mo_spread_4 rfl rfl ?_
  obtain ⟨hi, h⟩ := h
  refine zl_37 hG hi zd_Mo_spread_5 ?_
  refine zr_istore_n hG [some (.ref (w.2.1 28)), some (.int a1), some (.int (z.2 8 a1.toNatClampNeg)), none] zd_Mo_spread_6 rfl (Nat.le_of_ble_eq_true rfl) rfl ?_
  refine zr_aload_n hG zd_Mo_spread_7 rfl rfl ?_
  refine zf_Mo_second hG tk_778 zd_Mo_spread_8 ?_
  refine zr_iload_n hG zd_Mo_spread_11 rfl rfl ?_
  obtain ⟨hi, h⟩ := h
  refine zl_38 hG hi zd_Mo_spread_12 ?_
  refine zr_istore_n hG [some (.ref (w.2.1 28)), some (.int a1), some (.int (z.2 8 a1.toNatClampNeg)), some (.int (z.2 9 a1.toNatClampNeg))] zd_Mo_spread_13 rfl (Nat.le_of_ble_eq_true rfl) rfl ?_
  refine zr_iload_n hG zd_Mo_spread_14 rfl rfl ?_
  refine zr_aload_n hG zd_Mo_spread_15 rfl rfl ?_
  refine zf_Mo_width hG tk_763 zd_Mo_spread_16 ?_
  refine zr_aload_n hG zd_Mo_spread_19 rfl rfl ?_
  refine zf_Mo_height hG tk_764 zd_Mo_spread_20 ?_
  refine zr_imul hG zd_Mo_spread_23 ?_
  obtain ⟨hi, h⟩ := h
  refine zr_idiv hG zd_Mo_spread_24 hi ?_
  refine zr_iload_n hG zd_Mo_spread_25 rfl rfl ?_
  refine zr_aload_n hG zd_Mo_spread_26 rfl rfl ?_
  refine zf_Mo_width hG tk_763 zd_Mo_spread_27 ?_
  refine zr_aload_n hG zd_Mo_spread_30 rfl rfl ?_
  refine zf_Mo_height hG tk_764 zd_Mo_spread_31 ?_
  refine zr_imul hG zd_Mo_spread_34 ?_
  obtain ⟨hi, h⟩ := h
  refine zr_idiv hG zd_Mo_spread_35 hi ?_
  refine zr_callS hG zq_F0 (As := [.int ((z.2 8 a1.toNatClampNeg) / ((z.1 0) * (z.1 1))), .int ((z.2 9 a1.toNatClampNeg) / ((z.1 0) * (z.1 1)))]) (rest := []) (zm_Mo_apart (zc_l x) w hAp g o h) rfl zg_Mo_130 zdd_Mo_apart ⟨rfl, rfl, by decide, by decide⟩ ⟨by decide, by decide⟩ rfl (Nat.le_of_ble_eq_true rfl) zd_Mo_spread_36 rfl ?_
  rintro _ _ ⟨r98, z98, rfl, rfl, h⟩
  refine zr_iload_n hG zd_Mo_spread_39 rfl rfl ?_
  refine zr_aload_n hG zd_Mo_spread_40 rfl rfl ?_
  refine zf_Mo_width hG tk_763 zd_Mo_spread_41 ?_
  obtain ⟨hi, h⟩ := h
  refine zr_irem hG zd_Mo_spread_44 hi ?_
  refine zr_iload_n hG zd_Mo_spread_45 rfl rfl ?_
  refine zr_aload_n hG zd_Mo_spread_46 rfl rfl ?_
  refine zf_Mo_width hG tk_763 zd_Mo_spread_47 ?_
  obtain ⟨hi, h⟩ := h
  refine zr_irem hG zd_Mo_spread_50 hi ?_
  refine zr_callS hG zq_F0 (As := [.int ((z.2 8 a1.toNatClampNeg) - (z.2 8 a1.toNatClampNeg) / (z98.1 0) * (z98.1 0)), .int ((z.2 9 a1.toNatClampNeg) - (z.2 9 a1.toNatClampNeg) / (z98.1 0) * (z98.1 0))]) (rest := [.int r98]) (zm_Mo_apart (zc_l x) w hAp g o h) rfl zg_Mo_130 zdd_Mo_apart ⟨rfl, rfl, by decide, by decide⟩ ⟨by decide, by decide⟩ rfl (Nat.le_of_ble_eq_true rfl) zd_Mo_spread_51 rfl ?_
  rintro _ _ ⟨r99, z99, rfl, rfl, h⟩
  refine zr_iadd hG zd_Mo_spread_54 ?_
  refine zr_iload_n hG zd_Mo_spread_55 rfl rfl ?_
  refine zr_aload_n hG zd_Mo_spread_56 rfl rfl ?_
  refine zf_Mo_width hG tk_763 zd_Mo_spread_57 ?_
  obtain ⟨hi, h⟩ := h
  refine zr_idiv hG zd_Mo_spread_60 hi ?_
  refine zr_aload_n hG zd_Mo_spread_61 rfl rfl ?_
  refine zf_Mo_height hG tk_764 zd_Mo_spread_62 ?_
  obtain ⟨hi, h⟩ := h
  refine zr_irem hG zd_Mo_spread_65 hi ?_
  refine zr_iload_n hG zd_Mo_spread_66 rfl rfl ?_
  refine zr_aload_n hG zd_Mo_spread_67 rfl rfl ?_
  refine zf_Mo_width hG tk_763 zd_Mo_spread_68 ?_
  obtain ⟨hi, h⟩ := h
  refine zr_idiv hG zd_Mo_spread_71 hi ?_
  refine zr_aload_n hG zd_Mo_spread_72 rfl rfl ?_
  refine zf_Mo_height hG tk_764 zd_Mo_spread_73 ?_
  obtain ⟨hi, h⟩ := h
  refine zr_irem hG zd_Mo_spread_76 hi ?_
  refine zr_callS hG zq_F0 (As := [.int (((z.2 8 a1.toNatClampNeg) / (z99.1 0)) - ((z.2 8 a1.toNatClampNeg) / (z99.1 0)) / (z99.1 1) * (z99.1 1)), .int (((z.2 9 a1.toNatClampNeg) / (z99.1 0)) - ((z.2 9 a1.toNatClampNeg) / (z99.1 0)) / (z99.1 1) * (z99.1 1))]) (rest := [.int (r98 + r99)]) (zm_Mo_apart (zc_l x) w hAp g o h) rfl zg_Mo_130 zdd_Mo_apart ⟨rfl, rfl, by decide, by decide⟩ ⟨by decide, by decide⟩ rfl (Nat.le_of_ble_eq_true rfl) zd_Mo_spread_77 rfl ?_
  rintro _ _ ⟨r100, z100, rfl, rfl, h⟩
  refine zr_iadd hG zd_Mo_spread_80 ?_
  exact zr_iret hG hR zd_Mo_spread_81 ⟨_, _, rfl, rfl, h⟩
def zw_Mo_standAll_68 (post : zS → Prop) (k14 : Int32 × Int32 × zS → Prop) (k23 : Int32 × Int32 × Int32 × Int32 × zS → Prop) (v1 v2 v3 v4 : Int32) (z : zS) : Prop := k23 (v1, v2, v3, (v4 + (1 : Int32)), z)
set_option maxHeartbeats 4000000 in
set_option maxRecDepth 100000 in
theorem zt_Mo_standAll_68 {x : zC} {w : zW} {g : zS} {o : Nat → Int64} {post : zS → Prop} (hG : zq_G x w "GridRouterModel" zc_Mo_standAll 5 (zq_rm 2 44)) (hR : zq_R x w (zq_A w) none (zq_Nv g o post)) (hAp : zq_Ap w) (hW : zq_Wr x w) {k14 : Int32 × Int32 × zS → Prop} {k23 : Int32 × Int32 × Int32 × Int32 × zS → Prop} (hk14 : ∀ b : Int32 × Int32 × zS, k14 b → zq_W x w 0 0 (g, b.2.2, o) 14 [some (.ref (w.2.1 28)), some (.int (b.1)), some (.int (b.2.1)), none, none] []) (hk23 : ∀ b : Int32 × Int32 × Int32 × Int32 × zS, k23 b → zq_W x w 0 0 (g, b.2.2.2.2, o) 23 [some (.ref (w.2.1 28)), some (.int (b.1)), some (.int (b.2.1)), some (.int (b.2.2.1)), some (.int (b.2.2.2.1))] []) {v1 v2 v3 v4 : Int32} {z : zS} (h : zw_Mo_standAll_68 post k14 k23 v1 v2 v3 v4 z) : zq_W x w 0 0 (g, z, o) 68 [some (.ref (w.2.1 28)), some (.int v1), some (.int v2), some (.int v3), some (.int v4)] [] := by
  refine zr_iinc hG (u := (1 : Int32)) [some (.ref (w.2.1 28)), some (.int v1), some (.int v2), some (.int v3), some (.int (v4 + (1 : Int32)))] zd_Mo_standAll_68 rfl (by decide) (Nat.le_of_ble_eq_true rfl) rfl ?_
  refine zr_goto hG 23 zd_Mo_standAll_71 (by decide) ?_
  have h := hk23 _ h
  exact h
def zw_Mo_standAll_65 (post : zS → Prop) (k14 : Int32 × Int32 × zS → Prop) (k23 : Int32 × Int32 × Int32 × Int32 × zS → Prop) (v1 v2 v4 : Int32) (z : zS) : Prop := zw_Mo_standAll_68 post k14 k23 v1 v2 v4 v4 z
set_option maxHeartbeats 4000000 in
set_option maxRecDepth 100000 in
theorem zt_Mo_standAll_65 {x : zC} {w : zW} {g : zS} {o : Nat → Int64} {post : zS → Prop} (hG : zq_G x w "GridRouterModel" zc_Mo_standAll 5 (zq_rm 2 44)) (hR : zq_R x w (zq_A w) none (zq_Nv g o post)) (hAp : zq_Ap w) (hW : zq_Wr x w) {k14 : Int32 × Int32 × zS → Prop} {k23 : Int32 × Int32 × Int32 × Int32 × zS → Prop} (hk14 : ∀ b : Int32 × Int32 × zS, k14 b → zq_W x w 0 0 (g, b.2.2, o) 14 [some (.ref (w.2.1 28)), some (.int (b.1)), some (.int (b.2.1)), none, none] []) (hk23 : ∀ b : Int32 × Int32 × Int32 × Int32 × zS, k23 b → zq_W x w 0 0 (g, b.2.2.2.2, o) 23 [some (.ref (w.2.1 28)), some (.int (b.1)), some (.int (b.2.1)), some (.int (b.2.2.1)), some (.int (b.2.2.2.1))] []) {v1 v2 v4 : Int32} {z : zS} (h : zw_Mo_standAll_65 post k14 k23 v1 v2 v4 z) : zq_W x w 0 0 (g, z, o) 65 [some (.ref (w.2.1 28)), some (.int v1), some (.int v2), none, some (.int v4)] [] := by
  refine zr_iload hG zd_Mo_standAll_65 rfl ?_
  refine zr_istore_n hG [some (.ref (w.2.1 28)), some (.int v1), some (.int v2), some (.int v4), some (.int v4)] zd_Mo_standAll_67 rfl (Nat.le_of_ble_eq_true rfl) rfl ?_
  exact zt_Mo_standAll_68 hG hR hAp hW hk14 hk23 h
def zw_Mo_standAll_23 (post : zS → Prop) (k14 : Int32 × Int32 × zS → Prop) (k23 : Int32 × Int32 × Int32 × Int32 × zS → Prop) : Int32 × Int32 × Int32 × Int32 × zS → Prop := fun b => match b with
  | (v1, v2, v3, v4, z) => (((z.1 5) ≤ v4 → vp_in (z.1 6) 6 ∧ k14 (v1, (v2 &&& (((1 : Int32) <<< (v3 &&& 31)) ^^^ (-1 : Int32))), (zs_s (zs_a z 10 (z.1 6) v3) 6 (((zs_a z 10 (z.1 6) v3).1 6) + (1 : Int32))))) ∧ (¬ (z.1 5) ≤ v4 → ((¬ ((v2 >>> (v4 &&& 31)) &&& (1 : Int32)) = (1 : Int32) → zw_Mo_standAll_68 post k14 k23 v1 v2 v3 v4 z) ∧ (((v2 >>> (v4 &&& 31)) &&& (1 : Int32)) = (1 : Int32) → ((v3 = (-1 : Int32) → zw_Mo_standAll_65 post k14 k23 v1 v2 v4 z) ∧ (¬ v3 = (-1 : Int32) → ((v1 = 0 → zw_Mo_standAll_68 post k14 k23 v1 v2 v3 v4 z) ∧ (¬ v1 = 0 → (zw_Mo_spread v4 z (fun r101 z101 => (zw_Mo_spread v3 z101 (fun r102 z102 => ((r102 ≤ r101 → zw_Mo_standAll_68 post k14 k23 v1 v2 v3 v4 z102) ∧ (¬ r102 ≤ r101 → zw_Mo_standAll_65 post k14 k23 v1 v2 v4 z102))))))))))))))
set_option maxHeartbeats 4000000 in
set_option maxRecDepth 100000 in
theorem zt_Mo_standAll_23 {x : zC} {w : zW} {g : zS} {o : Nat → Int64} {post : zS → Prop} (hG : zq_G x w "GridRouterModel" zc_Mo_standAll 5 (zq_rm 2 44)) (hR : zq_R x w (zq_A w) none (zq_Nv g o post)) (hAp : zq_Ap w) (hW : zq_Wr x w) {k14 : Int32 × Int32 × zS → Prop} (hk14 : ∀ b : Int32 × Int32 × zS, k14 b → zq_W x w 0 0 (g, b.2.2, o) 14 [some (.ref (w.2.1 28)), some (.int (b.1)), some (.int (b.2.1)), none, none] []) {v1 v2 v3 v4 : Int32} {z : zS} (h : zq_Lp (zw_Mo_standAll_23 post k14) (v1, v2, v3, v4, z)) : zq_W x w 0 0 (g, z, o) 23 [some (.ref (w.2.1 28)), some (.int v1), some (.int v2), some (.int v3), some (.int v4)] [] := by
  refine zq_Lp_W (WW := fun b => zq_W x w 0 0 (g, b.2.2.2.2, o) 23 [some (.ref (w.2.1 28)), some (.int (b.1)), some (.int (b.2.1)), some (.int (b.2.2.1)), some (.int (b.2.2.2.1))] []) (fun k23 hk23 b h => ?_) h
  obtain ⟨v1, v2, v3, v4, z⟩ := b
  show zq_W x w 0 0 (g, z, o) 23 [some (.ref (w.2.1 28)), some (.int v1), some (.int v2), some (.int v3), some (.int v4)] []
  refine zr_iload hG zd_Mo_standAll_23 rfl ?_
  refine zr_aload_n hG zd_Mo_standAll_25 rfl rfl ?_
  refine zf_Mo_nets hG tk_776 zd_Mo_standAll_26 ?_
  refine zr_icmp_ge hG 74 zd_Mo_standAll_29 (by decide) (fun hc => ?_) (fun hc => ?_)
  · have h := h.1 hc
    refine zr_aload_n hG zd_Mo_standAll_74 rfl rfl ?_
    refine zf_Mo_line hG tk_780 zd_Mo_standAll_75 ?_
    refine zr_aload_n hG zd_Mo_standAll_78 rfl rfl ?_
    refine zf_Mo_standing hG tk_779 zd_Mo_standAll_79 ?_
    refine zr_iload_n hG zd_Mo_standAll_82 rfl rfl ?_
    obtain ⟨hi, h⟩ := h
    refine zu_39 hG hW hi zd_Mo_standAll_83 ?_
    refine zr_aload_n hG zd_Mo_standAll_84 rfl rfl ?_
    refine zr_dup hG zd_Mo_standAll_85 rfl ?_
    refine zf_Mo_standing hG tk_779 zd_Mo_standAll_86 ?_
    refine zr_iconst hG (v := (1 : Int32)) zd_Mo_standAll_89 (by decide) ?_
    refine zr_iadd hG zd_Mo_standAll_90 ?_
    refine zp_Mo_standing hG hW tk_779 zd_Mo_standAll_91 ?_
    refine zr_iload_n hG zd_Mo_standAll_94 rfl rfl ?_
    refine zr_iconst hG (v := (1 : Int32)) zd_Mo_standAll_95 (by decide) ?_
    refine zr_iload_n hG zd_Mo_standAll_96 rfl rfl ?_
    refine zr_ishl hG zd_Mo_standAll_97 ?_
    refine zr_iconst hG (v := (-1 : Int32)) zd_Mo_standAll_98 (by decide) ?_
    refine zr_ixor hG zd_Mo_standAll_99 ?_
    refine zr_iand hG zd_Mo_standAll_100 ?_
    refine zr_istore_n hG [some (.ref (w.2.1 28)), some (.int v1), some (.int (v2 &&& (((1 : Int32) <<< (v3 &&& 31)) ^^^ (-1 : Int32)))), some (.int v3), some (.int v4)] zd_Mo_standAll_101 rfl (Nat.le_of_ble_eq_true rfl) rfl ?_
    refine zr_goto hG 14 zd_Mo_standAll_102 (by decide) ?_
    have h := hk14 _ h
    exact zr_mask [true, true, true, false, false] (h)
  · have h := h.2 hc
    refine zr_iload_n hG zd_Mo_standAll_32 rfl rfl ?_
    refine zr_iload hG zd_Mo_standAll_33 rfl ?_
    refine zr_ishr hG zd_Mo_standAll_35 ?_
    refine zr_iconst hG (v := (1 : Int32)) zd_Mo_standAll_36 (by decide) ?_
    refine zr_iand hG zd_Mo_standAll_37 ?_
    refine zr_iconst hG (v := (1 : Int32)) zd_Mo_standAll_38 (by decide) ?_
    refine zr_icmp_ne hG 68 zd_Mo_standAll_39 (by decide) (fun hc => ?_) (fun hc => ?_)
    · have h := h.1 hc
      exact zt_Mo_standAll_68 hG hR hAp hW hk14 hk23 h
    · have h := h.2 hc
      refine zr_iload_n hG zd_Mo_standAll_42 rfl rfl ?_
      refine zr_iconst hG (v := (-1 : Int32)) zd_Mo_standAll_43 (by decide) ?_
      refine zr_icmp_eq hG 65 zd_Mo_standAll_44 (by decide) (fun hc => ?_) (fun hc => ?_)
      · have h := h.1 hc
        exact zr_mask [true, true, true, false, true] (zt_Mo_standAll_65 hG hR hAp hW hk14 hk23 h)
      · have h := h.2 hc
        refine zr_iload_n hG zd_Mo_standAll_47 rfl rfl ?_
        refine zr_if_eq hG 68 zd_Mo_standAll_48 (by decide) (fun hc => ?_) (fun hc => ?_)
        · have h := h.1 hc
          exact zt_Mo_standAll_68 hG hR hAp hW hk14 hk23 h
        · have h := h.2 hc
          refine zr_aload_n hG zd_Mo_standAll_51 rfl rfl ?_
          refine zr_iload hG zd_Mo_standAll_52 rfl ?_
          refine zr_callV hG zq_F0 (As := [.int v4]) (rest := []) (zm_Mo_spread (zc_l x) w hAp g o h) 28 rfl rfl rfl zg_Mo_136 zdd_Mo_spread ⟨rfl, rfl, by decide, by decide⟩ ⟨by decide, by decide⟩ rfl (Nat.le_of_ble_eq_true rfl) zd_Mo_standAll_54 rfl ?_
          rintro _ _ ⟨r101, z101, rfl, rfl, h⟩
          refine zr_aload_n hG zd_Mo_standAll_57 rfl rfl ?_
          refine zr_iload_n hG zd_Mo_standAll_58 rfl rfl ?_
          refine zr_callV hG zq_F0 (As := [.int v3]) (rest := [.int r101]) (zm_Mo_spread (zc_l x) w hAp g o h) 28 rfl rfl rfl zg_Mo_136 zdd_Mo_spread ⟨rfl, rfl, by decide, by decide⟩ ⟨by decide, by decide⟩ rfl (Nat.le_of_ble_eq_true rfl) zd_Mo_standAll_59 rfl ?_
          rintro _ _ ⟨r102, z102, rfl, rfl, h⟩
          refine zr_icmp_ge hG 68 zd_Mo_standAll_62 (by decide) (fun hc => ?_) (fun hc => ?_)
          · have h := h.1 hc
            exact zt_Mo_standAll_68 hG hR hAp hW hk14 hk23 h
          · have h := h.2 hc
            exact zr_mask [true, true, true, false, true] (zt_Mo_standAll_65 hG hR hAp hW hk14 hk23 h)
def zw_Mo_standAll_14 (post : zS → Prop) (k14 : Int32 × Int32 × zS → Prop) : Int32 × Int32 × zS → Prop := fun b => match b with
  | (v1, v2, z) => ((v2 = 0 → post z) ∧ (¬ v2 = 0 → zq_Lp (zw_Mo_standAll_23 post k14) (v1, v2, (-1 : Int32), (0 : Int32), z)))
set_option maxHeartbeats 4000000 in
set_option maxRecDepth 100000 in
theorem zt_Mo_standAll_14 {x : zC} {w : zW} {g : zS} {o : Nat → Int64} {post : zS → Prop} (hG : zq_G x w "GridRouterModel" zc_Mo_standAll 5 (zq_rm 2 44)) (hR : zq_R x w (zq_A w) none (zq_Nv g o post)) (hAp : zq_Ap w) (hW : zq_Wr x w) {v1 v2 : Int32} {z : zS} (h : zq_Lp (zw_Mo_standAll_14 post) (v1, v2, z)) : zq_W x w 0 0 (g, z, o) 14 [some (.ref (w.2.1 28)), some (.int v1), some (.int v2), none, none] [] := by
  refine zq_Lp_W (WW := fun b => zq_W x w 0 0 (g, b.2.2, o) 14 [some (.ref (w.2.1 28)), some (.int (b.1)), some (.int (b.2.1)), none, none] []) (fun k14 hk14 b h => ?_) h
  obtain ⟨v1, v2, z⟩ := b
  show zq_W x w 0 0 (g, z, o) 14 [some (.ref (w.2.1 28)), some (.int v1), some (.int v2), none, none] []
  refine zr_iload_n hG zd_Mo_standAll_14 rfl rfl ?_
  refine zr_if_eq hG 105 zd_Mo_standAll_15 (by decide) (fun hc => ?_) (fun hc => ?_)
  · have h := h.1 hc
    exact zr_vret hG hR zd_Mo_standAll_105 ⟨_, rfl, rfl, h⟩
  · have h := h.2 hc
    refine zr_iconst hG (v := (-1 : Int32)) zd_Mo_standAll_18 (by decide) ?_
    refine zr_istore_n hG [some (.ref (w.2.1 28)), some (.int v1), some (.int v2), some (.int (-1 : Int32)), none] zd_Mo_standAll_19 rfl (Nat.le_of_ble_eq_true rfl) rfl ?_
    refine zr_iconst hG (v := (0 : Int32)) zd_Mo_standAll_20 (by decide) ?_
    refine zr_istore hG [some (.ref (w.2.1 28)), some (.int v1), some (.int v2), some (.int (-1 : Int32)), some (.int (0 : Int32))] zd_Mo_standAll_21 (Nat.le_of_ble_eq_true rfl) rfl ?_
    exact zt_Mo_standAll_23 hG hR hAp hW hk14 h
def zw_Mo_standAll (a1 : Int32) (z : zS) (post : zS → Prop) : Prop := zq_Lp (zw_Mo_standAll_14 post) (a1, (((1 : Int32) <<< ((z.1 5) &&& 31)) - (1 : Int32)), (zs_s z 6 (0 : Int32)))
set_option maxHeartbeats 4000000 in
set_option maxRecDepth 100000 in
theorem zm_Mo_standAll (l : Launch) (w : zW) (hAp : zq_Ap w) (g : zS) (o : Nat → Int64) {a1 : Int32} {z : zS} {post : zS → Prop} (h : zw_Mo_standAll a1 z post) : zq_M l w (zq_A w) zy_Mo_standAll zc_Mo_standAll 5 none (zq_rm 2 44) [.ref (w.2.1 28), .int a1] (g, z, o) (zq_Nv g o post) := by
  refine zq_mk_M (by decide) (by simp [Value.category]) (Nat.le_of_ble_eq_true rfl) hAp (fun x hx hG hR => ?_)
  subst hx
  have hW := zq_wr hR.2.2.1
  refine zr_iconst hG (v := (1 : Int32)) zd_Mo_standAll_0 (by decide) ?_
  refine zr_aload_n hG zd_Mo_standAll_1 rfl rfl ?_
  refine zf_Mo_nets hG tk_776 zd_Mo_standAll_2 ?_
  refine zr_ishl hG zd_Mo_standAll_5 ?_
  refine zr_iconst hG (v := (1 : Int32)) zd_Mo_standAll_6 (by decide) ?_
  refine zr_isub hG zd_Mo_standAll_7 ?_
  refine zr_istore_n hG [some (.ref (w.2.1 28)), some (.int a1), some (.int (((1 : Int32) <<< ((z.1 5) &&& 31)) - (1 : Int32))), none, none] zd_Mo_standAll_8 rfl (Nat.le_of_ble_eq_true rfl) rfl ?_
  refine zr_aload_n hG zd_Mo_standAll_9 rfl rfl ?_
  refine zr_iconst hG (v := (0 : Int32)) zd_Mo_standAll_10 (by decide) ?_
  refine zp_Mo_standing hG hW tk_779 zd_Mo_standAll_11 ?_
  exact zt_Mo_standAll_14 hG hR hAp hW h
