def zw_Mo_stands_31 (post : Int32 → zS → Prop) (k4 : Int32 × Int32 × Int32 × zS → Prop) (v1 v3 u0 : Int32) (z : zS) : Prop := k4 (v1, u0, (v3 + (1 : Int32)), z)
set_option maxHeartbeats 4000000 in
set_option maxRecDepth 100000 in
theorem zt_Mo_stands_31 {x : zC} {w : zW} {g : zS} {o : Nat → Int64} {post : Int32 → zS → Prop} (hG : zq_G x w "GridRouterModel" zc_Mo_stands 4 (zq_rm 0 0)) (hR : zq_R x w zq_0 (some .boolean) (zq_Ni g o post)) (hAp : zq_Ap w) {k4 : Int32 × Int32 × Int32 × zS → Prop} (hk4 : ∀ b : Int32 × Int32 × Int32 × zS, k4 b → zq_W x w 0 0 (g, b.2.2.2, o) 4 [some (.ref (w.2.1 28)), some (.int (b.1)), some (.int (b.2.1)), some (.int (b.2.2.1))] []) {v1 v3 u0 : Int32} {z : zS} (h : zw_Mo_stands_31 post k4 v1 v3 u0 z) : zq_W x w 0 0 (g, z, o) 31 [some (.ref (w.2.1 28)), some (.int v1), none, some (.int v3)] [.int u0] := by
  refine zr_istore_n hG [some (.ref (w.2.1 28)), some (.int v1), some (.int u0), some (.int v3)] zd_Mo_stands_31 rfl (Nat.le_of_ble_eq_true rfl) rfl ?_
  refine zr_iinc hG (u := (1 : Int32)) [some (.ref (w.2.1 28)), some (.int v1), some (.int u0), some (.int (v3 + (1 : Int32)))] zd_Mo_stands_32 rfl (by decide) (Nat.le_of_ble_eq_true rfl) rfl ?_
  refine zr_goto hG 4 zd_Mo_stands_35 (by decide) ?_
  have h := hk4 _ h
  exact h
def zw_Mo_stands_26 (post : Int32 → zS → Prop) (k4 : Int32 × Int32 × Int32 × zS → Prop) (v1 v3 : Int32) (z : zS) : Prop := zw_Mo_stands_31 post k4 v1 v3 (1 : Int32) z
set_option maxHeartbeats 4000000 in
set_option maxRecDepth 100000 in
theorem zt_Mo_stands_26 {x : zC} {w : zW} {g : zS} {o : Nat → Int64} {post : Int32 → zS → Prop} (hG : zq_G x w "GridRouterModel" zc_Mo_stands 4 (zq_rm 0 0)) (hR : zq_R x w zq_0 (some .boolean) (zq_Ni g o post)) (hAp : zq_Ap w) {k4 : Int32 × Int32 × Int32 × zS → Prop} (hk4 : ∀ b : Int32 × Int32 × Int32 × zS, k4 b → zq_W x w 0 0 (g, b.2.2.2, o) 4 [some (.ref (w.2.1 28)), some (.int (b.1)), some (.int (b.2.1)), some (.int (b.2.2.1))] []) {v1 v3 : Int32} {z : zS} (h : zw_Mo_stands_26 post k4 v1 v3 z) : zq_W x w 0 0 (g, z, o) 26 [some (.ref (w.2.1 28)), some (.int v1), none, some (.int v3)] [] := by
  refine zr_iconst hG (v := (1 : Int32)) zd_Mo_stands_26 (by decide) ?_
  refine zr_goto hG 31 zd_Mo_stands_27 (by decide) ?_
  exact zt_Mo_stands_31 hG hR hAp hk4 h
def zw_Mo_stands_4 (post : Int32 → zS → Prop) (k4 : Int32 × Int32 × Int32 × zS → Prop) : Int32 × Int32 × Int32 × zS → Prop := fun b => match b with
  | (v1, v2, v3, z) => (((z.1 6) ≤ v3 → (narrow .boolean (.int v2) = .int v2 ∧ post v2 z)) ∧ (¬ (z.1 6) ≤ v3 → ((¬ v2 = 0 → zw_Mo_stands_26 post k4 v1 v3 z) ∧ (v2 = 0 → vp_in v3 6 ∧ ((¬ (z.2 10 v3.toNatClampNeg) = v1 → zw_Mo_stands_31 post k4 v1 v3 (0 : Int32) z) ∧ ((z.2 10 v3.toNatClampNeg) = v1 → zw_Mo_stands_26 post k4 v1 v3 z))))))
set_option maxHeartbeats 4000000 in
set_option maxRecDepth 100000 in
theorem zt_Mo_stands_4 {x : zC} {w : zW} {g : zS} {o : Nat → Int64} {post : Int32 → zS → Prop} (hG : zq_G x w "GridRouterModel" zc_Mo_stands 4 (zq_rm 0 0)) (hR : zq_R x w zq_0 (some .boolean) (zq_Ni g o post)) (hAp : zq_Ap w) {v1 v2 v3 : Int32} {z : zS} (h : zq_Lp (zw_Mo_stands_4 post) (v1, v2, v3, z)) : zq_W x w 0 0 (g, z, o) 4 [some (.ref (w.2.1 28)), some (.int v1), some (.int v2), some (.int v3)] [] := by
  refine zq_Lp_W (WW := fun b => zq_W x w 0 0 (g, b.2.2.2, o) 4 [some (.ref (w.2.1 28)), some (.int (b.1)), some (.int (b.2.1)), some (.int (b.2.2.1))] []) (fun k4 hk4 b h => ?_) h
  obtain ⟨v1, v2, v3, z⟩ := b
  show zq_W x w 0 0 (g, z, o) 4 [some (.ref (w.2.1 28)), some (.int v1), some (.int v2), some (.int v3)] []
  refine zr_iload_n hG zd_Mo_stands_4 rfl rfl ?_
  refine zr_aload_n hG zd_Mo_stands_5 rfl rfl ?_
  refine zf_Mo_standing hG tk_779 zd_Mo_stands_6 ?_
  refine zr_icmp_ge hG 38 zd_Mo_stands_9 (by decide) (fun hc => ?_) (fun hc => ?_)
  · have h := h.1 hc
    refine zr_iload_n hG zd_Mo_stands_38 rfl rfl ?_
    obtain ⟨hn, h⟩ := h
    exact zr_zret hG hR zd_Mo_stands_39 hn ⟨_, _, rfl, rfl, h⟩
  · have h := h.2 hc
    refine zr_iload_n hG zd_Mo_stands_12 rfl rfl ?_
    refine zr_if_ne hG 26 zd_Mo_stands_13 (by decide) (fun hc => ?_) (fun hc => ?_)
    · have h := h.1 hc
      exact zr_mask [true, true, false, true] (zt_Mo_stands_26 hG hR hAp hk4 h)
    · have h := h.2 hc
      refine zr_aload_n hG zd_Mo_stands_16 rfl rfl ?_
      refine zf_Mo_line hG tk_780 zd_Mo_stands_17 ?_
      refine zr_iload_n hG zd_Mo_stands_20 rfl rfl ?_
      obtain ⟨hi, h⟩ := h
      refine zl_39 hG hi zd_Mo_stands_21 ?_
      refine zr_iload_n hG zd_Mo_stands_22 rfl rfl ?_
      refine zr_icmp_ne hG 30 zd_Mo_stands_23 (by decide) (fun hc => ?_) (fun hc => ?_)
      · have h := h.1 hc
        refine zr_iconst hG (v := (0 : Int32)) zd_Mo_stands_30 (by decide) ?_
        exact zr_mask [true, true, false, true] (zt_Mo_stands_31 hG hR hAp hk4 h)
      · have h := h.2 hc
        exact zr_mask [true, true, false, true] (zt_Mo_stands_26 hG hR hAp hk4 h)
def zw_Mo_stands (a1 : Int32) (z : zS) (post : Int32 → zS → Prop) : Prop := zq_Lp (zw_Mo_stands_4 post) (a1, (0 : Int32), (0 : Int32), z)
set_option maxHeartbeats 4000000 in
set_option maxRecDepth 100000 in
theorem zm_Mo_stands (l : Launch) (w : zW) (hAp : zq_Ap w) (g : zS) (o : Nat → Int64) {a1 : Int32} {z : zS} {post : Int32 → zS → Prop} (h : zw_Mo_stands a1 z post) : zq_M l w zq_0 zy_Mo_stands zc_Mo_stands 4 (some .boolean) (zq_rm 0 0) [.ref (w.2.1 28), .int a1] (g, z, o) (zq_Ni g o post) := by
  refine zq_mk_M (by decide) (by simp [Value.category]) (Nat.le_of_ble_eq_true rfl) hAp (fun x hx hG hR => ?_)
  subst hx
  refine zr_iconst hG (v := (0 : Int32)) zd_Mo_stands_0 (by decide) ?_
  refine zr_istore_n hG [some (.ref (w.2.1 28)), some (.int a1), some (.int (0 : Int32)), none] zd_Mo_stands_1 rfl (Nat.le_of_ble_eq_true rfl) rfl ?_
  refine zr_iconst hG (v := (0 : Int32)) zd_Mo_stands_2 (by decide) ?_
  refine zr_istore_n hG [some (.ref (w.2.1 28)), some (.int a1), some (.int (0 : Int32)), some (.int (0 : Int32))] zd_Mo_stands_3 rfl (Nat.le_of_ble_eq_true rfl) rfl ?_
  exact zt_Mo_stands_4 hG hR hAp h
def zw_Mo_touches_60 (post : Int32 → zS → Prop) (k4 : Int32 × Int32 × Int32 × zS → Prop) (v1 v3 u0 : Int32) (z : zS) : Prop := k4 (v1, u0, (v3 + (1 : Int32)), z)
set_option maxHeartbeats 4000000 in
set_option maxRecDepth 100000 in
theorem zt_Mo_touches_60 {x : zC} {w : zW} {g : zS} {o : Nat → Int64} {post : Int32 → zS → Prop} (hG : zq_G x w "GridRouterModel" zc_Mo_touches 5 (zq_rm 3 70)) (hR : zq_R x w zq_0 (some .boolean) (zq_Ni g o post)) (hAp : zq_Ap w) {k4 : Int32 × Int32 × Int32 × zS → Prop} (hk4 : ∀ b : Int32 × Int32 × Int32 × zS, k4 b → zq_W x w 0 0 (g, b.2.2.2, o) 4 [some (.ref (w.2.1 28)), some (.int (b.1)), some (.int (b.2.1)), some (.int (b.2.2.1)), none] []) {v1 v3 u0 : Int32} {z : zS} (h : zw_Mo_touches_60 post k4 v1 v3 u0 z) : zq_W x w 0 0 (g, z, o) 60 [some (.ref (w.2.1 28)), some (.int v1), none, some (.int v3), none] [.int u0] := by
  refine zr_istore_n hG [some (.ref (w.2.1 28)), some (.int v1), some (.int u0), some (.int v3), none] zd_Mo_touches_60 rfl (Nat.le_of_ble_eq_true rfl) rfl ?_
  refine zr_iinc hG (u := (1 : Int32)) [some (.ref (w.2.1 28)), some (.int v1), some (.int u0), some (.int (v3 + (1 : Int32))), none] zd_Mo_touches_61 rfl (by decide) (Nat.le_of_ble_eq_true rfl) rfl ?_
  refine zr_goto hG 4 zd_Mo_touches_64 (by decide) ?_
  have h := hk4 _ h
  exact h
def zw_Mo_touches_59 (post : Int32 → zS → Prop) (k4 : Int32 × Int32 × Int32 × zS → Prop) (v1 v3 : Int32) (z : zS) : Prop := zw_Mo_touches_60 post k4 v1 v3 (0 : Int32) z
set_option maxHeartbeats 4000000 in
set_option maxRecDepth 100000 in
theorem zt_Mo_touches_59 {x : zC} {w : zW} {g : zS} {o : Nat → Int64} {post : Int32 → zS → Prop} (hG : zq_G x w "GridRouterModel" zc_Mo_touches 5 (zq_rm 3 70)) (hR : zq_R x w zq_0 (some .boolean) (zq_Ni g o post)) (hAp : zq_Ap w) {k4 : Int32 × Int32 × Int32 × zS → Prop} (hk4 : ∀ b : Int32 × Int32 × Int32 × zS, k4 b → zq_W x w 0 0 (g, b.2.2.2, o) 4 [some (.ref (w.2.1 28)), some (.int (b.1)), some (.int (b.2.1)), some (.int (b.2.2.1)), none] []) {v1 v3 : Int32} {z : zS} (h : zw_Mo_touches_59 post k4 v1 v3 z) : zq_W x w 0 0 (g, z, o) 59 [some (.ref (w.2.1 28)), some (.int v1), none, some (.int v3), none] [] := by
  refine zr_iconst hG (v := (0 : Int32)) zd_Mo_touches_59 (by decide) ?_
  exact zt_Mo_touches_60 hG hR hAp hk4 h
def zw_Mo_touches_55 (post : Int32 → zS → Prop) (k4 : Int32 × Int32 × Int32 × zS → Prop) (v1 v3 : Int32) (z : zS) : Prop := zw_Mo_touches_60 post k4 v1 v3 (1 : Int32) z
set_option maxHeartbeats 4000000 in
set_option maxRecDepth 100000 in
theorem zt_Mo_touches_55 {x : zC} {w : zW} {g : zS} {o : Nat → Int64} {post : Int32 → zS → Prop} (hG : zq_G x w "GridRouterModel" zc_Mo_touches 5 (zq_rm 3 70)) (hR : zq_R x w zq_0 (some .boolean) (zq_Ni g o post)) (hAp : zq_Ap w) {k4 : Int32 × Int32 × Int32 × zS → Prop} (hk4 : ∀ b : Int32 × Int32 × Int32 × zS, k4 b → zq_W x w 0 0 (g, b.2.2.2, o) 4 [some (.ref (w.2.1 28)), some (.int (b.1)), some (.int (b.2.1)), some (.int (b.2.2.1)), none] []) {v1 v3 : Int32} {z : zS} (h : zw_Mo_touches_55 post k4 v1 v3 z) : zq_W x w 0 0 (g, z, o) 55 [some (.ref (w.2.1 28)), some (.int v1), none, some (.int v3), none] [] := by
  refine zr_iconst hG (v := (1 : Int32)) zd_Mo_touches_55 (by decide) ?_
  refine zr_goto hG 60 zd_Mo_touches_56 (by decide) ?_
  exact zt_Mo_touches_60 hG hR hAp hk4 h
def zw_Mo_touches_4 (post : Int32 → zS → Prop) (k4 : Int32 × Int32 × Int32 × zS → Prop) : Int32 × Int32 × Int32 × zS → Prop := fun b => match b with
  | (v1, v2, v3, z) => (((5 : Int32) ≤ v3 → (narrow .boolean (.int v2) = .int v2 ∧ post v2 z)) ∧ (¬ (5 : Int32) ≤ v3 → (zw_Mo_side v1 v3 z (fun r119 z119 => ((¬ v2 = 0 → zw_Mo_touches_55 post k4 v1 v3 z119) ∧ (v2 = 0 → ((r119 = (-1 : Int32) → zw_Mo_touches_59 post k4 v1 v3 z119) ∧ (¬ r119 = (-1 : Int32) → vp_in r119 162 ∧ (((z119.2 5 r119.toNatClampNeg) = 0 → zw_Mo_touches_59 post k4 v1 v3 z119) ∧ (¬ (z119.2 5 r119.toNatClampNeg) = 0 → ((v3 < (4 : Int32) → zw_Mo_touches_55 post k4 v1 v3 z119) ∧ (¬ v3 < (4 : Int32) → (zw_Mo_placeOf v1 z119 (fun r120 z120 => vp_in r120 81 ∧ (((z120.2 3 r120.toNatClampNeg) = 0 → zw_Mo_touches_59 post k4 v1 v3 z120) ∧ (¬ (z120.2 3 r120.toNatClampNeg) = 0 → zw_Mo_touches_55 post k4 v1 v3 z120))))))))))))))))
set_option maxHeartbeats 4000000 in
set_option maxRecDepth 100000 in
theorem zt_Mo_touches_4 {x : zC} {w : zW} {g : zS} {o : Nat → Int64} {post : Int32 → zS → Prop} (hG : zq_G x w "GridRouterModel" zc_Mo_touches 5 (zq_rm 3 70)) (hR : zq_R x w zq_0 (some .boolean) (zq_Ni g o post)) (hAp : zq_Ap w) {v1 v2 v3 : Int32} {z : zS} (h : zq_Lp (zw_Mo_touches_4 post) (v1, v2, v3, z)) : zq_W x w 0 0 (g, z, o) 4 [some (.ref (w.2.1 28)), some (.int v1), some (.int v2), some (.int v3), none] [] := by
  refine zq_Lp_W (WW := fun b => zq_W x w 0 0 (g, b.2.2.2, o) 4 [some (.ref (w.2.1 28)), some (.int (b.1)), some (.int (b.2.1)), some (.int (b.2.2.1)), none] []) (fun k4 hk4 b h => ?_) h
  obtain ⟨v1, v2, v3, z⟩ := b
  show zq_W x w 0 0 (g, z, o) 4 [some (.ref (w.2.1 28)), some (.int v1), some (.int v2), some (.int v3), none] []
  refine zr_iload_n hG zd_Mo_touches_4 rfl rfl ?_
  refine zr_iconst hG (v := (5 : Int32)) zd_Mo_touches_5 (by decide) ?_
  refine zr_icmp_ge hG 67 zd_Mo_touches_6 (by decide) (fun hc => ?_) (fun hc => ?_)
  · have h := h.1 hc
    refine zr_iload_n hG zd_Mo_touches_67 rfl rfl ?_
    obtain ⟨hn, h⟩ := h
    exact zr_zret hG hR zd_Mo_touches_68 hn ⟨_, _, rfl, rfl, h⟩
  · have h := h.2 hc
    refine zr_aload_n hG zd_Mo_touches_9 rfl rfl ?_
    refine zr_iload_n hG zd_Mo_touches_10 rfl rfl ?_
    refine zr_iload_n hG zd_Mo_touches_11 rfl rfl ?_
    refine zr_callV hG zq_F0 (As := [.int v1, .int v3]) (rest := []) (zm_Mo_side (zc_l x) w hAp g o h) 28 rfl rfl rfl zg_Mo_72 zdd_Mo_side ⟨rfl, rfl, by decide, by decide⟩ ⟨by decide, by decide⟩ rfl (Nat.le_of_ble_eq_true rfl) zd_Mo_touches_12 rfl ?_
    rintro _ _ ⟨r119, z119, rfl, rfl, h⟩
    refine zr_istore hG [some (.ref (w.2.1 28)), some (.int v1), some (.int v2), some (.int v3), some (.int r119)] zd_Mo_touches_15 (Nat.le_of_ble_eq_true rfl) rfl ?_
    refine zr_iload_n hG zd_Mo_touches_17 rfl rfl ?_
    refine zr_if_ne hG 55 zd_Mo_touches_18 (by decide) (fun hc => ?_) (fun hc => ?_)
    · have h := h.1 hc
      exact zr_mask [true, true, false, true, false] (zt_Mo_touches_55 hG hR hAp hk4 h)
    · have h := h.2 hc
      refine zr_iload hG zd_Mo_touches_21 rfl ?_
      refine zr_iconst hG (v := (-1 : Int32)) zd_Mo_touches_23 (by decide) ?_
      refine zr_icmp_eq hG 59 zd_Mo_touches_24 (by decide) (fun hc => ?_) (fun hc => ?_)
      · have h := h.1 hc
        exact zr_mask [true, true, false, true, false] (zt_Mo_touches_59 hG hR hAp hk4 h)
      · have h := h.2 hc
        refine zr_aload_n hG zd_Mo_touches_27 rfl rfl ?_
        refine zf_Mo_mark hG tk_773 zd_Mo_touches_28 ?_
        refine zr_iload hG zd_Mo_touches_31 rfl ?_
        obtain ⟨hi, h⟩ := h
        refine zl_34 hG hi zd_Mo_touches_33 ?_
        refine zr_if_eq hG 59 zd_Mo_touches_34 (by decide) (fun hc => ?_) (fun hc => ?_)
        · have h := h.1 hc
          exact zr_mask [true, true, false, true, false] (zt_Mo_touches_59 hG hR hAp hk4 h)
        · have h := h.2 hc
          refine zr_iload_n hG zd_Mo_touches_37 rfl rfl ?_
          refine zr_iconst hG (v := (4 : Int32)) zd_Mo_touches_38 (by decide) ?_
          refine zr_icmp_lt hG 55 zd_Mo_touches_39 (by decide) (fun hc => ?_) (fun hc => ?_)
          · have h := h.1 hc
            exact zr_mask [true, true, false, true, false] (zt_Mo_touches_55 hG hR hAp hk4 h)
          · have h := h.2 hc
            refine zr_aload_n hG zd_Mo_touches_42 rfl rfl ?_
            refine zf_Mo_vias hG tk_771 zd_Mo_touches_43 ?_
            refine zr_aload_n hG zd_Mo_touches_46 rfl rfl ?_
            refine zr_iload_n hG zd_Mo_touches_47 rfl rfl ?_
            refine zr_callV hG zq_F0 (As := [.int v1]) (rest := [.ref (w.2.1 32)]) (zm_Mo_placeOf (zc_l x) w hAp g o h) 28 rfl rfl rfl zg_Mo_90 zdd_Mo_placeOf ⟨rfl, rfl, by decide, by decide⟩ ⟨by decide, by decide⟩ rfl (Nat.le_of_ble_eq_true rfl) zd_Mo_touches_48 rfl ?_
            rintro _ _ ⟨r120, z120, rfl, rfl, h⟩
            obtain ⟨hi, h⟩ := h
            refine zl_32 hG hi zd_Mo_touches_51 ?_
            refine zr_if_eq hG 59 zd_Mo_touches_52 (by decide) (fun hc => ?_) (fun hc => ?_)
            · have h := h.1 hc
              exact zr_mask [true, true, false, true, false] (zt_Mo_touches_59 hG hR hAp hk4 h)
            · have h := h.2 hc
              exact zr_mask [true, true, false, true, false] (zt_Mo_touches_55 hG hR hAp hk4 h)
def zw_Mo_touches (a1 : Int32) (z : zS) (post : Int32 → zS → Prop) : Prop := zq_Lp (zw_Mo_touches_4 post) (a1, (0 : Int32), (0 : Int32), z)
set_option maxHeartbeats 4000000 in
set_option maxRecDepth 100000 in
theorem zm_Mo_touches (l : Launch) (w : zW) (hAp : zq_Ap w) (g : zS) (o : Nat → Int64) {a1 : Int32} {z : zS} {post : Int32 → zS → Prop} (h : zw_Mo_touches a1 z post) : zq_M l w zq_0 zy_Mo_touches zc_Mo_touches 5 (some .boolean) (zq_rm 3 70) [.ref (w.2.1 28), .int a1] (g, z, o) (zq_Ni g o post) := by
  refine zq_mk_M (by decide) (by simp [Value.category]) (Nat.le_of_ble_eq_true rfl) hAp (fun x hx hG hR => ?_)
  subst hx
  refine zr_iconst hG (v := (0 : Int32)) zd_Mo_touches_0 (by decide) ?_
  refine zr_istore_n hG [some (.ref (w.2.1 28)), some (.int a1), some (.int (0 : Int32)), none, none] zd_Mo_touches_1 rfl (Nat.le_of_ble_eq_true rfl) rfl ?_
  refine zr_iconst hG (v := (0 : Int32)) zd_Mo_touches_2 (by decide) ?_
  refine zr_istore_n hG [some (.ref (w.2.1 28)), some (.int a1), some (.int (0 : Int32)), some (.int (0 : Int32)), none] zd_Mo_touches_3 rfl (Nat.le_of_ble_eq_true rfl) rfl ?_
  exact zt_Mo_touches_4 hG hR hAp h
def zw_Mo_isJoined_126 (post : Int32 → zS → Prop) (k71 : Int32 × Int32 × zS → Prop) (k79 : Int32 × Int32 × Int32 × zS → Prop) (v1 v2 v3 : Int32) (z : zS) : Prop := k79 (v1, v2, (v3 + (1 : Int32)), z)
set_option maxHeartbeats 4000000 in
set_option maxRecDepth 100000 in
theorem zt_Mo_isJoined_126 {x : zC} {w : zW} {g : zS} {o : Nat → Int64} {post : Int32 → zS → Prop} (hG : zq_G x w "GridRouterModel" zc_Mo_isJoined 4 (zq_rm 4 94)) (hR : zq_R x w (zq_A w) (some .boolean) (zq_Ni g o post)) (hAp : zq_Ap w) (hW : zq_Wr x w) {k71 : Int32 × Int32 × zS → Prop} {k79 : Int32 × Int32 × Int32 × zS → Prop} (hk71 : ∀ b : Int32 × Int32 × zS, k71 b → zq_W x w 0 0 (g, b.2.2, o) 71 [some (.ref (w.2.1 28)), some (.int (b.1)), some (.int (b.2.1)), none] []) (hk79 : ∀ b : Int32 × Int32 × Int32 × zS, k79 b → zq_W x w 0 0 (g, b.2.2.2, o) 79 [some (.ref (w.2.1 28)), some (.int (b.1)), some (.int (b.2.1)), some (.int (b.2.2.1))] []) {v1 v2 v3 : Int32} {z : zS} (h : zw_Mo_isJoined_126 post k71 k79 v1 v2 v3 z) : zq_W x w 0 0 (g, z, o) 126 [some (.ref (w.2.1 28)), some (.int v1), some (.int v2), some (.int v3)] [] := by
  refine zr_iinc hG (u := (1 : Int32)) [some (.ref (w.2.1 28)), some (.int v1), some (.int v2), some (.int (v3 + (1 : Int32)))] zd_Mo_isJoined_126 rfl (by decide) (Nat.le_of_ble_eq_true rfl) rfl ?_
  refine zr_goto hG 79 zd_Mo_isJoined_129 (by decide) ?_
  have h := hk79 _ h
  exact h
def zw_Mo_isJoined_79 (post : Int32 → zS → Prop) (k71 : Int32 × Int32 × zS → Prop) (k79 : Int32 × Int32 × Int32 × zS → Prop) : Int32 × Int32 × Int32 × zS → Prop := fun b => match b with
  | (v1, v2, v3, z) => (zw_Mo_many z (fun r117 z117 => ((r117 ≤ v3 → k71 (v1, v2, z117)) ∧ (¬ r117 ≤ v3 → vp_in v3 162 ∧ ((¬ (z117.2 5 v3.toNatClampNeg) = 0 → zw_Mo_isJoined_126 post k71 k79 v1 v2 v3 z117) ∧ ((z117.2 5 v3.toNatClampNeg) = 0 → vp_in v3 162 ∧ ((¬ (z117.2 2 v3.toNatClampNeg) = v1 → zw_Mo_isJoined_126 post k71 k79 v1 v2 v3 z117) ∧ ((z117.2 2 v3.toNatClampNeg) = v1 → (zw_Mo_touches v3 z117 (fun r118 z118 => ((¬ r118 = 0 → vp_in v3 162 ∧ zw_Mo_isJoined_126 post k71 k79 v1 (1 : Int32) v3 (zs_a z118 5 v3 (vp_nar .boolean (1 : Int32)))) ∧ (r118 = 0 → zw_Mo_isJoined_126 post k71 k79 v1 v2 v3 z118))))))))))))
set_option maxHeartbeats 4000000 in
set_option maxRecDepth 100000 in
theorem zt_Mo_isJoined_79 {x : zC} {w : zW} {g : zS} {o : Nat → Int64} {post : Int32 → zS → Prop} (hG : zq_G x w "GridRouterModel" zc_Mo_isJoined 4 (zq_rm 4 94)) (hR : zq_R x w (zq_A w) (some .boolean) (zq_Ni g o post)) (hAp : zq_Ap w) (hW : zq_Wr x w) {k71 : Int32 × Int32 × zS → Prop} (hk71 : ∀ b : Int32 × Int32 × zS, k71 b → zq_W x w 0 0 (g, b.2.2, o) 71 [some (.ref (w.2.1 28)), some (.int (b.1)), some (.int (b.2.1)), none] []) {v1 v2 v3 : Int32} {z : zS} (h : zq_Lp (zw_Mo_isJoined_79 post k71) (v1, v2, v3, z)) : zq_W x w 0 0 (g, z, o) 79 [some (.ref (w.2.1 28)), some (.int v1), some (.int v2), some (.int v3)] [] := by
  refine zq_Lp_W (WW := fun b => zq_W x w 0 0 (g, b.2.2.2, o) 79 [some (.ref (w.2.1 28)), some (.int (b.1)), some (.int (b.2.1)), some (.int (b.2.2.1))] []) (fun k79 hk79 b h => ?_) h
  obtain ⟨v1, v2, v3, z⟩ := b
  show zq_W x w 0 0 (g, z, o) 79 [some (.ref (w.2.1 28)), some (.int v1), some (.int v2), some (.int v3)] []
  have h : (zw_Mo_many z (fun r117 z117 => ((r117 ≤ v3 → k71 (v1, v2, z117)) ∧ (¬ r117 ≤ v3 → vp_in v3 162 ∧ ((¬ (z117.2 5 v3.toNatClampNeg) = 0 → zw_Mo_isJoined_126 post k71 k79 v1 v2 v3 z117) ∧ ((z117.2 5 v3.toNatClampNeg) = 0 → vp_in v3 162 ∧ ((¬ (z117.2 2 v3.toNatClampNeg) = v1 → zw_Mo_isJoined_126 post k71 k79 v1 v2 v3 z117) ∧ ((z117.2 2 v3.toNatClampNeg) = v1 → (zw_Mo_touches v3 z117 (fun r118 z118 => ((¬ r118 = 0 → vp_in v3 162 ∧ zw_Mo_isJoined_126 post k71 k79 v1 (1 : Int32) v3 (zs_a z118 5 v3 (vp_nar .boolean (1 : Int32)))) ∧ (r118 = 0 → zw_Mo_isJoined_126 post k71 k79 v1 v2 v3 z118)))))))))))) := h
  refine zr_iload_n hG zd_Mo_isJoined_79 rfl rfl ?_
  refine zr_aload_n hG zd_Mo_isJoined_80 rfl rfl ?_
  refine zr_callV hG zq_F0 (As := []) (rest := [.int v3]) (zm_Mo_many (zc_l x) w hAp g o h) 28 rfl rfl rfl zg_Mo_86 zdd_Mo_many ⟨rfl, rfl, by decide, by decide⟩ ⟨by decide, by decide⟩ rfl (Nat.le_of_ble_eq_true rfl) zd_Mo_isJoined_81 rfl ?_
  rintro _ _ ⟨r117, z117, rfl, rfl, h⟩
  refine zr_icmp_ge hG 132 zd_Mo_isJoined_84 (by decide) (fun hc => ?_) (fun hc => ?_)
  · have h := h.1 hc
    refine zr_goto hG 71 zd_Mo_isJoined_132 (by decide) ?_
    have h := hk71 _ h
    exact zr_mask [true, true, true, false] (h)
  · have h := h.2 hc
    refine zr_aload_n hG zd_Mo_isJoined_87 rfl rfl ?_
    refine zf_Mo_mark hG tk_773 zd_Mo_isJoined_88 ?_
    refine zr_iload_n hG zd_Mo_isJoined_91 rfl rfl ?_
    obtain ⟨hi, h⟩ := h
    refine zl_34 hG hi zd_Mo_isJoined_92 ?_
    refine zr_if_ne hG 126 zd_Mo_isJoined_93 (by decide) (fun hc => ?_) (fun hc => ?_)
    · have h := h.1 hc
      exact zt_Mo_isJoined_126 hG hR hAp hW hk71 hk79 h
    · have h := h.2 hc
      refine zr_aload_n hG zd_Mo_isJoined_96 rfl rfl ?_
      refine zf_Mo_owner hG tk_770 zd_Mo_isJoined_97 ?_
      refine zr_iload_n hG zd_Mo_isJoined_100 rfl rfl ?_
      obtain ⟨hi, h⟩ := h
      refine zl_31 hG hi zd_Mo_isJoined_101 ?_
      refine zr_iload_n hG zd_Mo_isJoined_102 rfl rfl ?_
      refine zr_icmp_ne hG 126 zd_Mo_isJoined_103 (by decide) (fun hc => ?_) (fun hc => ?_)
      · have h := h.1 hc
        exact zt_Mo_isJoined_126 hG hR hAp hW hk71 hk79 h
      · have h := h.2 hc
        refine zr_aload_n hG zd_Mo_isJoined_106 rfl rfl ?_
        refine zr_iload_n hG zd_Mo_isJoined_107 rfl rfl ?_
        refine zr_callV hG zq_F0 (As := [.int v3]) (rest := []) (zm_Mo_touches (zc_l x) w hAp g o h) 28 rfl rfl rfl zg_Mo_152 zdd_Mo_touches ⟨rfl, rfl, by decide, by decide⟩ ⟨by decide, by decide⟩ rfl (Nat.le_of_ble_eq_true rfl) zd_Mo_isJoined_108 rfl ?_
        rintro _ _ ⟨r118, z118, rfl, rfl, h⟩
        refine zr_if_ne hG 117 zd_Mo_isJoined_111 (by decide) (fun hc => ?_) (fun hc => ?_)
        · have h := h.1 hc
          refine zr_aload_n hG zd_Mo_isJoined_117 rfl rfl ?_
          refine zf_Mo_mark hG tk_773 zd_Mo_isJoined_118 ?_
          refine zr_iload_n hG zd_Mo_isJoined_121 rfl rfl ?_
          refine zr_iconst hG (v := (1 : Int32)) zd_Mo_isJoined_122 (by decide) ?_
          obtain ⟨hi, h⟩ := h
          refine zu_34 hG hW hi zd_Mo_isJoined_123 ?_
          refine zr_iconst hG (v := (1 : Int32)) zd_Mo_isJoined_124 (by decide) ?_
          refine zr_istore_n hG [some (.ref (w.2.1 28)), some (.int v1), some (.int (1 : Int32)), some (.int v3)] zd_Mo_isJoined_125 rfl (Nat.le_of_ble_eq_true rfl) rfl ?_
          exact zt_Mo_isJoined_126 hG hR hAp hW hk71 hk79 h
        · have h := h.2 hc
          refine zr_goto hG 126 zd_Mo_isJoined_114 (by decide) ?_
          exact zt_Mo_isJoined_126 hG hR hAp hW hk71 hk79 h
def zw_Mo_isJoined_71 (post : Int32 → zS → Prop) (k71 : Int32 × Int32 × zS → Prop) : Int32 × Int32 × zS → Prop := fun b => match b with
  | (v1, v2, z) => ((v2 = 0 → vp_in v1 6 ∧ vp_in (z.2 9 v1.toNatClampNeg) 162 ∧ (narrow .boolean (.int (z.2 5 (z.2 9 v1.toNatClampNeg).toNatClampNeg)) = .int (z.2 5 (z.2 9 v1.toNatClampNeg).toNatClampNeg) ∧ post (z.2 5 (z.2 9 v1.toNatClampNeg).toNatClampNeg) z)) ∧ (¬ v2 = 0 → zq_Lp (zw_Mo_isJoined_79 post k71) (v1, (0 : Int32), (0 : Int32), z)))
set_option maxHeartbeats 4000000 in
set_option maxRecDepth 100000 in
theorem zt_Mo_isJoined_71 {x : zC} {w : zW} {g : zS} {o : Nat → Int64} {post : Int32 → zS → Prop} (hG : zq_G x w "GridRouterModel" zc_Mo_isJoined 4 (zq_rm 4 94)) (hR : zq_R x w (zq_A w) (some .boolean) (zq_Ni g o post)) (hAp : zq_Ap w) (hW : zq_Wr x w) {v1 v2 : Int32} {z : zS} (h : zq_Lp (zw_Mo_isJoined_71 post) (v1, v2, z)) : zq_W x w 0 0 (g, z, o) 71 [some (.ref (w.2.1 28)), some (.int v1), some (.int v2), none] [] := by
  refine zq_Lp_W (WW := fun b => zq_W x w 0 0 (g, b.2.2, o) 71 [some (.ref (w.2.1 28)), some (.int (b.1)), some (.int (b.2.1)), none] []) (fun k71 hk71 b h => ?_) h
  obtain ⟨v1, v2, z⟩ := b
  show zq_W x w 0 0 (g, z, o) 71 [some (.ref (w.2.1 28)), some (.int v1), some (.int v2), none] []
  refine zr_iload_n hG zd_Mo_isJoined_71 rfl rfl ?_
  refine zr_if_eq hG 135 zd_Mo_isJoined_72 (by decide) (fun hc => ?_) (fun hc => ?_)
  · have h := h.1 hc
    refine zr_aload_n hG zd_Mo_isJoined_135 rfl rfl ?_
    refine zf_Mo_mark hG tk_773 zd_Mo_isJoined_136 ?_
    refine zr_aload_n hG zd_Mo_isJoined_139 rfl rfl ?_
    refine zf_Mo_second hG tk_778 zd_Mo_isJoined_140 ?_
    refine zr_iload_n hG zd_Mo_isJoined_143 rfl rfl ?_
    obtain ⟨hi, h⟩ := h
    refine zl_38 hG hi zd_Mo_isJoined_144 ?_
    obtain ⟨hi, h⟩ := h
    refine zl_34 hG hi zd_Mo_isJoined_145 ?_
    obtain ⟨hn, h⟩ := h
    exact zr_zret hG hR zd_Mo_isJoined_146 hn ⟨_, _, rfl, rfl, h⟩
  · have h := h.2 hc
    refine zr_iconst hG (v := (0 : Int32)) zd_Mo_isJoined_75 (by decide) ?_
    refine zr_istore_n hG [some (.ref (w.2.1 28)), some (.int v1), some (.int (0 : Int32)), none] zd_Mo_isJoined_76 rfl (Nat.le_of_ble_eq_true rfl) rfl ?_
    refine zr_iconst hG (v := (0 : Int32)) zd_Mo_isJoined_77 (by decide) ?_
    refine zr_istore_n hG [some (.ref (w.2.1 28)), some (.int v1), some (.int (0 : Int32)), some (.int (0 : Int32))] zd_Mo_isJoined_78 rfl (Nat.le_of_ble_eq_true rfl) rfl ?_
    exact zt_Mo_isJoined_79 hG hR hAp hW hk71 h
def zw_Mo_isJoined_62 (post : Int32 → zS → Prop) (k34 : Int32 × Int32 × zS → Prop) (v1 v2 u0 u1 : Int32) (z : zS) : Prop := vp_in u1 162 ∧ k34 (v1, (v2 + (1 : Int32)), (zs_a z 5 u1 (vp_nar .boolean u0)))
set_option maxHeartbeats 4000000 in
set_option maxRecDepth 100000 in
theorem zt_Mo_isJoined_62 {x : zC} {w : zW} {g : zS} {o : Nat → Int64} {post : Int32 → zS → Prop} (hG : zq_G x w "GridRouterModel" zc_Mo_isJoined 4 (zq_rm 4 94)) (hR : zq_R x w (zq_A w) (some .boolean) (zq_Ni g o post)) (hAp : zq_Ap w) (hW : zq_Wr x w) {k34 : Int32 × Int32 × zS → Prop} (hk34 : ∀ b : Int32 × Int32 × zS, k34 b → zq_W x w 0 0 (g, b.2.2, o) 34 [some (.ref (w.2.1 28)), some (.int (b.1)), some (.int (b.2.1)), none] []) {v1 v2 u0 u1 : Int32} {z : zS} (h : zw_Mo_isJoined_62 post k34 v1 v2 u0 u1 z) : zq_W x w 0 0 (g, z, o) 62 [some (.ref (w.2.1 28)), some (.int v1), some (.int v2), none] [.int u0, .int u1, .ref (w.2.1 34)] := by
  obtain ⟨hi, h⟩ := h
  refine zu_34 hG hW hi zd_Mo_isJoined_62 ?_
  refine zr_iinc hG (u := (1 : Int32)) [some (.ref (w.2.1 28)), some (.int v1), some (.int (v2 + (1 : Int32))), none] zd_Mo_isJoined_63 rfl (by decide) (Nat.le_of_ble_eq_true rfl) rfl ?_
  refine zr_goto hG 34 zd_Mo_isJoined_66 (by decide) ?_
  have h := hk34 _ h
  exact h
def zw_Mo_isJoined_34 (post : Int32 → zS → Prop) (k34 : Int32 × Int32 × zS → Prop) : Int32 × Int32 × zS → Prop := fun b => match b with
  | (v1, v2, z) => (zw_Mo_many z (fun r116 z116 => ((r116 ≤ v2 → zq_Lp (zw_Mo_isJoined_71 post) (v1, (1 : Int32), z116)) ∧ (¬ r116 ≤ v2 → vp_in v1 6 ∧ ((¬ v2 = (z116.2 8 v1.toNatClampNeg) → zw_Mo_isJoined_62 post k34 v1 v2 (0 : Int32) v2 z116) ∧ (v2 = (z116.2 8 v1.toNatClampNeg) → zw_Mo_isJoined_62 post k34 v1 v2 (1 : Int32) v2 z116))))))
set_option maxHeartbeats 4000000 in
set_option maxRecDepth 100000 in
theorem zt_Mo_isJoined_34 {x : zC} {w : zW} {g : zS} {o : Nat → Int64} {post : Int32 → zS → Prop} (hG : zq_G x w "GridRouterModel" zc_Mo_isJoined 4 (zq_rm 4 94)) (hR : zq_R x w (zq_A w) (some .boolean) (zq_Ni g o post)) (hAp : zq_Ap w) (hW : zq_Wr x w) {v1 v2 : Int32} {z : zS} (h : zq_Lp (zw_Mo_isJoined_34 post) (v1, v2, z)) : zq_W x w 0 0 (g, z, o) 34 [some (.ref (w.2.1 28)), some (.int v1), some (.int v2), none] [] := by
  refine zq_Lp_W (WW := fun b => zq_W x w 0 0 (g, b.2.2, o) 34 [some (.ref (w.2.1 28)), some (.int (b.1)), some (.int (b.2.1)), none] []) (fun k34 hk34 b h => ?_) h
  obtain ⟨v1, v2, z⟩ := b
  show zq_W x w 0 0 (g, z, o) 34 [some (.ref (w.2.1 28)), some (.int v1), some (.int v2), none] []
  have h : (zw_Mo_many z (fun r116 z116 => ((r116 ≤ v2 → zq_Lp (zw_Mo_isJoined_71 post) (v1, (1 : Int32), z116)) ∧ (¬ r116 ≤ v2 → vp_in v1 6 ∧ ((¬ v2 = (z116.2 8 v1.toNatClampNeg) → zw_Mo_isJoined_62 post k34 v1 v2 (0 : Int32) v2 z116) ∧ (v2 = (z116.2 8 v1.toNatClampNeg) → zw_Mo_isJoined_62 post k34 v1 v2 (1 : Int32) v2 z116)))))) := h
  refine zr_iload_n hG zd_Mo_isJoined_34 rfl rfl ?_
  refine zr_aload_n hG zd_Mo_isJoined_35 rfl rfl ?_
  refine zr_callV hG zq_F0 (As := []) (rest := [.int v2]) (zm_Mo_many (zc_l x) w hAp g o h) 28 rfl rfl rfl zg_Mo_86 zdd_Mo_many ⟨rfl, rfl, by decide, by decide⟩ ⟨by decide, by decide⟩ rfl (Nat.le_of_ble_eq_true rfl) zd_Mo_isJoined_36 rfl ?_
  rintro _ _ ⟨r116, z116, rfl, rfl, h⟩
  refine zr_icmp_ge hG 69 zd_Mo_isJoined_39 (by decide) (fun hc => ?_) (fun hc => ?_)
  · have h := h.1 hc
    refine zr_iconst hG (v := (1 : Int32)) zd_Mo_isJoined_69 (by decide) ?_
    refine zr_istore_n hG [some (.ref (w.2.1 28)), some (.int v1), some (.int (1 : Int32)), none] zd_Mo_isJoined_70 rfl (Nat.le_of_ble_eq_true rfl) rfl ?_
    exact zt_Mo_isJoined_71 hG hR hAp hW h
  · have h := h.2 hc
    refine zr_aload_n hG zd_Mo_isJoined_42 rfl rfl ?_
    refine zf_Mo_mark hG tk_773 zd_Mo_isJoined_43 ?_
    refine zr_iload_n hG zd_Mo_isJoined_46 rfl rfl ?_
    refine zr_iload_n hG zd_Mo_isJoined_47 rfl rfl ?_
    refine zr_aload_n hG zd_Mo_isJoined_48 rfl rfl ?_
    refine zf_Mo_first hG tk_777 zd_Mo_isJoined_49 ?_
    refine zr_iload_n hG zd_Mo_isJoined_52 rfl rfl ?_
    obtain ⟨hi, h⟩ := h
    refine zl_37 hG hi zd_Mo_isJoined_53 ?_
    refine zr_icmp_ne hG 61 zd_Mo_isJoined_54 (by decide) (fun hc => ?_) (fun hc => ?_)
    · have h := h.1 hc
      refine zr_iconst hG (v := (0 : Int32)) zd_Mo_isJoined_61 (by decide) ?_
      exact zt_Mo_isJoined_62 hG hR hAp hW hk34 h
    · have h := h.2 hc
      refine zr_iconst hG (v := (1 : Int32)) zd_Mo_isJoined_57 (by decide) ?_
      refine zr_goto hG 62 zd_Mo_isJoined_58 (by decide) ?_
      exact zt_Mo_isJoined_62 hG hR hAp hW hk34 h
def zw_Mo_isJoined_30 (post : Int32 → zS → Prop) (z : zS) : Prop := (narrow .boolean (.int (0 : Int32)) = .int (0 : Int32) ∧ post (0 : Int32) z)
set_option maxHeartbeats 4000000 in
set_option maxRecDepth 100000 in
theorem zt_Mo_isJoined_30 {x : zC} {w : zW} {g : zS} {o : Nat → Int64} {post : Int32 → zS → Prop} (hG : zq_G x w "GridRouterModel" zc_Mo_isJoined 4 (zq_rm 4 94)) (hR : zq_R x w (zq_A w) (some .boolean) (zq_Ni g o post)) (hAp : zq_Ap w) (hW : zq_Wr x w) {z : zS} (h : zw_Mo_isJoined_30 post z) : zq_W x w 0 0 (g, z, o) 30 [none, none, none, none] [] := by
  refine zr_iconst hG (v := (0 : Int32)) zd_Mo_isJoined_30 (by decide) ?_
  obtain ⟨hn, h⟩ := h
  exact zr_zret hG hR zd_Mo_isJoined_31 hn ⟨_, _, rfl, rfl, h⟩
def zw_Mo_isJoined (a1 : Int32) (z : zS) (post : Int32 → zS → Prop) : Prop := vp_in a1 6 ∧ vp_in (z.2 8 a1.toNatClampNeg) 162 ∧ ((¬ (z.2 2 (z.2 8 a1.toNatClampNeg).toNatClampNeg) = a1 → zw_Mo_isJoined_30 post z) ∧ ((z.2 2 (z.2 8 a1.toNatClampNeg).toNatClampNeg) = a1 → vp_in a1 6 ∧ vp_in (z.2 9 a1.toNatClampNeg) 162 ∧ (((z.2 2 (z.2 9 a1.toNatClampNeg).toNatClampNeg) = a1 → zq_Lp (zw_Mo_isJoined_34 post) (a1, (0 : Int32), z)) ∧ (¬ (z.2 2 (z.2 9 a1.toNatClampNeg).toNatClampNeg) = a1 → zw_Mo_isJoined_30 post z))))
set_option maxHeartbeats 4000000 in
set_option maxRecDepth 100000 in
theorem zm_Mo_isJoined (l : Launch) (w : zW) (hAp : zq_Ap w) (g : zS) (o : Nat → Int64) {a1 : Int32} {z : zS} {post : Int32 → zS → Prop} (h : zw_Mo_isJoined a1 z post) : zq_M l w (zq_A w) zy_Mo_isJoined zc_Mo_isJoined 4 (some .boolean) (zq_rm 4 94) [.ref (w.2.1 28), .int a1] (g, z, o) (zq_Ni g o post) := by
  refine zq_mk_M (by decide) (by simp [Value.category]) (Nat.le_of_ble_eq_true rfl) hAp (fun x hx hG hR => ?_)
  subst hx
  have hW := zq_wr hR.2.2.1
  refine zr_aload_n hG zd_Mo_isJoined_0 rfl rfl ?_
  refine zf_Mo_owner hG tk_770 zd_Mo_isJoined_1 ?_
  refine zr_aload_n hG zd_Mo_isJoined_4 rfl rfl ?_
  refine zf_Mo_first hG tk_777 zd_Mo_isJoined_5 ?_
  refine zr_iload_n hG zd_Mo_isJoined_8 rfl rfl ?_
  obtain ⟨hi, h⟩ := h
  refine zl_37 hG hi zd_Mo_isJoined_9 ?_
  obtain ⟨hi, h⟩ := h
  refine zl_31 hG hi zd_Mo_isJoined_10 ?_
  refine zr_iload_n hG zd_Mo_isJoined_11 rfl rfl ?_
  refine zr_icmp_ne hG 30 zd_Mo_isJoined_12 (by decide) (fun hc => ?_) (fun hc => ?_)
  · have h := h.1 hc
    exact zr_mask [false, false, false, false] (zt_Mo_isJoined_30 hG hR hAp hW h)
  · have h := h.2 hc
    refine zr_aload_n hG zd_Mo_isJoined_15 rfl rfl ?_
    refine zf_Mo_owner hG tk_770 zd_Mo_isJoined_16 ?_
    refine zr_aload_n hG zd_Mo_isJoined_19 rfl rfl ?_
    refine zf_Mo_second hG tk_778 zd_Mo_isJoined_20 ?_
    refine zr_iload_n hG zd_Mo_isJoined_23 rfl rfl ?_
    obtain ⟨hi, h⟩ := h
    refine zl_38 hG hi zd_Mo_isJoined_24 ?_
    obtain ⟨hi, h⟩ := h
    refine zl_31 hG hi zd_Mo_isJoined_25 ?_
    refine zr_iload_n hG zd_Mo_isJoined_26 rfl rfl ?_
    refine zr_icmp_eq hG 32 zd_Mo_isJoined_27 (by decide) (fun hc => ?_) (fun hc => ?_)
    · have h := h.1 hc
      refine zr_iconst hG (v := (0 : Int32)) zd_Mo_isJoined_32 (by decide) ?_
      refine zr_istore_n hG [some (.ref (w.2.1 28)), some (.int a1), some (.int (0 : Int32)), none] zd_Mo_isJoined_33 rfl (Nat.le_of_ble_eq_true rfl) rfl ?_
      exact zt_Mo_isJoined_34 hG hR hAp hW h
    · have h := h.2 hc
      exact zr_mask [false, false, false, false] (zt_Mo_isJoined_30 hG hR hAp hW h)
def zw_Mo_countOpen_26 (post : Int32 → zS → Prop) (k4 : Int32 × Int32 × zS → Prop) (v2 u0 u1 : Int32) (z : zS) : Prop := k4 ((u1 + u0), (v2 + (1 : Int32)), z)
set_option maxHeartbeats 4000000 in
set_option maxRecDepth 100000 in
theorem zt_Mo_countOpen_26 {x : zC} {w : zW} {g : zS} {o : Nat → Int64} {post : Int32 → zS → Prop} (hG : zq_G x w "GridRouterModel" zc_Mo_countOpen 3 (zq_rm 5 117)) (hR : zq_R x w (zq_A w) (some .int) (zq_Ni g o post)) (hAp : zq_Ap w) (hW : zq_Wr x w) {k4 : Int32 × Int32 × zS → Prop} (hk4 : ∀ b : Int32 × Int32 × zS, k4 b → zq_W x w 0 0 (g, b.2.2, o) 4 [some (.ref (w.2.1 28)), some (.int (b.1)), some (.int (b.2.1))] []) {v2 u0 u1 : Int32} {z : zS} (h : zw_Mo_countOpen_26 post k4 v2 u0 u1 z) : zq_W x w 0 0 (g, z, o) 26 [some (.ref (w.2.1 28)), none, some (.int v2)] [.int u0, .int u1] := by
  refine zr_iadd hG zd_Mo_countOpen_26 ?_
  refine zr_istore_n hG [some (.ref (w.2.1 28)), some (.int (u1 + u0)), some (.int v2)] zd_Mo_countOpen_27 rfl (Nat.le_of_ble_eq_true rfl) rfl ?_
  refine zr_iinc hG (u := (1 : Int32)) [some (.ref (w.2.1 28)), some (.int (u1 + u0)), some (.int (v2 + (1 : Int32)))] zd_Mo_countOpen_28 rfl (by decide) (Nat.le_of_ble_eq_true rfl) rfl ?_
  refine zr_goto hG 4 zd_Mo_countOpen_31 (by decide) ?_
  have h := hk4 _ h
  exact h
def zw_Mo_countOpen_4 (post : Int32 → zS → Prop) (k4 : Int32 × Int32 × zS → Prop) : Int32 × Int32 × zS → Prop := fun b => match b with
  | (v1, v2, z) => (((z.1 5) ≤ v2 → post v1 z) ∧ (¬ (z.1 5) ≤ v2 → (zw_Mo_isJoined v2 z (fun r121 z121 => ((r121 = 0 → zw_Mo_countOpen_26 post k4 v2 (1 : Int32) v1 z121) ∧ (¬ r121 = 0 → zw_Mo_countOpen_26 post k4 v2 (0 : Int32) v1 z121))))))
set_option maxHeartbeats 4000000 in
set_option maxRecDepth 100000 in
theorem zt_Mo_countOpen_4 {x : zC} {w : zW} {g : zS} {o : Nat → Int64} {post : Int32 → zS → Prop} (hG : zq_G x w "GridRouterModel" zc_Mo_countOpen 3 (zq_rm 5 117)) (hR : zq_R x w (zq_A w) (some .int) (zq_Ni g o post)) (hAp : zq_Ap w) (hW : zq_Wr x w) {v1 v2 : Int32} {z : zS} (h : zq_Lp (zw_Mo_countOpen_4 post) (v1, v2, z)) : zq_W x w 0 0 (g, z, o) 4 [some (.ref (w.2.1 28)), some (.int v1), some (.int v2)] [] := by
  refine zq_Lp_W (WW := fun b => zq_W x w 0 0 (g, b.2.2, o) 4 [some (.ref (w.2.1 28)), some (.int (b.1)), some (.int (b.2.1))] []) (fun k4 hk4 b h => ?_) h
  obtain ⟨v1, v2, z⟩ := b
  show zq_W x w 0 0 (g, z, o) 4 [some (.ref (w.2.1 28)), some (.int v1), some (.int v2)] []
  refine zr_iload_n hG zd_Mo_countOpen_4 rfl rfl ?_
  refine zr_aload_n hG zd_Mo_countOpen_5 rfl rfl ?_
  refine zf_Mo_nets hG tk_776 zd_Mo_countOpen_6 ?_
  refine zr_icmp_ge hG 34 zd_Mo_countOpen_9 (by decide) (fun hc => ?_) (fun hc => ?_)
  · have h := h.1 hc
    refine zr_iload_n hG zd_Mo_countOpen_34 rfl rfl ?_
    exact zr_iret hG hR zd_Mo_countOpen_35 ⟨_, _, rfl, rfl, h⟩
  · have h := h.2 hc
    refine zr_iload_n hG zd_Mo_countOpen_12 rfl rfl ?_
    refine zr_aload_n hG zd_Mo_countOpen_13 rfl rfl ?_
    refine zr_iload_n hG zd_Mo_countOpen_14 rfl rfl ?_
    refine zr_callV hG (zq_F1 hW) (As := [.int v2]) (rest := [.int v1]) (zm_Mo_isJoined (zc_l x) w hAp g o h) 28 rfl rfl rfl zg_Mo_146 zdd_Mo_isJoined ⟨rfl, rfl, by decide, by decide⟩ ⟨by decide, by decide⟩ rfl (Nat.le_of_ble_eq_true rfl) zd_Mo_countOpen_15 rfl ?_
    rintro _ _ ⟨r121, z121, rfl, rfl, h⟩
    refine zr_if_eq hG 25 zd_Mo_countOpen_18 (by decide) (fun hc => ?_) (fun hc => ?_)
    · have h := h.1 hc
      refine zr_iconst hG (v := (1 : Int32)) zd_Mo_countOpen_25 (by decide) ?_
      exact zr_mask [true, false, true] (zt_Mo_countOpen_26 hG hR hAp hW hk4 h)
    · have h := h.2 hc
      refine zr_iconst hG (v := (0 : Int32)) zd_Mo_countOpen_21 (by decide) ?_
      refine zr_goto hG 26 zd_Mo_countOpen_22 (by decide) ?_
      exact zr_mask [true, false, true] (zt_Mo_countOpen_26 hG hR hAp hW hk4 h)
def zw_Mo_countOpen (z : zS) (post : Int32 → zS → Prop) : Prop := zq_Lp (zw_Mo_countOpen_4 post) ((0 : Int32), (0 : Int32), z)
set_option maxHeartbeats 4000000 in
set_option maxRecDepth 100000 in
theorem zm_Mo_countOpen (l : Launch) (w : zW) (hAp : zq_Ap w) (g : zS) (o : Nat → Int64) {z : zS} {post : Int32 → zS → Prop} (h : zw_Mo_countOpen z post) : zq_M l w (zq_A w) zy_Mo_countOpen zc_Mo_countOpen 3 (some .int) (zq_rm 5 117) [.ref (w.2.1 28)] (g, z, o) (zq_Ni g o post) := by
  refine zq_mk_M (by decide) (by simp [Value.category]) (Nat.le_of_ble_eq_true rfl) hAp (fun x hx hG hR => ?_)
  subst hx
  have hW := zq_wr hR.2.2.1
  refine zr_iconst hG (v := (0 : Int32)) zd_Mo_countOpen_0 (by decide) ?_
  refine zr_istore_n hG [some (.ref (w.2.1 28)), some (.int (0 : Int32)), none] zd_Mo_countOpen_1 rfl (Nat.le_of_ble_eq_true rfl) rfl ?_
  refine zr_iconst hG (v := (0 : Int32)) zd_Mo_countOpen_2 (by decide) ?_
  refine zr_istore_n hG [some (.ref (w.2.1 28)), some (.int (0 : Int32)), some (.int (0 : Int32))] zd_Mo_countOpen_3 rfl (Nat.le_of_ble_eq_true rfl) rfl ?_
  exact zt_Mo_countOpen_4 hG hR hAp hW h
def zw_Mo_all_268 (post : Int32 → zS → Prop) (k225 : Int32 × zS → Prop) (k236 : Int32 × Int32 × zS → Prop) (v4 v5 : Int32) (z : zS) : Prop := k236 (v4, (v5 + (1 : Int32)), z)
set_option maxHeartbeats 4000000 in
set_option maxRecDepth 100000 in
theorem zt_Mo_all_268 {x : zC} {w : zW} {g : zS} {o : Nat → Int64} {post : Int32 → zS → Prop} (hG : zq_G x w "GridRouterModel" zc_Mo_all 6 (zq_rm 8 192)) (hR : zq_R x w (zq_A w) (some .int) (zq_Ni g o post)) (hAp : zq_Ap w) (hW : zq_Wr x w) {k225 : Int32 × zS → Prop} {k236 : Int32 × Int32 × zS → Prop} (hk225 : ∀ b : Int32 × zS, k225 b → zq_W x w 0 0 (g, b.2, o) 225 [some (.ref (w.2.1 28)), none, none, none, some (.int (b.1)), none] []) (hk236 : ∀ b : Int32 × Int32 × zS, k236 b → zq_W x w 0 0 (g, b.2.2, o) 236 [some (.ref (w.2.1 28)), none, none, none, some (.int (b.1)), some (.int (b.2.1))] []) {v4 v5 : Int32} {z : zS} (h : zw_Mo_all_268 post k225 k236 v4 v5 z) : zq_W x w 0 0 (g, z, o) 268 [some (.ref (w.2.1 28)), none, none, none, some (.int v4), some (.int v5)] [] := by
  refine zr_iinc hG (u := (1 : Int32)) [some (.ref (w.2.1 28)), none, none, none, some (.int v4), some (.int (v5 + (1 : Int32)))] zd_Mo_all_268 rfl (by decide) (Nat.le_of_ble_eq_true rfl) rfl ?_
  refine zr_goto hG 236 zd_Mo_all_271 (by decide) ?_
  have h := hk236 _ h
  exact h
def zw_Mo_all_236 (post : Int32 → zS → Prop) (k225 : Int32 × zS → Prop) (k236 : Int32 × Int32 × zS → Prop) : Int32 × Int32 × zS → Prop := fun b => match b with
  | (v4, v5, z) => (((z.1 5) ≤ v5 → k225 (v4, z)) ∧ (¬ (z.1 5) ≤ v5 → (zw_Mo_isJoined v5 z (fun r109 z109 => ((¬ r109 = 0 → zw_Mo_all_268 post k225 k236 v4 v5 z109) ∧ (r109 = 0 → (zw_Mo_find v5 (0 : Int32) z109 (fun r110 z110 => ((r110 = (-1 : Int32) → zw_Mo_all_268 post k225 k236 v4 v5 z110) ∧ (¬ r110 = (-1 : Int32) → zw_Mo_all_268 post k225 k236 (1 : Int32) v5 z110))))))))))
set_option maxHeartbeats 4000000 in
set_option maxRecDepth 100000 in
theorem zt_Mo_all_236 {x : zC} {w : zW} {g : zS} {o : Nat → Int64} {post : Int32 → zS → Prop} (hG : zq_G x w "GridRouterModel" zc_Mo_all 6 (zq_rm 8 192)) (hR : zq_R x w (zq_A w) (some .int) (zq_Ni g o post)) (hAp : zq_Ap w) (hW : zq_Wr x w) {k225 : Int32 × zS → Prop} (hk225 : ∀ b : Int32 × zS, k225 b → zq_W x w 0 0 (g, b.2, o) 225 [some (.ref (w.2.1 28)), none, none, none, some (.int (b.1)), none] []) {v4 v5 : Int32} {z : zS} (h : zq_Lp (zw_Mo_all_236 post k225) (v4, v5, z)) : zq_W x w 0 0 (g, z, o) 236 [some (.ref (w.2.1 28)), none, none, none, some (.int v4), some (.int v5)] [] := by
  refine zq_Lp_W (WW := fun b => zq_W x w 0 0 (g, b.2.2, o) 236 [some (.ref (w.2.1 28)), none, none, none, some (.int (b.1)), some (.int (b.2.1))] []) (fun k236 hk236 b h => ?_) h
  obtain ⟨v4, v5, z⟩ := b
  show zq_W x w 0 0 (g, z, o) 236 [some (.ref (w.2.1 28)), none, none, none, some (.int v4), some (.int v5)] []
  refine zr_iload hG zd_Mo_all_236 rfl ?_
  refine zr_aload_n hG zd_Mo_all_238 rfl rfl ?_
  refine zf_Mo_nets hG tk_776 zd_Mo_all_239 ?_
  refine zr_icmp_ge hG 274 zd_Mo_all_242 (by decide) (fun hc => ?_) (fun hc => ?_)
  · have h := h.1 hc
    refine zr_goto hG 225 zd_Mo_all_274 (by decide) ?_
    have h := hk225 _ h
    exact zr_mask [true, false, false, false, true, false] (h)
  · have h := h.2 hc
    refine zr_aload_n hG zd_Mo_all_245 rfl rfl ?_
    refine zr_iload hG zd_Mo_all_246 rfl ?_
    refine zr_callV hG (zq_F1 hW) (As := [.int v5]) (rest := []) (zm_Mo_isJoined (zc_l x) w hAp g o h) 28 rfl rfl rfl zg_Mo_146 zdd_Mo_isJoined ⟨rfl, rfl, by decide, by decide⟩ ⟨by decide, by decide⟩ rfl (Nat.le_of_ble_eq_true rfl) zd_Mo_all_248 rfl ?_
    rintro _ _ ⟨r109, z109, rfl, rfl, h⟩
    refine zr_if_ne hG 268 zd_Mo_all_251 (by decide) (fun hc => ?_) (fun hc => ?_)
    · have h := h.1 hc
      exact zt_Mo_all_268 hG hR hAp hW hk225 hk236 h
    · have h := h.2 hc
      refine zr_aload_n hG zd_Mo_all_254 rfl rfl ?_
      refine zr_iload hG zd_Mo_all_255 rfl ?_
      refine zr_iconst hG (v := (0 : Int32)) zd_Mo_all_257 (by decide) ?_
      refine zr_callV hG (zq_F1 hW) (As := [.int v5, .int (0 : Int32)]) (rest := []) (zm_Mo_find (zc_l x) w hAp g o h) 28 rfl rfl rfl zg_Mo_126 zdd_Mo_find ⟨rfl, rfl, by decide, by decide⟩ ⟨by decide, by decide⟩ rfl (Nat.le_of_ble_eq_true rfl) zd_Mo_all_258 rfl ?_
      rintro _ _ ⟨r110, z110, rfl, rfl, h⟩
      refine zr_iconst hG (v := (-1 : Int32)) zd_Mo_all_261 (by decide) ?_
      refine zr_icmp_eq hG 268 zd_Mo_all_262 (by decide) (fun hc => ?_) (fun hc => ?_)
      · have h := h.1 hc
        exact zt_Mo_all_268 hG hR hAp hW hk225 hk236 h
      · have h := h.2 hc
        refine zr_iconst hG (v := (1 : Int32)) zd_Mo_all_265 (by decide) ?_
        refine zr_istore hG [some (.ref (w.2.1 28)), none, none, none, some (.int (1 : Int32)), some (.int v5)] zd_Mo_all_266 (Nat.le_of_ble_eq_true rfl) rfl ?_
        exact zt_Mo_all_268 hG hR hAp hW hk225 hk236 h
def zw_Mo_all_225 (post : Int32 → zS → Prop) (k225 : Int32 × zS → Prop) : Int32 × zS → Prop := fun b => match b with
  | (v4, z) => ((v4 = 0 → (zw_Mo_countOpen z (fun r108 z108 => post ((z.1 5) - r108) z108))) ∧ (¬ v4 = 0 → zq_Lp (zw_Mo_all_236 post k225) ((0 : Int32), (0 : Int32), z)))
set_option maxHeartbeats 4000000 in
set_option maxRecDepth 100000 in
theorem zt_Mo_all_225 {x : zC} {w : zW} {g : zS} {o : Nat → Int64} {post : Int32 → zS → Prop} (hG : zq_G x w "GridRouterModel" zc_Mo_all 6 (zq_rm 8 192)) (hR : zq_R x w (zq_A w) (some .int) (zq_Ni g o post)) (hAp : zq_Ap w) (hW : zq_Wr x w) {v4 : Int32} {z : zS} (h : zq_Lp (zw_Mo_all_225 post) (v4, z)) : zq_W x w 0 0 (g, z, o) 225 [some (.ref (w.2.1 28)), none, none, none, some (.int v4), none] [] := by
  refine zq_Lp_W (WW := fun b => zq_W x w 0 0 (g, b.2, o) 225 [some (.ref (w.2.1 28)), none, none, none, some (.int (b.1)), none] []) (fun k225 hk225 b h => ?_) h
  obtain ⟨v4, z⟩ := b
  show zq_W x w 0 0 (g, z, o) 225 [some (.ref (w.2.1 28)), none, none, none, some (.int v4), none] []
  refine zr_iload hG zd_Mo_all_225 rfl ?_
  refine zr_if_eq hG 277 zd_Mo_all_227 (by decide) (fun hc => ?_) (fun hc => ?_)
  · have h := h.1 hc
    refine zr_aload_n hG zd_Mo_all_277 rfl rfl ?_
    refine zf_Mo_nets hG tk_776 zd_Mo_all_278 ?_
    refine zr_aload_n hG zd_Mo_all_281 rfl rfl ?_
    refine zr_callV hG (zq_F1 hW) (As := []) (rest := [.int (z.1 5)]) (zm_Mo_countOpen (zc_l x) w hAp g o h) 28 rfl rfl rfl zg_Mo_149 zdd_Mo_countOpen ⟨rfl, rfl, by decide, by decide⟩ ⟨by decide, by decide⟩ rfl (Nat.le_of_ble_eq_true rfl) zd_Mo_all_282 rfl ?_
    rintro _ _ ⟨r108, z108, rfl, rfl, h⟩
    refine zr_isub hG zd_Mo_all_285 ?_
    exact zr_iret hG hR zd_Mo_all_286 ⟨_, _, rfl, rfl, h⟩
  · have h := h.2 hc
    refine zr_iconst hG (v := (0 : Int32)) zd_Mo_all_230 (by decide) ?_
    refine zr_istore hG [some (.ref (w.2.1 28)), none, none, none, some (.int (0 : Int32)), none] zd_Mo_all_231 (Nat.le_of_ble_eq_true rfl) rfl ?_
    refine zr_iconst hG (v := (0 : Int32)) zd_Mo_all_233 (by decide) ?_
    refine zr_istore hG [some (.ref (w.2.1 28)), none, none, none, some (.int (0 : Int32)), some (.int (0 : Int32))] zd_Mo_all_234 (Nat.le_of_ble_eq_true rfl) rfl ?_
    exact zt_Mo_all_236 hG hR hAp hW hk225 h
def zw_Mo_all_213 (post : Int32 → zS → Prop) (k56 : Int32 × Int32 × zS → Prop) (k159 : Int32 × Int32 × Int32 × zS → Prop) (v2 v3 v5 : Int32) (z : zS) : Prop := k159 (v2, v3, (v5 + (1 : Int32)), z)
set_option maxHeartbeats 4000000 in
set_option maxRecDepth 100000 in
theorem zt_Mo_all_213 {x : zC} {w : zW} {g : zS} {o : Nat → Int64} {post : Int32 → zS → Prop} (hG : zq_G x w "GridRouterModel" zc_Mo_all 6 (zq_rm 8 192)) (hR : zq_R x w (zq_A w) (some .int) (zq_Ni g o post)) (hAp : zq_Ap w) (hW : zq_Wr x w) {k56 : Int32 × Int32 × zS → Prop} {k159 : Int32 × Int32 × Int32 × zS → Prop} (hk56 : ∀ b : Int32 × Int32 × zS, k56 b → zq_W x w 0 0 (g, b.2.2, o) 56 [some (.ref (w.2.1 28)), none, some (.int (b.1)), some (.int (b.2.1)), none, none] []) (hk159 : ∀ b : Int32 × Int32 × Int32 × zS, k159 b → zq_W x w 0 0 (g, b.2.2.2, o) 159 [some (.ref (w.2.1 28)), none, some (.int (b.1)), some (.int (b.2.1)), none, some (.int (b.2.2.1))] []) {v2 v3 v5 : Int32} {z : zS} (h : zw_Mo_all_213 post k56 k159 v2 v3 v5 z) : zq_W x w 0 0 (g, z, o) 213 [some (.ref (w.2.1 28)), none, some (.int v2), some (.int v3), none, some (.int v5)] [] := by
  refine zr_iinc hG (u := (1 : Int32)) [some (.ref (w.2.1 28)), none, some (.int v2), some (.int v3), none, some (.int (v5 + (1 : Int32)))] zd_Mo_all_213 rfl (by decide) (Nat.le_of_ble_eq_true rfl) rfl ?_
  refine zr_goto hG 159 zd_Mo_all_216 (by decide) ?_
  have h := hk159 _ h
  exact h
def zw_Mo_all_159 (post : Int32 → zS → Prop) (k56 : Int32 × Int32 × zS → Prop) (k159 : Int32 × Int32 × Int32 × zS → Prop) : Int32 × Int32 × Int32 × zS → Prop := fun b => match b with
  | (v2, v3, v5, z) => (((z.1 5) ≤ v5 → k56 (v2, v3, z)) ∧ (¬ (z.1 5) ≤ v5 → (((((z.1 7) >>> (v5 &&& 31)) &&& (1 : Int32)) = 0 → zw_Mo_all_213 post k56 k159 v2 v3 v5 z) ∧ (¬ (((z.1 7) >>> (v5 &&& 31)) &&& (1 : Int32)) = 0 → (zw_Mo_stands v5 z (fun r107 z107 => ((r107 = 0 → vp_in (z107.1 6) 6 ∧ zw_Mo_all_213 post k56 k159 v2 v3 v5 (zs_s (zs_a z107 10 (z107.1 6) v5) 6 (((zs_a z107 10 (z107.1 6) v5).1 6) + (1 : Int32)))) ∧ (¬ r107 = 0 → zw_Mo_all_213 post k56 k159 v2 v3 v5 z107))))))))
set_option maxHeartbeats 4000000 in
set_option maxRecDepth 100000 in
theorem zt_Mo_all_159 {x : zC} {w : zW} {g : zS} {o : Nat → Int64} {post : Int32 → zS → Prop} (hG : zq_G x w "GridRouterModel" zc_Mo_all 6 (zq_rm 8 192)) (hR : zq_R x w (zq_A w) (some .int) (zq_Ni g o post)) (hAp : zq_Ap w) (hW : zq_Wr x w) {k56 : Int32 × Int32 × zS → Prop} (hk56 : ∀ b : Int32 × Int32 × zS, k56 b → zq_W x w 0 0 (g, b.2.2, o) 56 [some (.ref (w.2.1 28)), none, some (.int (b.1)), some (.int (b.2.1)), none, none] []) {v2 v3 v5 : Int32} {z : zS} (h : zq_Lp (zw_Mo_all_159 post k56) (v2, v3, v5, z)) : zq_W x w 0 0 (g, z, o) 159 [some (.ref (w.2.1 28)), none, some (.int v2), some (.int v3), none, some (.int v5)] [] := by
  refine zq_Lp_W (WW := fun b => zq_W x w 0 0 (g, b.2.2.2, o) 159 [some (.ref (w.2.1 28)), none, some (.int (b.1)), some (.int (b.2.1)), none, some (.int (b.2.2.1))] []) (fun k159 hk159 b h => ?_) h
  obtain ⟨v2, v3, v5, z⟩ := b
  show zq_W x w 0 0 (g, z, o) 159 [some (.ref (w.2.1 28)), none, some (.int v2), some (.int v3), none, some (.int v5)] []
  refine zr_iload hG zd_Mo_all_159 rfl ?_
  refine zr_aload_n hG zd_Mo_all_161 rfl rfl ?_
  refine zf_Mo_nets hG tk_776 zd_Mo_all_162 ?_
  refine zr_icmp_ge hG 219 zd_Mo_all_165 (by decide) (fun hc => ?_) (fun hc => ?_)
  · have h := h.1 hc
    refine zr_goto hG 56 zd_Mo_all_219 (by decide) ?_
    have h := hk56 _ h
    exact zr_mask [true, false, true, true, false, false] (h)
  · have h := h.2 hc
    refine zr_aload_n hG zd_Mo_all_168 rfl rfl ?_
    refine zf_Mo_out hG tk_781 zd_Mo_all_169 ?_
    refine zr_iload hG zd_Mo_all_172 rfl ?_
    refine zr_ishr hG zd_Mo_all_174 ?_
    refine zr_iconst hG (v := (1 : Int32)) zd_Mo_all_175 (by decide) ?_
    refine zr_iand hG zd_Mo_all_176 ?_
    refine zr_if_eq hG 213 zd_Mo_all_177 (by decide) (fun hc => ?_) (fun hc => ?_)
    · have h := h.1 hc
      exact zt_Mo_all_213 hG hR hAp hW hk56 hk159 h
    · have h := h.2 hc
      refine zr_aload_n hG zd_Mo_all_180 rfl rfl ?_
      refine zr_iload hG zd_Mo_all_181 rfl ?_
      refine zr_callV hG zq_F0 (As := [.int v5]) (rest := []) (zm_Mo_stands (zc_l x) w hAp g o h) 28 rfl rfl rfl zg_Mo_143 zdd_Mo_stands ⟨rfl, rfl, by decide, by decide⟩ ⟨by decide, by decide⟩ rfl (Nat.le_of_ble_eq_true rfl) zd_Mo_all_183 rfl ?_
      rintro _ _ ⟨r107, z107, rfl, rfl, h⟩
      refine zr_if_eq hG 192 zd_Mo_all_186 (by decide) (fun hc => ?_) (fun hc => ?_)
      · have h := h.1 hc
        refine zr_aload_n hG zd_Mo_all_192 rfl rfl ?_
        refine zf_Mo_line hG tk_780 zd_Mo_all_193 ?_
        refine zr_aload_n hG zd_Mo_all_196 rfl rfl ?_
        refine zf_Mo_standing hG tk_779 zd_Mo_all_197 ?_
        refine zr_iload hG zd_Mo_all_200 rfl ?_
        obtain ⟨hi, h⟩ := h
        refine zu_39 hG hW hi zd_Mo_all_202 ?_
        refine zr_aload_n hG zd_Mo_all_203 rfl rfl ?_
        refine zr_dup hG zd_Mo_all_204 rfl ?_
        refine zf_Mo_standing hG tk_779 zd_Mo_all_205 ?_
        refine zr_iconst hG (v := (1 : Int32)) zd_Mo_all_208 (by decide) ?_
        refine zr_iadd hG zd_Mo_all_209 ?_
        refine zp_Mo_standing hG hW tk_779 zd_Mo_all_210 ?_
        exact zt_Mo_all_213 hG hR hAp hW hk56 hk159 h
      · have h := h.2 hc
        refine zr_goto hG 213 zd_Mo_all_189 (by decide) ?_
        exact zt_Mo_all_213 hG hR hAp hW hk56 hk159 h
def zw_Mo_all_84 (post : Int32 → zS → Prop) (k56 : Int32 × Int32 × zS → Prop) (k84 : Int32 × Int32 × Int32 × Int32 × zS → Prop) : Int32 × Int32 × Int32 × Int32 × zS → Prop := fun b => match b with
  | (v2, v3, v4, v5, z) => (((z.1 6) ≤ v5 → (zw_Mo_find v4 (0 : Int32) z (fun r105 z105 => ((¬ r105 = (-1 : Int32) → k56 (v2, v3, z105)) ∧ (r105 = (-1 : Int32) → ((¬ v3 = v2 → (zw_Mo_find v4 (1 : Int32) (zs_s z105 7 (0 : Int32)) (fun r106 z106 => ((¬ r106 = (-1 : Int32) → zq_Lp (zw_Mo_all_159 post k56) (v2, (v3 + (1 : Int32)), (0 : Int32), z106)) ∧ (r106 = (-1 : Int32) → k56 (v2, v3, z106)))))) ∧ (v3 = v2 → k56 (v2, v3, z105)))))))) ∧ (¬ (z.1 6) ≤ v5 → vp_in (v5 + (1 : Int32)) 6 ∧ vp_in v5 6 ∧ k84 (v2, v3, v4, (v5 + (1 : Int32)), (zs_a z 10 v5 (z.2 10 (v5 + (1 : Int32)).toNatClampNeg)))))
set_option maxHeartbeats 4000000 in
set_option maxRecDepth 100000 in
theorem zt_Mo_all_84 {x : zC} {w : zW} {g : zS} {o : Nat → Int64} {post : Int32 → zS → Prop} (hG : zq_G x w "GridRouterModel" zc_Mo_all 6 (zq_rm 8 192)) (hR : zq_R x w (zq_A w) (some .int) (zq_Ni g o post)) (hAp : zq_Ap w) (hW : zq_Wr x w) {k56 : Int32 × Int32 × zS → Prop} (hk56 : ∀ b : Int32 × Int32 × zS, k56 b → zq_W x w 0 0 (g, b.2.2, o) 56 [some (.ref (w.2.1 28)), none, some (.int (b.1)), some (.int (b.2.1)), none, none] []) {v2 v3 v4 v5 : Int32} {z : zS} (h : zq_Lp (zw_Mo_all_84 post k56) (v2, v3, v4, v5, z)) : zq_W x w 0 0 (g, z, o) 84 [some (.ref (w.2.1 28)), none, some (.int v2), some (.int v3), some (.int v4), some (.int v5)] [] := by
  refine zq_Lp_W (WW := fun b => zq_W x w 0 0 (g, b.2.2.2.2, o) 84 [some (.ref (w.2.1 28)), none, some (.int (b.1)), some (.int (b.2.1)), some (.int (b.2.2.1)), some (.int (b.2.2.2.1))] []) (fun k84 hk84 b h => ?_) h
  obtain ⟨v2, v3, v4, v5, z⟩ := b
  show zq_W x w 0 0 (g, z, o) 84 [some (.ref (w.2.1 28)), none, some (.int v2), some (.int v3), some (.int v4), some (.int v5)] []
  refine zr_iload hG zd_Mo_all_84 rfl ?_
  refine zr_aload_n hG zd_Mo_all_86 rfl rfl ?_
  refine zf_Mo_standing hG tk_779 zd_Mo_all_87 ?_
  refine zr_icmp_ge hG 115 zd_Mo_all_90 (by decide) (fun hc => ?_) (fun hc => ?_)
  · have h := h.1 hc
    refine zr_aload_n hG zd_Mo_all_115 rfl rfl ?_
    refine zr_iload hG zd_Mo_all_116 rfl ?_
    refine zr_iconst hG (v := (0 : Int32)) zd_Mo_all_118 (by decide) ?_
    refine zr_callV hG (zq_F1 hW) (As := [.int v4, .int (0 : Int32)]) (rest := []) (zm_Mo_find (zc_l x) w hAp g o h) 28 rfl rfl rfl zg_Mo_126 zdd_Mo_find ⟨rfl, rfl, by decide, by decide⟩ ⟨by decide, by decide⟩ rfl (Nat.le_of_ble_eq_true rfl) zd_Mo_all_119 rfl ?_
    rintro _ _ ⟨r105, z105, rfl, rfl, h⟩
    refine zr_iconst hG (v := (-1 : Int32)) zd_Mo_all_122 (by decide) ?_
    refine zr_icmp_ne hG 56 zd_Mo_all_123 (by decide) (fun hc => ?_) (fun hc => ?_)
    · have h := h.1 hc
      have h := hk56 _ h
      exact zr_mask [true, false, true, true, false, false] (h)
    · have h := h.2 hc
      refine zr_iload_n hG zd_Mo_all_126 rfl rfl ?_
      refine zr_iload_n hG zd_Mo_all_127 rfl rfl ?_
      refine zr_icmp_ne hG 134 zd_Mo_all_128 (by decide) (fun hc => ?_) (fun hc => ?_)
      · have h := h.1 hc
        refine zr_aload_n hG zd_Mo_all_134 rfl rfl ?_
        refine zr_iconst hG (v := (0 : Int32)) zd_Mo_all_135 (by decide) ?_
        refine zp_Mo_out hG hW tk_781 zd_Mo_all_136 ?_
        refine zr_aload_n hG zd_Mo_all_139 rfl rfl ?_
        refine zr_iload hG zd_Mo_all_140 rfl ?_
        refine zr_iconst hG (v := (1 : Int32)) zd_Mo_all_142 (by decide) ?_
        refine zr_callV hG (zq_F1 hW) (As := [.int v4, .int (1 : Int32)]) (rest := []) (zm_Mo_find (zc_l x) w hAp g o h) 28 rfl rfl rfl zg_Mo_126 zdd_Mo_find ⟨rfl, rfl, by decide, by decide⟩ ⟨by decide, by decide⟩ rfl (Nat.le_of_ble_eq_true rfl) zd_Mo_all_143 rfl ?_
        rintro _ _ ⟨r106, z106, rfl, rfl, h⟩
        refine zr_iconst hG (v := (-1 : Int32)) zd_Mo_all_146 (by decide) ?_
        refine zr_icmp_ne hG 153 zd_Mo_all_147 (by decide) (fun hc => ?_) (fun hc => ?_)
        · have h := h.1 hc
          refine zr_iinc hG (u := (1 : Int32)) [some (.ref (w.2.1 28)), none, some (.int v2), some (.int (v3 + (1 : Int32))), some (.int v4), some (.int v5)] zd_Mo_all_153 rfl (by decide) (Nat.le_of_ble_eq_true rfl) rfl ?_
          refine zr_iconst hG (v := (0 : Int32)) zd_Mo_all_156 (by decide) ?_
          refine zr_istore hG [some (.ref (w.2.1 28)), none, some (.int v2), some (.int (v3 + (1 : Int32))), some (.int v4), some (.int (0 : Int32))] zd_Mo_all_157 (Nat.le_of_ble_eq_true rfl) rfl ?_
          exact zr_mask [true, false, true, true, false, true] (zt_Mo_all_159 hG hR hAp hW hk56 h)
        · have h := h.2 hc
          refine zr_goto hG 56 zd_Mo_all_150 (by decide) ?_
          have h := hk56 _ h
          exact zr_mask [true, false, true, true, false, false] (h)
      · have h := h.2 hc
        refine zr_goto hG 56 zd_Mo_all_131 (by decide) ?_
        have h := hk56 _ h
        exact zr_mask [true, false, true, true, false, false] (h)
  · have h := h.2 hc
    refine zr_aload_n hG zd_Mo_all_93 rfl rfl ?_
    refine zf_Mo_line hG tk_780 zd_Mo_all_94 ?_
    refine zr_iload hG zd_Mo_all_97 rfl ?_
    refine zr_aload_n hG zd_Mo_all_99 rfl rfl ?_
    refine zf_Mo_line hG tk_780 zd_Mo_all_100 ?_
    refine zr_iload hG zd_Mo_all_103 rfl ?_
    refine zr_iconst hG (v := (1 : Int32)) zd_Mo_all_105 (by decide) ?_
    refine zr_iadd hG zd_Mo_all_106 ?_
    obtain ⟨hi, h⟩ := h
    refine zl_39 hG hi zd_Mo_all_107 ?_
    obtain ⟨hi, h⟩ := h
    refine zu_39 hG hW hi zd_Mo_all_108 ?_
    refine zr_iinc hG (u := (1 : Int32)) [some (.ref (w.2.1 28)), none, some (.int v2), some (.int v3), some (.int v4), some (.int (v5 + (1 : Int32)))] zd_Mo_all_109 rfl (by decide) (Nat.le_of_ble_eq_true rfl) rfl ?_
    refine zr_goto hG 84 zd_Mo_all_112 (by decide) ?_
    have h := hk84 _ h
    exact h
def zw_Mo_all_56 (post : Int32 → zS → Prop) (k56 : Int32 × Int32 × zS → Prop) : Int32 × Int32 × zS → Prop := fun b => match b with
  | (v2, v3, z) => (((z.1 6) ≤ 0 → zq_Lp (zw_Mo_all_225 post) ((1 : Int32), z)) ∧ (¬ (z.1 6) ≤ 0 → vp_in (0 : Int32) 6 ∧ zq_Lp (zw_Mo_all_84 post k56) (v2, v3, (z.2 10 (0 : Int32).toNatClampNeg), (0 : Int32), (zs_s z 6 ((z.1 6) - (1 : Int32))))))
set_option maxHeartbeats 4000000 in
set_option maxRecDepth 100000 in
theorem zt_Mo_all_56 {x : zC} {w : zW} {g : zS} {o : Nat → Int64} {post : Int32 → zS → Prop} (hG : zq_G x w "GridRouterModel" zc_Mo_all 6 (zq_rm 8 192)) (hR : zq_R x w (zq_A w) (some .int) (zq_Ni g o post)) (hAp : zq_Ap w) (hW : zq_Wr x w) {v2 v3 : Int32} {z : zS} (h : zq_Lp (zw_Mo_all_56 post) (v2, v3, z)) : zq_W x w 0 0 (g, z, o) 56 [some (.ref (w.2.1 28)), none, some (.int v2), some (.int v3), none, none] [] := by
  refine zq_Lp_W (WW := fun b => zq_W x w 0 0 (g, b.2.2, o) 56 [some (.ref (w.2.1 28)), none, some (.int (b.1)), some (.int (b.2.1)), none, none] []) (fun k56 hk56 b h => ?_) h
  obtain ⟨v2, v3, z⟩ := b
  show zq_W x w 0 0 (g, z, o) 56 [some (.ref (w.2.1 28)), none, some (.int v2), some (.int v3), none, none] []
  refine zr_aload_n hG zd_Mo_all_56 rfl rfl ?_
  refine zf_Mo_standing hG tk_779 zd_Mo_all_57 ?_
  refine zr_if_le hG 222 zd_Mo_all_60 (by decide) (fun hc => ?_) (fun hc => ?_)
  · have h := h.1 hc
    refine zr_iconst hG (v := (1 : Int32)) zd_Mo_all_222 (by decide) ?_
    refine zr_istore hG [some (.ref (w.2.1 28)), none, some (.int v2), some (.int v3), some (.int (1 : Int32)), none] zd_Mo_all_223 (Nat.le_of_ble_eq_true rfl) rfl ?_
    exact zr_mask [true, false, false, false, true, false] (zt_Mo_all_225 hG hR hAp hW h)
  · have h := h.2 hc
    refine zr_aload_n hG zd_Mo_all_63 rfl rfl ?_
    refine zf_Mo_line hG tk_780 zd_Mo_all_64 ?_
    refine zr_iconst hG (v := (0 : Int32)) zd_Mo_all_67 (by decide) ?_
    obtain ⟨hi, h⟩ := h
    refine zl_39 hG hi zd_Mo_all_68 ?_
    refine zr_istore hG [some (.ref (w.2.1 28)), none, some (.int v2), some (.int v3), some (.int (z.2 10 (0 : Int32).toNatClampNeg)), none] zd_Mo_all_69 (Nat.le_of_ble_eq_true rfl) rfl ?_
    refine zr_aload_n hG zd_Mo_all_71 rfl rfl ?_
    refine zr_dup hG zd_Mo_all_72 rfl ?_
    refine zf_Mo_standing hG tk_779 zd_Mo_all_73 ?_
    refine zr_iconst hG (v := (1 : Int32)) zd_Mo_all_76 (by decide) ?_
    refine zr_isub hG zd_Mo_all_77 ?_
    refine zp_Mo_standing hG hW tk_779 zd_Mo_all_78 ?_
    refine zr_iconst hG (v := (0 : Int32)) zd_Mo_all_81 (by decide) ?_
    refine zr_istore hG [some (.ref (w.2.1 28)), none, some (.int v2), some (.int v3), some (.int (z.2 10 (0 : Int32).toNatClampNeg)), some (.int (0 : Int32))] zd_Mo_all_82 (Nat.le_of_ble_eq_true rfl) rfl ?_
    exact zt_Mo_all_84 hG hR hAp hW hk56 h
def zw_Mo_all_30 (post : Int32 → zS → Prop) (k30 : Int32 × Int32 × Int32 × zS → Prop) : Int32 × Int32 × Int32 × zS → Prop := fun b => match b with
  | (v1, v2, v3, z) => (((z.1 5) ≤ v3 → (zw_Mo_standAll v1 z (fun z103 => zq_Lp (zw_Mo_all_56 post) (v2, (0 : Int32), z103)))) ∧ (¬ (z.1 5) ≤ v3 → (zw_Mo_clear v3 z (fun z104 => k30 (v1, v2, (v3 + (1 : Int32)), z104)))))
set_option maxHeartbeats 4000000 in
set_option maxRecDepth 100000 in
theorem zt_Mo_all_30 {x : zC} {w : zW} {g : zS} {o : Nat → Int64} {post : Int32 → zS → Prop} (hG : zq_G x w "GridRouterModel" zc_Mo_all 6 (zq_rm 8 192)) (hR : zq_R x w (zq_A w) (some .int) (zq_Ni g o post)) (hAp : zq_Ap w) (hW : zq_Wr x w) {v1 v2 v3 : Int32} {z : zS} (h : zq_Lp (zw_Mo_all_30 post) (v1, v2, v3, z)) : zq_W x w 0 0 (g, z, o) 30 [some (.ref (w.2.1 28)), some (.int v1), some (.int v2), some (.int v3), none, none] [] := by
  refine zq_Lp_W (WW := fun b => zq_W x w 0 0 (g, b.2.2.2, o) 30 [some (.ref (w.2.1 28)), some (.int (b.1)), some (.int (b.2.1)), some (.int (b.2.2.1)), none, none] []) (fun k30 hk30 b h => ?_) h
  obtain ⟨v1, v2, v3, z⟩ := b
  show zq_W x w 0 0 (g, z, o) 30 [some (.ref (w.2.1 28)), some (.int v1), some (.int v2), some (.int v3), none, none] []
  refine zr_iload_n hG zd_Mo_all_30 rfl rfl ?_
  refine zr_aload_n hG zd_Mo_all_31 rfl rfl ?_
  refine zf_Mo_nets hG tk_776 zd_Mo_all_32 ?_
  refine zr_icmp_ge hG 49 zd_Mo_all_35 (by decide) (fun hc => ?_) (fun hc => ?_)
  · have h := h.1 hc
    refine zr_aload_n hG zd_Mo_all_49 rfl rfl ?_
    refine zr_iload_n hG zd_Mo_all_50 rfl rfl ?_
    refine zr_callV hG (zq_F1 hW) (As := [.int v1]) (rest := []) (zm_Mo_standAll (zc_l x) w hAp g o h) 28 rfl rfl rfl zg_Mo_139 zdd_Mo_standAll ⟨rfl, rfl, by decide, by decide⟩ ⟨by decide, by decide⟩ rfl (Nat.le_of_ble_eq_true rfl) zd_Mo_all_51 rfl ?_
    rintro _ _ ⟨z103, rfl, rfl, h⟩
    refine zr_iconst hG (v := (0 : Int32)) zd_Mo_all_54 (by decide) ?_
    refine zr_istore_n hG [some (.ref (w.2.1 28)), some (.int v1), some (.int v2), some (.int (0 : Int32)), none, none] zd_Mo_all_55 rfl (Nat.le_of_ble_eq_true rfl) rfl ?_
    exact zr_mask [true, false, true, true, false, false] (zt_Mo_all_56 hG hR hAp hW h)
  · have h := h.2 hc
    refine zr_aload_n hG zd_Mo_all_38 rfl rfl ?_
    refine zr_iload_n hG zd_Mo_all_39 rfl rfl ?_
    refine zr_callV hG (zq_F1 hW) (As := [.int v3]) (rest := []) (zm_Mo_clear (zc_l x) w hAp g o h) 28 rfl rfl rfl zg_Mo_108 zdd_Mo_clear ⟨rfl, rfl, by decide, by decide⟩ ⟨by decide, by decide⟩ rfl (Nat.le_of_ble_eq_true rfl) zd_Mo_all_40 rfl ?_
    rintro _ _ ⟨z104, rfl, rfl, h⟩
    refine zr_iinc hG (u := (1 : Int32)) [some (.ref (w.2.1 28)), some (.int v1), some (.int v2), some (.int (v3 + (1 : Int32))), none, none] zd_Mo_all_43 rfl (by decide) (Nat.le_of_ble_eq_true rfl) rfl ?_
    refine zr_goto hG 30 zd_Mo_all_46 (by decide) ?_
    have h := hk30 _ h
    exact h
def zw_Mo_all_16 (post : Int32 → zS → Prop) (v1 v2 u0 : Int32) (z : zS) : Prop := ((((zs_s z 4 u0).1 4) ≤ 0 → zq_Lp (zw_Mo_all_30 post) (v1, v2, (0 : Int32), (zs_s z 4 u0))) ∧ (¬ ((zs_s z 4 u0).1 4) ≤ 0 → post (0 : Int32) (zs_s z 4 u0)))
set_option maxHeartbeats 4000000 in
set_option maxRecDepth 100000 in
theorem zt_Mo_all_16 {x : zC} {w : zW} {g : zS} {o : Nat → Int64} {post : Int32 → zS → Prop} (hG : zq_G x w "GridRouterModel" zc_Mo_all 6 (zq_rm 8 192)) (hR : zq_R x w (zq_A w) (some .int) (zq_Ni g o post)) (hAp : zq_Ap w) (hW : zq_Wr x w) {v1 v2 u0 : Int32} {z : zS} (h : zw_Mo_all_16 post v1 v2 u0 z) : zq_W x w 0 0 (g, z, o) 16 [some (.ref (w.2.1 28)), some (.int v1), some (.int v2), none, none, none] [.int u0, .ref (w.2.1 28)] := by
  refine zp_Mo_code hG hW tk_767 zd_Mo_all_16 ?_
  refine zr_aload_n hG zd_Mo_all_19 rfl rfl ?_
  refine zf_Mo_code hG tk_767 zd_Mo_all_20 ?_
  refine zr_if_le hG 28 zd_Mo_all_23 (by decide) (fun hc => ?_) (fun hc => ?_)
  · have h := h.1 hc
    refine zr_iconst hG (v := (0 : Int32)) zd_Mo_all_28 (by decide) ?_
    refine zr_istore_n hG [some (.ref (w.2.1 28)), some (.int v1), some (.int v2), some (.int (0 : Int32)), none, none] zd_Mo_all_29 rfl (Nat.le_of_ble_eq_true rfl) rfl ?_
    exact zt_Mo_all_30 hG hR hAp hW h
  · have h := h.2 hc
    refine zr_iconst hG (v := (0 : Int32)) zd_Mo_all_26 (by decide) ?_
    exact zr_iret hG hR zd_Mo_all_27 ⟨_, _, rfl, rfl, h⟩
def zw_Mo_all_11 (post : Int32 → zS → Prop) (v1 v2 : Int32) (z : zS) : Prop := zw_Mo_all_16 post v1 v2 (1 : Int32) z
set_option maxHeartbeats 4000000 in
set_option maxRecDepth 100000 in
theorem zt_Mo_all_11 {x : zC} {w : zW} {g : zS} {o : Nat → Int64} {post : Int32 → zS → Prop} (hG : zq_G x w "GridRouterModel" zc_Mo_all 6 (zq_rm 8 192)) (hR : zq_R x w (zq_A w) (some .int) (zq_Ni g o post)) (hAp : zq_Ap w) (hW : zq_Wr x w) {v1 v2 : Int32} {z : zS} (h : zw_Mo_all_11 post v1 v2 z) : zq_W x w 0 0 (g, z, o) 11 [some (.ref (w.2.1 28)), some (.int v1), some (.int v2), none, none, none] [.ref (w.2.1 28)] := by
  refine zr_iconst hG (v := (1 : Int32)) zd_Mo_all_11 (by decide) ?_
  refine zr_goto hG 16 zd_Mo_all_12 (by decide) ?_
  exact zt_Mo_all_16 hG hR hAp hW h
def zw_Mo_all (a1 a2 : Int32) (z : zS) (post : Int32 → zS → Prop) : Prop := ((a2 < 0 → zw_Mo_all_11 post a1 a2 z) ∧ (¬ a2 < 0 → ((a2 ≤ (20 : Int32) → zw_Mo_all_16 post a1 a2 (0 : Int32) z) ∧ (¬ a2 ≤ (20 : Int32) → zw_Mo_all_11 post a1 a2 z))))
set_option maxHeartbeats 4000000 in
set_option maxRecDepth 100000 in
theorem zm_Mo_all (l : Launch) (w : zW) (hAp : zq_Ap w) (g : zS) (o : Nat → Int64) {a1 a2 : Int32} {z : zS} {post : Int32 → zS → Prop} (h : zw_Mo_all a1 a2 z post) : zq_M l w (zq_A w) zy_Mo_all zc_Mo_all 6 (some .int) (zq_rm 8 192) [.ref (w.2.1 28), .int a1, .int a2] (g, z, o) (zq_Ni g o post) := by
  refine zq_mk_M (by decide) (by simp [Value.category]) (Nat.le_of_ble_eq_true rfl) hAp (fun x hx hG hR => ?_)
  subst hx
  have hW := zq_wr hR.2.2.1
  refine zr_aload_n hG zd_Mo_all_0 rfl rfl ?_
  refine zr_iload_n hG zd_Mo_all_1 rfl rfl ?_
  refine zr_if_lt hG 11 zd_Mo_all_2 (by decide) (fun hc => ?_) (fun hc => ?_)
  · have h := h.1 hc
    exact zt_Mo_all_11 hG hR hAp hW h
  · have h := h.2 hc
    refine zr_iload_n hG zd_Mo_all_5 rfl rfl ?_
    refine zr_bipush hG (v := (20 : Int32)) zd_Mo_all_6 (by decide) ?_
    refine zr_icmp_le hG 15 zd_Mo_all_8 (by decide) (fun hc => ?_) (fun hc => ?_)
    · have h := h.1 hc
      refine zr_iconst hG (v := (0 : Int32)) zd_Mo_all_15 (by decide) ?_
      exact zt_Mo_all_16 hG hR hAp hW h
    · have h := h.2 hc
      exact zt_Mo_all_11 hG hR hAp hW h
