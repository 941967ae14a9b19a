def zw_Mo_isTaken_72 (post : Int32 → zS → Prop) (v3 : Int32) (z : zS) : Prop := (narrow .boolean (.int v3) = .int v3 ∧ post v3 z)
set_option maxHeartbeats 4000000 in
set_option maxRecDepth 100000 in
theorem zt_Mo_isTaken_72 {x : zC} {w : zW} {g : zS} {o : Nat → Int64} {post : Int32 → zS → Prop} (hG : zq_G x w "GridRouterModel" zc_Mo_isTaken 6 (zq_rm 3 70)) (hR : zq_R x w zq_0 (some .boolean) (zq_Ni g o post)) (hAp : zq_Ap w) {v3 : Int32} {z : zS} (h : zw_Mo_isTaken_72 post v3 z) : zq_W x w 0 0 (g, z, o) 72 [none, none, none, some (.int v3), none, none] [] := by
  refine zr_iload_n hG zd_Mo_isTaken_72 rfl rfl ?_
  obtain ⟨hn, h⟩ := h
  exact zr_zret hG hR zd_Mo_isTaken_73 hn ⟨_, _, rfl, rfl, h⟩
def zw_Mo_isTaken_65 (post : Int32 → zS → Prop) (k14 : Int32 × Int32 × Int32 × Int32 × zS → Prop) (v1 v2 v4 u0 : Int32) (z : zS) : Prop := k14 (v1, v2, u0, (v4 + (1 : Int32)), z)
set_option maxHeartbeats 4000000 in
set_option maxRecDepth 100000 in
theorem zt_Mo_isTaken_65 {x : zC} {w : zW} {g : zS} {o : Nat → Int64} {post : Int32 → zS → Prop} (hG : zq_G x w "GridRouterModel" zc_Mo_isTaken 6 (zq_rm 3 70)) (hR : zq_R x w zq_0 (some .boolean) (zq_Ni g o post)) (hAp : zq_Ap w) {k14 : Int32 × Int32 × Int32 × Int32 × zS → Prop} (hk14 : ∀ b : Int32 × Int32 × Int32 × Int32 × zS, k14 b → zq_W x w 0 0 (g, b.2.2.2.2, o) 14 [some (.ref (w.2.1 28)), some (.int (b.1)), some (.int (b.2.1)), some (.int (b.2.2.1)), some (.int (b.2.2.2.1)), none] []) {v1 v2 v4 u0 : Int32} {z : zS} (h : zw_Mo_isTaken_65 post k14 v1 v2 v4 u0 z) : zq_W x w 0 0 (g, z, o) 65 [some (.ref (w.2.1 28)), some (.int v1), some (.int v2), none, some (.int v4), none] [.int u0] := by
  refine zr_istore_n hG [some (.ref (w.2.1 28)), some (.int v1), some (.int v2), some (.int u0), some (.int v4), none] zd_Mo_isTaken_65 rfl (Nat.le_of_ble_eq_true rfl) rfl ?_
  refine zr_iinc hG (u := (1 : Int32)) [some (.ref (w.2.1 28)), some (.int v1), some (.int v2), some (.int u0), some (.int (v4 + (1 : Int32))), none] zd_Mo_isTaken_66 rfl (by decide) (Nat.le_of_ble_eq_true rfl) rfl ?_
  refine zr_goto hG 14 zd_Mo_isTaken_69 (by decide) ?_
  have h := hk14 _ h
  exact h
def zw_Mo_isTaken_64 (post : Int32 → zS → Prop) (k14 : Int32 × Int32 × Int32 × Int32 × zS → Prop) (v1 v2 v4 : Int32) (z : zS) : Prop := zw_Mo_isTaken_65 post k14 v1 v2 v4 (0 : Int32) z
set_option maxHeartbeats 4000000 in
set_option maxRecDepth 100000 in
theorem zt_Mo_isTaken_64 {x : zC} {w : zW} {g : zS} {o : Nat → Int64} {post : Int32 → zS → Prop} (hG : zq_G x w "GridRouterModel" zc_Mo_isTaken 6 (zq_rm 3 70)) (hR : zq_R x w zq_0 (some .boolean) (zq_Ni g o post)) (hAp : zq_Ap w) {k14 : Int32 × Int32 × Int32 × Int32 × zS → Prop} (hk14 : ∀ b : Int32 × Int32 × Int32 × Int32 × zS, k14 b → zq_W x w 0 0 (g, b.2.2.2.2, o) 14 [some (.ref (w.2.1 28)), some (.int (b.1)), some (.int (b.2.1)), some (.int (b.2.2.1)), some (.int (b.2.2.2.1)), none] []) {v1 v2 v4 : Int32} {z : zS} (h : zw_Mo_isTaken_64 post k14 v1 v2 v4 z) : zq_W x w 0 0 (g, z, o) 64 [some (.ref (w.2.1 28)), some (.int v1), some (.int v2), none, some (.int v4), none] [] := by
  refine zr_iconst hG (v := (0 : Int32)) zd_Mo_isTaken_64 (by decide) ?_
  exact zt_Mo_isTaken_65 hG hR hAp hk14 h
def zw_Mo_isTaken_60 (post : Int32 → zS → Prop) (k14 : Int32 × Int32 × Int32 × Int32 × zS → Prop) (v1 v2 v4 : Int32) (z : zS) : Prop := zw_Mo_isTaken_65 post k14 v1 v2 v4 (1 : Int32) z
set_option maxHeartbeats 4000000 in
set_option maxRecDepth 100000 in
theorem zt_Mo_isTaken_60 {x : zC} {w : zW} {g : zS} {o : Nat → Int64} {post : Int32 → zS → Prop} (hG : zq_G x w "GridRouterModel" zc_Mo_isTaken 6 (zq_rm 3 70)) (hR : zq_R x w zq_0 (some .boolean) (zq_Ni g o post)) (hAp : zq_Ap w) {k14 : Int32 × Int32 × Int32 × Int32 × zS → Prop} (hk14 : ∀ b : Int32 × Int32 × Int32 × Int32 × zS, k14 b → zq_W x w 0 0 (g, b.2.2.2.2, o) 14 [some (.ref (w.2.1 28)), some (.int (b.1)), some (.int (b.2.1)), some (.int (b.2.2.1)), some (.int (b.2.2.2.1)), none] []) {v1 v2 v4 : Int32} {z : zS} (h : zw_Mo_isTaken_60 post k14 v1 v2 v4 z) : zq_W x w 0 0 (g, z, o) 60 [some (.ref (w.2.1 28)), some (.int v1), some (.int v2), none, some (.int v4), none] [] := by
  refine zr_iconst hG (v := (1 : Int32)) zd_Mo_isTaken_60 (by decide) ?_
  refine zr_goto hG 65 zd_Mo_isTaken_61 (by decide) ?_
  exact zt_Mo_isTaken_65 hG hR hAp hk14 h
def zw_Mo_isTaken_14 (post : Int32 → zS → Prop) (k14 : Int32 × Int32 × Int32 × Int32 × zS → Prop) : Int32 × Int32 × Int32 × Int32 × zS → Prop := fun b => match b with
  | (v1, v2, v3, v4, z) => (((4 : Int32) ≤ v4 → zw_Mo_isTaken_72 post v3 z) ∧ (¬ (4 : Int32) ≤ v4 → (((z.1 3) = 0 → zw_Mo_isTaken_72 post v3 z) ∧ (¬ (z.1 3) = 0 → (zw_Mo_side v1 v4 z (fun r61 z61 => ((¬ v3 = 0 → zw_Mo_isTaken_60 post k14 v1 v2 v4 z61) ∧ (v3 = 0 → ((r61 = (-1 : Int32) → zw_Mo_isTaken_64 post k14 v1 v2 v4 z61) ∧ (¬ r61 = (-1 : Int32) → vp_in r61 162 ∧ (zw_Mo_isOther (z61.2 2 r61.toNatClampNeg) v2 z61 (fun r62 z62 => ((r62 = 0 → zw_Mo_isTaken_64 post k14 v1 v2 v4 z62) ∧ (¬ r62 = 0 → zw_Mo_isTaken_60 post k14 v1 v2 v4 z62))))))))))))))
set_option maxHeartbeats 4000000 in
set_option maxRecDepth 100000 in
theorem zt_Mo_isTaken_14 {x : zC} {w : zW} {g : zS} {o : Nat → Int64} {post : Int32 → zS → Prop} (hG : zq_G x w "GridRouterModel" zc_Mo_isTaken 6 (zq_rm 3 70)) (hR : zq_R x w zq_0 (some .boolean) (zq_Ni g o post)) (hAp : zq_Ap w) {v1 v2 v3 v4 : Int32} {z : zS} (h : zq_Lp (zw_Mo_isTaken_14 post) (v1, v2, v3, v4, z)) : zq_W x w 0 0 (g, z, o) 14 [some (.ref (w.2.1 28)), some (.int v1), some (.int v2), some (.int v3), some (.int v4), none] [] := by
  refine zq_Lp_W (WW := fun b => zq_W x w 0 0 (g, b.2.2.2.2, o) 14 [some (.ref (w.2.1 28)), some (.int (b.1)), some (.int (b.2.1)), some (.int (b.2.2.1)), some (.int (b.2.2.2.1)), none] []) (fun k14 hk14 b h => ?_) h
  obtain ⟨v1, v2, v3, v4, z⟩ := b
  show zq_W x w 0 0 (g, z, o) 14 [some (.ref (w.2.1 28)), some (.int v1), some (.int v2), some (.int v3), some (.int v4), none] []
  refine zr_iload hG zd_Mo_isTaken_14 rfl ?_
  refine zr_iconst hG (v := (4 : Int32)) zd_Mo_isTaken_16 (by decide) ?_
  refine zr_icmp_ge hG 72 zd_Mo_isTaken_17 (by decide) (fun hc => ?_) (fun hc => ?_)
  · have h := h.1 hc
    exact zr_mask [false, false, false, true, false, false] (zt_Mo_isTaken_72 hG hR hAp h)
  · have h := h.2 hc
    refine zr_aload_n hG zd_Mo_isTaken_20 rfl rfl ?_
    refine zf_Mo_wide hG tk_766 zd_Mo_isTaken_21 ?_
    refine zr_if_eq hG 72 zd_Mo_isTaken_24 (by decide) (fun hc => ?_) (fun hc => ?_)
    · have h := h.1 hc
      exact zr_mask [false, false, false, true, false, false] (zt_Mo_isTaken_72 hG hR hAp h)
    · have h := h.2 hc
      refine zr_aload_n hG zd_Mo_isTaken_27 rfl rfl ?_
      refine zr_iload_n hG zd_Mo_isTaken_28 rfl rfl ?_
      refine zr_iload hG zd_Mo_isTaken_29 rfl ?_
      refine zr_callV hG zq_F0 (As := [.int v1, .int v4]) (rest := []) (zm_Mo_side (zc_l x) w hAp g o h) 28 rfl rfl rfl zg_Mo_72 zdd_Mo_side ⟨rfl, rfl, by decide, by decide⟩ ⟨by decide, by decide⟩ rfl (Nat.le_of_ble_eq_true rfl) zd_Mo_isTaken_31 rfl ?_
      rintro _ _ ⟨r61, z61, rfl, rfl, h⟩
      refine zr_istore hG [some (.ref (w.2.1 28)), some (.int v1), some (.int v2), some (.int v3), some (.int v4), some (.int r61)] zd_Mo_isTaken_34 (Nat.le_of_ble_eq_true rfl) rfl ?_
      refine zr_iload_n hG zd_Mo_isTaken_36 rfl rfl ?_
      refine zr_if_ne hG 60 zd_Mo_isTaken_37 (by decide) (fun hc => ?_) (fun hc => ?_)
      · have h := h.1 hc
        exact zr_mask [true, true, true, false, true, false] (zt_Mo_isTaken_60 hG hR hAp hk14 h)
      · have h := h.2 hc
        refine zr_iload hG zd_Mo_isTaken_40 rfl ?_
        refine zr_iconst hG (v := (-1 : Int32)) zd_Mo_isTaken_42 (by decide) ?_
        refine zr_icmp_eq hG 64 zd_Mo_isTaken_43 (by decide) (fun hc => ?_) (fun hc => ?_)
        · have h := h.1 hc
          exact zr_mask [true, true, true, false, true, false] (zt_Mo_isTaken_64 hG hR hAp hk14 h)
        · have h := h.2 hc
          refine zr_aload_n hG zd_Mo_isTaken_46 rfl rfl ?_
          refine zf_Mo_owner hG tk_770 zd_Mo_isTaken_47 ?_
          refine zr_iload hG zd_Mo_isTaken_50 rfl ?_
          obtain ⟨hi, h⟩ := h
          refine zl_31 hG hi zd_Mo_isTaken_52 ?_
          refine zr_iload_n hG zd_Mo_isTaken_53 rfl rfl ?_
          refine zr_callS hG zq_F0 (As := [.int (z61.2 2 r61.toNatClampNeg), .int v2]) (rest := []) (zm_Mo_isOther (zc_l x) w hAp g o h) rfl zg_Mo_69 zdd_Mo_isOther ⟨rfl, rfl, by decide, by decide⟩ ⟨by decide, by decide⟩ rfl (Nat.le_of_ble_eq_true rfl) zd_Mo_isTaken_54 rfl ?_
          rintro _ _ ⟨r62, z62, rfl, rfl, h⟩
          refine zr_if_eq hG 64 zd_Mo_isTaken_57 (by decide) (fun hc => ?_) (fun hc => ?_)
          · have h := h.1 hc
            exact zr_mask [true, true, true, false, true, false] (zt_Mo_isTaken_64 hG hR hAp hk14 h)
          · have h := h.2 hc
            exact zr_mask [true, true, true, false, true, false] (zt_Mo_isTaken_60 hG hR hAp hk14 h)
def zw_Mo_isTaken (a1 a2 : Int32) (z : zS) (post : Int32 → zS → Prop) : Prop := vp_in a1 162 ∧ (zw_Mo_isOther (z.2 2 a1.toNatClampNeg) a2 z (fun r63 z63 => zq_Lp (zw_Mo_isTaken_14 post) (a1, a2, r63, (0 : Int32), z63)))
set_option maxHeartbeats 4000000 in
set_option maxRecDepth 100000 in
theorem zm_Mo_isTaken (l : Launch) (w : zW) (hAp : zq_Ap w) (g : zS) (o : Nat → Int64) {a1 a2 : Int32} {z : zS} {post : Int32 → zS → Prop} (h : zw_Mo_isTaken a1 a2 z post) : zq_M l w zq_0 zy_Mo_isTaken zc_Mo_isTaken 6 (some .boolean) (zq_rm 3 70) [.ref (w.2.1 28), .int a1, .int a2] (g, z, o) (zq_Ni g o post) := by
  refine zq_mk_M (by decide) (by simp [Value.category]) (Nat.le_of_ble_eq_true rfl) hAp (fun x hx hG hR => ?_)
  subst hx
  refine zr_aload_n hG zd_Mo_isTaken_0 rfl rfl ?_
  refine zf_Mo_owner hG tk_770 zd_Mo_isTaken_1 ?_
  refine zr_iload_n hG zd_Mo_isTaken_4 rfl rfl ?_
  obtain ⟨hi, h⟩ := h
  refine zl_31 hG hi zd_Mo_isTaken_5 ?_
  refine zr_iload_n hG zd_Mo_isTaken_6 rfl rfl ?_
  refine zr_callS hG zq_F0 (As := [.int (z.2 2 a1.toNatClampNeg), .int a2]) (rest := []) (zm_Mo_isOther (zc_l x) w hAp g o h) rfl zg_Mo_69 zdd_Mo_isOther ⟨rfl, rfl, by decide, by decide⟩ ⟨by decide, by decide⟩ rfl (Nat.le_of_ble_eq_true rfl) zd_Mo_isTaken_7 rfl ?_
  rintro _ _ ⟨r63, z63, rfl, rfl, h⟩
  refine zr_istore_n hG [some (.ref (w.2.1 28)), some (.int a1), some (.int a2), some (.int r63), none, none] zd_Mo_isTaken_10 rfl (Nat.le_of_ble_eq_true rfl) rfl ?_
  refine zr_iconst hG (v := (0 : Int32)) zd_Mo_isTaken_11 (by decide) ?_
  refine zr_istore hG [some (.ref (w.2.1 28)), some (.int a1), some (.int a2), some (.int r63), some (.int (0 : Int32)), none] zd_Mo_isTaken_12 (Nat.le_of_ble_eq_true rfl) rfl ?_
  exact zt_Mo_isTaken_14 hG hR hAp h
def zw_Mo_toll_58 (post : Int32 → zS → Prop) (u0 : Int32) (z : zS) : Prop := post u0 z
set_option maxHeartbeats 4000000 in
set_option maxRecDepth 100000 in
theorem zt_Mo_toll_58 {x : zC} {w : zW} {g : zS} {o : Nat → Int64} {post : Int32 → zS → Prop} (hG : zq_G x w "GridRouterModel" zc_Mo_toll 4 (zq_rm 4 95)) (hR : zq_R x w zq_0 (some .int) (zq_Ni g o post)) (hAp : zq_Ap w) {u0 : Int32} {z : zS} (h : zw_Mo_toll_58 post u0 z) : zq_W x w 0 0 (g, z, o) 58 [none, none, none, none] [.int u0] := by
  exact zr_iret hG hR zd_Mo_toll_58 ⟨_, _, rfl, rfl, h⟩
def zw_Mo_toll_22 (post : Int32 → zS → Prop) (v1 v2 v3 : Int32) (z : zS) : Prop := (zw_Mo_isTaken v1 v2 z (fun r64 z64 => ((¬ r64 = 0 → ((v3 = 0 → vp_in v1 162 ∧ ((¬ (z64.2 1 v1.toNatClampNeg) = v2 → zw_Mo_toll_58 post (1000000 : Int32) z64) ∧ ((z64.2 1 v1.toNatClampNeg) = v2 → zw_Mo_toll_58 post (0 : Int32) z64))) ∧ (¬ v3 = 0 → zw_Mo_toll_58 post (10 : Int32) z64))) ∧ (r64 = 0 → post (0 : Int32) z64))))
set_option maxHeartbeats 4000000 in
set_option maxRecDepth 100000 in
theorem zt_Mo_toll_22 {x : zC} {w : zW} {g : zS} {o : Nat → Int64} {post : Int32 → zS → Prop} (hG : zq_G x w "GridRouterModel" zc_Mo_toll 4 (zq_rm 4 95)) (hR : zq_R x w zq_0 (some .int) (zq_Ni g o post)) (hAp : zq_Ap w) {v1 v2 v3 : Int32} {z : zS} (h : zw_Mo_toll_22 post v1 v2 v3 z) : zq_W x w 0 0 (g, z, o) 22 [some (.ref (w.2.1 28)), some (.int v1), some (.int v2), some (.int v3)] [] := by
  have h : (zw_Mo_isTaken v1 v2 z (fun r64 z64 => ((¬ r64 = 0 → ((v3 = 0 → vp_in v1 162 ∧ ((¬ (z64.2 1 v1.toNatClampNeg) = v2 → zw_Mo_toll_58 post (1000000 : Int32) z64) ∧ ((z64.2 1 v1.toNatClampNeg) = v2 → zw_Mo_toll_58 post (0 : Int32) z64))) ∧ (¬ v3 = 0 → zw_Mo_toll_58 post (10 : Int32) z64))) ∧ (r64 = 0 → post (0 : Int32) z64)))) := h
  refine zr_aload_n hG zd_Mo_toll_22 rfl rfl ?_
  refine zr_iload_n hG zd_Mo_toll_23 rfl rfl ?_
  refine zr_iload_n hG zd_Mo_toll_24 rfl rfl ?_
  refine zr_callV hG zq_F0 (As := [.int v1, .int v2]) (rest := []) (zm_Mo_isTaken (zc_l x) w hAp g o h) 28 rfl rfl rfl zg_Mo_80 zdd_Mo_isTaken ⟨rfl, rfl, by decide, by decide⟩ ⟨by decide, by decide⟩ rfl (Nat.le_of_ble_eq_true rfl) zd_Mo_toll_25 rfl ?_
  rintro _ _ ⟨r64, z64, rfl, rfl, h⟩
  refine zr_if_ne hG 33 zd_Mo_toll_28 (by decide) (fun hc => ?_) (fun hc => ?_)
  · have h := h.1 hc
    refine zr_iload_n hG zd_Mo_toll_33 rfl rfl ?_
    refine zr_if_eq hG 42 zd_Mo_toll_34 (by decide) (fun hc => ?_) (fun hc => ?_)
    · have h := h.1 hc
      refine zr_aload_n hG zd_Mo_toll_42 rfl rfl ?_
      refine zf_Mo_pin hG tk_769 zd_Mo_toll_43 ?_
      refine zr_iload_n hG zd_Mo_toll_46 rfl rfl ?_
      obtain ⟨hi, h⟩ := h
      refine zl_30 hG hi zd_Mo_toll_47 ?_
      refine zr_iload_n hG zd_Mo_toll_48 rfl rfl ?_
      refine zr_icmp_ne hG 56 zd_Mo_toll_49 (by decide) (fun hc => ?_) (fun hc => ?_)
      · have h := h.1 hc
        refine zr_ldc hG (v := 1000000) tk_880 zd_Mo_toll_56 ?_
        exact zr_mask [false, false, false, false] (zt_Mo_toll_58 hG hR hAp h)
      · have h := h.2 hc
        refine zr_iconst hG (v := (0 : Int32)) zd_Mo_toll_52 (by decide) ?_
        refine zr_goto hG 58 zd_Mo_toll_53 (by decide) ?_
        exact zr_mask [false, false, false, false] (zt_Mo_toll_58 hG hR hAp h)
    · have h := h.2 hc
      refine zr_bipush hG (v := (10 : Int32)) zd_Mo_toll_37 (by decide) ?_
      refine zr_goto hG 58 zd_Mo_toll_39 (by decide) ?_
      exact zr_mask [false, false, false, false] (zt_Mo_toll_58 hG hR hAp h)
  · have h := h.2 hc
    refine zr_iconst hG (v := (0 : Int32)) zd_Mo_toll_31 (by decide) ?_
    exact zr_iret hG hR zd_Mo_toll_32 ⟨_, _, rfl, rfl, h⟩
def zw_Mo_toll (a1 a2 a3 : Int32) (z : zS) (post : Int32 → zS → Prop) : Prop := vp_in a1 162 ∧ (((z.2 1 a1.toNatClampNeg) = a2 → zw_Mo_toll_22 post a1 a2 a3 z) ∧ (¬ (z.2 1 a1.toNatClampNeg) = a2 → (zw_Mo_isBarred a1 a2 z (fun r65 z65 => ((r65 = 0 → zw_Mo_toll_22 post a1 a2 a3 z65) ∧ (¬ r65 = 0 → post (1000000 : Int32) z65))))))
set_option maxHeartbeats 4000000 in
set_option maxRecDepth 100000 in
theorem zm_Mo_toll (l : Launch) (w : zW) (hAp : zq_Ap w) (g : zS) (o : Nat → Int64) {a1 a2 a3 : Int32} {z : zS} {post : Int32 → zS → Prop} (h : zw_Mo_toll a1 a2 a3 z post) : zq_M l w zq_0 zy_Mo_toll zc_Mo_toll 4 (some .int) (zq_rm 4 95) [.ref (w.2.1 28), .int a1, .int a2, .int a3] (g, z, o) (zq_Ni g o post) := by
  refine zq_mk_M (by decide) (by simp [Value.category]) (Nat.le_of_ble_eq_true rfl) hAp (fun x hx hG hR => ?_)
  subst hx
  refine zr_aload_n hG zd_Mo_toll_0 rfl rfl ?_
  refine zf_Mo_pin hG tk_769 zd_Mo_toll_1 ?_
  refine zr_iload_n hG zd_Mo_toll_4 rfl rfl ?_
  obtain ⟨hi, h⟩ := h
  refine zl_30 hG hi zd_Mo_toll_5 ?_
  refine zr_iload_n hG zd_Mo_toll_6 rfl rfl ?_
  refine zr_icmp_eq hG 22 zd_Mo_toll_7 (by decide) (fun hc => ?_) (fun hc => ?_)
  · have h := h.1 hc
    exact zt_Mo_toll_22 hG hR hAp h
  · have h := h.2 hc
    refine zr_aload_n hG zd_Mo_toll_10 rfl rfl ?_
    refine zr_iload_n hG zd_Mo_toll_11 rfl rfl ?_
    refine zr_iload_n hG zd_Mo_toll_12 rfl rfl ?_
    refine zr_callV hG zq_F0 (As := [.int a1, .int a2]) (rest := []) (zm_Mo_isBarred (zc_l x) w hAp g o h) 28 rfl rfl rfl zg_Mo_76 zdd_Mo_isBarred ⟨rfl, rfl, by decide, by decide⟩ ⟨by decide, by decide⟩ rfl (Nat.le_of_ble_eq_true rfl) zd_Mo_toll_13 rfl ?_
    rintro _ _ ⟨r65, z65, rfl, rfl, h⟩
    refine zr_if_eq hG 22 zd_Mo_toll_16 (by decide) (fun hc => ?_) (fun hc => ?_)
    · have h := h.1 hc
      exact zt_Mo_toll_22 hG hR hAp h
    · have h := h.2 hc
      refine zr_ldc hG (v := 1000000) tk_880 zd_Mo_toll_19 ?_
      exact zr_iret hG hR zd_Mo_toll_21 ⟨_, _, rfl, rfl, h⟩
def zw_Mo_block_69 (post : Int32 → zS → Prop) (v4 u0 u1 : Int32) (z : zS) : Prop := vp_in u1 162 ∧ vp_in v4 162 ∧ (narrow .boolean (.int ((zs_a z 0 u1 (vp_nar .boolean u0)).2 0 v4.toNatClampNeg)) = .int ((zs_a z 0 u1 (vp_nar .boolean u0)).2 0 v4.toNatClampNeg) ∧ post ((zs_a z 0 u1 (vp_nar .boolean u0)).2 0 v4.toNatClampNeg) (zs_a z 0 u1 (vp_nar .boolean u0)))
set_option maxHeartbeats 4000000 in
set_option maxRecDepth 100000 in
theorem zt_Mo_block_69 {x : zC} {w : zW} {g : zS} {o : Nat → Int64} {post : Int32 → zS → Prop} (hG : zq_G x w "GridRouterModel" zc_Mo_block 5 (zq_rm 2 45)) (hR : zq_R x w (zq_A w) (some .boolean) (zq_Ni g o post)) (hAp : zq_Ap w) (hW : zq_Wr x w) {v4 u0 u1 : Int32} {z : zS} (h : zw_Mo_block_69 post v4 u0 u1 z) : zq_W x w 0 0 (g, z, o) 69 [some (.ref (w.2.1 28)), none, none, none, some (.int v4)] [.int u0, .int u1, .ref (w.2.1 29)] := by
  obtain ⟨hi, h⟩ := h
  refine zu_29 hG hW hi zd_Mo_block_69 ?_
  refine zr_aload_n hG zd_Mo_block_70 rfl rfl ?_
  refine zf_Mo_blocked hG tk_768 zd_Mo_block_71 ?_
  refine zr_iload hG zd_Mo_block_74 rfl ?_
  obtain ⟨hi, h⟩ := h
  refine zl_29 hG hi zd_Mo_block_76 ?_
  obtain ⟨hn, h⟩ := h
  exact zr_zret hG hR zd_Mo_block_77 hn ⟨_, _, rfl, rfl, h⟩
def zw_Mo_block_36 (post : Int32 → zS → Prop) (v4 u0 : Int32) (z : zS) : Prop := ((((zs_s z 4 u0).1 4) ≤ 0 → vp_in v4 162 ∧ ((¬ ((zs_s z 4 u0).2 0 v4.toNatClampNeg) = 0 → zw_Mo_block_69 post v4 (0 : Int32) v4 (zs_s z 4 u0)) ∧ (((zs_s z 4 u0).2 0 v4.toNatClampNeg) = 0 → zw_Mo_block_69 post v4 (1 : Int32) v4 (zs_s z 4 u0)))) ∧ (¬ ((zs_s z 4 u0).1 4) ≤ 0 → (narrow .boolean (.int (0 : Int32)) = .int (0 : Int32) ∧ post (0 : Int32) (zs_s z 4 u0))))
set_option maxHeartbeats 4000000 in
set_option maxRecDepth 100000 in
theorem zt_Mo_block_36 {x : zC} {w : zW} {g : zS} {o : Nat → Int64} {post : Int32 → zS → Prop} (hG : zq_G x w "GridRouterModel" zc_Mo_block 5 (zq_rm 2 45)) (hR : zq_R x w (zq_A w) (some .boolean) (zq_Ni g o post)) (hAp : zq_Ap w) (hW : zq_Wr x w) {v4 u0 : Int32} {z : zS} (h : zw_Mo_block_36 post v4 u0 z) : zq_W x w 0 0 (g, z, o) 36 [some (.ref (w.2.1 28)), none, none, none, some (.int v4)] [.int u0, .ref (w.2.1 28)] := by
  refine zp_Mo_code hG hW tk_767 zd_Mo_block_36 ?_
  refine zr_aload_n hG zd_Mo_block_39 rfl rfl ?_
  refine zf_Mo_code hG tk_767 zd_Mo_block_40 ?_
  refine zr_if_le hG 48 zd_Mo_block_43 (by decide) (fun hc => ?_) (fun hc => ?_)
  · have h := h.1 hc
    refine zr_aload_n hG zd_Mo_block_48 rfl rfl ?_
    refine zf_Mo_blocked hG tk_768 zd_Mo_block_49 ?_
    refine zr_iload hG zd_Mo_block_52 rfl ?_
    refine zr_aload_n hG zd_Mo_block_54 rfl rfl ?_
    refine zf_Mo_blocked hG tk_768 zd_Mo_block_55 ?_
    refine zr_iload hG zd_Mo_block_58 rfl ?_
    obtain ⟨hi, h⟩ := h
    refine zl_29 hG hi zd_Mo_block_60 ?_
    refine zr_if_ne hG 68 zd_Mo_block_61 (by decide) (fun hc => ?_) (fun hc => ?_)
    · have h := h.1 hc
      refine zr_iconst hG (v := (0 : Int32)) zd_Mo_block_68 (by decide) ?_
      exact zt_Mo_block_69 hG hR hAp hW h
    · have h := h.2 hc
      refine zr_iconst hG (v := (1 : Int32)) zd_Mo_block_64 (by decide) ?_
      refine zr_goto hG 69 zd_Mo_block_65 (by decide) ?_
      exact zt_Mo_block_69 hG hR hAp hW h
  · have h := h.2 hc
    refine zr_iconst hG (v := (0 : Int32)) zd_Mo_block_46 (by decide) ?_
    obtain ⟨hn, h⟩ := h
    exact zr_zret hG hR zd_Mo_block_47 hn ⟨_, _, rfl, rfl, h⟩
def zw_Mo_block (a1 a2 a3 : Int32) (z : zS) (post : Int32 → zS → Prop) : Prop := (zw_Mo_at a1 a2 a3 z (fun r66 z66 => ((¬ r66 = (-1 : Int32) → vp_in r66 162 ∧ (((z66.2 1 r66.toNatClampNeg) = (-1 : Int32) → zw_Mo_block_36 post r66 (0 : Int32) z66) ∧ (¬ (z66.2 1 r66.toNatClampNeg) = (-1 : Int32) → zw_Mo_block_36 post r66 (2 : Int32) z66))) ∧ (r66 = (-1 : Int32) → zw_Mo_block_36 post r66 (1 : Int32) z66))))
set_option maxHeartbeats 4000000 in
set_option maxRecDepth 100000 in
theorem zm_Mo_block (l : Launch) (w : zW) (hAp : zq_Ap w) (g : zS) (o : Nat → Int64) {a1 a2 a3 : Int32} {z : zS} {post : Int32 → zS → Prop} (h : zw_Mo_block a1 a2 a3 z post) : zq_M l w (zq_A w) zy_Mo_block zc_Mo_block 5 (some .boolean) (zq_rm 2 45) [.ref (w.2.1 28), .int a1, .int a2, .int a3] (g, z, o) (zq_Ni g o post) := by
  refine zq_mk_M (by decide) (by simp [Value.category]) (Nat.le_of_ble_eq_true rfl) hAp (fun x hx hG hR => ?_)
  subst hx
  have hW := zq_wr hR.2.2.1
  have h : (zw_Mo_at a1 a2 a3 z (fun r66 z66 => ((¬ r66 = (-1 : Int32) → vp_in r66 162 ∧ (((z66.2 1 r66.toNatClampNeg) = (-1 : Int32) → zw_Mo_block_36 post r66 (0 : Int32) z66) ∧ (¬ (z66.2 1 r66.toNatClampNeg) = (-1 : Int32) → zw_Mo_block_36 post r66 (2 : Int32) z66))) ∧ (r66 = (-1 : Int32) → zw_Mo_block_36 post r66 (1 : Int32) z66)))) := h
  refine zr_aload_n hG zd_Mo_block_0 rfl rfl ?_
  refine zr_iload_n hG zd_Mo_block_1 rfl rfl ?_
  refine zr_iload_n hG zd_Mo_block_2 rfl rfl ?_
  refine zr_iload_n hG zd_Mo_block_3 rfl rfl ?_
  refine zr_callV hG zq_F0 (As := [.int a1, .int a2, .int a3]) (rest := []) (zm_Mo_at (zc_l x) w hAp g o h) 28 rfl rfl rfl zg_Mo_65 zdd_Mo_at ⟨rfl, rfl, by decide, by decide⟩ ⟨by decide, by decide⟩ rfl (Nat.le_of_ble_eq_true rfl) zd_Mo_block_4 rfl ?_
  rintro _ _ ⟨r66, z66, rfl, rfl, h⟩
  refine zr_istore hG [some (.ref (w.2.1 28)), some (.int a1), some (.int a2), some (.int a3), some (.int r66)] zd_Mo_block_7 (Nat.le_of_ble_eq_true rfl) rfl ?_
  refine zr_aload_n hG zd_Mo_block_9 rfl rfl ?_
  refine zr_iload hG zd_Mo_block_10 rfl ?_
  refine zr_iconst hG (v := (-1 : Int32)) zd_Mo_block_12 (by decide) ?_
  refine zr_icmp_ne hG 20 zd_Mo_block_13 (by decide) (fun hc => ?_) (fun hc => ?_)
  · have h := h.1 hc
    refine zr_aload_n hG zd_Mo_block_20 rfl rfl ?_
    refine zf_Mo_pin hG tk_769 zd_Mo_block_21 ?_
    refine zr_iload hG zd_Mo_block_24 rfl ?_
    obtain ⟨hi, h⟩ := h
    refine zl_30 hG hi zd_Mo_block_26 ?_
    refine zr_iconst hG (v := (-1 : Int32)) zd_Mo_block_27 (by decide) ?_
    refine zr_icmp_eq hG 35 zd_Mo_block_28 (by decide) (fun hc => ?_) (fun hc => ?_)
    · have h := h.1 hc
      refine zr_iconst hG (v := (0 : Int32)) zd_Mo_block_35 (by decide) ?_
      exact zr_mask [true, false, false, false, true] (zt_Mo_block_36 hG hR hAp hW h)
    · have h := h.2 hc
      refine zr_iconst hG (v := (2 : Int32)) zd_Mo_block_31 (by decide) ?_
      refine zr_goto hG 36 zd_Mo_block_32 (by decide) ?_
      exact zr_mask [true, false, false, false, true] (zt_Mo_block_36 hG hR hAp hW h)
  · have h := h.2 hc
    refine zr_iconst hG (v := (1 : Int32)) zd_Mo_block_16 (by decide) ?_
    refine zr_goto hG 36 zd_Mo_block_17 (by decide) ?_
    exact zr_mask [true, false, false, false, true] (zt_Mo_block_36 hG hR hAp hW h)
def zw_Mo_net_83 (post : Int32 → zS → Prop) (v7 v8 u0 : Int32) (z : zS) : Prop := ((((zs_s z 4 u0).1 4) ≤ 0 → vp_in ((zs_s z 4 u0).1 5) 6 ∧ vp_in ((zs_a (zs_s z 4 u0) 8 ((zs_s z 4 u0).1 5) v7).1 5) 6 ∧ vp_in v7 162 ∧ vp_in v8 162 ∧ vp_in v7 162 ∧ vp_in v8 162 ∧ post (((zs_s (zs_a (zs_a (zs_a (zs_a (zs_a (zs_a (zs_s z 4 u0) 8 ((zs_s z 4 u0).1 5) v7) 9 ((zs_a (zs_s z 4 u0) 8 ((zs_s z 4 u0).1 5) v7).1 5) v8) 1 v7 ((zs_a (zs_a (zs_s z 4 u0) 8 ((zs_s z 4 u0).1 5) v7) 9 ((zs_a (zs_s z 4 u0) 8 ((zs_s z 4 u0).1 5) v7).1 5) v8).1 5)) 1 v8 ((zs_a (zs_a (zs_a (zs_s z 4 u0) 8 ((zs_s z 4 u0).1 5) v7) 9 ((zs_a (zs_s z 4 u0) 8 ((zs_s z 4 u0).1 5) v7).1 5) v8) 1 v7 ((zs_a (zs_a (zs_s z 4 u0) 8 ((zs_s z 4 u0).1 5) v7) 9 ((zs_a (zs_s z 4 u0) 8 ((zs_s z 4 u0).1 5) v7).1 5) v8).1 5)).1 5)) 2 v7 ((zs_a (zs_a (zs_a (zs_a (zs_s z 4 u0) 8 ((zs_s z 4 u0).1 5) v7) 9 ((zs_a (zs_s z 4 u0) 8 ((zs_s z 4 u0).1 5) v7).1 5) v8) 1 v7 ((zs_a (zs_a (zs_s z 4 u0) 8 ((zs_s z 4 u0).1 5) v7) 9 ((zs_a (zs_s z 4 u0) 8 ((zs_s z 4 u0).1 5) v7).1 5) v8).1 5)) 1 v8 ((zs_a (zs_a (zs_a (zs_s z 4 u0) 8 ((zs_s z 4 u0).1 5) v7) 9 ((zs_a (zs_s z 4 u0) 8 ((zs_s z 4 u0).1 5) v7).1 5) v8) 1 v7 ((zs_a (zs_a (zs_s z 4 u0) 8 ((zs_s z 4 u0).1 5) v7) 9 ((zs_a (zs_s z 4 u0) 8 ((zs_s z 4 u0).1 5) v7).1 5) v8).1 5)).1 5)).1 5)) 2 v8 ((zs_a (zs_a (zs_a (zs_a (zs_a (zs_s z 4 u0) 8 ((zs_s z 4 u0).1 5) v7) 9 ((zs_a (zs_s z 4 u0) 8 ((zs_s z 4 u0).1 5) v7).1 5) v8) 1 v7 ((zs_a (zs_a (zs_s z 4 u0) 8 ((zs_s z 4 u0).1 5) v7) 9 ((zs_a (zs_s z 4 u0) 8 ((zs_s z 4 u0).1 5) v7).1 5) v8).1 5)) 1 v8 ((zs_a (zs_a (zs_a (zs_s z 4 u0) 8 ((zs_s z 4 u0).1 5) v7) 9 ((zs_a (zs_s z 4 u0) 8 ((zs_s z 4 u0).1 5) v7).1 5) v8) 1 v7 ((zs_a (zs_a (zs_s z 4 u0) 8 ((zs_s z 4 u0).1 5) v7) 9 ((zs_a (zs_s z 4 u0) 8 ((zs_s z 4 u0).1 5) v7).1 5) v8).1 5)).1 5)) 2 v7 ((zs_a (zs_a (zs_a (zs_a (zs_s z 4 u0) 8 ((zs_s z 4 u0).1 5) v7) 9 ((zs_a (zs_s z 4 u0) 8 ((zs_s z 4 u0).1 5) v7).1 5) v8) 1 v7 ((zs_a (zs_a (zs_s z 4 u0) 8 ((zs_s z 4 u0).1 5) v7) 9 ((zs_a (zs_s z 4 u0) 8 ((zs_s z 4 u0).1 5) v7).1 5) v8).1 5)) 1 v8 ((zs_a (zs_a (zs_a (zs_s z 4 u0) 8 ((zs_s z 4 u0).1 5) v7) 9 ((zs_a (zs_s z 4 u0) 8 ((zs_s z 4 u0).1 5) v7).1 5) v8) 1 v7 ((zs_a (zs_a (zs_s z 4 u0) 8 ((zs_s z 4 u0).1 5) v7) 9 ((zs_a (zs_s z 4 u0) 8 ((zs_s z 4 u0).1 5) v7).1 5) v8).1 5)).1 5)).1 5)).1 5)) 5 (((zs_a (zs_a (zs_a (zs_a (zs_a (zs_a (zs_s z 4 u0) 8 ((zs_s z 4 u0).1 5) v7) 9 ((zs_a (zs_s z 4 u0) 8 ((zs_s z 4 u0).1 5) v7).1 5) v8) 1 v7 ((zs_a (zs_a (zs_s z 4 u0) 8 ((zs_s z 4 u0).1 5) v7) 9 ((zs_a (zs_s z 4 u0) 8 ((zs_s z 4 u0).1 5) v7).1 5) v8).1 5)) 1 v8 ((zs_a (zs_a (zs_a (zs_s z 4 u0) 8 ((zs_s z 4 u0).1 5) v7) 9 ((zs_a (zs_s z 4 u0) 8 ((zs_s z 4 u0).1 5) v7).1 5) v8) 1 v7 ((zs_a (zs_a (zs_s z 4 u0) 8 ((zs_s z 4 u0).1 5) v7) 9 ((zs_a (zs_s z 4 u0) 8 ((zs_s z 4 u0).1 5) v7).1 5) v8).1 5)).1 5)) 2 v7 ((zs_a (zs_a (zs_a (zs_a (zs_s z 4 u0) 8 ((zs_s z 4 u0).1 5) v7) 9 ((zs_a (zs_s z 4 u0) 8 ((zs_s z 4 u0).1 5) v7).1 5) v8) 1 v7 ((zs_a (zs_a (zs_s z 4 u0) 8 ((zs_s z 4 u0).1 5) v7) 9 ((zs_a (zs_s z 4 u0) 8 ((zs_s z 4 u0).1 5) v7).1 5) v8).1 5)) 1 v8 ((zs_a (zs_a (zs_a (zs_s z 4 u0) 8 ((zs_s z 4 u0).1 5) v7) 9 ((zs_a (zs_s z 4 u0) 8 ((zs_s z 4 u0).1 5) v7).1 5) v8) 1 v7 ((zs_a (zs_a (zs_s z 4 u0) 8 ((zs_s z 4 u0).1 5) v7) 9 ((zs_a (zs_s z 4 u0) 8 ((zs_s z 4 u0).1 5) v7).1 5) v8).1 5)).1 5)).1 5)) 2 v8 ((zs_a (zs_a (zs_a (zs_a (zs_a (zs_s z 4 u0) 8 ((zs_s z 4 u0).1 5) v7) 9 ((zs_a (zs_s z 4 u0) 8 ((zs_s z 4 u0).1 5) v7).1 5) v8) 1 v7 ((zs_a (zs_a (zs_s z 4 u0) 8 ((zs_s z 4 u0).1 5) v7) 9 ((zs_a (zs_s z 4 u0) 8 ((zs_s z 4 u0).1 5) v7).1 5) v8).1 5)) 1 v8 ((zs_a (zs_a (zs_a (zs_s z 4 u0) 8 ((zs_s z 4 u0).1 5) v7) 9 ((zs_a (zs_s z 4 u0) 8 ((zs_s z 4 u0).1 5) v7).1 5) v8) 1 v7 ((zs_a (zs_a (zs_s z 4 u0) 8 ((zs_s z 4 u0).1 5) v7) 9 ((zs_a (zs_s z 4 u0) 8 ((zs_s z 4 u0).1 5) v7).1 5) v8).1 5)).1 5)) 2 v7 ((zs_a (zs_a (zs_a (zs_a (zs_s z 4 u0) 8 ((zs_s z 4 u0).1 5) v7) 9 ((zs_a (zs_s z 4 u0) 8 ((zs_s z 4 u0).1 5) v7).1 5) v8) 1 v7 ((zs_a (zs_a (zs_s z 4 u0) 8 ((zs_s z 4 u0).1 5) v7) 9 ((zs_a (zs_s z 4 u0) 8 ((zs_s z 4 u0).1 5) v7).1 5) v8).1 5)) 1 v8 ((zs_a (zs_a (zs_a (zs_s z 4 u0) 8 ((zs_s z 4 u0).1 5) v7) 9 ((zs_a (zs_s z 4 u0) 8 ((zs_s z 4 u0).1 5) v7).1 5) v8) 1 v7 ((zs_a (zs_a (zs_s z 4 u0) 8 ((zs_s z 4 u0).1 5) v7) 9 ((zs_a (zs_s z 4 u0) 8 ((zs_s z 4 u0).1 5) v7).1 5) v8).1 5)).1 5)).1 5)).1 5)).1 5) + (1 : Int32))).1 5) - (1 : Int32)) (zs_s (zs_a (zs_a (zs_a (zs_a (zs_a (zs_a (zs_s z 4 u0) 8 ((zs_s z 4 u0).1 5) v7) 9 ((zs_a (zs_s z 4 u0) 8 ((zs_s z 4 u0).1 5) v7).1 5) v8) 1 v7 ((zs_a (zs_a (zs_s z 4 u0) 8 ((zs_s z 4 u0).1 5) v7) 9 ((zs_a (zs_s z 4 u0) 8 ((zs_s z 4 u0).1 5) v7).1 5) v8).1 5)) 1 v8 ((zs_a (zs_a (zs_a (zs_s z 4 u0) 8 ((zs_s z 4 u0).1 5) v7) 9 ((zs_a (zs_s z 4 u0) 8 ((zs_s z 4 u0).1 5) v7).1 5) v8) 1 v7 ((zs_a (zs_a (zs_s z 4 u0) 8 ((zs_s z 4 u0).1 5) v7) 9 ((zs_a (zs_s z 4 u0) 8 ((zs_s z 4 u0).1 5) v7).1 5) v8).1 5)).1 5)) 2 v7 ((zs_a (zs_a (zs_a (zs_a (zs_s z 4 u0) 8 ((zs_s z 4 u0).1 5) v7) 9 ((zs_a (zs_s z 4 u0) 8 ((zs_s z 4 u0).1 5) v7).1 5) v8) 1 v7 ((zs_a (zs_a (zs_s z 4 u0) 8 ((zs_s z 4 u0).1 5) v7) 9 ((zs_a (zs_s z 4 u0) 8 ((zs_s z 4 u0).1 5) v7).1 5) v8).1 5)) 1 v8 ((zs_a (zs_a (zs_a (zs_s z 4 u0) 8 ((zs_s z 4 u0).1 5) v7) 9 ((zs_a (zs_s z 4 u0) 8 ((zs_s z 4 u0).1 5) v7).1 5) v8) 1 v7 ((zs_a (zs_a (zs_s z 4 u0) 8 ((zs_s z 4 u0).1 5) v7) 9 ((zs_a (zs_s z 4 u0) 8 ((zs_s z 4 u0).1 5) v7).1 5) v8).1 5)).1 5)).1 5)) 2 v8 ((zs_a (zs_a (zs_a (zs_a (zs_a (zs_s z 4 u0) 8 ((zs_s z 4 u0).1 5) v7) 9 ((zs_a (zs_s z 4 u0) 8 ((zs_s z 4 u0).1 5) v7).1 5) v8) 1 v7 ((zs_a (zs_a (zs_s z 4 u0) 8 ((zs_s z 4 u0).1 5) v7) 9 ((zs_a (zs_s z 4 u0) 8 ((zs_s z 4 u0).1 5) v7).1 5) v8).1 5)) 1 v8 ((zs_a (zs_a (zs_a (zs_s z 4 u0) 8 ((zs_s z 4 u0).1 5) v7) 9 ((zs_a (zs_s z 4 u0) 8 ((zs_s z 4 u0).1 5) v7).1 5) v8) 1 v7 ((zs_a (zs_a (zs_s z 4 u0) 8 ((zs_s z 4 u0).1 5) v7) 9 ((zs_a (zs_s z 4 u0) 8 ((zs_s z 4 u0).1 5) v7).1 5) v8).1 5)).1 5)) 2 v7 ((zs_a (zs_a (zs_a (zs_a (zs_s z 4 u0) 8 ((zs_s z 4 u0).1 5) v7) 9 ((zs_a (zs_s z 4 u0) 8 ((zs_s z 4 u0).1 5) v7).1 5) v8) 1 v7 ((zs_a (zs_a (zs_s z 4 u0) 8 ((zs_s z 4 u0).1 5) v7) 9 ((zs_a (zs_s z 4 u0) 8 ((zs_s z 4 u0).1 5) v7).1 5) v8).1 5)) 1 v8 ((zs_a (zs_a (zs_a (zs_s z 4 u0) 8 ((zs_s z 4 u0).1 5) v7) 9 ((zs_a (zs_s z 4 u0) 8 ((zs_s z 4 u0).1 5) v7).1 5) v8) 1 v7 ((zs_a (zs_a (zs_s z 4 u0) 8 ((zs_s z 4 u0).1 5) v7) 9 ((zs_a (zs_s z 4 u0) 8 ((zs_s z 4 u0).1 5) v7).1 5) v8).1 5)).1 5)).1 5)).1 5)) 5 (((zs_a (zs_a (zs_a (zs_a (zs_a (zs_a (zs_s z 4 u0) 8 ((zs_s z 4 u0).1 5) v7) 9 ((zs_a (zs_s z 4 u0) 8 ((zs_s z 4 u0).1 5) v7).1 5) v8) 1 v7 ((zs_a (zs_a (zs_s z 4 u0) 8 ((zs_s z 4 u0).1 5) v7) 9 ((zs_a (zs_s z 4 u0) 8 ((zs_s z 4 u0).1 5) v7).1 5) v8).1 5)) 1 v8 ((zs_a (zs_a (zs_a (zs_s z 4 u0) 8 ((zs_s z 4 u0).1 5) v7) 9 ((zs_a (zs_s z 4 u0) 8 ((zs_s z 4 u0).1 5) v7).1 5) v8) 1 v7 ((zs_a (zs_a (zs_s z 4 u0) 8 ((zs_s z 4 u0).1 5) v7) 9 ((zs_a (zs_s z 4 u0) 8 ((zs_s z 4 u0).1 5) v7).1 5) v8).1 5)).1 5)) 2 v7 ((zs_a (zs_a (zs_a (zs_a (zs_s z 4 u0) 8 ((zs_s z 4 u0).1 5) v7) 9 ((zs_a (zs_s z 4 u0) 8 ((zs_s z 4 u0).1 5) v7).1 5) v8) 1 v7 ((zs_a (zs_a (zs_s z 4 u0) 8 ((zs_s z 4 u0).1 5) v7) 9 ((zs_a (zs_s z 4 u0) 8 ((zs_s z 4 u0).1 5) v7).1 5) v8).1 5)) 1 v8 ((zs_a (zs_a (zs_a (zs_s z 4 u0) 8 ((zs_s z 4 u0).1 5) v7) 9 ((zs_a (zs_s z 4 u0) 8 ((zs_s z 4 u0).1 5) v7).1 5) v8) 1 v7 ((zs_a (zs_a (zs_s z 4 u0) 8 ((zs_s z 4 u0).1 5) v7) 9 ((zs_a (zs_s z 4 u0) 8 ((zs_s z 4 u0).1 5) v7).1 5) v8).1 5)).1 5)).1 5)) 2 v8 ((zs_a (zs_a (zs_a (zs_a (zs_a (zs_s z 4 u0) 8 ((zs_s z 4 u0).1 5) v7) 9 ((zs_a (zs_s z 4 u0) 8 ((zs_s z 4 u0).1 5) v7).1 5) v8) 1 v7 ((zs_a (zs_a (zs_s z 4 u0) 8 ((zs_s z 4 u0).1 5) v7) 9 ((zs_a (zs_s z 4 u0) 8 ((zs_s z 4 u0).1 5) v7).1 5) v8).1 5)) 1 v8 ((zs_a (zs_a (zs_a (zs_s z 4 u0) 8 ((zs_s z 4 u0).1 5) v7) 9 ((zs_a (zs_s z 4 u0) 8 ((zs_s z 4 u0).1 5) v7).1 5) v8) 1 v7 ((zs_a (zs_a (zs_s z 4 u0) 8 ((zs_s z 4 u0).1 5) v7) 9 ((zs_a (zs_s z 4 u0) 8 ((zs_s z 4 u0).1 5) v7).1 5) v8).1 5)).1 5)) 2 v7 ((zs_a (zs_a (zs_a (zs_a (zs_s z 4 u0) 8 ((zs_s z 4 u0).1 5) v7) 9 ((zs_a (zs_s z 4 u0) 8 ((zs_s z 4 u0).1 5) v7).1 5) v8) 1 v7 ((zs_a (zs_a (zs_s z 4 u0) 8 ((zs_s z 4 u0).1 5) v7) 9 ((zs_a (zs_s z 4 u0) 8 ((zs_s z 4 u0).1 5) v7).1 5) v8).1 5)) 1 v8 ((zs_a (zs_a (zs_a (zs_s z 4 u0) 8 ((zs_s z 4 u0).1 5) v7) 9 ((zs_a (zs_s z 4 u0) 8 ((zs_s z 4 u0).1 5) v7).1 5) v8) 1 v7 ((zs_a (zs_a (zs_s z 4 u0) 8 ((zs_s z 4 u0).1 5) v7) 9 ((zs_a (zs_s z 4 u0) 8 ((zs_s z 4 u0).1 5) v7).1 5) v8).1 5)).1 5)).1 5)).1 5)).1 5) + (1 : Int32)))) ∧ (¬ ((zs_s z 4 u0).1 4) ≤ 0 → post (0 : Int32) (zs_s z 4 u0)))
set_option maxHeartbeats 4000000 in
set_option maxRecDepth 100000 in
theorem zt_Mo_net_83 {x : zC} {w : zW} {g : zS} {o : Nat → Int64} {post : Int32 → zS → Prop} (hG : zq_G x w "GridRouterModel" zc_Mo_net 9 (zq_rm 4 95)) (hR : zq_R x w (zq_A w) (some .int) (zq_Ni g o post)) (hAp : zq_Ap w) (hW : zq_Wr x w) {v7 v8 u0 : Int32} {z : zS} (h : zw_Mo_net_83 post v7 v8 u0 z) : zq_W x w 0 0 (g, z, o) 83 [some (.ref (w.2.1 28)), none, none, none, none, none, none, some (.int v7), some (.int v8)] [.int u0, .ref (w.2.1 28)] := by
  refine zp_Mo_code hG hW tk_767 zd_Mo_net_83 ?_
  refine zr_aload_n hG zd_Mo_net_86 rfl rfl ?_
  refine zf_Mo_code hG tk_767 zd_Mo_net_87 ?_
  refine zr_if_le hG 95 zd_Mo_net_90 (by decide) (fun hc => ?_) (fun hc => ?_)
  · have h := h.1 hc
    refine zr_aload_n hG zd_Mo_net_95 rfl rfl ?_
    refine zf_Mo_first hG tk_777 zd_Mo_net_96 ?_
    refine zr_aload_n hG zd_Mo_net_99 rfl rfl ?_
    refine zf_Mo_nets hG tk_776 zd_Mo_net_100 ?_
    refine zr_iload hG zd_Mo_net_103 rfl ?_
    obtain ⟨hi, h⟩ := h
    refine zu_37 hG hW hi zd_Mo_net_105 ?_
    refine zr_aload_n hG zd_Mo_net_106 rfl rfl ?_
    refine zf_Mo_second hG tk_778 zd_Mo_net_107 ?_
    refine zr_aload_n hG zd_Mo_net_110 rfl rfl ?_
    refine zf_Mo_nets hG tk_776 zd_Mo_net_111 ?_
    refine zr_iload hG zd_Mo_net_114 rfl ?_
    obtain ⟨hi, h⟩ := h
    refine zu_38 hG hW hi zd_Mo_net_116 ?_
    refine zr_aload_n hG zd_Mo_net_117 rfl rfl ?_
    refine zf_Mo_pin hG tk_769 zd_Mo_net_118 ?_
    refine zr_iload hG zd_Mo_net_121 rfl ?_
    refine zr_aload_n hG zd_Mo_net_123 rfl rfl ?_
    refine zf_Mo_nets hG tk_776 zd_Mo_net_124 ?_
    obtain ⟨hi, h⟩ := h
    refine zu_30 hG hW hi zd_Mo_net_127 ?_
    refine zr_aload_n hG zd_Mo_net_128 rfl rfl ?_
    refine zf_Mo_pin hG tk_769 zd_Mo_net_129 ?_
    refine zr_iload hG zd_Mo_net_132 rfl ?_
    refine zr_aload_n hG zd_Mo_net_134 rfl rfl ?_
    refine zf_Mo_nets hG tk_776 zd_Mo_net_135 ?_
    obtain ⟨hi, h⟩ := h
    refine zu_30 hG hW hi zd_Mo_net_138 ?_
    refine zr_aload_n hG zd_Mo_net_139 rfl rfl ?_
    refine zf_Mo_owner hG tk_770 zd_Mo_net_140 ?_
    refine zr_iload hG zd_Mo_net_143 rfl ?_
    refine zr_aload_n hG zd_Mo_net_145 rfl rfl ?_
    refine zf_Mo_nets hG tk_776 zd_Mo_net_146 ?_
    obtain ⟨hi, h⟩ := h
    refine zu_31 hG hW hi zd_Mo_net_149 ?_
    refine zr_aload_n hG zd_Mo_net_150 rfl rfl ?_
    refine zf_Mo_owner hG tk_770 zd_Mo_net_151 ?_
    refine zr_iload hG zd_Mo_net_154 rfl ?_
    refine zr_aload_n hG zd_Mo_net_156 rfl rfl ?_
    refine zf_Mo_nets hG tk_776 zd_Mo_net_157 ?_
    obtain ⟨hi, h⟩ := h
    refine zu_31 hG hW hi zd_Mo_net_160 ?_
    refine zr_aload_n hG zd_Mo_net_161 rfl rfl ?_
    refine zr_dup hG zd_Mo_net_162 rfl ?_
    refine zf_Mo_nets hG tk_776 zd_Mo_net_163 ?_
    refine zr_iconst hG (v := (1 : Int32)) zd_Mo_net_166 (by decide) ?_
    refine zr_iadd hG zd_Mo_net_167 ?_
    refine zp_Mo_nets hG hW tk_776 zd_Mo_net_168 ?_
    refine zr_aload_n hG zd_Mo_net_171 rfl rfl ?_
    refine zf_Mo_nets hG tk_776 zd_Mo_net_172 ?_
    refine zr_iconst hG (v := (1 : Int32)) zd_Mo_net_175 (by decide) ?_
    refine zr_isub hG zd_Mo_net_176 ?_
    exact zr_iret hG hR zd_Mo_net_177 ⟨_, _, rfl, rfl, h⟩
  · have h := h.2 hc
    refine zr_iconst hG (v := (0 : Int32)) zd_Mo_net_93 (by decide) ?_
    exact zr_iret hG hR zd_Mo_net_94 ⟨_, _, rfl, rfl, h⟩
def zw_Mo_net_65 (post : Int32 → zS → Prop) (v7 v8 : Int32) (z : zS) : Prop := zw_Mo_net_83 post v7 v8 (2 : Int32) z
set_option maxHeartbeats 4000000 in
set_option maxRecDepth 100000 in
theorem zt_Mo_net_65 {x : zC} {w : zW} {g : zS} {o : Nat → Int64} {post : Int32 → zS → Prop} (hG : zq_G x w "GridRouterModel" zc_Mo_net 9 (zq_rm 4 95)) (hR : zq_R x w (zq_A w) (some .int) (zq_Ni g o post)) (hAp : zq_Ap w) (hW : zq_Wr x w) {v7 v8 : Int32} {z : zS} (h : zw_Mo_net_65 post v7 v8 z) : zq_W x w 0 0 (g, z, o) 65 [some (.ref (w.2.1 28)), none, none, none, none, none, none, some (.int v7), some (.int v8)] [.ref (w.2.1 28)] := by
  refine zr_iconst hG (v := (2 : Int32)) zd_Mo_net_65 (by decide) ?_
  refine zr_goto hG 83 zd_Mo_net_66 (by decide) ?_
  exact zt_Mo_net_83 hG hR hAp hW h
def zw_Mo_net_34 (post : Int32 → zS → Prop) (v7 v8 : Int32) (z : zS) : Prop := zw_Mo_net_83 post v7 v8 (1 : Int32) z
set_option maxHeartbeats 4000000 in
set_option maxRecDepth 100000 in
theorem zt_Mo_net_34 {x : zC} {w : zW} {g : zS} {o : Nat → Int64} {post : Int32 → zS → Prop} (hG : zq_G x w "GridRouterModel" zc_Mo_net 9 (zq_rm 4 95)) (hR : zq_R x w (zq_A w) (some .int) (zq_Ni g o post)) (hAp : zq_Ap w) (hW : zq_Wr x w) {v7 v8 : Int32} {z : zS} (h : zw_Mo_net_34 post v7 v8 z) : zq_W x w 0 0 (g, z, o) 34 [some (.ref (w.2.1 28)), none, none, none, none, none, none, some (.int v7), some (.int v8)] [.ref (w.2.1 28)] := by
  refine zr_iconst hG (v := (1 : Int32)) zd_Mo_net_34 (by decide) ?_
  refine zr_goto hG 83 zd_Mo_net_35 (by decide) ?_
  exact zt_Mo_net_83 hG hR hAp hW h
def zw_Mo_net (a1 a2 a3 a4 a5 a6 : Int32) (z : zS) (post : Int32 → zS → Prop) : Prop := (zw_Mo_at a1 a2 a3 z (fun r67 z67 => (zw_Mo_at a4 a5 a6 z67 (fun r68 z68 => ((r67 = (-1 : Int32) → zw_Mo_net_34 post r67 r68 z68) ∧ (¬ r67 = (-1 : Int32) → ((¬ r68 = (-1 : Int32) → ((r67 = r68 → zw_Mo_net_65 post r67 r68 z68) ∧ (¬ r67 = r68 → (zw_Mo_isBarred r67 (-1 : Int32) z68 (fun r69 z69 => ((¬ r69 = 0 → zw_Mo_net_65 post r67 r68 z69) ∧ (r69 = 0 → (zw_Mo_isBarred r68 (-1 : Int32) z69 (fun r70 z70 => ((r70 = 0 → ((¬ (z70.1 5) = (6 : Int32) → zw_Mo_net_83 post r67 r68 (0 : Int32) z70) ∧ ((z70.1 5) = (6 : Int32) → zw_Mo_net_83 post r67 r68 (3 : Int32) z70))) ∧ (¬ r70 = 0 → zw_Mo_net_65 post r67 r68 z70))))))))))) ∧ (r68 = (-1 : Int32) → zw_Mo_net_34 post r67 r68 z68))))))))
set_option maxHeartbeats 4000000 in
set_option maxRecDepth 100000 in
theorem zm_Mo_net (l : Launch) (w : zW) (hAp : zq_Ap w) (g : zS) (o : Nat → Int64) {a1 a2 a3 a4 a5 a6 : Int32} {z : zS} {post : Int32 → zS → Prop} (h : zw_Mo_net a1 a2 a3 a4 a5 a6 z post) : zq_M l w (zq_A w) zy_Mo_net zc_Mo_net 9 (some .int) (zq_rm 4 95) [.ref (w.2.1 28), .int a1, .int a2, .int a3, .int a4, .int a5, .int a6] (g, z, o) (zq_Ni g o post) := by
  refine zq_mk_M (by decide) (by simp [Value.category]) (Nat.le_of_ble_eq_true rfl) hAp (fun x hx hG hR => ?_)
  subst hx
  have hW := zq_wr hR.2.2.1
  have h : (zw_Mo_at a1 a2 a3 z (fun r67 z67 => (zw_Mo_at a4 a5 a6 z67 (fun r68 z68 => ((r67 = (-1 : Int32) → zw_Mo_net_34 post r67 r68 z68) ∧ (¬ r67 = (-1 : Int32) → ((¬ r68 = (-1 : Int32) → ((r67 = r68 → zw_Mo_net_65 post r67 r68 z68) ∧ (¬ r67 = r68 → (zw_Mo_isBarred r67 (-1 : Int32) z68 (fun r69 z69 => ((¬ r69 = 0 → zw_Mo_net_65 post r67 r68 z69) ∧ (r69 = 0 → (zw_Mo_isBarred r68 (-1 : Int32) z69 (fun r70 z70 => ((r70 = 0 → ((¬ (z70.1 5) = (6 : Int32) → zw_Mo_net_83 post r67 r68 (0 : Int32) z70) ∧ ((z70.1 5) = (6 : Int32) → zw_Mo_net_83 post r67 r68 (3 : Int32) z70))) ∧ (¬ r70 = 0 → zw_Mo_net_65 post r67 r68 z70))))))))))) ∧ (r68 = (-1 : Int32) → zw_Mo_net_34 post r67 r68 z68)))))))) := h
  refine zr_aload_n hG zd_Mo_net_0 rfl rfl ?_
  refine zr_iload_n hG zd_Mo_net_1 rfl rfl ?_
  refine zr_iload_n hG zd_Mo_net_2 rfl rfl ?_
  refine zr_iload_n hG zd_Mo_net_3 rfl rfl ?_
  refine zr_callV hG zq_F0 (As := [.int a1, .int a2, .int a3]) (rest := []) (zm_Mo_at (zc_l x) w hAp g o h) 28 rfl rfl rfl zg_Mo_65 zdd_Mo_at ⟨rfl, rfl, by decide, by decide⟩ ⟨by decide, by decide⟩ rfl (Nat.le_of_ble_eq_true rfl) zd_Mo_net_4 rfl ?_
  rintro _ _ ⟨r67, z67, rfl, rfl, h⟩
  refine zr_istore hG [some (.ref (w.2.1 28)), some (.int a1), some (.int a2), some (.int a3), some (.int a4), some (.int a5), some (.int a6), some (.int r67), none] zd_Mo_net_7 (Nat.le_of_ble_eq_true rfl) rfl ?_
  refine zr_aload_n hG zd_Mo_net_9 rfl rfl ?_
  refine zr_iload hG zd_Mo_net_10 rfl ?_
  refine zr_iload hG zd_Mo_net_12 rfl ?_
  refine zr_iload hG zd_Mo_net_14 rfl ?_
  refine zr_callV hG zq_F0 (As := [.int a4, .int a5, .int a6]) (rest := []) (zm_Mo_at (zc_l x) w hAp g o h) 28 rfl rfl rfl zg_Mo_65 zdd_Mo_at ⟨rfl, rfl, by decide, by decide⟩ ⟨by decide, by decide⟩ rfl (Nat.le_of_ble_eq_true rfl) zd_Mo_net_16 rfl ?_
  rintro _ _ ⟨r68, z68, rfl, rfl, h⟩
  refine zr_istore hG [some (.ref (w.2.1 28)), some (.int a1), some (.int a2), some (.int a3), some (.int a4), some (.int a5), some (.int a6), some (.int r67), some (.int r68)] zd_Mo_net_19 (Nat.le_of_ble_eq_true rfl) rfl ?_
  refine zr_aload_n hG zd_Mo_net_21 rfl rfl ?_
  refine zr_iload hG zd_Mo_net_22 rfl ?_
  refine zr_iconst hG (v := (-1 : Int32)) zd_Mo_net_24 (by decide) ?_
  refine zr_icmp_eq hG 34 zd_Mo_net_25 (by decide) (fun hc => ?_) (fun hc => ?_)
  · have h := h.1 hc
    exact zr_mask [true, false, false, false, false, false, false, true, true] (zt_Mo_net_34 hG hR hAp hW h)
  · have h := h.2 hc
    refine zr_iload hG zd_Mo_net_28 rfl ?_
    refine zr_iconst hG (v := (-1 : Int32)) zd_Mo_net_30 (by decide) ?_
    refine zr_icmp_ne hG 38 zd_Mo_net_31 (by decide) (fun hc => ?_) (fun hc => ?_)
    · have h := h.1 hc
      refine zr_iload hG zd_Mo_net_38 rfl ?_
      refine zr_iload hG zd_Mo_net_40 rfl ?_
      refine zr_icmp_eq hG 65 zd_Mo_net_42 (by decide) (fun hc => ?_) (fun hc => ?_)
      · have h := h.1 hc
        exact zr_mask [true, false, false, false, false, false, false, true, true] (zt_Mo_net_65 hG hR hAp hW h)
      · have h := h.2 hc
        refine zr_aload_n hG zd_Mo_net_45 rfl rfl ?_
        refine zr_iload hG zd_Mo_net_46 rfl ?_
        refine zr_iconst hG (v := (-1 : Int32)) zd_Mo_net_48 (by decide) ?_
        refine zr_callV hG zq_F0 (As := [.int r67, .int (-1 : Int32)]) (rest := [.ref (w.2.1 28)]) (zm_Mo_isBarred (zc_l x) w hAp g o h) 28 rfl rfl rfl zg_Mo_76 zdd_Mo_isBarred ⟨rfl, rfl, by decide, by decide⟩ ⟨by decide, by decide⟩ rfl (Nat.le_of_ble_eq_true rfl) zd_Mo_net_49 rfl ?_
        rintro _ _ ⟨r69, z69, rfl, rfl, h⟩
        refine zr_if_ne hG 65 zd_Mo_net_52 (by decide) (fun hc => ?_) (fun hc => ?_)
        · have h := h.1 hc
          exact zr_mask [true, false, false, false, false, false, false, true, true] (zt_Mo_net_65 hG hR hAp hW h)
        · have h := h.2 hc
          refine zr_aload_n hG zd_Mo_net_55 rfl rfl ?_
          refine zr_iload hG zd_Mo_net_56 rfl ?_
          refine zr_iconst hG (v := (-1 : Int32)) zd_Mo_net_58 (by decide) ?_
          refine zr_callV hG zq_F0 (As := [.int r68, .int (-1 : Int32)]) (rest := [.ref (w.2.1 28)]) (zm_Mo_isBarred (zc_l x) w hAp g o h) 28 rfl rfl rfl zg_Mo_76 zdd_Mo_isBarred ⟨rfl, rfl, by decide, by decide⟩ ⟨by decide, by decide⟩ rfl (Nat.le_of_ble_eq_true rfl) zd_Mo_net_59 rfl ?_
          rintro _ _ ⟨r70, z70, rfl, rfl, h⟩
          refine zr_if_eq hG 69 zd_Mo_net_62 (by decide) (fun hc => ?_) (fun hc => ?_)
          · have h := h.1 hc
            refine zr_aload_n hG zd_Mo_net_69 rfl rfl ?_
            refine zf_Mo_nets hG tk_776 zd_Mo_net_70 ?_
            refine zr_bipush hG (v := (6 : Int32)) zd_Mo_net_73 (by decide) ?_
            refine zr_icmp_ne hG 82 zd_Mo_net_75 (by decide) (fun hc => ?_) (fun hc => ?_)
            · have h := h.1 hc
              refine zr_iconst hG (v := (0 : Int32)) zd_Mo_net_82 (by decide) ?_
              exact zr_mask [true, false, false, false, false, false, false, true, true] (zt_Mo_net_83 hG hR hAp hW h)
            · have h := h.2 hc
              refine zr_iconst hG (v := (3 : Int32)) zd_Mo_net_78 (by decide) ?_
              refine zr_goto hG 83 zd_Mo_net_79 (by decide) ?_
              exact zr_mask [true, false, false, false, false, false, false, true, true] (zt_Mo_net_83 hG hR hAp hW h)
          · have h := h.2 hc
            exact zr_mask [true, false, false, false, false, false, false, true, true] (zt_Mo_net_65 hG hR hAp hW h)
    · have h := h.2 hc
      exact zr_mask [true, false, false, false, false, false, false, true, true] (zt_Mo_net_34 hG hR hAp hW h)
def zw_Mo_isNet_17 (post : Int32 → zS → Prop) (u0 : Int32) (z : zS) : Prop := (narrow .boolean (.int u0) = .int u0 ∧ post u0 z)
set_option maxHeartbeats 4000000 in
set_option maxRecDepth 100000 in
theorem zt_Mo_isNet_17 {x : zC} {w : zW} {g : zS} {o : Nat → Int64} {post : Int32 → zS → Prop} (hG : zq_G x w "GridRouterModel" zc_Mo_isNet 2 (zq_rm 0 0)) (hR : zq_R x w zq_0 (some .boolean) (zq_Ni g o post)) (hAp : zq_Ap w) {u0 : Int32} {z : zS} (h : zw_Mo_isNet_17 post u0 z) : zq_W x w 0 0 (g, z, o) 17 [none, none] [.int u0] := by
  obtain ⟨hn, h⟩ := h
  exact zr_zret hG hR zd_Mo_isNet_17 hn ⟨_, _, rfl, rfl, h⟩
def zw_Mo_isNet_16 (post : Int32 → zS → Prop) (z : zS) : Prop := zw_Mo_isNet_17 post (0 : Int32) z
set_option maxHeartbeats 4000000 in
set_option maxRecDepth 100000 in
theorem zt_Mo_isNet_16 {x : zC} {w : zW} {g : zS} {o : Nat → Int64} {post : Int32 → zS → Prop} (hG : zq_G x w "GridRouterModel" zc_Mo_isNet 2 (zq_rm 0 0)) (hR : zq_R x w zq_0 (some .boolean) (zq_Ni g o post)) (hAp : zq_Ap w) {z : zS} (h : zw_Mo_isNet_16 post z) : zq_W x w 0 0 (g, z, o) 16 [none, none] [] := by
  refine zr_iconst hG (v := (0 : Int32)) zd_Mo_isNet_16 (by decide) ?_
  exact zt_Mo_isNet_17 hG hR hAp h
def zw_Mo_isNet (a1 : Int32) (z : zS) (post : Int32 → zS → Prop) : Prop := ((a1 < 0 → zw_Mo_isNet_16 post z) ∧ (¬ a1 < 0 → (((z.1 5) ≤ a1 → zw_Mo_isNet_16 post z) ∧ (¬ (z.1 5) ≤ a1 → zw_Mo_isNet_17 post (1 : Int32) z))))
set_option maxHeartbeats 4000000 in
set_option maxRecDepth 100000 in
theorem zm_Mo_isNet (l : Launch) (w : zW) (hAp : zq_Ap w) (g : zS) (o : Nat → Int64) {a1 : Int32} {z : zS} {post : Int32 → zS → Prop} (h : zw_Mo_isNet a1 z post) : zq_M l w zq_0 zy_Mo_isNet zc_Mo_isNet 2 (some .boolean) (zq_rm 0 0) [.ref (w.2.1 28), .int a1] (g, z, o) (zq_Ni g o post) := by
  refine zq_mk_M (by decide) (by simp [Value.category]) (Nat.le_of_ble_eq_true rfl) hAp (fun x hx hG hR => ?_)
  subst hx
  refine zr_iload_n hG zd_Mo_isNet_0 rfl rfl ?_
  refine zr_if_lt hG 16 zd_Mo_isNet_1 (by decide) (fun hc => ?_) (fun hc => ?_)
  · have h := h.1 hc
    exact zr_mask [false, false] (zt_Mo_isNet_16 hG hR hAp h)
  · have h := h.2 hc
    refine zr_iload_n hG zd_Mo_isNet_4 rfl rfl ?_
    refine zr_aload_n hG zd_Mo_isNet_5 rfl rfl ?_
    refine zf_Mo_nets hG tk_776 zd_Mo_isNet_6 ?_
    refine zr_icmp_ge hG 16 zd_Mo_isNet_9 (by decide) (fun hc => ?_) (fun hc => ?_)
    · have h := h.1 hc
      exact zr_mask [false, false] (zt_Mo_isNet_16 hG hR hAp h)
    · have h := h.2 hc
      refine zr_iconst hG (v := (1 : Int32)) zd_Mo_isNet_12 (by decide) ?_
      refine zr_goto hG 17 zd_Mo_isNet_13 (by decide) ?_
      exact zr_mask [false, false] (zt_Mo_isNet_17 hG hR hAp h)
def zw_Mo_clear_72 (post : zS → Prop) (k39 : Int32 × Int32 × zS → Prop) (v1 v2 u0 u1 : Int32) (z : zS) : Prop := vp_in u1 162 ∧ k39 (v1, (v2 + (1 : Int32)), (zs_a z 2 u1 u0))
set_option maxHeartbeats 4000000 in
set_option maxRecDepth 100000 in
theorem zt_Mo_clear_72 {x : zC} {w : zW} {g : zS} {o : Nat → Int64} {post : zS → Prop} (hG : zq_G x w "GridRouterModel" zc_Mo_clear 3 (zq_rm 1 21)) (hR : zq_R x w (zq_A w) none (zq_Nv g o post)) (hAp : zq_Ap w) (hW : zq_Wr x w) {k39 : Int32 × Int32 × zS → Prop} (hk39 : ∀ b : Int32 × Int32 × zS, k39 b → zq_W x w 0 0 (g, b.2.2, o) 39 [some (.ref (w.2.1 28)), some (.int (b.1)), some (.int (b.2.1))] []) {v1 v2 u0 u1 : Int32} {z : zS} (h : zw_Mo_clear_72 post k39 v1 v2 u0 u1 z) : zq_W x w 0 0 (g, z, o) 72 [some (.ref (w.2.1 28)), some (.int v1), some (.int v2)] [.int u0, .int u1, .ref (w.2.1 31)] := by
  obtain ⟨hi, h⟩ := h
  refine zu_31 hG hW hi zd_Mo_clear_72 ?_
  refine zr_iinc hG (u := (1 : Int32)) [some (.ref (w.2.1 28)), some (.int v1), some (.int (v2 + (1 : Int32)))] zd_Mo_clear_73 rfl (by decide) (Nat.le_of_ble_eq_true rfl) rfl ?_
  refine zr_goto hG 39 zd_Mo_clear_76 (by decide) ?_
  have h := hk39 _ h
  exact h
def zw_Mo_clear_39 (post : zS → Prop) (k39 : Int32 × Int32 × zS → Prop) : Int32 × Int32 × zS → Prop := fun b => match b with
  | (v1, v2, z) => (zw_Mo_many z (fun r73 z73 => ((r73 ≤ v2 → vp_in v1 6 ∧ vp_in (z73.2 8 v1.toNatClampNeg) 162 ∧ vp_in v1 6 ∧ vp_in ((zs_a z73 2 (z73.2 8 v1.toNatClampNeg) v1).2 9 v1.toNatClampNeg) 162 ∧ post (zs_a (zs_a z73 2 (z73.2 8 v1.toNatClampNeg) v1) 2 ((zs_a z73 2 (z73.2 8 v1.toNatClampNeg) v1).2 9 v1.toNatClampNeg) v1)) ∧ (¬ r73 ≤ v2 → vp_in v2 162 ∧ ((¬ (z73.2 2 v2.toNatClampNeg) = v1 → vp_in v2 162 ∧ zw_Mo_clear_72 post k39 v1 v2 (z73.2 2 v2.toNatClampNeg) v2 z73) ∧ ((z73.2 2 v2.toNatClampNeg) = v1 → zw_Mo_clear_72 post k39 v1 v2 (-1 : Int32) v2 z73))))))
set_option maxHeartbeats 4000000 in
set_option maxRecDepth 100000 in
theorem zt_Mo_clear_39 {x : zC} {w : zW} {g : zS} {o : Nat → Int64} {post : zS → Prop} (hG : zq_G x w "GridRouterModel" zc_Mo_clear 3 (zq_rm 1 21)) (hR : zq_R x w (zq_A w) none (zq_Nv g o post)) (hAp : zq_Ap w) (hW : zq_Wr x w) {v1 v2 : Int32} {z : zS} (h : zq_Lp (zw_Mo_clear_39 post) (v1, v2, z)) : zq_W x w 0 0 (g, z, o) 39 [some (.ref (w.2.1 28)), some (.int v1), some (.int v2)] [] := by
  refine zq_Lp_W (WW := fun b => zq_W x w 0 0 (g, b.2.2, o) 39 [some (.ref (w.2.1 28)), some (.int (b.1)), some (.int (b.2.1))] []) (fun k39 hk39 b h => ?_) h
  obtain ⟨v1, v2, z⟩ := b
  show zq_W x w 0 0 (g, z, o) 39 [some (.ref (w.2.1 28)), some (.int v1), some (.int v2)] []
  have h : (zw_Mo_many z (fun r73 z73 => ((r73 ≤ v2 → vp_in v1 6 ∧ vp_in (z73.2 8 v1.toNatClampNeg) 162 ∧ vp_in v1 6 ∧ vp_in ((zs_a z73 2 (z73.2 8 v1.toNatClampNeg) v1).2 9 v1.toNatClampNeg) 162 ∧ post (zs_a (zs_a z73 2 (z73.2 8 v1.toNatClampNeg) v1) 2 ((zs_a z73 2 (z73.2 8 v1.toNatClampNeg) v1).2 9 v1.toNatClampNeg) v1)) ∧ (¬ r73 ≤ v2 → vp_in v2 162 ∧ ((¬ (z73.2 2 v2.toNatClampNeg) = v1 → vp_in v2 162 ∧ zw_Mo_clear_72 post k39 v1 v2 (z73.2 2 v2.toNatClampNeg) v2 z73) ∧ ((z73.2 2 v2.toNatClampNeg) = v1 → zw_Mo_clear_72 post k39 v1 v2 (-1 : Int32) v2 z73)))))) := h
  refine zr_iload_n hG zd_Mo_clear_39 rfl rfl ?_
  refine zr_aload_n hG zd_Mo_clear_40 rfl rfl ?_
  refine zr_callV hG zq_F0 (As := []) (rest := [.int v2]) (zm_Mo_many (zc_l x) w hAp g o h) 28 rfl rfl rfl zg_Mo_86 zdd_Mo_many ⟨rfl, rfl, by decide, by decide⟩ ⟨by decide, by decide⟩ rfl (Nat.le_of_ble_eq_true rfl) zd_Mo_clear_41 rfl ?_
  rintro _ _ ⟨r73, z73, rfl, rfl, h⟩
  refine zr_icmp_ge hG 79 zd_Mo_clear_44 (by decide) (fun hc => ?_) (fun hc => ?_)
  · have h := h.1 hc
    refine zr_aload_n hG zd_Mo_clear_79 rfl rfl ?_
    refine zf_Mo_owner hG tk_770 zd_Mo_clear_80 ?_
    refine zr_aload_n hG zd_Mo_clear_83 rfl rfl ?_
    refine zf_Mo_first hG tk_777 zd_Mo_clear_84 ?_
    refine zr_iload_n hG zd_Mo_clear_87 rfl rfl ?_
    obtain ⟨hi, h⟩ := h
    refine zl_37 hG hi zd_Mo_clear_88 ?_
    refine zr_iload_n hG zd_Mo_clear_89 rfl rfl ?_
    obtain ⟨hi, h⟩ := h
    refine zu_31 hG hW hi zd_Mo_clear_90 ?_
    refine zr_aload_n hG zd_Mo_clear_91 rfl rfl ?_
    refine zf_Mo_owner hG tk_770 zd_Mo_clear_92 ?_
    refine zr_aload_n hG zd_Mo_clear_95 rfl rfl ?_
    refine zf_Mo_second hG tk_778 zd_Mo_clear_96 ?_
    refine zr_iload_n hG zd_Mo_clear_99 rfl rfl ?_
    obtain ⟨hi, h⟩ := h
    refine zl_38 hG hi zd_Mo_clear_100 ?_
    refine zr_iload_n hG zd_Mo_clear_101 rfl rfl ?_
    obtain ⟨hi, h⟩ := h
    refine zu_31 hG hW hi zd_Mo_clear_102 ?_
    exact zr_vret hG hR zd_Mo_clear_103 ⟨_, rfl, rfl, h⟩
  · have h := h.2 hc
    refine zr_aload_n hG zd_Mo_clear_47 rfl rfl ?_
    refine zf_Mo_owner hG tk_770 zd_Mo_clear_48 ?_
    refine zr_iload_n hG zd_Mo_clear_51 rfl rfl ?_
    refine zr_aload_n hG zd_Mo_clear_52 rfl rfl ?_
    refine zf_Mo_owner hG tk_770 zd_Mo_clear_53 ?_
    refine zr_iload_n hG zd_Mo_clear_56 rfl rfl ?_
    obtain ⟨hi, h⟩ := h
    refine zl_31 hG hi zd_Mo_clear_57 ?_
    refine zr_iload_n hG zd_Mo_clear_58 rfl rfl ?_
    refine zr_icmp_ne hG 66 zd_Mo_clear_59 (by decide) (fun hc => ?_) (fun hc => ?_)
    · have h := h.1 hc
      refine zr_aload_n hG zd_Mo_clear_66 rfl rfl ?_
      refine zf_Mo_owner hG tk_770 zd_Mo_clear_67 ?_
      refine zr_iload_n hG zd_Mo_clear_70 rfl rfl ?_
      obtain ⟨hi, h⟩ := h
      refine zl_31 hG hi zd_Mo_clear_71 ?_
      exact zt_Mo_clear_72 hG hR hAp hW hk39 h
    · have h := h.2 hc
      refine zr_iconst hG (v := (-1 : Int32)) zd_Mo_clear_62 (by decide) ?_
      refine zr_goto hG 72 zd_Mo_clear_63 (by decide) ?_
      exact zt_Mo_clear_72 hG hR hAp hW hk39 h
def zw_Mo_clear_31 (post : zS → Prop) (k2 : Int32 × Int32 × zS → Prop) (v1 v2 : Int32) (z : zS) : Prop := k2 (v1, (v2 + (1 : Int32)), z)
set_option maxHeartbeats 4000000 in
set_option maxRecDepth 100000 in
theorem zt_Mo_clear_31 {x : zC} {w : zW} {g : zS} {o : Nat → Int64} {post : zS → Prop} (hG : zq_G x w "GridRouterModel" zc_Mo_clear 3 (zq_rm 1 21)) (hR : zq_R x w (zq_A w) none (zq_Nv g o post)) (hAp : zq_Ap w) (hW : zq_Wr x w) {k2 : Int32 × Int32 × zS → Prop} (hk2 : ∀ b : Int32 × Int32 × zS, k2 b → zq_W x w 0 0 (g, b.2.2, o) 2 [some (.ref (w.2.1 28)), some (.int (b.1)), some (.int (b.2.1))] []) {v1 v2 : Int32} {z : zS} (h : zw_Mo_clear_31 post k2 v1 v2 z) : zq_W x w 0 0 (g, z, o) 31 [some (.ref (w.2.1 28)), some (.int v1), some (.int v2)] [] := by
  refine zr_iinc hG (u := (1 : Int32)) [some (.ref (w.2.1 28)), some (.int v1), some (.int (v2 + (1 : Int32)))] zd_Mo_clear_31 rfl (by decide) (Nat.le_of_ble_eq_true rfl) rfl ?_
  refine zr_goto hG 2 zd_Mo_clear_34 (by decide) ?_
  have h := hk2 _ h
  exact h
def zw_Mo_clear_2 (post : zS → Prop) (k2 : Int32 × Int32 × zS → Prop) : Int32 × Int32 × zS → Prop := fun b => match b with
  | (v1, v2, z) => (zw_Mo_many z (fun r71 z71 => ((r71 ≤ v2 → zq_Lp (zw_Mo_clear_39 post) (v1, (0 : Int32), z71)) ∧ (¬ r71 ≤ v2 → vp_in v2 162 ∧ ((¬ (z71.2 2 v2.toNatClampNeg) = v1 → zw_Mo_clear_31 post k2 v1 v2 z71) ∧ ((z71.2 2 v2.toNatClampNeg) = v1 → (zw_Mo_placeOf v2 z71 (fun r72 z72 => vp_in r72 81 ∧ zw_Mo_clear_31 post k2 v1 v2 (zs_a z72 3 r72 (vp_nar .boolean (0 : Int32)))))))))))
set_option maxHeartbeats 4000000 in
set_option maxRecDepth 100000 in
theorem zt_Mo_clear_2 {x : zC} {w : zW} {g : zS} {o : Nat → Int64} {post : zS → Prop} (hG : zq_G x w "GridRouterModel" zc_Mo_clear 3 (zq_rm 1 21)) (hR : zq_R x w (zq_A w) none (zq_Nv g o post)) (hAp : zq_Ap w) (hW : zq_Wr x w) {v1 v2 : Int32} {z : zS} (h : zq_Lp (zw_Mo_clear_2 post) (v1, v2, z)) : zq_W x w 0 0 (g, z, o) 2 [some (.ref (w.2.1 28)), some (.int v1), some (.int v2)] [] := by
  refine zq_Lp_W (WW := fun b => zq_W x w 0 0 (g, b.2.2, o) 2 [some (.ref (w.2.1 28)), some (.int (b.1)), some (.int (b.2.1))] []) (fun k2 hk2 b h => ?_) h
  obtain ⟨v1, v2, z⟩ := b
  show zq_W x w 0 0 (g, z, o) 2 [some (.ref (w.2.1 28)), some (.int v1), some (.int v2)] []
  have h : (zw_Mo_many z (fun r71 z71 => ((r71 ≤ v2 → zq_Lp (zw_Mo_clear_39 post) (v1, (0 : Int32), z71)) ∧ (¬ r71 ≤ v2 → vp_in v2 162 ∧ ((¬ (z71.2 2 v2.toNatClampNeg) = v1 → zw_Mo_clear_31 post k2 v1 v2 z71) ∧ ((z71.2 2 v2.toNatClampNeg) = v1 → (zw_Mo_placeOf v2 z71 (fun r72 z72 => vp_in r72 81 ∧ zw_Mo_clear_31 post k2 v1 v2 (zs_a z72 3 r72 (vp_nar .boolean (0 : Int32))))))))))) := h
  refine zr_iload_n hG zd_Mo_clear_2 rfl rfl ?_
  refine zr_aload_n hG zd_Mo_clear_3 rfl rfl ?_
  refine zr_callV hG zq_F0 (As := []) (rest := [.int v2]) (zm_Mo_many (zc_l x) w hAp g o h) 28 rfl rfl rfl zg_Mo_86 zdd_Mo_many ⟨rfl, rfl, by decide, by decide⟩ ⟨by decide, by decide⟩ rfl (Nat.le_of_ble_eq_true rfl) zd_Mo_clear_4 rfl ?_
  rintro _ _ ⟨r71, z71, rfl, rfl, h⟩
  refine zr_icmp_ge hG 37 zd_Mo_clear_7 (by decide) (fun hc => ?_) (fun hc => ?_)
  · have h := h.1 hc
    refine zr_iconst hG (v := (0 : Int32)) zd_Mo_clear_37 (by decide) ?_
    refine zr_istore_n hG [some (.ref (w.2.1 28)), some (.int v1), some (.int (0 : Int32))] zd_Mo_clear_38 rfl (Nat.le_of_ble_eq_true rfl) rfl ?_
    exact zt_Mo_clear_39 hG hR hAp hW h
  · have h := h.2 hc
    refine zr_aload_n hG zd_Mo_clear_10 rfl rfl ?_
    refine zf_Mo_owner hG tk_770 zd_Mo_clear_11 ?_
    refine zr_iload_n hG zd_Mo_clear_14 rfl rfl ?_
    obtain ⟨hi, h⟩ := h
    refine zl_31 hG hi zd_Mo_clear_15 ?_
    refine zr_iload_n hG zd_Mo_clear_16 rfl rfl ?_
    refine zr_icmp_ne hG 31 zd_Mo_clear_17 (by decide) (fun hc => ?_) (fun hc => ?_)
    · have h := h.1 hc
      exact zt_Mo_clear_31 hG hR hAp hW hk2 h
    · have h := h.2 hc
      refine zr_aload_n hG zd_Mo_clear_20 rfl rfl ?_
      refine zf_Mo_vias hG tk_771 zd_Mo_clear_21 ?_
      refine zr_aload_n hG zd_Mo_clear_24 rfl rfl ?_
      refine zr_iload_n hG zd_Mo_clear_25 rfl rfl ?_
      refine zr_callV hG zq_F0 (As := [.int v2]) (rest := [.ref (w.2.1 32)]) (zm_Mo_placeOf (zc_l x) w hAp g o h) 28 rfl rfl rfl zg_Mo_90 zdd_Mo_placeOf ⟨rfl, rfl, by decide, by decide⟩ ⟨by decide, by decide⟩ rfl (Nat.le_of_ble_eq_true rfl) zd_Mo_clear_26 rfl ?_
      rintro _ _ ⟨r72, z72, rfl, rfl, h⟩
      refine zr_iconst hG (v := (0 : Int32)) zd_Mo_clear_29 (by decide) ?_
      obtain ⟨hi, h⟩ := h
      refine zu_32 hG hW hi zd_Mo_clear_30 ?_
      exact zt_Mo_clear_31 hG hR hAp hW hk2 h
def zw_Mo_clear (a1 : Int32) (z : zS) (post : zS → Prop) : Prop := zq_Lp (zw_Mo_clear_2 post) (a1, (0 : Int32), z)
set_option maxHeartbeats 4000000 in
set_option maxRecDepth 100000 in
theorem zm_Mo_clear (l : Launch) (w : zW) (hAp : zq_Ap w) (g : zS) (o : Nat → Int64) {a1 : Int32} {z : zS} {post : zS → Prop} (h : zw_Mo_clear a1 z post) : zq_M l w (zq_A w) zy_Mo_clear zc_Mo_clear 3 none (zq_rm 1 21) [.ref (w.2.1 28), .int a1] (g, z, o) (zq_Nv g o post) := by
  refine zq_mk_M (by decide) (by simp [Value.category]) (Nat.le_of_ble_eq_true rfl) hAp (fun x hx hG hR => ?_)
  subst hx
  have hW := zq_wr hR.2.2.1
  refine zr_iconst hG (v := (0 : Int32)) zd_Mo_clear_0 (by decide) ?_
  refine zr_istore_n hG [some (.ref (w.2.1 28)), some (.int a1), some (.int (0 : Int32))] zd_Mo_clear_1 rfl (Nat.le_of_ble_eq_true rfl) rfl ?_
  exact zt_Mo_clear_2 hG hR hAp hW h
def zw_Mo_weigh_205 (post : zS → Prop) (k38 : Int32 × Int32 × Int32 × zS → Prop) (k47 : Int32 × Int32 × Int32 × Int32 × zS → Prop) (v1 v2 v3 v4 : Int32) (z : zS) : Prop := k47 (v1, v2, v3, (v4 + (1 : Int32)), z)
set_option maxHeartbeats 4000000 in
set_option maxRecDepth 100000 in
theorem zt_Mo_weigh_205 {x : zC} {w : zW} {g : zS} {o : Nat → Int64} {post : zS → Prop} (hG : zq_G x w "GridRouterModel" zc_Mo_weigh 9 (zq_rm 5 118)) (hR : zq_R x w (zq_A w) none (zq_Nv g o post)) (hAp : zq_Ap w) (hW : zq_Wr x w) {k38 : Int32 × Int32 × Int32 × zS → Prop} {k47 : Int32 × Int32 × Int32 × Int32 × zS → Prop} (hk38 : ∀ b : Int32 × Int32 × Int32 × zS, k38 b → zq_W x w 0 0 (g, b.2.2.2, o) 38 [some (.ref (w.2.1 28)), some (.int (b.1)), some (.int (b.2.1)), some (.int (b.2.2.1)), none, none, none, none, none] []) (hk47 : ∀ b : Int32 × Int32 × Int32 × Int32 × zS, k47 b → zq_W x w 0 0 (g, b.2.2.2.2, o) 47 [some (.ref (w.2.1 28)), some (.int (b.1)), some (.int (b.2.1)), some (.int (b.2.2.1)), some (.int (b.2.2.2.1)), none, none, none, none] []) {v1 v2 v3 v4 : Int32} {z : zS} (h : zw_Mo_weigh_205 post k38 k47 v1 v2 v3 v4 z) : zq_W x w 0 0 (g, z, o) 205 [some (.ref (w.2.1 28)), some (.int v1), some (.int v2), some (.int v3), some (.int v4), none, none, none, none] [] := by
  refine zr_iinc hG (u := (1 : Int32)) [some (.ref (w.2.1 28)), some (.int v1), some (.int v2), some (.int v3), some (.int (v4 + (1 : Int32))), none, none, none, none] zd_Mo_weigh_205 rfl (by decide) (Nat.le_of_ble_eq_true rfl) rfl ?_
  refine zr_goto hG 47 zd_Mo_weigh_208 (by decide) ?_
  have h := hk47 _ h
  exact h
def zw_Mo_weigh_198 (post : zS → Prop) (k38 : Int32 × Int32 × Int32 × zS → Prop) (k47 : Int32 × Int32 × Int32 × Int32 × zS → Prop) (k85 : Int32 × Int32 × Int32 × Int32 × Int32 × Int32 × zS → Prop) (v1 v2 v3 v4 v5 v6 u0 u1 : Int32) (z : zS) : Prop := vp_in u1 162 ∧ k85 (v1, v2, v3, v4, v5, (v6 + (1 : Int32)), (zs_a z 4 u1 u0))
set_option maxHeartbeats 4000000 in
set_option maxRecDepth 100000 in
theorem zt_Mo_weigh_198 {x : zC} {w : zW} {g : zS} {o : Nat → Int64} {post : zS → Prop} (hG : zq_G x w "GridRouterModel" zc_Mo_weigh 9 (zq_rm 5 118)) (hR : zq_R x w (zq_A w) none (zq_Nv g o post)) (hAp : zq_Ap w) (hW : zq_Wr x w) {k38 : Int32 × Int32 × Int32 × zS → Prop} {k47 : Int32 × Int32 × Int32 × Int32 × zS → Prop} {k85 : Int32 × Int32 × Int32 × Int32 × Int32 × Int32 × zS → Prop} (hk38 : ∀ b : Int32 × Int32 × Int32 × zS, k38 b → zq_W x w 0 0 (g, b.2.2.2, o) 38 [some (.ref (w.2.1 28)), some (.int (b.1)), some (.int (b.2.1)), some (.int (b.2.2.1)), none, none, none, none, none] []) (hk47 : ∀ b : Int32 × Int32 × Int32 × Int32 × zS, k47 b → zq_W x w 0 0 (g, b.2.2.2.2, o) 47 [some (.ref (w.2.1 28)), some (.int (b.1)), some (.int (b.2.1)), some (.int (b.2.2.1)), some (.int (b.2.2.2.1)), none, none, none, none] []) (hk85 : ∀ b : Int32 × Int32 × Int32 × Int32 × Int32 × Int32 × zS, k85 b → zq_W x w 0 0 (g, b.2.2.2.2.2.2, o) 85 [some (.ref (w.2.1 28)), some (.int (b.1)), some (.int (b.2.1)), some (.int (b.2.2.1)), some (.int (b.2.2.2.1)), some (.int (b.2.2.2.2.1)), some (.int (b.2.2.2.2.2.1)), none, none] []) {v1 v2 v3 v4 v5 v6 u0 u1 : Int32} {z : zS} (h : zw_Mo_weigh_198 post k38 k47 k85 v1 v2 v3 v4 v5 v6 u0 u1 z) : zq_W x w 0 0 (g, z, o) 198 [some (.ref (w.2.1 28)), some (.int v1), some (.int v2), some (.int v3), some (.int v4), some (.int v5), some (.int v6), none, none] [.int u0, .int u1, .ref (w.2.1 33)] := by
  obtain ⟨hi, h⟩ := h
  refine zu_33 hG hW hi zd_Mo_weigh_198 ?_
  refine zr_iinc hG (u := (1 : Int32)) [some (.ref (w.2.1 28)), some (.int v1), some (.int v2), some (.int v3), some (.int v4), some (.int v5), some (.int (v6 + (1 : Int32))), none, none] zd_Mo_weigh_199 rfl (by decide) (Nat.le_of_ble_eq_true rfl) rfl ?_
  refine zr_goto hG 85 zd_Mo_weigh_202 (by decide) ?_
  have h := hk85 _ h
  exact h
def zw_Mo_weigh_167 (post : zS → Prop) (k38 : Int32 × Int32 × Int32 × zS → Prop) (k47 : Int32 × Int32 × Int32 × Int32 × zS → Prop) (k85 : Int32 × Int32 × Int32 × Int32 × Int32 × Int32 × zS → Prop) (v1 v2 v4 v5 v6 v8 u0 : Int32) (z : zS) : Prop := vp_in v4 162 ∧ (((z.2 4 v4.toNatClampNeg) ≤ v8 → vp_in v4 162 ∧ zw_Mo_weigh_198 post k38 k47 k85 v1 v2 u0 v4 v5 v6 (z.2 4 v4.toNatClampNeg) v4 z) ∧ (¬ (z.2 4 v4.toNatClampNeg) ≤ v8 → zw_Mo_weigh_198 post k38 k47 k85 v1 v2 u0 v4 v5 v6 v8 v4 z))
set_option maxHeartbeats 4000000 in
set_option maxRecDepth 100000 in
theorem zt_Mo_weigh_167 {x : zC} {w : zW} {g : zS} {o : Nat → Int64} {post : zS → Prop} (hG : zq_G x w "GridRouterModel" zc_Mo_weigh 9 (zq_rm 5 118)) (hR : zq_R x w (zq_A w) none (zq_Nv g o post)) (hAp : zq_Ap w) (hW : zq_Wr x w) {k38 : Int32 × Int32 × Int32 × zS → Prop} {k47 : Int32 × Int32 × Int32 × Int32 × zS → Prop} {k85 : Int32 × Int32 × Int32 × Int32 × Int32 × Int32 × zS → Prop} (hk38 : ∀ b : Int32 × Int32 × Int32 × zS, k38 b → zq_W x w 0 0 (g, b.2.2.2, o) 38 [some (.ref (w.2.1 28)), some (.int (b.1)), some (.int (b.2.1)), some (.int (b.2.2.1)), none, none, none, none, none] []) (hk47 : ∀ b : Int32 × Int32 × Int32 × Int32 × zS, k47 b → zq_W x w 0 0 (g, b.2.2.2.2, o) 47 [some (.ref (w.2.1 28)), some (.int (b.1)), some (.int (b.2.1)), some (.int (b.2.2.1)), some (.int (b.2.2.2.1)), none, none, none, none] []) (hk85 : ∀ b : Int32 × Int32 × Int32 × Int32 × Int32 × Int32 × zS, k85 b → zq_W x w 0 0 (g, b.2.2.2.2.2.2, o) 85 [some (.ref (w.2.1 28)), some (.int (b.1)), some (.int (b.2.1)), some (.int (b.2.2.1)), some (.int (b.2.2.2.1)), some (.int (b.2.2.2.2.1)), some (.int (b.2.2.2.2.2.1)), none, none] []) {v1 v2 v4 v5 v6 v8 u0 : Int32} {z : zS} (h : zw_Mo_weigh_167 post k38 k47 k85 v1 v2 v4 v5 v6 v8 u0 z) : zq_W x w 0 0 (g, z, o) 167 [some (.ref (w.2.1 28)), some (.int v1), some (.int v2), none, some (.int v4), some (.int v5), some (.int v6), none, some (.int v8)] [.int u0] := by
  refine zr_istore_n hG [some (.ref (w.2.1 28)), some (.int v1), some (.int v2), some (.int u0), some (.int v4), some (.int v5), some (.int v6), none, some (.int v8)] zd_Mo_weigh_167 rfl (Nat.le_of_ble_eq_true rfl) rfl ?_
  refine zr_aload_n hG zd_Mo_weigh_168 rfl rfl ?_
  refine zf_Mo_cost hG tk_772 zd_Mo_weigh_169 ?_
  refine zr_iload hG zd_Mo_weigh_172 rfl ?_
  refine zr_iload hG zd_Mo_weigh_174 rfl ?_
  refine zr_aload_n hG zd_Mo_weigh_176 rfl rfl ?_
  refine zf_Mo_cost hG tk_772 zd_Mo_weigh_177 ?_
  refine zr_iload hG zd_Mo_weigh_180 rfl ?_
  obtain ⟨hi, h⟩ := h
  refine zl_33 hG hi zd_Mo_weigh_182 ?_
  refine zr_icmp_ge hG 191 zd_Mo_weigh_183 (by decide) (fun hc => ?_) (fun hc => ?_)
  · have h := h.1 hc
    refine zr_aload_n hG zd_Mo_weigh_191 rfl rfl ?_
    refine zf_Mo_cost hG tk_772 zd_Mo_weigh_192 ?_
    refine zr_iload hG zd_Mo_weigh_195 rfl ?_
    obtain ⟨hi, h⟩ := h
    refine zl_33 hG hi zd_Mo_weigh_197 ?_
    exact zr_mask [true, true, true, true, true, true, true, false, false] (zt_Mo_weigh_198 hG hR hAp hW hk38 hk47 hk85 h)
  · have h := h.2 hc
    refine zr_iload hG zd_Mo_weigh_186 rfl ?_
    refine zr_goto hG 198 zd_Mo_weigh_188 (by decide) ?_
    exact zr_mask [true, true, true, true, true, true, true, false, false] (zt_Mo_weigh_198 hG hR hAp hW hk38 hk47 hk85 h)
def zw_Mo_weigh_162 (post : zS → Prop) (k38 : Int32 × Int32 × Int32 × zS → Prop) (k47 : Int32 × Int32 × Int32 × Int32 × zS → Prop) (k85 : Int32 × Int32 × Int32 × Int32 × Int32 × Int32 × zS → Prop) (v1 v2 v4 v5 v6 v8 : Int32) (z : zS) : Prop := zw_Mo_weigh_167 post k38 k47 k85 v1 v2 v4 v5 v6 v8 (1 : Int32) z
set_option maxHeartbeats 4000000 in
set_option maxRecDepth 100000 in
theorem zt_Mo_weigh_162 {x : zC} {w : zW} {g : zS} {o : Nat → Int64} {post : zS → Prop} (hG : zq_G x w "GridRouterModel" zc_Mo_weigh 9 (zq_rm 5 118)) (hR : zq_R x w (zq_A w) none (zq_Nv g o post)) (hAp : zq_Ap w) (hW : zq_Wr x w) {k38 : Int32 × Int32 × Int32 × zS → Prop} {k47 : Int32 × Int32 × Int32 × Int32 × zS → Prop} {k85 : Int32 × Int32 × Int32 × Int32 × Int32 × Int32 × zS → Prop} (hk38 : ∀ b : Int32 × Int32 × Int32 × zS, k38 b → zq_W x w 0 0 (g, b.2.2.2, o) 38 [some (.ref (w.2.1 28)), some (.int (b.1)), some (.int (b.2.1)), some (.int (b.2.2.1)), none, none, none, none, none] []) (hk47 : ∀ b : Int32 × Int32 × Int32 × Int32 × zS, k47 b → zq_W x w 0 0 (g, b.2.2.2.2, o) 47 [some (.ref (w.2.1 28)), some (.int (b.1)), some (.int (b.2.1)), some (.int (b.2.2.1)), some (.int (b.2.2.2.1)), none, none, none, none] []) (hk85 : ∀ b : Int32 × Int32 × Int32 × Int32 × Int32 × Int32 × zS, k85 b → zq_W x w 0 0 (g, b.2.2.2.2.2.2, o) 85 [some (.ref (w.2.1 28)), some (.int (b.1)), some (.int (b.2.1)), some (.int (b.2.2.1)), some (.int (b.2.2.2.1)), some (.int (b.2.2.2.2.1)), some (.int (b.2.2.2.2.2.1)), none, none] []) {v1 v2 v4 v5 v6 v8 : Int32} {z : zS} (h : zw_Mo_weigh_162 post k38 k47 k85 v1 v2 v4 v5 v6 v8 z) : zq_W x w 0 0 (g, z, o) 162 [some (.ref (w.2.1 28)), some (.int v1), some (.int v2), none, some (.int v4), some (.int v5), some (.int v6), none, some (.int v8)] [] := by
  refine zr_iconst hG (v := (1 : Int32)) zd_Mo_weigh_162 (by decide) ?_
  refine zr_goto hG 167 zd_Mo_weigh_163 (by decide) ?_
  exact zt_Mo_weigh_167 hG hR hAp hW hk38 hk47 hk85 h
def zw_Mo_weigh_144 (post : zS → Prop) (k38 : Int32 × Int32 × Int32 × zS → Prop) (k47 : Int32 × Int32 × Int32 × Int32 × zS → Prop) (k85 : Int32 × Int32 × Int32 × Int32 × Int32 × Int32 × zS → Prop) (v1 v2 v3 v4 v5 v6 u0 : Int32) (z : zS) : Prop := ((¬ v3 = 0 → zw_Mo_weigh_162 post k38 k47 k85 v1 v2 v4 v5 v6 u0 z) ∧ (v3 = 0 → vp_in v4 162 ∧ (((z.2 4 v4.toNatClampNeg) ≤ u0 → zw_Mo_weigh_167 post k38 k47 k85 v1 v2 v4 v5 v6 u0 (0 : Int32) z) ∧ (¬ (z.2 4 v4.toNatClampNeg) ≤ u0 → zw_Mo_weigh_162 post k38 k47 k85 v1 v2 v4 v5 v6 u0 z))))
set_option maxHeartbeats 4000000 in
set_option maxRecDepth 100000 in
theorem zt_Mo_weigh_144 {x : zC} {w : zW} {g : zS} {o : Nat → Int64} {post : zS → Prop} (hG : zq_G x w "GridRouterModel" zc_Mo_weigh 9 (zq_rm 5 118)) (hR : zq_R x w (zq_A w) none (zq_Nv g o post)) (hAp : zq_Ap w) (hW : zq_Wr x w) {k38 : Int32 × Int32 × Int32 × zS → Prop} {k47 : Int32 × Int32 × Int32 × Int32 × zS → Prop} {k85 : Int32 × Int32 × Int32 × Int32 × Int32 × Int32 × zS → Prop} (hk38 : ∀ b : Int32 × Int32 × Int32 × zS, k38 b → zq_W x w 0 0 (g, b.2.2.2, o) 38 [some (.ref (w.2.1 28)), some (.int (b.1)), some (.int (b.2.1)), some (.int (b.2.2.1)), none, none, none, none, none] []) (hk47 : ∀ b : Int32 × Int32 × Int32 × Int32 × zS, k47 b → zq_W x w 0 0 (g, b.2.2.2.2, o) 47 [some (.ref (w.2.1 28)), some (.int (b.1)), some (.int (b.2.1)), some (.int (b.2.2.1)), some (.int (b.2.2.2.1)), none, none, none, none] []) (hk85 : ∀ b : Int32 × Int32 × Int32 × Int32 × Int32 × Int32 × zS, k85 b → zq_W x w 0 0 (g, b.2.2.2.2.2.2, o) 85 [some (.ref (w.2.1 28)), some (.int (b.1)), some (.int (b.2.1)), some (.int (b.2.2.1)), some (.int (b.2.2.2.1)), some (.int (b.2.2.2.2.1)), some (.int (b.2.2.2.2.2.1)), none, none] []) {v1 v2 v3 v4 v5 v6 u0 : Int32} {z : zS} (h : zw_Mo_weigh_144 post k38 k47 k85 v1 v2 v3 v4 v5 v6 u0 z) : zq_W x w 0 0 (g, z, o) 144 [some (.ref (w.2.1 28)), some (.int v1), some (.int v2), some (.int v3), some (.int v4), some (.int v5), some (.int v6), none, none] [.int u0] := by
  refine zr_istore hG [some (.ref (w.2.1 28)), some (.int v1), some (.int v2), some (.int v3), some (.int v4), some (.int v5), some (.int v6), none, some (.int u0)] zd_Mo_weigh_144 (Nat.le_of_ble_eq_true rfl) rfl ?_
  refine zr_iload_n hG zd_Mo_weigh_146 rfl rfl ?_
  refine zr_if_ne hG 162 zd_Mo_weigh_147 (by decide) (fun hc => ?_) (fun hc => ?_)
  · have h := h.1 hc
    exact zr_mask [true, true, true, false, true, true, true, false, true] (zt_Mo_weigh_162 hG hR hAp hW hk38 hk47 hk85 h)
  · have h := h.2 hc
    refine zr_iload hG zd_Mo_weigh_150 rfl ?_
    refine zr_aload_n hG zd_Mo_weigh_152 rfl rfl ?_
    refine zf_Mo_cost hG tk_772 zd_Mo_weigh_153 ?_
    refine zr_iload hG zd_Mo_weigh_156 rfl ?_
    obtain ⟨hi, h⟩ := h
    refine zl_33 hG hi zd_Mo_weigh_158 ?_
    refine zr_icmp_ge hG 166 zd_Mo_weigh_159 (by decide) (fun hc => ?_) (fun hc => ?_)
    · have h := h.1 hc
      refine zr_iconst hG (v := (0 : Int32)) zd_Mo_weigh_166 (by decide) ?_
      exact zr_mask [true, true, true, false, true, true, true, false, true] (zt_Mo_weigh_167 hG hR hAp hW hk38 hk47 hk85 h)
    · have h := h.2 hc
      exact zr_mask [true, true, true, false, true, true, true, false, true] (zt_Mo_weigh_162 hG hR hAp hW hk38 hk47 hk85 h)
def zw_Mo_weigh_140 (post : zS → Prop) (k38 : Int32 × Int32 × Int32 × zS → Prop) (k47 : Int32 × Int32 × Int32 × Int32 × zS → Prop) (k85 : Int32 × Int32 × Int32 × Int32 × Int32 × Int32 × zS → Prop) (v1 v2 v3 v4 v5 v6 u0 u1 : Int32) (z : zS) : Prop := zw_Mo_weigh_144 post k38 k47 k85 v1 v2 v3 v4 v5 v6 ((u1 + u0) + v5) z
set_option maxHeartbeats 4000000 in
set_option maxRecDepth 100000 in
theorem zt_Mo_weigh_140 {x : zC} {w : zW} {g : zS} {o : Nat → Int64} {post : zS → Prop} (hG : zq_G x w "GridRouterModel" zc_Mo_weigh 9 (zq_rm 5 118)) (hR : zq_R x w (zq_A w) none (zq_Nv g o post)) (hAp : zq_Ap w) (hW : zq_Wr x w) {k38 : Int32 × Int32 × Int32 × zS → Prop} {k47 : Int32 × Int32 × Int32 × Int32 × zS → Prop} {k85 : Int32 × Int32 × Int32 × Int32 × Int32 × Int32 × zS → Prop} (hk38 : ∀ b : Int32 × Int32 × Int32 × zS, k38 b → zq_W x w 0 0 (g, b.2.2.2, o) 38 [some (.ref (w.2.1 28)), some (.int (b.1)), some (.int (b.2.1)), some (.int (b.2.2.1)), none, none, none, none, none] []) (hk47 : ∀ b : Int32 × Int32 × Int32 × Int32 × zS, k47 b → zq_W x w 0 0 (g, b.2.2.2.2, o) 47 [some (.ref (w.2.1 28)), some (.int (b.1)), some (.int (b.2.1)), some (.int (b.2.2.1)), some (.int (b.2.2.2.1)), none, none, none, none] []) (hk85 : ∀ b : Int32 × Int32 × Int32 × Int32 × Int32 × Int32 × zS, k85 b → zq_W x w 0 0 (g, b.2.2.2.2.2.2, o) 85 [some (.ref (w.2.1 28)), some (.int (b.1)), some (.int (b.2.1)), some (.int (b.2.2.1)), some (.int (b.2.2.2.1)), some (.int (b.2.2.2.2.1)), some (.int (b.2.2.2.2.2.1)), none, none] []) {v1 v2 v3 v4 v5 v6 u0 u1 : Int32} {z : zS} (h : zw_Mo_weigh_140 post k38 k47 k85 v1 v2 v3 v4 v5 v6 u0 u1 z) : zq_W x w 0 0 (g, z, o) 140 [some (.ref (w.2.1 28)), some (.int v1), some (.int v2), some (.int v3), some (.int v4), some (.int v5), some (.int v6), none, none] [.int u0, .int u1] := by
  refine zr_iadd hG zd_Mo_weigh_140 ?_
  refine zr_iload hG zd_Mo_weigh_141 rfl ?_
  refine zr_iadd hG zd_Mo_weigh_143 ?_
  exact zt_Mo_weigh_144 hG hR hAp hW hk38 hk47 hk85 h
def zw_Mo_weigh_85 (post : zS → Prop) (k38 : Int32 × Int32 × Int32 × zS → Prop) (k47 : Int32 × Int32 × Int32 × Int32 × zS → Prop) (k85 : Int32 × Int32 × Int32 × Int32 × Int32 × Int32 × zS → Prop) : Int32 × Int32 × Int32 × Int32 × Int32 × Int32 × zS → Prop := fun b => match b with
  | (v1, v2, v3, v4, v5, v6, z) => (((5 : Int32) ≤ v6 → zw_Mo_weigh_205 post k38 k47 v1 v2 v3 v4 z) ∧ (¬ (5 : Int32) ≤ v6 → (((1000000 : Int32) ≤ v5 → zw_Mo_weigh_205 post k38 k47 v1 v2 v3 v4 z) ∧ (¬ (1000000 : Int32) ≤ v5 → (zw_Mo_side v4 v6 z (fun r77 z77 => ((¬ r77 = (-1 : Int32) → vp_in r77 162 ∧ ((¬ v6 = (4 : Int32) → zw_Mo_weigh_140 post k38 k47 k85 v1 v2 v3 v4 v5 v6 (1 : Int32) (z77.2 4 r77.toNatClampNeg) z77) ∧ (v6 = (4 : Int32) → zw_Mo_weigh_140 post k38 k47 k85 v1 v2 v3 v4 v5 v6 (z77.1 2) (z77.2 4 r77.toNatClampNeg) z77))) ∧ (r77 = (-1 : Int32) → zw_Mo_weigh_144 post k38 k47 k85 v1 v2 v3 v4 v5 v6 (1000000 : Int32) z77))))))))
set_option maxHeartbeats 4000000 in
set_option maxRecDepth 100000 in
theorem zt_Mo_weigh_85 {x : zC} {w : zW} {g : zS} {o : Nat → Int64} {post : zS → Prop} (hG : zq_G x w "GridRouterModel" zc_Mo_weigh 9 (zq_rm 5 118)) (hR : zq_R x w (zq_A w) none (zq_Nv g o post)) (hAp : zq_Ap w) (hW : zq_Wr x w) {k38 : Int32 × Int32 × Int32 × zS → Prop} {k47 : Int32 × Int32 × Int32 × Int32 × zS → Prop} (hk38 : ∀ b : Int32 × Int32 × Int32 × zS, k38 b → zq_W x w 0 0 (g, b.2.2.2, o) 38 [some (.ref (w.2.1 28)), some (.int (b.1)), some (.int (b.2.1)), some (.int (b.2.2.1)), none, none, none, none, none] []) (hk47 : ∀ b : Int32 × Int32 × Int32 × Int32 × zS, k47 b → zq_W x w 0 0 (g, b.2.2.2.2, o) 47 [some (.ref (w.2.1 28)), some (.int (b.1)), some (.int (b.2.1)), some (.int (b.2.2.1)), some (.int (b.2.2.2.1)), none, none, none, none] []) {v1 v2 v3 v4 v5 v6 : Int32} {z : zS} (h : zq_Lp (zw_Mo_weigh_85 post k38 k47) (v1, v2, v3, v4, v5, v6, z)) : zq_W x w 0 0 (g, z, o) 85 [some (.ref (w.2.1 28)), some (.int v1), some (.int v2), some (.int v3), some (.int v4), some (.int v5), some (.int v6), none, none] [] := by
  refine zq_Lp_W (WW := fun b => zq_W x w 0 0 (g, b.2.2.2.2.2.2, o) 85 [some (.ref (w.2.1 28)), some (.int (b.1)), some (.int (b.2.1)), some (.int (b.2.2.1)), some (.int (b.2.2.2.1)), some (.int (b.2.2.2.2.1)), some (.int (b.2.2.2.2.2.1)), none, none] []) (fun k85 hk85 b h => ?_) h
  obtain ⟨v1, v2, v3, v4, v5, v6, z⟩ := b
  show zq_W x w 0 0 (g, z, o) 85 [some (.ref (w.2.1 28)), some (.int v1), some (.int v2), some (.int v3), some (.int v4), some (.int v5), some (.int v6), none, none] []
  refine zr_iload hG zd_Mo_weigh_85 rfl ?_
  refine zr_iconst hG (v := (5 : Int32)) zd_Mo_weigh_87 (by decide) ?_
  refine zr_icmp_ge hG 205 zd_Mo_weigh_88 (by decide) (fun hc => ?_) (fun hc => ?_)
  · have h := h.1 hc
    exact zr_mask [true, true, true, true, true, false, false, false, false] (zt_Mo_weigh_205 hG hR hAp hW hk38 hk47 h)
  · have h := h.2 hc
    refine zr_iload hG zd_Mo_weigh_91 rfl ?_
    refine zr_ldc hG (v := 1000000) tk_880 zd_Mo_weigh_93 ?_
    refine zr_icmp_ge hG 205 zd_Mo_weigh_95 (by decide) (fun hc => ?_) (fun hc => ?_)
    · have h := h.1 hc
      exact zr_mask [true, true, true, true, true, false, false, false, false] (zt_Mo_weigh_205 hG hR hAp hW hk38 hk47 h)
    · have h := h.2 hc
      refine zr_aload_n hG zd_Mo_weigh_98 rfl rfl ?_
      refine zr_iload hG zd_Mo_weigh_99 rfl ?_
      refine zr_iload hG zd_Mo_weigh_101 rfl ?_
      refine zr_callV hG zq_F0 (As := [.int v4, .int v6]) (rest := []) (zm_Mo_side (zc_l x) w hAp g o h) 28 rfl rfl rfl zg_Mo_72 zdd_Mo_side ⟨rfl, rfl, by decide, by decide⟩ ⟨by decide, by decide⟩ rfl (Nat.le_of_ble_eq_true rfl) zd_Mo_weigh_103 rfl ?_
      rintro _ _ ⟨r77, z77, rfl, rfl, h⟩
      refine zr_istore hG [some (.ref (w.2.1 28)), some (.int v1), some (.int v2), some (.int v3), some (.int v4), some (.int v5), some (.int v6), some (.int r77), none] zd_Mo_weigh_106 (Nat.le_of_ble_eq_true rfl) rfl ?_
      refine zr_iload hG zd_Mo_weigh_108 rfl ?_
      refine zr_iconst hG (v := (-1 : Int32)) zd_Mo_weigh_110 (by decide) ?_
      refine zr_icmp_ne hG 119 zd_Mo_weigh_111 (by decide) (fun hc => ?_) (fun hc => ?_)
      · have h := h.1 hc
        refine zr_aload_n hG zd_Mo_weigh_119 rfl rfl ?_
        refine zf_Mo_cost hG tk_772 zd_Mo_weigh_120 ?_
        refine zr_iload hG zd_Mo_weigh_123 rfl ?_
        obtain ⟨hi, h⟩ := h
        refine zl_33 hG hi zd_Mo_weigh_125 ?_
        refine zr_iload hG zd_Mo_weigh_126 rfl ?_
        refine zr_iconst hG (v := (4 : Int32)) zd_Mo_weigh_128 (by decide) ?_
        refine zr_icmp_ne hG 139 zd_Mo_weigh_129 (by decide) (fun hc => ?_) (fun hc => ?_)
        · have h := h.1 hc
          refine zr_iconst hG (v := (1 : Int32)) zd_Mo_weigh_139 (by decide) ?_
          exact zr_mask [true, true, true, true, true, true, true, false, false] (zt_Mo_weigh_140 hG hR hAp hW hk38 hk47 hk85 h)
        · have h := h.2 hc
          refine zr_aload_n hG zd_Mo_weigh_132 rfl rfl ?_
          refine zf_Mo_viaCost hG tk_765 zd_Mo_weigh_133 ?_
          refine zr_goto hG 140 zd_Mo_weigh_136 (by decide) ?_
          exact zr_mask [true, true, true, true, true, true, true, false, false] (zt_Mo_weigh_140 hG hR hAp hW hk38 hk47 hk85 h)
      · have h := h.2 hc
        refine zr_ldc hG (v := 1000000) tk_880 zd_Mo_weigh_114 ?_
        refine zr_goto hG 144 zd_Mo_weigh_116 (by decide) ?_
        exact zr_mask [true, true, true, true, true, true, true, false, false] (zt_Mo_weigh_144 hG hR hAp hW hk38 hk47 hk85 h)
def zw_Mo_weigh_80 (post : zS → Prop) (k38 : Int32 × Int32 × Int32 × zS → Prop) (k47 : Int32 × Int32 × Int32 × Int32 × zS → Prop) (v1 v2 v3 v4 u0 : Int32) (z : zS) : Prop := zq_Lp (zw_Mo_weigh_85 post k38 k47) (v1, v2, v3, v4, u0, (0 : Int32), z)
set_option maxHeartbeats 4000000 in
set_option maxRecDepth 100000 in
theorem zt_Mo_weigh_80 {x : zC} {w : zW} {g : zS} {o : Nat → Int64} {post : zS → Prop} (hG : zq_G x w "GridRouterModel" zc_Mo_weigh 9 (zq_rm 5 118)) (hR : zq_R x w (zq_A w) none (zq_Nv g o post)) (hAp : zq_Ap w) (hW : zq_Wr x w) {k38 : Int32 × Int32 × Int32 × zS → Prop} {k47 : Int32 × Int32 × Int32 × Int32 × zS → Prop} (hk38 : ∀ b : Int32 × Int32 × Int32 × zS, k38 b → zq_W x w 0 0 (g, b.2.2.2, o) 38 [some (.ref (w.2.1 28)), some (.int (b.1)), some (.int (b.2.1)), some (.int (b.2.2.1)), none, none, none, none, none] []) (hk47 : ∀ b : Int32 × Int32 × Int32 × Int32 × zS, k47 b → zq_W x w 0 0 (g, b.2.2.2.2, o) 47 [some (.ref (w.2.1 28)), some (.int (b.1)), some (.int (b.2.1)), some (.int (b.2.2.1)), some (.int (b.2.2.2.1)), none, none, none, none] []) {v1 v2 v3 v4 u0 : Int32} {z : zS} (h : zw_Mo_weigh_80 post k38 k47 v1 v2 v3 v4 u0 z) : zq_W x w 0 0 (g, z, o) 80 [some (.ref (w.2.1 28)), some (.int v1), some (.int v2), some (.int v3), some (.int v4), none, none, none, none] [.int u0] := by
  refine zr_istore hG [some (.ref (w.2.1 28)), some (.int v1), some (.int v2), some (.int v3), some (.int v4), some (.int u0), none, none, none] zd_Mo_weigh_80 (Nat.le_of_ble_eq_true rfl) rfl ?_
  refine zr_iconst hG (v := (0 : Int32)) zd_Mo_weigh_82 (by decide) ?_
  refine zr_istore hG [some (.ref (w.2.1 28)), some (.int v1), some (.int v2), some (.int v3), some (.int v4), some (.int u0), some (.int (0 : Int32)), none, none] zd_Mo_weigh_83 (Nat.le_of_ble_eq_true rfl) rfl ?_
  exact zt_Mo_weigh_85 hG hR hAp hW hk38 hk47 h
def zw_Mo_weigh_47 (post : zS → Prop) (k38 : Int32 × Int32 × Int32 × zS → Prop) (k47 : Int32 × Int32 × Int32 × Int32 × zS → Prop) : Int32 × Int32 × Int32 × Int32 × zS → Prop := fun b => match b with
  | (v1, v2, v3, v4, z) => (zw_Mo_many z (fun r75 z75 => ((r75 ≤ v4 → k38 (v1, v2, v3, z75)) ∧ (¬ r75 ≤ v4 → vp_in v1 6 ∧ ((¬ v4 = (z75.2 8 v1.toNatClampNeg) → (zw_Mo_toll v4 v1 v2 z75 (fun r76 z76 => zw_Mo_weigh_80 post k38 k47 v1 v2 v3 v4 r76 z76))) ∧ (v4 = (z75.2 8 v1.toNatClampNeg) → zw_Mo_weigh_80 post k38 k47 v1 v2 v3 v4 (1000000 : Int32) z75))))))
set_option maxHeartbeats 4000000 in
set_option maxRecDepth 100000 in
theorem zt_Mo_weigh_47 {x : zC} {w : zW} {g : zS} {o : Nat → Int64} {post : zS → Prop} (hG : zq_G x w "GridRouterModel" zc_Mo_weigh 9 (zq_rm 5 118)) (hR : zq_R x w (zq_A w) none (zq_Nv g o post)) (hAp : zq_Ap w) (hW : zq_Wr x w) {k38 : Int32 × Int32 × Int32 × zS → Prop} (hk38 : ∀ b : Int32 × Int32 × Int32 × zS, k38 b → zq_W x w 0 0 (g, b.2.2.2, o) 38 [some (.ref (w.2.1 28)), some (.int (b.1)), some (.int (b.2.1)), some (.int (b.2.2.1)), none, none, none, none, none] []) {v1 v2 v3 v4 : Int32} {z : zS} (h : zq_Lp (zw_Mo_weigh_47 post k38) (v1, v2, v3, v4, z)) : zq_W x w 0 0 (g, z, o) 47 [some (.ref (w.2.1 28)), some (.int v1), some (.int v2), some (.int v3), some (.int v4), none, none, none, none] [] := by
  refine zq_Lp_W (WW := fun b => zq_W x w 0 0 (g, b.2.2.2.2, o) 47 [some (.ref (w.2.1 28)), some (.int (b.1)), some (.int (b.2.1)), some (.int (b.2.2.1)), some (.int (b.2.2.2.1)), none, none, none, none] []) (fun k47 hk47 b h => ?_) h
  obtain ⟨v1, v2, v3, v4, z⟩ := b
  show zq_W x w 0 0 (g, z, o) 47 [some (.ref (w.2.1 28)), some (.int v1), some (.int v2), some (.int v3), some (.int v4), none, none, none, none] []
  have h : (zw_Mo_many z (fun r75 z75 => ((r75 ≤ v4 → k38 (v1, v2, v3, z75)) ∧ (¬ r75 ≤ v4 → vp_in v1 6 ∧ ((¬ v4 = (z75.2 8 v1.toNatClampNeg) → (zw_Mo_toll v4 v1 v2 z75 (fun r76 z76 => zw_Mo_weigh_80 post k38 k47 v1 v2 v3 v4 r76 z76))) ∧ (v4 = (z75.2 8 v1.toNatClampNeg) → zw_Mo_weigh_80 post k38 k47 v1 v2 v3 v4 (1000000 : Int32) z75)))))) := h
  refine zr_iload hG zd_Mo_weigh_47 rfl ?_
  refine zr_aload_n hG zd_Mo_weigh_49 rfl rfl ?_
  refine zr_callV hG zq_F0 (As := []) (rest := [.int v4]) (zm_Mo_many (zc_l x) w hAp g o h) 28 rfl rfl rfl zg_Mo_86 zdd_Mo_many ⟨rfl, rfl, by decide, by decide⟩ ⟨by decide, by decide⟩ rfl (Nat.le_of_ble_eq_true rfl) zd_Mo_weigh_50 rfl ?_
  rintro _ _ ⟨r75, z75, rfl, rfl, h⟩
  refine zr_icmp_ge hG 211 zd_Mo_weigh_53 (by decide) (fun hc => ?_) (fun hc => ?_)
  · have h := h.1 hc
    refine zr_goto hG 38 zd_Mo_weigh_211 (by decide) ?_
    have h := hk38 _ h
    exact zr_mask [true, true, true, true, false, false, false, false, false] (h)
  · have h := h.2 hc
    refine zr_iload hG zd_Mo_weigh_56 rfl ?_
    refine zr_aload_n hG zd_Mo_weigh_58 rfl rfl ?_
    refine zf_Mo_first hG tk_777 zd_Mo_weigh_59 ?_
    refine zr_iload_n hG zd_Mo_weigh_62 rfl rfl ?_
    obtain ⟨hi, h⟩ := h
    refine zl_37 hG hi zd_Mo_weigh_63 ?_
    refine zr_icmp_ne hG 72 zd_Mo_weigh_64 (by decide) (fun hc => ?_) (fun hc => ?_)
    · have h := h.1 hc
      refine zr_aload_n hG zd_Mo_weigh_72 rfl rfl ?_
      refine zr_iload hG zd_Mo_weigh_73 rfl ?_
      refine zr_iload_n hG zd_Mo_weigh_75 rfl rfl ?_
      refine zr_iload_n hG zd_Mo_weigh_76 rfl rfl ?_
      refine zr_callV hG zq_F0 (As := [.int v4, .int v1, .int v2]) (rest := []) (zm_Mo_toll (zc_l x) w hAp g o h) 28 rfl rfl rfl zg_Mo_94 zdd_Mo_toll ⟨rfl, rfl, by decide, by decide⟩ ⟨by decide, by decide⟩ rfl (Nat.le_of_ble_eq_true rfl) zd_Mo_weigh_77 rfl ?_
      rintro _ _ ⟨r76, z76, rfl, rfl, h⟩
      exact zt_Mo_weigh_80 hG hR hAp hW hk38 hk47 h
    · have h := h.2 hc
      refine zr_ldc hG (v := 1000000) tk_880 zd_Mo_weigh_67 ?_
      refine zr_goto hG 80 zd_Mo_weigh_69 (by decide) ?_
      exact zt_Mo_weigh_80 hG hR hAp hW hk38 hk47 h
def zw_Mo_weigh_38 (post : zS → Prop) (k38 : Int32 × Int32 × Int32 × zS → Prop) : Int32 × Int32 × Int32 × zS → Prop := fun b => match b with
  | (v1, v2, v3, z) => ((v3 = 0 → post z) ∧ (¬ v3 = 0 → zq_Lp (zw_Mo_weigh_47 post k38) (v1, v2, (0 : Int32), (0 : Int32), z)))
set_option maxHeartbeats 4000000 in
set_option maxRecDepth 100000 in
theorem zt_Mo_weigh_38 {x : zC} {w : zW} {g : zS} {o : Nat → Int64} {post : zS → Prop} (hG : zq_G x w "GridRouterModel" zc_Mo_weigh 9 (zq_rm 5 118)) (hR : zq_R x w (zq_A w) none (zq_Nv g o post)) (hAp : zq_Ap w) (hW : zq_Wr x w) {v1 v2 v3 : Int32} {z : zS} (h : zq_Lp (zw_Mo_weigh_38 post) (v1, v2, v3, z)) : zq_W x w 0 0 (g, z, o) 38 [some (.ref (w.2.1 28)), some (.int v1), some (.int v2), some (.int v3), none, none, none, none, none] [] := by
  refine zq_Lp_W (WW := fun b => zq_W x w 0 0 (g, b.2.2.2, o) 38 [some (.ref (w.2.1 28)), some (.int (b.1)), some (.int (b.2.1)), some (.int (b.2.2.1)), none, none, none, none, none] []) (fun k38 hk38 b h => ?_) h
  obtain ⟨v1, v2, v3, z⟩ := b
  show zq_W x w 0 0 (g, z, o) 38 [some (.ref (w.2.1 28)), some (.int v1), some (.int v2), some (.int v3), none, none, none, none, none] []
  refine zr_iload_n hG zd_Mo_weigh_38 rfl rfl ?_
  refine zr_if_eq hG 214 zd_Mo_weigh_39 (by decide) (fun hc => ?_) (fun hc => ?_)
  · have h := h.1 hc
    exact zr_vret hG hR zd_Mo_weigh_214 ⟨_, rfl, rfl, h⟩
  · have h := h.2 hc
    refine zr_iconst hG (v := (0 : Int32)) zd_Mo_weigh_42 (by decide) ?_
    refine zr_istore_n hG [some (.ref (w.2.1 28)), some (.int v1), some (.int v2), some (.int (0 : Int32)), none, none, none, none, none] zd_Mo_weigh_43 rfl (Nat.le_of_ble_eq_true rfl) rfl ?_
    refine zr_iconst hG (v := (0 : Int32)) zd_Mo_weigh_44 (by decide) ?_
    refine zr_istore hG [some (.ref (w.2.1 28)), some (.int v1), some (.int v2), some (.int (0 : Int32)), some (.int (0 : Int32)), none, none, none, none] zd_Mo_weigh_45 (Nat.le_of_ble_eq_true rfl) rfl ?_
    exact zt_Mo_weigh_47 hG hR hAp hW hk38 h
def zw_Mo_weigh_2 (post : zS → Prop) (k2 : Int32 × Int32 × Int32 × zS → Prop) : Int32 × Int32 × Int32 × zS → Prop := fun b => match b with
  | (v1, v2, v3, z) => (zw_Mo_many z (fun r74 z74 => ((r74 ≤ v3 → vp_in v1 6 ∧ vp_in (z74.2 8 v1.toNatClampNeg) 162 ∧ zq_Lp (zw_Mo_weigh_38 post) (v1, v2, (1 : Int32), (zs_a z74 4 (z74.2 8 v1.toNatClampNeg) (0 : Int32)))) ∧ (¬ r74 ≤ v3 → vp_in v3 162 ∧ k2 (v1, v2, (v3 + (1 : Int32)), (zs_a z74 4 v3 (1000000 : Int32)))))))
set_option maxHeartbeats 4000000 in
set_option maxRecDepth 100000 in
theorem zt_Mo_weigh_2 {x : zC} {w : zW} {g : zS} {o : Nat → Int64} {post : zS → Prop} (hG : zq_G x w "GridRouterModel" zc_Mo_weigh 9 (zq_rm 5 118)) (hR : zq_R x w (zq_A w) none (zq_Nv g o post)) (hAp : zq_Ap w) (hW : zq_Wr x w) {v1 v2 v3 : Int32} {z : zS} (h : zq_Lp (zw_Mo_weigh_2 post) (v1, v2, v3, z)) : zq_W x w 0 0 (g, z, o) 2 [some (.ref (w.2.1 28)), some (.int v1), some (.int v2), some (.int v3), none, none, none, none, none] [] := by
  refine zq_Lp_W (WW := fun b => zq_W x w 0 0 (g, b.2.2.2, o) 2 [some (.ref (w.2.1 28)), some (.int (b.1)), some (.int (b.2.1)), some (.int (b.2.2.1)), none, none, none, none, none] []) (fun k2 hk2 b h => ?_) h
  obtain ⟨v1, v2, v3, z⟩ := b
  show zq_W x w 0 0 (g, z, o) 2 [some (.ref (w.2.1 28)), some (.int v1), some (.int v2), some (.int v3), none, none, none, none, none] []
  have h : (zw_Mo_many z (fun r74 z74 => ((r74 ≤ v3 → vp_in v1 6 ∧ vp_in (z74.2 8 v1.toNatClampNeg) 162 ∧ zq_Lp (zw_Mo_weigh_38 post) (v1, v2, (1 : Int32), (zs_a z74 4 (z74.2 8 v1.toNatClampNeg) (0 : Int32)))) ∧ (¬ r74 ≤ v3 → vp_in v3 162 ∧ k2 (v1, v2, (v3 + (1 : Int32)), (zs_a z74 4 v3 (1000000 : Int32))))))) := h
  refine zr_iload_n hG zd_Mo_weigh_2 rfl rfl ?_
  refine zr_aload_n hG zd_Mo_weigh_3 rfl rfl ?_
  refine zr_callV hG zq_F0 (As := []) (rest := [.int v3]) (zm_Mo_many (zc_l x) w hAp g o h) 28 rfl rfl rfl zg_Mo_86 zdd_Mo_many ⟨rfl, rfl, by decide, by decide⟩ ⟨by decide, by decide⟩ rfl (Nat.le_of_ble_eq_true rfl) zd_Mo_weigh_4 rfl ?_
  rintro _ _ ⟨r74, z74, rfl, rfl, h⟩
  refine zr_icmp_ge hG 24 zd_Mo_weigh_7 (by decide) (fun hc => ?_) (fun hc => ?_)
  · have h := h.1 hc
    refine zr_aload_n hG zd_Mo_weigh_24 rfl rfl ?_
    refine zf_Mo_cost hG tk_772 zd_Mo_weigh_25 ?_
    refine zr_aload_n hG zd_Mo_weigh_28 rfl rfl ?_
    refine zf_Mo_first hG tk_777 zd_Mo_weigh_29 ?_
    refine zr_iload_n hG zd_Mo_weigh_32 rfl rfl ?_
    obtain ⟨hi, h⟩ := h
    refine zl_37 hG hi zd_Mo_weigh_33 ?_
    refine zr_iconst hG (v := (0 : Int32)) zd_Mo_weigh_34 (by decide) ?_
    obtain ⟨hi, h⟩ := h
    refine zu_33 hG hW hi zd_Mo_weigh_35 ?_
    refine zr_iconst hG (v := (1 : Int32)) zd_Mo_weigh_36 (by decide) ?_
    refine zr_istore_n hG [some (.ref (w.2.1 28)), some (.int v1), some (.int v2), some (.int (1 : Int32)), none, none, none, none, none] zd_Mo_weigh_37 rfl (Nat.le_of_ble_eq_true rfl) rfl ?_
    exact zt_Mo_weigh_38 hG hR hAp hW h
  · have h := h.2 hc
    refine zr_aload_n hG zd_Mo_weigh_10 rfl rfl ?_
    refine zf_Mo_cost hG tk_772 zd_Mo_weigh_11 ?_
    refine zr_iload_n hG zd_Mo_weigh_14 rfl rfl ?_
    refine zr_ldc hG (v := 1000000) tk_880 zd_Mo_weigh_15 ?_
    obtain ⟨hi, h⟩ := h
    refine zu_33 hG hW hi zd_Mo_weigh_17 ?_
    refine zr_iinc hG (u := (1 : Int32)) [some (.ref (w.2.1 28)), some (.int v1), some (.int v2), some (.int (v3 + (1 : Int32))), none, none, none, none, none] zd_Mo_weigh_18 rfl (by decide) (Nat.le_of_ble_eq_true rfl) rfl ?_
    refine zr_goto hG 2 zd_Mo_weigh_21 (by decide) ?_
    have h := hk2 _ h
    exact h
def zw_Mo_weigh (a1 a2 : Int32) (z : zS) (post : zS → Prop) : Prop := zq_Lp (zw_Mo_weigh_2 post) (a1, a2, (0 : Int32), z)
set_option maxHeartbeats 4000000 in
set_option maxRecDepth 100000 in
theorem zm_Mo_weigh (l : Launch) (w : zW) (hAp : zq_Ap w) (g : zS) (o : Nat → Int64) {a1 a2 : Int32} {z : zS} {post : zS → Prop} (h : zw_Mo_weigh a1 a2 z post) : zq_M l w (zq_A w) zy_Mo_weigh zc_Mo_weigh 9 none (zq_rm 5 118) [.ref (w.2.1 28), .int a1, .int a2] (g, z, o) (zq_Nv g o post) := by
  refine zq_mk_M (by decide) (by simp [Value.category]) (Nat.le_of_ble_eq_true rfl) hAp (fun x hx hG hR => ?_)
  subst hx
  have hW := zq_wr hR.2.2.1
  refine zr_iconst hG (v := (0 : Int32)) zd_Mo_weigh_0 (by decide) ?_
  refine zr_istore_n hG [some (.ref (w.2.1 28)), some (.int a1), some (.int a2), some (.int (0 : Int32)), none, none, none, none, none] zd_Mo_weigh_1 rfl (Nat.le_of_ble_eq_true rfl) rfl ?_
  exact zt_Mo_weigh_2 hG hR hAp hW h
