/-- Arrays.fill of a row of ints -/
theorem zk_fill (l : Launch) (D : va_G) (tI tZ tL : ClassId) (q N : Nat) (f : Nat → Int32) (v : Int32) (hN : N < 2147483648) : zq_MI l D [(tI, .int), (tZ, .boolean), (tL, .long)] zy_fill zc_fill 4 (zq_rc 0 0 0 0) [.ref q, .int v] [(q, .inl (tI, N, .inl f))] (fun ws => ∃ f', ws = [(q, .inl (tI, N, .inl f'))] ∧ ∀ j, j < N → f' j = v) 0 0 := by
  refine zq_mk_I (by decide) (by simp [Value.category]) (Nat.le_of_ble_eq_true rfl) (fun x hx hG hR hin => ?_)
  subst hx
  have hG : zq_H x D [(tI, .int), (tZ, .boolean), (tL, .long)] "java/util/Arrays" zc_fill 4 (zq_rc 0 0 0 0) := hG
  have loop : ∀ (d i : Nat) (f' : Nat → Int32), i + d = N → (∀ j, j < i → f' j = v) → zq_U x D [(tI, .int), (tZ, .boolean), (tL, .long)] [(q, .inl (tI, N, .inl f'))] 0 0 5 [some (.ref q), some (.int v), some (.int (nI i)), some (.int (nI N))] [] := by
    intro d
    induction d with
    | zero =>
      intro i f' hi hf
      refine zi_iload_n hG zd_fill_5 rfl rfl ?_
      refine zi_iload_n hG zd_fill_6 rfl rfl ?_
      refine zi_icmp_ge hG 20 zd_fill_7 (by decide) (fun hc => ?_) (fun hc => ?_)
      · exact zi_vret hG hR zd_fill_20 ⟨f', rfl, fun j hj => hf j (by omega)⟩
      · exact absurd (nI_le (show N ≤ i by omega) (by omega)) hc
    | succ d ih =>
      intro i f' hi hf
      refine zi_iload_n hG zd_fill_5 rfl rfl ?_
      refine zi_iload_n hG zd_fill_6 rfl rfl ?_
      refine zi_icmp_ge hG 20 zd_fill_7 (by decide) (fun hc => ?_) (fun hc => ?_)
      · exact absurd hc (nI_ge (show i < N by omega) (by omega))
      refine zi_aload_n hG zd_fill_10 rfl rfl ?_
      refine zi_iload_n hG zd_fill_11 rfl rfl ?_
      refine zi_iload_n hG zd_fill_12 rfl rfl ?_
      refine zi_iast hG 0 0 rfl rfl (vp_in_nI (show i < N by omega) (by omega)) [(q, .inl (tI, N, .inl (upd f' (nI i).toNatClampNeg v)))] rfl zd_fill_13 ?_
      refine zi_iinc hG (u := 1) [some (.ref q), some (.int v), some (.int (nI (i + 1))), some (.int (nI N))] zd_fill_14 rfl (by decide) (Nat.le_of_ble_eq_true rfl) (by rw [nI_1]; rfl) ?_
      refine zi_goto hG 5 zd_fill_17 (by decide) ?_
      refine ih (i + 1) _ (by omega) (fun j hj => ?_)
      rw [nI_clamp (show i < 2 ^ 31 by omega)]
      by_cases e : j = i
      · subst e
        exact pk_us
      · rw [pk_un e]
        exact hf j (by omega)
  refine zi_iconst hG (v := 0) zd_fill_0 (by decide) ?_
  refine zi_istore_n hG [some (.ref q), some (.int v), some (.int 0), none] zd_fill_1 rfl (Nat.le_of_ble_eq_true rfl) rfl ?_
  refine zi_aload_n hG zd_fill_2 rfl rfl ?_
  refine zi_alen hG 0 0 rfl rfl (v := nI N) rfl zd_fill_3 ?_
  refine zi_istore_n hG [some (.ref q), some (.int v), some (.int 0), some (.int (nI N))] zd_fill_4 rfl (Nat.le_of_ble_eq_true rfl) rfl ?_
  exact loop N 0 f (by omega) (fun j hj => by omega)
set_option maxHeartbeats 4000000 in
set_option maxRecDepth 100000 in
theorem zk_Line_init (l : Launch) (D : va_G) (tI tZ tL : ClassId) (q : Nat) : zq_MI l D [(tI, .int), (tZ, .boolean), (tL, .long)] zy_Line_init zc_Line_init 1 (zq_rc 1 1 6 20) [.ref q] [(q, .inr (7, [.null, .int 0]))] (fun ws => ∃ q1, ws = [(q, .inr (7, [.ref q1, .int 0])), (q1, .inl (tI, 6, .inl (fun _ => 0)))]) 1 6 := by
  refine zq_mk_I (by decide) (by simp [Value.category]) (Nat.le_of_ble_eq_true rfl) (fun x hx hG hR hin => ?_)
  subst hx
  have hG : zq_H x D [(tI, .int), (tZ, .boolean), (tL, .long)] "GridRouter$Line" zc_Line_init 1 (zq_rc 1 1 6 20) := hG
  have hin : (zc_h x).name = "<init>" := hin
  have hA := hR.hA
  refine zi_aload_n hG zd_Line_init_0 rfl rfl ?_
  refine zi_obj hG tk_208 tk_27 tk_28 rfl ⟨by decide, (Nat.le_of_ble_eq_true rfl)⟩ zd_Line_init_1 ?_
  refine zi_aload_n hG zd_Line_init_4 rfl rfl ?_
  refine zi_bipush hG (v := (6 : Int32)) zd_Line_init_5 (by decide) ?_
  refine zi_newa hG hA (ty := .int) rfl tk_75 (fun C h => by cases h) 0 rfl (N := 6) (a0 := (6, .inl (fun _ => 0))) (fun cA => rfl) (by decide) (by decide) (by show _ * _ ≤ _; simp only [componentBytes]; omega) ⟨by decide, by decide⟩ zd_Line_init_7 (fun p1 => ?_)
  refine zi_widen (k' := 1) (n' := 6) (by omega) (by omega) ?_
  show zq_U x D [(tI, .int), (tZ, .boolean), (tL, .long)] [(q, .inr (7, [.null, .int 0])), (p1, .inl (tI, 6, .inl (fun _ => 0)))] 1 6 9 [some (.ref q)] [.ref p1, .ref q]
  refine zi_putF hG hin zi7 zt7 zk7 zn7 0 rfl rfl 0 (by decide) rfl tk_209 rfl (ty := .array .int) (by decide +kernel) rfl rfl (Nat.le_of_ble_eq_true rfl) [(q, .inr (7, [.ref p1, .int 0])), (p1, .inl (tI, 6, .inl (fun _ => 0)))] rfl zd_Line_init_9 ?_
  refine zi_aload_n hG zd_Line_init_12 rfl rfl ?_
  refine zi_iconst hG (v := (0 : Int32)) zd_Line_init_13 (by decide) ?_
  refine zi_put hG zi7 zt7 zk7 zn7 0 rfl rfl 1 (by decide) rfl tk_210 rfl (ty := .int) (by decide +kernel) rfl rfl (Nat.le_of_ble_eq_true rfl) [(q, .inr (7, [.ref p1, .int (0 : Int32)])), (p1, .inl (tI, 6, .inl (fun _ => 0)))] rfl zd_Line_init_14 ?_
  refine zi_widen (k' := 1) (n' := 6) (by decide) (by decide) ?_
  refine zi_perm [(q, .inr (7, [.ref p1, .int (0 : Int32)])), (p1, .inl (tI, 6, .inl (fun _ => 0)))] [0, 1] rfl (by decide) ?_
  exact zi_vret hG hR zd_Line_init_17 ⟨_, rfl⟩
set_option maxHeartbeats 4000000 in
set_option maxRecDepth 100000 in
theorem zk_Nets_init (l : Launch) (D : va_G) (tI tZ tL : ClassId) (q qg : Nat) (W H A C ga gb gc : Nat) (hC : C ≤ 162) (hA8 : A ≤ 81) : zq_MI l D [(tI, .int), (tZ, .boolean), (tL, .long)] zy_Nets_init zc_Nets_init 2 (zq_rc 2 3 174 50) [.ref q, .ref qg] [(q, .inr (2, [.null, .null, .null, .int 0, .null])), (qg, .inr (1, [.int (nI W), .int (nI H), .int (nI A), .int (nI C), .ref ga, .ref gb, .ref gc]))] (fun ws => ∃ q1 q2 q3 f, ws = [(q, .inr (2, [.ref q1, .ref q2, .ref q3, .int 0, .ref qg])), (qg, .inr (1, [.int (nI W), .int (nI H), .int (nI A), .int (nI C), .ref ga, .ref gb, .ref gc])), (q1, .inl (tI, 6, .inl (fun _ => 0))), (q2, .inl (tI, 6, .inl (fun _ => 0))), (q3, .inl (tI, C, .inl f))] ∧ ∀ j, j < C → f j = -1) 3 174 := by
  refine zq_mk_I (by decide) (by simp [Value.category]) (Nat.le_of_ble_eq_true rfl) (fun x hx hG hR hin => ?_)
  subst hx
  have hG : zq_H x D [(tI, .int), (tZ, .boolean), (tL, .long)] "GridRouter$Nets" zc_Nets_init 2 (zq_rc 2 3 174 50) := hG
  have hin : (zc_h x).name = "<init>" := hin
  have hA := hR.hA
  refine zi_aload_n hG zd_Nets_init_0 rfl rfl ?_
  refine zi_obj hG tk_81 tk_27 tk_28 rfl ⟨by decide, (Nat.le_of_ble_eq_true rfl)⟩ zd_Nets_init_1 ?_
  refine zi_aload_n hG zd_Nets_init_4 rfl rfl ?_
  refine zi_bipush hG (v := (6 : Int32)) zd_Nets_init_5 (by decide) ?_
  refine zi_newa hG hA (ty := .int) rfl tk_75 (fun C h => by cases h) 0 rfl (N := 6) (a0 := (6, .inl (fun _ => 0))) (fun cA => rfl) (by decide) (by decide) (by show _ * _ ≤ _; simp only [componentBytes]; omega) ⟨by decide, by decide⟩ zd_Nets_init_7 (fun p1 => ?_)
  refine zi_widen (k' := 1) (n' := 6) (by omega) (by omega) ?_
  show zq_U x D [(tI, .int), (tZ, .boolean), (tL, .long)] [(q, .inr (2, [.null, .null, .null, .int 0, .null])), (qg, .inr (1, [.int (nI W), .int (nI H), .int (nI A), .int (nI C), .ref ga, .ref gb, .ref gc])), (p1, .inl (tI, 6, .inl (fun _ => 0)))] 1 6 9 [some (.ref q), some (.ref qg)] [.ref p1, .ref q]
  refine zi_putF hG hin zi2 zt2 zk2 zn2 0 rfl rfl 0 (by decide) rfl tk_85 rfl (ty := .array .int) (by decide +kernel) rfl rfl (Nat.le_of_ble_eq_true rfl) [(q, .inr (2, [.ref p1, .null, .null, .int 0, .null])), (qg, .inr (1, [.int (nI W), .int (nI H), .int (nI A), .int (nI C), .ref ga, .ref gb, .ref gc])), (p1, .inl (tI, 6, .inl (fun _ => 0)))] rfl zd_Nets_init_9 ?_
  refine zi_aload_n hG zd_Nets_init_12 rfl rfl ?_
  refine zi_bipush hG (v := (6 : Int32)) zd_Nets_init_13 (by decide) ?_
  refine zi_newa hG hA (ty := .int) rfl tk_75 (fun C h => by cases h) 0 rfl (N := 6) (a0 := (6, .inl (fun _ => 0))) (fun cA => rfl) (by decide) (by decide) (by show _ * _ ≤ _; simp only [componentBytes]; omega) ⟨by decide, by decide⟩ zd_Nets_init_15 (fun p2 => ?_)
  refine zi_widen (k' := 2) (n' := 12) (by omega) (by omega) ?_
  show zq_U x D [(tI, .int), (tZ, .boolean), (tL, .long)] [(q, .inr (2, [.ref p1, .null, .null, .int 0, .null])), (qg, .inr (1, [.int (nI W), .int (nI H), .int (nI A), .int (nI C), .ref ga, .ref gb, .ref gc])), (p1, .inl (tI, 6, .inl (fun _ => 0))), (p2, .inl (tI, 6, .inl (fun _ => 0)))] 2 12 17 [some (.ref q), some (.ref qg)] [.ref p2, .ref q]
  refine zi_putF hG hin zi2 zt2 zk2 zn2 0 rfl rfl 1 (by decide) rfl tk_89 rfl (ty := .array .int) (by decide +kernel) rfl rfl (Nat.le_of_ble_eq_true rfl) [(q, .inr (2, [.ref p1, .ref p2, .null, .int 0, .null])), (qg, .inr (1, [.int (nI W), .int (nI H), .int (nI A), .int (nI C), .ref ga, .ref gb, .ref gc])), (p1, .inl (tI, 6, .inl (fun _ => 0))), (p2, .inl (tI, 6, .inl (fun _ => 0)))] rfl zd_Nets_init_17 ?_
  refine zi_aload_n hG zd_Nets_init_20 rfl rfl ?_
  refine zi_iconst hG (v := (0 : Int32)) zd_Nets_init_21 (by decide) ?_
  refine zi_put hG zi2 zt2 zk2 zn2 0 rfl rfl 3 (by decide) rfl tk_98 rfl (ty := .int) (by decide +kernel) rfl rfl (Nat.le_of_ble_eq_true rfl) [(q, .inr (2, [.ref p1, .ref p2, .null, .int (0 : Int32), .null])), (qg, .inr (1, [.int (nI W), .int (nI H), .int (nI A), .int (nI C), .ref ga, .ref gb, .ref gc])), (p1, .inl (tI, 6, .inl (fun _ => 0))), (p2, .inl (tI, 6, .inl (fun _ => 0)))] rfl zd_Nets_init_22 ?_
  refine zi_aload_n hG zd_Nets_init_25 rfl rfl ?_
  refine zi_aload_n hG zd_Nets_init_26 rfl rfl ?_
  refine zi_putF hG hin zi2 zt2 zk2 zn2 0 rfl rfl 4 (by decide) rfl tk_102 rfl (ty := .object "GridRouter$Grid") (by decide +kernel) rfl rfl (Nat.le_of_ble_eq_true rfl) [(q, .inr (2, [.ref p1, .ref p2, .null, .int (0 : Int32), .ref qg])), (qg, .inr (1, [.int (nI W), .int (nI H), .int (nI A), .int (nI C), .ref ga, .ref gb, .ref gc])), (p1, .inl (tI, 6, .inl (fun _ => 0))), (p2, .inl (tI, 6, .inl (fun _ => 0)))] rfl zd_Nets_init_27 ?_
  refine zi_aload_n hG zd_Nets_init_30 rfl rfl ?_
  refine zi_aload_n hG zd_Nets_init_31 rfl rfl ?_
  refine zi_get hG zi1 1 rfl rfl 3 (by decide) rfl tk_48 rfl zd_Nets_init_32 ?_
  refine zi_newa hG hA (ty := .int) rfl tk_75 (fun C h => by cases h) 0 rfl (N := C) (a0 := (C, .inl (fun _ => 0))) (fun cA => rfl) (nI_pos (by omega)) (nI_clamp (by omega)) (by show _ * _ ≤ _; simp only [componentBytes]; omega) ⟨by decide, by show _ ≤ 174; omega⟩ zd_Nets_init_35 (fun p3 => ?_)
  refine zi_widen (k' := 3) (n' := 174) (by omega) (by omega) ?_
  show zq_U x D [(tI, .int), (tZ, .boolean), (tL, .long)] [(q, .inr (2, [.ref p1, .ref p2, .null, .int (0 : Int32), .ref qg])), (qg, .inr (1, [.int (nI W), .int (nI H), .int (nI A), .int (nI C), .ref ga, .ref gb, .ref gc])), (p1, .inl (tI, 6, .inl (fun _ => 0))), (p2, .inl (tI, 6, .inl (fun _ => 0))), (p3, .inl (tI, C, .inl (fun _ => 0)))] 3 174 37 [some (.ref q), some (.ref qg)] [.ref p3, .ref q]
  refine zi_putF hG hin zi2 zt2 zk2 zn2 0 rfl rfl 2 (by decide) rfl tk_93 rfl (ty := .array .int) (by decide +kernel) rfl rfl (Nat.le_of_ble_eq_true rfl) [(q, .inr (2, [.ref p1, .ref p2, .ref p3, .int (0 : Int32), .ref qg])), (qg, .inr (1, [.int (nI W), .int (nI H), .int (nI A), .int (nI C), .ref ga, .ref gb, .ref gc])), (p1, .inl (tI, 6, .inl (fun _ => 0))), (p2, .inl (tI, 6, .inl (fun _ => 0))), (p3, .inl (tI, C, .inl (fun _ => 0)))] rfl zd_Nets_init_37 ?_
  refine zi_aload_n hG zd_Nets_init_40 rfl rfl ?_
  refine zi_get hG zi2 0 rfl rfl 2 (by decide) rfl tk_93 rfl zd_Nets_init_41 ?_
  refine zi_iconst hG (v := (-1 : Int32)) zd_Nets_init_44 (by decide) ?_
  refine zi_callSo hG hR.2.2.2.2 hA (As := [.ref p3, .int (-1 : Int32)]) (rest := []) (zk_fill (zc_l x) D tI tZ tL p3 C (fun _ => 0) (-1 : Int32) (by omega)) [(q, .inr (2, [.ref p1, .ref p2, .ref p3, .int (0 : Int32), .ref qg])), (qg, .inr (1, [.int (nI W), .int (nI H), .int (nI A), .int (nI C), .ref ga, .ref gb, .ref gc])), (p1, .inl (tI, 6, .inl (fun _ => 0))), (p2, .inl (tI, 6, .inl (fun _ => 0)))] [4] [0, 1, 2, 3] rfl rfl (by decide) (by decide) (by decide) ⟨tk_82, tk_83, tk_4, tk_84⟩ zdd_fill ⟨rfl, rfl, by decide, by decide⟩ ⟨by decide, by decide⟩ rfl (Nat.le_of_ble_eq_true rfl) zd_Nets_init_45 rfl (fun ws' hw => ?_)
  obtain ⟨f3, rfl, hf3⟩ := hw
  show zq_U x D [(tI, .int), (tZ, .boolean), (tL, .long)] [(q, .inr (2, [.ref p1, .ref p2, .ref p3, .int (0 : Int32), .ref qg])), (qg, .inr (1, [.int (nI W), .int (nI H), .int (nI A), .int (nI C), .ref ga, .ref gb, .ref gc])), (p1, .inl (tI, 6, .inl (fun _ => 0))), (p2, .inl (tI, 6, .inl (fun _ => 0))), (p3, .inl (tI, C, .inl f3))] 3 174 48 [some (.ref q), some (.ref qg)] []
  refine zi_widen (k' := 3) (n' := 174) (by decide) (by decide) ?_
  refine zi_perm [(q, .inr (2, [.ref p1, .ref p2, .ref p3, .int (0 : Int32), .ref qg])), (qg, .inr (1, [.int (nI W), .int (nI H), .int (nI A), .int (nI C), .ref ga, .ref gb, .ref gc])), (p1, .inl (tI, 6, .inl (fun _ => 0))), (p2, .inl (tI, 6, .inl (fun _ => 0))), (p3, .inl (tI, C, .inl f3))] [0, 1, 2, 3, 4] rfl (by decide) ?_
  exact zi_vret hG hR zd_Nets_init_48 ⟨_, _, _, _, rfl, hf3⟩
set_option maxHeartbeats 4000000 in
set_option maxRecDepth 100000 in
theorem zk_Layout_init (l : Launch) (D : va_G) (tI tZ tL : ClassId) (q qg qn : Nat) (W H A C ga gb gc : Nat) (hC : C ≤ 162) (hA8 : A ≤ 81) : zq_MI l D [(tI, .int), (tZ, .boolean), (tL, .long)] zy_Layout_init zc_Layout_init 3 (zq_rc 2 2 243 50) [.ref q, .ref qg, .ref qn] [(q, .inr (3, [.null, .null, .null, .null])), (qg, .inr (1, [.int (nI W), .int (nI H), .int (nI A), .int (nI C), .ref ga, .ref gb, .ref gc]))] (fun ws => ∃ q1 q2 f, ws = [(q, .inr (3, [.ref q1, .ref q2, .ref qg, .ref qn])), (qg, .inr (1, [.int (nI W), .int (nI H), .int (nI A), .int (nI C), .ref ga, .ref gb, .ref gc])), (q1, .inl (tI, C, .inl f)), (q2, .inl (tZ, A, .inl (fun _ => 0)))] ∧ ∀ j, j < C → f j = -1) 2 243 := by
  refine zq_mk_I (by decide) (by simp [Value.category]) (Nat.le_of_ble_eq_true rfl) (fun x hx hG hR hin => ?_)
  subst hx
  have hG : zq_H x D [(tI, .int), (tZ, .boolean), (tL, .long)] "GridRouter$Layout" zc_Layout_init 3 (zq_rc 2 2 243 50) := hG
  have hin : (zc_h x).name = "<init>" := hin
  have hA := hR.hA
  refine zi_aload_n hG zd_Layout_init_0 rfl rfl ?_
  refine zi_obj hG tk_119 tk_27 tk_28 rfl ⟨by decide, (Nat.le_of_ble_eq_true rfl)⟩ zd_Layout_init_1 ?_
  refine zi_aload_n hG zd_Layout_init_4 rfl rfl ?_
  refine zi_aload_n hG zd_Layout_init_5 rfl rfl ?_
  refine zi_putF hG hin zi3 zt3 zk3 zn3 0 rfl rfl 2 (by decide) rfl tk_131 rfl (ty := .object "GridRouter$Grid") (by decide +kernel) rfl rfl (Nat.le_of_ble_eq_true rfl) [(q, .inr (3, [.null, .null, .ref qg, .null])), (qg, .inr (1, [.int (nI W), .int (nI H), .int (nI A), .int (nI C), .ref ga, .ref gb, .ref gc]))] rfl zd_Layout_init_6 ?_
  refine zi_aload_n hG zd_Layout_init_9 rfl rfl ?_
  refine zi_aload_n hG zd_Layout_init_10 rfl rfl ?_
  refine zi_putF hG hin zi3 zt3 zk3 zn3 0 rfl rfl 3 (by decide) rfl tk_132 rfl (ty := .object "GridRouter$Nets") (by decide +kernel) rfl rfl (Nat.le_of_ble_eq_true rfl) [(q, .inr (3, [.null, .null, .ref qg, .ref qn])), (qg, .inr (1, [.int (nI W), .int (nI H), .int (nI A), .int (nI C), .ref ga, .ref gb, .ref gc]))] rfl zd_Layout_init_11 ?_
  refine zi_aload_n hG zd_Layout_init_14 rfl rfl ?_
  refine zi_aload_n hG zd_Layout_init_15 rfl rfl ?_
  refine zi_get hG zi1 1 rfl rfl 3 (by decide) rfl tk_45 rfl zd_Layout_init_16 ?_
  refine zi_newa hG hA (ty := .int) rfl tk_75 (fun C h => by cases h) 0 rfl (N := C) (a0 := (C, .inl (fun _ => 0))) (fun cA => rfl) (nI_pos (by omega)) (nI_clamp (by omega)) (by show _ * _ ≤ _; simp only [componentBytes]; omega) ⟨by decide, by show _ ≤ 243; omega⟩ zd_Layout_init_19 (fun p1 => ?_)
  refine zi_widen (k' := 1) (n' := 162) (by omega) (by omega) ?_
  show zq_U x D [(tI, .int), (tZ, .boolean), (tL, .long)] [(q, .inr (3, [.null, .null, .ref qg, .ref qn])), (qg, .inr (1, [.int (nI W), .int (nI H), .int (nI A), .int (nI C), .ref ga, .ref gb, .ref gc])), (p1, .inl (tI, C, .inl (fun _ => 0)))] 1 162 21 [some (.ref q), some (.ref qg), some (.ref qn)] [.ref p1, .ref q]
  refine zi_putF hG hin zi3 zt3 zk3 zn3 0 rfl rfl 0 (by decide) rfl tk_121 rfl (ty := .array .int) (by decide +kernel) rfl rfl (Nat.le_of_ble_eq_true rfl) [(q, .inr (3, [.ref p1, .null, .ref qg, .ref qn])), (qg, .inr (1, [.int (nI W), .int (nI H), .int (nI A), .int (nI C), .ref ga, .ref gb, .ref gc])), (p1, .inl (tI, C, .inl (fun _ => 0)))] rfl zd_Layout_init_21 ?_
  refine zi_aload_n hG zd_Layout_init_24 rfl rfl ?_
  refine zi_aload_n hG zd_Layout_init_25 rfl rfl ?_
  refine zi_get hG zi1 1 rfl rfl 2 (by decide) rfl tk_43 rfl zd_Layout_init_26 ?_
  refine zi_newa hG hA (ty := .boolean) rfl tk_142 (fun C h => by cases h) 1 rfl (N := A) (a0 := (A, .inl (fun _ => 0))) (fun cA => rfl) (nI_pos (by omega)) (nI_clamp (by omega)) (by show _ * _ ≤ _; simp only [componentBytes]; omega) ⟨by decide, by show _ ≤ 243; omega⟩ zd_Layout_init_29 (fun p2 => ?_)
  refine zi_widen (k' := 2) (n' := 243) (by omega) (by omega) ?_
  show zq_U x D [(tI, .int), (tZ, .boolean), (tL, .long)] [(q, .inr (3, [.ref p1, .null, .ref qg, .ref qn])), (qg, .inr (1, [.int (nI W), .int (nI H), .int (nI A), .int (nI C), .ref ga, .ref gb, .ref gc])), (p1, .inl (tI, C, .inl (fun _ => 0))), (p2, .inl (tZ, A, .inl (fun _ => 0)))] 2 243 31 [some (.ref q), some (.ref qg), some (.ref qn)] [.ref p2, .ref q]
  refine zi_putF hG hin zi3 zt3 zk3 zn3 0 rfl rfl 1 (by decide) rfl tk_127 rfl (ty := .array .boolean) (by decide +kernel) rfl rfl (Nat.le_of_ble_eq_true rfl) [(q, .inr (3, [.ref p1, .ref p2, .ref qg, .ref qn])), (qg, .inr (1, [.int (nI W), .int (nI H), .int (nI A), .int (nI C), .ref ga, .ref gb, .ref gc])), (p1, .inl (tI, C, .inl (fun _ => 0))), (p2, .inl (tZ, A, .inl (fun _ => 0)))] rfl zd_Layout_init_31 ?_
  refine zi_aload_n hG zd_Layout_init_34 rfl rfl ?_
  refine zi_get hG zi3 0 rfl rfl 0 (by decide) rfl tk_121 rfl zd_Layout_init_35 ?_
  refine zi_iconst hG (v := (-1 : Int32)) zd_Layout_init_38 (by decide) ?_
  refine zi_callSo hG hR.2.2.2.2 hA (As := [.ref p1, .int (-1 : Int32)]) (rest := []) (zk_fill (zc_l x) D tI tZ tL p1 C (fun _ => 0) (-1 : Int32) (by omega)) [(q, .inr (3, [.ref p1, .ref p2, .ref qg, .ref qn])), (qg, .inr (1, [.int (nI W), .int (nI H), .int (nI A), .int (nI C), .ref ga, .ref gb, .ref gc])), (p2, .inl (tZ, A, .inl (fun _ => 0)))] [2] [0, 1, 3] rfl rfl (by decide) (by decide) (by decide) ⟨tk_120, tk_83, tk_4, tk_84⟩ zdd_fill ⟨rfl, rfl, by decide, by decide⟩ ⟨by decide, by decide⟩ rfl (Nat.le_of_ble_eq_true rfl) zd_Layout_init_39 rfl (fun ws' hw => ?_)
  obtain ⟨f2, rfl, hf2⟩ := hw
  show zq_U x D [(tI, .int), (tZ, .boolean), (tL, .long)] [(q, .inr (3, [.ref p1, .ref p2, .ref qg, .ref qn])), (qg, .inr (1, [.int (nI W), .int (nI H), .int (nI A), .int (nI C), .ref ga, .ref gb, .ref gc])), (p2, .inl (tZ, A, .inl (fun _ => 0))), (p1, .inl (tI, C, .inl f2))] 2 243 42 [some (.ref q), some (.ref qg), some (.ref qn)] []
  refine zi_widen (k' := 2) (n' := 243) (by decide) (by decide) ?_
  refine zi_perm [(q, .inr (3, [.ref p1, .ref p2, .ref qg, .ref qn])), (qg, .inr (1, [.int (nI W), .int (nI H), .int (nI A), .int (nI C), .ref ga, .ref gb, .ref gc])), (p1, .inl (tI, C, .inl f2)), (p2, .inl (tZ, A, .inl (fun _ => 0)))] [0, 1, 3, 2] rfl (by decide) ?_
  exact zi_vret hG hR zd_Layout_init_42 ⟨_, _, _, rfl, hf2⟩
set_option maxHeartbeats 4000000 in
set_option maxRecDepth 100000 in
theorem zk_Rules_init (l : Launch) (D : va_G) (tI tZ tL : ClassId) (q qg qn ql : Nat) (sp : Int32) (hsp : narrow .boolean (.int sp) = .int sp) (hft : fits .boolean (.int sp) = true) (W H A C ga gb gc : Nat) (hC : C ≤ 162) (hA8 : A ≤ 81) : zq_MI l D [(tI, .int), (tZ, .boolean), (tL, .long)] zy_Rules_init zc_Rules_init 5 (zq_rc 1 1 162 20) [.ref q, .ref qg, .ref qn, .ref ql, .int sp] [(q, .inr (4, [.null, .int 0, .null, .null, .null])), (qg, .inr (1, [.int (nI W), .int (nI H), .int (nI A), .int (nI C), .ref ga, .ref gb, .ref gc]))] (fun ws => ∃ q1, ws = [(q, .inr (4, [.ref q1, .int sp, .ref qg, .ref qn, .ref ql])), (qg, .inr (1, [.int (nI W), .int (nI H), .int (nI A), .int (nI C), .ref ga, .ref gb, .ref gc])), (q1, .inl (tZ, C, .inl (fun _ => 0)))]) 1 162 := by
  refine zq_mk_I (by decide) (by simp [Value.category]) (Nat.le_of_ble_eq_true rfl) (fun x hx hG hR hin => ?_)
  subst hx
  have hG : zq_H x D [(tI, .int), (tZ, .boolean), (tL, .long)] "GridRouter$Rules" zc_Rules_init 5 (zq_rc 1 1 162 20) := hG
  have hin : (zc_h x).name = "<init>" := hin
  have hA := hR.hA
  refine zi_aload_n hG zd_Rules_init_0 rfl rfl ?_
  refine zi_obj hG tk_148 tk_27 tk_28 rfl ⟨by decide, (Nat.le_of_ble_eq_true rfl)⟩ zd_Rules_init_1 ?_
  refine zi_aload_n hG zd_Rules_init_4 rfl rfl ?_
  refine zi_aload_n hG zd_Rules_init_5 rfl rfl ?_
  refine zi_putF hG hin zi4 zt4 zk4 zn4 0 rfl rfl 2 (by decide) rfl tk_155 rfl (ty := .object "GridRouter$Grid") (by decide +kernel) rfl rfl (Nat.le_of_ble_eq_true rfl) [(q, .inr (4, [.null, .int 0, .ref qg, .null, .null])), (qg, .inr (1, [.int (nI W), .int (nI H), .int (nI A), .int (nI C), .ref ga, .ref gb, .ref gc]))] rfl zd_Rules_init_6 ?_
  refine zi_aload_n hG zd_Rules_init_9 rfl rfl ?_
  refine zi_aload_n hG zd_Rules_init_10 rfl rfl ?_
  refine zi_putF hG hin zi4 zt4 zk4 zn4 0 rfl rfl 3 (by decide) rfl tk_156 rfl (ty := .object "GridRouter$Nets") (by decide +kernel) rfl rfl (Nat.le_of_ble_eq_true rfl) [(q, .inr (4, [.null, .int 0, .ref qg, .ref qn, .null])), (qg, .inr (1, [.int (nI W), .int (nI H), .int (nI A), .int (nI C), .ref ga, .ref gb, .ref gc]))] rfl zd_Rules_init_11 ?_
  refine zi_aload_n hG zd_Rules_init_14 rfl rfl ?_
  refine zi_aload_n hG zd_Rules_init_15 rfl rfl ?_
  refine zi_putF hG hin zi4 zt4 zk4 zn4 0 rfl rfl 4 (by decide) rfl tk_157 rfl (ty := .object "GridRouter$Layout") (by decide +kernel) rfl rfl (Nat.le_of_ble_eq_true rfl) [(q, .inr (4, [.null, .int 0, .ref qg, .ref qn, .ref ql])), (qg, .inr (1, [.int (nI W), .int (nI H), .int (nI A), .int (nI C), .ref ga, .ref gb, .ref gc]))] rfl zd_Rules_init_16 ?_
  refine zi_aload_n hG zd_Rules_init_19 rfl rfl ?_
  refine zi_iload hG zd_Rules_init_20 rfl ?_
  refine zi_putF hG hin zi4 zt4 zk4 zn4 0 rfl rfl 1 (by decide) rfl tk_152 rfl (ty := .boolean) (by decide +kernel) hsp hft (Nat.le_of_ble_eq_true rfl) [(q, .inr (4, [.null, .int sp, .ref qg, .ref qn, .ref ql])), (qg, .inr (1, [.int (nI W), .int (nI H), .int (nI A), .int (nI C), .ref ga, .ref gb, .ref gc]))] rfl zd_Rules_init_22 ?_
  refine zi_aload_n hG zd_Rules_init_25 rfl rfl ?_
  refine zi_aload_n hG zd_Rules_init_26 rfl rfl ?_
  refine zi_get hG zi1 1 rfl rfl 3 (by decide) rfl tk_46 rfl zd_Rules_init_27 ?_
  refine zi_newa hG hA (ty := .boolean) rfl tk_142 (fun C h => by cases h) 1 rfl (N := C) (a0 := (C, .inl (fun _ => 0))) (fun cA => rfl) (nI_pos (by omega)) (nI_clamp (by omega)) (by show _ * _ ≤ _; simp only [componentBytes]; omega) ⟨by decide, by show _ ≤ 162; omega⟩ zd_Rules_init_30 (fun p1 => ?_)
  refine zi_widen (k' := 1) (n' := 162) (by omega) (by omega) ?_
  show zq_U x D [(tI, .int), (tZ, .boolean), (tL, .long)] [(q, .inr (4, [.null, .int sp, .ref qg, .ref qn, .ref ql])), (qg, .inr (1, [.int (nI W), .int (nI H), .int (nI A), .int (nI C), .ref ga, .ref gb, .ref gc])), (p1, .inl (tZ, C, .inl (fun _ => 0)))] 1 162 32 [some (.ref q), some (.ref qg), some (.ref qn), some (.ref ql), some (.int sp)] [.ref p1, .ref q]
  refine zi_putF hG hin zi4 zt4 zk4 zn4 0 rfl rfl 0 (by decide) rfl tk_149 rfl (ty := .array .boolean) (by decide +kernel) rfl rfl (Nat.le_of_ble_eq_true rfl) [(q, .inr (4, [.ref p1, .int sp, .ref qg, .ref qn, .ref ql])), (qg, .inr (1, [.int (nI W), .int (nI H), .int (nI A), .int (nI C), .ref ga, .ref gb, .ref gc])), (p1, .inl (tZ, C, .inl (fun _ => 0)))] rfl zd_Rules_init_32 ?_
  refine zi_widen (k' := 1) (n' := 162) (by decide) (by decide) ?_
  refine zi_perm [(q, .inr (4, [.ref p1, .int sp, .ref qg, .ref qn, .ref ql])), (qg, .inr (1, [.int (nI W), .int (nI H), .int (nI A), .int (nI C), .ref ga, .ref gb, .ref gc])), (p1, .inl (tZ, C, .inl (fun _ => 0)))] [0, 1, 2] rfl (by decide) ?_
  exact zi_vret hG hR zd_Rules_init_35 ⟨_, rfl⟩
set_option maxHeartbeats 4000000 in
set_option maxRecDepth 100000 in
theorem zk_Checker_init (l : Launch) (D : va_G) (tI tZ tL : ClassId) (q qg qn ql qr : Nat) (W H A C ga gb gc : Nat) (hC : C ≤ 162) (hA8 : A ≤ 81) : zq_MI l D [(tI, .int), (tZ, .boolean), (tL, .long)] zy_Checker_init zc_Checker_init 5 (zq_rc 1 2 324 20) [.ref q, .ref qg, .ref qn, .ref ql, .ref qr] [(q, .inr (5, [.null, .null, .null, .null, .null, .null, .int 0])), (qg, .inr (1, [.int (nI W), .int (nI H), .int (nI A), .int (nI C), .ref ga, .ref gb, .ref gc]))] (fun ws => ∃ q1 q2, ws = [(q, .inr (5, [.ref qg, .ref qn, .ref ql, .ref qr, .ref q1, .ref q2, .int 0])), (qg, .inr (1, [.int (nI W), .int (nI H), .int (nI A), .int (nI C), .ref ga, .ref gb, .ref gc])), (q1, .inl (tI, C, .inl (fun _ => 0))), (q2, .inl (tZ, C, .inl (fun _ => 0)))]) 2 324 := by
  refine zq_mk_I (by decide) (by simp [Value.category]) (Nat.le_of_ble_eq_true rfl) (fun x hx hG hR hin => ?_)
  subst hx
  have hG : zq_H x D [(tI, .int), (tZ, .boolean), (tL, .long)] "GridRouter$Checker" zc_Checker_init 5 (zq_rc 1 2 324 20) := hG
  have hin : (zc_h x).name = "<init>" := hin
  have hA := hR.hA
  refine zi_aload_n hG zd_Checker_init_0 rfl rfl ?_
  refine zi_obj hG tk_174 tk_27 tk_28 rfl ⟨by decide, (Nat.le_of_ble_eq_true rfl)⟩ zd_Checker_init_1 ?_
  refine zi_aload_n hG zd_Checker_init_4 rfl rfl ?_
  refine zi_iconst hG (v := (0 : Int32)) zd_Checker_init_5 (by decide) ?_
  refine zi_put hG zi5 zt5 zk5 zn5 0 rfl rfl 6 (by decide) rfl tk_181 rfl (ty := .int) (by decide +kernel) rfl rfl (Nat.le_of_ble_eq_true rfl) [(q, .inr (5, [.null, .null, .null, .null, .null, .null, .int (0 : Int32)])), (qg, .inr (1, [.int (nI W), .int (nI H), .int (nI A), .int (nI C), .ref ga, .ref gb, .ref gc]))] rfl zd_Checker_init_6 ?_
  refine zi_aload_n hG zd_Checker_init_9 rfl rfl ?_
  refine zi_aload_n hG zd_Checker_init_10 rfl rfl ?_
  refine zi_putF hG hin zi5 zt5 zk5 zn5 0 rfl rfl 0 (by decide) rfl tk_175 rfl (ty := .object "GridRouter$Grid") (by decide +kernel) rfl rfl (Nat.le_of_ble_eq_true rfl) [(q, .inr (5, [.ref qg, .null, .null, .null, .null, .null, .int (0 : Int32)])), (qg, .inr (1, [.int (nI W), .int (nI H), .int (nI A), .int (nI C), .ref ga, .ref gb, .ref gc]))] rfl zd_Checker_init_11 ?_
  refine zi_aload_n hG zd_Checker_init_14 rfl rfl ?_
  refine zi_aload_n hG zd_Checker_init_15 rfl rfl ?_
  refine zi_putF hG hin zi5 zt5 zk5 zn5 0 rfl rfl 1 (by decide) rfl tk_176 rfl (ty := .object "GridRouter$Nets") (by decide +kernel) rfl rfl (Nat.le_of_ble_eq_true rfl) [(q, .inr (5, [.ref qg, .ref qn, .null, .null, .null, .null, .int (0 : Int32)])), (qg, .inr (1, [.int (nI W), .int (nI H), .int (nI A), .int (nI C), .ref ga, .ref gb, .ref gc]))] rfl zd_Checker_init_16 ?_
  refine zi_aload_n hG zd_Checker_init_19 rfl rfl ?_
  refine zi_aload_n hG zd_Checker_init_20 rfl rfl ?_
  refine zi_putF hG hin zi5 zt5 zk5 zn5 0 rfl rfl 2 (by decide) rfl tk_177 rfl (ty := .object "GridRouter$Layout") (by decide +kernel) rfl rfl (Nat.le_of_ble_eq_true rfl) [(q, .inr (5, [.ref qg, .ref qn, .ref ql, .null, .null, .null, .int (0 : Int32)])), (qg, .inr (1, [.int (nI W), .int (nI H), .int (nI A), .int (nI C), .ref ga, .ref gb, .ref gc]))] rfl zd_Checker_init_21 ?_
  refine zi_aload_n hG zd_Checker_init_24 rfl rfl ?_
  refine zi_aload hG zd_Checker_init_25 rfl ?_
  refine zi_putF hG hin zi5 zt5 zk5 zn5 0 rfl rfl 3 (by decide) rfl tk_178 rfl (ty := .object "GridRouter$Rules") (by decide +kernel) rfl rfl (Nat.le_of_ble_eq_true rfl) [(q, .inr (5, [.ref qg, .ref qn, .ref ql, .ref qr, .null, .null, .int (0 : Int32)])), (qg, .inr (1, [.int (nI W), .int (nI H), .int (nI A), .int (nI C), .ref ga, .ref gb, .ref gc]))] rfl zd_Checker_init_27 ?_
  refine zi_aload_n hG zd_Checker_init_30 rfl rfl ?_
  refine zi_aload_n hG zd_Checker_init_31 rfl rfl ?_
  refine zi_get hG zi1 1 rfl rfl 3 (by decide) rfl tk_49 rfl zd_Checker_init_32 ?_
  refine zi_newa hG hA (ty := .int) rfl tk_75 (fun C h => by cases h) 0 rfl (N := C) (a0 := (C, .inl (fun _ => 0))) (fun cA => rfl) (nI_pos (by omega)) (nI_clamp (by omega)) (by show _ * _ ≤ _; simp only [componentBytes]; omega) ⟨by decide, by show _ ≤ 324; omega⟩ zd_Checker_init_35 (fun p1 => ?_)
  refine zi_widen (k' := 1) (n' := 162) (by omega) (by omega) ?_
  show zq_U x D [(tI, .int), (tZ, .boolean), (tL, .long)] [(q, .inr (5, [.ref qg, .ref qn, .ref ql, .ref qr, .null, .null, .int (0 : Int32)])), (qg, .inr (1, [.int (nI W), .int (nI H), .int (nI A), .int (nI C), .ref ga, .ref gb, .ref gc])), (p1, .inl (tI, C, .inl (fun _ => 0)))] 1 162 37 [some (.ref q), some (.ref qg), some (.ref qn), some (.ref ql), some (.ref qr)] [.ref p1, .ref q]
  refine zi_putF hG hin zi5 zt5 zk5 zn5 0 rfl rfl 4 (by decide) rfl tk_179 rfl (ty := .array .int) (by decide +kernel) rfl rfl (Nat.le_of_ble_eq_true rfl) [(q, .inr (5, [.ref qg, .ref qn, .ref ql, .ref qr, .ref p1, .null, .int (0 : Int32)])), (qg, .inr (1, [.int (nI W), .int (nI H), .int (nI A), .int (nI C), .ref ga, .ref gb, .ref gc])), (p1, .inl (tI, C, .inl (fun _ => 0)))] rfl zd_Checker_init_37 ?_
  refine zi_aload_n hG zd_Checker_init_40 rfl rfl ?_
  refine zi_aload_n hG zd_Checker_init_41 rfl rfl ?_
  refine zi_get hG zi1 1 rfl rfl 3 (by decide) rfl tk_49 rfl zd_Checker_init_42 ?_
  refine zi_newa hG hA (ty := .boolean) rfl tk_142 (fun C h => by cases h) 1 rfl (N := C) (a0 := (C, .inl (fun _ => 0))) (fun cA => rfl) (nI_pos (by omega)) (nI_clamp (by omega)) (by show _ * _ ≤ _; simp only [componentBytes]; omega) ⟨by decide, by show _ ≤ 324; omega⟩ zd_Checker_init_45 (fun p2 => ?_)
  refine zi_widen (k' := 2) (n' := 324) (by omega) (by omega) ?_
  show zq_U x D [(tI, .int), (tZ, .boolean), (tL, .long)] [(q, .inr (5, [.ref qg, .ref qn, .ref ql, .ref qr, .ref p1, .null, .int (0 : Int32)])), (qg, .inr (1, [.int (nI W), .int (nI H), .int (nI A), .int (nI C), .ref ga, .ref gb, .ref gc])), (p1, .inl (tI, C, .inl (fun _ => 0))), (p2, .inl (tZ, C, .inl (fun _ => 0)))] 2 324 47 [some (.ref q), some (.ref qg), some (.ref qn), some (.ref ql), some (.ref qr)] [.ref p2, .ref q]
  refine zi_putF hG hin zi5 zt5 zk5 zn5 0 rfl rfl 5 (by decide) rfl tk_180 rfl (ty := .array .boolean) (by decide +kernel) rfl rfl (Nat.le_of_ble_eq_true rfl) [(q, .inr (5, [.ref qg, .ref qn, .ref ql, .ref qr, .ref p1, .ref p2, .int (0 : Int32)])), (qg, .inr (1, [.int (nI W), .int (nI H), .int (nI A), .int (nI C), .ref ga, .ref gb, .ref gc])), (p1, .inl (tI, C, .inl (fun _ => 0))), (p2, .inl (tZ, C, .inl (fun _ => 0)))] rfl zd_Checker_init_47 ?_
  refine zi_widen (k' := 2) (n' := 324) (by decide) (by decide) ?_
  refine zi_perm [(q, .inr (5, [.ref qg, .ref qn, .ref ql, .ref qr, .ref p1, .ref p2, .int (0 : Int32)])), (qg, .inr (1, [.int (nI W), .int (nI H), .int (nI A), .int (nI C), .ref ga, .ref gb, .ref gc])), (p1, .inl (tI, C, .inl (fun _ => 0))), (p2, .inl (tZ, C, .inl (fun _ => 0)))] [0, 1, 2, 3] rfl (by decide) ?_
  exact zi_vret hG hR zd_Checker_init_50 ⟨_, _, rfl⟩
set_option maxHeartbeats 4000000 in
set_option maxRecDepth 100000 in
theorem zk_WayFinder_init (l : Launch) (D : va_G) (tI tZ tL : ClassId) (q qg qn qr : Nat) (vc : Int32) (W H A C ga gb gc : Nat) (hC : C ≤ 162) (hA8 : A ≤ 81) : zq_MI l D [(tI, .int), (tZ, .boolean), (tL, .long)] zy_WayFinder_init zc_WayFinder_init 5 (zq_rc 1 5 810 20) [.ref q, .ref qg, .ref qn, .ref qr, .int vc] [(q, .inr (8, [.null, .int 0, .null, .null, .null, .int 0, .null, .null, .null, .null, .int 0, .int 0])), (qg, .inr (1, [.int (nI W), .int (nI H), .int (nI A), .int (nI C), .ref ga, .ref gb, .ref gc]))] (fun ws => ∃ q1 q2 q3 q4 q5, ws = [(q, .inr (8, [.ref q1, .int 0, .ref qg, .ref qn, .ref qr, .int vc, .ref q2, .ref q3, .ref q4, .ref q5, .int 0, .int 0])), (qg, .inr (1, [.int (nI W), .int (nI H), .int (nI A), .int (nI C), .ref ga, .ref gb, .ref gc])), (q1, .inl (tI, C, .inl (fun _ => 0))), (q2, .inl (tI, C, .inl (fun _ => 0))), (q3, .inl (tI, C, .inl (fun _ => 0))), (q4, .inl (tI, C, .inl (fun _ => 0))), (q5, .inl (tZ, C, .inl (fun _ => 0)))]) 5 810 := by
  refine zq_mk_I (by decide) (by simp [Value.category]) (Nat.le_of_ble_eq_true rfl) (fun x hx hG hR hin => ?_)
  subst hx
  have hG : zq_H x D [(tI, .int), (tZ, .boolean), (tL, .long)] "GridRouter$WayFinder" zc_WayFinder_init 5 (zq_rc 1 5 810 20) := hG
  have hin : (zc_h x).name = "<init>" := hin
  have hA := hR.hA
  refine zi_aload_n hG zd_WayFinder_init_0 rfl rfl ?_
  refine zi_obj hG tk_221 tk_27 tk_28 rfl ⟨by decide, (Nat.le_of_ble_eq_true rfl)⟩ zd_WayFinder_init_1 ?_
  refine zi_aload_n hG zd_WayFinder_init_4 rfl rfl ?_
  refine zi_iconst hG (v := (0 : Int32)) zd_WayFinder_init_5 (by decide) ?_
  refine zi_put hG zi8 zt8 zk8 zn8 0 rfl rfl 1 (by decide) rfl tk_224 rfl (ty := .int) (by decide +kernel) rfl rfl (Nat.le_of_ble_eq_true rfl) [(q, .inr (8, [.null, .int (0 : Int32), .null, .null, .null, .int 0, .null, .null, .null, .null, .int 0, .int 0])), (qg, .inr (1, [.int (nI W), .int (nI H), .int (nI A), .int (nI C), .ref ga, .ref gb, .ref gc]))] rfl zd_WayFinder_init_6 ?_
  refine zi_aload_n hG zd_WayFinder_init_9 rfl rfl ?_
  refine zi_iconst hG (v := (0 : Int32)) zd_WayFinder_init_10 (by decide) ?_
  refine zi_put hG zi8 zt8 zk8 zn8 0 rfl rfl 10 (by decide) rfl tk_234 rfl (ty := .int) (by decide +kernel) rfl rfl (Nat.le_of_ble_eq_true rfl) [(q, .inr (8, [.null, .int (0 : Int32), .null, .null, .null, .int 0, .null, .null, .null, .null, .int (0 : Int32), .int 0])), (qg, .inr (1, [.int (nI W), .int (nI H), .int (nI A), .int (nI C), .ref ga, .ref gb, .ref gc]))] rfl zd_WayFinder_init_11 ?_
  refine zi_aload_n hG zd_WayFinder_init_14 rfl rfl ?_
  refine zi_iconst hG (v := (0 : Int32)) zd_WayFinder_init_15 (by decide) ?_
  refine zi_put hG zi8 zt8 zk8 zn8 0 rfl rfl 11 (by decide) rfl tk_235 rfl (ty := .int) (by decide +kernel) rfl rfl (Nat.le_of_ble_eq_true rfl) [(q, .inr (8, [.null, .int (0 : Int32), .null, .null, .null, .int 0, .null, .null, .null, .null, .int (0 : Int32), .int (0 : Int32)])), (qg, .inr (1, [.int (nI W), .int (nI H), .int (nI A), .int (nI C), .ref ga, .ref gb, .ref gc]))] rfl zd_WayFinder_init_16 ?_
  refine zi_aload_n hG zd_WayFinder_init_19 rfl rfl ?_
  refine zi_aload_n hG zd_WayFinder_init_20 rfl rfl ?_
  refine zi_putF hG hin zi8 zt8 zk8 zn8 0 rfl rfl 2 (by decide) rfl tk_226 rfl (ty := .object "GridRouter$Grid") (by decide +kernel) rfl rfl (Nat.le_of_ble_eq_true rfl) [(q, .inr (8, [.null, .int (0 : Int32), .ref qg, .null, .null, .int 0, .null, .null, .null, .null, .int (0 : Int32), .int (0 : Int32)])), (qg, .inr (1, [.int (nI W), .int (nI H), .int (nI A), .int (nI C), .ref ga, .ref gb, .ref gc]))] rfl zd_WayFinder_init_21 ?_
  refine zi_aload_n hG zd_WayFinder_init_24 rfl rfl ?_
  refine zi_aload_n hG zd_WayFinder_init_25 rfl rfl ?_
  refine zi_putF hG hin zi8 zt8 zk8 zn8 0 rfl rfl 3 (by decide) rfl tk_227 rfl (ty := .object "GridRouter$Nets") (by decide +kernel) rfl rfl (Nat.le_of_ble_eq_true rfl) [(q, .inr (8, [.null, .int (0 : Int32), .ref qg, .ref qn, .null, .int 0, .null, .null, .null, .null, .int (0 : Int32), .int (0 : Int32)])), (qg, .inr (1, [.int (nI W), .int (nI H), .int (nI A), .int (nI C), .ref ga, .ref gb, .ref gc]))] rfl zd_WayFinder_init_26 ?_
  refine zi_aload_n hG zd_WayFinder_init_29 rfl rfl ?_
  refine zi_aload_n hG zd_WayFinder_init_30 rfl rfl ?_
  refine zi_putF hG hin zi8 zt8 zk8 zn8 0 rfl rfl 4 (by decide) rfl tk_228 rfl (ty := .object "GridRouter$Rules") (by decide +kernel) rfl rfl (Nat.le_of_ble_eq_true rfl) [(q, .inr (8, [.null, .int (0 : Int32), .ref qg, .ref qn, .ref qr, .int 0, .null, .null, .null, .null, .int (0 : Int32), .int (0 : Int32)])), (qg, .inr (1, [.int (nI W), .int (nI H), .int (nI A), .int (nI C), .ref ga, .ref gb, .ref gc]))] rfl zd_WayFinder_init_31 ?_
  refine zi_aload_n hG zd_WayFinder_init_34 rfl rfl ?_
  refine zi_iload hG zd_WayFinder_init_35 rfl ?_
  refine zi_putF hG hin zi8 zt8 zk8 zn8 0 rfl rfl 5 (by decide) rfl tk_229 rfl (ty := .int) (by decide +kernel) rfl rfl (Nat.le_of_ble_eq_true rfl) [(q, .inr (8, [.null, .int (0 : Int32), .ref qg, .ref qn, .ref qr, .int vc, .null, .null, .null, .null, .int (0 : Int32), .int (0 : Int32)])), (qg, .inr (1, [.int (nI W), .int (nI H), .int (nI A), .int (nI C), .ref ga, .ref gb, .ref gc]))] rfl zd_WayFinder_init_37 ?_
  refine zi_aload_n hG zd_WayFinder_init_40 rfl rfl ?_
  refine zi_aload_n hG zd_WayFinder_init_41 rfl rfl ?_
  refine zi_get hG zi1 1 rfl rfl 3 (by decide) rfl tk_50 rfl zd_WayFinder_init_42 ?_
  refine zi_newa hG hA (ty := .int) rfl tk_75 (fun C h => by cases h) 0 rfl (N := C) (a0 := (C, .inl (fun _ => 0))) (fun cA => rfl) (nI_pos (by omega)) (nI_clamp (by omega)) (by show _ * _ ≤ _; simp only [componentBytes]; omega) ⟨by decide, by show _ ≤ 810; omega⟩ zd_WayFinder_init_45 (fun p1 => ?_)
  refine zi_widen (k' := 1) (n' := 162) (by omega) (by omega) ?_
  show zq_U x D [(tI, .int), (tZ, .boolean), (tL, .long)] [(q, .inr (8, [.null, .int (0 : Int32), .ref qg, .ref qn, .ref qr, .int vc, .null, .null, .null, .null, .int (0 : Int32), .int (0 : Int32)])), (qg, .inr (1, [.int (nI W), .int (nI H), .int (nI A), .int (nI C), .ref ga, .ref gb, .ref gc])), (p1, .inl (tI, C, .inl (fun _ => 0)))] 1 162 47 [some (.ref q), some (.ref qg), some (.ref qn), some (.ref qr), some (.int vc)] [.ref p1, .ref q]
  refine zi_putF hG hin zi8 zt8 zk8 zn8 0 rfl rfl 0 (by decide) rfl tk_222 rfl (ty := .array .int) (by decide +kernel) rfl rfl (Nat.le_of_ble_eq_true rfl) [(q, .inr (8, [.ref p1, .int (0 : Int32), .ref qg, .ref qn, .ref qr, .int vc, .null, .null, .null, .null, .int (0 : Int32), .int (0 : Int32)])), (qg, .inr (1, [.int (nI W), .int (nI H), .int (nI A), .int (nI C), .ref ga, .ref gb, .ref gc])), (p1, .inl (tI, C, .inl (fun _ => 0)))] rfl zd_WayFinder_init_47 ?_
  refine zi_aload_n hG zd_WayFinder_init_50 rfl rfl ?_
  refine zi_aload_n hG zd_WayFinder_init_51 rfl rfl ?_
  refine zi_get hG zi1 1 rfl rfl 3 (by decide) rfl tk_50 rfl zd_WayFinder_init_52 ?_
  refine zi_newa hG hA (ty := .int) rfl tk_75 (fun C h => by cases h) 0 rfl (N := C) (a0 := (C, .inl (fun _ => 0))) (fun cA => rfl) (nI_pos (by omega)) (nI_clamp (by omega)) (by show _ * _ ≤ _; simp only [componentBytes]; omega) ⟨by decide, by show _ ≤ 810; omega⟩ zd_WayFinder_init_55 (fun p2 => ?_)
  refine zi_widen (k' := 2) (n' := 324) (by omega) (by omega) ?_
  show zq_U x D [(tI, .int), (tZ, .boolean), (tL, .long)] [(q, .inr (8, [.ref p1, .int (0 : Int32), .ref qg, .ref qn, .ref qr, .int vc, .null, .null, .null, .null, .int (0 : Int32), .int (0 : Int32)])), (qg, .inr (1, [.int (nI W), .int (nI H), .int (nI A), .int (nI C), .ref ga, .ref gb, .ref gc])), (p1, .inl (tI, C, .inl (fun _ => 0))), (p2, .inl (tI, C, .inl (fun _ => 0)))] 2 324 57 [some (.ref q), some (.ref qg), some (.ref qn), some (.ref qr), some (.int vc)] [.ref p2, .ref q]
  refine zi_putF hG hin zi8 zt8 zk8 zn8 0 rfl rfl 6 (by decide) rfl tk_230 rfl (ty := .array .int) (by decide +kernel) rfl rfl (Nat.le_of_ble_eq_true rfl) [(q, .inr (8, [.ref p1, .int (0 : Int32), .ref qg, .ref qn, .ref qr, .int vc, .ref p2, .null, .null, .null, .int (0 : Int32), .int (0 : Int32)])), (qg, .inr (1, [.int (nI W), .int (nI H), .int (nI A), .int (nI C), .ref ga, .ref gb, .ref gc])), (p1, .inl (tI, C, .inl (fun _ => 0))), (p2, .inl (tI, C, .inl (fun _ => 0)))] rfl zd_WayFinder_init_57 ?_
  refine zi_aload_n hG zd_WayFinder_init_60 rfl rfl ?_
  refine zi_aload_n hG zd_WayFinder_init_61 rfl rfl ?_
  refine zi_get hG zi1 1 rfl rfl 3 (by decide) rfl tk_50 rfl zd_WayFinder_init_62 ?_
  refine zi_newa hG hA (ty := .int) rfl tk_75 (fun C h => by cases h) 0 rfl (N := C) (a0 := (C, .inl (fun _ => 0))) (fun cA => rfl) (nI_pos (by omega)) (nI_clamp (by omega)) (by show _ * _ ≤ _; simp only [componentBytes]; omega) ⟨by decide, by show _ ≤ 810; omega⟩ zd_WayFinder_init_65 (fun p3 => ?_)
  refine zi_widen (k' := 3) (n' := 486) (by omega) (by omega) ?_
  show zq_U x D [(tI, .int), (tZ, .boolean), (tL, .long)] [(q, .inr (8, [.ref p1, .int (0 : Int32), .ref qg, .ref qn, .ref qr, .int vc, .ref p2, .null, .null, .null, .int (0 : Int32), .int (0 : Int32)])), (qg, .inr (1, [.int (nI W), .int (nI H), .int (nI A), .int (nI C), .ref ga, .ref gb, .ref gc])), (p1, .inl (tI, C, .inl (fun _ => 0))), (p2, .inl (tI, C, .inl (fun _ => 0))), (p3, .inl (tI, C, .inl (fun _ => 0)))] 3 486 67 [some (.ref q), some (.ref qg), some (.ref qn), some (.ref qr), some (.int vc)] [.ref p3, .ref q]
  refine zi_putF hG hin zi8 zt8 zk8 zn8 0 rfl rfl 7 (by decide) rfl tk_231 rfl (ty := .array .int) (by decide +kernel) rfl rfl (Nat.le_of_ble_eq_true rfl) [(q, .inr (8, [.ref p1, .int (0 : Int32), .ref qg, .ref qn, .ref qr, .int vc, .ref p2, .ref p3, .null, .null, .int (0 : Int32), .int (0 : Int32)])), (qg, .inr (1, [.int (nI W), .int (nI H), .int (nI A), .int (nI C), .ref ga, .ref gb, .ref gc])), (p1, .inl (tI, C, .inl (fun _ => 0))), (p2, .inl (tI, C, .inl (fun _ => 0))), (p3, .inl (tI, C, .inl (fun _ => 0)))] rfl zd_WayFinder_init_67 ?_
  refine zi_aload_n hG zd_WayFinder_init_70 rfl rfl ?_
  refine zi_aload_n hG zd_WayFinder_init_71 rfl rfl ?_
  refine zi_get hG zi1 1 rfl rfl 3 (by decide) rfl tk_50 rfl zd_WayFinder_init_72 ?_
  refine zi_newa hG hA (ty := .int) rfl tk_75 (fun C h => by cases h) 0 rfl (N := C) (a0 := (C, .inl (fun _ => 0))) (fun cA => rfl) (nI_pos (by omega)) (nI_clamp (by omega)) (by show _ * _ ≤ _; simp only [componentBytes]; omega) ⟨by decide, by show _ ≤ 810; omega⟩ zd_WayFinder_init_75 (fun p4 => ?_)
  refine zi_widen (k' := 4) (n' := 648) (by omega) (by omega) ?_
  show zq_U x D [(tI, .int), (tZ, .boolean), (tL, .long)] [(q, .inr (8, [.ref p1, .int (0 : Int32), .ref qg, .ref qn, .ref qr, .int vc, .ref p2, .ref p3, .null, .null, .int (0 : Int32), .int (0 : Int32)])), (qg, .inr (1, [.int (nI W), .int (nI H), .int (nI A), .int (nI C), .ref ga, .ref gb, .ref gc])), (p1, .inl (tI, C, .inl (fun _ => 0))), (p2, .inl (tI, C, .inl (fun _ => 0))), (p3, .inl (tI, C, .inl (fun _ => 0))), (p4, .inl (tI, C, .inl (fun _ => 0)))] 4 648 77 [some (.ref q), some (.ref qg), some (.ref qn), some (.ref qr), some (.int vc)] [.ref p4, .ref q]
  refine zi_putF hG hin zi8 zt8 zk8 zn8 0 rfl rfl 8 (by decide) rfl tk_232 rfl (ty := .array .int) (by decide +kernel) rfl rfl (Nat.le_of_ble_eq_true rfl) [(q, .inr (8, [.ref p1, .int (0 : Int32), .ref qg, .ref qn, .ref qr, .int vc, .ref p2, .ref p3, .ref p4, .null, .int (0 : Int32), .int (0 : Int32)])), (qg, .inr (1, [.int (nI W), .int (nI H), .int (nI A), .int (nI C), .ref ga, .ref gb, .ref gc])), (p1, .inl (tI, C, .inl (fun _ => 0))), (p2, .inl (tI, C, .inl (fun _ => 0))), (p3, .inl (tI, C, .inl (fun _ => 0))), (p4, .inl (tI, C, .inl (fun _ => 0)))] rfl zd_WayFinder_init_77 ?_
  refine zi_aload_n hG zd_WayFinder_init_80 rfl rfl ?_
  refine zi_aload_n hG zd_WayFinder_init_81 rfl rfl ?_
  refine zi_get hG zi1 1 rfl rfl 3 (by decide) rfl tk_50 rfl zd_WayFinder_init_82 ?_
  refine zi_newa hG hA (ty := .boolean) rfl tk_142 (fun C h => by cases h) 1 rfl (N := C) (a0 := (C, .inl (fun _ => 0))) (fun cA => rfl) (nI_pos (by omega)) (nI_clamp (by omega)) (by show _ * _ ≤ _; simp only [componentBytes]; omega) ⟨by decide, by show _ ≤ 810; omega⟩ zd_WayFinder_init_85 (fun p5 => ?_)
  refine zi_widen (k' := 5) (n' := 810) (by omega) (by omega) ?_
  show zq_U x D [(tI, .int), (tZ, .boolean), (tL, .long)] [(q, .inr (8, [.ref p1, .int (0 : Int32), .ref qg, .ref qn, .ref qr, .int vc, .ref p2, .ref p3, .ref p4, .null, .int (0 : Int32), .int (0 : Int32)])), (qg, .inr (1, [.int (nI W), .int (nI H), .int (nI A), .int (nI C), .ref ga, .ref gb, .ref gc])), (p1, .inl (tI, C, .inl (fun _ => 0))), (p2, .inl (tI, C, .inl (fun _ => 0))), (p3, .inl (tI, C, .inl (fun _ => 0))), (p4, .inl (tI, C, .inl (fun _ => 0))), (p5, .inl (tZ, C, .inl (fun _ => 0)))] 5 810 87 [some (.ref q), some (.ref qg), some (.ref qn), some (.ref qr), some (.int vc)] [.ref p5, .ref q]
  refine zi_putF hG hin zi8 zt8 zk8 zn8 0 rfl rfl 9 (by decide) rfl tk_233 rfl (ty := .array .boolean) (by decide +kernel) rfl rfl (Nat.le_of_ble_eq_true rfl) [(q, .inr (8, [.ref p1, .int (0 : Int32), .ref qg, .ref qn, .ref qr, .int vc, .ref p2, .ref p3, .ref p4, .ref p5, .int (0 : Int32), .int (0 : Int32)])), (qg, .inr (1, [.int (nI W), .int (nI H), .int (nI A), .int (nI C), .ref ga, .ref gb, .ref gc])), (p1, .inl (tI, C, .inl (fun _ => 0))), (p2, .inl (tI, C, .inl (fun _ => 0))), (p3, .inl (tI, C, .inl (fun _ => 0))), (p4, .inl (tI, C, .inl (fun _ => 0))), (p5, .inl (tZ, C, .inl (fun _ => 0)))] rfl zd_WayFinder_init_87 ?_
  refine zi_widen (k' := 5) (n' := 810) (by decide) (by decide) ?_
  refine zi_perm [(q, .inr (8, [.ref p1, .int (0 : Int32), .ref qg, .ref qn, .ref qr, .int vc, .ref p2, .ref p3, .ref p4, .ref p5, .int (0 : Int32), .int (0 : Int32)])), (qg, .inr (1, [.int (nI W), .int (nI H), .int (nI A), .int (nI C), .ref ga, .ref gb, .ref gc])), (p1, .inl (tI, C, .inl (fun _ => 0))), (p2, .inl (tI, C, .inl (fun _ => 0))), (p3, .inl (tI, C, .inl (fun _ => 0))), (p4, .inl (tI, C, .inl (fun _ => 0))), (p5, .inl (tZ, C, .inl (fun _ => 0)))] [0, 1, 2, 3, 4, 5, 6] rfl (by decide) ?_
  exact zi_vret hG hR zd_WayFinder_init_90 ⟨_, _, _, _, _, rfl⟩
set_option maxHeartbeats 4000000 in
set_option maxRecDepth 100000 in
theorem zk_Router_init (l : Launch) (D : va_G) (tI tZ tL : ClassId) (q qg qn ql qr qc : Nat) (vc : Int32) (W H A C ga gb gc : Nat) (hC : C ≤ 162) (hA8 : A ≤ 81) : zq_MI l D [(tI, .int), (tZ, .boolean), (tL, .long)] zy_Router_init zc_Router_init 7 (zq_rc 2 9 836 50) [.ref q, .ref qg, .ref qn, .ref ql, .ref qr, .ref qc, .int vc] [(q, .inr (6, [.null, .null, .null, .null, .null, .null, .null, .null])), (qg, .inr (1, [.int (nI W), .int (nI H), .int (nI A), .int (nI C), .ref ga, .ref gb, .ref gc]))] (fun ws => ∃ qf qi m po q1 q2 q3 q4 q5, ws = [(q, .inr (6, [.ref qn, .ref ql, .ref qg, .ref qr, .ref qc, .ref qf, .ref qi, .ref po])), (qg, .inr (1, [.int (nI W), .int (nI H), .int (nI A), .int (nI C), .ref ga, .ref gb, .ref gc])), (qi, .inr (7, [.ref m, .int 0])), (m, .inl (tI, 6, .inl (fun _ => 0))), (po, .inl (tZ, 6, .inl (fun _ => 0))), (qf, .inr (8, [.ref q1, .int 0, .ref qg, .ref qn, .ref qr, .int vc, .ref q2, .ref q3, .ref q4, .ref q5, .int 0, .int 0])), (q1, .inl (tI, C, .inl (fun _ => 0))), (q2, .inl (tI, C, .inl (fun _ => 0))), (q3, .inl (tI, C, .inl (fun _ => 0))), (q4, .inl (tI, C, .inl (fun _ => 0))), (q5, .inl (tZ, C, .inl (fun _ => 0)))]) 9 836 := by
  refine zq_mk_I (by decide) (by simp [Value.category]) (Nat.le_of_ble_eq_true rfl) (fun x hx hG hR hin => ?_)
  subst hx
  have hG : zq_H x D [(tI, .int), (tZ, .boolean), (tL, .long)] "GridRouter$Router" zc_Router_init 7 (zq_rc 2 9 836 50) := hG
  have hin : (zc_h x).name = "<init>" := hin
  have hA := hR.hA
  refine zi_aload_n hG zd_Router_init_0 rfl rfl ?_
  refine zi_obj hG tk_202 tk_27 tk_28 rfl ⟨by decide, (Nat.le_of_ble_eq_true rfl)⟩ zd_Router_init_1 ?_
  refine zi_aload_n hG zd_Router_init_4 rfl rfl ?_
  refine zi_new (ci := 7) hG hA zi7 zt7 zk7 tk_203 tk_204 tk_9 rfl [.null, .int 0] (by decide +kernel) ⟨by decide, by decide⟩ zd_Router_init_5 (fun p1 => ?_)
  show zq_U x D [(tI, .int), (tZ, .boolean), (tL, .long)] [(q, .inr (6, [.null, .null, .null, .null, .null, .null, .null, .null])), (qg, .inr (1, [.int (nI W), .int (nI H), .int (nI A), .int (nI C), .ref ga, .ref gb, .ref gc])), (p1, .inr (7, [.null, .int 0]))] 1 2 8 [some (.ref q), some (.ref qg), some (.ref qn), some (.ref ql), some (.ref qr), some (.ref qc), some (.int vc)] [.ref p1, .ref q]
  refine zi_dup hG zd_Router_init_8 rfl ?_
  refine zi_callIN hG hR.2.2.2.2 hA (As := []) (rest := [.ref p1, .ref q]) (zk_Line_init (zc_l x) D tI tZ tL p1) [(q, .inr (6, [.null, .null, .null, .null, .null, .null, .null, .null])), (qg, .inr (1, [.int (nI W), .int (nI H), .int (nI A), .int (nI C), .ref ga, .ref gb, .ref gc]))] [2] [0, 1] rfl rfl (by decide) (by decide) (by decide) "GridRouter" hR.2.2.2.2 ⟨tk_206, tk_9, tk_207⟩ rfl zdd_Line_init ⟨rfl, rfl, by decide, by decide⟩ ⟨by decide, by decide⟩ rfl (Nat.le_of_ble_eq_true rfl) zd_Router_init_9 rfl (fun ws' hw => ?_)
  obtain ⟨l1, rfl⟩ := hw
  show zq_U x D [(tI, .int), (tZ, .boolean), (tL, .long)] [(q, .inr (6, [.null, .null, .null, .null, .null, .null, .null, .null])), (qg, .inr (1, [.int (nI W), .int (nI H), .int (nI A), .int (nI C), .ref ga, .ref gb, .ref gc])), (p1, .inr (7, [.ref l1, .int 0])), (l1, .inl (tI, 6, .inl (fun _ => 0)))] 2 8 12 [some (.ref q), some (.ref qg), some (.ref qn), some (.ref ql), some (.ref qr), some (.ref qc), some (.int vc)] [.ref p1, .ref q]
  refine zi_putF hG hin zi6 zt6 zk6 zn6 0 rfl rfl 6 (by decide) rfl tk_267 rfl (ty := .object "GridRouter$Line") (by decide +kernel) rfl rfl (Nat.le_of_ble_eq_true rfl) [(q, .inr (6, [.null, .null, .null, .null, .null, .null, .ref p1, .null])), (qg, .inr (1, [.int (nI W), .int (nI H), .int (nI A), .int (nI C), .ref ga, .ref gb, .ref gc])), (p1, .inr (7, [.ref l1, .int 0])), (l1, .inl (tI, 6, .inl (fun _ => 0)))] rfl zd_Router_init_12 ?_
  refine zi_aload_n hG zd_Router_init_15 rfl rfl ?_
  refine zi_bipush hG (v := (6 : Int32)) zd_Router_init_16 (by decide) ?_
  refine zi_newa hG hA (ty := .boolean) rfl tk_142 (fun C h => by cases h) 1 rfl (N := 6) (a0 := (6, .inl (fun _ => 0))) (fun cA => rfl) (by decide) (by decide) (by show _ * _ ≤ _; simp only [componentBytes]; omega) ⟨by decide, by decide⟩ zd_Router_init_18 (fun p3 => ?_)
  refine zi_widen (k' := 3) (n' := 14) (by omega) (by omega) ?_
  show zq_U x D [(tI, .int), (tZ, .boolean), (tL, .long)] [(q, .inr (6, [.null, .null, .null, .null, .null, .null, .ref p1, .null])), (qg, .inr (1, [.int (nI W), .int (nI H), .int (nI A), .int (nI C), .ref ga, .ref gb, .ref gc])), (p1, .inr (7, [.ref l1, .int 0])), (l1, .inl (tI, 6, .inl (fun _ => 0))), (p3, .inl (tZ, 6, .inl (fun _ => 0)))] 3 14 20 [some (.ref q), some (.ref qg), some (.ref qn), some (.ref ql), some (.ref qr), some (.ref qc), some (.int vc)] [.ref p3, .ref q]
  refine zi_putF hG hin zi6 zt6 zk6 zn6 0 rfl rfl 7 (by decide) rfl tk_268 rfl (ty := .array .boolean) (by decide +kernel) rfl rfl (Nat.le_of_ble_eq_true rfl) [(q, .inr (6, [.null, .null, .null, .null, .null, .null, .ref p1, .ref p3])), (qg, .inr (1, [.int (nI W), .int (nI H), .int (nI A), .int (nI C), .ref ga, .ref gb, .ref gc])), (p1, .inr (7, [.ref l1, .int 0])), (l1, .inl (tI, 6, .inl (fun _ => 0))), (p3, .inl (tZ, 6, .inl (fun _ => 0)))] rfl zd_Router_init_20 ?_
  refine zi_aload_n hG zd_Router_init_23 rfl rfl ?_
  refine zi_aload_n hG zd_Router_init_24 rfl rfl ?_
  refine zi_putF hG hin zi6 zt6 zk6 zn6 0 rfl rfl 2 (by decide) rfl tk_263 rfl (ty := .object "GridRouter$Grid") (by decide +kernel) rfl rfl (Nat.le_of_ble_eq_true rfl) [(q, .inr (6, [.null, .null, .ref qg, .null, .null, .null, .ref p1, .ref p3])), (qg, .inr (1, [.int (nI W), .int (nI H), .int (nI A), .int (nI C), .ref ga, .ref gb, .ref gc])), (p1, .inr (7, [.ref l1, .int 0])), (l1, .inl (tI, 6, .inl (fun _ => 0))), (p3, .inl (tZ, 6, .inl (fun _ => 0)))] rfl zd_Router_init_25 ?_
  refine zi_aload_n hG zd_Router_init_28 rfl rfl ?_
  refine zi_aload_n hG zd_Router_init_29 rfl rfl ?_
  refine zi_putF hG hin zi6 zt6 zk6 zn6 0 rfl rfl 0 (by decide) rfl tk_261 rfl (ty := .object "GridRouter$Nets") (by decide +kernel) rfl rfl (Nat.le_of_ble_eq_true rfl) [(q, .inr (6, [.ref qn, .null, .ref qg, .null, .null, .null, .ref p1, .ref p3])), (qg, .inr (1, [.int (nI W), .int (nI H), .int (nI A), .int (nI C), .ref ga, .ref gb, .ref gc])), (p1, .inr (7, [.ref l1, .int 0])), (l1, .inl (tI, 6, .inl (fun _ => 0))), (p3, .inl (tZ, 6, .inl (fun _ => 0)))] rfl zd_Router_init_30 ?_
  refine zi_aload_n hG zd_Router_init_33 rfl rfl ?_
  refine zi_aload_n hG zd_Router_init_34 rfl rfl ?_
  refine zi_putF hG hin zi6 zt6 zk6 zn6 0 rfl rfl 1 (by decide) rfl tk_262 rfl (ty := .object "GridRouter$Layout") (by decide +kernel) rfl rfl (Nat.le_of_ble_eq_true rfl) [(q, .inr (6, [.ref qn, .ref ql, .ref qg, .null, .null, .null, .ref p1, .ref p3])), (qg, .inr (1, [.int (nI W), .int (nI H), .int (nI A), .int (nI C), .ref ga, .ref gb, .ref gc])), (p1, .inr (7, [.ref l1, .int 0])), (l1, .inl (tI, 6, .inl (fun _ => 0))), (p3, .inl (tZ, 6, .inl (fun _ => 0)))] rfl zd_Router_init_35 ?_
  refine zi_aload_n hG zd_Router_init_38 rfl rfl ?_
  refine zi_aload hG zd_Router_init_39 rfl ?_
  refine zi_putF hG hin zi6 zt6 zk6 zn6 0 rfl rfl 3 (by decide) rfl tk_264 rfl (ty := .object "GridRouter$Rules") (by decide +kernel) rfl rfl (Nat.le_of_ble_eq_true rfl) [(q, .inr (6, [.ref qn, .ref ql, .ref qg, .ref qr, .null, .null, .ref p1, .ref p3])), (qg, .inr (1, [.int (nI W), .int (nI H), .int (nI A), .int (nI C), .ref ga, .ref gb, .ref gc])), (p1, .inr (7, [.ref l1, .int 0])), (l1, .inl (tI, 6, .inl (fun _ => 0))), (p3, .inl (tZ, 6, .inl (fun _ => 0)))] rfl zd_Router_init_41 ?_
  refine zi_aload_n hG zd_Router_init_44 rfl rfl ?_
  refine zi_aload hG zd_Router_init_45 rfl ?_
  refine zi_putF hG hin zi6 zt6 zk6 zn6 0 rfl rfl 4 (by decide) rfl tk_265 rfl (ty := .object "GridRouter$Checker") (by decide +kernel) rfl rfl (Nat.le_of_ble_eq_true rfl) [(q, .inr (6, [.ref qn, .ref ql, .ref qg, .ref qr, .ref qc, .null, .ref p1, .ref p3])), (qg, .inr (1, [.int (nI W), .int (nI H), .int (nI A), .int (nI C), .ref ga, .ref gb, .ref gc])), (p1, .inr (7, [.ref l1, .int 0])), (l1, .inl (tI, 6, .inl (fun _ => 0))), (p3, .inl (tZ, 6, .inl (fun _ => 0)))] rfl zd_Router_init_47 ?_
  refine zi_aload_n hG zd_Router_init_50 rfl rfl ?_
  refine zi_new (ci := 8) hG hA zi8 zt8 zk8 tk_216 tk_217 tk_10 rfl [.null, .int 0, .null, .null, .null, .int 0, .null, .null, .null, .null, .int 0, .int 0] (by decide +kernel) ⟨by decide, by decide⟩ zd_Router_init_51 (fun p4 => ?_)
  show zq_U x D [(tI, .int), (tZ, .boolean), (tL, .long)] [(q, .inr (6, [.ref qn, .ref ql, .ref qg, .ref qr, .ref qc, .null, .ref p1, .ref p3])), (qg, .inr (1, [.int (nI W), .int (nI H), .int (nI A), .int (nI C), .ref ga, .ref gb, .ref gc])), (p1, .inr (7, [.ref l1, .int 0])), (l1, .inl (tI, 6, .inl (fun _ => 0))), (p3, .inl (tZ, 6, .inl (fun _ => 0))), (p4, .inr (8, [.null, .int 0, .null, .null, .null, .int 0, .null, .null, .null, .null, .int 0, .int 0]))] 4 26 54 [some (.ref q), some (.ref qg), some (.ref qn), some (.ref ql), some (.ref qr), some (.ref qc), some (.int vc)] [.ref p4, .ref q]
  refine zi_dup hG zd_Router_init_54 rfl ?_
  refine zi_aload_n hG zd_Router_init_55 rfl rfl ?_
  refine zi_aload_n hG zd_Router_init_56 rfl rfl ?_
  refine zi_aload hG zd_Router_init_57 rfl ?_
  refine zi_iload hG zd_Router_init_59 rfl ?_
  refine zi_callI hG hR.2.2.2.2 hA (As := [.ref qg, .ref qn, .ref qr, .int vc]) (rest := [.ref p4, .ref q]) (zk_WayFinder_init (zc_l x) D tI tZ tL p4 qg qn qr vc W H A C ga gb gc hC hA8) [(q, .inr (6, [.ref qn, .ref ql, .ref qg, .ref qr, .ref qc, .null, .ref p1, .ref p3])), (p1, .inr (7, [.ref l1, .int 0])), (l1, .inl (tI, 6, .inl (fun _ => 0))), (p3, .inl (tZ, 6, .inl (fun _ => 0)))] [5, 1] [0, 2, 3, 4] rfl rfl (by decide) (by decide) (by decide) ⟨tk_218, tk_219, tk_10, tk_220⟩ rfl zdd_WayFinder_init ⟨rfl, rfl, by decide, by decide⟩ ⟨by decide, by decide⟩ rfl (Nat.le_of_ble_eq_true rfl) zd_Router_init_61 rfl (fun ws' hw => ?_)
  obtain ⟨w14, w24, w34, w44, w54, rfl⟩ := hw
  show zq_U x D [(tI, .int), (tZ, .boolean), (tL, .long)] [(q, .inr (6, [.ref qn, .ref ql, .ref qg, .ref qr, .ref qc, .null, .ref p1, .ref p3])), (p1, .inr (7, [.ref l1, .int 0])), (l1, .inl (tI, 6, .inl (fun _ => 0))), (p3, .inl (tZ, 6, .inl (fun _ => 0))), (p4, .inr (8, [.ref w14, .int 0, .ref qg, .ref qn, .ref qr, .int vc, .ref w24, .ref w34, .ref w44, .ref w54, .int 0, .int 0])), (qg, .inr (1, [.int (nI W), .int (nI H), .int (nI A), .int (nI C), .ref ga, .ref gb, .ref gc])), (w14, .inl (tI, C, .inl (fun _ => 0))), (w24, .inl (tI, C, .inl (fun _ => 0))), (w34, .inl (tI, C, .inl (fun _ => 0))), (w44, .inl (tI, C, .inl (fun _ => 0))), (w54, .inl (tZ, C, .inl (fun _ => 0)))] 9 836 64 [some (.ref q), some (.ref qg), some (.ref qn), some (.ref ql), some (.ref qr), some (.ref qc), some (.int vc)] [.ref p4, .ref q]
  refine zi_putF hG hin zi6 zt6 zk6 zn6 0 rfl rfl 5 (by decide) rfl tk_266 rfl (ty := .object "GridRouter$WayFinder") (by decide +kernel) rfl rfl (Nat.le_of_ble_eq_true rfl) [(q, .inr (6, [.ref qn, .ref ql, .ref qg, .ref qr, .ref qc, .ref p4, .ref p1, .ref p3])), (p1, .inr (7, [.ref l1, .int 0])), (l1, .inl (tI, 6, .inl (fun _ => 0))), (p3, .inl (tZ, 6, .inl (fun _ => 0))), (p4, .inr (8, [.ref w14, .int 0, .ref qg, .ref qn, .ref qr, .int vc, .ref w24, .ref w34, .ref w44, .ref w54, .int 0, .int 0])), (qg, .inr (1, [.int (nI W), .int (nI H), .int (nI A), .int (nI C), .ref ga, .ref gb, .ref gc])), (w14, .inl (tI, C, .inl (fun _ => 0))), (w24, .inl (tI, C, .inl (fun _ => 0))), (w34, .inl (tI, C, .inl (fun _ => 0))), (w44, .inl (tI, C, .inl (fun _ => 0))), (w54, .inl (tZ, C, .inl (fun _ => 0)))] rfl zd_Router_init_64 ?_
  refine zi_widen (k' := 9) (n' := 836) (by decide) (by decide) ?_
  refine zi_perm [(q, .inr (6, [.ref qn, .ref ql, .ref qg, .ref qr, .ref qc, .ref p4, .ref p1, .ref p3])), (qg, .inr (1, [.int (nI W), .int (nI H), .int (nI A), .int (nI C), .ref ga, .ref gb, .ref gc])), (p1, .inr (7, [.ref l1, .int 0])), (l1, .inl (tI, 6, .inl (fun _ => 0))), (p3, .inl (tZ, 6, .inl (fun _ => 0))), (p4, .inr (8, [.ref w14, .int 0, .ref qg, .ref qn, .ref qr, .int vc, .ref w24, .ref w34, .ref w44, .ref w54, .int 0, .int 0])), (w14, .inl (tI, C, .inl (fun _ => 0))), (w24, .inl (tI, C, .inl (fun _ => 0))), (w34, .inl (tI, C, .inl (fun _ => 0))), (w44, .inl (tI, C, .inl (fun _ => 0))), (w54, .inl (tZ, C, .inl (fun _ => 0)))] [0, 5, 1, 2, 3, 4, 6, 7, 8, 9, 10] rfl (by decide) ?_
  exact zi_vret hG hR zd_Router_init_67 ⟨_, _, _, _, _, _, _, _, _, rfl⟩
set_option maxHeartbeats 4000000 in
set_option maxRecDepth 100000 in
theorem zk_Shapes_init (l : Launch) (D : va_G) (tI tZ tL : ClassId) (q qg ql : Nat) : zq_MI l D [(tI, .int), (tZ, .boolean), (tL, .long)] zy_Shapes_init zc_Shapes_init 3 (zq_rc 1 0 0 20) [.ref q, .ref qg, .ref ql] [(q, .inr (9, [.null, .null]))] (fun ws => ws = [(q, .inr (9, [.ref qg, .ref ql]))]) 0 0 := by
  refine zq_mk_I (by decide) (by simp [Value.category]) (Nat.le_of_ble_eq_true rfl) (fun x hx hG hR hin => ?_)
  subst hx
  have hG : zq_H x D [(tI, .int), (tZ, .boolean), (tL, .long)] "GridRouter$Shapes" zc_Shapes_init 3 (zq_rc 1 0 0 20) := hG
  have hin : (zc_h x).name = "<init>" := hin
  have hA := hR.hA
  refine zi_aload_n hG zd_Shapes_init_0 rfl rfl ?_
  refine zi_obj hG tk_291 tk_27 tk_28 rfl ⟨by decide, (Nat.le_of_ble_eq_true rfl)⟩ zd_Shapes_init_1 ?_
  refine zi_aload_n hG zd_Shapes_init_4 rfl rfl ?_
  refine zi_aload_n hG zd_Shapes_init_5 rfl rfl ?_
  refine zi_putF hG hin zi9 zt9 zk9 zn9 0 rfl rfl 0 (by decide) rfl tk_292 rfl (ty := .object "GridRouter$Grid") (by decide +kernel) rfl rfl (Nat.le_of_ble_eq_true rfl) [(q, .inr (9, [.ref qg, .null]))] rfl zd_Shapes_init_6 ?_
  refine zi_aload_n hG zd_Shapes_init_9 rfl rfl ?_
  refine zi_aload_n hG zd_Shapes_init_10 rfl rfl ?_
  refine zi_putF hG hin zi9 zt9 zk9 zn9 0 rfl rfl 1 (by decide) rfl tk_293 rfl (ty := .object "GridRouter$Layout") (by decide +kernel) rfl rfl (Nat.le_of_ble_eq_true rfl) [(q, .inr (9, [.ref qg, .ref ql]))] rfl zd_Shapes_init_11 ?_
  refine zi_widen (k' := 0) (n' := 0) (by decide) (by decide) ?_
  refine zi_perm [(q, .inr (9, [.ref qg, .ref ql]))] [0] rfl (by decide) ?_
  exact zi_vret hG hR zd_Shapes_init_14 rfl
