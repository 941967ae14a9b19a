section ZF
variable {x : zC} {w : zW} {own : String} {cc : ByteArray} {nL : Nat} {rm : Room} {k n : Nat} {g z : zS} {o : Nat → Int64} {pc index : Nat} {V : List (Option Value)} {st : List Value} {i v : Int32}
theorem zf_Gr_grid {σ : zG} (hG : zq_G x w own cc nL rm) (ht : Cond.fieldLink own index "GridRouter" "grid" "LGridRouter$Grid;" ∈ zq_T) (hd : decode cc pc = .ok (.getfield index, 3)) (kk : zq_W x w k n σ (pc + 3) V (.ref (w.2.1 1) :: st)) : zq_W x w k n σ pc V (.ref (w.2.1 0) :: st) :=
  zr_get hG zi0 0 rfl rfl 0 (by decide) rfl ht rfl hd kk
theorem zf_Gr_nets {σ : zG} (hG : zq_G x w own cc nL rm) (ht : Cond.fieldLink own index "GridRouter" "nets" "LGridRouter$Nets;" ∈ zq_T) (hd : decode cc pc = .ok (.getfield index, 3)) (kk : zq_W x w k n σ (pc + 3) V (.ref (w.2.1 5) :: st)) : zq_W x w k n σ pc V (.ref (w.2.1 0) :: st) :=
  zr_get hG zi0 0 rfl rfl 1 (by decide) rfl ht rfl hd kk
theorem zf_Gr_layout {σ : zG} (hG : zq_G x w own cc nL rm) (ht : Cond.fieldLink own index "GridRouter" "layout" "LGridRouter$Layout;" ∈ zq_T) (hd : decode cc pc = .ok (.getfield index, 3)) (kk : zq_W x w k n σ (pc + 3) V (.ref (w.2.1 9) :: st)) : zq_W x w k n σ pc V (.ref (w.2.1 0) :: st) :=
  zr_get hG zi0 0 rfl rfl 2 (by decide) rfl ht rfl hd kk
theorem zf_Gr_rules {σ : zG} (hG : zq_G x w own cc nL rm) (ht : Cond.fieldLink own index "GridRouter" "rules" "LGridRouter$Rules;" ∈ zq_T) (hd : decode cc pc = .ok (.getfield index, 3)) (kk : zq_W x w k n σ (pc + 3) V (.ref (w.2.1 12) :: st)) : zq_W x w k n σ pc V (.ref (w.2.1 0) :: st) :=
  zr_get hG zi0 0 rfl rfl 3 (by decide) rfl ht rfl hd kk
theorem zf_Gr_router {σ : zG} (hG : zq_G x w own cc nL rm) (ht : Cond.fieldLink own index "GridRouter" "router" "LGridRouter$Router;" ∈ zq_T) (hd : decode cc pc = .ok (.getfield index, 3)) (kk : zq_W x w k n σ (pc + 3) V (.ref (w.2.1 17) :: st)) : zq_W x w k n σ pc V (.ref (w.2.1 0) :: st) :=
  zr_get hG zi0 0 rfl rfl 4 (by decide) rfl ht rfl hd kk
theorem zf_Gr_checker {σ : zG} (hG : zq_G x w own cc nL rm) (ht : Cond.fieldLink own index "GridRouter" "checker" "LGridRouter$Checker;" ∈ zq_T) (hd : decode cc pc = .ok (.getfield index, 3)) (kk : zq_W x w k n σ (pc + 3) V (.ref (w.2.1 14) :: st)) : zq_W x w k n σ pc V (.ref (w.2.1 0) :: st) :=
  zr_get hG zi0 0 rfl rfl 5 (by decide) rfl ht rfl hd kk
theorem zf_Gr_rows {σ : zG} (hG : zq_G x w own cc nL rm) (ht : Cond.fieldLink own index "GridRouter" "rows" "LGridRouter$Shapes;" ∈ zq_T) (hd : decode cc pc = .ok (.getfield index, 3)) (kk : zq_W x w k n σ (pc + 3) V (.ref (w.2.1 27) :: st)) : zq_W x w k n σ pc V (.ref (w.2.1 0) :: st) :=
  zr_get hG zi0 0 rfl rfl 6 (by decide) rfl ht rfl hd kk
theorem zf_Grid_width (hG : zq_G x w own cc nL rm) (ht : Cond.fieldLink own index "GridRouter$Grid" "width" "I" ∈ zq_T) (hd : decode cc pc = .ok (.getfield index, 3)) (kk : zq_W x w k n (z, g, o) (pc + 3) V (.int (z.1 0) :: st)) : zq_W x w k n (z, g, o) pc V (.ref (w.2.1 1) :: st) :=
  zr_get hG zi1 1 rfl rfl 0 (by decide) rfl ht rfl hd kk
theorem zf_Grid_height (hG : zq_G x w own cc nL rm) (ht : Cond.fieldLink own index "GridRouter$Grid" "height" "I" ∈ zq_T) (hd : decode cc pc = .ok (.getfield index, 3)) (kk : zq_W x w k n (z, g, o) (pc + 3) V (.int (z.1 1) :: st)) : zq_W x w k n (z, g, o) pc V (.ref (w.2.1 1) :: st) :=
  zr_get hG zi1 1 rfl rfl 1 (by decide) rfl ht rfl hd kk
theorem zf_Grid_area (hG : zq_G x w own cc nL rm) (ht : Cond.fieldLink own index "GridRouter$Grid" "area" "I" ∈ zq_T) (hd : decode cc pc = .ok (.getfield index, 3)) (kk : zq_W x w k n (z, g, o) (pc + 3) V (.int (z.1 2) :: st)) : zq_W x w k n (z, g, o) pc V (.ref (w.2.1 1) :: st) :=
  zr_get hG zi1 1 rfl rfl 2 (by decide) rfl ht rfl hd kk
theorem zf_Grid_cells (hG : zq_G x w own cc nL rm) (ht : Cond.fieldLink own index "GridRouter$Grid" "cells" "I" ∈ zq_T) (hd : decode cc pc = .ok (.getfield index, 3)) (kk : zq_W x w k n (z, g, o) (pc + 3) V (.int (z.1 3) :: st)) : zq_W x w k n (z, g, o) pc V (.ref (w.2.1 1) :: st) :=
  zr_get hG zi1 1 rfl rfl 3 (by decide) rfl ht rfl hd kk
theorem zf_Grid_xOf {σ : zG} (hG : zq_G x w own cc nL rm) (ht : Cond.fieldLink own index "GridRouter$Grid" "xOf" "[I" ∈ zq_T) (hd : decode cc pc = .ok (.getfield index, 3)) (kk : zq_W x w k n σ (pc + 3) V (.ref (w.2.1 2) :: st)) : zq_W x w k n σ pc V (.ref (w.2.1 1) :: st) :=
  zr_get hG zi1 1 rfl rfl 4 (by decide) rfl ht rfl hd kk
theorem zf_Grid_yOf {σ : zG} (hG : zq_G x w own cc nL rm) (ht : Cond.fieldLink own index "GridRouter$Grid" "yOf" "[I" ∈ zq_T) (hd : decode cc pc = .ok (.getfield index, 3)) (kk : zq_W x w k n σ (pc + 3) V (.ref (w.2.1 3) :: st)) : zq_W x w k n σ pc V (.ref (w.2.1 1) :: st) :=
  zr_get hG zi1 1 rfl rfl 5 (by decide) rfl ht rfl hd kk
theorem zf_Grid_beside {σ : zG} (hG : zq_G x w own cc nL rm) (ht : Cond.fieldLink own index "GridRouter$Grid" "beside" "[I" ∈ zq_T) (hd : decode cc pc = .ok (.getfield index, 3)) (kk : zq_W x w k n σ (pc + 3) V (.ref (w.2.1 4) :: st)) : zq_W x w k n σ pc V (.ref (w.2.1 1) :: st) :=
  zr_get hG zi1 1 rfl rfl 6 (by decide) rfl ht rfl hd kk
theorem zf_Nets_first {σ : zG} (hG : zq_G x w own cc nL rm) (ht : Cond.fieldLink own index "GridRouter$Nets" "first" "[I" ∈ zq_T) (hd : decode cc pc = .ok (.getfield index, 3)) (kk : zq_W x w k n σ (pc + 3) V (.ref (w.2.1 6) :: st)) : zq_W x w k n σ pc V (.ref (w.2.1 5) :: st) :=
  zr_get hG zi2 5 rfl rfl 0 (by decide) rfl ht rfl hd kk
theorem zf_Nets_second {σ : zG} (hG : zq_G x w own cc nL rm) (ht : Cond.fieldLink own index "GridRouter$Nets" "second" "[I" ∈ zq_T) (hd : decode cc pc = .ok (.getfield index, 3)) (kk : zq_W x w k n σ (pc + 3) V (.ref (w.2.1 7) :: st)) : zq_W x w k n σ pc V (.ref (w.2.1 5) :: st) :=
  zr_get hG zi2 5 rfl rfl 1 (by decide) rfl ht rfl hd kk
theorem zf_Nets_pinOwner {σ : zG} (hG : zq_G x w own cc nL rm) (ht : Cond.fieldLink own index "GridRouter$Nets" "pinOwner" "[I" ∈ zq_T) (hd : decode cc pc = .ok (.getfield index, 3)) (kk : zq_W x w k n σ (pc + 3) V (.ref (w.2.1 8) :: st)) : zq_W x w k n σ pc V (.ref (w.2.1 5) :: st) :=
  zr_get hG zi2 5 rfl rfl 2 (by decide) rfl ht rfl hd kk
theorem zf_Nets_count (hG : zq_G x w own cc nL rm) (ht : Cond.fieldLink own index "GridRouter$Nets" "count" "I" ∈ zq_T) (hd : decode cc pc = .ok (.getfield index, 3)) (kk : zq_W x w k n (z, g, o) (pc + 3) V (.int (z.1 4) :: st)) : zq_W x w k n (z, g, o) pc V (.ref (w.2.1 5) :: st) :=
  zr_get hG zi2 5 rfl rfl 3 (by decide) rfl ht rfl hd kk
theorem zp_Nets_count (hG : zq_G x w own cc nL rm) (hW : zq_Wr x w) (ht : Cond.fieldLink own index "GridRouter$Nets" "count" "I" ∈ zq_T) (hd : decode cc pc = .ok (.putfield index, 3)) (kk : zq_W x w k n (zs_s z 4 v, g, o) (pc + 3) V st) : zq_W x w k n (z, g, o) pc V (.int v :: .ref (w.2.1 5) :: st) :=
  zr_put hG (hW _) zi2 zt2 zk2 zn2 5 rfl rfl 3 (by decide) rfl ht rfl (ty := .int) (by decide +kernel) rfl rfl (Nat.le_of_ble_eq_true rfl) (zq_w w (zs_s z 4 v, g, o)) rfl hd kk
theorem zf_Nets_grid {σ : zG} (hG : zq_G x w own cc nL rm) (ht : Cond.fieldLink own index "GridRouter$Nets" "grid" "LGridRouter$Grid;" ∈ zq_T) (hd : decode cc pc = .ok (.getfield index, 3)) (kk : zq_W x w k n σ (pc + 3) V (.ref (w.2.1 1) :: st)) : zq_W x w k n σ pc V (.ref (w.2.1 5) :: st) :=
  zr_get hG zi2 5 rfl rfl 4 (by decide) rfl ht rfl hd kk
theorem zf_Layout_owner {σ : zG} (hG : zq_G x w own cc nL rm) (ht : Cond.fieldLink own index "GridRouter$Layout" "owner" "[I" ∈ zq_T) (hd : decode cc pc = .ok (.getfield index, 3)) (kk : zq_W x w k n σ (pc + 3) V (.ref (w.2.1 10) :: st)) : zq_W x w k n σ pc V (.ref (w.2.1 9) :: st) :=
  zr_get hG zi3 9 rfl rfl 0 (by decide) rfl ht rfl hd kk
theorem zf_Layout_vias {σ : zG} (hG : zq_G x w own cc nL rm) (ht : Cond.fieldLink own index "GridRouter$Layout" "vias" "[Z" ∈ zq_T) (hd : decode cc pc = .ok (.getfield index, 3)) (kk : zq_W x w k n σ (pc + 3) V (.ref (w.2.1 11) :: st)) : zq_W x w k n σ pc V (.ref (w.2.1 9) :: st) :=
  zr_get hG zi3 9 rfl rfl 1 (by decide) rfl ht rfl hd kk
theorem zf_Layout_grid {σ : zG} (hG : zq_G x w own cc nL rm) (ht : Cond.fieldLink own index "GridRouter$Layout" "grid" "LGridRouter$Grid;" ∈ zq_T) (hd : decode cc pc = .ok (.getfield index, 3)) (kk : zq_W x w k n σ (pc + 3) V (.ref (w.2.1 1) :: st)) : zq_W x w k n σ pc V (.ref (w.2.1 9) :: st) :=
  zr_get hG zi3 9 rfl rfl 2 (by decide) rfl ht rfl hd kk
theorem zf_Layout_nets {σ : zG} (hG : zq_G x w own cc nL rm) (ht : Cond.fieldLink own index "GridRouter$Layout" "nets" "LGridRouter$Nets;" ∈ zq_T) (hd : decode cc pc = .ok (.getfield index, 3)) (kk : zq_W x w k n σ (pc + 3) V (.ref (w.2.1 5) :: st)) : zq_W x w k n σ pc V (.ref (w.2.1 9) :: st) :=
  zr_get hG zi3 9 rfl rfl 3 (by decide) rfl ht rfl hd kk
theorem zf_Rules_blocked {σ : zG} (hG : zq_G x w own cc nL rm) (ht : Cond.fieldLink own index "GridRouter$Rules" "blocked" "[Z" ∈ zq_T) (hd : decode cc pc = .ok (.getfield index, 3)) (kk : zq_W x w k n σ (pc + 3) V (.ref (w.2.1 13) :: st)) : zq_W x w k n σ pc V (.ref (w.2.1 12) :: st) :=
  zr_get hG zi4 12 rfl rfl 0 (by decide) rfl ht rfl hd kk
theorem zf_Rules_spaced (hG : zq_G x w own cc nL rm) (ht : Cond.fieldLink own index "GridRouter$Rules" "spaced" "Z" ∈ zq_T) (hd : decode cc pc = .ok (.getfield index, 3)) (kk : zq_W x w k n (z, g, o) (pc + 3) V (.int (z.1 5) :: st)) : zq_W x w k n (z, g, o) pc V (.ref (w.2.1 12) :: st) :=
  zr_get hG zi4 12 rfl rfl 1 (by decide) rfl ht rfl hd kk
theorem zf_Rules_grid {σ : zG} (hG : zq_G x w own cc nL rm) (ht : Cond.fieldLink own index "GridRouter$Rules" "grid" "LGridRouter$Grid;" ∈ zq_T) (hd : decode cc pc = .ok (.getfield index, 3)) (kk : zq_W x w k n σ (pc + 3) V (.ref (w.2.1 1) :: st)) : zq_W x w k n σ pc V (.ref (w.2.1 12) :: st) :=
  zr_get hG zi4 12 rfl rfl 2 (by decide) rfl ht rfl hd kk
theorem zf_Rules_nets {σ : zG} (hG : zq_G x w own cc nL rm) (ht : Cond.fieldLink own index "GridRouter$Rules" "nets" "LGridRouter$Nets;" ∈ zq_T) (hd : decode cc pc = .ok (.getfield index, 3)) (kk : zq_W x w k n σ (pc + 3) V (.ref (w.2.1 5) :: st)) : zq_W x w k n σ pc V (.ref (w.2.1 12) :: st) :=
  zr_get hG zi4 12 rfl rfl 3 (by decide) rfl ht rfl hd kk
theorem zf_Rules_layout {σ : zG} (hG : zq_G x w own cc nL rm) (ht : Cond.fieldLink own index "GridRouter$Rules" "layout" "LGridRouter$Layout;" ∈ zq_T) (hd : decode cc pc = .ok (.getfield index, 3)) (kk : zq_W x w k n σ (pc + 3) V (.ref (w.2.1 9) :: st)) : zq_W x w k n σ pc V (.ref (w.2.1 12) :: st) :=
  zr_get hG zi4 12 rfl rfl 4 (by decide) rfl ht rfl hd kk
theorem zf_Checker_grid {σ : zG} (hG : zq_G x w own cc nL rm) (ht : Cond.fieldLink own index "GridRouter$Checker" "grid" "LGridRouter$Grid;" ∈ zq_T) (hd : decode cc pc = .ok (.getfield index, 3)) (kk : zq_W x w k n σ (pc + 3) V (.ref (w.2.1 1) :: st)) : zq_W x w k n σ pc V (.ref (w.2.1 14) :: st) :=
  zr_get hG zi5 14 rfl rfl 0 (by decide) rfl ht rfl hd kk
theorem zf_Checker_nets {σ : zG} (hG : zq_G x w own cc nL rm) (ht : Cond.fieldLink own index "GridRouter$Checker" "nets" "LGridRouter$Nets;" ∈ zq_T) (hd : decode cc pc = .ok (.getfield index, 3)) (kk : zq_W x w k n σ (pc + 3) V (.ref (w.2.1 5) :: st)) : zq_W x w k n σ pc V (.ref (w.2.1 14) :: st) :=
  zr_get hG zi5 14 rfl rfl 1 (by decide) rfl ht rfl hd kk
theorem zf_Checker_layout {σ : zG} (hG : zq_G x w own cc nL rm) (ht : Cond.fieldLink own index "GridRouter$Checker" "layout" "LGridRouter$Layout;" ∈ zq_T) (hd : decode cc pc = .ok (.getfield index, 3)) (kk : zq_W x w k n σ (pc + 3) V (.ref (w.2.1 9) :: st)) : zq_W x w k n σ pc V (.ref (w.2.1 14) :: st) :=
  zr_get hG zi5 14 rfl rfl 2 (by decide) rfl ht rfl hd kk
theorem zf_Checker_rules {σ : zG} (hG : zq_G x w own cc nL rm) (ht : Cond.fieldLink own index "GridRouter$Checker" "rules" "LGridRouter$Rules;" ∈ zq_T) (hd : decode cc pc = .ok (.getfield index, 3)) (kk : zq_W x w k n σ (pc + 3) V (.ref (w.2.1 12) :: st)) : zq_W x w k n σ pc V (.ref (w.2.1 14) :: st) :=
  zr_get hG zi5 14 rfl rfl 3 (by decide) rfl ht rfl hd kk
theorem zf_Checker_reached {σ : zG} (hG : zq_G x w own cc nL rm) (ht : Cond.fieldLink own index "GridRouter$Checker" "reached" "[I" ∈ zq_T) (hd : decode cc pc = .ok (.getfield index, 3)) (kk : zq_W x w k n σ (pc + 3) V (.ref (w.2.1 15) :: st)) : zq_W x w k n σ pc V (.ref (w.2.1 14) :: st) :=
  zr_get hG zi5 14 rfl rfl 4 (by decide) rfl ht rfl hd kk
theorem zf_Checker_seen {σ : zG} (hG : zq_G x w own cc nL rm) (ht : Cond.fieldLink own index "GridRouter$Checker" "seen" "[Z" ∈ zq_T) (hd : decode cc pc = .ok (.getfield index, 3)) (kk : zq_W x w k n σ (pc + 3) V (.ref (w.2.1 16) :: st)) : zq_W x w k n σ pc V (.ref (w.2.1 14) :: st) :=
  zr_get hG zi5 14 rfl rfl 5 (by decide) rfl ht rfl hd kk
theorem zf_Checker_found (hG : zq_G x w own cc nL rm) (ht : Cond.fieldLink own index "GridRouter$Checker" "found" "I" ∈ zq_T) (hd : decode cc pc = .ok (.getfield index, 3)) (kk : zq_W x w k n (z, g, o) (pc + 3) V (.int (z.1 6) :: st)) : zq_W x w k n (z, g, o) pc V (.ref (w.2.1 14) :: st) :=
  zr_get hG zi5 14 rfl rfl 6 (by decide) rfl ht rfl hd kk
theorem zp_Checker_found (hG : zq_G x w own cc nL rm) (hW : zq_Wr x w) (ht : Cond.fieldLink own index "GridRouter$Checker" "found" "I" ∈ zq_T) (hd : decode cc pc = .ok (.putfield index, 3)) (kk : zq_W x w k n (zs_s z 6 v, g, o) (pc + 3) V st) : zq_W x w k n (z, g, o) pc V (.int v :: .ref (w.2.1 14) :: st) :=
  zr_put hG (hW _) zi5 zt5 zk5 zn5 14 rfl rfl 6 (by decide) rfl ht rfl (ty := .int) (by decide +kernel) rfl rfl (Nat.le_of_ble_eq_true rfl) (zq_w w (zs_s z 6 v, g, o)) rfl hd kk
theorem zf_Router_nets {σ : zG} (hG : zq_G x w own cc nL rm) (ht : Cond.fieldLink own index "GridRouter$Router" "nets" "LGridRouter$Nets;" ∈ zq_T) (hd : decode cc pc = .ok (.getfield index, 3)) (kk : zq_W x w k n σ (pc + 3) V (.ref (w.2.1 5) :: st)) : zq_W x w k n σ pc V (.ref (w.2.1 17) :: st) :=
  zr_get hG zi6 17 rfl rfl 0 (by decide) rfl ht rfl hd kk
theorem zf_Router_layout {σ : zG} (hG : zq_G x w own cc nL rm) (ht : Cond.fieldLink own index "GridRouter$Router" "layout" "LGridRouter$Layout;" ∈ zq_T) (hd : decode cc pc = .ok (.getfield index, 3)) (kk : zq_W x w k n σ (pc + 3) V (.ref (w.2.1 9) :: st)) : zq_W x w k n σ pc V (.ref (w.2.1 17) :: st) :=
  zr_get hG zi6 17 rfl rfl 1 (by decide) rfl ht rfl hd kk
theorem zf_Router_grid {σ : zG} (hG : zq_G x w own cc nL rm) (ht : Cond.fieldLink own index "GridRouter$Router" "grid" "LGridRouter$Grid;" ∈ zq_T) (hd : decode cc pc = .ok (.getfield index, 3)) (kk : zq_W x w k n σ (pc + 3) V (.ref (w.2.1 1) :: st)) : zq_W x w k n σ pc V (.ref (w.2.1 17) :: st) :=
  zr_get hG zi6 17 rfl rfl 2 (by decide) rfl ht rfl hd kk
theorem zf_Router_rules {σ : zG} (hG : zq_G x w own cc nL rm) (ht : Cond.fieldLink own index "GridRouter$Router" "rules" "LGridRouter$Rules;" ∈ zq_T) (hd : decode cc pc = .ok (.getfield index, 3)) (kk : zq_W x w k n σ (pc + 3) V (.ref (w.2.1 12) :: st)) : zq_W x w k n σ pc V (.ref (w.2.1 17) :: st) :=
  zr_get hG zi6 17 rfl rfl 3 (by decide) rfl ht rfl hd kk
theorem zf_Router_checker {σ : zG} (hG : zq_G x w own cc nL rm) (ht : Cond.fieldLink own index "GridRouter$Router" "checker" "LGridRouter$Checker;" ∈ zq_T) (hd : decode cc pc = .ok (.getfield index, 3)) (kk : zq_W x w k n σ (pc + 3) V (.ref (w.2.1 14) :: st)) : zq_W x w k n σ pc V (.ref (w.2.1 17) :: st) :=
  zr_get hG zi6 17 rfl rfl 4 (by decide) rfl ht rfl hd kk
theorem zf_Router_finder {σ : zG} (hG : zq_G x w own cc nL rm) (ht : Cond.fieldLink own index "GridRouter$Router" "finder" "LGridRouter$WayFinder;" ∈ zq_T) (hd : decode cc pc = .ok (.getfield index, 3)) (kk : zq_W x w k n σ (pc + 3) V (.ref (w.2.1 21) :: st)) : zq_W x w k n σ pc V (.ref (w.2.1 17) :: st) :=
  zr_get hG zi6 17 rfl rfl 5 (by decide) rfl ht rfl hd kk
theorem zf_Router_line {σ : zG} (hG : zq_G x w own cc nL rm) (ht : Cond.fieldLink own index "GridRouter$Router" "line" "LGridRouter$Line;" ∈ zq_T) (hd : decode cc pc = .ok (.getfield index, 3)) (kk : zq_W x w k n σ (pc + 3) V (.ref (w.2.1 18) :: st)) : zq_W x w k n σ pc V (.ref (w.2.1 17) :: st) :=
  zr_get hG zi6 17 rfl rfl 6 (by decide) rfl ht rfl hd kk
theorem zf_Router_pushedOut {σ : zG} (hG : zq_G x w own cc nL rm) (ht : Cond.fieldLink own index "GridRouter$Router" "pushedOut" "[Z" ∈ zq_T) (hd : decode cc pc = .ok (.getfield index, 3)) (kk : zq_W x w k n σ (pc + 3) V (.ref (w.2.1 20) :: st)) : zq_W x w k n σ pc V (.ref (w.2.1 17) :: st) :=
  zr_get hG zi6 17 rfl rfl 7 (by decide) rfl ht rfl hd kk
theorem zf_Line_members {σ : zG} (hG : zq_G x w own cc nL rm) (ht : Cond.fieldLink own index "GridRouter$Line" "members" "[I" ∈ zq_T) (hd : decode cc pc = .ok (.getfield index, 3)) (kk : zq_W x w k n σ (pc + 3) V (.ref (w.2.1 19) :: st)) : zq_W x w k n σ pc V (.ref (w.2.1 18) :: st) :=
  zr_get hG zi7 18 rfl rfl 0 (by decide) rfl ht rfl hd kk
theorem zf_Line_size (hG : zq_G x w own cc nL rm) (ht : Cond.fieldLink own index "GridRouter$Line" "size" "I" ∈ zq_T) (hd : decode cc pc = .ok (.getfield index, 3)) (kk : zq_W x w k n (z, g, o) (pc + 3) V (.int (z.1 11) :: st)) : zq_W x w k n (z, g, o) pc V (.ref (w.2.1 18) :: st) :=
  zr_get hG zi7 18 rfl rfl 1 (by decide) rfl ht rfl hd kk
theorem zp_Line_size (hG : zq_G x w own cc nL rm) (hW : zq_Wr x w) (ht : Cond.fieldLink own index "GridRouter$Line" "size" "I" ∈ zq_T) (hd : decode cc pc = .ok (.putfield index, 3)) (kk : zq_W x w k n (zs_s z 11 v, g, o) (pc + 3) V st) : zq_W x w k n (z, g, o) pc V (.int v :: .ref (w.2.1 18) :: st) :=
  zr_put hG (hW _) zi7 zt7 zk7 zn7 18 rfl rfl 1 (by decide) rfl ht rfl (ty := .int) (by decide +kernel) rfl rfl (Nat.le_of_ble_eq_true rfl) (zq_w w (zs_s z 11 v, g, o)) rfl hd kk
theorem zf_WayFinder_way {σ : zG} (hG : zq_G x w own cc nL rm) (ht : Cond.fieldLink own index "GridRouter$WayFinder" "way" "[I" ∈ zq_T) (hd : decode cc pc = .ok (.getfield index, 3)) (kk : zq_W x w k n σ (pc + 3) V (.ref (w.2.1 22) :: st)) : zq_W x w k n σ pc V (.ref (w.2.1 21) :: st) :=
  zr_get hG zi8 21 rfl rfl 0 (by decide) rfl ht rfl hd kk
theorem zf_WayFinder_length (hG : zq_G x w own cc nL rm) (ht : Cond.fieldLink own index "GridRouter$WayFinder" "length" "I" ∈ zq_T) (hd : decode cc pc = .ok (.getfield index, 3)) (kk : zq_W x w k n (z, g, o) (pc + 3) V (.int (z.1 7) :: st)) : zq_W x w k n (z, g, o) pc V (.ref (w.2.1 21) :: st) :=
  zr_get hG zi8 21 rfl rfl 1 (by decide) rfl ht rfl hd kk
theorem zp_WayFinder_length (hG : zq_G x w own cc nL rm) (hW : zq_Wr x w) (ht : Cond.fieldLink own index "GridRouter$WayFinder" "length" "I" ∈ zq_T) (hd : decode cc pc = .ok (.putfield index, 3)) (kk : zq_W x w k n (zs_s z 7 v, g, o) (pc + 3) V st) : zq_W x w k n (z, g, o) pc V (.int v :: .ref (w.2.1 21) :: st) :=
  zr_put hG (hW _) zi8 zt8 zk8 zn8 21 rfl rfl 1 (by decide) rfl ht rfl (ty := .int) (by decide +kernel) rfl rfl (Nat.le_of_ble_eq_true rfl) (zq_w w (zs_s z 7 v, g, o)) rfl hd kk
theorem zf_WayFinder_grid {σ : zG} (hG : zq_G x w own cc nL rm) (ht : Cond.fieldLink own index "GridRouter$WayFinder" "grid" "LGridRouter$Grid;" ∈ zq_T) (hd : decode cc pc = .ok (.getfield index, 3)) (kk : zq_W x w k n σ (pc + 3) V (.ref (w.2.1 1) :: st)) : zq_W x w k n σ pc V (.ref (w.2.1 21) :: st) :=
  zr_get hG zi8 21 rfl rfl 2 (by decide) rfl ht rfl hd kk
theorem zf_WayFinder_nets {σ : zG} (hG : zq_G x w own cc nL rm) (ht : Cond.fieldLink own index "GridRouter$WayFinder" "nets" "LGridRouter$Nets;" ∈ zq_T) (hd : decode cc pc = .ok (.getfield index, 3)) (kk : zq_W x w k n σ (pc + 3) V (.ref (w.2.1 5) :: st)) : zq_W x w k n σ pc V (.ref (w.2.1 21) :: st) :=
  zr_get hG zi8 21 rfl rfl 3 (by decide) rfl ht rfl hd kk
theorem zf_WayFinder_rules {σ : zG} (hG : zq_G x w own cc nL rm) (ht : Cond.fieldLink own index "GridRouter$WayFinder" "rules" "LGridRouter$Rules;" ∈ zq_T) (hd : decode cc pc = .ok (.getfield index, 3)) (kk : zq_W x w k n σ (pc + 3) V (.ref (w.2.1 12) :: st)) : zq_W x w k n σ pc V (.ref (w.2.1 21) :: st) :=
  zr_get hG zi8 21 rfl rfl 4 (by decide) rfl ht rfl hd kk
theorem zf_WayFinder_viaCost (hG : zq_G x w own cc nL rm) (ht : Cond.fieldLink own index "GridRouter$WayFinder" "viaCost" "I" ∈ zq_T) (hd : decode cc pc = .ok (.getfield index, 3)) (kk : zq_W x w k n (z, g, o) (pc + 3) V (.int (z.1 8) :: st)) : zq_W x w k n (z, g, o) pc V (.ref (w.2.1 21) :: st) :=
  zr_get hG zi8 21 rfl rfl 5 (by decide) rfl ht rfl hd kk
theorem zf_WayFinder_toll {σ : zG} (hG : zq_G x w own cc nL rm) (ht : Cond.fieldLink own index "GridRouter$WayFinder" "toll" "[I" ∈ zq_T) (hd : decode cc pc = .ok (.getfield index, 3)) (kk : zq_W x w k n σ (pc + 3) V (.ref (w.2.1 23) :: st)) : zq_W x w k n σ pc V (.ref (w.2.1 21) :: st) :=
  zr_get hG zi8 21 rfl rfl 6 (by decide) rfl ht rfl hd kk
theorem zf_WayFinder_least {σ : zG} (hG : zq_G x w own cc nL rm) (ht : Cond.fieldLink own index "GridRouter$WayFinder" "least" "[I" ∈ zq_T) (hd : decode cc pc = .ok (.getfield index, 3)) (kk : zq_W x w k n σ (pc + 3) V (.ref (w.2.1 24) :: st)) : zq_W x w k n σ pc V (.ref (w.2.1 21) :: st) :=
  zr_get hG zi8 21 rfl rfl 7 (by decide) rfl ht rfl hd kk
theorem zf_WayFinder_queue {σ : zG} (hG : zq_G x w own cc nL rm) (ht : Cond.fieldLink own index "GridRouter$WayFinder" "queue" "[I" ∈ zq_T) (hd : decode cc pc = .ok (.getfield index, 3)) (kk : zq_W x w k n σ (pc + 3) V (.ref (w.2.1 25) :: st)) : zq_W x w k n σ pc V (.ref (w.2.1 21) :: st) :=
  zr_get hG zi8 21 rfl rfl 8 (by decide) rfl ht rfl hd kk
theorem zf_WayFinder_waits {σ : zG} (hG : zq_G x w own cc nL rm) (ht : Cond.fieldLink own index "GridRouter$WayFinder" "waits" "[Z" ∈ zq_T) (hd : decode cc pc = .ok (.getfield index, 3)) (kk : zq_W x w k n σ (pc + 3) V (.ref (w.2.1 26) :: st)) : zq_W x w k n σ pc V (.ref (w.2.1 21) :: st) :=
  zr_get hG zi8 21 rfl rfl 9 (by decide) rfl ht rfl hd kk
theorem zf_WayFinder_head (hG : zq_G x w own cc nL rm) (ht : Cond.fieldLink own index "GridRouter$WayFinder" "head" "I" ∈ zq_T) (hd : decode cc pc = .ok (.getfield index, 3)) (kk : zq_W x w k n (z, g, o) (pc + 3) V (.int (z.1 9) :: st)) : zq_W x w k n (z, g, o) pc V (.ref (w.2.1 21) :: st) :=
  zr_get hG zi8 21 rfl rfl 10 (by decide) rfl ht rfl hd kk
theorem zp_WayFinder_head (hG : zq_G x w own cc nL rm) (hW : zq_Wr x w) (ht : Cond.fieldLink own index "GridRouter$WayFinder" "head" "I" ∈ zq_T) (hd : decode cc pc = .ok (.putfield index, 3)) (kk : zq_W x w k n (zs_s z 9 v, g, o) (pc + 3) V st) : zq_W x w k n (z, g, o) pc V (.int v :: .ref (w.2.1 21) :: st) :=
  zr_put hG (hW _) zi8 zt8 zk8 zn8 21 rfl rfl 10 (by decide) rfl ht rfl (ty := .int) (by decide +kernel) rfl rfl (Nat.le_of_ble_eq_true rfl) (zq_w w (zs_s z 9 v, g, o)) rfl hd kk
theorem zf_WayFinder_waiting (hG : zq_G x w own cc nL rm) (ht : Cond.fieldLink own index "GridRouter$WayFinder" "waiting" "I" ∈ zq_T) (hd : decode cc pc = .ok (.getfield index, 3)) (kk : zq_W x w k n (z, g, o) (pc + 3) V (.int (z.1 10) :: st)) : zq_W x w k n (z, g, o) pc V (.ref (w.2.1 21) :: st) :=
  zr_get hG zi8 21 rfl rfl 11 (by decide) rfl ht rfl hd kk
theorem zp_WayFinder_waiting (hG : zq_G x w own cc nL rm) (hW : zq_Wr x w) (ht : Cond.fieldLink own index "GridRouter$WayFinder" "waiting" "I" ∈ zq_T) (hd : decode cc pc = .ok (.putfield index, 3)) (kk : zq_W x w k n (zs_s z 10 v, g, o) (pc + 3) V st) : zq_W x w k n (z, g, o) pc V (.int v :: .ref (w.2.1 21) :: st) :=
  zr_put hG (hW _) zi8 zt8 zk8 zn8 21 rfl rfl 11 (by decide) rfl ht rfl (ty := .int) (by decide +kernel) rfl rfl (Nat.le_of_ble_eq_true rfl) (zq_w w (zs_s z 10 v, g, o)) rfl hd kk
theorem zf_Shapes_grid {σ : zG} (hG : zq_G x w own cc nL rm) (ht : Cond.fieldLink own index "GridRouter$Shapes" "grid" "LGridRouter$Grid;" ∈ zq_T) (hd : decode cc pc = .ok (.getfield index, 3)) (kk : zq_W x w k n σ (pc + 3) V (.ref (w.2.1 1) :: st)) : zq_W x w k n σ pc V (.ref (w.2.1 27) :: st) :=
  zr_get hG zi9 27 rfl rfl 0 (by decide) rfl ht rfl hd kk
theorem zf_Shapes_layout {σ : zG} (hG : zq_G x w own cc nL rm) (ht : Cond.fieldLink own index "GridRouter$Shapes" "layout" "LGridRouter$Layout;" ∈ zq_T) (hd : decode cc pc = .ok (.getfield index, 3)) (kk : zq_W x w k n σ (pc + 3) V (.ref (w.2.1 9) :: st)) : zq_W x w k n σ pc V (.ref (w.2.1 27) :: st) :=
  zr_get hG zi9 27 rfl rfl 1 (by decide) rfl ht rfl hd kk
theorem zf_Mo_width (hG : zq_G x w own cc nL rm) (ht : Cond.fieldLink own index "GridRouterModel" "width" "I" ∈ zq_T) (hd : decode cc pc = .ok (.getfield index, 3)) (kk : zq_W x w k n (g, z, o) (pc + 3) V (.int (z.1 0) :: st)) : zq_W x w k n (g, z, o) pc V (.ref (w.2.1 28) :: st) :=
  zr_get hG zi10 28 rfl rfl 0 (by decide) rfl ht rfl hd kk
theorem zf_Mo_height (hG : zq_G x w own cc nL rm) (ht : Cond.fieldLink own index "GridRouterModel" "height" "I" ∈ zq_T) (hd : decode cc pc = .ok (.getfield index, 3)) (kk : zq_W x w k n (g, z, o) (pc + 3) V (.int (z.1 1) :: st)) : zq_W x w k n (g, z, o) pc V (.ref (w.2.1 28) :: st) :=
  zr_get hG zi10 28 rfl rfl 1 (by decide) rfl ht rfl hd kk
theorem zf_Mo_viaCost (hG : zq_G x w own cc nL rm) (ht : Cond.fieldLink own index "GridRouterModel" "viaCost" "I" ∈ zq_T) (hd : decode cc pc = .ok (.getfield index, 3)) (kk : zq_W x w k n (g, z, o) (pc + 3) V (.int (z.1 2) :: st)) : zq_W x w k n (g, z, o) pc V (.ref (w.2.1 28) :: st) :=
  zr_get hG zi10 28 rfl rfl 2 (by decide) rfl ht rfl hd kk
theorem zf_Mo_wide (hG : zq_G x w own cc nL rm) (ht : Cond.fieldLink own index "GridRouterModel" "wide" "Z" ∈ zq_T) (hd : decode cc pc = .ok (.getfield index, 3)) (kk : zq_W x w k n (g, z, o) (pc + 3) V (.int (z.1 3) :: st)) : zq_W x w k n (g, z, o) pc V (.ref (w.2.1 28) :: st) :=
  zr_get hG zi10 28 rfl rfl 3 (by decide) rfl ht rfl hd kk
theorem zf_Mo_code (hG : zq_G x w own cc nL rm) (ht : Cond.fieldLink own index "GridRouterModel" "code" "I" ∈ zq_T) (hd : decode cc pc = .ok (.getfield index, 3)) (kk : zq_W x w k n (g, z, o) (pc + 3) V (.int (z.1 4) :: st)) : zq_W x w k n (g, z, o) pc V (.ref (w.2.1 28) :: st) :=
  zr_get hG zi10 28 rfl rfl 4 (by decide) rfl ht rfl hd kk
theorem zp_Mo_code (hG : zq_G x w own cc nL rm) (hW : zq_Wr x w) (ht : Cond.fieldLink own index "GridRouterModel" "code" "I" ∈ zq_T) (hd : decode cc pc = .ok (.putfield index, 3)) (kk : zq_W x w k n (g, zs_s z 4 v, o) (pc + 3) V st) : zq_W x w k n (g, z, o) pc V (.int v :: .ref (w.2.1 28) :: st) :=
  zr_put hG (hW _) zi10 zt10 zk10 zn10 28 rfl rfl 4 (by decide) rfl ht rfl (ty := .int) (by decide +kernel) rfl rfl (Nat.le_of_ble_eq_true rfl) (zq_w w (g, zs_s z 4 v, o)) rfl hd kk
theorem zf_Mo_blocked {σ : zG} (hG : zq_G x w own cc nL rm) (ht : Cond.fieldLink own index "GridRouterModel" "blocked" "[Z" ∈ zq_T) (hd : decode cc pc = .ok (.getfield index, 3)) (kk : zq_W x w k n σ (pc + 3) V (.ref (w.2.1 29) :: st)) : zq_W x w k n σ pc V (.ref (w.2.1 28) :: st) :=
  zr_get hG zi10 28 rfl rfl 5 (by decide) rfl ht rfl hd kk
theorem zf_Mo_pin {σ : zG} (hG : zq_G x w own cc nL rm) (ht : Cond.fieldLink own index "GridRouterModel" "pin" "[I" ∈ zq_T) (hd : decode cc pc = .ok (.getfield index, 3)) (kk : zq_W x w k n σ (pc + 3) V (.ref (w.2.1 30) :: st)) : zq_W x w k n σ pc V (.ref (w.2.1 28) :: st) :=
  zr_get hG zi10 28 rfl rfl 6 (by decide) rfl ht rfl hd kk
theorem zf_Mo_owner {σ : zG} (hG : zq_G x w own cc nL rm) (ht : Cond.fieldLink own index "GridRouterModel" "owner" "[I" ∈ zq_T) (hd : decode cc pc = .ok (.getfield index, 3)) (kk : zq_W x w k n σ (pc + 3) V (.ref (w.2.1 31) :: st)) : zq_W x w k n σ pc V (.ref (w.2.1 28) :: st) :=
  zr_get hG zi10 28 rfl rfl 7 (by decide) rfl ht rfl hd kk
theorem zf_Mo_vias {σ : zG} (hG : zq_G x w own cc nL rm) (ht : Cond.fieldLink own index "GridRouterModel" "vias" "[Z" ∈ zq_T) (hd : decode cc pc = .ok (.getfield index, 3)) (kk : zq_W x w k n σ (pc + 3) V (.ref (w.2.1 32) :: st)) : zq_W x w k n σ pc V (.ref (w.2.1 28) :: st) :=
  zr_get hG zi10 28 rfl rfl 8 (by decide) rfl ht rfl hd kk
theorem zf_Mo_cost {σ : zG} (hG : zq_G x w own cc nL rm) (ht : Cond.fieldLink own index "GridRouterModel" "cost" "[I" ∈ zq_T) (hd : decode cc pc = .ok (.getfield index, 3)) (kk : zq_W x w k n σ (pc + 3) V (.ref (w.2.1 33) :: st)) : zq_W x w k n σ pc V (.ref (w.2.1 28) :: st) :=
  zr_get hG zi10 28 rfl rfl 9 (by decide) rfl ht rfl hd kk
theorem zf_Mo_mark {σ : zG} (hG : zq_G x w own cc nL rm) (ht : Cond.fieldLink own index "GridRouterModel" "mark" "[Z" ∈ zq_T) (hd : decode cc pc = .ok (.getfield index, 3)) (kk : zq_W x w k n σ (pc + 3) V (.ref (w.2.1 34) :: st)) : zq_W x w k n σ pc V (.ref (w.2.1 28) :: st) :=
  zr_get hG zi10 28 rfl rfl 10 (by decide) rfl ht rfl hd kk
theorem zf_Mo_way {σ : zG} (hG : zq_G x w own cc nL rm) (ht : Cond.fieldLink own index "GridRouterModel" "way" "[I" ∈ zq_T) (hd : decode cc pc = .ok (.getfield index, 3)) (kk : zq_W x w k n σ (pc + 3) V (.ref (w.2.1 35) :: st)) : zq_W x w k n σ pc V (.ref (w.2.1 28) :: st) :=
  zr_get hG zi10 28 rfl rfl 11 (by decide) rfl ht rfl hd kk
theorem zf_Mo_climbs {σ : zG} (hG : zq_G x w own cc nL rm) (ht : Cond.fieldLink own index "GridRouterModel" "climbs" "[Z" ∈ zq_T) (hd : decode cc pc = .ok (.getfield index, 3)) (kk : zq_W x w k n σ (pc + 3) V (.ref (w.2.1 36) :: st)) : zq_W x w k n σ pc V (.ref (w.2.1 28) :: st) :=
  zr_get hG zi10 28 rfl rfl 12 (by decide) rfl ht rfl hd kk
theorem zf_Mo_nets (hG : zq_G x w own cc nL rm) (ht : Cond.fieldLink own index "GridRouterModel" "nets" "I" ∈ zq_T) (hd : decode cc pc = .ok (.getfield index, 3)) (kk : zq_W x w k n (g, z, o) (pc + 3) V (.int (z.1 5) :: st)) : zq_W x w k n (g, z, o) pc V (.ref (w.2.1 28) :: st) :=
  zr_get hG zi10 28 rfl rfl 13 (by decide) rfl ht rfl hd kk
theorem zp_Mo_nets (hG : zq_G x w own cc nL rm) (hW : zq_Wr x w) (ht : Cond.fieldLink own index "GridRouterModel" "nets" "I" ∈ zq_T) (hd : decode cc pc = .ok (.putfield index, 3)) (kk : zq_W x w k n (g, zs_s z 5 v, o) (pc + 3) V st) : zq_W x w k n (g, z, o) pc V (.int v :: .ref (w.2.1 28) :: st) :=
  zr_put hG (hW _) zi10 zt10 zk10 zn10 28 rfl rfl 13 (by decide) rfl ht rfl (ty := .int) (by decide +kernel) rfl rfl (Nat.le_of_ble_eq_true rfl) (zq_w w (g, zs_s z 5 v, o)) rfl hd kk
theorem zf_Mo_first {σ : zG} (hG : zq_G x w own cc nL rm) (ht : Cond.fieldLink own index "GridRouterModel" "first" "[I" ∈ zq_T) (hd : decode cc pc = .ok (.getfield index, 3)) (kk : zq_W x w k n σ (pc + 3) V (.ref (w.2.1 37) :: st)) : zq_W x w k n σ pc V (.ref (w.2.1 28) :: st) :=
  zr_get hG zi10 28 rfl rfl 14 (by decide) rfl ht rfl hd kk
theorem zf_Mo_second {σ : zG} (hG : zq_G x w own cc nL rm) (ht : Cond.fieldLink own index "GridRouterModel" "second" "[I" ∈ zq_T) (hd : decode cc pc = .ok (.getfield index, 3)) (kk : zq_W x w k n σ (pc + 3) V (.ref (w.2.1 38) :: st)) : zq_W x w k n σ pc V (.ref (w.2.1 28) :: st) :=
  zr_get hG zi10 28 rfl rfl 15 (by decide) rfl ht rfl hd kk
theorem zf_Mo_standing (hG : zq_G x w own cc nL rm) (ht : Cond.fieldLink own index "GridRouterModel" "standing" "I" ∈ zq_T) (hd : decode cc pc = .ok (.getfield index, 3)) (kk : zq_W x w k n (g, z, o) (pc + 3) V (.int (z.1 6) :: st)) : zq_W x w k n (g, z, o) pc V (.ref (w.2.1 28) :: st) :=
  zr_get hG zi10 28 rfl rfl 16 (by decide) rfl ht rfl hd kk
theorem zp_Mo_standing (hG : zq_G x w own cc nL rm) (hW : zq_Wr x w) (ht : Cond.fieldLink own index "GridRouterModel" "standing" "I" ∈ zq_T) (hd : decode cc pc = .ok (.putfield index, 3)) (kk : zq_W x w k n (g, zs_s z 6 v, o) (pc + 3) V st) : zq_W x w k n (g, z, o) pc V (.int v :: .ref (w.2.1 28) :: st) :=
  zr_put hG (hW _) zi10 zt10 zk10 zn10 28 rfl rfl 16 (by decide) rfl ht rfl (ty := .int) (by decide +kernel) rfl rfl (Nat.le_of_ble_eq_true rfl) (zq_w w (g, zs_s z 6 v, o)) rfl hd kk
theorem zf_Mo_line {σ : zG} (hG : zq_G x w own cc nL rm) (ht : Cond.fieldLink own index "GridRouterModel" "line" "[I" ∈ zq_T) (hd : decode cc pc = .ok (.getfield index, 3)) (kk : zq_W x w k n σ (pc + 3) V (.ref (w.2.1 39) :: st)) : zq_W x w k n σ pc V (.ref (w.2.1 28) :: st) :=
  zr_get hG zi10 28 rfl rfl 17 (by decide) rfl ht rfl hd kk
theorem zf_Mo_out (hG : zq_G x w own cc nL rm) (ht : Cond.fieldLink own index "GridRouterModel" "out" "I" ∈ zq_T) (hd : decode cc pc = .ok (.getfield index, 3)) (kk : zq_W x w k n (g, z, o) (pc + 3) V (.int (z.1 7) :: st)) : zq_W x w k n (g, z, o) pc V (.ref (w.2.1 28) :: st) :=
  zr_get hG zi10 28 rfl rfl 18 (by decide) rfl ht rfl hd kk
theorem zp_Mo_out (hG : zq_G x w own cc nL rm) (hW : zq_Wr x w) (ht : Cond.fieldLink own index "GridRouterModel" "out" "I" ∈ zq_T) (hd : decode cc pc = .ok (.putfield index, 3)) (kk : zq_W x w k n (g, zs_s z 7 v, o) (pc + 3) V st) : zq_W x w k n (g, z, o) pc V (.int v :: .ref (w.2.1 28) :: st) :=
  zr_put hG (hW _) zi10 zt10 zk10 zn10 28 rfl rfl 18 (by decide) rfl ht rfl (ty := .int) (by decide +kernel) rfl rfl (Nat.le_of_ble_eq_true rfl) (zq_w w (g, zs_s z 7 v, o)) rfl hd kk
theorem zl_2 (hG : zq_G x w own cc nL rm) (hi : vp_in i (w.2.2.1 0)) (hd : decode cc pc = .ok (.iaload, 1)) (kk : zq_W x w k n (z, g, o) (pc + 1) V (.int (z.2 0 i.toNatClampNeg) :: st)) : zq_W x w k n (z, g, o) pc V (.int i :: .ref (w.2.1 2) :: st) :=
  zr_iald hG 2 0 rfl rfl hi hd kk
theorem zu_2 (hG : zq_G x w own cc nL rm) (hW : zq_Wr x w) (hi : vp_in i (w.2.2.1 0)) (hd : decode cc pc = .ok (.iastore, 1)) (kk : zq_W x w k n (zs_a z 0 i v, g, o) (pc + 1) V st) : zq_W x w k n (z, g, o) pc V (.int v :: .int i :: .ref (w.2.1 2) :: st) :=
  zr_iast hG (hW _) 2 0 rfl rfl hi (zq_w w (zs_a z 0 i v, g, o)) rfl hd kk
theorem zl_3 (hG : zq_G x w own cc nL rm) (hi : vp_in i (w.2.2.1 1)) (hd : decode cc pc = .ok (.iaload, 1)) (kk : zq_W x w k n (z, g, o) (pc + 1) V (.int (z.2 1 i.toNatClampNeg) :: st)) : zq_W x w k n (z, g, o) pc V (.int i :: .ref (w.2.1 3) :: st) :=
  zr_iald hG 3 0 rfl rfl hi hd kk
theorem zu_3 (hG : zq_G x w own cc nL rm) (hW : zq_Wr x w) (hi : vp_in i (w.2.2.1 1)) (hd : decode cc pc = .ok (.iastore, 1)) (kk : zq_W x w k n (zs_a z 1 i v, g, o) (pc + 1) V st) : zq_W x w k n (z, g, o) pc V (.int v :: .int i :: .ref (w.2.1 3) :: st) :=
  zr_iast hG (hW _) 3 0 rfl rfl hi (zq_w w (zs_a z 1 i v, g, o)) rfl hd kk
theorem zl_4 (hG : zq_G x w own cc nL rm) (hi : vp_in i (w.2.2.1 2)) (hd : decode cc pc = .ok (.iaload, 1)) (kk : zq_W x w k n (z, g, o) (pc + 1) V (.int (z.2 2 i.toNatClampNeg) :: st)) : zq_W x w k n (z, g, o) pc V (.int i :: .ref (w.2.1 4) :: st) :=
  zr_iald hG 4 0 rfl rfl hi hd kk
theorem zu_4 (hG : zq_G x w own cc nL rm) (hW : zq_Wr x w) (hi : vp_in i (w.2.2.1 2)) (hd : decode cc pc = .ok (.iastore, 1)) (kk : zq_W x w k n (zs_a z 2 i v, g, o) (pc + 1) V st) : zq_W x w k n (z, g, o) pc V (.int v :: .int i :: .ref (w.2.1 4) :: st) :=
  zr_iast hG (hW _) 4 0 rfl rfl hi (zq_w w (zs_a z 2 i v, g, o)) rfl hd kk
theorem zl_6 (hG : zq_G x w own cc nL rm) (hi : vp_in i (w.2.2.1 3)) (hd : decode cc pc = .ok (.iaload, 1)) (kk : zq_W x w k n (z, g, o) (pc + 1) V (.int (z.2 3 i.toNatClampNeg) :: st)) : zq_W x w k n (z, g, o) pc V (.int i :: .ref (w.2.1 6) :: st) :=
  zr_iald hG 6 0 rfl rfl hi hd kk
theorem zu_6 (hG : zq_G x w own cc nL rm) (hW : zq_Wr x w) (hi : vp_in i (w.2.2.1 3)) (hd : decode cc pc = .ok (.iastore, 1)) (kk : zq_W x w k n (zs_a z 3 i v, g, o) (pc + 1) V st) : zq_W x w k n (z, g, o) pc V (.int v :: .int i :: .ref (w.2.1 6) :: st) :=
  zr_iast hG (hW _) 6 0 rfl rfl hi (zq_w w (zs_a z 3 i v, g, o)) rfl hd kk
theorem zl_7 (hG : zq_G x w own cc nL rm) (hi : vp_in i (w.2.2.1 4)) (hd : decode cc pc = .ok (.iaload, 1)) (kk : zq_W x w k n (z, g, o) (pc + 1) V (.int (z.2 4 i.toNatClampNeg) :: st)) : zq_W x w k n (z, g, o) pc V (.int i :: .ref (w.2.1 7) :: st) :=
  zr_iald hG 7 0 rfl rfl hi hd kk
theorem zu_7 (hG : zq_G x w own cc nL rm) (hW : zq_Wr x w) (hi : vp_in i (w.2.2.1 4)) (hd : decode cc pc = .ok (.iastore, 1)) (kk : zq_W x w k n (zs_a z 4 i v, g, o) (pc + 1) V st) : zq_W x w k n (z, g, o) pc V (.int v :: .int i :: .ref (w.2.1 7) :: st) :=
  zr_iast hG (hW _) 7 0 rfl rfl hi (zq_w w (zs_a z 4 i v, g, o)) rfl hd kk
theorem zl_8 (hG : zq_G x w own cc nL rm) (hi : vp_in i (w.2.2.1 5)) (hd : decode cc pc = .ok (.iaload, 1)) (kk : zq_W x w k n (z, g, o) (pc + 1) V (.int (z.2 5 i.toNatClampNeg) :: st)) : zq_W x w k n (z, g, o) pc V (.int i :: .ref (w.2.1 8) :: st) :=
  zr_iald hG 8 0 rfl rfl hi hd kk
theorem zu_8 (hG : zq_G x w own cc nL rm) (hW : zq_Wr x w) (hi : vp_in i (w.2.2.1 5)) (hd : decode cc pc = .ok (.iastore, 1)) (kk : zq_W x w k n (zs_a z 5 i v, g, o) (pc + 1) V st) : zq_W x w k n (z, g, o) pc V (.int v :: .int i :: .ref (w.2.1 8) :: st) :=
  zr_iast hG (hW _) 8 0 rfl rfl hi (zq_w w (zs_a z 5 i v, g, o)) rfl hd kk
theorem zl_10 (hG : zq_G x w own cc nL rm) (hi : vp_in i (w.2.2.1 6)) (hd : decode cc pc = .ok (.iaload, 1)) (kk : zq_W x w k n (z, g, o) (pc + 1) V (.int (z.2 6 i.toNatClampNeg) :: st)) : zq_W x w k n (z, g, o) pc V (.int i :: .ref (w.2.1 10) :: st) :=
  zr_iald hG 10 0 rfl rfl hi hd kk
theorem zu_10 (hG : zq_G x w own cc nL rm) (hW : zq_Wr x w) (hi : vp_in i (w.2.2.1 6)) (hd : decode cc pc = .ok (.iastore, 1)) (kk : zq_W x w k n (zs_a z 6 i v, g, o) (pc + 1) V st) : zq_W x w k n (z, g, o) pc V (.int v :: .int i :: .ref (w.2.1 10) :: st) :=
  zr_iast hG (hW _) 10 0 rfl rfl hi (zq_w w (zs_a z 6 i v, g, o)) rfl hd kk
theorem zl_11 (hG : zq_G x w own cc nL rm) (hi : vp_in i (w.2.2.1 7)) (hd : decode cc pc = .ok (.baload, 1)) (kk : zq_W x w k n (z, g, o) (pc + 1) V (.int (z.2 7 i.toNatClampNeg) :: st)) : zq_W x w k n (z, g, o) pc V (.int i :: .ref (w.2.1 11) :: st) :=
  zr_zald hG 11 1 rfl rfl hi hd kk
theorem zu_11 (hG : zq_G x w own cc nL rm) (hW : zq_Wr x w) (hi : vp_in i (w.2.2.1 7)) (hd : decode cc pc = .ok (.bastore, 1)) (kk : zq_W x w k n (zs_a z 7 i (vp_nar .boolean v), g, o) (pc + 1) V st) : zq_W x w k n (z, g, o) pc V (.int v :: .int i :: .ref (w.2.1 11) :: st) :=
  zr_zast hG (hW _) 11 1 rfl rfl hi (zq_w w (zs_a z 7 i (vp_nar .boolean v), g, o)) rfl hd kk
theorem zl_13 (hG : zq_G x w own cc nL rm) (hi : vp_in i (w.2.2.1 8)) (hd : decode cc pc = .ok (.baload, 1)) (kk : zq_W x w k n (z, g, o) (pc + 1) V (.int (z.2 8 i.toNatClampNeg) :: st)) : zq_W x w k n (z, g, o) pc V (.int i :: .ref (w.2.1 13) :: st) :=
  zr_zald hG 13 1 rfl rfl hi hd kk
theorem zu_13 (hG : zq_G x w own cc nL rm) (hW : zq_Wr x w) (hi : vp_in i (w.2.2.1 8)) (hd : decode cc pc = .ok (.bastore, 1)) (kk : zq_W x w k n (zs_a z 8 i (vp_nar .boolean v), g, o) (pc + 1) V st) : zq_W x w k n (z, g, o) pc V (.int v :: .int i :: .ref (w.2.1 13) :: st) :=
  zr_zast hG (hW _) 13 1 rfl rfl hi (zq_w w (zs_a z 8 i (vp_nar .boolean v), g, o)) rfl hd kk
theorem zl_20 (hG : zq_G x w own cc nL rm) (hi : vp_in i (w.2.2.1 9)) (hd : decode cc pc = .ok (.baload, 1)) (kk : zq_W x w k n (z, g, o) (pc + 1) V (.int (z.2 9 i.toNatClampNeg) :: st)) : zq_W x w k n (z, g, o) pc V (.int i :: .ref (w.2.1 20) :: st) :=
  zr_zald hG 20 1 rfl rfl hi hd kk
theorem zu_20 (hG : zq_G x w own cc nL rm) (hW : zq_Wr x w) (hi : vp_in i (w.2.2.1 9)) (hd : decode cc pc = .ok (.bastore, 1)) (kk : zq_W x w k n (zs_a z 9 i (vp_nar .boolean v), g, o) (pc + 1) V st) : zq_W x w k n (z, g, o) pc V (.int v :: .int i :: .ref (w.2.1 20) :: st) :=
  zr_zast hG (hW _) 20 1 rfl rfl hi (zq_w w (zs_a z 9 i (vp_nar .boolean v), g, o)) rfl hd kk
theorem zl_15 (hG : zq_G x w own cc nL rm) (hi : vp_in i (w.2.2.1 10)) (hd : decode cc pc = .ok (.iaload, 1)) (kk : zq_W x w k n (z, g, o) (pc + 1) V (.int (z.2 10 i.toNatClampNeg) :: st)) : zq_W x w k n (z, g, o) pc V (.int i :: .ref (w.2.1 15) :: st) :=
  zr_iald hG 15 0 rfl rfl hi hd kk
theorem zu_15 (hG : zq_G x w own cc nL rm) (hW : zq_Wr x w) (hi : vp_in i (w.2.2.1 10)) (hd : decode cc pc = .ok (.iastore, 1)) (kk : zq_W x w k n (zs_a z 10 i v, g, o) (pc + 1) V st) : zq_W x w k n (z, g, o) pc V (.int v :: .int i :: .ref (w.2.1 15) :: st) :=
  zr_iast hG (hW _) 15 0 rfl rfl hi (zq_w w (zs_a z 10 i v, g, o)) rfl hd kk
theorem zl_16 (hG : zq_G x w own cc nL rm) (hi : vp_in i (w.2.2.1 11)) (hd : decode cc pc = .ok (.baload, 1)) (kk : zq_W x w k n (z, g, o) (pc + 1) V (.int (z.2 11 i.toNatClampNeg) :: st)) : zq_W x w k n (z, g, o) pc V (.int i :: .ref (w.2.1 16) :: st) :=
  zr_zald hG 16 1 rfl rfl hi hd kk
theorem zu_16 (hG : zq_G x w own cc nL rm) (hW : zq_Wr x w) (hi : vp_in i (w.2.2.1 11)) (hd : decode cc pc = .ok (.bastore, 1)) (kk : zq_W x w k n (zs_a z 11 i (vp_nar .boolean v), g, o) (pc + 1) V st) : zq_W x w k n (z, g, o) pc V (.int v :: .int i :: .ref (w.2.1 16) :: st) :=
  zr_zast hG (hW _) 16 1 rfl rfl hi (zq_w w (zs_a z 11 i (vp_nar .boolean v), g, o)) rfl hd kk
theorem zl_22 (hG : zq_G x w own cc nL rm) (hi : vp_in i (w.2.2.1 12)) (hd : decode cc pc = .ok (.iaload, 1)) (kk : zq_W x w k n (z, g, o) (pc + 1) V (.int (z.2 12 i.toNatClampNeg) :: st)) : zq_W x w k n (z, g, o) pc V (.int i :: .ref (w.2.1 22) :: st) :=
  zr_iald hG 22 0 rfl rfl hi hd kk
theorem zu_22 (hG : zq_G x w own cc nL rm) (hW : zq_Wr x w) (hi : vp_in i (w.2.2.1 12)) (hd : decode cc pc = .ok (.iastore, 1)) (kk : zq_W x w k n (zs_a z 12 i v, g, o) (pc + 1) V st) : zq_W x w k n (z, g, o) pc V (.int v :: .int i :: .ref (w.2.1 22) :: st) :=
  zr_iast hG (hW _) 22 0 rfl rfl hi (zq_w w (zs_a z 12 i v, g, o)) rfl hd kk
theorem zl_23 (hG : zq_G x w own cc nL rm) (hi : vp_in i (w.2.2.1 13)) (hd : decode cc pc = .ok (.iaload, 1)) (kk : zq_W x w k n (z, g, o) (pc + 1) V (.int (z.2 13 i.toNatClampNeg) :: st)) : zq_W x w k n (z, g, o) pc V (.int i :: .ref (w.2.1 23) :: st) :=
  zr_iald hG 23 0 rfl rfl hi hd kk
theorem zu_23 (hG : zq_G x w own cc nL rm) (hW : zq_Wr x w) (hi : vp_in i (w.2.2.1 13)) (hd : decode cc pc = .ok (.iastore, 1)) (kk : zq_W x w k n (zs_a z 13 i v, g, o) (pc + 1) V st) : zq_W x w k n (z, g, o) pc V (.int v :: .int i :: .ref (w.2.1 23) :: st) :=
  zr_iast hG (hW _) 23 0 rfl rfl hi (zq_w w (zs_a z 13 i v, g, o)) rfl hd kk
theorem zl_24 (hG : zq_G x w own cc nL rm) (hi : vp_in i (w.2.2.1 14)) (hd : decode cc pc = .ok (.iaload, 1)) (kk : zq_W x w k n (z, g, o) (pc + 1) V (.int (z.2 14 i.toNatClampNeg) :: st)) : zq_W x w k n (z, g, o) pc V (.int i :: .ref (w.2.1 24) :: st) :=
  zr_iald hG 24 0 rfl rfl hi hd kk
theorem zu_24 (hG : zq_G x w own cc nL rm) (hW : zq_Wr x w) (hi : vp_in i (w.2.2.1 14)) (hd : decode cc pc = .ok (.iastore, 1)) (kk : zq_W x w k n (zs_a z 14 i v, g, o) (pc + 1) V st) : zq_W x w k n (z, g, o) pc V (.int v :: .int i :: .ref (w.2.1 24) :: st) :=
  zr_iast hG (hW _) 24 0 rfl rfl hi (zq_w w (zs_a z 14 i v, g, o)) rfl hd kk
theorem zl_25 (hG : zq_G x w own cc nL rm) (hi : vp_in i (w.2.2.1 15)) (hd : decode cc pc = .ok (.iaload, 1)) (kk : zq_W x w k n (z, g, o) (pc + 1) V (.int (z.2 15 i.toNatClampNeg) :: st)) : zq_W x w k n (z, g, o) pc V (.int i :: .ref (w.2.1 25) :: st) :=
  zr_iald hG 25 0 rfl rfl hi hd kk
theorem zu_25 (hG : zq_G x w own cc nL rm) (hW : zq_Wr x w) (hi : vp_in i (w.2.2.1 15)) (hd : decode cc pc = .ok (.iastore, 1)) (kk : zq_W x w k n (zs_a z 15 i v, g, o) (pc + 1) V st) : zq_W x w k n (z, g, o) pc V (.int v :: .int i :: .ref (w.2.1 25) :: st) :=
  zr_iast hG (hW _) 25 0 rfl rfl hi (zq_w w (zs_a z 15 i v, g, o)) rfl hd kk
theorem zl_26 (hG : zq_G x w own cc nL rm) (hi : vp_in i (w.2.2.1 16)) (hd : decode cc pc = .ok (.baload, 1)) (kk : zq_W x w k n (z, g, o) (pc + 1) V (.int (z.2 16 i.toNatClampNeg) :: st)) : zq_W x w k n (z, g, o) pc V (.int i :: .ref (w.2.1 26) :: st) :=
  zr_zald hG 26 1 rfl rfl hi hd kk
theorem zu_26 (hG : zq_G x w own cc nL rm) (hW : zq_Wr x w) (hi : vp_in i (w.2.2.1 16)) (hd : decode cc pc = .ok (.bastore, 1)) (kk : zq_W x w k n (zs_a z 16 i (vp_nar .boolean v), g, o) (pc + 1) V st) : zq_W x w k n (z, g, o) pc V (.int v :: .int i :: .ref (w.2.1 26) :: st) :=
  zr_zast hG (hW _) 26 1 rfl rfl hi (zq_w w (zs_a z 16 i (vp_nar .boolean v), g, o)) rfl hd kk
theorem zl_19 (hG : zq_G x w own cc nL rm) (hi : vp_in i (w.2.2.1 17)) (hd : decode cc pc = .ok (.iaload, 1)) (kk : zq_W x w k n (z, g, o) (pc + 1) V (.int (z.2 17 i.toNatClampNeg) :: st)) : zq_W x w k n (z, g, o) pc V (.int i :: .ref (w.2.1 19) :: st) :=
  zr_iald hG 19 0 rfl rfl hi hd kk
theorem zu_19 (hG : zq_G x w own cc nL rm) (hW : zq_Wr x w) (hi : vp_in i (w.2.2.1 17)) (hd : decode cc pc = .ok (.iastore, 1)) (kk : zq_W x w k n (zs_a z 17 i v, g, o) (pc + 1) V st) : zq_W x w k n (z, g, o) pc V (.int v :: .int i :: .ref (w.2.1 19) :: st) :=
  zr_iast hG (hW _) 19 0 rfl rfl hi (zq_w w (zs_a z 17 i v, g, o)) rfl hd kk
theorem zl_29 (hG : zq_G x w own cc nL rm) (hi : vp_in i 162) (hd : decode cc pc = .ok (.baload, 1)) (kk : zq_W x w k n (g, z, o) (pc + 1) V (.int (z.2 0 i.toNatClampNeg) :: st)) : zq_W x w k n (g, z, o) pc V (.int i :: .ref (w.2.1 29) :: st) :=
  zr_zald hG 29 1 rfl rfl hi hd kk
theorem zu_29 (hG : zq_G x w own cc nL rm) (hW : zq_Wr x w) (hi : vp_in i 162) (hd : decode cc pc = .ok (.bastore, 1)) (kk : zq_W x w k n (g, zs_a z 0 i (vp_nar .boolean v), o) (pc + 1) V st) : zq_W x w k n (g, z, o) pc V (.int v :: .int i :: .ref (w.2.1 29) :: st) :=
  zr_zast hG (hW _) 29 1 rfl rfl hi (zq_w w (g, zs_a z 0 i (vp_nar .boolean v), o)) rfl hd kk
theorem zl_30 (hG : zq_G x w own cc nL rm) (hi : vp_in i 162) (hd : decode cc pc = .ok (.iaload, 1)) (kk : zq_W x w k n (g, z, o) (pc + 1) V (.int (z.2 1 i.toNatClampNeg) :: st)) : zq_W x w k n (g, z, o) pc V (.int i :: .ref (w.2.1 30) :: st) :=
  zr_iald hG 30 0 rfl rfl hi hd kk
theorem zu_30 (hG : zq_G x w own cc nL rm) (hW : zq_Wr x w) (hi : vp_in i 162) (hd : decode cc pc = .ok (.iastore, 1)) (kk : zq_W x w k n (g, zs_a z 1 i v, o) (pc + 1) V st) : zq_W x w k n (g, z, o) pc V (.int v :: .int i :: .ref (w.2.1 30) :: st) :=
  zr_iast hG (hW _) 30 0 rfl rfl hi (zq_w w (g, zs_a z 1 i v, o)) rfl hd kk
theorem zl_31 (hG : zq_G x w own cc nL rm) (hi : vp_in i 162) (hd : decode cc pc = .ok (.iaload, 1)) (kk : zq_W x w k n (g, z, o) (pc + 1) V (.int (z.2 2 i.toNatClampNeg) :: st)) : zq_W x w k n (g, z, o) pc V (.int i :: .ref (w.2.1 31) :: st) :=
  zr_iald hG 31 0 rfl rfl hi hd kk
theorem zu_31 (hG : zq_G x w own cc nL rm) (hW : zq_Wr x w) (hi : vp_in i 162) (hd : decode cc pc = .ok (.iastore, 1)) (kk : zq_W x w k n (g, zs_a z 2 i v, o) (pc + 1) V st) : zq_W x w k n (g, z, o) pc V (.int v :: .int i :: .ref (w.2.1 31) :: st) :=
  zr_iast hG (hW _) 31 0 rfl rfl hi (zq_w w (g, zs_a z 2 i v, o)) rfl hd kk
theorem zl_32 (hG : zq_G x w own cc nL rm) (hi : vp_in i 81) (hd : decode cc pc = .ok (.baload, 1)) (kk : zq_W x w k n (g, z, o) (pc + 1) V (.int (z.2 3 i.toNatClampNeg) :: st)) : zq_W x w k n (g, z, o) pc V (.int i :: .ref (w.2.1 32) :: st) :=
  zr_zald hG 32 1 rfl rfl hi hd kk
theorem zu_32 (hG : zq_G x w own cc nL rm) (hW : zq_Wr x w) (hi : vp_in i 81) (hd : decode cc pc = .ok (.bastore, 1)) (kk : zq_W x w k n (g, zs_a z 3 i (vp_nar .boolean v), o) (pc + 1) V st) : zq_W x w k n (g, z, o) pc V (.int v :: .int i :: .ref (w.2.1 32) :: st) :=
  zr_zast hG (hW _) 32 1 rfl rfl hi (zq_w w (g, zs_a z 3 i (vp_nar .boolean v), o)) rfl hd kk
theorem zl_33 (hG : zq_G x w own cc nL rm) (hi : vp_in i 162) (hd : decode cc pc = .ok (.iaload, 1)) (kk : zq_W x w k n (g, z, o) (pc + 1) V (.int (z.2 4 i.toNatClampNeg) :: st)) : zq_W x w k n (g, z, o) pc V (.int i :: .ref (w.2.1 33) :: st) :=
  zr_iald hG 33 0 rfl rfl hi hd kk
theorem zu_33 (hG : zq_G x w own cc nL rm) (hW : zq_Wr x w) (hi : vp_in i 162) (hd : decode cc pc = .ok (.iastore, 1)) (kk : zq_W x w k n (g, zs_a z 4 i v, o) (pc + 1) V st) : zq_W x w k n (g, z, o) pc V (.int v :: .int i :: .ref (w.2.1 33) :: st) :=
  zr_iast hG (hW _) 33 0 rfl rfl hi (zq_w w (g, zs_a z 4 i v, o)) rfl hd kk
theorem zl_34 (hG : zq_G x w own cc nL rm) (hi : vp_in i 162) (hd : decode cc pc = .ok (.baload, 1)) (kk : zq_W x w k n (g, z, o) (pc + 1) V (.int (z.2 5 i.toNatClampNeg) :: st)) : zq_W x w k n (g, z, o) pc V (.int i :: .ref (w.2.1 34) :: st) :=
  zr_zald hG 34 1 rfl rfl hi hd kk
theorem zu_34 (hG : zq_G x w own cc nL rm) (hW : zq_Wr x w) (hi : vp_in i 162) (hd : decode cc pc = .ok (.bastore, 1)) (kk : zq_W x w k n (g, zs_a z 5 i (vp_nar .boolean v), o) (pc + 1) V st) : zq_W x w k n (g, z, o) pc V (.int v :: .int i :: .ref (w.2.1 34) :: st) :=
  zr_zast hG (hW _) 34 1 rfl rfl hi (zq_w w (g, zs_a z 5 i (vp_nar .boolean v), o)) rfl hd kk
theorem zl_35 (hG : zq_G x w own cc nL rm) (hi : vp_in i 162) (hd : decode cc pc = .ok (.iaload, 1)) (kk : zq_W x w k n (g, z, o) (pc + 1) V (.int (z.2 6 i.toNatClampNeg) :: st)) : zq_W x w k n (g, z, o) pc V (.int i :: .ref (w.2.1 35) :: st) :=
  zr_iald hG 35 0 rfl rfl hi hd kk
theorem zu_35 (hG : zq_G x w own cc nL rm) (hW : zq_Wr x w) (hi : vp_in i 162) (hd : decode cc pc = .ok (.iastore, 1)) (kk : zq_W x w k n (g, zs_a z 6 i v, o) (pc + 1) V st) : zq_W x w k n (g, z, o) pc V (.int v :: .int i :: .ref (w.2.1 35) :: st) :=
  zr_iast hG (hW _) 35 0 rfl rfl hi (zq_w w (g, zs_a z 6 i v, o)) rfl hd kk
theorem zl_36 (hG : zq_G x w own cc nL rm) (hi : vp_in i 162) (hd : decode cc pc = .ok (.baload, 1)) (kk : zq_W x w k n (g, z, o) (pc + 1) V (.int (z.2 7 i.toNatClampNeg) :: st)) : zq_W x w k n (g, z, o) pc V (.int i :: .ref (w.2.1 36) :: st) :=
  zr_zald hG 36 1 rfl rfl hi hd kk
theorem zu_36 (hG : zq_G x w own cc nL rm) (hW : zq_Wr x w) (hi : vp_in i 162) (hd : decode cc pc = .ok (.bastore, 1)) (kk : zq_W x w k n (g, zs_a z 7 i (vp_nar .boolean v), o) (pc + 1) V st) : zq_W x w k n (g, z, o) pc V (.int v :: .int i :: .ref (w.2.1 36) :: st) :=
  zr_zast hG (hW _) 36 1 rfl rfl hi (zq_w w (g, zs_a z 7 i (vp_nar .boolean v), o)) rfl hd kk
theorem zl_37 (hG : zq_G x w own cc nL rm) (hi : vp_in i 6) (hd : decode cc pc = .ok (.iaload, 1)) (kk : zq_W x w k n (g, z, o) (pc + 1) V (.int (z.2 8 i.toNatClampNeg) :: st)) : zq_W x w k n (g, z, o) pc V (.int i :: .ref (w.2.1 37) :: st) :=
  zr_iald hG 37 0 rfl rfl hi hd kk
theorem zu_37 (hG : zq_G x w own cc nL rm) (hW : zq_Wr x w) (hi : vp_in i 6) (hd : decode cc pc = .ok (.iastore, 1)) (kk : zq_W x w k n (g, zs_a z 8 i v, o) (pc + 1) V st) : zq_W x w k n (g, z, o) pc V (.int v :: .int i :: .ref (w.2.1 37) :: st) :=
  zr_iast hG (hW _) 37 0 rfl rfl hi (zq_w w (g, zs_a z 8 i v, o)) rfl hd kk
theorem zl_38 (hG : zq_G x w own cc nL rm) (hi : vp_in i 6) (hd : decode cc pc = .ok (.iaload, 1)) (kk : zq_W x w k n (g, z, o) (pc + 1) V (.int (z.2 9 i.toNatClampNeg) :: st)) : zq_W x w k n (g, z, o) pc V (.int i :: .ref (w.2.1 38) :: st) :=
  zr_iald hG 38 0 rfl rfl hi hd kk
theorem zu_38 (hG : zq_G x w own cc nL rm) (hW : zq_Wr x w) (hi : vp_in i 6) (hd : decode cc pc = .ok (.iastore, 1)) (kk : zq_W x w k n (g, zs_a z 9 i v, o) (pc + 1) V st) : zq_W x w k n (g, z, o) pc V (.int v :: .int i :: .ref (w.2.1 38) :: st) :=
  zr_iast hG (hW _) 38 0 rfl rfl hi (zq_w w (g, zs_a z 9 i v, o)) rfl hd kk
theorem zl_39 (hG : zq_G x w own cc nL rm) (hi : vp_in i 6) (hd : decode cc pc = .ok (.iaload, 1)) (kk : zq_W x w k n (g, z, o) (pc + 1) V (.int (z.2 10 i.toNatClampNeg) :: st)) : zq_W x w k n (g, z, o) pc V (.int i :: .ref (w.2.1 39) :: st) :=
  zr_iald hG 39 0 rfl rfl hi hd kk
theorem zu_39 (hG : zq_G x w own cc nL rm) (hW : zq_Wr x w) (hi : vp_in i 6) (hd : decode cc pc = .ok (.iastore, 1)) (kk : zq_W x w k n (g, zs_a z 10 i v, o) (pc + 1) V st) : zq_W x w k n (g, z, o) pc V (.int v :: .int i :: .ref (w.2.1 39) :: st) :=
  zr_iast hG (hW _) 39 0 rfl rfl hi (zq_w w (g, zs_a z 10 i v, o)) rfl hd kk
theorem zv_19 {sp dp c : Int32} (hG : zq_G x w own cc nL rm) (hW : zq_Wr x w) (hl1 : Cond.methodLink own index arraycopyName ∈ zq_T) (hl2 : Cond.native arraycopyName ∈ zq_T) (hl3 : Cond.static arraycopyName ∈ zq_T) (hl4 : Cond.initialized "java/lang/System" ∈ zq_T) (hRm : 1 ≤ rm.frames ∧ (st.map fun v => v.category).sum + (nativeFrameWords "java/lang/System" "arraycopy" 5 + 11) ≤ rm.locals) (hV : V.length = nL) (h1 : ¬ sp < 0) (h2 : ¬ dp < 0) (h3 : ¬ c < 0) (h4 : sp.toNatClampNeg + c.toNatClampNeg ≤ w.2.2.1 17) (h5 : dp.toNatClampNeg + c.toNatClampNeg ≤ w.2.2.1 17) (hd : decode cc pc = .ok (.invokestatic index, 3)) (kk : zq_W x w k n (zs_r z 17 (va_cpy (z.2 17) (z.2 17) sp.toNatClampNeg dp.toNatClampNeg c.toNatClampNeg), g, o) (pc + 3) V st) : zq_W x w k n (z, g, o) pc V (.int c :: .int dp :: .ref (w.2.1 19) :: .int sp :: .ref (w.2.1 19) :: st) :=
  zr_acp hG hW hl1 hl2 hl3 hl4 hRm hV 19 rfl h1 h2 h3 h4 h5 (zs_r z 17 (va_cpy (z.2 17) (z.2 17) sp.toNatClampNeg dp.toNatClampNeg c.toNatClampNeg), g, o) rfl hd kk
end ZF
theorem zq_sw0_2 {a : Int32} (h0 : ¬ a = 0) (h1 : ¬ a = 1) (h2 : ¬ a = 2) : a.toInt < 0 ∨ 2 < a.toInt := by
  have e0 : ¬ a.toInt = 0 := lv_neT h0 (by decide)
  have e1 : ¬ a.toInt = 1 := lv_neT h1 (by decide)
  have e2 : ¬ a.toInt = 2 := lv_neT h2 (by decide)
  omega
theorem zq_sw0_3 {a : Int32} (h0 : ¬ a = 0) (h1 : ¬ a = 1) (h2 : ¬ a = 2) (h3 : ¬ a = 3) : a.toInt < 0 ∨ 3 < a.toInt := by
  have e0 : ¬ a.toInt = 0 := lv_neT h0 (by decide)
  have e1 : ¬ a.toInt = 1 := lv_neT h1 (by decide)
  have e2 : ¬ a.toInt = 2 := lv_neT h2 (by decide)
  have e3 : ¬ a.toInt = 3 := lv_neT h3 (by decide)
  omega
theorem zq_sw0_4 {a : Int32} (h0 : ¬ a = 0) (h1 : ¬ a = 1) (h2 : ¬ a = 2) (h3 : ¬ a = 3) (h4 : ¬ a = 4) : a.toInt < 0 ∨ 4 < a.toInt := by
  have e0 : ¬ a.toInt = 0 := lv_neT h0 (by decide)
  have e1 : ¬ a.toInt = 1 := lv_neT h1 (by decide)
  have e2 : ¬ a.toInt = 2 := lv_neT h2 (by decide)
  have e3 : ¬ a.toInt = 3 := lv_neT h3 (by decide)
  have e4 : ¬ a.toInt = 4 := lv_neT h4 (by decide)
  omega
theorem zq_sw0_12 {a : Int32} (h0 : ¬ a = 0) (h1 : ¬ a = 1) (h2 : ¬ a = 2) (h3 : ¬ a = 3) (h4 : ¬ a = 4) (h5 : ¬ a = 5) (h6 : ¬ a = 6) (h7 : ¬ a = 7) (h8 : ¬ a = 8) (h9 : ¬ a = 9) (h10 : ¬ a = 10) (h11 : ¬ a = 11) (h12 : ¬ a = 12) : a.toInt < 0 ∨ 12 < a.toInt := by
  have e0 : ¬ a.toInt = 0 := lv_neT h0 (by decide)
  have e1 : ¬ a.toInt = 1 := lv_neT h1 (by decide)
  have e2 : ¬ a.toInt = 2 := lv_neT h2 (by decide)
  have e3 : ¬ a.toInt = 3 := lv_neT h3 (by decide)
  have e4 : ¬ a.toInt = 4 := lv_neT h4 (by decide)
  have e5 : ¬ a.toInt = 5 := lv_neT h5 (by decide)
  have e6 : ¬ a.toInt = 6 := lv_neT h6 (by decide)
  have e7 : ¬ a.toInt = 7 := lv_neT h7 (by decide)
  have e8 : ¬ a.toInt = 8 := lv_neT h8 (by decide)
  have e9 : ¬ a.toInt = 9 := lv_neT h9 (by decide)
  have e10 : ¬ a.toInt = 10 := lv_neT h10 (by decide)
  have e11 : ¬ a.toInt = 11 := lv_neT h11 (by decide)
  have e12 : ¬ a.toInt = 12 := lv_neT h12 (by decide)
  omega
