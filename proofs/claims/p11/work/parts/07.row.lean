theorem dX3_init_0 : decode cX3_init 0 = .ok (.aload_n 0, 1) := by decide +kernel
theorem dX3_init_1 : decode cX3_init 1 = .ok (.invokespecial 1, 3) := by decide +kernel
theorem dX3_init_4 : decode cX3_init 4 = .ok (.aload_n 0, 1) := by decide +kernel
theorem dX3_init_5 : decode cX3_init 5 = .ok (.iload_n 1, 1) := by decide +kernel
theorem dX3_init_6 : decode cX3_init 6 = .ok (.ifCond .le 7, 3) := by decide +kernel
theorem dX3_init_9 : decode cX3_init 9 = .ok (.iload_n 1, 1) := by decide +kernel
theorem dX3_init_10 : decode cX3_init 10 = .ok (.goto 4, 3) := by decide +kernel
theorem dX3_init_13 : decode cX3_init 13 = .ok (.iconst 0, 1) := by decide +kernel
theorem dX3_init_14 : decode cX3_init 14 = .ok (.newarray .int, 2) := by decide +kernel
theorem dX3_init_16 : decode cX3_init 16 = .ok (.putfield 7, 3) := by decide +kernel
theorem dX3_init_19 : decode cX3_init 19 = .ok (.aload_n 0, 1) := by decide +kernel
theorem dX3_init_20 : decode cX3_init 20 = .ok (.iload_n 2, 1) := by decide +kernel
theorem dX3_init_21 : decode cX3_init 21 = .ok (.invokevirtual 13, 3) := by decide +kernel
theorem dX3_init_24 : decode cX3_init 24 = .ok (.return_, 1) := by decide +kernel
theorem dX3_get_0 : decode cX3_get 0 = .ok (.iload_n 1, 1) := by decide +kernel
theorem dX3_get_1 : decode cX3_get 1 = .ok (.ifCond .lt 21, 3) := by decide +kernel
theorem dX3_get_4 : decode cX3_get 4 = .ok (.iload_n 1, 1) := by decide +kernel
theorem dX3_get_5 : decode cX3_get 5 = .ok (.aload_n 0, 1) := by decide +kernel
theorem dX3_get_6 : decode cX3_get 6 = .ok (.getfield 7, 3) := by decide +kernel
theorem dX3_get_9 : decode cX3_get 9 = .ok (.arraylength, 1) := by decide +kernel
theorem dX3_get_10 : decode cX3_get 10 = .ok (.if_icmp .ge 12, 3) := by decide +kernel
theorem dX3_get_13 : decode cX3_get 13 = .ok (.aload_n 0, 1) := by decide +kernel
theorem dX3_get_14 : decode cX3_get 14 = .ok (.getfield 7, 3) := by decide +kernel
theorem dX3_get_17 : decode cX3_get 17 = .ok (.iload_n 1, 1) := by decide +kernel
theorem dX3_get_18 : decode cX3_get 18 = .ok (.iaload, 1) := by decide +kernel
theorem dX3_get_19 : decode cX3_get 19 = .ok (.goto 4, 3) := by decide +kernel
theorem dX3_get_22 : decode cX3_get 22 = .ok (.iconst 0, 1) := by decide +kernel
theorem dX3_get_23 : decode cX3_get 23 = .ok (.ireturn, 1) := by decide +kernel
theorem dX3_put_0 : decode cX3_put 0 = .ok (.iload_n 1, 1) := by decide +kernel
theorem dX3_put_1 : decode cX3_put 1 = .ok (.ifCond .lt 19, 3) := by decide +kernel
theorem dX3_put_4 : decode cX3_put 4 = .ok (.iload_n 1, 1) := by decide +kernel
theorem dX3_put_5 : decode cX3_put 5 = .ok (.aload_n 0, 1) := by decide +kernel
theorem dX3_put_6 : decode cX3_put 6 = .ok (.getfield 7, 3) := by decide +kernel
theorem dX3_put_9 : decode cX3_put 9 = .ok (.arraylength, 1) := by decide +kernel
theorem dX3_put_10 : decode cX3_put 10 = .ok (.if_icmp .ge 10, 3) := by decide +kernel
theorem dX3_put_13 : decode cX3_put 13 = .ok (.aload_n 0, 1) := by decide +kernel
theorem dX3_put_14 : decode cX3_put 14 = .ok (.getfield 7, 3) := by decide +kernel
theorem dX3_put_17 : decode cX3_put 17 = .ok (.iload_n 1, 1) := by decide +kernel
theorem dX3_put_18 : decode cX3_put 18 = .ok (.iload_n 2, 1) := by decide +kernel
theorem dX3_put_19 : decode cX3_put 19 = .ok (.iastore, 1) := by decide +kernel
theorem dX3_put_20 : decode cX3_put 20 = .ok (.return_, 1) := by decide +kernel
theorem dX3_fill_0 : decode cX3_fill 0 = .ok (.iconst 0, 1) := by decide +kernel
theorem dX3_fill_1 : decode cX3_fill 1 = .ok (.istore_n 2, 1) := by decide +kernel
theorem dX3_fill_2 : decode cX3_fill 2 = .ok (.iload_n 2, 1) := by decide +kernel
theorem dX3_fill_3 : decode cX3_fill 3 = .ok (.aload_n 0, 1) := by decide +kernel
theorem dX3_fill_4 : decode cX3_fill 4 = .ok (.getfield 7, 3) := by decide +kernel
theorem dX3_fill_7 : decode cX3_fill 7 = .ok (.arraylength, 1) := by decide +kernel
theorem dX3_fill_8 : decode cX3_fill 8 = .ok (.if_icmp .ge 16, 3) := by decide +kernel
theorem dX3_fill_11 : decode cX3_fill 11 = .ok (.aload_n 0, 1) := by decide +kernel
theorem dX3_fill_12 : decode cX3_fill 12 = .ok (.getfield 7, 3) := by decide +kernel
theorem dX3_fill_15 : decode cX3_fill 15 = .ok (.iload_n 2, 1) := by decide +kernel
theorem dX3_fill_16 : decode cX3_fill 16 = .ok (.iload_n 1, 1) := by decide +kernel
theorem dX3_fill_17 : decode cX3_fill 17 = .ok (.iastore, 1) := by decide +kernel
theorem dX3_fill_18 : decode cX3_fill 18 = .ok (.iinc 2 1, 3) := by decide +kernel
theorem dX3_fill_21 : decode cX3_fill 21 = .ok (.goto (-19), 3) := by decide +kernel
theorem dX3_fill_24 : decode cX3_fill 24 = .ok (.return_, 1) := by decide +kernel
theorem dX3_copy_0 : decode cX3_copy 0 = .ok (.iconst 0, 1) := by decide +kernel
theorem dX3_copy_1 : decode cX3_copy 1 = .ok (.istore_n 2, 1) := by decide +kernel
theorem dX3_copy_2 : decode cX3_copy 2 = .ok (.iload_n 2, 1) := by decide +kernel
theorem dX3_copy_3 : decode cX3_copy 3 = .ok (.aload_n 0, 1) := by decide +kernel
theorem dX3_copy_4 : decode cX3_copy 4 = .ok (.getfield 7, 3) := by decide +kernel
theorem dX3_copy_7 : decode cX3_copy 7 = .ok (.arraylength, 1) := by decide +kernel
theorem dX3_copy_8 : decode cX3_copy 8 = .ok (.if_icmp .ge 20, 3) := by decide +kernel
theorem dX3_copy_11 : decode cX3_copy 11 = .ok (.aload_n 0, 1) := by decide +kernel
theorem dX3_copy_12 : decode cX3_copy 12 = .ok (.getfield 7, 3) := by decide +kernel
theorem dX3_copy_15 : decode cX3_copy 15 = .ok (.iload_n 2, 1) := by decide +kernel
theorem dX3_copy_16 : decode cX3_copy 16 = .ok (.aload_n 1, 1) := by decide +kernel
theorem dX3_copy_17 : decode cX3_copy 17 = .ok (.iload_n 2, 1) := by decide +kernel
theorem dX3_copy_18 : decode cX3_copy 18 = .ok (.invokevirtual 17, 3) := by decide +kernel
theorem dX3_copy_21 : decode cX3_copy 21 = .ok (.iastore, 1) := by decide +kernel
theorem dX3_copy_22 : decode cX3_copy 22 = .ok (.iinc 2 1, 3) := by decide +kernel
theorem dX3_copy_25 : decode cX3_copy 25 = .ok (.goto (-23), 3) := by decide +kernel
theorem dX3_copy_28 : decode cX3_copy 28 = .ok (.return_, 1) := by decide +kernel
def p_X3_get (n_this : Nat) (f_this_cells : Nat → Int32) (x1 : Int32) : Option (Int32) :=
  if x1 < 0 then (some 0)
  else (if (nI n_this) ≤ x1 then (some 0)
  else (z_ald n_this f_this_cells x1 (fun y1 => some y1)))
theorem gw_96 : Cond.fieldLink RX3 7 "ScoreReader$Row" "cells" "[I" ∈ GW := GW_of 96 (by decide +kernel) (by decide +kernel)
def gs_X3_get : List Cond := Cond.code yX3_get cX3_get 2 (some .int) :: GW
def wd_X3_get (cI cJ cZ : ClassId) (a_this a_this_cells n_this : Nat) (f_this_cells : Nat → Int32) : va_W := [(a_this, .inr (3, [.ref a_this_cells])), (a_this_cells, .inl (cI, n_this, .inl f_this_cells))]
abbrev rm_X3_get : Room := { frames := 0, cells := 0, slots := 0, locals := 0 }
theorem hd_X3_get : yX3_get.cls = RX3 ∧ yX3_get.cls ≠ "java/lang/invoke/MethodHandle" ∧ yX3_get.cls ≠ "java/lang/invoke/VarHandle" ∧ (parseMethodDescriptor yX3_get.desc).map (fun d => d.parameters.length) = some 1 := by decide +kernel
set_option maxHeartbeats 4000000 in
set_option maxRecDepth 100000 in
theorem c_X3_get (l : Launch) (D : va_G) (cI cJ cZ : ClassId) (a_this a_this_cells n_this : Nat) (f_this_cells : Nat → Int32) (x1 : Int32) (o : Int32) (h : p_X3_get n_this f_this_cells x1 = some o) : zMi l D (zT cI cJ cZ) yX3_get gs_X3_get rm_X3_get [.ref a_this, .int x1] (wd_X3_get cI cJ cZ a_this a_this_cells n_this f_this_cells) (wd_X3_get cI cJ cZ a_this a_this_cells n_this f_this_cells) (o) := by
  refine zMet_i (own := RX3) (fun u => (wd_X3_get cI cJ cZ a_this a_this_cells n_this f_this_cells)) (fun u => u) (by decide) rfl rfl (Nat.le_of_ble_eq_true rfl) ?_
  intro p e s m args below meth c A Q S hK hA hw ret ls hl
  replace hl : lv_has ls 2 [(0, .ref a_this), (1, .int x1)] := hl
  refine lv_iload_n S.1 S.2.1 dX3_get_0 rfl (lv_at hl 1 rfl) ?_
  refine z_if_lt S (tgt := 22) h dX3_get_1 (by decide) (fun h => ?_) (fun h => ?_)
  · refine lv_iconst (v := 0) S.1 S.2.1 dX3_get_22 (by decide) ?_
    exact ret 0 h 23 ls _ _ dX3_get_23 hw
  · refine lv_iload_n S.1 S.2.1 dX3_get_4 rfl (lv_at hl 1 rfl) ?_
    refine lv_aload_n S.1 S.2.1 dX3_get_5 rfl (lv_at hl 0 rfl) ?_
    refine z_get S (C := RX3) (T := TX3) (N := 1) (gi gu_X3) hK hw 0 rfl rfl 0 (Nat.le_of_ble_eq_true rfl) (List.mem_cons_of_mem _ gw_96) rfl dX3_get_6 ?_
    refine z_alen S hK hw 1 0 rfl (ty := .int) rfl (v := (nI n_this)) rfl dX3_get_9 ?_
    refine z_icmp_ge S (tgt := 22) h dX3_get_10 (by decide) (fun h => ?_) (fun h => ?_)
    · refine lv_iconst (v := 0) S.1 S.2.1 dX3_get_22 (by decide) ?_
      exact ret 0 h 23 ls _ _ dX3_get_23 hw
    · refine lv_aload_n S.1 S.2.1 dX3_get_13 rfl (lv_at hl 0 rfl) ?_
      refine z_get S (C := RX3) (T := TX3) (N := 1) (gi gu_X3) hK hw 0 rfl rfl 0 (Nat.le_of_ble_eq_true rfl) (List.mem_cons_of_mem _ gw_96) rfl dX3_get_14 ?_
      refine lv_iload_n S.1 S.2.1 dX3_get_17 rfl (lv_at hl 1 rfl) ?_
      refine z_iald S hK hw 1 0 rfl rfl h dX3_get_18 (fun y1 h => ?_)
      refine lv_goto (tgt := 23) S.1 S.2.1 dX3_get_19 (by decide) ?_
      exact ret y1 h 23 ls _ _ dX3_get_23 hw
def p_X3_put (n_this : Nat) (f_this_cells : Nat → Int32) (x1 : Int32) (x2 : Int32) : Option ((Nat → Int32)) :=
  if x1 < 0 then (some f_this_cells)
  else (if (nI n_this) ≤ x1 then (some f_this_cells)
  else (z_ast n_this f_this_cells x1 x2 (fun f1 => some f1)))

def gs_X3_put : List Cond := Cond.code yX3_put cX3_put 3 none :: GW
def wd_X3_put (cI cJ cZ : ClassId) (a_this a_this_cells n_this : Nat) (f_this_cells : Nat → Int32) : va_W := [(a_this, .inr (3, [.ref a_this_cells])), (a_this_cells, .inl (cI, n_this, .inl f_this_cells))]
abbrev rm_X3_put : Room := { frames := 0, cells := 0, slots := 0, locals := 0 }
theorem hd_X3_put : yX3_put.cls = RX3 ∧ yX3_put.cls ≠ "java/lang/invoke/MethodHandle" ∧ yX3_put.cls ≠ "java/lang/invoke/VarHandle" ∧ (parseMethodDescriptor yX3_put.desc).map (fun d => d.parameters.length) = some 2 := by decide +kernel
set_option maxHeartbeats 4000000 in
set_option maxRecDepth 100000 in
theorem c_X3_put (l : Launch) (D : va_G) (cI cJ cZ : ClassId) (a_this a_this_cells n_this : Nat) (f_this_cells : Nat → Int32) (x1 : Int32) (x2 : Int32) (o : (Nat → Int32)) (h : p_X3_put n_this f_this_cells x1 x2 = some o) : zMv l D (zT cI cJ cZ) yX3_put gs_X3_put rm_X3_put [.ref a_this, .int x1, .int x2] (wd_X3_put cI cJ cZ a_this a_this_cells n_this f_this_cells) (wd_X3_put cI cJ cZ a_this a_this_cells n_this o) := by
  refine zMet_v (own := RX3) (fun u => (wd_X3_put cI cJ cZ a_this a_this_cells n_this u)) (by decide) rfl rfl (Nat.le_of_ble_eq_true rfl) ?_
  intro p e s m args below meth c A Q S hK hA hw ret ls hl
  replace hl : lv_has ls 3 [(0, .ref a_this), (1, .int x1), (2, .int x2)] := hl
  refine lv_iload_n S.1 S.2.1 dX3_put_0 rfl (lv_at hl 1 rfl) ?_
  refine z_if_lt S (tgt := 20) h dX3_put_1 (by decide) (fun h => ?_) (fun h => ?_)
  · exact ret f_this_cells h 20 ls _ _ dX3_put_20 hw
  · refine lv_iload_n S.1 S.2.1 dX3_put_4 rfl (lv_at hl 1 rfl) ?_
    refine lv_aload_n S.1 S.2.1 dX3_put_5 rfl (lv_at hl 0 rfl) ?_
    refine z_get S (C := RX3) (T := TX3) (N := 1) (gi gu_X3) hK hw 0 rfl rfl 0 (Nat.le_of_ble_eq_true rfl) (List.mem_cons_of_mem _ gw_96) rfl dX3_put_6 ?_
    refine z_alen S hK hw 1 0 rfl (ty := .int) rfl (v := (nI n_this)) rfl dX3_put_9 ?_
    refine z_icmp_ge S (tgt := 20) h dX3_put_10 (by decide) (fun h => ?_) (fun h => ?_)
    · exact ret f_this_cells h 20 ls _ _ dX3_put_20 hw
    · refine lv_aload_n S.1 S.2.1 dX3_put_13 rfl (lv_at hl 0 rfl) ?_
      refine z_get S (C := RX3) (T := TX3) (N := 1) (gi gu_X3) hK hw 0 rfl rfl 0 (Nat.le_of_ble_eq_true rfl) (List.mem_cons_of_mem _ gw_96) rfl dX3_put_14 ?_
      refine lv_iload_n S.1 S.2.1 dX3_put_17 rfl (lv_at hl 1 rfl) ?_
      refine lv_iload_n S.1 S.2.1 dX3_put_18 rfl (lv_at hl 2 rfl) ?_
      refine z_iast S hK hw 1 0 rfl rfl h dX3_put_19 (fun f1 H locs hw h => ?_)
      replace hw : zW D A s H locs (wd_X3_put cI cJ cZ a_this a_this_cells n_this f1) := hw
      exact ret f1 h 20 ls _ _ dX3_put_20 hw
def p_X3_fill_l2 (n_this : Nat) (x1 : Int32) (kb_2 : (Nat → Int32) → Int32 → Option ((Nat → Int32))) (f1 : Nat → Int32) (x2 : Int32) : Option ((Nat → Int32)) :=
  if (nI n_this) ≤ x2 then (some f1)
  else (z_ast n_this f1 x2 x1 (fun f3 => z_let (x2 + 1) (fun y4 => kb_2 f3 y4)))
def p_X3_fill (K : Nat) (n_this : Nat) (f_this_cells : Nat → Int32) (x1 : Int32) : Option ((Nat → Int32)) :=
  z_lp2 (p_X3_fill_l2 n_this x1) K f_this_cells 0

def gs_X3_fill : List Cond := Cond.code yX3_fill cX3_fill 3 none :: GW
def wd_X3_fill (cI cJ cZ : ClassId) (a_this a_this_cells n_this : Nat) (f_this_cells : Nat → Int32) : va_W := [(a_this, .inr (3, [.ref a_this_cells])), (a_this_cells, .inl (cI, n_this, .inl f_this_cells))]
abbrev rm_X3_fill : Room := { frames := 0, cells := 0, slots := 0, locals := 0 }
theorem hd_X3_fill : yX3_fill.cls = RX3 ∧ yX3_fill.cls ≠ "java/lang/invoke/MethodHandle" ∧ yX3_fill.cls ≠ "java/lang/invoke/VarHandle" ∧ (parseMethodDescriptor yX3_fill.desc).map (fun d => d.parameters.length) = some 1 := by decide +kernel
set_option maxHeartbeats 4000000 in
set_option maxRecDepth 100000 in
theorem c_X3_fill (l : Launch) (D : va_G) (cI cJ cZ : ClassId) (a_this a_this_cells n_this : Nat) (f_this_cells : Nat → Int32) (K : Nat) (x1 : Int32) (o : (Nat → Int32)) (h : p_X3_fill K n_this f_this_cells x1 = some o) : zMv l D (zT cI cJ cZ) yX3_fill gs_X3_fill rm_X3_fill [.ref a_this, .int x1] (wd_X3_fill cI cJ cZ a_this a_this_cells n_this f_this_cells) (wd_X3_fill cI cJ cZ a_this a_this_cells n_this o) := by
  refine zMet_v (own := RX3) (fun u => (wd_X3_fill cI cJ cZ a_this a_this_cells n_this u)) (by decide) rfl rfl (Nat.le_of_ble_eq_true rfl) ?_
  intro p e s m args below meth c A Q S hK hA hw ret ls hl
  replace hl : lv_has ls 3 [(0, .ref a_this), (1, .int x1)] := hl
  refine lv_iconst (v := 0) S.1 S.2.1 dX3_fill_0 (by decide) ?_
  refine lv_istore_n (lv' := [(2, .int 0), (0, .ref a_this), (1, .int x1)]) S.1 S.2.1 dX3_fill_1 rfl hl (by decide) rfl (fun ls hl => ?_)
  have L_2 : ∀ (n2_2 : Nat) (f1 : Nat → Int32) (x2 : Int32) (h : z_lp2 (p_X3_fill_l2 n_this x1) n2_2 f1 x2 = some o) (H : Heap) (locs : List Loc) (ls : Array Slot), zW D A s H locs (wd_X3_fill cI cJ cZ a_this a_this_cells n_this f1) → lv_has ls 3 [(0, .ref a_this), (1, .int x1), (2, .int x2)] → W p l e (headSpec gs_X3_fill rm_X3_fill).room s m args below meth c H locs 0 0 Q (F0 m 2 ls []) := by
    intro n2_2
    induction n2_2 with
    | zero => intro f1 x2 h; exact z_no h
    | succ n2_2 ih_2 =>
      intro f1 x2 h H locs ls hw hl
      replace h : (p_X3_fill_l2 n_this x1) (z_lp2 (p_X3_fill_l2 n_this x1) n2_2) f1 x2 = some o := h
      refine lv_iload_n S.1 S.2.1 dX3_fill_2 rfl (lv_at hl 2 rfl) ?_
      refine lv_aload_n S.1 S.2.1 dX3_fill_3 rfl (lv_at hl 0 rfl) ?_
      refine z_get S (C := RX3) (T := TX3) (N := 1) (gi gu_X3) hK hw 0 rfl rfl 0 (Nat.le_of_ble_eq_true rfl) (List.mem_cons_of_mem _ gw_96) rfl dX3_fill_4 ?_
      refine z_alen S hK hw 1 0 rfl (ty := .int) rfl (v := (nI n_this)) rfl dX3_fill_7 ?_
      refine z_icmp_ge S (tgt := 24) h dX3_fill_8 (by decide) (fun h => ?_) (fun h => ?_)
      · exact ret f1 h 24 ls _ _ dX3_fill_24 hw
      · refine lv_aload_n S.1 S.2.1 dX3_fill_11 rfl (lv_at hl 0 rfl) ?_
        refine z_get S (C := RX3) (T := TX3) (N := 1) (gi gu_X3) hK hw 0 rfl rfl 0 (Nat.le_of_ble_eq_true rfl) (List.mem_cons_of_mem _ gw_96) rfl dX3_fill_12 ?_
        refine lv_iload_n S.1 S.2.1 dX3_fill_15 rfl (lv_at hl 2 rfl) ?_
        refine lv_iload_n S.1 S.2.1 dX3_fill_16 rfl (lv_at hl 1 rfl) ?_
        refine z_iast S hK hw 1 0 rfl rfl h dX3_fill_17 (fun f3 H locs hw h => ?_)
        replace hw : zW D A s H locs (wd_X3_fill cI cJ cZ a_this a_this_cells n_this f3) := hw
        refine z_iinc S (i := 2) (k := 2) (v := x2 + 1) hl rfl (by decide) rfl (fun v => (2, .int v) :: [(0, .ref a_this), (1, .int x1)]) (fun _ => rfl) h dX3_fill_18 (fun y4 ls hl h => ?_)
        replace hl : lv_has ls 3 [(2, .int y4), (0, .ref a_this), (1, .int x1)] := hl
        refine lv_goto (tgt := 2) S.1 S.2.1 dX3_fill_21 (by decide) ?_
        exact ih_2 f3 y4 h _ _ ls hw (lv_sub hl [1, 2, 0] rfl)
  exact L_2 K f_this_cells 0 h _ _ ls hw (lv_sub hl [1, 2, 0] rfl)
def p_X3_copy_l2 (n_this : Nat) (n_p1 : Nat) (f_p1_cells : Nat → Int32) (kb_2 : (Nat → Int32) → Int32 → Option ((Nat → Int32))) (f1 : Nat → Int32) (x2 : Int32) : Option ((Nat → Int32)) :=
  if (nI n_this) ≤ x2 then (some f1)
  else (z_b1 (p_X3_get n_p1 f_p1_cells x2) (fun y3 => z_ast n_this f1 x2 y3 (fun f4 => z_let (x2 + 1) (fun y5 => kb_2 f4 y5))))
def p_X3_copy (K : Nat) (n_this : Nat) (n_p1 : Nat) (f_this_cells : Nat → Int32) (f_p1_cells : Nat → Int32) : Option ((Nat → Int32)) :=
  z_lp2 (p_X3_copy_l2 n_this n_p1 f_p1_cells) K f_this_cells 0
theorem gw_628 : Cond.methodLink RX3 17 yX3_get ∈ GW := GW_of 628 (by decide +kernel) (by decide +kernel)
theorem gw_344 : Cond.code yX3_get cX3_get 2 (some .int) ∈ GW := GW_of 344 (by decide +kernel) (by decide +kernel)
theorem gw_53 : Cond.initialized RX3 ∈ GW := GW_of 53 (by decide +kernel) (by decide +kernel)
theorem gw_342 : Cond.instanceMethod yX3_get ∈ GW := GW_of 342 (by decide +kernel) (by decide +kernel)
theorem gw_343 : Cond.selects RX3 yX3_get yX3_get ∈ GW := GW_of 343 (by decide +kernel) (by decide +kernel)
def gs_X3_copy : List Cond := Cond.code yX3_copy cX3_copy 3 none :: GW
def wd_X3_copy (cI cJ cZ : ClassId) (a_this a_this_cells a_p1 a_p1_cells n_this n_p1 : Nat) (f_this_cells : Nat → Int32) (f_p1_cells : Nat → Int32) : va_W := [(a_this, .inr (3, [.ref a_this_cells])), (a_this_cells, .inl (cI, n_this, .inl f_this_cells)), (a_p1, .inr (3, [.ref a_p1_cells])), (a_p1_cells, .inl (cI, n_p1, .inl f_p1_cells))]
abbrev rm_X3_copy : Room := { frames := 1, cells := 0, slots := 0, locals := 21 }
theorem hd_X3_copy : yX3_copy.cls = RX3 ∧ yX3_copy.cls ≠ "java/lang/invoke/MethodHandle" ∧ yX3_copy.cls ≠ "java/lang/invoke/VarHandle" ∧ (parseMethodDescriptor yX3_copy.desc).map (fun d => d.parameters.length) = some 1 := by decide +kernel
set_option maxHeartbeats 4000000 in
set_option maxRecDepth 100000 in
theorem c_X3_copy (l : Launch) (D : va_G) (cI cJ cZ : ClassId) (a_this a_this_cells a_p1 a_p1_cells n_this n_p1 : Nat) (f_this_cells : Nat → Int32) (f_p1_cells : Nat → Int32) (K : Nat) (o : (Nat → Int32)) (h : p_X3_copy K n_this n_p1 f_this_cells f_p1_cells = some o) : zMv l D (zT cI cJ cZ) yX3_copy gs_X3_copy rm_X3_copy [.ref a_this, .ref a_p1] (wd_X3_copy cI cJ cZ a_this a_this_cells a_p1 a_p1_cells n_this n_p1 f_this_cells f_p1_cells) (wd_X3_copy cI cJ cZ a_this a_this_cells a_p1 a_p1_cells n_this n_p1 o f_p1_cells) := by
  refine zMet_v (own := RX3) (fun u => (wd_X3_copy cI cJ cZ a_this a_this_cells a_p1 a_p1_cells n_this n_p1 u f_p1_cells)) (by decide) rfl rfl (Nat.le_of_ble_eq_true rfl) ?_
  intro p e s m args below meth c A Q S hK hA hw ret ls hl
  replace hl : lv_has ls 3 [(0, .ref a_this), (1, .ref a_p1)] := hl
  refine lv_iconst (v := 0) S.1 S.2.1 dX3_copy_0 (by decide) ?_
  refine lv_istore_n (lv' := [(2, .int 0), (0, .ref a_this), (1, .ref a_p1)]) S.1 S.2.1 dX3_copy_1 rfl hl (by decide) rfl (fun ls hl => ?_)
  have L_2 : ∀ (n2_2 : Nat) (f1 : Nat → Int32) (x2 : Int32) (h : z_lp2 (p_X3_copy_l2 n_this n_p1 f_p1_cells) n2_2 f1 x2 = some o) (H : Heap) (locs : List Loc) (ls : Array Slot), zW D A s H locs (wd_X3_copy cI cJ cZ a_this a_this_cells a_p1 a_p1_cells n_this n_p1 f1 f_p1_cells) → lv_has ls 3 [(0, .ref a_this), (1, .ref a_p1), (2, .int x2)] → W p l e (headSpec gs_X3_copy rm_X3_copy).room s m args below meth c H locs 0 0 Q (F0 m 2 ls []) := by
    intro n2_2
    induction n2_2 with
    | zero => intro f1 x2 h; exact z_no h
    | succ n2_2 ih_2 =>
      intro f1 x2 h H locs ls hw hl
      replace h : (p_X3_copy_l2 n_this n_p1 f_p1_cells) (z_lp2 (p_X3_copy_l2 n_this n_p1 f_p1_cells) n2_2) f1 x2 = some o := h
      refine lv_iload_n S.1 S.2.1 dX3_copy_2 rfl (lv_at hl 2 rfl) ?_
      refine lv_aload_n S.1 S.2.1 dX3_copy_3 rfl (lv_at hl 0 rfl) ?_
      refine z_get S (C := RX3) (T := TX3) (N := 1) (gi gu_X3) hK hw 0 rfl rfl 0 (Nat.le_of_ble_eq_true rfl) (List.mem_cons_of_mem _ gw_96) rfl dX3_copy_4 ?_
      refine z_alen S hK hw 1 0 rfl (ty := .int) rfl (v := (nI n_this)) rfl dX3_copy_7 ?_
      refine z_icmp_ge S (tgt := 28) h dX3_copy_8 (by decide) (fun h => ?_) (fun h => ?_)
      · exact ret f1 h 28 ls _ _ dX3_copy_28 hw
      · refine lv_aload_n S.1 S.2.1 dX3_copy_11 rfl (lv_at hl 0 rfl) ?_
        refine z_get S (C := RX3) (T := TX3) (N := 1) (gi gu_X3) hK hw 0 rfl rfl 0 (Nat.le_of_ble_eq_true rfl) (List.mem_cons_of_mem _ gw_96) rfl dX3_copy_12 ?_
        refine lv_iload_n S.1 S.2.1 dX3_copy_15 rfl (lv_at hl 2 rfl) ?_
        refine lv_aload_n S.1 S.2.1 dX3_copy_16 rfl (lv_at hl 1 rfl) ?_
        refine lv_iload_n S.1 S.2.1 dX3_copy_17 rfl (lv_at hl 2 rfl) ?_
        obtain ⟨y3, hc, h⟩ := z_b1_e h
        refine z_callVi (As := [.int x2]) (rest := [.int x2, .ref a_this_cells]) S (c_X3_get l D cI cJ cZ a_p1 a_p1_cells n_p1 f_p1_cells x2 _ hc) (cwV 1 S.2.2.2.2 (gw_V gw_628 gw_342 gw_343 gw_53 gw_344) rfl rfl rfl hd_X3_get ⟨Nat.le_of_ble_eq_true rfl, Nat.le_of_ble_eq_true rfl⟩) hK hA hw [2, 3] (by decide) rfl rfl 2 rfl rfl hl.1 rfl rfl (lv_room (Nat.le_of_ble_eq_true rfl)) ⟨Nat.zero_le _, Nat.zero_le _⟩ dX3_copy_18 (fun H locs hw => ?_)
        replace hw : zW D A s H locs (wd_X3_copy cI cJ cZ a_this a_this_cells a_p1 a_p1_cells n_this n_p1 f1 f_p1_cells) := hw
        refine z_iast S hK hw 1 0 rfl rfl h dX3_copy_21 (fun f4 H locs hw h => ?_)
        replace hw : zW D A s H locs (wd_X3_copy cI cJ cZ a_this a_this_cells a_p1 a_p1_cells n_this n_p1 f4 f_p1_cells) := hw
        refine z_iinc S (i := 2) (k := 2) (v := x2 + 1) hl rfl (by decide) rfl (fun v => (2, .int v) :: [(0, .ref a_this), (1, .ref a_p1)]) (fun _ => rfl) h dX3_copy_22 (fun y5 ls hl h => ?_)
        replace hl : lv_has ls 3 [(2, .int y5), (0, .ref a_this), (1, .ref a_p1)] := hl
        refine lv_goto (tgt := 2) S.1 S.2.1 dX3_copy_25 (by decide) ?_
        exact ih_2 f4 y5 h _ _ ls hw (lv_sub hl [1, 2, 0] rfl)
  exact L_2 K f_this_cells 0 h _ _ ls hw (lv_sub hl [1, 2, 0] rfl)
