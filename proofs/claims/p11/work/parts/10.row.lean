theorem gw_96 : Cond.fieldLink RX3 7 "ScoreReader$Row" "cells" "[I" ∈ GW := GW_of 96 (by decide +kernel) (by decide +kernel)
def gs_X3_get : List Cond := Cond.code yX3_get cX3_get 2 (some .int) :: GW
def wd_X3_get (cI cJ cZ : ClassId) (a_this a_this_cells n_this : Nat) (f_this_cells : Nat → Int32) : va_W := [(a_this, .inr (3, [.ref a_this_cells])), (a_this_cells, .inl (cI, n_this, .inl f_this_cells))]
abbrev rm_X3_get : Room := { frames := 0, cells := 0, slots := 0, locals := 0 }
theorem hd_X3_get : yX3_get.cls = RX3 ∧ yX3_get.cls ≠ "java/lang/invoke/MethodHandle" ∧ yX3_get.cls ≠ "java/lang/invoke/VarHandle" ∧ (parseMethodDescriptor yX3_get.desc).map (fun d => d.parameters.length) = some 1 := by decide +kernel
set_option maxHeartbeats 4000000 in
set_option maxRecDepth 100000 in
theorem c_X3_get (l : Launch) (D : va_G) (cI cJ cZ : ClassId) (a_this a_this_cells n_this : Nat) (f_this_cells : Nat → Int32) (i1 : Int32) (o : Int32) (h : p_X3_get n_this f_this_cells i1 = some o) : zMi l D (zT cI cJ cZ) yX3_get gs_X3_get rm_X3_get [.ref a_this, .int i1] (wd_X3_get cI cJ cZ a_this a_this_cells n_this f_this_cells) (wd_X3_get cI cJ cZ a_this a_this_cells n_this f_this_cells) (o) := by
  refine zMet_i (own := RX3) (fun u : Int32 => (wd_X3_get cI cJ cZ a_this a_this_cells n_this f_this_cells)) (fun u : Int32 => u) (by decide) rfl rfl (Nat.le_of_ble_eq_true rfl) ?_
  intro p e s m args below meth c A Q S hK hA hw ret ls hl
  replace hl : lv_has ls 2 [(0, .ref a_this), (1, .int i1)] := hl
  refine lv_iload_n S.1 S.2.1 dX3_get_0 rfl (lv_at hl 1 rfl) ?_
  refine z_if_lt S (tgt := 22) h dX3_get_1 (by decide) (fun h => ?_) (fun h => ?_)
  · refine lv_iconst (v := 0) S.1 S.2.1 dX3_get_22 (by decide) ?_
    exact ret 0 h 23 ls _ _ dX3_get_23 hw
  · refine lv_iload_n S.1 S.2.1 dX3_get_4 rfl (lv_at hl 1 rfl) ?_
    refine lv_aload_n S.1 S.2.1 dX3_get_5 rfl (lv_at hl 0 rfl) ?_
    refine z_get S (C := RX3) (T := TX3) (N := 1) (gi gu_X3) hK hw 0 rfl rfl 0 (Nat.le_of_ble_eq_true rfl) (List.mem_cons_of_mem _ gw_96) rfl dX3_get_6 ?_
    refine z_alen S hK hw 1 0 rfl (ty := .int) rfl (v := (nI n_this)) rfl dX3_get_9 ?_
    refine z_icmp_ge S (tgt := 22) h dX3_get_10 (by decide) (fun h => ?_) (fun h => ?_)
    · refine lv_iconst (v := 0) S.1 S.2.1 dX3_get_22 (by decide) ?_
      exact ret 0 h 23 ls _ _ dX3_get_23 hw
    · refine lv_aload_n S.1 S.2.1 dX3_get_13 rfl (lv_at hl 0 rfl) ?_
      refine z_get S (C := RX3) (T := TX3) (N := 1) (gi gu_X3) hK hw 0 rfl rfl 0 (Nat.le_of_ble_eq_true rfl) (List.mem_cons_of_mem _ gw_96) rfl dX3_get_14 ?_
      refine lv_iload_n S.1 S.2.1 dX3_get_17 rfl (lv_at hl 1 rfl) ?_
      refine z_iald S hK hw 1 0 rfl rfl h dX3_get_18 (fun y1 h => ?_)
      refine lv_goto (tgt := 23) S.1 S.2.1 dX3_get_19 (by decide) ?_
      exact ret y1 h 23 ls _ _ dX3_get_23 hw
def gs_X3_put : List Cond := Cond.code yX3_put cX3_put 3 none :: GW
def wd_X3_put (cI cJ cZ : ClassId) (a_this a_this_cells n_this : Nat) (f_this_cells : Nat → Int32) : va_W := [(a_this, .inr (3, [.ref a_this_cells])), (a_this_cells, .inl (cI, n_this, .inl f_this_cells))]
abbrev rm_X3_put : Room := { frames := 0, cells := 0, slots := 0, locals := 0 }
theorem hd_X3_put : yX3_put.cls = RX3 ∧ yX3_put.cls ≠ "java/lang/invoke/MethodHandle" ∧ yX3_put.cls ≠ "java/lang/invoke/VarHandle" ∧ (parseMethodDescriptor yX3_put.desc).map (fun d => d.parameters.length) = some 2 := by decide +kernel
set_option maxHeartbeats 4000000 in
set_option maxRecDepth 100000 in
theorem c_X3_put (l : Launch) (D : va_G) (cI cJ cZ : ClassId) (a_this a_this_cells n_this : Nat) (f_this_cells : Nat → Int32) (i1 : Int32) (i2 : Int32) (o : (Nat → Int32)) (h : p_X3_put n_this f_this_cells i1 i2 = some o) : zMv l D (zT cI cJ cZ) yX3_put gs_X3_put rm_X3_put [.ref a_this, .int i1, .int i2] (wd_X3_put cI cJ cZ a_this a_this_cells n_this f_this_cells) (wd_X3_put cI cJ cZ a_this a_this_cells n_this o) := by
  refine zMet_v (own := RX3) (fun u : (Nat → Int32) => (wd_X3_put cI cJ cZ a_this a_this_cells n_this u)) (by decide) rfl rfl (Nat.le_of_ble_eq_true rfl) ?_
  intro p e s m args below meth c A Q S hK hA hw ret ls hl
  replace hl : lv_has ls 3 [(0, .ref a_this), (1, .int i1), (2, .int i2)] := hl
  refine lv_iload_n S.1 S.2.1 dX3_put_0 rfl (lv_at hl 1 rfl) ?_
  refine z_if_lt S (tgt := 20) h dX3_put_1 (by decide) (fun h => ?_) (fun h => ?_)
  · exact ret f_this_cells h 20 ls _ _ dX3_put_20 hw
  · refine lv_iload_n S.1 S.2.1 dX3_put_4 rfl (lv_at hl 1 rfl) ?_
    refine lv_aload_n S.1 S.2.1 dX3_put_5 rfl (lv_at hl 0 rfl) ?_
    refine z_get S (C := RX3) (T := TX3) (N := 1) (gi gu_X3) hK hw 0 rfl rfl 0 (Nat.le_of_ble_eq_true rfl) (List.mem_cons_of_mem _ gw_96) rfl dX3_put_6 ?_
    refine z_alen S hK hw 1 0 rfl (ty := .int) rfl (v := (nI n_this)) rfl dX3_put_9 ?_
    refine z_icmp_ge S (tgt := 20) h dX3_put_10 (by decide) (fun h => ?_) (fun h => ?_)
    · exact ret f_this_cells h 20 ls _ _ dX3_put_20 hw
    · refine lv_aload_n S.1 S.2.1 dX3_put_13 rfl (lv_at hl 0 rfl) ?_
      refine z_get S (C := RX3) (T := TX3) (N := 1) (gi gu_X3) hK hw 0 rfl rfl 0 (Nat.le_of_ble_eq_true rfl) (List.mem_cons_of_mem _ gw_96) rfl dX3_put_14 ?_
      refine lv_iload_n S.1 S.2.1 dX3_put_17 rfl (lv_at hl 1 rfl) ?_
      refine lv_iload_n S.1 S.2.1 dX3_put_18 rfl (lv_at hl 2 rfl) ?_
      refine z_iast S hK hw 1 0 rfl rfl h dX3_put_19 (fun f1 H locs hw h => ?_)
      replace hw : zW D A s H locs (wd_X3_put cI cJ cZ a_this a_this_cells n_this f1) := hw
      exact ret f1 h 20 ls _ _ dX3_put_20 hw
def gs_X3_fill : List Cond := Cond.code yX3_fill cX3_fill 3 none :: GW
def wd_X3_fill (cI cJ cZ : ClassId) (a_this a_this_cells n_this : Nat) (f_this_cells : Nat → Int32) : va_W := [(a_this, .inr (3, [.ref a_this_cells])), (a_this_cells, .inl (cI, n_this, .inl f_this_cells))]
abbrev rm_X3_fill : Room := { frames := 0, cells := 0, slots := 0, locals := 0 }
theorem hd_X3_fill : yX3_fill.cls = RX3 ∧ yX3_fill.cls ≠ "java/lang/invoke/MethodHandle" ∧ yX3_fill.cls ≠ "java/lang/invoke/VarHandle" ∧ (parseMethodDescriptor yX3_fill.desc).map (fun d => d.parameters.length) = some 1 := by decide +kernel
set_option maxHeartbeats 4000000 in
set_option maxRecDepth 100000 in
theorem c_X3_fill (l : Launch) (D : va_G) (cI cJ cZ : ClassId) (a_this a_this_cells n_this : Nat) (f_this_cells : Nat → Int32) (K : Nat) (i1 : Int32) (o : (Nat → Int32)) (h : p_X3_fill K n_this f_this_cells i1 = some o) : zMv l D (zT cI cJ cZ) yX3_fill gs_X3_fill rm_X3_fill [.ref a_this, .int i1] (wd_X3_fill cI cJ cZ a_this a_this_cells n_this f_this_cells) (wd_X3_fill cI cJ cZ a_this a_this_cells n_this o) := by
  refine zMet_v (own := RX3) (fun u : (Nat → Int32) => (wd_X3_fill cI cJ cZ a_this a_this_cells n_this u)) (by decide) rfl rfl (Nat.le_of_ble_eq_true rfl) ?_
  intro p e s m args below meth c A Q S hK hA hw ret ls hl
  replace hl : lv_has ls 3 [(0, .ref a_this), (1, .int i1)] := hl
  refine lv_iconst (v := 0) S.1 S.2.1 dX3_fill_0 (by decide) ?_
  refine lv_istore_n (lv' := [(2, .int 0), (0, .ref a_this), (1, .int i1)]) S.1 S.2.1 dX3_fill_1 rfl hl (by decide) rfl (fun ls hl => ?_)
  have L_2 : ∀ (n2_2 : Nat) (f1 : Nat → Int32) (x2 : Int32) (h : z_lp2 (p_X3_fill_l2 n_this i1) n2_2 f1 x2 = some o) (H : Heap) (locs : List Loc) (ls : Array Slot), zW D A s H locs (wd_X3_fill cI cJ cZ a_this a_this_cells n_this f1) → lv_has ls 3 [(0, .ref a_this), (1, .int i1), (2, .int x2)] → W p l e (headSpec gs_X3_fill rm_X3_fill).room s m args below meth c H locs 0 0 Q (F0 m 2 ls []) := by
    intro n2_2
    induction n2_2 with
    | zero => intro f1 x2 h; exact z_no h
    | succ n2_2 ih_2 =>
      intro f1 x2 h H locs ls hw hl
      replace h : (p_X3_fill_l2 n_this i1) (z_lp2 (p_X3_fill_l2 n_this i1) n2_2) f1 x2 = some o := h
      refine lv_iload_n S.1 S.2.1 dX3_fill_2 rfl (lv_at hl 2 rfl) ?_
      refine lv_aload_n S.1 S.2.1 dX3_fill_3 rfl (lv_at hl 0 rfl) ?_
      refine z_get S (C := RX3) (T := TX3) (N := 1) (gi gu_X3) hK hw 0 rfl rfl 0 (Nat.le_of_ble_eq_true rfl) (List.mem_cons_of_mem _ gw_96) rfl dX3_fill_4 ?_
      refine z_alen S hK hw 1 0 rfl (ty := .int) rfl (v := (nI n_this)) rfl dX3_fill_7 ?_
      refine z_icmp_ge S (tgt := 24) h dX3_fill_8 (by decide) (fun h => ?_) (fun h => ?_)
      · exact ret f1 h 24 ls _ _ dX3_fill_24 hw
      · refine lv_aload_n S.1 S.2.1 dX3_fill_11 rfl (lv_at hl 0 rfl) ?_
        refine z_get S (C := RX3) (T := TX3) (N := 1) (gi gu_X3) hK hw 0 rfl rfl 0 (Nat.le_of_ble_eq_true rfl) (List.mem_cons_of_mem _ gw_96) rfl dX3_fill_12 ?_
        refine lv_iload_n S.1 S.2.1 dX3_fill_15 rfl (lv_at hl 2 rfl) ?_
        refine lv_iload_n S.1 S.2.1 dX3_fill_16 rfl (lv_at hl 1 rfl) ?_
        refine z_iast S hK hw 1 0 rfl rfl h dX3_fill_17 (fun f3 H locs hw h => ?_)
        replace hw : zW D A s H locs (wd_X3_fill cI cJ cZ a_this a_this_cells n_this f3) := hw
        refine z_iinc S (i := 2) (k := 2) (v := x2 + 1) hl rfl (by decide) rfl (fun v => (2, .int v) :: [(0, .ref a_this), (1, .int i1)]) (fun _ => rfl) h dX3_fill_18 (fun y4 ls hl h => ?_)
        replace hl : lv_has ls 3 [(2, .int y4), (0, .ref a_this), (1, .int i1)] := hl
        refine lv_goto (tgt := 2) S.1 S.2.1 dX3_fill_21 (by decide) ?_
        exact ih_2 f3 y4 h _ _ ls hw (lv_sub hl [1, 2, 0] rfl)
  exact L_2 K f_this_cells 0 h _ _ ls hw (lv_sub hl [1, 2, 0] rfl)
theorem gw_628 : Cond.methodLink RX3 17 yX3_get ∈ GW := GW_of 628 (by decide +kernel) (by decide +kernel)
theorem gw_344 : Cond.code yX3_get cX3_get 2 (some .int) ∈ GW := GW_of 344 (by decide +kernel) (by decide +kernel)
theorem gw_53 : Cond.initialized RX3 ∈ GW := GW_of 53 (by decide +kernel) (by decide +kernel)
theorem gw_342 : Cond.instanceMethod yX3_get ∈ GW := GW_of 342 (by decide +kernel) (by decide +kernel)
theorem gw_343 : Cond.selects RX3 yX3_get yX3_get ∈ GW := GW_of 343 (by decide +kernel) (by decide +kernel)
def gs_X3_copy : List Cond := Cond.code yX3_copy cX3_copy 3 none :: GW
def wd_X3_copy (cI cJ cZ : ClassId) (a_this a_this_cells a_p1 a_p1_cells n_this n_p1 : Nat) (f_this_cells : Nat → Int32) (f_p1_cells : Nat → Int32) : va_W := [(a_this, .inr (3, [.ref a_this_cells])), (a_this_cells, .inl (cI, n_this, .inl f_this_cells)), (a_p1, .inr (3, [.ref a_p1_cells])), (a_p1_cells, .inl (cI, n_p1, .inl f_p1_cells))]
abbrev rm_X3_copy : Room := { frames := 1, cells := 0, slots := 0, locals := 21 }
theorem hd_X3_copy : yX3_copy.cls = RX3 ∧ yX3_copy.cls ≠ "java/lang/invoke/MethodHandle" ∧ yX3_copy.cls ≠ "java/lang/invoke/VarHandle" ∧ (parseMethodDescriptor yX3_copy.desc).map (fun d => d.parameters.length) = some 1 := by decide +kernel
set_option maxHeartbeats 4000000 in
set_option maxRecDepth 100000 in
theorem c_X3_copy (l : Launch) (D : va_G) (cI cJ cZ : ClassId) (a_this a_this_cells a_p1 a_p1_cells n_this n_p1 : Nat) (f_this_cells : Nat → Int32) (f_p1_cells : Nat → Int32) (K : Nat) (o : (Nat → Int32)) (h : p_X3_copy K n_this n_p1 f_this_cells f_p1_cells = some o) : zMv l D (zT cI cJ cZ) yX3_copy gs_X3_copy rm_X3_copy [.ref a_this, .ref a_p1] (wd_X3_copy cI cJ cZ a_this a_this_cells a_p1 a_p1_cells n_this n_p1 f_this_cells f_p1_cells) (wd_X3_copy cI cJ cZ a_this a_this_cells a_p1 a_p1_cells n_this n_p1 o f_p1_cells) := by
  refine zMet_v (own := RX3) (fun u : (Nat → Int32) => (wd_X3_copy cI cJ cZ a_this a_this_cells a_p1 a_p1_cells n_this n_p1 u f_p1_cells)) (by decide) rfl rfl (Nat.le_of_ble_eq_true rfl) ?_
  intro p e s m args below meth c A Q S hK hA hw ret ls hl
  replace hl : lv_has ls 3 [(0, .ref a_this), (1, .ref a_p1)] := hl
  refine lv_iconst (v := 0) S.1 S.2.1 dX3_copy_0 (by decide) ?_
  refine lv_istore_n (lv' := [(2, .int 0), (0, .ref a_this), (1, .ref a_p1)]) S.1 S.2.1 dX3_copy_1 rfl hl (by decide) rfl (fun ls hl => ?_)
  have L_2 : ∀ (n2_2 : Nat) (f1 : Nat → Int32) (x2 : Int32) (h : z_lp2 (p_X3_copy_l2 n_this n_p1 f_p1_cells) n2_2 f1 x2 = some o) (H : Heap) (locs : List Loc) (ls : Array Slot), zW D A s H locs (wd_X3_copy cI cJ cZ a_this a_this_cells a_p1 a_p1_cells n_this n_p1 f1 f_p1_cells) → lv_has ls 3 [(0, .ref a_this), (1, .ref a_p1), (2, .int x2)] → W p l e (headSpec gs_X3_copy rm_X3_copy).room s m args below meth c H locs 0 0 Q (F0 m 2 ls []) := by
    intro n2_2
    induction n2_2 with
    | zero => intro f1 x2 h; exact z_no h
    | succ n2_2 ih_2 =>
      intro f1 x2 h H locs ls hw hl
      replace h : (p_X3_copy_l2 n_this n_p1 f_p1_cells) (z_lp2 (p_X3_copy_l2 n_this n_p1 f_p1_cells) n2_2) f1 x2 = some o := h
      refine lv_iload_n S.1 S.2.1 dX3_copy_2 rfl (lv_at hl 2 rfl) ?_
      refine lv_aload_n S.1 S.2.1 dX3_copy_3 rfl (lv_at hl 0 rfl) ?_
      refine z_get S (C := RX3) (T := TX3) (N := 1) (gi gu_X3) hK hw 0 rfl rfl 0 (Nat.le_of_ble_eq_true rfl) (List.mem_cons_of_mem _ gw_96) rfl dX3_copy_4 ?_
      refine z_alen S hK hw 1 0 rfl (ty := .int) rfl (v := (nI n_this)) rfl dX3_copy_7 ?_
      refine z_icmp_ge S (tgt := 28) h dX3_copy_8 (by decide) (fun h => ?_) (fun h => ?_)
      · exact ret f1 h 28 ls _ _ dX3_copy_28 hw
      · refine lv_aload_n S.1 S.2.1 dX3_copy_11 rfl (lv_at hl 0 rfl) ?_
        refine z_get S (C := RX3) (T := TX3) (N := 1) (gi gu_X3) hK hw 0 rfl rfl 0 (Nat.le_of_ble_eq_true rfl) (List.mem_cons_of_mem _ gw_96) rfl dX3_copy_12 ?_
        refine lv_iload_n S.1 S.2.1 dX3_copy_15 rfl (lv_at hl 2 rfl) ?_
        refine lv_aload_n S.1 S.2.1 dX3_copy_16 rfl (lv_at hl 1 rfl) ?_
        refine lv_iload_n S.1 S.2.1 dX3_copy_17 rfl (lv_at hl 2 rfl) ?_
        obtain ⟨y3, hc, h⟩ := z_b1_e h
        refine z_callVi (As := [.int x2]) (rest := [.int x2, .ref a_this_cells]) S (c_X3_get l D cI cJ cZ a_p1 a_p1_cells n_p1 f_p1_cells x2 _ hc) (cwV 1 S.2.2.2.2 (gw_V gw_628 gw_342 gw_343 gw_53 gw_344) rfl rfl rfl hd_X3_get ⟨Nat.le_of_ble_eq_true rfl, Nat.le_of_ble_eq_true rfl⟩) hK hA hw [2, 3] (by decide) rfl rfl [none, none, some 0, some 1] rfl (by decide) 2 rfl rfl hl.1 rfl rfl (lv_room (Nat.le_of_ble_eq_true rfl)) ⟨Nat.zero_le _, Nat.zero_le _⟩ dX3_copy_18 (fun H locs hw => ?_)
        replace hw : zW D A s H locs (wd_X3_copy cI cJ cZ a_this a_this_cells a_p1 a_p1_cells n_this n_p1 f1 f_p1_cells) := hw
        refine z_iast S hK hw 1 0 rfl rfl h dX3_copy_21 (fun f4 H locs hw h => ?_)
        replace hw : zW D A s H locs (wd_X3_copy cI cJ cZ a_this a_this_cells a_p1 a_p1_cells n_this n_p1 f4 f_p1_cells) := hw
        refine z_iinc S (i := 2) (k := 2) (v := x2 + 1) hl rfl (by decide) rfl (fun v => (2, .int v) :: [(0, .ref a_this), (1, .ref a_p1)]) (fun _ => rfl) h dX3_copy_22 (fun y5 ls hl h => ?_)
        replace hl : lv_has ls 3 [(2, .int y5), (0, .ref a_this), (1, .ref a_p1)] := hl
        refine lv_goto (tgt := 2) S.1 S.2.1 dX3_copy_25 (by decide) ?_
        exact ih_2 f4 y5 h _ _ ls hw (lv_sub hl [1, 2, 0] rfl)
  exact L_2 K f_this_cells 0 h _ _ ls hw (lv_sub hl [1, 2, 0] rfl)
theorem gw_75 : Cond.fieldLink RX4 9 "ScoreReader$Sheet" "rows" "[J" ∈ GW := GW_of 75 (by decide +kernel) (by decide +kernel)
def gs_X4_at : List Cond := Cond.code yX4_at cX4_at 2 (some .long) :: GW
def wd_X4_at (cI cJ cZ : ClassId) (a_this a_this_rows : Nat) (f_this_rows : Nat → Int64) : va_W := [(a_this, .inr (4, [.ref a_this_rows])), (a_this_rows, .inl (cJ, 32, .inr (.inl f_this_rows)))]
abbrev rm_X4_at : Room := { frames := 0, cells := 0, slots := 0, locals := 0 }
theorem hd_X4_at : yX4_at.cls = RX4 ∧ yX4_at.cls ≠ "java/lang/invoke/MethodHandle" ∧ yX4_at.cls ≠ "java/lang/invoke/VarHandle" ∧ (parseMethodDescriptor yX4_at.desc).map (fun d => d.parameters.length) = some 1 := by decide +kernel
set_option maxHeartbeats 4000000 in
set_option maxRecDepth 100000 in
theorem c_X4_at (l : Launch) (D : va_G) (cI cJ cZ : ClassId) (a_this a_this_rows : Nat) (f_this_rows : Nat → Int64) (i1 : Int32) (o : Int64) (h : p_X4_at f_this_rows i1 = some o) : zMl l D (zT cI cJ cZ) yX4_at gs_X4_at rm_X4_at [.ref a_this, .int i1] (wd_X4_at cI cJ cZ a_this a_this_rows f_this_rows) (wd_X4_at cI cJ cZ a_this a_this_rows f_this_rows) (o) := by
  refine zMet_l (own := RX4) (fun u : Int64 => (wd_X4_at cI cJ cZ a_this a_this_rows f_this_rows)) (fun u : Int64 => u) (by decide) rfl rfl (Nat.le_of_ble_eq_true rfl) ?_
  intro p e s m args below meth c A Q S hK hA hw ret ls hl
  replace hl : lv_has ls 2 [(0, .ref a_this), (1, .int i1)] := hl
  refine lv_iload_n S.1 S.2.1 dX4_at_0 rfl (lv_at hl 1 rfl) ?_
  refine z_if_lt S (tgt := 22) h dX4_at_1 (by decide) (fun h => ?_) (fun h => ?_)
  · refine lv_lconst (v := 0) S.1 S.2.1 dX4_at_22 (by decide) ?_
    exact ret 0 h 23 ls _ _ dX4_at_23 hw
  · refine lv_iload_n S.1 S.2.1 dX4_at_4 rfl (lv_at hl 1 rfl) ?_
    refine lv_aload_n S.1 S.2.1 dX4_at_5 rfl (lv_at hl 0 rfl) ?_
    refine z_get S (C := RX4) (T := TX4) (N := 1) (gi gu_X4) hK hw 0 rfl rfl 0 (Nat.le_of_ble_eq_true rfl) (List.mem_cons_of_mem _ gw_75) rfl dX4_at_6 ?_
    refine z_alen S hK hw 1 1 rfl (ty := .long) rfl (v := 32) rfl dX4_at_9 ?_
    refine z_icmp_ge S (tgt := 22) h dX4_at_10 (by decide) (fun h => ?_) (fun h => ?_)
    · refine lv_lconst (v := 0) S.1 S.2.1 dX4_at_22 (by decide) ?_
      exact ret 0 h 23 ls _ _ dX4_at_23 hw
    · refine lv_aload_n S.1 S.2.1 dX4_at_13 rfl (lv_at hl 0 rfl) ?_
      refine z_get S (C := RX4) (T := TX4) (N := 1) (gi gu_X4) hK hw 0 rfl rfl 0 (Nat.le_of_ble_eq_true rfl) (List.mem_cons_of_mem _ gw_75) rfl dX4_at_14 ?_
      refine lv_iload_n S.1 S.2.1 dX4_at_17 rfl (lv_at hl 1 rfl) ?_
      refine z_lald S hK hw 1 1 rfl rfl h dX4_at_18 (fun y1 h => ?_)
      refine lv_goto (tgt := 23) S.1 S.2.1 dX4_at_19 (by decide) ?_
      exact ret y1 h 23 ls _ _ dX4_at_23 hw
def gs_X4_put : List Cond := Cond.code yX4_put cX4_put 4 none :: GW
def wd_X4_put (cI cJ cZ : ClassId) (a_this a_this_rows : Nat) (f_this_rows : Nat → Int64) : va_W := [(a_this, .inr (4, [.ref a_this_rows])), (a_this_rows, .inl (cJ, 32, .inr (.inl f_this_rows)))]
abbrev rm_X4_put : Room := { frames := 0, cells := 0, slots := 0, locals := 0 }
theorem hd_X4_put : yX4_put.cls = RX4 ∧ yX4_put.cls ≠ "java/lang/invoke/MethodHandle" ∧ yX4_put.cls ≠ "java/lang/invoke/VarHandle" ∧ (parseMethodDescriptor yX4_put.desc).map (fun d => d.parameters.length) = some 2 := by decide +kernel
set_option maxHeartbeats 4000000 in
set_option maxRecDepth 100000 in
theorem c_X4_put (l : Launch) (D : va_G) (cI cJ cZ : ClassId) (a_this a_this_rows : Nat) (f_this_rows : Nat → Int64) (i1 : Int32) (i2 : Int64) (o : (Nat → Int64)) (h : p_X4_put f_this_rows i1 i2 = some o) : zMv l D (zT cI cJ cZ) yX4_put gs_X4_put rm_X4_put [.ref a_this, .int i1, .long i2] (wd_X4_put cI cJ cZ a_this a_this_rows f_this_rows) (wd_X4_put cI cJ cZ a_this a_this_rows o) := by
  refine zMet_v (own := RX4) (fun u : (Nat → Int64) => (wd_X4_put cI cJ cZ a_this a_this_rows u)) (by decide) rfl rfl (Nat.le_of_ble_eq_true rfl) ?_
  intro p e s m args below meth c A Q S hK hA hw ret ls hl
  replace hl : lv_has ls 4 [(0, .ref a_this), (1, .int i1), (2, .long i2)] := hl
  refine lv_iload_n S.1 S.2.1 dX4_put_0 rfl (lv_at hl 1 rfl) ?_
  refine z_if_lt S (tgt := 20) h dX4_put_1 (by decide) (fun h => ?_) (fun h => ?_)
  · exact ret f_this_rows h 20 ls _ _ dX4_put_20 hw
  · refine lv_iload_n S.1 S.2.1 dX4_put_4 rfl (lv_at hl 1 rfl) ?_
    refine lv_aload_n S.1 S.2.1 dX4_put_5 rfl (lv_at hl 0 rfl) ?_
    refine z_get S (C := RX4) (T := TX4) (N := 1) (gi gu_X4) hK hw 0 rfl rfl 0 (Nat.le_of_ble_eq_true rfl) (List.mem_cons_of_mem _ gw_75) rfl dX4_put_6 ?_
    refine z_alen S hK hw 1 1 rfl (ty := .long) rfl (v := 32) rfl dX4_put_9 ?_
    refine z_icmp_ge S (tgt := 20) h dX4_put_10 (by decide) (fun h => ?_) (fun h => ?_)
    · exact ret f_this_rows h 20 ls _ _ dX4_put_20 hw
    · refine lv_aload_n S.1 S.2.1 dX4_put_13 rfl (lv_at hl 0 rfl) ?_
      refine z_get S (C := RX4) (T := TX4) (N := 1) (gi gu_X4) hK hw 0 rfl rfl 0 (Nat.le_of_ble_eq_true rfl) (List.mem_cons_of_mem _ gw_75) rfl dX4_put_14 ?_
      refine lv_iload_n S.1 S.2.1 dX4_put_17 rfl (lv_at hl 1 rfl) ?_
      refine lv_lload_n S.1 S.2.1 dX4_put_18 rfl (lv_at hl 2 rfl) ?_
      refine z_last S hK hw 1 1 rfl rfl h dX4_put_19 (fun f1 H locs hw h => ?_)
      replace hw : zW D A s H locs (wd_X4_put cI cJ cZ a_this a_this_rows f1) := hw
      exact ret f1 h 20 ls _ _ dX4_put_20 hw
theorem gw_294 : Cond.methodLink RX4 15 yX4_at ∈ GW := GW_of 294 (by decide +kernel) (by decide +kernel)
theorem gw_297 : Cond.code yX4_at cX4_at 2 (some .long) ∈ GW := GW_of 297 (by decide +kernel) (by decide +kernel)
theorem gw_51 : Cond.initialized RX4 ∈ GW := GW_of 51 (by decide +kernel) (by decide +kernel)
theorem gw_295 : Cond.instanceMethod yX4_at ∈ GW := GW_of 295 (by decide +kernel) (by decide +kernel)
theorem gw_296 : Cond.selects RX4 yX4_at yX4_at ∈ GW := GW_of 296 (by decide +kernel) (by decide +kernel)
def gs_X4_isBlack : List Cond := Cond.code yX4_isBlack cX4_isBlack 3 (some .boolean) :: GW
def wd_X4_isBlack (cI cJ cZ : ClassId) (a_this a_this_rows : Nat) (f_this_rows : Nat → Int64) : va_W := [(a_this, .inr (4, [.ref a_this_rows])), (a_this_rows, .inl (cJ, 32, .inr (.inl f_this_rows)))]
abbrev rm_X4_isBlack : Room := { frames := 1, cells := 0, slots := 0, locals := 21 }
theorem hd_X4_isBlack : yX4_isBlack.cls = RX4 ∧ yX4_isBlack.cls ≠ "java/lang/invoke/MethodHandle" ∧ yX4_isBlack.cls ≠ "java/lang/invoke/VarHandle" ∧ (parseMethodDescriptor yX4_isBlack.desc).map (fun d => d.parameters.length) = some 2 := by decide +kernel
set_option maxHeartbeats 4000000 in
set_option maxRecDepth 100000 in
theorem c_X4_isBlack (l : Launch) (D : va_G) (cI cJ cZ : ClassId) (a_this a_this_rows : Nat) (f_this_rows : Nat → Int64) (i1 : Int32) (i2 : Int32) (o : Int32) (h : p_X4_isBlack f_this_rows i1 i2 = some o) : zMi l D (zT cI cJ cZ) yX4_isBlack gs_X4_isBlack rm_X4_isBlack [.ref a_this, .int i1, .int i2] (wd_X4_isBlack cI cJ cZ a_this a_this_rows f_this_rows) (wd_X4_isBlack cI cJ cZ a_this a_this_rows f_this_rows) (o) := by
  refine zMet_z (own := RX4) (fun u : Int32 => (wd_X4_isBlack cI cJ cZ a_this a_this_rows f_this_rows)) (fun u : Int32 => u) (by decide) rfl rfl (Nat.le_of_ble_eq_true rfl) ?_
  intro p e s m args below meth c A Q S hK hA hw ret ls hl
  replace hl : lv_has ls 3 [(0, .ref a_this), (1, .int i1), (2, .int i2)] := hl
  refine lv_iload_n S.1 S.2.1 dX4_isBlack_0 rfl (lv_at hl 1 rfl) ?_
  refine z_if_lt S (tgt := 28) h dX4_isBlack_1 (by decide) (fun h => ?_) (fun h => ?_)
  · refine lv_iconst (v := 0) S.1 S.2.1 dX4_isBlack_28 (by decide) ?_
    exact ret 0 h (z_nb (Or.inl rfl)) 29 ls _ _ dX4_isBlack_29 hw
  · refine lv_iload_n S.1 S.2.1 dX4_isBlack_4 rfl (lv_at hl 1 rfl) ?_
    refine lv_bipush (v := 60) S.1 S.2.1 dX4_isBlack_5 (by decide) ?_
    refine z_icmp_ge S (tgt := 28) h dX4_isBlack_7 (by decide) (fun h => ?_) (fun h => ?_)
    · refine lv_iconst (v := 0) S.1 S.2.1 dX4_isBlack_28 (by decide) ?_
      exact ret 0 h (z_nb (Or.inl rfl)) 29 ls _ _ dX4_isBlack_29 hw
    · refine lv_aload_n S.1 S.2.1 dX4_isBlack_10 rfl (lv_at hl 0 rfl) ?_
      refine lv_iload_n S.1 S.2.1 dX4_isBlack_11 rfl (lv_at hl 2 rfl) ?_
      obtain ⟨y1, hc, h⟩ := z_b1_e h
      refine z_callVl (As := [.int i2]) (rest := []) S (c_X4_at l D cI cJ cZ a_this a_this_rows f_this_rows i2 _ hc) (cwV 1 S.2.2.2.2 (gw_V gw_294 gw_295 gw_296 gw_51 gw_297) rfl rfl rfl hd_X4_at ⟨Nat.le_of_ble_eq_true rfl, Nat.le_of_ble_eq_true rfl⟩) hK hA hw [0, 1] (by decide) rfl rfl [some 0, some 1] rfl (by decide) 0 rfl rfl hl.1 rfl rfl (lv_room (Nat.le_of_ble_eq_true rfl)) ⟨Nat.zero_le _, Nat.zero_le _⟩ dX4_isBlack_12 (fun H locs hw => ?_)
      replace hw : zW D A s H locs (wd_X4_isBlack cI cJ cZ a_this a_this_rows f_this_rows) := hw
      refine lv_iload_n S.1 S.2.1 dX4_isBlack_15 rfl (lv_at hl 1 rfl) ?_
      refine lv_lushr (v := ((y1.toUInt64 >>> (i1.toInt64.toUInt64 &&& Int64.toUInt64 63)).toInt64)) S.1 S.2.1 dX4_isBlack_16 rfl ?_
      refine lv_lconst (v := 1) S.1 S.2.1 dX4_isBlack_17 (by decide) ?_
      refine lv_land S.1 S.2.1 dX4_isBlack_18 ?_
      refine lv_lconst (v := 1) S.1 S.2.1 dX4_isBlack_19 (by decide) ?_
      refine W.lcmp S.1 S.2.1 dX4_isBlack_20 ?_
      refine z_if_ne S (tgt := 28) h dX4_isBlack_21 (by decide) (fun h => ?_) (fun h => ?_)
      · refine lv_iconst (v := 0) S.1 S.2.1 dX4_isBlack_28 (by decide) ?_
        exact ret 0 h (z_nb (Or.inl rfl)) 29 ls _ _ dX4_isBlack_29 hw
      · refine lv_iconst (v := 1) S.1 S.2.1 dX4_isBlack_24 (by decide) ?_
        refine lv_goto (tgt := 29) S.1 S.2.1 dX4_isBlack_25 (by decide) ?_
        exact ret 1 h (z_nb (Or.inr rfl)) 29 ls _ _ dX4_isBlack_29 hw
theorem gw_298 : Cond.constantLong RX4 19 (-1) ∈ GW := GW_of 298 (by decide +kernel) (by decide +kernel)
theorem gw_300 : Cond.methodLink RX4 21 yX4_put ∈ GW := GW_of 300 (by decide +kernel) (by decide +kernel)
theorem gw_279 : Cond.code yX4_put cX4_put 4 none ∈ GW := GW_of 279 (by decide +kernel) (by decide +kernel)
theorem gw_277 : Cond.instanceMethod yX4_put ∈ GW := GW_of 277 (by decide +kernel) (by decide +kernel)
theorem gw_278 : Cond.selects RX4 yX4_put yX4_put ∈ GW := GW_of 278 (by decide +kernel) (by decide +kernel)
def gs_X4_wipe : List Cond := Cond.code yX4_wipe cX4_wipe 3 none :: GW
def wd_X4_wipe (cI cJ cZ : ClassId) (a_this a_this_rows : Nat) (f_this_rows : Nat → Int64) : va_W := [(a_this, .inr (4, [.ref a_this_rows])), (a_this_rows, .inl (cJ, 32, .inr (.inl f_this_rows)))]
abbrev rm_X4_wipe : Room := { frames := 1, cells := 0, slots := 0, locals := 23 }
theorem hd_X4_wipe : yX4_wipe.cls = RX4 ∧ yX4_wipe.cls ≠ "java/lang/invoke/MethodHandle" ∧ yX4_wipe.cls ≠ "java/lang/invoke/VarHandle" ∧ (parseMethodDescriptor yX4_wipe.desc).map (fun d => d.parameters.length) = some 2 := by decide +kernel
set_option maxHeartbeats 4000000 in
set_option maxRecDepth 100000 in
theorem c_X4_wipe (l : Launch) (D : va_G) (cI cJ cZ : ClassId) (a_this a_this_rows : Nat) (f_this_rows : Nat → Int64) (i1 : Int32) (i2 : Int32) (o : (Nat → Int64)) (h : p_X4_wipe f_this_rows i1 i2 = some o) : zMv l D (zT cI cJ cZ) yX4_wipe gs_X4_wipe rm_X4_wipe [.ref a_this, .int i1, .int i2] (wd_X4_wipe cI cJ cZ a_this a_this_rows f_this_rows) (wd_X4_wipe cI cJ cZ a_this a_this_rows o) := by
  refine zMet_v (own := RX4) (fun u : (Nat → Int64) => (wd_X4_wipe cI cJ cZ a_this a_this_rows u)) (by decide) rfl rfl (Nat.le_of_ble_eq_true rfl) ?_
  intro p e s m args below meth c A Q S hK hA hw ret ls hl
  replace hl : lv_has ls 3 [(0, .ref a_this), (1, .int i1), (2, .int i2)] := hl
  refine lv_iload_n S.1 S.2.1 dX4_wipe_0 rfl (lv_at hl 1 rfl) ?_
  refine z_if_lt S (tgt := 28) h dX4_wipe_1 (by decide) (fun h => ?_) (fun h => ?_)
  · exact ret f_this_rows h 28 ls _ _ dX4_wipe_28 hw
  · refine lv_iload_n S.1 S.2.1 dX4_wipe_4 rfl (lv_at hl 1 rfl) ?_
    refine lv_bipush (v := 60) S.1 S.2.1 dX4_wipe_5 (by decide) ?_
    refine z_icmp_ge S (tgt := 28) h dX4_wipe_7 (by decide) (fun h => ?_) (fun h => ?_)
    · exact ret f_this_rows h 28 ls _ _ dX4_wipe_28 hw
    · refine lv_aload_n S.1 S.2.1 dX4_wipe_10 rfl (lv_at hl 0 rfl) ?_
      refine lv_iload_n S.1 S.2.1 dX4_wipe_11 rfl (lv_at hl 2 rfl) ?_
      refine lv_aload_n S.1 S.2.1 dX4_wipe_12 rfl (lv_at hl 0 rfl) ?_
      refine lv_iload_n S.1 S.2.1 dX4_wipe_13 rfl (lv_at hl 2 rfl) ?_
      obtain ⟨y1, hc, h⟩ := z_b1_e h
      refine z_callVl (As := [.int i2]) (rest := [.int i2, .ref a_this]) S (c_X4_at l D cI cJ cZ a_this a_this_rows f_this_rows i2 _ hc) (cwV 1 S.2.2.2.2 (gw_V gw_294 gw_295 gw_296 gw_51 gw_297) rfl rfl rfl hd_X4_at ⟨Nat.le_of_ble_eq_true rfl, Nat.le_of_ble_eq_true rfl⟩) hK hA hw [0, 1] (by decide) rfl rfl [some 0, some 1] rfl (by decide) 0 rfl rfl hl.1 rfl rfl (lv_room (Nat.le_of_ble_eq_true rfl)) ⟨Nat.zero_le _, Nat.zero_le _⟩ dX4_wipe_14 (fun H locs hw => ?_)
      replace hw : zW D A s H locs (wd_X4_wipe cI cJ cZ a_this a_this_rows f_this_rows) := hw
      refine lv_lconst (v := 1) S.1 S.2.1 dX4_wipe_17 (by decide) ?_
      refine lv_iload_n S.1 S.2.1 dX4_wipe_18 rfl (lv_at hl 1 rfl) ?_
      refine lv_lshl (v := (((1 : Int64) <<< (i1.toInt64 &&& 63)))) S.1 S.2.1 dX4_wipe_19 rfl ?_
      refine lv_ldc2 (v := (-1)) S.1 S.2.1 S.2.2.2.1 (S.2.2.2.2 _ (List.mem_cons_of_mem _ gw_298)) dX4_wipe_20 ?_
      refine lv_lxor S.1 S.2.1 dX4_wipe_23 ?_
      refine lv_land S.1 S.2.1 dX4_wipe_24 ?_
      obtain ⟨f2, hc, h⟩ := z_b1_e h
      refine z_callVv (As := [.int i2, .long (y1 &&& ((((1 : Int64) <<< (i1.toInt64 &&& 63))) ^^^ (-1)))]) (rest := []) S (c_X4_put l D cI cJ cZ a_this a_this_rows f_this_rows i2 (y1 &&& ((((1 : Int64) <<< (i1.toInt64 &&& 63))) ^^^ (-1))) _ hc) (cwV 2 S.2.2.2.2 (gw_V gw_300 gw_277 gw_278 gw_51 gw_279) rfl rfl rfl hd_X4_put ⟨Nat.le_of_ble_eq_true rfl, Nat.le_of_ble_eq_true rfl⟩) hK hA hw [0, 1] (by decide) rfl rfl [some 0, some 1] rfl (by decide) 0 rfl rfl hl.1 rfl rfl (lv_room (Nat.le_of_ble_eq_true rfl)) ⟨Nat.zero_le _, Nat.zero_le _⟩ dX4_wipe_25 (fun H locs hw => ?_)
      replace hw : zW D A s H locs (wd_X4_wipe cI cJ cZ a_this a_this_rows f2) := hw
      exact ret f2 h 28 ls _ _ dX4_wipe_28 hw
def gs_X4_copy : List Cond := Cond.code yX4_copy cX4_copy 3 none :: GW
def wd_X4_copy (cI cJ cZ : ClassId) (a_this a_this_rows a_p1 a_p1_rows : Nat) (f_this_rows : Nat → Int64) (f_p1_rows : Nat → Int64) : va_W := [(a_this, .inr (4, [.ref a_this_rows])), (a_this_rows, .inl (cJ, 32, .inr (.inl f_this_rows))), (a_p1, .inr (4, [.ref a_p1_rows])), (a_p1_rows, .inl (cJ, 32, .inr (.inl f_p1_rows)))]
abbrev rm_X4_copy : Room := { frames := 1, cells := 0, slots := 0, locals := 21 }
theorem hd_X4_copy : yX4_copy.cls = RX4 ∧ yX4_copy.cls ≠ "java/lang/invoke/MethodHandle" ∧ yX4_copy.cls ≠ "java/lang/invoke/VarHandle" ∧ (parseMethodDescriptor yX4_copy.desc).map (fun d => d.parameters.length) = some 1 := by decide +kernel
set_option maxHeartbeats 4000000 in
set_option maxRecDepth 100000 in
theorem c_X4_copy (l : Launch) (D : va_G) (cI cJ cZ : ClassId) (a_this a_this_rows a_p1 a_p1_rows : Nat) (f_this_rows : Nat → Int64) (f_p1_rows : Nat → Int64) (K : Nat) (o : (Nat → Int64)) (h : p_X4_copy K f_this_rows f_p1_rows = some o) : zMv l D (zT cI cJ cZ) yX4_copy gs_X4_copy rm_X4_copy [.ref a_this, .ref a_p1] (wd_X4_copy cI cJ cZ a_this a_this_rows a_p1 a_p1_rows f_this_rows f_p1_rows) (wd_X4_copy cI cJ cZ a_this a_this_rows a_p1 a_p1_rows o f_p1_rows) := by
  refine zMet_v (own := RX4) (fun u : (Nat → Int64) => (wd_X4_copy cI cJ cZ a_this a_this_rows a_p1 a_p1_rows u f_p1_rows)) (by decide) rfl rfl (Nat.le_of_ble_eq_true rfl) ?_
  intro p e s m args below meth c A Q S hK hA hw ret ls hl
  replace hl : lv_has ls 3 [(0, .ref a_this), (1, .ref a_p1)] := hl
  refine lv_iconst (v := 0) S.1 S.2.1 dX4_copy_0 (by decide) ?_
  refine lv_istore_n (lv' := [(2, .int 0), (0, .ref a_this), (1, .ref a_p1)]) S.1 S.2.1 dX4_copy_1 rfl hl (by decide) rfl (fun ls hl => ?_)
  have L_2 : ∀ (n2_2 : Nat) (f1 : Nat → Int64) (x2 : Int32) (h : z_lp2 (p_X4_copy_l2 f_p1_rows) n2_2 f1 x2 = some o) (H : Heap) (locs : List Loc) (ls : Array Slot), zW D A s H locs (wd_X4_copy cI cJ cZ a_this a_this_rows a_p1 a_p1_rows f1 f_p1_rows) → lv_has ls 3 [(0, .ref a_this), (1, .ref a_p1), (2, .int x2)] → W p l e (headSpec gs_X4_copy rm_X4_copy).room s m args below meth c H locs 0 0 Q (F0 m 2 ls []) := by
    intro n2_2
    induction n2_2 with
    | zero => intro f1 x2 h; exact z_no h
    | succ n2_2 ih_2 =>
      intro f1 x2 h H locs ls hw hl
      replace h : (p_X4_copy_l2 f_p1_rows) (z_lp2 (p_X4_copy_l2 f_p1_rows) n2_2) f1 x2 = some o := h
      refine lv_iload_n S.1 S.2.1 dX4_copy_2 rfl (lv_at hl 2 rfl) ?_
      refine lv_aload_n S.1 S.2.1 dX4_copy_3 rfl (lv_at hl 0 rfl) ?_
      refine z_get S (C := RX4) (T := TX4) (N := 1) (gi gu_X4) hK hw 0 rfl rfl 0 (Nat.le_of_ble_eq_true rfl) (List.mem_cons_of_mem _ gw_75) rfl dX4_copy_4 ?_
      refine z_alen S hK hw 1 1 rfl (ty := .long) rfl (v := 32) rfl dX4_copy_7 ?_
      refine z_icmp_ge S (tgt := 28) h dX4_copy_8 (by decide) (fun h => ?_) (fun h => ?_)
      · exact ret f1 h 28 ls _ _ dX4_copy_28 hw
      · refine lv_aload_n S.1 S.2.1 dX4_copy_11 rfl (lv_at hl 0 rfl) ?_
        refine z_get S (C := RX4) (T := TX4) (N := 1) (gi gu_X4) hK hw 0 rfl rfl 0 (Nat.le_of_ble_eq_true rfl) (List.mem_cons_of_mem _ gw_75) rfl dX4_copy_12 ?_
        refine lv_iload_n S.1 S.2.1 dX4_copy_15 rfl (lv_at hl 2 rfl) ?_
        refine lv_aload_n S.1 S.2.1 dX4_copy_16 rfl (lv_at hl 1 rfl) ?_
        refine lv_iload_n S.1 S.2.1 dX4_copy_17 rfl (lv_at hl 2 rfl) ?_
        obtain ⟨y3, hc, h⟩ := z_b1_e h
        refine z_callVl (As := [.int x2]) (rest := [.int x2, .ref a_this_rows]) S (c_X4_at l D cI cJ cZ a_p1 a_p1_rows f_p1_rows x2 _ hc) (cwV 1 S.2.2.2.2 (gw_V gw_294 gw_295 gw_296 gw_51 gw_297) rfl rfl rfl hd_X4_at ⟨Nat.le_of_ble_eq_true rfl, Nat.le_of_ble_eq_true rfl⟩) hK hA hw [2, 3] (by decide) rfl rfl [none, none, some 0, some 1] rfl (by decide) 2 rfl rfl hl.1 rfl rfl (lv_room (Nat.le_of_ble_eq_true rfl)) ⟨Nat.zero_le _, Nat.zero_le _⟩ dX4_copy_18 (fun H locs hw => ?_)
        replace hw : zW D A s H locs (wd_X4_copy cI cJ cZ a_this a_this_rows a_p1 a_p1_rows f1 f_p1_rows) := hw
        refine z_last S hK hw 1 1 rfl rfl h dX4_copy_21 (fun f4 H locs hw h => ?_)
        replace hw : zW D A s H locs (wd_X4_copy cI cJ cZ a_this a_this_rows a_p1 a_p1_rows f4 f_p1_rows) := hw
        refine z_iinc S (i := 2) (k := 2) (v := x2 + 1) hl rfl (by decide) rfl (fun v => (2, .int v) :: [(0, .ref a_this), (1, .ref a_p1)]) (fun _ => rfl) h dX4_copy_22 (fun y5 ls hl h => ?_)
        replace hl : lv_has ls 3 [(2, .int y5), (0, .ref a_this), (1, .ref a_p1)] := hl
        refine lv_goto (tgt := 2) S.1 S.2.1 dX4_copy_25 (by decide) ?_
        exact ih_2 f4 y5 h _ _ ls hw (lv_sub hl [1, 2, 0] rfl)
  exact L_2 K f_this_rows 0 h _ _ ls hw (lv_sub hl [1, 2, 0] rfl)
theorem gw_283 : Cond.constantLong RJ13 314 6148914691236517205 ∈ GW := GW_of 283 (by decide +kernel) (by decide +kernel)
theorem gw_284 : Cond.constantLong RJ13 316 3689348814741910323 ∈ GW := GW_of 284 (by decide +kernel) (by decide +kernel)
theorem gw_285 : Cond.constantLong RJ13 318 1085102592571150095 ∈ GW := GW_of 285 (by decide +kernel) (by decide +kernel)
def gs_J13_bitCount_95d88 : List Cond := Cond.code yJ13_bitCount_95d88 cJ13_bitCount_95d88 2 (some .int) :: GW
def wd_J13_bitCount_95d88 (cI cJ cZ : ClassId) : va_W := []
abbrev rm_J13_bitCount_95d88 : Room := { frames := 0, cells := 0, slots := 0, locals := 0 }
theorem hd_J13_bitCount_95d88 : yJ13_bitCount_95d88.cls ≠ "java/lang/invoke/MethodHandle" ∧ yJ13_bitCount_95d88.cls ≠ "java/lang/invoke/VarHandle" ∧ (parseMethodDescriptor yJ13_bitCount_95d88.desc).map (fun d => d.parameters.length) = some 1 := by decide +kernel
set_option maxHeartbeats 4000000 in
set_option maxRecDepth 100000 in
theorem c_J13_bitCount_95d88 (l : Launch) (D : va_G) (cI cJ cZ : ClassId) (i0 : Int64) (o : Int32) (h : p_J13_bitCount_95d88 i0 = some o) : zMi l D (zT cI cJ cZ) yJ13_bitCount_95d88 gs_J13_bitCount_95d88 rm_J13_bitCount_95d88 [.long i0] (wd_J13_bitCount_95d88 cI cJ cZ) (wd_J13_bitCount_95d88 cI cJ cZ) (o) := by
  refine zMet_i (own := RJ13) (fun u : Int32 => (wd_J13_bitCount_95d88 cI cJ cZ)) (fun u : Int32 => u) (by decide) rfl rfl (Nat.le_of_ble_eq_true rfl) ?_
  intro p e s m args below meth c A Q S hK hA hw ret ls hl
  replace hl : lv_has ls 2 [(0, .long i0)] := hl
  refine lv_lload_n S.1 S.2.1 dJ13_bitCount_95d88_0 rfl (lv_at hl 0 rfl) ?_
  refine lv_lload_n S.1 S.2.1 dJ13_bitCount_95d88_1 rfl (lv_at hl 0 rfl) ?_
  refine lv_iconst (v := 1) S.1 S.2.1 dJ13_bitCount_95d88_2 (by decide) ?_
  refine lv_lushr (v := ((i0.toUInt64 >>> ((1 : Int32).toInt64.toUInt64 &&& Int64.toUInt64 63)).toInt64)) S.1 S.2.1 dJ13_bitCount_95d88_3 rfl ?_
  refine lv_ldc2 (v := 6148914691236517205) S.1 S.2.1 S.2.2.2.1 (S.2.2.2.2 _ (List.mem_cons_of_mem _ gw_283)) dJ13_bitCount_95d88_4 ?_
  refine lv_land S.1 S.2.1 dJ13_bitCount_95d88_7 ?_
  refine lv_lsub S.1 S.2.1 dJ13_bitCount_95d88_8 ?_
  refine z_letl h (fun y1 h => ?_)
  refine lv_lstore_n (lv' := [(0, .long y1)]) S.1 S.2.1 dJ13_bitCount_95d88_9 rfl hl (by decide) rfl (fun ls hl => ?_)
  refine lv_lload_n S.1 S.2.1 dJ13_bitCount_95d88_10 rfl (lv_at hl 0 rfl) ?_
  refine lv_ldc2 (v := 3689348814741910323) S.1 S.2.1 S.2.2.2.1 (S.2.2.2.2 _ (List.mem_cons_of_mem _ gw_284)) dJ13_bitCount_95d88_11 ?_
  refine lv_land S.1 S.2.1 dJ13_bitCount_95d88_14 ?_
  refine lv_lload_n S.1 S.2.1 dJ13_bitCount_95d88_15 rfl (lv_at hl 0 rfl) ?_
  refine lv_iconst (v := 2) S.1 S.2.1 dJ13_bitCount_95d88_16 (by decide) ?_
  refine lv_lushr (v := ((y1.toUInt64 >>> ((2 : Int32).toInt64.toUInt64 &&& Int64.toUInt64 63)).toInt64)) S.1 S.2.1 dJ13_bitCount_95d88_17 rfl ?_
  refine lv_ldc2 (v := 3689348814741910323) S.1 S.2.1 S.2.2.2.1 (S.2.2.2.2 _ (List.mem_cons_of_mem _ gw_284)) dJ13_bitCount_95d88_18 ?_
  refine lv_land S.1 S.2.1 dJ13_bitCount_95d88_21 ?_
  refine lv_ladd S.1 S.2.1 dJ13_bitCount_95d88_22 ?_
  refine z_letl h (fun y2 h => ?_)
  refine lv_lstore_n (lv' := [(0, .long y2)]) S.1 S.2.1 dJ13_bitCount_95d88_23 rfl hl (by decide) rfl (fun ls hl => ?_)
  refine lv_lload_n S.1 S.2.1 dJ13_bitCount_95d88_24 rfl (lv_at hl 0 rfl) ?_
  refine lv_lload_n S.1 S.2.1 dJ13_bitCount_95d88_25 rfl (lv_at hl 0 rfl) ?_
  refine lv_iconst (v := 4) S.1 S.2.1 dJ13_bitCount_95d88_26 (by decide) ?_
  refine lv_lushr (v := ((y2.toUInt64 >>> ((4 : Int32).toInt64.toUInt64 &&& Int64.toUInt64 63)).toInt64)) S.1 S.2.1 dJ13_bitCount_95d88_27 rfl ?_
  refine lv_ladd S.1 S.2.1 dJ13_bitCount_95d88_28 ?_
  refine lv_ldc2 (v := 1085102592571150095) S.1 S.2.1 S.2.2.2.1 (S.2.2.2.2 _ (List.mem_cons_of_mem _ gw_285)) dJ13_bitCount_95d88_29 ?_
  refine lv_land S.1 S.2.1 dJ13_bitCount_95d88_32 ?_
  refine z_letl h (fun y3 h => ?_)
  refine lv_lstore_n (lv' := [(0, .long y3)]) S.1 S.2.1 dJ13_bitCount_95d88_33 rfl hl (by decide) rfl (fun ls hl => ?_)
  refine lv_lload_n S.1 S.2.1 dJ13_bitCount_95d88_34 rfl (lv_at hl 0 rfl) ?_
  refine lv_lload_n S.1 S.2.1 dJ13_bitCount_95d88_35 rfl (lv_at hl 0 rfl) ?_
  refine lv_bipush (v := 8) S.1 S.2.1 dJ13_bitCount_95d88_36 (by decide) ?_
  refine lv_lushr (v := ((y3.toUInt64 >>> ((8 : Int32).toInt64.toUInt64 &&& Int64.toUInt64 63)).toInt64)) S.1 S.2.1 dJ13_bitCount_95d88_38 rfl ?_
  refine lv_ladd S.1 S.2.1 dJ13_bitCount_95d88_39 ?_
  refine z_letl h (fun y4 h => ?_)
  refine lv_lstore_n (lv' := [(0, .long y4)]) S.1 S.2.1 dJ13_bitCount_95d88_40 rfl hl (by decide) rfl (fun ls hl => ?_)
  refine lv_lload_n S.1 S.2.1 dJ13_bitCount_95d88_41 rfl (lv_at hl 0 rfl) ?_
  refine lv_lload_n S.1 S.2.1 dJ13_bitCount_95d88_42 rfl (lv_at hl 0 rfl) ?_
  refine lv_bipush (v := 16) S.1 S.2.1 dJ13_bitCount_95d88_43 (by decide) ?_
  refine lv_lushr (v := ((y4.toUInt64 >>> ((16 : Int32).toInt64.toUInt64 &&& Int64.toUInt64 63)).toInt64)) S.1 S.2.1 dJ13_bitCount_95d88_45 rfl ?_
  refine lv_ladd S.1 S.2.1 dJ13_bitCount_95d88_46 ?_
  refine z_letl h (fun y5 h => ?_)
  refine lv_lstore_n (lv' := [(0, .long y5)]) S.1 S.2.1 dJ13_bitCount_95d88_47 rfl hl (by decide) rfl (fun ls hl => ?_)
  refine lv_lload_n S.1 S.2.1 dJ13_bitCount_95d88_48 rfl (lv_at hl 0 rfl) ?_
  refine lv_lload_n S.1 S.2.1 dJ13_bitCount_95d88_49 rfl (lv_at hl 0 rfl) ?_
  refine lv_bipush (v := 32) S.1 S.2.1 dJ13_bitCount_95d88_50 (by decide) ?_
  refine lv_lushr (v := ((y5.toUInt64 >>> ((32 : Int32).toInt64.toUInt64 &&& Int64.toUInt64 63)).toInt64)) S.1 S.2.1 dJ13_bitCount_95d88_52 rfl ?_
  refine lv_ladd S.1 S.2.1 dJ13_bitCount_95d88_53 ?_
  refine z_letl h (fun y6 h => ?_)
  refine lv_lstore_n (lv' := [(0, .long y6)]) S.1 S.2.1 dJ13_bitCount_95d88_54 rfl hl (by decide) rfl (fun ls hl => ?_)
  refine lv_lload_n S.1 S.2.1 dJ13_bitCount_95d88_55 rfl (lv_at hl 0 rfl) ?_
  refine lv_l2i (v := y6.toInt32) S.1 S.2.1 dJ13_bitCount_95d88_56 rfl ?_
  refine lv_bipush (v := 127) S.1 S.2.1 dJ13_bitCount_95d88_57 (by decide) ?_
  refine lv_iand S.1 S.2.1 dJ13_bitCount_95d88_59 ?_
  exact ret ((y6.toInt32) &&& 127) h 60 ls _ _ dJ13_bitCount_95d88_60 hw
theorem gw_299 : Cond.methodLink RX4 25 yJ13_bitCount_95d88 ∈ GW := GW_of 299 (by decide +kernel) (by decide +kernel)
theorem gw_282 : Cond.code yJ13_bitCount_95d88 cJ13_bitCount_95d88 2 (some .int) ∈ GW := GW_of 282 (by decide +kernel) (by decide +kernel)
theorem gw_59 : Cond.initialized RJ13 ∈ GW := GW_of 59 (by decide +kernel) (by decide +kernel)
theorem gw_281 : Cond.static yJ13_bitCount_95d88 ∈ GW := GW_of 281 (by decide +kernel) (by decide +kernel)
def gs_X4_paint : List Cond := Cond.code yX4_paint cX4_paint 12 (some .int) :: GW
def wd_X4_paint (cI cJ cZ : ClassId) (a_this a_this_rows : Nat) (f_this_rows : Nat → Int64) : va_W := [(a_this, .inr (4, [.ref a_this_rows])), (a_this_rows, .inl (cJ, 32, .inr (.inl f_this_rows)))]
abbrev rm_X4_paint : Room := { frames := 1, cells := 0, slots := 0, locals := 23 }
theorem hd_X4_paint : yX4_paint.cls = RX4 ∧ yX4_paint.cls ≠ "java/lang/invoke/MethodHandle" ∧ yX4_paint.cls ≠ "java/lang/invoke/VarHandle" ∧ (parseMethodDescriptor yX4_paint.desc).map (fun d => d.parameters.length) = some 4 := by decide +kernel
set_option maxHeartbeats 4000000 in
set_option maxRecDepth 100000 in
theorem c_X4_paint (l : Launch) (D : va_G) (cI cJ cZ : ClassId) (a_this a_this_rows : Nat) (f_this_rows : Nat → Int64) (K : Nat) (i1 : Int32) (i2 : Int32) (i3 : Int64) (i5 : Int32) (o : Int32 × (Nat → Int64)) (h : p_X4_paint K f_this_rows i1 i2 i3 i5 = some o) : zMi l D (zT cI cJ cZ) yX4_paint gs_X4_paint rm_X4_paint [.ref a_this, .int i1, .int i2, .long i3, .int i5] (wd_X4_paint cI cJ cZ a_this a_this_rows f_this_rows) (wd_X4_paint cI cJ cZ a_this a_this_rows (o.2)) (o.1) := by
  refine zMet_i (own := RX4) (fun u : Int32 × (Nat → Int64) => (wd_X4_paint cI cJ cZ a_this a_this_rows (u.2))) (fun u : Int32 × (Nat → Int64) => u.1) (by decide) rfl rfl (Nat.le_of_ble_eq_true rfl) ?_
  intro p e s m args below meth c A Q S hK hA hw ret ls hl
  replace hl : lv_has ls 12 [(0, .ref a_this), (1, .int i1), (2, .int i2), (3, .long i3), (5, .int i5)] := hl
  refine lv_iconst (v := 0) S.1 S.2.1 dX4_paint_0 (by decide) ?_
  refine lv_istore (lv' := [(6, .int 0), (0, .ref a_this), (1, .int i1), (2, .int i2), (3, .long i3), (5, .int i5)]) S.1 S.2.1 dX4_paint_1 hl (by decide) rfl (fun ls hl => ?_)
  refine lv_iconst (v := 0) S.1 S.2.1 dX4_paint_3 (by decide) ?_
  refine lv_istore (lv' := [(7, .int 0), (6, .int 0), (0, .ref a_this), (1, .int i1), (2, .int i2), (3, .long i3), (5, .int i5)]) S.1 S.2.1 dX4_paint_4 hl (by decide) rfl (fun ls hl => ?_)
  have L_6 : ∀ (n6_3 : Nat) (f1 : Nat → Int64) (x2 : Int32) (x3 : Int32) (h : z_lp3 (p_X4_paint_l6 i2 i1 i5 i3) n6_3 f1 x2 x3 = some o) (H : Heap) (locs : List Loc) (ls : Array Slot), zW D A s H locs (wd_X4_paint cI cJ cZ a_this a_this_rows f1) → lv_has ls 12 [(0, .ref a_this), (1, .int i1), (2, .int i2), (3, .long i3), (5, .int i5), (6, .int x2), (7, .int x3)] → W p l e (headSpec gs_X4_paint rm_X4_paint).room s m args below meth c H locs 0 0 Q (F0 m 6 ls []) := by
    intro n6_3
    induction n6_3 with
    | zero => intro f1 x2 x3 h; exact z_no h
    | succ n6_3 ih_6 =>
      intro f1 x2 x3 h H locs ls hw hl
      replace h : (p_X4_paint_l6 i2 i1 i5 i3) (z_lp3 (p_X4_paint_l6 i2 i1 i5 i3) n6_3) f1 x2 x3 = some o := h
      refine lv_iload S.1 S.2.1 dX4_paint_6 (lv_at hl 6 rfl) ?_
      refine lv_iload_n S.1 S.2.1 dX4_paint_8 rfl (lv_at hl 2 rfl) ?_
      refine z_icmp_ge S (tgt := 73) h dX4_paint_9 (by decide) (fun h => ?_) (fun h => ?_)
      · refine lv_iload S.1 S.2.1 dX4_paint_73 (lv_at hl 5 rfl) ?_
        exact ret (x2, f1) h 75 ls _ _ dX4_paint_75 hw
      · refine lv_aload_n S.1 S.2.1 dX4_paint_12 rfl (lv_at hl 0 rfl) ?_
        refine lv_iload_n S.1 S.2.1 dX4_paint_13 rfl (lv_at hl 1 rfl) ?_
        refine lv_iload S.1 S.2.1 dX4_paint_14 (lv_at hl 6 rfl) ?_
        refine lv_iadd S.1 S.2.1 dX4_paint_16 ?_
        obtain ⟨y4, hc, h⟩ := z_b1_e h
        refine z_callVl (As := [.int (i1 + x3)]) (rest := []) S (c_X4_at l D cI cJ cZ a_this a_this_rows f1 (i1 + x3) _ hc) (cwV 1 S.2.2.2.2 (gw_V gw_294 gw_295 gw_296 gw_51 gw_297) rfl rfl rfl hd_X4_at ⟨Nat.le_of_ble_eq_true rfl, Nat.le_of_ble_eq_true rfl⟩) hK hA hw [0, 1] (by decide) rfl rfl [some 0, some 1] rfl (by decide) 0 rfl rfl hl.1 rfl rfl (lv_room (Nat.le_of_ble_eq_true rfl)) ⟨Nat.zero_le _, Nat.zero_le _⟩ dX4_paint_17 (fun H locs hw => ?_)
        replace hw : zW D A s H locs (wd_X4_paint cI cJ cZ a_this a_this_rows f1) := hw
        refine lv_lstore (lv' := [(8, .long y4), (0, .ref a_this), (1, .int i1), (2, .int i2), (3, .long i3), (5, .int i5), (6, .int x2), (7, .int x3)]) S.1 S.2.1 dX4_paint_20 hl (by decide) rfl (fun ls hl => ?_)
        refine lv_iload S.1 S.2.1 dX4_paint_22 (lv_at hl 5 rfl) ?_
        have J_42 : ∀ (z5 : Int64) (h : (p_X4_paint_j42 y4 x2 f1 i1 x3 (z_lp3 (p_X4_paint_l6 i2 i1 i5 i3) n6_3)) z5 = some o) (H : Heap) (locs : List Loc) (ls : Array Slot), zW D A s H locs (wd_X4_paint cI cJ cZ a_this a_this_rows f1) → lv_has ls 12 [(0, .ref a_this), (1, .int i1), (2, .int i2), (3, .long i3), (5, .int i5), (6, .int x2), (7, .int x3), (8, .long y4)] → W p l e (headSpec gs_X4_paint rm_X4_paint).room s m args below meth c H locs 0 0 Q (F0 m 42 ls [.long z5]) := by
          intro z5 h H locs ls hw hl
          refine lv_lstore (lv' := [(10, .long z5), (0, .ref a_this), (1, .int i1), (2, .int i2), (3, .long i3), (5, .int i5), (6, .int x2), (7, .int x3), (8, .long y4)]) S.1 S.2.1 dX4_paint_42 hl (by decide) rfl (fun ls hl => ?_)
          refine lv_iload S.1 S.2.1 dX4_paint_44 (lv_at hl 6 rfl) ?_
          refine lv_lload S.1 S.2.1 dX4_paint_46 (lv_at hl 8 rfl) ?_
          refine lv_lload S.1 S.2.1 dX4_paint_48 (lv_at hl 0 rfl) ?_
          refine lv_lxor S.1 S.2.1 dX4_paint_50 ?_
          obtain ⟨y6, hc, h⟩ := z_b1_e h
          refine z_callSi (As := [.long (y4 ^^^ z5)]) (rest := [.int x2]) S (c_J13_bitCount_95d88 l D cI cJ cZ (y4 ^^^ z5) _ hc) (va_cwS 1 S.2.2.2.2 (gw_S gw_299 gw_281 gw_59 gw_282) rfl rfl rfl hd_J13_bitCount_95d88 ⟨Nat.le_of_ble_eq_true rfl, Nat.le_of_ble_eq_true rfl⟩) hK hA hw [] (by decide) rfl rfl [none, none] rfl (by decide) hl.1 rfl rfl (lv_room (Nat.le_of_ble_eq_true rfl)) ⟨Nat.zero_le _, Nat.zero_le _⟩ dX4_paint_51 (fun H locs hw => ?_)
          replace hw : zW D A s H locs (wd_X4_paint cI cJ cZ a_this a_this_rows f1) := hw
          refine lv_iadd S.1 S.2.1 dX4_paint_54 ?_
          refine z_leti h (fun y7 h => ?_)
          refine lv_istore (lv' := [(6, .int y7), (10, .long z5), (0, .ref a_this), (1, .int i1), (2, .int i2), (3, .long i3), (5, .int i5), (7, .int x3), (8, .long y4)]) S.1 S.2.1 dX4_paint_55 hl (by decide) rfl (fun ls hl => ?_)
          refine lv_aload_n S.1 S.2.1 dX4_paint_57 rfl (lv_at hl 2 rfl) ?_
          refine lv_iload_n S.1 S.2.1 dX4_paint_58 rfl (lv_at hl 3 rfl) ?_
          refine lv_iload S.1 S.2.1 dX4_paint_59 (lv_at hl 7 rfl) ?_
          refine lv_iadd S.1 S.2.1 dX4_paint_61 ?_
          refine lv_lload S.1 S.2.1 dX4_paint_62 (lv_at hl 1 rfl) ?_
          obtain ⟨f8, hc, h⟩ := z_b1_e h
          refine z_callVv (As := [.int (i1 + x3), .long z5]) (rest := []) S (c_X4_put l D cI cJ cZ a_this a_this_rows f1 (i1 + x3) z5 _ hc) (cwV 2 S.2.2.2.2 (gw_V gw_300 gw_277 gw_278 gw_51 gw_279) rfl rfl rfl hd_X4_put ⟨Nat.le_of_ble_eq_true rfl, Nat.le_of_ble_eq_true rfl⟩) hK hA hw [0, 1] (by decide) rfl rfl [some 0, some 1] rfl (by decide) 0 rfl rfl hl.1 rfl rfl (lv_room (Nat.le_of_ble_eq_true rfl)) ⟨Nat.zero_le _, Nat.zero_le _⟩ dX4_paint_64 (fun H locs hw => ?_)
          replace hw : zW D A s H locs (wd_X4_paint cI cJ cZ a_this a_this_rows f8) := hw
          refine z_iinc S (i := 7) (k := 7) (v := x3 + 1) hl rfl (by decide) rfl (fun v => (7, .int v) :: [(6, .int y7), (10, .long z5), (0, .ref a_this), (1, .int i1), (2, .int i2), (3, .long i3), (5, .int i5), (8, .long y4)]) (fun _ => rfl) h dX4_paint_67 (fun y9 ls hl h => ?_)
          replace hl : lv_has ls 12 [(7, .int y9), (6, .int y7), (10, .long z5), (0, .ref a_this), (1, .int i1), (2, .int i2), (3, .long i3), (5, .int i5), (8, .long y4)] := hl
          refine lv_goto (tgt := 6) S.1 S.2.1 dX4_paint_70 (by decide) ?_
          exact ih_6 f8 y7 y9 h _ _ ls hw (lv_sub hl [3, 4, 5, 6, 7, 1, 0] rfl)
        refine z_if_eq S (tgt := 34) h dX4_paint_24 (by decide) (fun h => ?_) (fun h => ?_)
        · refine lv_lload S.1 S.2.1 dX4_paint_34 (lv_at hl 0 rfl) ?_
          refine lv_lload_n S.1 S.2.1 dX4_paint_36 rfl (lv_at hl 4 rfl) ?_
          refine lv_ldc2 (v := (-1)) S.1 S.2.1 S.2.2.2.1 (S.2.2.2.2 _ (List.mem_cons_of_mem _ gw_298)) dX4_paint_37 ?_
          refine lv_lxor S.1 S.2.1 dX4_paint_40 ?_
          refine lv_land S.1 S.2.1 dX4_paint_41 ?_
          exact J_42 (y4 &&& (i3 ^^^ (-1))) h _ _ ls hw (lv_sub hl [1, 2, 3, 4, 5, 6, 7, 0] rfl)
        · refine lv_lload S.1 S.2.1 dX4_paint_27 (lv_at hl 0 rfl) ?_
          refine lv_lload_n S.1 S.2.1 dX4_paint_29 rfl (lv_at hl 4 rfl) ?_
          refine lv_lor S.1 S.2.1 dX4_paint_30 ?_
          refine lv_goto (tgt := 42) S.1 S.2.1 dX4_paint_31 (by decide) ?_
          exact J_42 (y4 ||| i3) h _ _ ls hw (lv_sub hl [1, 2, 3, 4, 5, 6, 7, 0] rfl)
  exact L_6 K f_this_rows 0 0 h _ _ ls hw (lv_sub hl [2, 3, 4, 5, 6, 1, 0] rfl)
def gs_X4_blackDots : List Cond := Cond.code yX4_blackDots cX4_blackDots 3 (some .int) :: GW
def wd_X4_blackDots (cI cJ cZ : ClassId) (a_this a_this_rows : Nat) (f_this_rows : Nat → Int64) : va_W := [(a_this, .inr (4, [.ref a_this_rows])), (a_this_rows, .inl (cJ, 32, .inr (.inl f_this_rows)))]
abbrev rm_X4_blackDots : Room := { frames := 1, cells := 0, slots := 0, locals := 21 }
theorem hd_X4_blackDots : yX4_blackDots.cls = RX4 ∧ yX4_blackDots.cls ≠ "java/lang/invoke/MethodHandle" ∧ yX4_blackDots.cls ≠ "java/lang/invoke/VarHandle" ∧ (parseMethodDescriptor yX4_blackDots.desc).map (fun d => d.parameters.length) = some 0 := by decide +kernel
set_option maxHeartbeats 4000000 in
set_option maxRecDepth 100000 in
theorem c_X4_blackDots (l : Launch) (D : va_G) (cI cJ cZ : ClassId) (a_this a_this_rows : Nat) (f_this_rows : Nat → Int64) (K : Nat) (o : Int32) (h : p_X4_blackDots K f_this_rows = some o) : zMi l D (zT cI cJ cZ) yX4_blackDots gs_X4_blackDots rm_X4_blackDots [.ref a_this] (wd_X4_blackDots cI cJ cZ a_this a_this_rows f_this_rows) (wd_X4_blackDots cI cJ cZ a_this a_this_rows f_this_rows) (o) := by
  refine zMet_i (own := RX4) (fun u : Int32 => (wd_X4_blackDots cI cJ cZ a_this a_this_rows f_this_rows)) (fun u : Int32 => u) (by decide) rfl rfl (Nat.le_of_ble_eq_true rfl) ?_
  intro p e s m args below meth c A Q S hK hA hw ret ls hl
  replace hl : lv_has ls 3 [(0, .ref a_this)] := hl
  refine lv_iconst (v := 0) S.1 S.2.1 dX4_blackDots_0 (by decide) ?_
  refine lv_istore_n (lv' := [(1, .int 0), (0, .ref a_this)]) S.1 S.2.1 dX4_blackDots_1 rfl hl (by decide) rfl (fun ls hl => ?_)
  refine lv_iconst (v := 0) S.1 S.2.1 dX4_blackDots_2 (by decide) ?_
  refine lv_istore_n (lv' := [(2, .int 0), (1, .int 0), (0, .ref a_this)]) S.1 S.2.1 dX4_blackDots_3 rfl hl (by decide) rfl (fun ls hl => ?_)
  have L_4 : ∀ (n4_2 : Nat) (x1 : Int32) (x2 : Int32) (h : z_lp2 (p_X4_blackDots_l4 f_this_rows) n4_2 x1 x2 = some o) (H : Heap) (locs : List Loc) (ls : Array Slot), zW D A s H locs (wd_X4_blackDots cI cJ cZ a_this a_this_rows f_this_rows) → lv_has ls 3 [(0, .ref a_this), (1, .int x1), (2, .int x2)] → W p l e (headSpec gs_X4_blackDots rm_X4_blackDots).room s m args below meth c H locs 0 0 Q (F0 m 4 ls []) := by
    intro n4_2
    induction n4_2 with
    | zero => intro x1 x2 h; exact z_no h
    | succ n4_2 ih_4 =>
      intro x1 x2 h H locs ls hw hl
      replace h : (p_X4_blackDots_l4 f_this_rows) (z_lp2 (p_X4_blackDots_l4 f_this_rows) n4_2) x1 x2 = some o := h
      refine lv_iload_n S.1 S.2.1 dX4_blackDots_4 rfl (lv_at hl 2 rfl) ?_
      refine lv_aload_n S.1 S.2.1 dX4_blackDots_5 rfl (lv_at hl 0 rfl) ?_
      refine z_get S (C := RX4) (T := TX4) (N := 1) (gi gu_X4) hK hw 0 rfl rfl 0 (Nat.le_of_ble_eq_true rfl) (List.mem_cons_of_mem _ gw_75) rfl dX4_blackDots_6 ?_
      refine z_alen S hK hw 1 1 rfl (ty := .long) rfl (v := 32) rfl dX4_blackDots_9 ?_
      refine z_icmp_ge S (tgt := 31) h dX4_blackDots_10 (by decide) (fun h => ?_) (fun h => ?_)
      · refine lv_iload_n S.1 S.2.1 dX4_blackDots_31 rfl (lv_at hl 1 rfl) ?_
        exact ret x1 h 32 ls _ _ dX4_blackDots_32 hw
      · refine lv_iload_n S.1 S.2.1 dX4_blackDots_13 rfl (lv_at hl 1 rfl) ?_
        refine lv_aload_n S.1 S.2.1 dX4_blackDots_14 rfl (lv_at hl 0 rfl) ?_
        refine z_get S (C := RX4) (T := TX4) (N := 1) (gi gu_X4) hK hw 0 rfl rfl 0 (Nat.le_of_ble_eq_true rfl) (List.mem_cons_of_mem _ gw_75) rfl dX4_blackDots_15 ?_
        refine lv_iload_n S.1 S.2.1 dX4_blackDots_18 rfl (lv_at hl 2 rfl) ?_
        refine z_lald S hK hw 1 1 rfl rfl h dX4_blackDots_19 (fun y3 h => ?_)
        obtain ⟨y4, hc, h⟩ := z_b1_e h
        refine z_callSi (As := [.long y3]) (rest := [.int x1]) S (c_J13_bitCount_95d88 l D cI cJ cZ y3 _ hc) (va_cwS 1 S.2.2.2.2 (gw_S gw_299 gw_281 gw_59 gw_282) rfl rfl rfl hd_J13_bitCount_95d88 ⟨Nat.le_of_ble_eq_true rfl, Nat.le_of_ble_eq_true rfl⟩) hK hA hw [] (by decide) rfl rfl [none, none] rfl (by decide) hl.1 rfl rfl (lv_room (Nat.le_of_ble_eq_true rfl)) ⟨Nat.zero_le _, Nat.zero_le _⟩ dX4_blackDots_20 (fun H locs hw => ?_)
        replace hw : zW D A s H locs (wd_X4_blackDots cI cJ cZ a_this a_this_rows f_this_rows) := hw
        refine lv_iadd S.1 S.2.1 dX4_blackDots_23 ?_
        refine z_leti h (fun y5 h => ?_)
        refine lv_istore_n (lv' := [(1, .int y5), (0, .ref a_this), (2, .int x2)]) S.1 S.2.1 dX4_blackDots_24 rfl hl (by decide) rfl (fun ls hl => ?_)
        refine z_iinc S (i := 2) (k := 2) (v := x2 + 1) hl rfl (by decide) rfl (fun v => (2, .int v) :: [(1, .int y5), (0, .ref a_this)]) (fun _ => rfl) h dX4_blackDots_25 (fun y6 ls hl h => ?_)
        replace hl : lv_has ls 3 [(2, .int y6), (1, .int y5), (0, .ref a_this)] := hl
        refine lv_goto (tgt := 4) S.1 S.2.1 dX4_blackDots_28 (by decide) ?_
        exact ih_4 y5 y6 h _ _ ls hw (lv_sub hl [2, 1, 0] rfl)
  exact L_4 K 0 0 h _ _ ls hw (lv_sub hl [2, 1, 0] rfl)
def gs_J9_floorDiv_7cf53 : List Cond := Cond.code yJ9_floorDiv_7cf53 cJ9_floorDiv_7cf53 3 (some .int) :: GW
def wd_J9_floorDiv_7cf53 (cI cJ cZ : ClassId) : va_W := []
abbrev rm_J9_floorDiv_7cf53 : Room := { frames := 0, cells := 0, slots := 0, locals := 0 }
theorem hd_J9_floorDiv_7cf53 : yJ9_floorDiv_7cf53.cls ≠ "java/lang/invoke/MethodHandle" ∧ yJ9_floorDiv_7cf53.cls ≠ "java/lang/invoke/VarHandle" ∧ (parseMethodDescriptor yJ9_floorDiv_7cf53.desc).map (fun d => d.parameters.length) = some 2 := by decide +kernel
set_option maxHeartbeats 4000000 in
set_option maxRecDepth 100000 in
theorem c_J9_floorDiv_7cf53 (l : Launch) (D : va_G) (cI cJ cZ : ClassId) (i0 : Int32) (i1 : Int32) (o : Int32) (h : p_J9_floorDiv_7cf53 i0 i1 = some o) : zMi l D (zT cI cJ cZ) yJ9_floorDiv_7cf53 gs_J9_floorDiv_7cf53 rm_J9_floorDiv_7cf53 [.int i0, .int i1] (wd_J9_floorDiv_7cf53 cI cJ cZ) (wd_J9_floorDiv_7cf53 cI cJ cZ) (o) := by
  refine zMetF_i (own := RJ9) (fun u : Int32 => (wd_J9_floorDiv_7cf53 cI cJ cZ)) (fun u : Int32 => u) (by decide +kernel) rfl rfl (Nat.le_of_ble_eq_true rfl) ?_
  intro p e s m args below meth c A Q S hK hA hw ret ls hl
  replace hl : lv_has ls 3 [(0, .int i0), (1, .int i1)] := hl
  refine lv_iload_n S.1 S.2.1 dJ9_floorDiv_7cf53_0 rfl (lv_at hl 0 rfl) ?_
  refine lv_iload_n S.1 S.2.1 dJ9_floorDiv_7cf53_1 rfl (lv_at hl 1 rfl) ?_
  refine z_idiv S h dJ9_floorDiv_7cf53_2 (fun y1 h => ?_)
  refine lv_istore_n (lv' := [(2, .int y1), (0, .int i0), (1, .int i1)]) S.1 S.2.1 dJ9_floorDiv_7cf53_3 rfl hl (by decide) rfl (fun ls hl => ?_)
  refine lv_iload_n S.1 S.2.1 dJ9_floorDiv_7cf53_4 rfl (lv_at hl 1 rfl) ?_
  refine lv_iload_n S.1 S.2.1 dJ9_floorDiv_7cf53_5 rfl (lv_at hl 2 rfl) ?_
  refine lv_ixor S.1 S.2.1 dJ9_floorDiv_7cf53_6 ?_
  refine z_if_ge S (tgt := 21) h dJ9_floorDiv_7cf53_7 (by decide) (fun h => ?_) (fun h => ?_)
  · refine lv_iload_n S.1 S.2.1 dJ9_floorDiv_7cf53_21 rfl (lv_at hl 0 rfl) ?_
    exact ret y1 h 22 ls _ _ dJ9_floorDiv_7cf53_22 hw
  · refine lv_iload_n S.1 S.2.1 dJ9_floorDiv_7cf53_10 rfl (lv_at hl 0 rfl) ?_
    refine lv_iload_n S.1 S.2.1 dJ9_floorDiv_7cf53_11 rfl (lv_at hl 2 rfl) ?_
    refine lv_imul S.1 S.2.1 dJ9_floorDiv_7cf53_12 ?_
    refine lv_iload_n S.1 S.2.1 dJ9_floorDiv_7cf53_13 rfl (lv_at hl 1 rfl) ?_
    refine z_icmp_eq S (tgt := 21) h dJ9_floorDiv_7cf53_14 (by decide) (fun h => ?_) (fun h => ?_)
    · refine lv_iload_n S.1 S.2.1 dJ9_floorDiv_7cf53_21 rfl (lv_at hl 0 rfl) ?_
      exact ret y1 h 22 ls _ _ dJ9_floorDiv_7cf53_22 hw
    · refine lv_iload_n S.1 S.2.1 dJ9_floorDiv_7cf53_17 rfl (lv_at hl 0 rfl) ?_
      refine lv_iconst (v := 1) S.1 S.2.1 dJ9_floorDiv_7cf53_18 (by decide) ?_
      refine lv_isub S.1 S.2.1 dJ9_floorDiv_7cf53_19 ?_
      exact ret (y1 - 1) h 20 ls _ _ dJ9_floorDiv_7cf53_20 hw
def gs_J9_max_7cf53 : List Cond := Cond.code yJ9_max_7cf53 cJ9_max_7cf53 2 (some .int) :: GW
def wd_J9_max_7cf53 (cI cJ cZ : ClassId) : va_W := []
abbrev rm_J9_max_7cf53 : Room := { frames := 0, cells := 0, slots := 0, locals := 0 }
theorem hd_J9_max_7cf53 : yJ9_max_7cf53.cls ≠ "java/lang/invoke/MethodHandle" ∧ yJ9_max_7cf53.cls ≠ "java/lang/invoke/VarHandle" ∧ (parseMethodDescriptor yJ9_max_7cf53.desc).map (fun d => d.parameters.length) = some 2 := by decide +kernel
set_option maxHeartbeats 4000000 in
set_option maxRecDepth 100000 in
theorem c_J9_max_7cf53 (l : Launch) (D : va_G) (cI cJ cZ : ClassId) (i0 : Int32) (i1 : Int32) (o : Int32) (h : p_J9_max_7cf53 i0 i1 = some o) : zMi l D (zT cI cJ cZ) yJ9_max_7cf53 gs_J9_max_7cf53 rm_J9_max_7cf53 [.int i0, .int i1] (wd_J9_max_7cf53 cI cJ cZ) (wd_J9_max_7cf53 cI cJ cZ) (o) := by
  refine zMetF_i (own := RJ9) (fun u : Int32 => (wd_J9_max_7cf53 cI cJ cZ)) (fun u : Int32 => u) (by decide +kernel) rfl rfl (Nat.le_of_ble_eq_true rfl) ?_
  intro p e s m args below meth c A Q S hK hA hw ret ls hl
  replace hl : lv_has ls 2 [(0, .int i0), (1, .int i1)] := hl
  refine lv_iload_n S.1 S.2.1 dJ9_max_7cf53_0 rfl (lv_at hl 0 rfl) ?_
  refine lv_iload_n S.1 S.2.1 dJ9_max_7cf53_1 rfl (lv_at hl 1 rfl) ?_
  refine z_icmp_lt S (tgt := 9) h dJ9_max_7cf53_2 (by decide) (fun h => ?_) (fun h => ?_)
  · refine lv_iload_n S.1 S.2.1 dJ9_max_7cf53_9 rfl (lv_at hl 1 rfl) ?_
    exact ret i1 h 10 ls _ _ dJ9_max_7cf53_10 hw
  · refine lv_iload_n S.1 S.2.1 dJ9_max_7cf53_5 rfl (lv_at hl 0 rfl) ?_
    refine lv_goto (tgt := 10) S.1 S.2.1 dJ9_max_7cf53_6 (by decide) ?_
    exact ret i0 h 10 ls _ _ dJ9_max_7cf53_10 hw
def gs_J9_min_7cf53 : List Cond := Cond.code yJ9_min_7cf53 cJ9_min_7cf53 2 (some .int) :: GW
def wd_J9_min_7cf53 (cI cJ cZ : ClassId) : va_W := []
abbrev rm_J9_min_7cf53 : Room := { frames := 0, cells := 0, slots := 0, locals := 0 }
theorem hd_J9_min_7cf53 : yJ9_min_7cf53.cls ≠ "java/lang/invoke/MethodHandle" ∧ yJ9_min_7cf53.cls ≠ "java/lang/invoke/VarHandle" ∧ (parseMethodDescriptor yJ9_min_7cf53.desc).map (fun d => d.parameters.length) = some 2 := by decide +kernel
set_option maxHeartbeats 4000000 in
set_option maxRecDepth 100000 in
theorem c_J9_min_7cf53 (l : Launch) (D : va_G) (cI cJ cZ : ClassId) (i0 : Int32) (i1 : Int32) (o : Int32) (h : p_J9_min_7cf53 i0 i1 = some o) : zMi l D (zT cI cJ cZ) yJ9_min_7cf53 gs_J9_min_7cf53 rm_J9_min_7cf53 [.int i0, .int i1] (wd_J9_min_7cf53 cI cJ cZ) (wd_J9_min_7cf53 cI cJ cZ) (o) := by
  refine zMetF_i (own := RJ9) (fun u : Int32 => (wd_J9_min_7cf53 cI cJ cZ)) (fun u : Int32 => u) (by decide +kernel) rfl rfl (Nat.le_of_ble_eq_true rfl) ?_
  intro p e s m args below meth c A Q S hK hA hw ret ls hl
  replace hl : lv_has ls 2 [(0, .int i0), (1, .int i1)] := hl
  refine lv_iload_n S.1 S.2.1 dJ9_min_7cf53_0 rfl (lv_at hl 0 rfl) ?_
  refine lv_iload_n S.1 S.2.1 dJ9_min_7cf53_1 rfl (lv_at hl 1 rfl) ?_
  refine z_icmp_gt S (tgt := 9) h dJ9_min_7cf53_2 (by decide) (fun h => ?_) (fun h => ?_)
  · refine lv_iload_n S.1 S.2.1 dJ9_min_7cf53_9 rfl (lv_at hl 1 rfl) ?_
    exact ret i1 h 10 ls _ _ dJ9_min_7cf53_10 hw
  · refine lv_iload_n S.1 S.2.1 dJ9_min_7cf53_5 rfl (lv_at hl 0 rfl) ?_
    refine lv_goto (tgt := 10) S.1 S.2.1 dJ9_min_7cf53_6 (by decide) ?_
    exact ret i0 h 10 ls _ _ dJ9_min_7cf53_10 hw
