theorem gw_715 : Cond.fieldLink RX8 23 "ScoreReaderModel" "area" "[I" ∈ GW := GW_of 715 (by decide +kernel) (by decide +kernel)
theorem gw_718 : Cond.fieldLink RX8 33 "ScoreReaderModel" "x1" "[I" ∈ GW := GW_of 718 (by decide +kernel) (by decide +kernel)
theorem gw_719 : Cond.fieldLink RX8 36 "ScoreReaderModel" "y1" "[I" ∈ GW := GW_of 719 (by decide +kernel) (by decide +kernel)
theorem gw_733 : Cond.fieldLink RX8 75 "ScoreReaderModel" "pile" "[I" ∈ GW := GW_of 733 (by decide +kernel) (by decide +kernel)
def gs_X8_spread : List Cond := Cond.code yX8_spread cX8_spread 10 none :: GW
def wd_X8_spread (cI cJ cZ : ClassId) (a_this a_this_board a_this_area a_this_x0 a_this_y0 a_this_x1 a_this_y1 a_this_head a_this_said a_this_low a_this_high a_this_least a_this_price a_this_way a_this_lineFirst a_this_lineLast a_this_left a_this_pile a_this_rest a_this_read a_this_measure a_this_wentBack : Nat) (v_this_run : Int32) (v_this_signs : Int32) (v_this_lastSigns : Int32) (v_this_dirt : Int32) (v_this_time : Int32) (v_this_lineMany : Int32) (v_this_notSign : Int32) (v_this_notKind : Int32) (v_this_measureMany : Int32) (f_this_area : Nat → Int32) (f_this_x0 : Nat → Int32) (f_this_y0 : Nat → Int32) (f_this_x1 : Nat → Int32) (f_this_y1 : Nat → Int32) (f_this_head : Nat → Int32) (f_this_left : Nat → Int64) (f_this_pile : Nat → Int32) : va_W := [(a_this, .inr (8, [.ref a_this_board, .int v_this_run, .int v_this_signs, .int v_this_lastSigns, .ref a_this_area, .ref a_this_x0, .ref a_this_y0, .ref a_this_x1, .ref a_this_y1, .ref a_this_head, .ref a_this_said, .ref a_this_low, .ref a_this_high, .ref a_this_least, .ref a_this_price, .int v_this_dirt, .int v_this_time, .ref a_this_way, .int v_this_lineMany, .ref a_this_lineFirst, .ref a_this_lineLast, .ref a_this_left, .ref a_this_pile, .ref a_this_rest, .int v_this_notSign, .int v_this_notKind, .ref a_this_read, .ref a_this_measure, .int v_this_measureMany, .ref a_this_wentBack])), (a_this_area, .inl (cI, 40, .inl f_this_area)), (a_this_x0, .inl (cI, 40, .inl f_this_x0)), (a_this_y0, .inl (cI, 40, .inl f_this_y0)), (a_this_x1, .inl (cI, 40, .inl f_this_x1)), (a_this_y1, .inl (cI, 40, .inl f_this_y1)), (a_this_head, .inl (cI, 40, .inl f_this_head)), (a_this_left, .inl (cJ, 32, .inr (.inl f_this_left))), (a_this_pile, .inl (cI, 1920, .inl f_this_pile))]
abbrev rm_X8_spread : Room := { frames := 1, cells := 0, slots := 0, locals := 22 }
theorem hd_X8_spread : yX8_spread.cls = RX8 ∧ yX8_spread.cls ≠ "java/lang/invoke/MethodHandle" ∧ yX8_spread.cls ≠ "java/lang/invoke/VarHandle" ∧ (parseMethodDescriptor yX8_spread.desc).map (fun d => d.parameters.length) = some 3 := by decide +kernel
set_option maxHeartbeats 4000000 in
set_option maxRecDepth 100000 in
theorem c_X8_spread (l : Launch) (D : va_G) (cI cJ cZ : ClassId) (a_this a_this_board a_this_area a_this_x0 a_this_y0 a_this_x1 a_this_y1 a_this_head a_this_said a_this_low a_this_high a_this_least a_this_price a_this_way a_this_lineFirst a_this_lineLast a_this_left a_this_pile a_this_rest a_this_read a_this_measure a_this_wentBack : Nat) (v_this_run : Int32) (v_this_signs : Int32) (v_this_lastSigns : Int32) (v_this_dirt : Int32) (v_this_time : Int32) (v_this_lineMany : Int32) (v_this_notSign : Int32) (v_this_notKind : Int32) (v_this_measureMany : Int32) (f_this_area : Nat → Int32) (f_this_x0 : Nat → Int32) (f_this_y0 : Nat → Int32) (f_this_x1 : Nat → Int32) (f_this_y1 : Nat → Int32) (f_this_head : Nat → Int32) (f_this_left : Nat → Int64) (f_this_pile : Nat → Int32) (K : Nat) (i1 : Int32) (i2 : Int32) (i3 : Int32) (o : (Nat → Int32) × (Nat → Int32) × (Nat → Int32) × (Nat → Int32) × (Nat → Int32) × (Nat → Int32) × (Nat → Int64) × (Nat → Int32)) (h : p_X8_spread K f_this_area f_this_x0 f_this_y0 f_this_x1 f_this_y1 f_this_head f_this_left f_this_pile i1 i2 i3 = some o) : zMv l D (zT cI cJ cZ) yX8_spread gs_X8_spread rm_X8_spread [.ref a_this, .int i1, .int i2, .int i3] (wd_X8_spread cI cJ cZ a_this a_this_board a_this_area a_this_x0 a_this_y0 a_this_x1 a_this_y1 a_this_head a_this_said a_this_low a_this_high a_this_least a_this_price a_this_way a_this_lineFirst a_this_lineLast a_this_left a_this_pile a_this_rest a_this_read a_this_measure a_this_wentBack v_this_run v_this_signs v_this_lastSigns v_this_dirt v_this_time v_this_lineMany v_this_notSign v_this_notKind v_this_measureMany f_this_area f_this_x0 f_this_y0 f_this_x1 f_this_y1 f_this_head f_this_left f_this_pile) (wd_X8_spread cI cJ cZ a_this a_this_board a_this_area a_this_x0 a_this_y0 a_this_x1 a_this_y1 a_this_head a_this_said a_this_low a_this_high a_this_least a_this_price a_this_way a_this_lineFirst a_this_lineLast a_this_left a_this_pile a_this_rest a_this_read a_this_measure a_this_wentBack v_this_run v_this_signs v_this_lastSigns v_this_dirt v_this_time v_this_lineMany v_this_notSign v_this_notKind v_this_measureMany (o.1) (o.2.1) (o.2.2.1) (o.2.2.2.1) (o.2.2.2.2.1) (o.2.2.2.2.2.1) (o.2.2.2.2.2.2.1) (o.2.2.2.2.2.2.2)) := by
  refine zMet_v (own := RX8) (fun u : (Nat → Int32) × (Nat → Int32) × (Nat → Int32) × (Nat → Int32) × (Nat → Int32) × (Nat → Int32) × (Nat → Int64) × (Nat → Int32) => (wd_X8_spread cI cJ cZ a_this a_this_board a_this_area a_this_x0 a_this_y0 a_this_x1 a_this_y1 a_this_head a_this_said a_this_low a_this_high a_this_least a_this_price a_this_way a_this_lineFirst a_this_lineLast a_this_left a_this_pile a_this_rest a_this_read a_this_measure a_this_wentBack v_this_run v_this_signs v_this_lastSigns v_this_dirt v_this_time v_this_lineMany v_this_notSign v_this_notKind v_this_measureMany (u.1) (u.2.1) (u.2.2.1) (u.2.2.2.1) (u.2.2.2.2.1) (u.2.2.2.2.2.1) (u.2.2.2.2.2.2.1) (u.2.2.2.2.2.2.2))) (by decide) rfl rfl (Nat.le_of_ble_eq_true rfl) ?_
  intro p e s m args below meth c A Q S hK hA hw ret ls hl
  replace hl : lv_has ls 10 [(0, .ref a_this), (1, .int i1), (2, .int i2), (3, .int i3)] := hl
  refine lv_aload_n S.1 S.2.1 dX8_spread_0 rfl (lv_at hl 0 rfl) ?_
  refine z_get S (C := RX8) (T := TX8) (N := 30) (gi gu_X8) hK hw 0 rfl rfl 4 (Nat.le_of_ble_eq_true rfl) (List.mem_cons_of_mem _ gw_715) rfl dX8_spread_1 ?_
  refine lv_iload_n S.1 S.2.1 dX8_spread_4 rfl (lv_at hl 3 rfl) ?_
  refine lv_iconst (v := 0) S.1 S.2.1 dX8_spread_5 (by decide) ?_
  refine z_iast S hK hw 1 0 rfl rfl h dX8_spread_6 (fun f1 H locs hw h => ?_)
  replace hw : zW D A s H locs (wd_X8_spread cI cJ cZ a_this a_this_board a_this_area a_this_x0 a_this_y0 a_this_x1 a_this_y1 a_this_head a_this_said a_this_low a_this_high a_this_least a_this_price a_this_way a_this_lineFirst a_this_lineLast a_this_left a_this_pile a_this_rest a_this_read a_this_measure a_this_wentBack v_this_run v_this_signs v_this_lastSigns v_this_dirt v_this_time v_this_lineMany v_this_notSign v_this_notKind v_this_measureMany f1 f_this_x0 f_this_y0 f_this_x1 f_this_y1 f_this_head f_this_left f_this_pile) := hw
  refine lv_aload_n S.1 S.2.1 dX8_spread_7 rfl (lv_at hl 0 rfl) ?_
  refine z_get S (C := RX8) (T := TX8) (N := 30) (gi gu_X8) hK hw 0 rfl rfl 5 (Nat.le_of_ble_eq_true rfl) (List.mem_cons_of_mem _ gw_716) rfl dX8_spread_8 ?_
  refine lv_iload_n S.1 S.2.1 dX8_spread_11 rfl (lv_at hl 3 rfl) ?_
  refine lv_iload_n S.1 S.2.1 dX8_spread_12 rfl (lv_at hl 1 rfl) ?_
  refine z_iast S hK hw 2 0 rfl rfl h dX8_spread_13 (fun f2 H locs hw h => ?_)
  replace hw : zW D A s H locs (wd_X8_spread cI cJ cZ a_this a_this_board a_this_area a_this_x0 a_this_y0 a_this_x1 a_this_y1 a_this_head a_this_said a_this_low a_this_high a_this_least a_this_price a_this_way a_this_lineFirst a_this_lineLast a_this_left a_this_pile a_this_rest a_this_read a_this_measure a_this_wentBack v_this_run v_this_signs v_this_lastSigns v_this_dirt v_this_time v_this_lineMany v_this_notSign v_this_notKind v_this_measureMany f1 f2 f_this_y0 f_this_x1 f_this_y1 f_this_head f_this_left f_this_pile) := hw
  refine lv_aload_n S.1 S.2.1 dX8_spread_14 rfl (lv_at hl 0 rfl) ?_
  refine z_get S (C := RX8) (T := TX8) (N := 30) (gi gu_X8) hK hw 0 rfl rfl 6 (Nat.le_of_ble_eq_true rfl) (List.mem_cons_of_mem _ gw_717) rfl dX8_spread_15 ?_
  refine lv_iload_n S.1 S.2.1 dX8_spread_18 rfl (lv_at hl 3 rfl) ?_
  refine lv_iload_n S.1 S.2.1 dX8_spread_19 rfl (lv_at hl 2 rfl) ?_
  refine z_iast S hK hw 3 0 rfl rfl h dX8_spread_20 (fun f3 H locs hw h => ?_)
  replace hw : zW D A s H locs (wd_X8_spread cI cJ cZ a_this a_this_board a_this_area a_this_x0 a_this_y0 a_this_x1 a_this_y1 a_this_head a_this_said a_this_low a_this_high a_this_least a_this_price a_this_way a_this_lineFirst a_this_lineLast a_this_left a_this_pile a_this_rest a_this_read a_this_measure a_this_wentBack v_this_run v_this_signs v_this_lastSigns v_this_dirt v_this_time v_this_lineMany v_this_notSign v_this_notKind v_this_measureMany f1 f2 f3 f_this_x1 f_this_y1 f_this_head f_this_left f_this_pile) := hw
  refine lv_aload_n S.1 S.2.1 dX8_spread_21 rfl (lv_at hl 0 rfl) ?_
  refine z_get S (C := RX8) (T := TX8) (N := 30) (gi gu_X8) hK hw 0 rfl rfl 7 (Nat.le_of_ble_eq_true rfl) (List.mem_cons_of_mem _ gw_718) rfl dX8_spread_22 ?_
  refine lv_iload_n S.1 S.2.1 dX8_spread_25 rfl (lv_at hl 3 rfl) ?_
  refine lv_iload_n S.1 S.2.1 dX8_spread_26 rfl (lv_at hl 1 rfl) ?_
  refine z_iast S hK hw 4 0 rfl rfl h dX8_spread_27 (fun f4 H locs hw h => ?_)
  replace hw : zW D A s H locs (wd_X8_spread cI cJ cZ a_this a_this_board a_this_area a_this_x0 a_this_y0 a_this_x1 a_this_y1 a_this_head a_this_said a_this_low a_this_high a_this_least a_this_price a_this_way a_this_lineFirst a_this_lineLast a_this_left a_this_pile a_this_rest a_this_read a_this_measure a_this_wentBack v_this_run v_this_signs v_this_lastSigns v_this_dirt v_this_time v_this_lineMany v_this_notSign v_this_notKind v_this_measureMany f1 f2 f3 f4 f_this_y1 f_this_head f_this_left f_this_pile) := hw
  refine lv_aload_n S.1 S.2.1 dX8_spread_28 rfl (lv_at hl 0 rfl) ?_
  refine z_get S (C := RX8) (T := TX8) (N := 30) (gi gu_X8) hK hw 0 rfl rfl 8 (Nat.le_of_ble_eq_true rfl) (List.mem_cons_of_mem _ gw_719) rfl dX8_spread_29 ?_
  refine lv_iload_n S.1 S.2.1 dX8_spread_32 rfl (lv_at hl 3 rfl) ?_
  refine lv_iload_n S.1 S.2.1 dX8_spread_33 rfl (lv_at hl 2 rfl) ?_
  refine z_iast S hK hw 5 0 rfl rfl h dX8_spread_34 (fun f5 H locs hw h => ?_)
  replace hw : zW D A s H locs (wd_X8_spread cI cJ cZ a_this a_this_board a_this_area a_this_x0 a_this_y0 a_this_x1 a_this_y1 a_this_head a_this_said a_this_low a_this_high a_this_least a_this_price a_this_way a_this_lineFirst a_this_lineLast a_this_left a_this_pile a_this_rest a_this_read a_this_measure a_this_wentBack v_this_run v_this_signs v_this_lastSigns v_this_dirt v_this_time v_this_lineMany v_this_notSign v_this_notKind v_this_measureMany f1 f2 f3 f4 f5 f_this_head f_this_left f_this_pile) := hw
  refine lv_aload_n S.1 S.2.1 dX8_spread_35 rfl (lv_at hl 0 rfl) ?_
  refine z_get S (C := RX8) (T := TX8) (N := 30) (gi gu_X8) hK hw 0 rfl rfl 9 (Nat.le_of_ble_eq_true rfl) (List.mem_cons_of_mem _ gw_720) rfl dX8_spread_36 ?_
  refine lv_iload_n S.1 S.2.1 dX8_spread_39 rfl (lv_at hl 3 rfl) ?_
  refine lv_iload_n S.1 S.2.1 dX8_spread_40 rfl (lv_at hl 1 rfl) ?_
  refine z_iast S hK hw 6 0 rfl rfl h dX8_spread_41 (fun f6 H locs hw h => ?_)
  replace hw : zW D A s H locs (wd_X8_spread cI cJ cZ a_this a_this_board a_this_area a_this_x0 a_this_y0 a_this_x1 a_this_y1 a_this_head a_this_said a_this_low a_this_high a_this_least a_this_price a_this_way a_this_lineFirst a_this_lineLast a_this_left a_this_pile a_this_rest a_this_read a_this_measure a_this_wentBack v_this_run v_this_signs v_this_lastSigns v_this_dirt v_this_time v_this_lineMany v_this_notSign v_this_notKind v_this_measureMany f1 f2 f3 f4 f5 f6 f_this_left f_this_pile) := hw
  refine lv_iconst (v := 1) S.1 S.2.1 dX8_spread_42 (by decide) ?_
  refine lv_istore (lv' := [(4, .int 1), (0, .ref a_this), (1, .int i1), (2, .int i2), (3, .int i3)]) S.1 S.2.1 dX8_spread_43 hl (by decide) rfl (fun ls hl => ?_)
  refine lv_aload_n S.1 S.2.1 dX8_spread_45 rfl (lv_at hl 1 rfl) ?_
  refine z_get S (C := RX8) (T := TX8) (N := 30) (gi gu_X8) hK hw 0 rfl rfl 22 (Nat.le_of_ble_eq_true rfl) (List.mem_cons_of_mem _ gw_733) rfl dX8_spread_46 ?_
  refine lv_iconst (v := 0) S.1 S.2.1 dX8_spread_49 (by decide) ?_
  refine lv_bipush (v := 60) S.1 S.2.1 dX8_spread_50 (by decide) ?_
  refine lv_iload_n S.1 S.2.1 dX8_spread_52 rfl (lv_at hl 3 rfl) ?_
  refine lv_imul S.1 S.2.1 dX8_spread_53 ?_
  refine lv_iload_n S.1 S.2.1 dX8_spread_54 rfl (lv_at hl 2 rfl) ?_
  refine lv_iadd S.1 S.2.1 dX8_spread_55 ?_
  refine z_iast S hK hw 8 0 rfl rfl h dX8_spread_56 (fun f7 H locs hw h => ?_)
  replace hw : zW D A s H locs (wd_X8_spread cI cJ cZ a_this a_this_board a_this_area a_this_x0 a_this_y0 a_this_x1 a_this_y1 a_this_head a_this_said a_this_low a_this_high a_this_least a_this_price a_this_way a_this_lineFirst a_this_lineLast a_this_left a_this_pile a_this_rest a_this_read a_this_measure a_this_wentBack v_this_run v_this_signs v_this_lastSigns v_this_dirt v_this_time v_this_lineMany v_this_notSign v_this_notKind v_this_measureMany f1 f2 f3 f4 f5 f6 f_this_left f7) := hw
  refine lv_aload_n S.1 S.2.1 dX8_spread_57 rfl (lv_at hl 1 rfl) ?_
  refine z_get S (C := RX8) (T := TX8) (N := 30) (gi gu_X8) hK hw 0 rfl rfl 21 (Nat.le_of_ble_eq_true rfl) (List.mem_cons_of_mem _ gw_732) rfl dX8_spread_58 ?_
  refine lv_iload_n S.1 S.2.1 dX8_spread_61 rfl (lv_at hl 3 rfl) ?_
  refine lv_dup2_11 S.1 S.2.1 dX8_spread_62 rfl rfl ?_
  refine z_lald S hK hw 7 1 rfl rfl h dX8_spread_63 (fun y8 h => ?_)
  refine lv_lconst (v := 1) S.1 S.2.1 dX8_spread_64 (by decide) ?_
  refine lv_iload_n S.1 S.2.1 dX8_spread_65 rfl (lv_at hl 2 rfl) ?_
  refine lv_lshl (v := (((1 : Int64) <<< (i1.toInt64 &&& 63)))) S.1 S.2.1 dX8_spread_66 rfl ?_
  refine lv_ldc2 (v := (-1)) S.1 S.2.1 S.2.2.2.1 (S.2.2.2.2 _ (List.mem_cons_of_mem _ gw_857)) dX8_spread_67 ?_
  refine lv_lxor S.1 S.2.1 dX8_spread_70 ?_
  refine lv_land S.1 S.2.1 dX8_spread_71 ?_
  refine z_last S hK hw 7 1 rfl rfl h dX8_spread_72 (fun f9 H locs hw h => ?_)
  replace hw : zW D A s H locs (wd_X8_spread cI cJ cZ a_this a_this_board a_this_area a_this_x0 a_this_y0 a_this_x1 a_this_y1 a_this_head a_this_said a_this_low a_this_high a_this_least a_this_price a_this_way a_this_lineFirst a_this_lineLast a_this_left a_this_pile a_this_rest a_this_read a_this_measure a_this_wentBack v_this_run v_this_signs v_this_lastSigns v_this_dirt v_this_time v_this_lineMany v_this_notSign v_this_notKind v_this_measureMany f1 f2 f3 f4 f5 f6 f9 f7) := hw
  have L_73 : ∀ (n73_18 : Nat) (f10 : Nat → Int32) (f11 : Nat → Int32) (f12 : Nat → Int32) (f13 : Nat → Int32) (f14 : Nat → Int32) (f15 : Nat → Int32) (f16 : Nat → Int64) (f17 : Nat → Int32) (x18 : Int32) (h : z_lp9 (p_X8_spread_l73 i3 K) n73_18 f10 f11 f12 f13 f14 f15 f16 f17 x18 = some o) (H : Heap) (locs : List Loc) (ls : Array Slot), zW D A s H locs (wd_X8_spread cI cJ cZ a_this a_this_board a_this_area a_this_x0 a_this_y0 a_this_x1 a_this_y1 a_this_head a_this_said a_this_low a_this_high a_this_least a_this_price a_this_way a_this_lineFirst a_this_lineLast a_this_left a_this_pile a_this_rest a_this_read a_this_measure a_this_wentBack v_this_run v_this_signs v_this_lastSigns v_this_dirt v_this_time v_this_lineMany v_this_notSign v_this_notKind v_this_measureMany f10 f11 f12 f13 f14 f15 f16 f17) → lv_has ls 10 [(0, .ref a_this), (3, .int i3), (4, .int x18)] → W p l e (headSpec gs_X8_spread rm_X8_spread).room s m args below meth c H locs 0 0 Q (F0 m 73 ls []) := by
    intro n73_18
    induction n73_18 with
    | zero => intro f10 f11 f12 f13 f14 f15 f16 f17 x18 h; exact z_no h
    | succ n73_18 ih_73 =>
      intro f10 f11 f12 f13 f14 f15 f16 f17 x18 h H locs ls hw hl
      replace h : (p_X8_spread_l73 i3 K) (z_lp9 (p_X8_spread_l73 i3 K) n73_18) f10 f11 f12 f13 f14 f15 f16 f17 x18 = some o := h
      refine lv_iload S.1 S.2.1 dX8_spread_73 (lv_at hl 2 rfl) ?_
      refine z_if_le S (tgt := 393) h dX8_spread_75 (by decide) (fun h => ?_) (fun h => ?_)
      · exact ret (f10, f11, f12, f13, f14, f15, f16, f17) h 393 ls _ _ dX8_spread_393 hw
      · refine z_iinc S (i := 4) (k := 2) (v := x18 + (-1)) hl rfl (by decide) (congrArg (fun w => x18 + w) (by decide : Int32.ofInt (-1) = (-1 : Int32))) (fun v => (4, .int v) :: [(0, .ref a_this), (3, .int i3)]) (fun _ => rfl) h dX8_spread_78 (fun y19 ls hl h => ?_)
        replace hl : lv_has ls 10 [(4, .int y19), (0, .ref a_this), (3, .int i3)] := hl
        refine lv_aload_n S.1 S.2.1 dX8_spread_81 rfl (lv_at hl 1 rfl) ?_
        refine z_get S (C := RX8) (T := TX8) (N := 30) (gi gu_X8) hK hw 0 rfl rfl 22 (Nat.le_of_ble_eq_true rfl) (List.mem_cons_of_mem _ gw_733) rfl dX8_spread_82 ?_
        refine lv_iload S.1 S.2.1 dX8_spread_85 (lv_at hl 0 rfl) ?_
        refine z_iald S hK hw 8 0 rfl rfl h dX8_spread_87 (fun y20 h => ?_)
        refine lv_bipush (v := 60) S.1 S.2.1 dX8_spread_88 (by decide) ?_
        refine z_irem S h dX8_spread_90 (fun y21 h => ?_)
        refine lv_istore (lv' := [(5, .int y21), (4, .int y19), (0, .ref a_this), (3, .int i3)]) S.1 S.2.1 dX8_spread_91 hl (by decide) rfl (fun ls hl => ?_)
        refine lv_aload_n S.1 S.2.1 dX8_spread_93 rfl (lv_at hl 2 rfl) ?_
        refine z_get S (C := RX8) (T := TX8) (N := 30) (gi gu_X8) hK hw 0 rfl rfl 22 (Nat.le_of_ble_eq_true rfl) (List.mem_cons_of_mem _ gw_733) rfl dX8_spread_94 ?_
        refine lv_iload S.1 S.2.1 dX8_spread_97 (lv_at hl 1 rfl) ?_
        refine z_iald S hK hw 8 0 rfl rfl h dX8_spread_99 (fun y22 h => ?_)
        refine lv_bipush (v := 60) S.1 S.2.1 dX8_spread_100 (by decide) ?_
        refine z_idiv S h dX8_spread_102 (fun y23 h => ?_)
        refine lv_istore (lv' := [(6, .int y23), (5, .int y21), (4, .int y19), (0, .ref a_this), (3, .int i3)]) S.1 S.2.1 dX8_spread_103 hl (by decide) rfl (fun ls hl => ?_)
        refine lv_aload_n S.1 S.2.1 dX8_spread_105 rfl (lv_at hl 3 rfl) ?_
        refine z_get S (C := RX8) (T := TX8) (N := 30) (gi gu_X8) hK hw 0 rfl rfl 4 (Nat.le_of_ble_eq_true rfl) (List.mem_cons_of_mem _ gw_715) rfl dX8_spread_106 ?_
        refine lv_iload_n S.1 S.2.1 dX8_spread_109 rfl (lv_at hl 4 rfl) ?_
        refine lv_dup2_11 S.1 S.2.1 dX8_spread_110 rfl rfl ?_
        refine z_iald S hK hw 1 0 rfl rfl h dX8_spread_111 (fun y24 h => ?_)
        refine lv_iconst (v := 1) S.1 S.2.1 dX8_spread_112 (by decide) ?_
        refine lv_iadd S.1 S.2.1 dX8_spread_113 ?_
        refine z_iast S hK hw 1 0 rfl rfl h dX8_spread_114 (fun f25 H locs hw h => ?_)
        replace hw : zW D A s H locs (wd_X8_spread cI cJ cZ a_this a_this_board a_this_area a_this_x0 a_this_y0 a_this_x1 a_this_y1 a_this_head a_this_said a_this_low a_this_high a_this_least a_this_price a_this_way a_this_lineFirst a_this_lineLast a_this_left a_this_pile a_this_rest a_this_read a_this_measure a_this_wentBack v_this_run v_this_signs v_this_lastSigns v_this_dirt v_this_time v_this_lineMany v_this_notSign v_this_notKind v_this_measureMany f25 f11 f12 f13 f14 f15 f16 f17) := hw
        refine lv_aload_n S.1 S.2.1 dX8_spread_115 rfl (lv_at hl 3 rfl) ?_
        refine z_get S (C := RX8) (T := TX8) (N := 30) (gi gu_X8) hK hw 0 rfl rfl 9 (Nat.le_of_ble_eq_true rfl) (List.mem_cons_of_mem _ gw_720) rfl dX8_spread_116 ?_
        refine lv_iload_n S.1 S.2.1 dX8_spread_119 rfl (lv_at hl 4 rfl) ?_
        refine lv_iload S.1 S.2.1 dX8_spread_120 (lv_at hl 0 rfl) ?_
        refine lv_aload_n S.1 S.2.1 dX8_spread_122 rfl (lv_at hl 3 rfl) ?_
        refine z_get S (C := RX8) (T := TX8) (N := 30) (gi gu_X8) hK hw 0 rfl rfl 6 (Nat.le_of_ble_eq_true rfl) (List.mem_cons_of_mem _ gw_717) rfl dX8_spread_123 ?_
        refine lv_iload_n S.1 S.2.1 dX8_spread_126 rfl (lv_at hl 4 rfl) ?_
        refine z_iald S hK hw 3 0 rfl rfl h dX8_spread_127 (fun y26 h => ?_)
        have J_164 : ∀ (z27 : Int32) (h : (p_X8_spread_j164 f15 i3 f11 y21 f12 y23 f13 f14 f25 K f16 f17 y19 (z_lp9 (p_X8_spread_l73 i3 K) n73_18)) z27 = some o) (H : Heap) (locs : List Loc) (ls : Array Slot), zW D A s H locs (wd_X8_spread cI cJ cZ a_this a_this_board a_this_area a_this_x0 a_this_y0 a_this_x1 a_this_y1 a_this_head a_this_said a_this_low a_this_high a_this_least a_this_price a_this_way a_this_lineFirst a_this_lineLast a_this_left a_this_pile a_this_rest a_this_read a_this_measure a_this_wentBack v_this_run v_this_signs v_this_lastSigns v_this_dirt v_this_time v_this_lineMany v_this_notSign v_this_notKind v_this_measureMany f25 f11 f12 f13 f14 f15 f16 f17) → lv_has ls 10 [(0, .ref a_this), (3, .int i3), (4, .int y19), (5, .int y21), (6, .int y23)] → W p l e (headSpec gs_X8_spread rm_X8_spread).room s m args below meth c H locs 0 0 Q (F0 m 164 ls [.int z27, .int i3, .ref a_this_head]) := by
          intro z27 h H locs ls hw hl
          refine z_iast S hK hw 6 0 rfl rfl h dX8_spread_164 (fun f28 H locs hw h => ?_)
          replace hw : zW D A s H locs (wd_X8_spread cI cJ cZ a_this a_this_board a_this_area a_this_x0 a_this_y0 a_this_x1 a_this_y1 a_this_head a_this_said a_this_low a_this_high a_this_least a_this_price a_this_way a_this_lineFirst a_this_lineLast a_this_left a_this_pile a_this_rest a_this_read a_this_measure a_this_wentBack v_this_run v_this_signs v_this_lastSigns v_this_dirt v_this_time v_this_lineMany v_this_notSign v_this_notKind v_this_measureMany f25 f11 f12 f13 f14 f28 f16 f17) := hw
          refine lv_aload_n S.1 S.2.1 dX8_spread_165 rfl (lv_at hl 0 rfl) ?_
          refine z_get S (C := RX8) (T := TX8) (N := 30) (gi gu_X8) hK hw 0 rfl rfl 5 (Nat.le_of_ble_eq_true rfl) (List.mem_cons_of_mem _ gw_716) rfl dX8_spread_166 ?_
          refine lv_iload_n S.1 S.2.1 dX8_spread_169 rfl (lv_at hl 1 rfl) ?_
          refine lv_iload S.1 S.2.1 dX8_spread_170 (lv_at hl 3 rfl) ?_
          refine lv_aload_n S.1 S.2.1 dX8_spread_172 rfl (lv_at hl 0 rfl) ?_
          refine z_get S (C := RX8) (T := TX8) (N := 30) (gi gu_X8) hK hw 0 rfl rfl 5 (Nat.le_of_ble_eq_true rfl) (List.mem_cons_of_mem _ gw_716) rfl dX8_spread_173 ?_
          refine lv_iload_n S.1 S.2.1 dX8_spread_176 rfl (lv_at hl 1 rfl) ?_
          refine z_iald S hK hw 2 0 rfl rfl h dX8_spread_177 (fun y29 h => ?_)
          have J_192 : ∀ (z30 : Int32) (h : (p_X8_spread_j192 f11 i3 f12 y23 f13 y21 f14 f25 f28 K f16 f17 y19 (z_lp9 (p_X8_spread_l73 i3 K) n73_18)) z30 = some o) (H : Heap) (locs : List Loc) (ls : Array Slot), zW D A s H locs (wd_X8_spread cI cJ cZ a_this a_this_board a_this_area a_this_x0 a_this_y0 a_this_x1 a_this_y1 a_this_head a_this_said a_this_low a_this_high a_this_least a_this_price a_this_way a_this_lineFirst a_this_lineLast a_this_left a_this_pile a_this_rest a_this_read a_this_measure a_this_wentBack v_this_run v_this_signs v_this_lastSigns v_this_dirt v_this_time v_this_lineMany v_this_notSign v_this_notKind v_this_measureMany f25 f11 f12 f13 f14 f28 f16 f17) → lv_has ls 10 [(0, .ref a_this), (3, .int i3), (4, .int y19), (5, .int y21), (6, .int y23)] → W p l e (headSpec gs_X8_spread rm_X8_spread).room s m args below meth c H locs 0 0 Q (F0 m 192 ls [.int z30, .int i3, .ref a_this_x0]) := by
            intro z30 h H locs ls hw hl
            refine z_iast S hK hw 2 0 rfl rfl h dX8_spread_192 (fun f31 H locs hw h => ?_)
            replace hw : zW D A s H locs (wd_X8_spread cI cJ cZ a_this a_this_board a_this_area a_this_x0 a_this_y0 a_this_x1 a_this_y1 a_this_head a_this_said a_this_low a_this_high a_this_least a_this_price a_this_way a_this_lineFirst a_this_lineLast a_this_left a_this_pile a_this_rest a_this_read a_this_measure a_this_wentBack v_this_run v_this_signs v_this_lastSigns v_this_dirt v_this_time v_this_lineMany v_this_notSign v_this_notKind v_this_measureMany f25 f31 f12 f13 f14 f28 f16 f17) := hw
            refine lv_aload_n S.1 S.2.1 dX8_spread_193 rfl (lv_at hl 0 rfl) ?_
            refine z_get S (C := RX8) (T := TX8) (N := 30) (gi gu_X8) hK hw 0 rfl rfl 6 (Nat.le_of_ble_eq_true rfl) (List.mem_cons_of_mem _ gw_717) rfl dX8_spread_194 ?_
            refine lv_iload_n S.1 S.2.1 dX8_spread_197 rfl (lv_at hl 1 rfl) ?_
            refine lv_iload S.1 S.2.1 dX8_spread_198 (lv_at hl 4 rfl) ?_
            refine lv_aload_n S.1 S.2.1 dX8_spread_200 rfl (lv_at hl 0 rfl) ?_
            refine z_get S (C := RX8) (T := TX8) (N := 30) (gi gu_X8) hK hw 0 rfl rfl 6 (Nat.le_of_ble_eq_true rfl) (List.mem_cons_of_mem _ gw_717) rfl dX8_spread_201 ?_
            refine lv_iload_n S.1 S.2.1 dX8_spread_204 rfl (lv_at hl 1 rfl) ?_
            refine z_iald S hK hw 3 0 rfl rfl h dX8_spread_205 (fun y32 h => ?_)
            have J_220 : ∀ (z33 : Int32) (h : (p_X8_spread_j220 f12 i3 f13 y21 f14 y23 f25 f31 f28 K f16 f17 y19 (z_lp9 (p_X8_spread_l73 i3 K) n73_18)) z33 = some o) (H : Heap) (locs : List Loc) (ls : Array Slot), zW D A s H locs (wd_X8_spread cI cJ cZ a_this a_this_board a_this_area a_this_x0 a_this_y0 a_this_x1 a_this_y1 a_this_head a_this_said a_this_low a_this_high a_this_least a_this_price a_this_way a_this_lineFirst a_this_lineLast a_this_left a_this_pile a_this_rest a_this_read a_this_measure a_this_wentBack v_this_run v_this_signs v_this_lastSigns v_this_dirt v_this_time v_this_lineMany v_this_notSign v_this_notKind v_this_measureMany f25 f31 f12 f13 f14 f28 f16 f17) → lv_has ls 10 [(0, .ref a_this), (3, .int i3), (4, .int y19), (5, .int y21), (6, .int y23)] → W p l e (headSpec gs_X8_spread rm_X8_spread).room s m args below meth c H locs 0 0 Q (F0 m 220 ls [.int z33, .int i3, .ref a_this_y0]) := by
              intro z33 h H locs ls hw hl
              refine z_iast S hK hw 3 0 rfl rfl h dX8_spread_220 (fun f34 H locs hw h => ?_)
              replace hw : zW D A s H locs (wd_X8_spread cI cJ cZ a_this a_this_board a_this_area a_this_x0 a_this_y0 a_this_x1 a_this_y1 a_this_head a_this_said a_this_low a_this_high a_this_least a_this_price a_this_way a_this_lineFirst a_this_lineLast a_this_left a_this_pile a_this_rest a_this_read a_this_measure a_this_wentBack v_this_run v_this_signs v_this_lastSigns v_this_dirt v_this_time v_this_lineMany v_this_notSign v_this_notKind v_this_measureMany f25 f31 f34 f13 f14 f28 f16 f17) := hw
              refine lv_aload_n S.1 S.2.1 dX8_spread_221 rfl (lv_at hl 0 rfl) ?_
              refine z_get S (C := RX8) (T := TX8) (N := 30) (gi gu_X8) hK hw 0 rfl rfl 7 (Nat.le_of_ble_eq_true rfl) (List.mem_cons_of_mem _ gw_718) rfl dX8_spread_222 ?_
              refine lv_iload_n S.1 S.2.1 dX8_spread_225 rfl (lv_at hl 1 rfl) ?_
              refine lv_iload S.1 S.2.1 dX8_spread_226 (lv_at hl 3 rfl) ?_
              refine lv_aload_n S.1 S.2.1 dX8_spread_228 rfl (lv_at hl 0 rfl) ?_
              refine z_get S (C := RX8) (T := TX8) (N := 30) (gi gu_X8) hK hw 0 rfl rfl 7 (Nat.le_of_ble_eq_true rfl) (List.mem_cons_of_mem _ gw_718) rfl dX8_spread_229 ?_
              refine lv_iload_n S.1 S.2.1 dX8_spread_232 rfl (lv_at hl 1 rfl) ?_
              refine z_iald S hK hw 4 0 rfl rfl h dX8_spread_233 (fun y35 h => ?_)
              have J_248 : ∀ (z36 : Int32) (h : (p_X8_spread_j248 f13 i3 f14 y23 f25 f31 f34 f28 y21 K f16 f17 y19 (z_lp9 (p_X8_spread_l73 i3 K) n73_18)) z36 = some o) (H : Heap) (locs : List Loc) (ls : Array Slot), zW D A s H locs (wd_X8_spread cI cJ cZ a_this a_this_board a_this_area a_this_x0 a_this_y0 a_this_x1 a_this_y1 a_this_head a_this_said a_this_low a_this_high a_this_least a_this_price a_this_way a_this_lineFirst a_this_lineLast a_this_left a_this_pile a_this_rest a_this_read a_this_measure a_this_wentBack v_this_run v_this_signs v_this_lastSigns v_this_dirt v_this_time v_this_lineMany v_this_notSign v_this_notKind v_this_measureMany f25 f31 f34 f13 f14 f28 f16 f17) → lv_has ls 10 [(0, .ref a_this), (3, .int i3), (4, .int y19), (5, .int y21), (6, .int y23)] → W p l e (headSpec gs_X8_spread rm_X8_spread).room s m args below meth c H locs 0 0 Q (F0 m 248 ls [.int z36, .int i3, .ref a_this_x1]) := by
                intro z36 h H locs ls hw hl
                refine z_iast S hK hw 4 0 rfl rfl h dX8_spread_248 (fun f37 H locs hw h => ?_)
                replace hw : zW D A s H locs (wd_X8_spread cI cJ cZ a_this a_this_board a_this_area a_this_x0 a_this_y0 a_this_x1 a_this_y1 a_this_head a_this_said a_this_low a_this_high a_this_least a_this_price a_this_way a_this_lineFirst a_this_lineLast a_this_left a_this_pile a_this_rest a_this_read a_this_measure a_this_wentBack v_this_run v_this_signs v_this_lastSigns v_this_dirt v_this_time v_this_lineMany v_this_notSign v_this_notKind v_this_measureMany f25 f31 f34 f37 f14 f28 f16 f17) := hw
                refine lv_aload_n S.1 S.2.1 dX8_spread_249 rfl (lv_at hl 0 rfl) ?_
                refine z_get S (C := RX8) (T := TX8) (N := 30) (gi gu_X8) hK hw 0 rfl rfl 8 (Nat.le_of_ble_eq_true rfl) (List.mem_cons_of_mem _ gw_719) rfl dX8_spread_250 ?_
                refine lv_iload_n S.1 S.2.1 dX8_spread_253 rfl (lv_at hl 1 rfl) ?_
                refine lv_iload S.1 S.2.1 dX8_spread_254 (lv_at hl 4 rfl) ?_
                refine lv_aload_n S.1 S.2.1 dX8_spread_256 rfl (lv_at hl 0 rfl) ?_
                refine z_get S (C := RX8) (T := TX8) (N := 30) (gi gu_X8) hK hw 0 rfl rfl 8 (Nat.le_of_ble_eq_true rfl) (List.mem_cons_of_mem _ gw_719) rfl dX8_spread_257 ?_
                refine lv_iload_n S.1 S.2.1 dX8_spread_260 rfl (lv_at hl 1 rfl) ?_
                refine z_iald S hK hw 5 0 rfl rfl h dX8_spread_261 (fun y38 h => ?_)
                have J_276 : ∀ (z39 : Int32) (h : (p_X8_spread_j276 f14 i3 f25 f31 f34 f37 f28 y21 y23 K f16 f17 y19 (z_lp9 (p_X8_spread_l73 i3 K) n73_18)) z39 = some o) (H : Heap) (locs : List Loc) (ls : Array Slot), zW D A s H locs (wd_X8_spread cI cJ cZ a_this a_this_board a_this_area a_this_x0 a_this_y0 a_this_x1 a_this_y1 a_this_head a_this_said a_this_low a_this_high a_this_least a_this_price a_this_way a_this_lineFirst a_this_lineLast a_this_left a_this_pile a_this_rest a_this_read a_this_measure a_this_wentBack v_this_run v_this_signs v_this_lastSigns v_this_dirt v_this_time v_this_lineMany v_this_notSign v_this_notKind v_this_measureMany f25 f31 f34 f37 f14 f28 f16 f17) → lv_has ls 10 [(0, .ref a_this), (3, .int i3), (4, .int y19), (5, .int y21), (6, .int y23)] → W p l e (headSpec gs_X8_spread rm_X8_spread).room s m args below meth c H locs 0 0 Q (F0 m 276 ls [.int z39, .int i3, .ref a_this_y1]) := by
                  intro z39 h H locs ls hw hl
                  refine z_iast S hK hw 5 0 rfl rfl h dX8_spread_276 (fun f40 H locs hw h => ?_)
                  replace hw : zW D A s H locs (wd_X8_spread cI cJ cZ a_this a_this_board a_this_area a_this_x0 a_this_y0 a_this_x1 a_this_y1 a_this_head a_this_said a_this_low a_this_high a_this_least a_this_price a_this_way a_this_lineFirst a_this_lineLast a_this_left a_this_pile a_this_rest a_this_read a_this_measure a_this_wentBack v_this_run v_this_signs v_this_lastSigns v_this_dirt v_this_time v_this_lineMany v_this_notSign v_this_notKind v_this_measureMany f25 f31 f34 f37 f40 f28 f16 f17) := hw
                  refine lv_iconst (v := 0) S.1 S.2.1 dX8_spread_277 (by decide) ?_
                  refine lv_istore (lv' := [(7, .int 0), (0, .ref a_this), (3, .int i3), (4, .int y19), (5, .int y21), (6, .int y23)]) S.1 S.2.1 dX8_spread_278 hl (by decide) rfl (fun ls hl => ?_)
                  have L_280 : ∀ (n280_44 : Nat) (f41 : Nat → Int64) (f42 : Nat → Int32) (x43 : Int32) (x44 : Int32) (h : z_lp4 (p_X8_spread_l280 f25 f31 f34 f37 f40 f28 y21 y23 (z_lp9 (p_X8_spread_l73 i3 K) n73_18)) n280_44 f41 f42 x43 x44 = some o) (H : Heap) (locs : List Loc) (ls : Array Slot), zW D A s H locs (wd_X8_spread cI cJ cZ a_this a_this_board a_this_area a_this_x0 a_this_y0 a_this_x1 a_this_y1 a_this_head a_this_said a_this_low a_this_high a_this_least a_this_price a_this_way a_this_lineFirst a_this_lineLast a_this_left a_this_pile a_this_rest a_this_read a_this_measure a_this_wentBack v_this_run v_this_signs v_this_lastSigns v_this_dirt v_this_time v_this_lineMany v_this_notSign v_this_notKind v_this_measureMany f25 f31 f34 f37 f40 f28 f41 f42) → lv_has ls 10 [(0, .ref a_this), (3, .int i3), (4, .int x43), (5, .int y21), (6, .int y23), (7, .int x44)] → W p l e (headSpec gs_X8_spread rm_X8_spread).room s m args below meth c H locs 0 0 Q (F0 m 280 ls []) := by
                    intro n280_44
                    induction n280_44 with
                    | zero => intro f41 f42 x43 x44 h; exact z_no h
                    | succ n280_44 ih_280 =>
                      intro f41 f42 x43 x44 h H locs ls hw hl
                      replace h : (p_X8_spread_l280 f25 f31 f34 f37 f40 f28 y21 y23 (z_lp9 (p_X8_spread_l73 i3 K) n73_18)) (z_lp4 (p_X8_spread_l280 f25 f31 f34 f37 f40 f28 y21 y23 (z_lp9 (p_X8_spread_l73 i3 K) n73_18)) n280_44) f41 f42 x43 x44 = some o := h
                      refine lv_iload S.1 S.2.1 dX8_spread_280 (lv_at hl 5 rfl) ?_
                      refine lv_bipush (v := 9) S.1 S.2.1 dX8_spread_282 (by decide) ?_
                      refine z_icmp_ge S (tgt := 390) h dX8_spread_284 (by decide) (fun h => ?_) (fun h => ?_)
                      · refine lv_goto (tgt := 73) S.1 S.2.1 dX8_spread_390 (by decide) ?_
                        exact ih_73 f25 f31 f34 f37 f40 f28 f41 f42 x43 h _ _ ls hw (lv_sub hl [0, 1, 2] rfl)
                      · refine lv_iload S.1 S.2.1 dX8_spread_287 (lv_at hl 3 rfl) ?_
                        refine lv_iload S.1 S.2.1 dX8_spread_289 (lv_at hl 5 rfl) ?_
                        refine lv_iconst (v := 3) S.1 S.2.1 dX8_spread_291 (by decide) ?_
                        refine z_irem S h dX8_spread_292 (fun y45 h => ?_)
                        refine lv_iadd S.1 S.2.1 dX8_spread_293 ?_
                        refine lv_iconst (v := 1) S.1 S.2.1 dX8_spread_294 (by decide) ?_
                        refine lv_isub S.1 S.2.1 dX8_spread_295 ?_
                        refine z_leti h (fun y46 h => ?_)
                        refine lv_istore (lv' := [(8, .int y46), (0, .ref a_this), (3, .int i3), (4, .int x43), (5, .int y21), (6, .int y23), (7, .int x44)]) S.1 S.2.1 dX8_spread_296 hl (by decide) rfl (fun ls hl => ?_)
                        refine lv_iload S.1 S.2.1 dX8_spread_298 (lv_at hl 5 rfl) ?_
                        refine lv_iload S.1 S.2.1 dX8_spread_300 (lv_at hl 6 rfl) ?_
                        refine lv_iconst (v := 3) S.1 S.2.1 dX8_spread_302 (by decide) ?_
                        refine z_idiv S h dX8_spread_303 (fun y47 h => ?_)
                        refine lv_iadd S.1 S.2.1 dX8_spread_304 ?_
                        refine lv_iconst (v := 1) S.1 S.2.1 dX8_spread_305 (by decide) ?_
                        refine lv_isub S.1 S.2.1 dX8_spread_306 ?_
                        refine z_leti h (fun y48 h => ?_)
                        refine lv_istore (lv' := [(9, .int y48), (8, .int y46), (0, .ref a_this), (3, .int i3), (4, .int x43), (5, .int y21), (6, .int y23), (7, .int x44)]) S.1 S.2.1 dX8_spread_307 hl (by decide) rfl (fun ls hl => ?_)
                        refine lv_iload S.1 S.2.1 dX8_spread_309 (lv_at hl 1 rfl) ?_
                        refine lv_iconst (v := 0) S.1 S.2.1 dX8_spread_311 (by decide) ?_
                        refine lv_bipush (v := 59) S.1 S.2.1 dX8_spread_312 (by decide) ?_
                        obtain ⟨y49, hc, h⟩ := z_b1_e h
                        refine z_callSi (As := [.int y46, .int 0, .int 59]) (rest := []) S (c_X8_in l D cI cJ cZ y46 0 59 _ hc) (va_cwS 3 S.2.2.2.2 (gw_S gw_807 gw_808 gw_58 gw_809) rfl rfl rfl hd_X8_in ⟨Nat.le_of_ble_eq_true rfl, Nat.le_of_ble_eq_true rfl⟩) hK hA hw [] (by decide) rfl rfl [none, none, none, none, none, none, none, none, none] rfl (by decide) hl.1 rfl rfl (lv_room (Nat.le_of_ble_eq_true rfl)) ⟨Nat.zero_le _, Nat.zero_le _⟩ dX8_spread_314 (fun H locs hw => ?_)
                        replace hw : zW D A s H locs (wd_X8_spread cI cJ cZ a_this a_this_board a_this_area a_this_x0 a_this_y0 a_this_x1 a_this_y1 a_this_head a_this_said a_this_low a_this_high a_this_least a_this_price a_this_way a_this_lineFirst a_this_lineLast a_this_left a_this_pile a_this_rest a_this_read a_this_measure a_this_wentBack v_this_run v_this_signs v_this_lastSigns v_this_dirt v_this_time v_this_lineMany v_this_notSign v_this_notKind v_this_measureMany f25 f31 f34 f37 f40 f28 f41 f42) := hw
                        refine z_if_eq S (tgt := 384) h dX8_spread_317 (by decide) (fun h => ?_) (fun h => ?_)
                        · refine z_iinc S (i := 7) (k := 7) (v := x44 + 1) hl rfl (by decide) rfl (fun v => (7, .int v) :: [(9, .int y48), (8, .int y46), (0, .ref a_this), (3, .int i3), (4, .int x43), (5, .int y21), (6, .int y23)]) (fun _ => rfl) h dX8_spread_384 (fun y50 ls hl h => ?_)
                          replace hl : lv_has ls 10 [(7, .int y50), (9, .int y48), (8, .int y46), (0, .ref a_this), (3, .int i3), (4, .int x43), (5, .int y21), (6, .int y23)] := hl
                          refine lv_goto (tgt := 280) S.1 S.2.1 dX8_spread_387 (by decide) ?_
                          exact ih_280 f41 f42 x43 y50 h _ _ ls hw (lv_sub hl [3, 4, 5, 6, 7, 0] rfl)
                        · refine lv_iload S.1 S.2.1 dX8_spread_320 (lv_at hl 0 rfl) ?_
                          refine lv_iconst (v := 0) S.1 S.2.1 dX8_spread_322 (by decide) ?_
                          refine lv_bipush (v := 31) S.1 S.2.1 dX8_spread_323 (by decide) ?_
                          obtain ⟨y51, hc, h⟩ := z_b1_e h
                          refine z_callSi (As := [.int y48, .int 0, .int 31]) (rest := []) S (c_X8_in l D cI cJ cZ y48 0 31 _ hc) (va_cwS 3 S.2.2.2.2 (gw_S gw_807 gw_808 gw_58 gw_809) rfl rfl rfl hd_X8_in ⟨Nat.le_of_ble_eq_true rfl, Nat.le_of_ble_eq_true rfl⟩) hK hA hw [] (by decide) rfl rfl [none, none, none, none, none, none, none, none, none] rfl (by decide) hl.1 rfl rfl (lv_room (Nat.le_of_ble_eq_true rfl)) ⟨Nat.zero_le _, Nat.zero_le _⟩ dX8_spread_325 (fun H locs hw => ?_)
                          replace hw : zW D A s H locs (wd_X8_spread cI cJ cZ a_this a_this_board a_this_area a_this_x0 a_this_y0 a_this_x1 a_this_y1 a_this_head a_this_said a_this_low a_this_high a_this_least a_this_price a_this_way a_this_lineFirst a_this_lineLast a_this_left a_this_pile a_this_rest a_this_read a_this_measure a_this_wentBack v_this_run v_this_signs v_this_lastSigns v_this_dirt v_this_time v_this_lineMany v_this_notSign v_this_notKind v_this_measureMany f25 f31 f34 f37 f40 f28 f41 f42) := hw
                          refine z_if_eq S (tgt := 384) h dX8_spread_328 (by decide) (fun h => ?_) (fun h => ?_)
                          · refine z_iinc S (i := 7) (k := 7) (v := x44 + 1) hl rfl (by decide) rfl (fun v => (7, .int v) :: [(9, .int y48), (8, .int y46), (0, .ref a_this), (3, .int i3), (4, .int x43), (5, .int y21), (6, .int y23)]) (fun _ => rfl) h dX8_spread_384 (fun y52 ls hl h => ?_)
                            replace hl : lv_has ls 10 [(7, .int y52), (9, .int y48), (8, .int y46), (0, .ref a_this), (3, .int i3), (4, .int x43), (5, .int y21), (6, .int y23)] := hl
                            refine lv_goto (tgt := 280) S.1 S.2.1 dX8_spread_387 (by decide) ?_
                            exact ih_280 f41 f42 x43 y52 h _ _ ls hw (lv_sub hl [3, 4, 5, 6, 7, 0] rfl)
                          · refine lv_aload_n S.1 S.2.1 dX8_spread_331 rfl (lv_at hl 2 rfl) ?_
                            refine z_get S (C := RX8) (T := TX8) (N := 30) (gi gu_X8) hK hw 0 rfl rfl 21 (Nat.le_of_ble_eq_true rfl) (List.mem_cons_of_mem _ gw_732) rfl dX8_spread_332 ?_
                            refine lv_iload S.1 S.2.1 dX8_spread_335 (lv_at hl 0 rfl) ?_
                            refine z_lald S hK hw 7 1 rfl rfl h dX8_spread_337 (fun y53 h => ?_)
                            refine lv_iload S.1 S.2.1 dX8_spread_338 (lv_at hl 1 rfl) ?_
                            refine lv_lshr (v := ((y53 >>> (y46.toInt64 &&& 63)))) S.1 S.2.1 dX8_spread_340 rfl ?_
                            refine lv_lconst (v := 1) S.1 S.2.1 dX8_spread_341 (by decide) ?_
                            refine lv_land S.1 S.2.1 dX8_spread_342 ?_
                            refine lv_lconst (v := 1) S.1 S.2.1 dX8_spread_343 (by decide) ?_
                            refine W.lcmp S.1 S.2.1 dX8_spread_344 ?_
                            refine z_if_ne S (tgt := 384) h dX8_spread_345 (by decide) (fun h => ?_) (fun h => ?_)
                            · refine z_iinc S (i := 7) (k := 7) (v := x44 + 1) hl rfl (by decide) rfl (fun v => (7, .int v) :: [(9, .int y48), (8, .int y46), (0, .ref a_this), (3, .int i3), (4, .int x43), (5, .int y21), (6, .int y23)]) (fun _ => rfl) h dX8_spread_384 (fun y54 ls hl h => ?_)
                              replace hl : lv_has ls 10 [(7, .int y54), (9, .int y48), (8, .int y46), (0, .ref a_this), (3, .int i3), (4, .int x43), (5, .int y21), (6, .int y23)] := hl
                              refine lv_goto (tgt := 280) S.1 S.2.1 dX8_spread_387 (by decide) ?_
                              exact ih_280 f41 f42 x43 y54 h _ _ ls hw (lv_sub hl [3, 4, 5, 6, 7, 0] rfl)
                            · refine lv_aload_n S.1 S.2.1 dX8_spread_348 rfl (lv_at hl 2 rfl) ?_
                              refine z_get S (C := RX8) (T := TX8) (N := 30) (gi gu_X8) hK hw 0 rfl rfl 21 (Nat.le_of_ble_eq_true rfl) (List.mem_cons_of_mem _ gw_732) rfl dX8_spread_349 ?_
                              refine lv_iload S.1 S.2.1 dX8_spread_352 (lv_at hl 0 rfl) ?_
                              refine lv_dup2_11 S.1 S.2.1 dX8_spread_354 rfl rfl ?_
                              refine z_lald S hK hw 7 1 rfl rfl h dX8_spread_355 (fun y55 h => ?_)
                              refine lv_lconst (v := 1) S.1 S.2.1 dX8_spread_356 (by decide) ?_
                              refine lv_iload S.1 S.2.1 dX8_spread_357 (lv_at hl 1 rfl) ?_
                              refine lv_lshl (v := (((1 : Int64) <<< (y46.toInt64 &&& 63)))) S.1 S.2.1 dX8_spread_359 rfl ?_
                              refine lv_ldc2 (v := (-1)) S.1 S.2.1 S.2.2.2.1 (S.2.2.2.2 _ (List.mem_cons_of_mem _ gw_857)) dX8_spread_360 ?_
                              refine lv_lxor S.1 S.2.1 dX8_spread_363 ?_
                              refine lv_land S.1 S.2.1 dX8_spread_364 ?_
                              refine z_last S hK hw 7 1 rfl rfl h dX8_spread_365 (fun f56 H locs hw h => ?_)
                              replace hw : zW D A s H locs (wd_X8_spread cI cJ cZ a_this a_this_board a_this_area a_this_x0 a_this_y0 a_this_x1 a_this_y1 a_this_head a_this_said a_this_low a_this_high a_this_least a_this_price a_this_way a_this_lineFirst a_this_lineLast a_this_left a_this_pile a_this_rest a_this_read a_this_measure a_this_wentBack v_this_run v_this_signs v_this_lastSigns v_this_dirt v_this_time v_this_lineMany v_this_notSign v_this_notKind v_this_measureMany f25 f31 f34 f37 f40 f28 f56 f42) := hw
                              refine lv_aload_n S.1 S.2.1 dX8_spread_366 rfl (lv_at hl 2 rfl) ?_
                              refine z_get S (C := RX8) (T := TX8) (N := 30) (gi gu_X8) hK hw 0 rfl rfl 22 (Nat.le_of_ble_eq_true rfl) (List.mem_cons_of_mem _ gw_733) rfl dX8_spread_367 ?_
                              refine lv_iload S.1 S.2.1 dX8_spread_370 (lv_at hl 4 rfl) ?_
                              refine lv_bipush (v := 60) S.1 S.2.1 dX8_spread_372 (by decide) ?_
                              refine lv_iload S.1 S.2.1 dX8_spread_374 (lv_at hl 0 rfl) ?_
                              refine lv_imul S.1 S.2.1 dX8_spread_376 ?_
                              refine lv_iload S.1 S.2.1 dX8_spread_377 (lv_at hl 1 rfl) ?_
                              refine lv_iadd S.1 S.2.1 dX8_spread_379 ?_
                              refine z_iast S hK hw 8 0 rfl rfl h dX8_spread_380 (fun f57 H locs hw h => ?_)
                              replace hw : zW D A s H locs (wd_X8_spread cI cJ cZ a_this a_this_board a_this_area a_this_x0 a_this_y0 a_this_x1 a_this_y1 a_this_head a_this_said a_this_low a_this_high a_this_least a_this_price a_this_way a_this_lineFirst a_this_lineLast a_this_left a_this_pile a_this_rest a_this_read a_this_measure a_this_wentBack v_this_run v_this_signs v_this_lastSigns v_this_dirt v_this_time v_this_lineMany v_this_notSign v_this_notKind v_this_measureMany f25 f31 f34 f37 f40 f28 f56 f57) := hw
                              refine z_iinc S (i := 4) (k := 4) (v := x43 + 1) hl rfl (by decide) rfl (fun v => (4, .int v) :: [(9, .int y48), (8, .int y46), (0, .ref a_this), (3, .int i3), (5, .int y21), (6, .int y23), (7, .int x44)]) (fun _ => rfl) h dX8_spread_381 (fun y58 ls hl h => ?_)
                              replace hl : lv_has ls 10 [(4, .int y58), (9, .int y48), (8, .int y46), (0, .ref a_this), (3, .int i3), (5, .int y21), (6, .int y23), (7, .int x44)] := hl
                              refine z_iinc S (i := 7) (k := 7) (v := x44 + 1) hl rfl (by decide) rfl (fun v => (7, .int v) :: [(4, .int y58), (9, .int y48), (8, .int y46), (0, .ref a_this), (3, .int i3), (5, .int y21), (6, .int y23)]) (fun _ => rfl) h dX8_spread_384 (fun y59 ls hl h => ?_)
                              replace hl : lv_has ls 10 [(7, .int y59), (4, .int y58), (9, .int y48), (8, .int y46), (0, .ref a_this), (3, .int i3), (5, .int y21), (6, .int y23)] := hl
                              refine lv_goto (tgt := 280) S.1 S.2.1 dX8_spread_387 (by decide) ?_
                              exact ih_280 f56 f57 y58 y59 h _ _ ls hw (lv_sub hl [4, 5, 1, 6, 7, 0] rfl)
                  exact L_280 K f16 f17 y19 0 h _ _ ls hw (lv_sub hl [1, 2, 3, 4, 5, 0] rfl)
                refine z_icmp_le S (tgt := 270) h dX8_spread_262 (by decide) (fun h => ?_) (fun h => ?_)
                · refine lv_aload_n S.1 S.2.1 dX8_spread_270 rfl (lv_at hl 0 rfl) ?_
                  refine z_get S (C := RX8) (T := TX8) (N := 30) (gi gu_X8) hK hw 0 rfl rfl 8 (Nat.le_of_ble_eq_true rfl) (List.mem_cons_of_mem _ gw_719) rfl dX8_spread_271 ?_
                  refine lv_iload_n S.1 S.2.1 dX8_spread_274 rfl (lv_at hl 1 rfl) ?_
                  refine z_iald S hK hw 5 0 rfl rfl h dX8_spread_275 (fun y60 h => ?_)
                  exact J_276 y60 h _ _ ls hw (lv_sub hl [0, 1, 2, 3, 4] rfl)
                · refine lv_iload S.1 S.2.1 dX8_spread_265 (lv_at hl 4 rfl) ?_
                  refine lv_goto (tgt := 276) S.1 S.2.1 dX8_spread_267 (by decide) ?_
                  exact J_276 y23 h _ _ ls hw (lv_sub hl [0, 1, 2, 3, 4] rfl)
              refine z_icmp_le S (tgt := 242) h dX8_spread_234 (by decide) (fun h => ?_) (fun h => ?_)
              · refine lv_aload_n S.1 S.2.1 dX8_spread_242 rfl (lv_at hl 0 rfl) ?_
                refine z_get S (C := RX8) (T := TX8) (N := 30) (gi gu_X8) hK hw 0 rfl rfl 7 (Nat.le_of_ble_eq_true rfl) (List.mem_cons_of_mem _ gw_718) rfl dX8_spread_243 ?_
                refine lv_iload_n S.1 S.2.1 dX8_spread_246 rfl (lv_at hl 1 rfl) ?_
                refine z_iald S hK hw 4 0 rfl rfl h dX8_spread_247 (fun y61 h => ?_)
                exact J_248 y61 h _ _ ls hw (lv_sub hl [0, 1, 2, 3, 4] rfl)
              · refine lv_iload S.1 S.2.1 dX8_spread_237 (lv_at hl 3 rfl) ?_
                refine lv_goto (tgt := 248) S.1 S.2.1 dX8_spread_239 (by decide) ?_
                exact J_248 y21 h _ _ ls hw (lv_sub hl [0, 1, 2, 3, 4] rfl)
            refine z_icmp_ge S (tgt := 214) h dX8_spread_206 (by decide) (fun h => ?_) (fun h => ?_)
            · refine lv_aload_n S.1 S.2.1 dX8_spread_214 rfl (lv_at hl 0 rfl) ?_
              refine z_get S (C := RX8) (T := TX8) (N := 30) (gi gu_X8) hK hw 0 rfl rfl 6 (Nat.le_of_ble_eq_true rfl) (List.mem_cons_of_mem _ gw_717) rfl dX8_spread_215 ?_
              refine lv_iload_n S.1 S.2.1 dX8_spread_218 rfl (lv_at hl 1 rfl) ?_
              refine z_iald S hK hw 3 0 rfl rfl h dX8_spread_219 (fun y62 h => ?_)
              exact J_220 y62 h _ _ ls hw (lv_sub hl [0, 1, 2, 3, 4] rfl)
            · refine lv_iload S.1 S.2.1 dX8_spread_209 (lv_at hl 4 rfl) ?_
              refine lv_goto (tgt := 220) S.1 S.2.1 dX8_spread_211 (by decide) ?_
              exact J_220 y23 h _ _ ls hw (lv_sub hl [0, 1, 2, 3, 4] rfl)
          refine z_icmp_ge S (tgt := 186) h dX8_spread_178 (by decide) (fun h => ?_) (fun h => ?_)
          · refine lv_aload_n S.1 S.2.1 dX8_spread_186 rfl (lv_at hl 0 rfl) ?_
            refine z_get S (C := RX8) (T := TX8) (N := 30) (gi gu_X8) hK hw 0 rfl rfl 5 (Nat.le_of_ble_eq_true rfl) (List.mem_cons_of_mem _ gw_716) rfl dX8_spread_187 ?_
            refine lv_iload_n S.1 S.2.1 dX8_spread_190 rfl (lv_at hl 1 rfl) ?_
            refine z_iald S hK hw 2 0 rfl rfl h dX8_spread_191 (fun y63 h => ?_)
            exact J_192 y63 h _ _ ls hw (lv_sub hl [0, 1, 2, 3, 4] rfl)
          · refine lv_iload S.1 S.2.1 dX8_spread_181 (lv_at hl 3 rfl) ?_
            refine lv_goto (tgt := 192) S.1 S.2.1 dX8_spread_183 (by decide) ?_
            exact J_192 y21 h _ _ ls hw (lv_sub hl [0, 1, 2, 3, 4] rfl)
        have J_153 : ∀ (h : (p_X8_spread_j153 y21 (p_X8_spread_j164 f15 i3 f11 y21 f12 y23 f13 f14 f25 K f16 f17 y19 (z_lp9 (p_X8_spread_l73 i3 K) n73_18))) = some o) (H : Heap) (locs : List Loc) (ls : Array Slot), zW D A s H locs (wd_X8_spread cI cJ cZ a_this a_this_board a_this_area a_this_x0 a_this_y0 a_this_x1 a_this_y1 a_this_head a_this_said a_this_low a_this_high a_this_least a_this_price a_this_way a_this_lineFirst a_this_lineLast a_this_left a_this_pile a_this_rest a_this_read a_this_measure a_this_wentBack v_this_run v_this_signs v_this_lastSigns v_this_dirt v_this_time v_this_lineMany v_this_notSign v_this_notKind v_this_measureMany f25 f11 f12 f13 f14 f15 f16 f17) → lv_has ls 10 [(0, .ref a_this), (3, .int i3), (4, .int y19), (5, .int y21), (6, .int y23)] → W p l e (headSpec gs_X8_spread rm_X8_spread).room s m args below meth c H locs 0 0 Q (F0 m 153 ls [.int i3, .ref a_this_head]) := by
          intro h H locs ls hw hl
          refine lv_iload S.1 S.2.1 dX8_spread_153 (lv_at hl 3 rfl) ?_
          refine lv_goto (tgt := 164) S.1 S.2.1 dX8_spread_155 (by decide) ?_
          exact J_164 y21 h _ _ ls hw (lv_sub hl [0, 1, 2, 3, 4] rfl)
        refine z_icmp_lt S (tgt := 153) h dX8_spread_128 (by decide) (fun h => ?_) (fun h => ?_)
        · exact J_153 h _ _ ls hw (lv_sub hl [3, 4, 2, 1, 0] rfl)
        · refine lv_iload S.1 S.2.1 dX8_spread_131 (lv_at hl 0 rfl) ?_
          refine lv_aload_n S.1 S.2.1 dX8_spread_133 rfl (lv_at hl 3 rfl) ?_
          refine z_get S (C := RX8) (T := TX8) (N := 30) (gi gu_X8) hK hw 0 rfl rfl 6 (Nat.le_of_ble_eq_true rfl) (List.mem_cons_of_mem _ gw_717) rfl dX8_spread_134 ?_
          refine lv_iload_n S.1 S.2.1 dX8_spread_137 rfl (lv_at hl 4 rfl) ?_
          refine z_iald S hK hw 3 0 rfl rfl h dX8_spread_138 (fun y64 h => ?_)
          have J_158 : ∀ (h : (p_X8_spread_j158 f15 i3 (p_X8_spread_j164 f15 i3 f11 y21 f12 y23 f13 f14 f25 K f16 f17 y19 (z_lp9 (p_X8_spread_l73 i3 K) n73_18))) = some o) (H : Heap) (locs : List Loc) (ls : Array Slot), zW D A s H locs (wd_X8_spread cI cJ cZ a_this a_this_board a_this_area a_this_x0 a_this_y0 a_this_x1 a_this_y1 a_this_head a_this_said a_this_low a_this_high a_this_least a_this_price a_this_way a_this_lineFirst a_this_lineLast a_this_left a_this_pile a_this_rest a_this_read a_this_measure a_this_wentBack v_this_run v_this_signs v_this_lastSigns v_this_dirt v_this_time v_this_lineMany v_this_notSign v_this_notKind v_this_measureMany f25 f11 f12 f13 f14 f15 f16 f17) → lv_has ls 10 [(0, .ref a_this), (3, .int i3), (4, .int y19), (5, .int y21), (6, .int y23)] → W p l e (headSpec gs_X8_spread rm_X8_spread).room s m args below meth c H locs 0 0 Q (F0 m 158 ls [.int i3, .ref a_this_head]) := by
            intro h H locs ls hw hl
            refine lv_aload_n S.1 S.2.1 dX8_spread_158 rfl (lv_at hl 0 rfl) ?_
            refine z_get S (C := RX8) (T := TX8) (N := 30) (gi gu_X8) hK hw 0 rfl rfl 9 (Nat.le_of_ble_eq_true rfl) (List.mem_cons_of_mem _ gw_720) rfl dX8_spread_159 ?_
            refine lv_iload_n S.1 S.2.1 dX8_spread_162 rfl (lv_at hl 1 rfl) ?_
            refine z_iald S hK hw 6 0 rfl rfl h dX8_spread_163 (fun y65 h => ?_)
            exact J_164 y65 h _ _ ls hw (lv_sub hl [0, 1, 2, 3, 4] rfl)
          refine z_icmp_ne S (tgt := 158) h dX8_spread_139 (by decide) (fun h => ?_) (fun h => ?_)
          · exact J_158 h _ _ ls hw (lv_sub hl [3, 4, 2, 1, 0] rfl)
          · refine lv_iload S.1 S.2.1 dX8_spread_142 (lv_at hl 1 rfl) ?_
            refine lv_aload_n S.1 S.2.1 dX8_spread_144 rfl (lv_at hl 3 rfl) ?_
            refine z_get S (C := RX8) (T := TX8) (N := 30) (gi gu_X8) hK hw 0 rfl rfl 9 (Nat.le_of_ble_eq_true rfl) (List.mem_cons_of_mem _ gw_720) rfl dX8_spread_145 ?_
            refine lv_iload_n S.1 S.2.1 dX8_spread_148 rfl (lv_at hl 4 rfl) ?_
            refine z_iald S hK hw 6 0 rfl rfl h dX8_spread_149 (fun y66 h => ?_)
            refine z_icmp_ge S (tgt := 158) h dX8_spread_150 (by decide) (fun h => ?_) (fun h => ?_)
            · exact J_158 h _ _ ls hw (lv_sub hl [3, 4, 2, 1, 0] rfl)
            · exact J_153 h _ _ ls hw (lv_sub hl [3, 4, 2, 1, 0] rfl)
  exact L_73 K f1 f2 f3 f4 f5 f6 f9 f7 1 h _ _ ls hw (lv_sub hl [1, 4, 0] rfl)
theorem gw_866 : Cond.methodLink RX8 128 yX8_isAhead ∈ GW := GW_of 866 (by decide +kernel) (by decide +kernel)
theorem gw_869 : Cond.code yX8_isAhead cX8_isAhead 3 (some .boolean) ∈ GW := GW_of 869 (by decide +kernel) (by decide +kernel)
theorem gw_868 : Cond.instanceMethod yX8_isAhead ∈ GW := GW_of 868 (by decide +kernel) (by decide +kernel)
theorem gw_37 : Cond.selects RX8 yX8_isAhead yX8_isAhead ∈ GW := GW_of 37 (by decide +kernel) (by decide +kernel)
theorem gw_870 : Cond.methodLink RX8 131 yX8_swap ∈ GW := GW_of 870 (by decide +kernel) (by decide +kernel)
theorem gw_873 : Cond.code yX8_swap cX8_swap 5 none ∈ GW := GW_of 873 (by decide +kernel) (by decide +kernel)
theorem gw_872 : Cond.instanceMethod yX8_swap ∈ GW := GW_of 872 (by decide +kernel) (by decide +kernel)
theorem gw_38 : Cond.selects RX8 yX8_swap yX8_swap ∈ GW := GW_of 38 (by decide +kernel) (by decide +kernel)
def gs_X8_order : List Cond := Cond.code yX8_order cX8_order 4 none :: GW
def wd_X8_order (cI cJ cZ : ClassId) (a_this a_this_board a_this_area a_this_x0 a_this_y0 a_this_x1 a_this_y1 a_this_head a_this_said a_this_low a_this_high a_this_least a_this_price a_this_way a_this_lineFirst a_this_lineLast a_this_left a_this_pile a_this_rest a_this_read a_this_measure a_this_wentBack : Nat) (v_this_run : Int32) (v_this_signs : Int32) (v_this_lastSigns : Int32) (v_this_dirt : Int32) (v_this_time : Int32) (v_this_lineMany : Int32) (v_this_notSign : Int32) (v_this_notKind : Int32) (v_this_measureMany : Int32) (f_this_area : Nat → Int32) (f_this_x0 : Nat → Int32) (f_this_y0 : Nat → Int32) (f_this_x1 : Nat → Int32) (f_this_y1 : Nat → Int32) (f_this_head : Nat → Int32) : va_W := [(a_this, .inr (8, [.ref a_this_board, .int v_this_run, .int v_this_signs, .int v_this_lastSigns, .ref a_this_area, .ref a_this_x0, .ref a_this_y0, .ref a_this_x1, .ref a_this_y1, .ref a_this_head, .ref a_this_said, .ref a_this_low, .ref a_this_high, .ref a_this_least, .ref a_this_price, .int v_this_dirt, .int v_this_time, .ref a_this_way, .int v_this_lineMany, .ref a_this_lineFirst, .ref a_this_lineLast, .ref a_this_left, .ref a_this_pile, .ref a_this_rest, .int v_this_notSign, .int v_this_notKind, .ref a_this_read, .ref a_this_measure, .int v_this_measureMany, .ref a_this_wentBack])), (a_this_area, .inl (cI, 40, .inl f_this_area)), (a_this_x0, .inl (cI, 40, .inl f_this_x0)), (a_this_y0, .inl (cI, 40, .inl f_this_y0)), (a_this_x1, .inl (cI, 40, .inl f_this_x1)), (a_this_y1, .inl (cI, 40, .inl f_this_y1)), (a_this_head, .inl (cI, 40, .inl f_this_head))]
abbrev rm_X8_order : Room := { frames := 1, cells := 0, slots := 0, locals := 24 }
theorem hd_X8_order : yX8_order.cls = RX8 ∧ yX8_order.cls ≠ "java/lang/invoke/MethodHandle" ∧ yX8_order.cls ≠ "java/lang/invoke/VarHandle" ∧ (parseMethodDescriptor yX8_order.desc).map (fun d => d.parameters.length) = some 1 := by decide +kernel
set_option maxHeartbeats 4000000 in
set_option maxRecDepth 100000 in
theorem c_X8_order (l : Launch) (D : va_G) (cI cJ cZ : ClassId) (a_this a_this_board a_this_area a_this_x0 a_this_y0 a_this_x1 a_this_y1 a_this_head a_this_said a_this_low a_this_high a_this_least a_this_price a_this_way a_this_lineFirst a_this_lineLast a_this_left a_this_pile a_this_rest a_this_read a_this_measure a_this_wentBack : Nat) (v_this_run : Int32) (v_this_signs : Int32) (v_this_lastSigns : Int32) (v_this_dirt : Int32) (v_this_time : Int32) (v_this_lineMany : Int32) (v_this_notSign : Int32) (v_this_notKind : Int32) (v_this_measureMany : Int32) (f_this_area : Nat → Int32) (f_this_x0 : Nat → Int32) (f_this_y0 : Nat → Int32) (f_this_x1 : Nat → Int32) (f_this_y1 : Nat → Int32) (f_this_head : Nat → Int32) (K : Nat) (i1 : Int32) (o : (Nat → Int32) × (Nat → Int32) × (Nat → Int32) × (Nat → Int32) × (Nat → Int32) × (Nat → Int32)) (h : p_X8_order K f_this_area f_this_x0 f_this_y0 f_this_x1 f_this_y1 f_this_head i1 = some o) : zMv l D (zT cI cJ cZ) yX8_order gs_X8_order rm_X8_order [.ref a_this, .int i1] (wd_X8_order cI cJ cZ a_this a_this_board a_this_area a_this_x0 a_this_y0 a_this_x1 a_this_y1 a_this_head a_this_said a_this_low a_this_high a_this_least a_this_price a_this_way a_this_lineFirst a_this_lineLast a_this_left a_this_pile a_this_rest a_this_read a_this_measure a_this_wentBack v_this_run v_this_signs v_this_lastSigns v_this_dirt v_this_time v_this_lineMany v_this_notSign v_this_notKind v_this_measureMany f_this_area f_this_x0 f_this_y0 f_this_x1 f_this_y1 f_this_head) (wd_X8_order cI cJ cZ a_this a_this_board a_this_area a_this_x0 a_this_y0 a_this_x1 a_this_y1 a_this_head a_this_said a_this_low a_this_high a_this_least a_this_price a_this_way a_this_lineFirst a_this_lineLast a_this_left a_this_pile a_this_rest a_this_read a_this_measure a_this_wentBack v_this_run v_this_signs v_this_lastSigns v_this_dirt v_this_time v_this_lineMany v_this_notSign v_this_notKind v_this_measureMany (o.1) (o.2.1) (o.2.2.1) (o.2.2.2.1) (o.2.2.2.2.1) (o.2.2.2.2.2)) := by
  refine zMet_v (own := RX8) (fun u : (Nat → Int32) × (Nat → Int32) × (Nat → Int32) × (Nat → Int32) × (Nat → Int32) × (Nat → Int32) => (wd_X8_order cI cJ cZ a_this a_this_board a_this_area a_this_x0 a_this_y0 a_this_x1 a_this_y1 a_this_head a_this_said a_this_low a_this_high a_this_least a_this_price a_this_way a_this_lineFirst a_this_lineLast a_this_left a_this_pile a_this_rest a_this_read a_this_measure a_this_wentBack v_this_run v_this_signs v_this_lastSigns v_this_dirt v_this_time v_this_lineMany v_this_notSign v_this_notKind v_this_measureMany (u.1) (u.2.1) (u.2.2.1) (u.2.2.2.1) (u.2.2.2.2.1) (u.2.2.2.2.2))) (by decide) rfl rfl (Nat.le_of_ble_eq_true rfl) ?_
  intro p e s m args below meth c A Q S hK hA hw ret ls hl
  replace hl : lv_has ls 4 [(0, .ref a_this), (1, .int i1)] := hl
  refine lv_iconst (v := 1) S.1 S.2.1 dX8_order_0 (by decide) ?_
  refine lv_istore_n (lv' := [(2, .int 1), (0, .ref a_this), (1, .int i1)]) S.1 S.2.1 dX8_order_1 rfl hl (by decide) rfl (fun ls hl => ?_)
  have L_2 : ∀ (n2_7 : Nat) (f1 : Nat → Int32) (f2 : Nat → Int32) (f3 : Nat → Int32) (f4 : Nat → Int32) (f5 : Nat → Int32) (f6 : Nat → Int32) (x7 : Int32) (h : z_lp7 (p_X8_order_l2 i1 K) n2_7 f1 f2 f3 f4 f5 f6 x7 = some o) (H : Heap) (locs : List Loc) (ls : Array Slot), zW D A s H locs (wd_X8_order cI cJ cZ a_this a_this_board a_this_area a_this_x0 a_this_y0 a_this_x1 a_this_y1 a_this_head a_this_said a_this_low a_this_high a_this_least a_this_price a_this_way a_this_lineFirst a_this_lineLast a_this_left a_this_pile a_this_rest a_this_read a_this_measure a_this_wentBack v_this_run v_this_signs v_this_lastSigns v_this_dirt v_this_time v_this_lineMany v_this_notSign v_this_notKind v_this_measureMany f1 f2 f3 f4 f5 f6) → lv_has ls 4 [(0, .ref a_this), (1, .int i1), (2, .int x7)] → W p l e (headSpec gs_X8_order rm_X8_order).room s m args below meth c H locs 0 0 Q (F0 m 2 ls []) := by
    intro n2_7
    induction n2_7 with
    | zero => intro f1 f2 f3 f4 f5 f6 x7 h; exact z_no h
    | succ n2_7 ih_2 =>
      intro f1 f2 f3 f4 f5 f6 x7 h H locs ls hw hl
      replace h : (p_X8_order_l2 i1 K) (z_lp7 (p_X8_order_l2 i1 K) n2_7) f1 f2 f3 f4 f5 f6 x7 = some o := h
      refine lv_iload_n S.1 S.2.1 dX8_order_2 rfl (lv_at hl 2 rfl) ?_
      refine lv_iload_n S.1 S.2.1 dX8_order_3 rfl (lv_at hl 1 rfl) ?_
      refine z_icmp_ge S (tgt := 108) h dX8_order_4 (by decide) (fun h => ?_) (fun h => ?_)
      · exact ret (f1, f2, f3, f4, f5, f6) h 108 ls _ _ dX8_order_108 hw
      · refine lv_iload_n S.1 S.2.1 dX8_order_7 rfl (lv_at hl 2 rfl) ?_
        refine lv_istore_n (lv' := [(3, .int x7), (0, .ref a_this), (1, .int i1), (2, .int x7)]) S.1 S.2.1 dX8_order_8 rfl hl (by decide) rfl (fun ls hl => ?_)
        have L_9 : ∀ (n9_14 : Nat) (f8 : Nat → Int32) (f9 : Nat → Int32) (f10 : Nat → Int32) (f11 : Nat → Int32) (f12 : Nat → Int32) (f13 : Nat → Int32) (x14 : Int32) (h : z_lp7 (p_X8_order_l9 x7 (z_lp7 (p_X8_order_l2 i1 K) n2_7)) n9_14 f8 f9 f10 f11 f12 f13 x14 = some o) (H : Heap) (locs : List Loc) (ls : Array Slot), zW D A s H locs (wd_X8_order cI cJ cZ a_this a_this_board a_this_area a_this_x0 a_this_y0 a_this_x1 a_this_y1 a_this_head a_this_said a_this_low a_this_high a_this_least a_this_price a_this_way a_this_lineFirst a_this_lineLast a_this_left a_this_pile a_this_rest a_this_read a_this_measure a_this_wentBack v_this_run v_this_signs v_this_lastSigns v_this_dirt v_this_time v_this_lineMany v_this_notSign v_this_notKind v_this_measureMany f8 f9 f10 f11 f12 f13) → lv_has ls 4 [(0, .ref a_this), (1, .int i1), (2, .int x7), (3, .int x14)] → W p l e (headSpec gs_X8_order rm_X8_order).room s m args below meth c H locs 0 0 Q (F0 m 9 ls []) := by
          intro n9_14
          induction n9_14 with
          | zero => intro f8 f9 f10 f11 f12 f13 x14 h; exact z_no h
          | succ n9_14 ih_9 =>
            intro f8 f9 f10 f11 f12 f13 x14 h H locs ls hw hl
            replace h : (p_X8_order_l9 x7 (z_lp7 (p_X8_order_l2 i1 K) n2_7)) (z_lp7 (p_X8_order_l9 x7 (z_lp7 (p_X8_order_l2 i1 K) n2_7)) n9_14) f8 f9 f10 f11 f12 f13 x14 = some o := h
            refine lv_iload_n S.1 S.2.1 dX8_order_9 rfl (lv_at hl 3 rfl) ?_
            refine z_if_le S (tgt := 102) h dX8_order_10 (by decide) (fun h => ?_) (fun h => ?_)
            · refine z_iinc S (i := 2) (k := 2) (v := x7 + 1) hl rfl (by decide) rfl (fun v => (2, .int v) :: [(0, .ref a_this), (1, .int i1), (3, .int x14)]) (fun _ => rfl) h dX8_order_102 (fun y15 ls hl h => ?_)
              replace hl : lv_has ls 4 [(2, .int y15), (0, .ref a_this), (1, .int i1), (3, .int x14)] := hl
              refine lv_goto (tgt := 2) S.1 S.2.1 dX8_order_105 (by decide) ?_
              exact ih_2 f8 f9 f10 f11 f12 f13 y15 h _ _ ls hw (lv_sub hl [1, 2, 0] rfl)
            · refine lv_aload_n S.1 S.2.1 dX8_order_13 rfl (lv_at hl 0 rfl) ?_
              refine lv_iload_n S.1 S.2.1 dX8_order_14 rfl (lv_at hl 3 rfl) ?_
              refine lv_iload_n S.1 S.2.1 dX8_order_15 rfl (lv_at hl 3 rfl) ?_
              refine lv_iconst (v := 1) S.1 S.2.1 dX8_order_16 (by decide) ?_
              refine lv_isub S.1 S.2.1 dX8_order_17 ?_
              obtain ⟨y16, hc, h⟩ := z_b1_e h
              refine z_callVi (As := [.int x14, .int (x14 - 1)]) (rest := []) S (c_X8_isAhead l D cI cJ cZ a_this a_this_board a_this_area a_this_x0 a_this_y0 a_this_x1 a_this_y1 a_this_head a_this_said a_this_low a_this_high a_this_least a_this_price a_this_way a_this_lineFirst a_this_lineLast a_this_left a_this_pile a_this_rest a_this_read a_this_measure a_this_wentBack v_this_run v_this_signs v_this_lastSigns v_this_dirt v_this_time v_this_lineMany v_this_notSign v_this_notKind v_this_measureMany f9 f10 f13 x14 (x14 - 1) _ hc) (cwV 2 S.2.2.2.2 (gw_V gw_866 gw_868 gw_37 gw_58 gw_869) rfl rfl rfl hd_X8_isAhead ⟨Nat.le_of_ble_eq_true rfl, Nat.le_of_ble_eq_true rfl⟩) hK hA hw [0, 2, 3, 6] (by decide) rfl rfl [some 0, none, some 1, some 2, none, none, some 3] rfl (by decide) 0 rfl rfl hl.1 rfl rfl (lv_room (Nat.le_of_ble_eq_true rfl)) ⟨Nat.zero_le _, Nat.zero_le _⟩ dX8_order_18 (fun H locs hw => ?_)
              replace hw : zW D A s H locs (wd_X8_order cI cJ cZ a_this a_this_board a_this_area a_this_x0 a_this_y0 a_this_x1 a_this_y1 a_this_head a_this_said a_this_low a_this_high a_this_least a_this_price a_this_way a_this_lineFirst a_this_lineLast a_this_left a_this_pile a_this_rest a_this_read a_this_measure a_this_wentBack v_this_run v_this_signs v_this_lastSigns v_this_dirt v_this_time v_this_lineMany v_this_notSign v_this_notKind v_this_measureMany f8 f9 f10 f11 f12 f13) := hw
              refine z_if_eq S (tgt := 102) h dX8_order_21 (by decide) (fun h => ?_) (fun h => ?_)
              · refine z_iinc S (i := 2) (k := 2) (v := x7 + 1) hl rfl (by decide) rfl (fun v => (2, .int v) :: [(0, .ref a_this), (1, .int i1), (3, .int x14)]) (fun _ => rfl) h dX8_order_102 (fun y17 ls hl h => ?_)
                replace hl : lv_has ls 4 [(2, .int y17), (0, .ref a_this), (1, .int i1), (3, .int x14)] := hl
                refine lv_goto (tgt := 2) S.1 S.2.1 dX8_order_105 (by decide) ?_
                exact ih_2 f8 f9 f10 f11 f12 f13 y17 h _ _ ls hw (lv_sub hl [1, 2, 0] rfl)
              · refine lv_aload_n S.1 S.2.1 dX8_order_24 rfl (lv_at hl 0 rfl) ?_
                refine lv_aload_n S.1 S.2.1 dX8_order_25 rfl (lv_at hl 0 rfl) ?_
                refine z_get S (C := RX8) (T := TX8) (N := 30) (gi gu_X8) hK hw 0 rfl rfl 4 (Nat.le_of_ble_eq_true rfl) (List.mem_cons_of_mem _ gw_715) rfl dX8_order_26 ?_
                refine lv_iload_n S.1 S.2.1 dX8_order_29 rfl (lv_at hl 3 rfl) ?_
                refine lv_iload_n S.1 S.2.1 dX8_order_30 rfl (lv_at hl 3 rfl) ?_
                refine lv_iconst (v := 1) S.1 S.2.1 dX8_order_31 (by decide) ?_
                refine lv_isub S.1 S.2.1 dX8_order_32 ?_
                obtain ⟨f18, hc, h⟩ := z_b1_e h
                refine z_callVv (As := [.ref a_this_area, .int x14, .int (x14 - 1)]) (rest := []) S (c_X8_swap l D cI cJ cZ a_this a_this_area 40 f8 x14 (x14 - 1) _ hc) (cwV 3 S.2.2.2.2 (gw_V gw_870 gw_872 gw_38 gw_58 gw_873) rfl rfl rfl hd_X8_swap ⟨Nat.le_of_ble_eq_true rfl, Nat.le_of_ble_eq_true rfl⟩) hK hA hw [1] (by decide) rfl rfl [none, some 0, none, none, none, none, none] rfl (by decide) 0 rfl rfl hl.1 rfl rfl (lv_room (Nat.le_of_ble_eq_true rfl)) ⟨Nat.zero_le _, Nat.zero_le _⟩ dX8_order_33 (fun H locs hw => ?_)
                replace hw : zW D A s H locs (wd_X8_order cI cJ cZ a_this a_this_board a_this_area a_this_x0 a_this_y0 a_this_x1 a_this_y1 a_this_head a_this_said a_this_low a_this_high a_this_least a_this_price a_this_way a_this_lineFirst a_this_lineLast a_this_left a_this_pile a_this_rest a_this_read a_this_measure a_this_wentBack v_this_run v_this_signs v_this_lastSigns v_this_dirt v_this_time v_this_lineMany v_this_notSign v_this_notKind v_this_measureMany f18 f9 f10 f11 f12 f13) := hw
                refine lv_aload_n S.1 S.2.1 dX8_order_36 rfl (lv_at hl 0 rfl) ?_
                refine lv_aload_n S.1 S.2.1 dX8_order_37 rfl (lv_at hl 0 rfl) ?_
                refine z_get S (C := RX8) (T := TX8) (N := 30) (gi gu_X8) hK hw 0 rfl rfl 9 (Nat.le_of_ble_eq_true rfl) (List.mem_cons_of_mem _ gw_720) rfl dX8_order_38 ?_
                refine lv_iload_n S.1 S.2.1 dX8_order_41 rfl (lv_at hl 3 rfl) ?_
                refine lv_iload_n S.1 S.2.1 dX8_order_42 rfl (lv_at hl 3 rfl) ?_
                refine lv_iconst (v := 1) S.1 S.2.1 dX8_order_43 (by decide) ?_
                refine lv_isub S.1 S.2.1 dX8_order_44 ?_
                obtain ⟨f19, hc, h⟩ := z_b1_e h
                refine z_callVv (As := [.ref a_this_head, .int x14, .int (x14 - 1)]) (rest := []) S (c_X8_swap l D cI cJ cZ a_this a_this_head 40 f13 x14 (x14 - 1) _ hc) (cwV 3 S.2.2.2.2 (gw_V gw_870 gw_872 gw_38 gw_58 gw_873) rfl rfl rfl hd_X8_swap ⟨Nat.le_of_ble_eq_true rfl, Nat.le_of_ble_eq_true rfl⟩) hK hA hw [6] (by decide) rfl rfl [none, none, none, none, none, none, some 0] rfl (by decide) 0 rfl rfl hl.1 rfl rfl (lv_room (Nat.le_of_ble_eq_true rfl)) ⟨Nat.zero_le _, Nat.zero_le _⟩ dX8_order_45 (fun H locs hw => ?_)
                replace hw : zW D A s H locs (wd_X8_order cI cJ cZ a_this a_this_board a_this_area a_this_x0 a_this_y0 a_this_x1 a_this_y1 a_this_head a_this_said a_this_low a_this_high a_this_least a_this_price a_this_way a_this_lineFirst a_this_lineLast a_this_left a_this_pile a_this_rest a_this_read a_this_measure a_this_wentBack v_this_run v_this_signs v_this_lastSigns v_this_dirt v_this_time v_this_lineMany v_this_notSign v_this_notKind v_this_measureMany f18 f9 f10 f11 f12 f19) := hw
                refine lv_aload_n S.1 S.2.1 dX8_order_48 rfl (lv_at hl 0 rfl) ?_
                refine lv_aload_n S.1 S.2.1 dX8_order_49 rfl (lv_at hl 0 rfl) ?_
                refine z_get S (C := RX8) (T := TX8) (N := 30) (gi gu_X8) hK hw 0 rfl rfl 5 (Nat.le_of_ble_eq_true rfl) (List.mem_cons_of_mem _ gw_716) rfl dX8_order_50 ?_
                refine lv_iload_n S.1 S.2.1 dX8_order_53 rfl (lv_at hl 3 rfl) ?_
                refine lv_iload_n S.1 S.2.1 dX8_order_54 rfl (lv_at hl 3 rfl) ?_
                refine lv_iconst (v := 1) S.1 S.2.1 dX8_order_55 (by decide) ?_
                refine lv_isub S.1 S.2.1 dX8_order_56 ?_
                obtain ⟨f20, hc, h⟩ := z_b1_e h
                refine z_callVv (As := [.ref a_this_x0, .int x14, .int (x14 - 1)]) (rest := []) S (c_X8_swap l D cI cJ cZ a_this a_this_x0 40 f9 x14 (x14 - 1) _ hc) (cwV 3 S.2.2.2.2 (gw_V gw_870 gw_872 gw_38 gw_58 gw_873) rfl rfl rfl hd_X8_swap ⟨Nat.le_of_ble_eq_true rfl, Nat.le_of_ble_eq_true rfl⟩) hK hA hw [2] (by decide) rfl rfl [none, none, some 0, none, none, none, none] rfl (by decide) 0 rfl rfl hl.1 rfl rfl (lv_room (Nat.le_of_ble_eq_true rfl)) ⟨Nat.zero_le _, Nat.zero_le _⟩ dX8_order_57 (fun H locs hw => ?_)
                replace hw : zW D A s H locs (wd_X8_order cI cJ cZ a_this a_this_board a_this_area a_this_x0 a_this_y0 a_this_x1 a_this_y1 a_this_head a_this_said a_this_low a_this_high a_this_least a_this_price a_this_way a_this_lineFirst a_this_lineLast a_this_left a_this_pile a_this_rest a_this_read a_this_measure a_this_wentBack v_this_run v_this_signs v_this_lastSigns v_this_dirt v_this_time v_this_lineMany v_this_notSign v_this_notKind v_this_measureMany f18 f20 f10 f11 f12 f19) := hw
                refine lv_aload_n S.1 S.2.1 dX8_order_60 rfl (lv_at hl 0 rfl) ?_
                refine lv_aload_n S.1 S.2.1 dX8_order_61 rfl (lv_at hl 0 rfl) ?_
                refine z_get S (C := RX8) (T := TX8) (N := 30) (gi gu_X8) hK hw 0 rfl rfl 6 (Nat.le_of_ble_eq_true rfl) (List.mem_cons_of_mem _ gw_717) rfl dX8_order_62 ?_
                refine lv_iload_n S.1 S.2.1 dX8_order_65 rfl (lv_at hl 3 rfl) ?_
                refine lv_iload_n S.1 S.2.1 dX8_order_66 rfl (lv_at hl 3 rfl) ?_
                refine lv_iconst (v := 1) S.1 S.2.1 dX8_order_67 (by decide) ?_
                refine lv_isub S.1 S.2.1 dX8_order_68 ?_
                obtain ⟨f21, hc, h⟩ := z_b1_e h
                refine z_callVv (As := [.ref a_this_y0, .int x14, .int (x14 - 1)]) (rest := []) S (c_X8_swap l D cI cJ cZ a_this a_this_y0 40 f10 x14 (x14 - 1) _ hc) (cwV 3 S.2.2.2.2 (gw_V gw_870 gw_872 gw_38 gw_58 gw_873) rfl rfl rfl hd_X8_swap ⟨Nat.le_of_ble_eq_true rfl, Nat.le_of_ble_eq_true rfl⟩) hK hA hw [3] (by decide) rfl rfl [none, none, none, some 0, none, none, none] rfl (by decide) 0 rfl rfl hl.1 rfl rfl (lv_room (Nat.le_of_ble_eq_true rfl)) ⟨Nat.zero_le _, Nat.zero_le _⟩ dX8_order_69 (fun H locs hw => ?_)
                replace hw : zW D A s H locs (wd_X8_order cI cJ cZ a_this a_this_board a_this_area a_this_x0 a_this_y0 a_this_x1 a_this_y1 a_this_head a_this_said a_this_low a_this_high a_this_least a_this_price a_this_way a_this_lineFirst a_this_lineLast a_this_left a_this_pile a_this_rest a_this_read a_this_measure a_this_wentBack v_this_run v_this_signs v_this_lastSigns v_this_dirt v_this_time v_this_lineMany v_this_notSign v_this_notKind v_this_measureMany f18 f20 f21 f11 f12 f19) := hw
                refine lv_aload_n S.1 S.2.1 dX8_order_72 rfl (lv_at hl 0 rfl) ?_
                refine lv_aload_n S.1 S.2.1 dX8_order_73 rfl (lv_at hl 0 rfl) ?_
                refine z_get S (C := RX8) (T := TX8) (N := 30) (gi gu_X8) hK hw 0 rfl rfl 7 (Nat.le_of_ble_eq_true rfl) (List.mem_cons_of_mem _ gw_718) rfl dX8_order_74 ?_
                refine lv_iload_n S.1 S.2.1 dX8_order_77 rfl (lv_at hl 3 rfl) ?_
                refine lv_iload_n S.1 S.2.1 dX8_order_78 rfl (lv_at hl 3 rfl) ?_
                refine lv_iconst (v := 1) S.1 S.2.1 dX8_order_79 (by decide) ?_
                refine lv_isub S.1 S.2.1 dX8_order_80 ?_
                obtain ⟨f22, hc, h⟩ := z_b1_e h
                refine z_callVv (As := [.ref a_this_x1, .int x14, .int (x14 - 1)]) (rest := []) S (c_X8_swap l D cI cJ cZ a_this a_this_x1 40 f11 x14 (x14 - 1) _ hc) (cwV 3 S.2.2.2.2 (gw_V gw_870 gw_872 gw_38 gw_58 gw_873) rfl rfl rfl hd_X8_swap ⟨Nat.le_of_ble_eq_true rfl, Nat.le_of_ble_eq_true rfl⟩) hK hA hw [4] (by decide) rfl rfl [none, none, none, none, some 0, none, none] rfl (by decide) 0 rfl rfl hl.1 rfl rfl (lv_room (Nat.le_of_ble_eq_true rfl)) ⟨Nat.zero_le _, Nat.zero_le _⟩ dX8_order_81 (fun H locs hw => ?_)
                replace hw : zW D A s H locs (wd_X8_order cI cJ cZ a_this a_this_board a_this_area a_this_x0 a_this_y0 a_this_x1 a_this_y1 a_this_head a_this_said a_this_low a_this_high a_this_least a_this_price a_this_way a_this_lineFirst a_this_lineLast a_this_left a_this_pile a_this_rest a_this_read a_this_measure a_this_wentBack v_this_run v_this_signs v_this_lastSigns v_this_dirt v_this_time v_this_lineMany v_this_notSign v_this_notKind v_this_measureMany f18 f20 f21 f22 f12 f19) := hw
                refine lv_aload_n S.1 S.2.1 dX8_order_84 rfl (lv_at hl 0 rfl) ?_
                refine lv_aload_n S.1 S.2.1 dX8_order_85 rfl (lv_at hl 0 rfl) ?_
                refine z_get S (C := RX8) (T := TX8) (N := 30) (gi gu_X8) hK hw 0 rfl rfl 8 (Nat.le_of_ble_eq_true rfl) (List.mem_cons_of_mem _ gw_719) rfl dX8_order_86 ?_
                refine lv_iload_n S.1 S.2.1 dX8_order_89 rfl (lv_at hl 3 rfl) ?_
                refine lv_iload_n S.1 S.2.1 dX8_order_90 rfl (lv_at hl 3 rfl) ?_
                refine lv_iconst (v := 1) S.1 S.2.1 dX8_order_91 (by decide) ?_
                refine lv_isub S.1 S.2.1 dX8_order_92 ?_
                obtain ⟨f23, hc, h⟩ := z_b1_e h
                refine z_callVv (As := [.ref a_this_y1, .int x14, .int (x14 - 1)]) (rest := []) S (c_X8_swap l D cI cJ cZ a_this a_this_y1 40 f12 x14 (x14 - 1) _ hc) (cwV 3 S.2.2.2.2 (gw_V gw_870 gw_872 gw_38 gw_58 gw_873) rfl rfl rfl hd_X8_swap ⟨Nat.le_of_ble_eq_true rfl, Nat.le_of_ble_eq_true rfl⟩) hK hA hw [5] (by decide) rfl rfl [none, none, none, none, none, some 0, none] rfl (by decide) 0 rfl rfl hl.1 rfl rfl (lv_room (Nat.le_of_ble_eq_true rfl)) ⟨Nat.zero_le _, Nat.zero_le _⟩ dX8_order_93 (fun H locs hw => ?_)
                replace hw : zW D A s H locs (wd_X8_order cI cJ cZ a_this a_this_board a_this_area a_this_x0 a_this_y0 a_this_x1 a_this_y1 a_this_head a_this_said a_this_low a_this_high a_this_least a_this_price a_this_way a_this_lineFirst a_this_lineLast a_this_left a_this_pile a_this_rest a_this_read a_this_measure a_this_wentBack v_this_run v_this_signs v_this_lastSigns v_this_dirt v_this_time v_this_lineMany v_this_notSign v_this_notKind v_this_measureMany f18 f20 f21 f22 f23 f19) := hw
                refine z_iinc S (i := 3) (k := 3) (v := x14 + (-1)) hl rfl (by decide) (congrArg (fun w => x14 + w) (by decide : Int32.ofInt (-1) = (-1 : Int32))) (fun v => (3, .int v) :: [(0, .ref a_this), (1, .int i1), (2, .int x7)]) (fun _ => rfl) h dX8_order_96 (fun y24 ls hl h => ?_)
                replace hl : lv_has ls 4 [(3, .int y24), (0, .ref a_this), (1, .int i1), (2, .int x7)] := hl
                refine lv_goto (tgt := 9) S.1 S.2.1 dX8_order_99 (by decide) ?_
                exact ih_9 f18 f20 f21 f22 f23 f19 y24 h _ _ ls hw (lv_sub hl [1, 2, 3, 0] rfl)
        exact L_9 K f1 f2 f3 f4 f5 f6 x7 h _ _ ls hw (lv_sub hl [1, 2, 3, 0] rfl)
  exact L_2 K f_this_area f_this_x0 f_this_y0 f_this_x1 f_this_y1 f_this_head 1 h _ _ ls hw (lv_sub hl [1, 2, 0] rfl)
theorem gw_853 : Cond.methodLink RX8 135 yX8_takeOff ∈ GW := GW_of 853 (by decide +kernel) (by decide +kernel)
theorem gw_856 : Cond.code yX8_takeOff cX8_takeOff 5 none ∈ GW := GW_of 856 (by decide +kernel) (by decide +kernel)
theorem gw_855 : Cond.instanceMethod yX8_takeOff ∈ GW := GW_of 855 (by decide +kernel) (by decide +kernel)
theorem gw_34 : Cond.selects RX8 yX8_takeOff yX8_takeOff ∈ GW := GW_of 34 (by decide +kernel) (by decide +kernel)
theorem gw_862 : Cond.methodLink RX8 142 yX8_order ∈ GW := GW_of 862 (by decide +kernel) (by decide +kernel)
theorem gw_865 : Cond.code yX8_order cX8_order 4 none ∈ GW := GW_of 865 (by decide +kernel) (by decide +kernel)
theorem gw_864 : Cond.instanceMethod yX8_order ∈ GW := GW_of 864 (by decide +kernel) (by decide +kernel)
theorem gw_36 : Cond.selects RX8 yX8_order yX8_order ∈ GW := GW_of 36 (by decide +kernel) (by decide +kernel)
theorem gw_714 : Cond.fieldLink RX8 20 "ScoreReaderModel" "lastSigns" "I" ∈ GW := GW_of 714 (by decide +kernel) (by decide +kernel)
theorem gw_707 : Cond.methodLink RX8 97 yX8_forget ∈ GW := GW_of 707 (by decide +kernel) (by decide +kernel)
theorem gw_710 : Cond.code yX8_forget cX8_forget 2 none ∈ GW := GW_of 710 (by decide +kernel) (by decide +kernel)
theorem gw_709 : Cond.instanceMethod yX8_forget ∈ GW := GW_of 709 (by decide +kernel) (by decide +kernel)
theorem gw_29 : Cond.selects RX8 yX8_forget yX8_forget ∈ GW := GW_of 29 (by decide +kernel) (by decide +kernel)
theorem gw_858 : Cond.methodLink RX8 138 yX8_spread ∈ GW := GW_of 858 (by decide +kernel) (by decide +kernel)
theorem gw_861 : Cond.code yX8_spread cX8_spread 10 none ∈ GW := GW_of 861 (by decide +kernel) (by decide +kernel)
theorem gw_860 : Cond.instanceMethod yX8_spread ∈ GW := GW_of 860 (by decide +kernel) (by decide +kernel)
theorem gw_35 : Cond.selects RX8 yX8_spread yX8_spread ∈ GW := GW_of 35 (by decide +kernel) (by decide +kernel)
def gs_X8_find : List Cond := Cond.code yX8_find cX8_find 4 (some .int) :: GW
def wd_X8_find (cI cJ cZ : ClassId) (a_this a_this_board a_this_area a_this_x0 a_this_y0 a_this_x1 a_this_y1 a_this_head a_this_said a_this_low a_this_high a_this_least a_this_price a_this_way a_this_lineFirst a_this_lineLast a_this_left a_this_pile a_this_rest a_this_read a_this_measure a_this_wentBack : Nat) (v_this_run : Int32) (v_this_signs : Int32) (v_this_lastSigns : Int32) (v_this_dirt : Int32) (v_this_time : Int32) (v_this_lineMany : Int32) (v_this_notSign : Int32) (v_this_notKind : Int32) (v_this_measureMany : Int32) (f_this_board : Nat → Int64) (f_this_area : Nat → Int32) (f_this_x0 : Nat → Int32) (f_this_y0 : Nat → Int32) (f_this_x1 : Nat → Int32) (f_this_y1 : Nat → Int32) (f_this_head : Nat → Int32) (f_this_said : Nat → Int32) (f_this_lineFirst : Nat → Int32) (f_this_lineLast : Nat → Int32) (f_this_left : Nat → Int64) (f_this_pile : Nat → Int32) : va_W := ((a_this, .inr (8, [.ref a_this_board, .int v_this_run, .int v_this_signs, .int v_this_lastSigns, .ref a_this_area, .ref a_this_x0, .ref a_this_y0, .ref a_this_x1, .ref a_this_y1, .ref a_this_head, .ref a_this_said, .ref a_this_low, .ref a_this_high, .ref a_this_least, .ref a_this_price, .int v_this_dirt, .int v_this_time, .ref a_this_way, .int v_this_lineMany, .ref a_this_lineFirst, .ref a_this_lineLast, .ref a_this_left, .ref a_this_pile, .ref a_this_rest, .int v_this_notSign, .int v_this_notKind, .ref a_this_read, .ref a_this_measure, .int v_this_measureMany, .ref a_this_wentBack])) :: (a_this_board, .inl (cJ, 32, .inr (.inl f_this_board))) :: (a_this_area, .inl (cI, 40, .inl f_this_area)) :: (a_this_x0, .inl (cI, 40, .inl f_this_x0)) :: (a_this_y0, .inl (cI, 40, .inl f_this_y0)) :: (a_this_x1, .inl (cI, 40, .inl f_this_x1)) :: (a_this_y1, .inl (cI, 40, .inl f_this_y1)) :: (a_this_head, .inl (cI, 40, .inl f_this_head)) :: (a_this_said, .inl (cI, 40, .inl f_this_said)) :: (a_this_lineFirst, .inl (cI, 32, .inl f_this_lineFirst)) :: (a_this_lineLast, .inl (cI, 32, .inl f_this_lineLast)) :: (a_this_left, .inl (cJ, 32, .inr (.inl f_this_left))) :: (a_this_pile, .inl (cI, 1920, .inl f_this_pile)) :: [])
abbrev rm_X8_find : Room := { frames := 6, cells := 0, slots := 0, locals := 138 }
theorem hd_X8_find : yX8_find.cls = RX8 ∧ yX8_find.cls ≠ "java/lang/invoke/MethodHandle" ∧ yX8_find.cls ≠ "java/lang/invoke/VarHandle" ∧ (parseMethodDescriptor yX8_find.desc).map (fun d => d.parameters.length) = some 0 := by decide +kernel
set_option maxHeartbeats 4000000 in
set_option maxRecDepth 100000 in
theorem c_X8_find (l : Launch) (D : va_G) (cI cJ cZ : ClassId) (a_this a_this_board a_this_area a_this_x0 a_this_y0 a_this_x1 a_this_y1 a_this_head a_this_said a_this_low a_this_high a_this_least a_this_price a_this_way a_this_lineFirst a_this_lineLast a_this_left a_this_pile a_this_rest a_this_read a_this_measure a_this_wentBack : Nat) (v_this_run : Int32) (v_this_signs : Int32) (v_this_lastSigns : Int32) (v_this_dirt : Int32) (v_this_time : Int32) (v_this_lineMany : Int32) (v_this_notSign : Int32) (v_this_notKind : Int32) (v_this_measureMany : Int32) (f_this_board : Nat → Int64) (f_this_area : Nat → Int32) (f_this_x0 : Nat → Int32) (f_this_y0 : Nat → Int32) (f_this_x1 : Nat → Int32) (f_this_y1 : Nat → Int32) (f_this_head : Nat → Int32) (f_this_said : Nat → Int32) (f_this_lineFirst : Nat → Int32) (f_this_lineLast : Nat → Int32) (f_this_left : Nat → Int64) (f_this_pile : Nat → Int32) (K : Nat) (o : Int32 × Int32 × Int32 × Int32 × (Nat → Int32) × (Nat → Int32) × (Nat → Int32) × (Nat → Int32) × (Nat → Int32) × (Nat → Int32) × (Nat → Int32) × (Nat → Int32) × (Nat → Int32) × (Nat → Int64) × (Nat → Int32)) (h : p_X8_find K v_this_run v_this_signs v_this_lastSigns v_this_lineMany f_this_board f_this_area f_this_x0 f_this_y0 f_this_x1 f_this_y1 f_this_head f_this_said f_this_lineFirst f_this_lineLast f_this_left f_this_pile = some o) : zMi l D (zT cI cJ cZ) yX8_find gs_X8_find rm_X8_find [.ref a_this] (wd_X8_find cI cJ cZ a_this a_this_board a_this_area a_this_x0 a_this_y0 a_this_x1 a_this_y1 a_this_head a_this_said a_this_low a_this_high a_this_least a_this_price a_this_way a_this_lineFirst a_this_lineLast a_this_left a_this_pile a_this_rest a_this_read a_this_measure a_this_wentBack v_this_run v_this_signs v_this_lastSigns v_this_dirt v_this_time v_this_lineMany v_this_notSign v_this_notKind v_this_measureMany f_this_board f_this_area f_this_x0 f_this_y0 f_this_x1 f_this_y1 f_this_head f_this_said f_this_lineFirst f_this_lineLast f_this_left f_this_pile) (wd_X8_find cI cJ cZ a_this a_this_board a_this_area a_this_x0 a_this_y0 a_this_x1 a_this_y1 a_this_head a_this_said a_this_low a_this_high a_this_least a_this_price a_this_way a_this_lineFirst a_this_lineLast a_this_left a_this_pile a_this_rest a_this_read a_this_measure a_this_wentBack v_this_run (o.2.1) (o.2.2.1) v_this_dirt v_this_time (o.2.2.2.1) v_this_notSign v_this_notKind v_this_measureMany f_this_board (o.2.2.2.2.1) (o.2.2.2.2.2.1) (o.2.2.2.2.2.2.1) (o.2.2.2.2.2.2.2.1) (o.2.2.2.2.2.2.2.2.1) (o.2.2.2.2.2.2.2.2.2.1) (o.2.2.2.2.2.2.2.2.2.2.1) (o.2.2.2.2.2.2.2.2.2.2.2.1) (o.2.2.2.2.2.2.2.2.2.2.2.2.1) (o.2.2.2.2.2.2.2.2.2.2.2.2.2.1) (o.2.2.2.2.2.2.2.2.2.2.2.2.2.2)) (o.1) := by
  refine zMet_i (own := RX8) (fun u : Int32 × Int32 × Int32 × Int32 × (Nat → Int32) × (Nat → Int32) × (Nat → Int32) × (Nat → Int32) × (Nat → Int32) × (Nat → Int32) × (Nat → Int32) × (Nat → Int32) × (Nat → Int32) × (Nat → Int64) × (Nat → Int32) => (wd_X8_find cI cJ cZ a_this a_this_board a_this_area a_this_x0 a_this_y0 a_this_x1 a_this_y1 a_this_head a_this_said a_this_low a_this_high a_this_least a_this_price a_this_way a_this_lineFirst a_this_lineLast a_this_left a_this_pile a_this_rest a_this_read a_this_measure a_this_wentBack v_this_run (u.2.1) (u.2.2.1) v_this_dirt v_this_time (u.2.2.2.1) v_this_notSign v_this_notKind v_this_measureMany f_this_board (u.2.2.2.2.1) (u.2.2.2.2.2.1) (u.2.2.2.2.2.2.1) (u.2.2.2.2.2.2.2.1) (u.2.2.2.2.2.2.2.2.1) (u.2.2.2.2.2.2.2.2.2.1) (u.2.2.2.2.2.2.2.2.2.2.1) (u.2.2.2.2.2.2.2.2.2.2.2.1) (u.2.2.2.2.2.2.2.2.2.2.2.2.1) (u.2.2.2.2.2.2.2.2.2.2.2.2.2.1) (u.2.2.2.2.2.2.2.2.2.2.2.2.2.2))) (fun u : Int32 × Int32 × Int32 × Int32 × (Nat → Int32) × (Nat → Int32) × (Nat → Int32) × (Nat → Int32) × (Nat → Int32) × (Nat → Int32) × (Nat → Int32) × (Nat → Int32) × (Nat → Int32) × (Nat → Int64) × (Nat → Int32) => u.1) (by decide) rfl rfl (Nat.le_of_ble_eq_true rfl) ?_
  intro p e s m args below meth c A Q S hK hA hw ret ls hl
  replace hl : lv_has ls 4 [(0, .ref a_this)] := hl
  refine lv_aload_n S.1 S.2.1 dX8_find_0 rfl (lv_at hl 0 rfl) ?_
  obtain ⟨v1, f2, f3, f4, hc, h⟩ := z_b4_e h
  refine z_callVv (As := []) (rest := []) S (c_X8_takeOff l D cI cJ cZ a_this a_this_board a_this_area a_this_x0 a_this_y0 a_this_x1 a_this_y1 a_this_head a_this_said a_this_low a_this_high a_this_least a_this_price a_this_way a_this_lineFirst a_this_lineLast a_this_left a_this_pile a_this_rest a_this_read a_this_measure a_this_wentBack v_this_run v_this_signs v_this_lastSigns v_this_dirt v_this_time v_this_lineMany v_this_notSign v_this_notKind v_this_measureMany f_this_board f_this_lineFirst f_this_lineLast f_this_left K _ hc) (cwV 0 S.2.2.2.2 (gw_V gw_853 gw_855 gw_34 gw_58 gw_856) rfl rfl rfl hd_X8_takeOff ⟨Nat.le_of_ble_eq_true rfl, Nat.le_of_ble_eq_true rfl⟩) hK hA hw [0, 1, 9, 10, 11] (by decide) rfl rfl (some 0 :: some 1 :: none :: none :: none :: none :: none :: none :: none :: some 2 :: some 3 :: some 4 :: none :: []) rfl (by decide) 0 rfl rfl hl.1 rfl rfl (lv_room (Nat.le_of_ble_eq_true rfl)) ⟨Nat.zero_le _, Nat.zero_le _⟩ dX8_find_1 (fun H locs hw => ?_)
  replace hw : zW D A s H locs (wd_X8_find cI cJ cZ a_this a_this_board a_this_area a_this_x0 a_this_y0 a_this_x1 a_this_y1 a_this_head a_this_said a_this_low a_this_high a_this_least a_this_price a_this_way a_this_lineFirst a_this_lineLast a_this_left a_this_pile a_this_rest a_this_read a_this_measure a_this_wentBack v_this_run v_this_signs v_this_lastSigns v_this_dirt v_this_time v1 v_this_notSign v_this_notKind v_this_measureMany f_this_board f_this_area f_this_x0 f_this_y0 f_this_x1 f_this_y1 f_this_head f_this_said f2 f3 f4 f_this_pile) := hw
  refine lv_aload_n S.1 S.2.1 dX8_find_4 rfl (lv_at hl 0 rfl) ?_
  refine lv_iconst (v := (-1)) S.1 S.2.1 dX8_find_5 (by decide) ?_
  refine z_put S (C := RX8) (T := TX8) (N := 30) (gi gu_X8) tyX8 tyX8_ok nmX8 hK hw 0 rfl rfl 2 (Nat.le_of_ble_eq_true rfl) (List.mem_cons_of_mem _ gw_713) rfl rfl rfl (Nat.le_of_ble_eq_true rfl) dX8_find_6 (fun H locs hw => ?_)
  replace hw : zW D A s H locs (wd_X8_find cI cJ cZ a_this a_this_board a_this_area a_this_x0 a_this_y0 a_this_x1 a_this_y1 a_this_head a_this_said a_this_low a_this_high a_this_least a_this_price a_this_way a_this_lineFirst a_this_lineLast a_this_left a_this_pile a_this_rest a_this_read a_this_measure a_this_wentBack v_this_run (-1) v_this_lastSigns v_this_dirt v_this_time v1 v_this_notSign v_this_notKind v_this_measureMany f_this_board f_this_area f_this_x0 f_this_y0 f_this_x1 f_this_y1 f_this_head f_this_said f2 f3 f4 f_this_pile) := hw
  refine lv_iconst (v := 0) S.1 S.2.1 dX8_find_9 (by decide) ?_
  refine lv_istore_n (lv' := [(1, .int 0), (0, .ref a_this)]) S.1 S.2.1 dX8_find_10 rfl hl (by decide) rfl (fun ls hl => ?_)
  refine lv_iconst (v := 0) S.1 S.2.1 dX8_find_11 (by decide) ?_
  refine lv_istore_n (lv' := [(2, .int 0), (1, .int 0), (0, .ref a_this)]) S.1 S.2.1 dX8_find_12 rfl hl (by decide) rfl (fun ls hl => ?_)
  have J_73 : ∀ (f5 : Nat → Int32) (f6 : Nat → Int32) (f7 : Nat → Int32) (f8 : Nat → Int32) (f9 : Nat → Int32) (f10 : Nat → Int32) (f11 : Nat → Int64) (f12 : Nat → Int32) (x13 : Int32) (h : (p_X8_find_j73 K v_this_lastSigns v1 f2 f3 f_this_said) f5 f6 f7 f8 f9 f10 f11 f12 x13 = some o) (H : Heap) (locs : List Loc) (ls : Array Slot), zW D A s H locs (wd_X8_find cI cJ cZ a_this a_this_board a_this_area a_this_x0 a_this_y0 a_this_x1 a_this_y1 a_this_head a_this_said a_this_low a_this_high a_this_least a_this_price a_this_way a_this_lineFirst a_this_lineLast a_this_left a_this_pile a_this_rest a_this_read a_this_measure a_this_wentBack v_this_run (-1) v_this_lastSigns v_this_dirt v_this_time v1 v_this_notSign v_this_notKind v_this_measureMany f_this_board f5 f6 f7 f8 f9 f10 f_this_said f2 f3 f11 f12) → lv_has ls 4 [(0, .ref a_this), (1, .int x13)] → W p l e (headSpec gs_X8_find rm_X8_find).room s m args below meth c H locs 0 0 Q (F0 m 73 ls []) := by
    intro f5 f6 f7 f8 f9 f10 f11 f12 x13 h H locs ls hw hl
    refine lv_aload_n S.1 S.2.1 dX8_find_73 rfl (lv_at hl 0 rfl) ?_
    refine lv_iload_n S.1 S.2.1 dX8_find_74 rfl (lv_at hl 1 rfl) ?_
    obtain ⟨f14, f15, f16, f17, f18, f19, hc, h⟩ := z_b6_e h
    refine z_callVv (As := [.int x13]) (rest := []) S (c_X8_order l D cI cJ cZ a_this a_this_board a_this_area a_this_x0 a_this_y0 a_this_x1 a_this_y1 a_this_head a_this_said a_this_low a_this_high a_this_least a_this_price a_this_way a_this_lineFirst a_this_lineLast a_this_left a_this_pile a_this_rest a_this_read a_this_measure a_this_wentBack v_this_run (-1) v_this_lastSigns v_this_dirt v_this_time v1 v_this_notSign v_this_notKind v_this_measureMany f5 f6 f7 f8 f9 f10 K x13 _ hc) (cwV 1 S.2.2.2.2 (gw_V gw_862 gw_864 gw_36 gw_58 gw_865) rfl rfl rfl hd_X8_order ⟨Nat.le_of_ble_eq_true rfl, Nat.le_of_ble_eq_true rfl⟩) hK hA hw [0, 2, 3, 4, 5, 6, 7] (by decide) rfl rfl (some 0 :: none :: some 1 :: some 2 :: some 3 :: some 4 :: some 5 :: some 6 :: none :: none :: none :: none :: none :: []) rfl (by decide) 0 rfl rfl hl.1 rfl rfl (lv_room (Nat.le_of_ble_eq_true rfl)) ⟨Nat.zero_le _, Nat.zero_le _⟩ dX8_find_75 (fun H locs hw => ?_)
    replace hw : zW D A s H locs (wd_X8_find cI cJ cZ a_this a_this_board a_this_area a_this_x0 a_this_y0 a_this_x1 a_this_y1 a_this_head a_this_said a_this_low a_this_high a_this_least a_this_price a_this_way a_this_lineFirst a_this_lineLast a_this_left a_this_pile a_this_rest a_this_read a_this_measure a_this_wentBack v_this_run (-1) v_this_lastSigns v_this_dirt v_this_time v1 v_this_notSign v_this_notKind v_this_measureMany f_this_board f14 f15 f16 f17 f18 f19 f_this_said f2 f3 f11 f12) := hw
    refine lv_aload_n S.1 S.2.1 dX8_find_78 rfl (lv_at hl 0 rfl) ?_
    refine lv_iload_n S.1 S.2.1 dX8_find_79 rfl (lv_at hl 1 rfl) ?_
    refine z_put S (C := RX8) (T := TX8) (N := 30) (gi gu_X8) tyX8 tyX8_ok nmX8 hK hw 0 rfl rfl 2 (Nat.le_of_ble_eq_true rfl) (List.mem_cons_of_mem _ gw_713) rfl rfl rfl (Nat.le_of_ble_eq_true rfl) dX8_find_80 (fun H locs hw => ?_)
    replace hw : zW D A s H locs (wd_X8_find cI cJ cZ a_this a_this_board a_this_area a_this_x0 a_this_y0 a_this_x1 a_this_y1 a_this_head a_this_said a_this_low a_this_high a_this_least a_this_price a_this_way a_this_lineFirst a_this_lineLast a_this_left a_this_pile a_this_rest a_this_read a_this_measure a_this_wentBack v_this_run x13 v_this_lastSigns v_this_dirt v_this_time v1 v_this_notSign v_this_notKind v_this_measureMany f_this_board f14 f15 f16 f17 f18 f19 f_this_said f2 f3 f11 f12) := hw
    refine lv_iload_n S.1 S.2.1 dX8_find_83 rfl (lv_at hl 1 rfl) ?_
    refine lv_aload_n S.1 S.2.1 dX8_find_84 rfl (lv_at hl 0 rfl) ?_
    refine z_get S (C := RX8) (T := TX8) (N := 30) (gi gu_X8) hK hw 0 rfl rfl 3 (Nat.le_of_ble_eq_true rfl) (List.mem_cons_of_mem _ gw_714) rfl dX8_find_85 ?_
    have J_95 : ∀ (f20 : Nat → Int32) (h : (p_X8_find_j95 x13 v1 f14 f15 f16 f17 f18 f19 f2 f3 f11 f12) f20 = some o) (H : Heap) (locs : List Loc) (ls : Array Slot), zW D A s H locs (wd_X8_find cI cJ cZ a_this a_this_board a_this_area a_this_x0 a_this_y0 a_this_x1 a_this_y1 a_this_head a_this_said a_this_low a_this_high a_this_least a_this_price a_this_way a_this_lineFirst a_this_lineLast a_this_left a_this_pile a_this_rest a_this_read a_this_measure a_this_wentBack v_this_run x13 v_this_lastSigns v_this_dirt v_this_time v1 v_this_notSign v_this_notKind v_this_measureMany f_this_board f14 f15 f16 f17 f18 f19 f20 f2 f3 f11 f12) → lv_has ls 4 [(0, .ref a_this), (1, .int x13)] → W p l e (headSpec gs_X8_find rm_X8_find).room s m args below meth c H locs 0 0 Q (F0 m 95 ls []) := by
      intro f20 h H locs ls hw hl
      refine lv_aload_n S.1 S.2.1 dX8_find_95 rfl (lv_at hl 0 rfl) ?_
      refine lv_iload_n S.1 S.2.1 dX8_find_96 rfl (lv_at hl 1 rfl) ?_
      refine z_put S (C := RX8) (T := TX8) (N := 30) (gi gu_X8) tyX8 tyX8_ok nmX8 hK hw 0 rfl rfl 3 (Nat.le_of_ble_eq_true rfl) (List.mem_cons_of_mem _ gw_714) rfl rfl rfl (Nat.le_of_ble_eq_true rfl) dX8_find_97 (fun H locs hw => ?_)
      replace hw : zW D A s H locs (wd_X8_find cI cJ cZ a_this a_this_board a_this_area a_this_x0 a_this_y0 a_this_x1 a_this_y1 a_this_head a_this_said a_this_low a_this_high a_this_least a_this_price a_this_way a_this_lineFirst a_this_lineLast a_this_left a_this_pile a_this_rest a_this_read a_this_measure a_this_wentBack v_this_run x13 x13 v_this_dirt v_this_time v1 v_this_notSign v_this_notKind v_this_measureMany f_this_board f14 f15 f16 f17 f18 f19 f20 f2 f3 f11 f12) := hw
      refine lv_iload_n S.1 S.2.1 dX8_find_100 rfl (lv_at hl 1 rfl) ?_
      exact ret (x13, x13, x13, v1, f14, f15, f16, f17, f18, f19, f20, f2, f3, f11, f12) h 101 ls _ _ dX8_find_101 hw
    refine z_icmp_eq S (tgt := 95) h dX8_find_88 (by decide) (fun h => ?_) (fun h => ?_)
    · exact J_95 f_this_said h _ _ ls hw (lv_sub hl [0, 1] rfl)
    · refine lv_aload_n S.1 S.2.1 dX8_find_91 rfl (lv_at hl 0 rfl) ?_
      obtain ⟨f21, hc, h⟩ := z_b1_e h
      refine z_callVv (As := []) (rest := []) S (c_X8_forget l D cI cJ cZ a_this a_this_board a_this_area a_this_x0 a_this_y0 a_this_x1 a_this_y1 a_this_head a_this_said a_this_low a_this_high a_this_least a_this_price a_this_way a_this_lineFirst a_this_lineLast a_this_left a_this_pile a_this_rest a_this_read a_this_measure a_this_wentBack v_this_run x13 v_this_lastSigns v_this_dirt v_this_time v1 v_this_notSign v_this_notKind v_this_measureMany f_this_said K _ hc) (cwV 0 S.2.2.2.2 (gw_V gw_707 gw_709 gw_29 gw_58 gw_710) rfl rfl rfl hd_X8_forget ⟨Nat.le_of_ble_eq_true rfl, Nat.le_of_ble_eq_true rfl⟩) hK hA hw [0, 8] (by decide) rfl rfl (some 0 :: none :: none :: none :: none :: none :: none :: none :: some 1 :: none :: none :: none :: none :: []) rfl (by decide) 0 rfl rfl hl.1 rfl rfl (lv_room (Nat.le_of_ble_eq_true rfl)) ⟨Nat.zero_le _, Nat.zero_le _⟩ dX8_find_92 (fun H locs hw => ?_)
      replace hw : zW D A s H locs (wd_X8_find cI cJ cZ a_this a_this_board a_this_area a_this_x0 a_this_y0 a_this_x1 a_this_y1 a_this_head a_this_said a_this_low a_this_high a_this_least a_this_price a_this_way a_this_lineFirst a_this_lineLast a_this_left a_this_pile a_this_rest a_this_read a_this_measure a_this_wentBack v_this_run x13 v_this_lastSigns v_this_dirt v_this_time v1 v_this_notSign v_this_notKind v_this_measureMany f_this_board f14 f15 f16 f17 f18 f19 f21 f2 f3 f11 f12) := hw
      exact J_95 f21 h _ _ ls hw (lv_sub hl [0, 1] rfl)
  have L_13 : ∀ (n13_31 : Nat) (f22 : Nat → Int32) (f23 : Nat → Int32) (f24 : Nat → Int32) (f25 : Nat → Int32) (f26 : Nat → Int32) (f27 : Nat → Int32) (f28 : Nat → Int64) (f29 : Nat → Int32) (x30 : Int32) (x31 : Int32) (h : z_lp10 (p_X8_find_l13 v_this_lastSigns v1 f_this_said f2 f3 K (p_X8_find_j73 K v_this_lastSigns v1 f2 f3 f_this_said)) n13_31 f22 f23 f24 f25 f26 f27 f28 f29 x30 x31 = some o) (H : Heap) (locs : List Loc) (ls : Array Slot), zW D A s H locs (wd_X8_find cI cJ cZ a_this a_this_board a_this_area a_this_x0 a_this_y0 a_this_x1 a_this_y1 a_this_head a_this_said a_this_low a_this_high a_this_least a_this_price a_this_way a_this_lineFirst a_this_lineLast a_this_left a_this_pile a_this_rest a_this_read a_this_measure a_this_wentBack v_this_run (-1) v_this_lastSigns v_this_dirt v_this_time v1 v_this_notSign v_this_notKind v_this_measureMany f_this_board f22 f23 f24 f25 f26 f27 f_this_said f2 f3 f28 f29) → lv_has ls 4 [(0, .ref a_this), (1, .int x30), (2, .int x31)] → W p l e (headSpec gs_X8_find rm_X8_find).room s m args below meth c H locs 0 0 Q (F0 m 13 ls []) := by
    intro n13_31
    induction n13_31 with
    | zero => intro f22 f23 f24 f25 f26 f27 f28 f29 x30 x31 h; exact z_no h
    | succ n13_31 ih_13 =>
      intro f22 f23 f24 f25 f26 f27 f28 f29 x30 x31 h H locs ls hw hl
      replace h : (p_X8_find_l13 v_this_lastSigns v1 f_this_said f2 f3 K (p_X8_find_j73 K v_this_lastSigns v1 f2 f3 f_this_said)) (z_lp10 (p_X8_find_l13 v_this_lastSigns v1 f_this_said f2 f3 K (p_X8_find_j73 K v_this_lastSigns v1 f2 f3 f_this_said)) n13_31) f22 f23 f24 f25 f26 f27 f28 f29 x30 x31 = some o := h
      refine lv_iload_n S.1 S.2.1 dX8_find_13 rfl (lv_at hl 2 rfl) ?_
      refine lv_bipush (v := 60) S.1 S.2.1 dX8_find_14 (by decide) ?_
      refine z_icmp_ge S (tgt := 73) h dX8_find_16 (by decide) (fun h => ?_) (fun h => ?_)
      · exact J_73 f22 f23 f24 f25 f26 f27 f28 f29 x30 h _ _ ls hw (lv_sub hl [0, 1] rfl)
      · refine lv_iconst (v := 0) S.1 S.2.1 dX8_find_19 (by decide) ?_
        refine lv_istore_n (lv' := [(3, .int 0), (0, .ref a_this), (1, .int x30), (2, .int x31)]) S.1 S.2.1 dX8_find_20 rfl hl (by decide) rfl (fun ls hl => ?_)
        have L_21 : ∀ (n21_41 : Nat) (f32 : Nat → Int32) (f33 : Nat → Int32) (f34 : Nat → Int32) (f35 : Nat → Int32) (f36 : Nat → Int32) (f37 : Nat → Int32) (f38 : Nat → Int64) (f39 : Nat → Int32) (x40 : Int32) (x41 : Int32) (h : z_lp10 (p_X8_find_l21 x31 v_this_lastSigns v1 f_this_said f2 f3 K (z_lp10 (p_X8_find_l13 v_this_lastSigns v1 f_this_said f2 f3 K (p_X8_find_j73 K v_this_lastSigns v1 f2 f3 f_this_said)) n13_31)) n21_41 f32 f33 f34 f35 f36 f37 f38 f39 x40 x41 = some o) (H : Heap) (locs : List Loc) (ls : Array Slot), zW D A s H locs (wd_X8_find cI cJ cZ a_this a_this_board a_this_area a_this_x0 a_this_y0 a_this_x1 a_this_y1 a_this_head a_this_said a_this_low a_this_high a_this_least a_this_price a_this_way a_this_lineFirst a_this_lineLast a_this_left a_this_pile a_this_rest a_this_read a_this_measure a_this_wentBack v_this_run (-1) v_this_lastSigns v_this_dirt v_this_time v1 v_this_notSign v_this_notKind v_this_measureMany f_this_board f32 f33 f34 f35 f36 f37 f_this_said f2 f3 f38 f39) → lv_has ls 4 [(0, .ref a_this), (1, .int x40), (2, .int x31), (3, .int x41)] → W p l e (headSpec gs_X8_find rm_X8_find).room s m args below meth c H locs 0 0 Q (F0 m 21 ls []) := by
          intro n21_41
          induction n21_41 with
          | zero => intro f32 f33 f34 f35 f36 f37 f38 f39 x40 x41 h; exact z_no h
          | succ n21_41 ih_21 =>
            intro f32 f33 f34 f35 f36 f37 f38 f39 x40 x41 h H locs ls hw hl
            replace h : (p_X8_find_l21 x31 v_this_lastSigns v1 f_this_said f2 f3 K (z_lp10 (p_X8_find_l13 v_this_lastSigns v1 f_this_said f2 f3 K (p_X8_find_j73 K v_this_lastSigns v1 f2 f3 f_this_said)) n13_31)) (z_lp10 (p_X8_find_l21 x31 v_this_lastSigns v1 f_this_said f2 f3 K (z_lp10 (p_X8_find_l13 v_this_lastSigns v1 f_this_said f2 f3 K (p_X8_find_j73 K v_this_lastSigns v1 f2 f3 f_this_said)) n13_31)) n21_41) f32 f33 f34 f35 f36 f37 f38 f39 x40 x41 = some o := h
            refine lv_iload_n S.1 S.2.1 dX8_find_21 rfl (lv_at hl 3 rfl) ?_
            refine lv_bipush (v := 32) S.1 S.2.1 dX8_find_22 (by decide) ?_
            refine z_icmp_ge S (tgt := 67) h dX8_find_24 (by decide) (fun h => ?_) (fun h => ?_)
            · refine z_iinc S (i := 2) (k := 2) (v := x31 + 1) hl rfl (by decide) rfl (fun v => (2, .int v) :: [(0, .ref a_this), (1, .int x40), (3, .int x41)]) (fun _ => rfl) h dX8_find_67 (fun y42 ls hl h => ?_)
              replace hl : lv_has ls 4 [(2, .int y42), (0, .ref a_this), (1, .int x40), (3, .int x41)] := hl
              refine lv_goto (tgt := 13) S.1 S.2.1 dX8_find_70 (by decide) ?_
              exact ih_13 f32 f33 f34 f35 f36 f37 f38 f39 x40 y42 h _ _ ls hw (lv_sub hl [1, 2, 0] rfl)
            · refine lv_aload_n S.1 S.2.1 dX8_find_27 rfl (lv_at hl 0 rfl) ?_
              refine z_get S (C := RX8) (T := TX8) (N := 30) (gi gu_X8) hK hw 0 rfl rfl 21 (Nat.le_of_ble_eq_true rfl) (List.mem_cons_of_mem _ gw_732) rfl dX8_find_28 ?_
              refine lv_iload_n S.1 S.2.1 dX8_find_31 rfl (lv_at hl 3 rfl) ?_
              refine z_lald S hK hw 11 1 rfl rfl h dX8_find_32 (fun y43 h => ?_)
              refine lv_iload_n S.1 S.2.1 dX8_find_33 rfl (lv_at hl 2 rfl) ?_
              refine lv_lshr (v := ((y43 >>> (x31.toInt64 &&& 63)))) S.1 S.2.1 dX8_find_34 rfl ?_
              refine lv_lconst (v := 1) S.1 S.2.1 dX8_find_35 (by decide) ?_
              refine lv_land S.1 S.2.1 dX8_find_36 ?_
              refine lv_lconst (v := 1) S.1 S.2.1 dX8_find_37 (by decide) ?_
              refine W.lcmp S.1 S.2.1 dX8_find_38 ?_
              refine z_if_ne S (tgt := 61) h dX8_find_39 (by decide) (fun h => ?_) (fun h => ?_)
              · refine z_iinc S (i := 3) (k := 3) (v := x41 + 1) hl rfl (by decide) rfl (fun v => (3, .int v) :: [(0, .ref a_this), (1, .int x40), (2, .int x31)]) (fun _ => rfl) h dX8_find_61 (fun y44 ls hl h => ?_)
                replace hl : lv_has ls 4 [(3, .int y44), (0, .ref a_this), (1, .int x40), (2, .int x31)] := hl
                refine lv_goto (tgt := 21) S.1 S.2.1 dX8_find_64 (by decide) ?_
                exact ih_21 f32 f33 f34 f35 f36 f37 f38 f39 x40 y44 h _ _ ls hw (lv_sub hl [1, 2, 3, 0] rfl)
              · refine lv_iload_n S.1 S.2.1 dX8_find_42 rfl (lv_at hl 1 rfl) ?_
                refine lv_bipush (v := 40) S.1 S.2.1 dX8_find_43 (by decide) ?_
                refine z_icmp_ne S (tgt := 51) h dX8_find_45 (by decide) (fun h => ?_) (fun h => ?_)
                · refine lv_aload_n S.1 S.2.1 dX8_find_51 rfl (lv_at hl 0 rfl) ?_
                  refine lv_iload_n S.1 S.2.1 dX8_find_52 rfl (lv_at hl 2 rfl) ?_
                  refine lv_iload_n S.1 S.2.1 dX8_find_53 rfl (lv_at hl 3 rfl) ?_
                  refine lv_iload_n S.1 S.2.1 dX8_find_54 rfl (lv_at hl 1 rfl) ?_
                  obtain ⟨f45, f46, f47, f48, f49, f50, f51, f52, hc, h⟩ := z_b8_e h
                  refine z_callVv (As := [.int x31, .int x41, .int x40]) (rest := []) S (c_X8_spread l D cI cJ cZ a_this a_this_board a_this_area a_this_x0 a_this_y0 a_this_x1 a_this_y1 a_this_head a_this_said a_this_low a_this_high a_this_least a_this_price a_this_way a_this_lineFirst a_this_lineLast a_this_left a_this_pile a_this_rest a_this_read a_this_measure a_this_wentBack v_this_run (-1) v_this_lastSigns v_this_dirt v_this_time v1 v_this_notSign v_this_notKind v_this_measureMany f32 f33 f34 f35 f36 f37 f38 f39 K x31 x41 x40 _ hc) (cwV 3 S.2.2.2.2 (gw_V gw_858 gw_860 gw_35 gw_58 gw_861) rfl rfl rfl hd_X8_spread ⟨Nat.le_of_ble_eq_true rfl, Nat.le_of_ble_eq_true rfl⟩) hK hA hw [0, 2, 3, 4, 5, 6, 7, 11, 12] (by decide) rfl rfl (some 0 :: none :: some 1 :: some 2 :: some 3 :: some 4 :: some 5 :: some 6 :: none :: none :: none :: some 7 :: some 8 :: []) rfl (by decide) 0 rfl rfl hl.1 rfl rfl (lv_room (Nat.le_of_ble_eq_true rfl)) ⟨Nat.zero_le _, Nat.zero_le _⟩ dX8_find_55 (fun H locs hw => ?_)
                  replace hw : zW D A s H locs (wd_X8_find cI cJ cZ a_this a_this_board a_this_area a_this_x0 a_this_y0 a_this_x1 a_this_y1 a_this_head a_this_said a_this_low a_this_high a_this_least a_this_price a_this_way a_this_lineFirst a_this_lineLast a_this_left a_this_pile a_this_rest a_this_read a_this_measure a_this_wentBack v_this_run (-1) v_this_lastSigns v_this_dirt v_this_time v1 v_this_notSign v_this_notKind v_this_measureMany f_this_board f45 f46 f47 f48 f49 f50 f_this_said f2 f3 f51 f52) := hw
                  refine z_iinc S (i := 1) (k := 1) (v := x40 + 1) hl rfl (by decide) rfl (fun v => (1, .int v) :: [(0, .ref a_this), (2, .int x31), (3, .int x41)]) (fun _ => rfl) h dX8_find_58 (fun y53 ls hl h => ?_)
                  replace hl : lv_has ls 4 [(1, .int y53), (0, .ref a_this), (2, .int x31), (3, .int x41)] := hl
                  refine z_iinc S (i := 3) (k := 3) (v := x41 + 1) hl rfl (by decide) rfl (fun v => (3, .int v) :: [(1, .int y53), (0, .ref a_this), (2, .int x31)]) (fun _ => rfl) h dX8_find_61 (fun y54 ls hl h => ?_)
                  replace hl : lv_has ls 4 [(3, .int y54), (1, .int y53), (0, .ref a_this), (2, .int x31)] := hl
                  refine lv_goto (tgt := 21) S.1 S.2.1 dX8_find_64 (by decide) ?_
                  exact ih_21 f45 f46 f47 f48 f49 f50 f51 f52 y53 y54 h _ _ ls hw (lv_sub hl [2, 1, 3, 0] rfl)
                · refine lv_bipush (v := (-4)) S.1 S.2.1 dX8_find_48 (by decide) ?_
                  exact ret ((-4), (-1), v_this_lastSigns, v1, f32, f33, f34, f35, f36, f37, f_this_said, f2, f3, f38, f39) h 50 ls _ _ dX8_find_50 hw
        exact L_21 K f22 f23 f24 f25 f26 f27 f28 f29 x30 0 h _ _ ls hw (lv_sub hl [1, 2, 3, 0] rfl)
  exact L_13 K f_this_area f_this_x0 f_this_y0 f_this_x1 f_this_y1 f_this_head f4 f_this_pile 0 0 h _ _ ls hw (lv_sub hl [2, 1, 0] rfl)
def gs_X8_stepOf : List Cond := Cond.code yX8_stepOf cX8_stepOf 5 (some .int) :: GW
def wd_X8_stepOf (cI cJ cZ : ClassId) (a_this a_this_board a_this_area a_this_x0 a_this_y0 a_this_x1 a_this_y1 a_this_head a_this_said a_this_low a_this_high a_this_least a_this_price a_this_way a_this_lineFirst a_this_lineLast a_this_left a_this_pile a_this_rest a_this_read a_this_measure a_this_wentBack : Nat) (v_this_run : Int32) (v_this_signs : Int32) (v_this_lastSigns : Int32) (v_this_dirt : Int32) (v_this_time : Int32) (v_this_lineMany : Int32) (v_this_notSign : Int32) (v_this_notKind : Int32) (v_this_measureMany : Int32) (f_this_board : Nat → Int64) (f_this_y0 : Nat → Int32) (f_this_y1 : Nat → Int32) (f_this_lineFirst : Nat → Int32) (f_this_lineLast : Nat → Int32) : va_W := [(a_this, .inr (8, [.ref a_this_board, .int v_this_run, .int v_this_signs, .int v_this_lastSigns, .ref a_this_area, .ref a_this_x0, .ref a_this_y0, .ref a_this_x1, .ref a_this_y1, .ref a_this_head, .ref a_this_said, .ref a_this_low, .ref a_this_high, .ref a_this_least, .ref a_this_price, .int v_this_dirt, .int v_this_time, .ref a_this_way, .int v_this_lineMany, .ref a_this_lineFirst, .ref a_this_lineLast, .ref a_this_left, .ref a_this_pile, .ref a_this_rest, .int v_this_notSign, .int v_this_notKind, .ref a_this_read, .ref a_this_measure, .int v_this_measureMany, .ref a_this_wentBack])), (a_this_board, .inl (cJ, 32, .inr (.inl f_this_board))), (a_this_y0, .inl (cI, 40, .inl f_this_y0)), (a_this_y1, .inl (cI, 40, .inl f_this_y1)), (a_this_lineFirst, .inl (cI, 32, .inl f_this_lineFirst)), (a_this_lineLast, .inl (cI, 32, .inl f_this_lineLast))]
abbrev rm_X8_stepOf : Room := { frames := 5, cells := 0, slots := 0, locals := 114 }
theorem hd_X8_stepOf : yX8_stepOf.cls = RX8 ∧ yX8_stepOf.cls ≠ "java/lang/invoke/MethodHandle" ∧ yX8_stepOf.cls ≠ "java/lang/invoke/VarHandle" ∧ (parseMethodDescriptor yX8_stepOf.desc).map (fun d => d.parameters.length) = some 1 := by decide +kernel
set_option maxHeartbeats 4000000 in
set_option maxRecDepth 100000 in
theorem c_X8_stepOf (l : Launch) (D : va_G) (cI cJ cZ : ClassId) (a_this a_this_board a_this_area a_this_x0 a_this_y0 a_this_x1 a_this_y1 a_this_head a_this_said a_this_low a_this_high a_this_least a_this_price a_this_way a_this_lineFirst a_this_lineLast a_this_left a_this_pile a_this_rest a_this_read a_this_measure a_this_wentBack : Nat) (v_this_run : Int32) (v_this_signs : Int32) (v_this_lastSigns : Int32) (v_this_dirt : Int32) (v_this_time : Int32) (v_this_lineMany : Int32) (v_this_notSign : Int32) (v_this_notKind : Int32) (v_this_measureMany : Int32) (f_this_board : Nat → Int64) (f_this_y0 : Nat → Int32) (f_this_y1 : Nat → Int32) (f_this_lineFirst : Nat → Int32) (f_this_lineLast : Nat → Int32) (K : Nat) (i1 : Int32) (o : Int32 × Int32 × (Nat → Int32) × (Nat → Int32)) (h : p_X8_stepOf K v_this_run v_this_lineMany f_this_board f_this_y0 f_this_y1 f_this_lineFirst f_this_lineLast i1 = some o) : zMi l D (zT cI cJ cZ) yX8_stepOf gs_X8_stepOf rm_X8_stepOf [.ref a_this, .int i1] (wd_X8_stepOf cI cJ cZ a_this a_this_board a_this_area a_this_x0 a_this_y0 a_this_x1 a_this_y1 a_this_head a_this_said a_this_low a_this_high a_this_least a_this_price a_this_way a_this_lineFirst a_this_lineLast a_this_left a_this_pile a_this_rest a_this_read a_this_measure a_this_wentBack v_this_run v_this_signs v_this_lastSigns v_this_dirt v_this_time v_this_lineMany v_this_notSign v_this_notKind v_this_measureMany f_this_board f_this_y0 f_this_y1 f_this_lineFirst f_this_lineLast) (wd_X8_stepOf cI cJ cZ a_this a_this_board a_this_area a_this_x0 a_this_y0 a_this_x1 a_this_y1 a_this_head a_this_said a_this_low a_this_high a_this_least a_this_price a_this_way a_this_lineFirst a_this_lineLast a_this_left a_this_pile a_this_rest a_this_read a_this_measure a_this_wentBack v_this_run v_this_signs v_this_lastSigns v_this_dirt v_this_time (o.2.1) v_this_notSign v_this_notKind v_this_measureMany f_this_board f_this_y0 f_this_y1 (o.2.2.1) (o.2.2.2)) (o.1) := by
  refine zMet_i (own := RX8) (fun u : Int32 × Int32 × (Nat → Int32) × (Nat → Int32) => (wd_X8_stepOf cI cJ cZ a_this a_this_board a_this_area a_this_x0 a_this_y0 a_this_x1 a_this_y1 a_this_head a_this_said a_this_low a_this_high a_this_least a_this_price a_this_way a_this_lineFirst a_this_lineLast a_this_left a_this_pile a_this_rest a_this_read a_this_measure a_this_wentBack v_this_run v_this_signs v_this_lastSigns v_this_dirt v_this_time (u.2.1) v_this_notSign v_this_notKind v_this_measureMany f_this_board f_this_y0 f_this_y1 (u.2.2.1) (u.2.2.2))) (fun u : Int32 × Int32 × (Nat → Int32) × (Nat → Int32) => u.1) (by decide) rfl rfl (Nat.le_of_ble_eq_true rfl) ?_
  intro p e s m args below meth c A Q S hK hA hw ret ls hl
  replace hl : lv_has ls 5 [(0, .ref a_this), (1, .int i1)] := hl
  refine lv_aload_n S.1 S.2.1 dX8_stepOf_0 rfl (lv_at hl 0 rfl) ?_
  obtain ⟨y1, v2, f3, f4, hc, h⟩ := z_b4_e h
  refine z_callVi (As := []) (rest := []) S (c_X8_findStaff l D cI cJ cZ a_this a_this_board a_this_area a_this_x0 a_this_y0 a_this_x1 a_this_y1 a_this_head a_this_said a_this_low a_this_high a_this_least a_this_price a_this_way a_this_lineFirst a_this_lineLast a_this_left a_this_pile a_this_rest a_this_read a_this_measure a_this_wentBack v_this_run v_this_signs v_this_lastSigns v_this_dirt v_this_time v_this_lineMany v_this_notSign v_this_notKind v_this_measureMany f_this_board f_this_lineFirst f_this_lineLast K _ hc) (cwV 0 S.2.2.2.2 (gw_V gw_845 gw_847 gw_33 gw_58 gw_848) rfl rfl rfl hd_X8_findStaff ⟨Nat.le_of_ble_eq_true rfl, Nat.le_of_ble_eq_true rfl⟩) hK hA hw [0, 1, 4, 5] (by decide) rfl rfl [some 0, some 1, none, none, some 2, some 3] rfl (by decide) 0 rfl rfl hl.1 rfl rfl (lv_room (Nat.le_of_ble_eq_true rfl)) ⟨Nat.zero_le _, Nat.zero_le _⟩ dX8_stepOf_1 (fun H locs hw => ?_)
  replace hw : zW D A s H locs (wd_X8_stepOf cI cJ cZ a_this a_this_board a_this_area a_this_x0 a_this_y0 a_this_x1 a_this_y1 a_this_head a_this_said a_this_low a_this_high a_this_least a_this_price a_this_way a_this_lineFirst a_this_lineLast a_this_left a_this_pile a_this_rest a_this_read a_this_measure a_this_wentBack v_this_run v_this_signs v_this_lastSigns v_this_dirt v_this_time v2 v_this_notSign v_this_notKind v_this_measureMany f_this_board f_this_y0 f_this_y1 f3 f4) := hw
  refine lv_istore_n (lv' := [(2, .int y1), (0, .ref a_this), (1, .int i1)]) S.1 S.2.1 dX8_stepOf_4 rfl hl (by decide) rfl (fun ls hl => ?_)
  refine lv_iload_n S.1 S.2.1 dX8_stepOf_5 rfl (lv_at hl 0 rfl) ?_
  refine lv_iconst (v := (-1)) S.1 S.2.1 dX8_stepOf_6 (by decide) ?_
  refine z_icmp_ne S (tgt := 14) h dX8_stepOf_7 (by decide) (fun h => ?_) (fun h => ?_)
  · refine lv_iconst (v := 2) S.1 S.2.1 dX8_stepOf_14 (by decide) ?_
    refine lv_aload_n S.1 S.2.1 dX8_stepOf_15 rfl (lv_at hl 1 rfl) ?_
    refine z_get S (C := RX8) (T := TX8) (N := 30) (gi gu_X8) hK hw 0 rfl rfl 20 (Nat.le_of_ble_eq_true rfl) (List.mem_cons_of_mem _ gw_731) rfl dX8_stepOf_16 ?_
    refine lv_iload_n S.1 S.2.1 dX8_stepOf_19 rfl (lv_at hl 0 rfl) ?_
    refine lv_iconst (v := 4) S.1 S.2.1 dX8_stepOf_20 (by decide) ?_
    refine lv_iadd S.1 S.2.1 dX8_stepOf_21 ?_
    refine z_iald S hK hw 5 0 rfl rfl h dX8_stepOf_22 (fun y5 h => ?_)
    refine lv_aload_n S.1 S.2.1 dX8_stepOf_23 rfl (lv_at hl 1 rfl) ?_
    refine z_get S (C := RX8) (T := TX8) (N := 30) (gi gu_X8) hK hw 0 rfl rfl 6 (Nat.le_of_ble_eq_true rfl) (List.mem_cons_of_mem _ gw_717) rfl dX8_stepOf_24 ?_
    refine lv_iload_n S.1 S.2.1 dX8_stepOf_27 rfl (lv_at hl 2 rfl) ?_
    refine z_iald S hK hw 2 0 rfl rfl h dX8_stepOf_28 (fun y6 h => ?_)
    refine lv_aload_n S.1 S.2.1 dX8_stepOf_29 rfl (lv_at hl 1 rfl) ?_
    refine z_get S (C := RX8) (T := TX8) (N := 30) (gi gu_X8) hK hw 0 rfl rfl 8 (Nat.le_of_ble_eq_true rfl) (List.mem_cons_of_mem _ gw_719) rfl dX8_stepOf_30 ?_
    refine lv_iload_n S.1 S.2.1 dX8_stepOf_33 rfl (lv_at hl 2 rfl) ?_
    refine z_iald S hK hw 3 0 rfl rfl h dX8_stepOf_34 (fun y7 h => ?_)
    refine lv_iadd S.1 S.2.1 dX8_stepOf_35 ?_
    refine lv_iconst (v := 2) S.1 S.2.1 dX8_stepOf_36 (by decide) ?_
    refine z_idiv S h dX8_stepOf_37 (fun y8 h => ?_)
    refine lv_isub S.1 S.2.1 dX8_stepOf_38 ?_
    refine lv_imul S.1 S.2.1 dX8_stepOf_39 ?_
    refine z_leti h (fun y9 h => ?_)
    refine lv_istore_n (lv' := [(3, .int y9), (2, .int y1), (0, .ref a_this), (1, .int i1)]) S.1 S.2.1 dX8_stepOf_40 rfl hl (by decide) rfl (fun ls hl => ?_)
    refine lv_aload_n S.1 S.2.1 dX8_stepOf_41 rfl (lv_at hl 2 rfl) ?_
    refine z_get S (C := RX8) (T := TX8) (N := 30) (gi gu_X8) hK hw 0 rfl rfl 19 (Nat.le_of_ble_eq_true rfl) (List.mem_cons_of_mem _ gw_730) rfl dX8_stepOf_42 ?_
    refine lv_iload_n S.1 S.2.1 dX8_stepOf_45 rfl (lv_at hl 1 rfl) ?_
    refine lv_iconst (v := 1) S.1 S.2.1 dX8_stepOf_46 (by decide) ?_
    refine lv_iadd S.1 S.2.1 dX8_stepOf_47 ?_
    refine z_iald S hK hw 4 0 rfl rfl h dX8_stepOf_48 (fun y10 h => ?_)
    refine lv_aload_n S.1 S.2.1 dX8_stepOf_49 rfl (lv_at hl 2 rfl) ?_
    refine z_get S (C := RX8) (T := TX8) (N := 30) (gi gu_X8) hK hw 0 rfl rfl 19 (Nat.le_of_ble_eq_true rfl) (List.mem_cons_of_mem _ gw_730) rfl dX8_stepOf_50 ?_
    refine lv_iload_n S.1 S.2.1 dX8_stepOf_53 rfl (lv_at hl 1 rfl) ?_
    refine z_iald S hK hw 4 0 rfl rfl h dX8_stepOf_54 (fun y11 h => ?_)
    refine lv_isub S.1 S.2.1 dX8_stepOf_55 ?_
    refine z_leti h (fun y12 h => ?_)
    refine lv_istore (lv' := [(4, .int y12), (3, .int y9), (2, .int y1), (0, .ref a_this), (1, .int i1)]) S.1 S.2.1 dX8_stepOf_56 hl (by decide) rfl (fun ls hl => ?_)
    refine lv_iload_n S.1 S.2.1 dX8_stepOf_58 rfl (lv_at hl 1 rfl) ?_
    refine z_if_lt S (tgt := 69) h dX8_stepOf_59 (by decide) (fun h => ?_) (fun h => ?_)
    · refine lv_iload S.1 S.2.1 dX8_stepOf_69 (lv_at hl 0 rfl) ?_
      refine lv_iconst (v := 1) S.1 S.2.1 dX8_stepOf_71 (by decide) ?_
      refine lv_isub S.1 S.2.1 dX8_stepOf_72 ?_
      refine lv_iload_n S.1 S.2.1 dX8_stepOf_73 rfl (lv_at hl 1 rfl) ?_
      refine lv_isub S.1 S.2.1 dX8_stepOf_74 ?_
      refine lv_iload S.1 S.2.1 dX8_stepOf_75 (lv_at hl 0 rfl) ?_
      refine z_idiv S h dX8_stepOf_77 (fun y13 h => ?_)
      refine lv_ineg S.1 S.2.1 dX8_stepOf_78 ?_
      exact ret ((-y13), v2, f3, f4) h 79 ls _ _ dX8_stepOf_79 hw
    · refine lv_iload_n S.1 S.2.1 dX8_stepOf_62 rfl (lv_at hl 1 rfl) ?_
      refine lv_iload S.1 S.2.1 dX8_stepOf_63 (lv_at hl 0 rfl) ?_
      refine z_idiv S h dX8_stepOf_65 (fun y14 h => ?_)
      refine lv_goto (tgt := 79) S.1 S.2.1 dX8_stepOf_66 (by decide) ?_
      exact ret (y14, v2, f3, f4) h 79 ls _ _ dX8_stepOf_79 hw
  · refine lv_sipush (v := (-1001)) S.1 S.2.1 dX8_stepOf_10 (by decide) ?_
    exact ret ((-1001), v2, f3, f4) h 13 ls _ _ dX8_stepOf_13 hw
theorem gw_883 : Cond.methodLink RX8 150 yX8_stepOf ∈ GW := GW_of 883 (by decide +kernel) (by decide +kernel)
theorem gw_886 : Cond.code yX8_stepOf cX8_stepOf 5 (some .int) ∈ GW := GW_of 886 (by decide +kernel) (by decide +kernel)
theorem gw_885 : Cond.instanceMethod yX8_stepOf ∈ GW := GW_of 885 (by decide +kernel) (by decide +kernel)
theorem gw_40 : Cond.selects RX8 yX8_stepOf yX8_stepOf ∈ GW := GW_of 40 (by decide +kernel) (by decide +kernel)
theorem gw_882 : Cond.constant RX8 149 (-2147483648) ∈ GW := GW_of 882 (by decide +kernel) (by decide +kernel)
def gs_X8_sign : List Cond := Cond.code yX8_sign cX8_sign 3 (some .int) :: GW
def wd_X8_sign (cI cJ cZ : ClassId) (a_this a_this_board a_this_area a_this_x0 a_this_y0 a_this_x1 a_this_y1 a_this_head a_this_said a_this_low a_this_high a_this_least a_this_price a_this_way a_this_lineFirst a_this_lineLast a_this_left a_this_pile a_this_rest a_this_read a_this_measure a_this_wentBack : Nat) (v_this_run : Int32) (v_this_signs : Int32) (v_this_lastSigns : Int32) (v_this_dirt : Int32) (v_this_time : Int32) (v_this_lineMany : Int32) (v_this_notSign : Int32) (v_this_notKind : Int32) (v_this_measureMany : Int32) (f_this_board : Nat → Int64) (f_this_area : Nat → Int32) (f_this_x0 : Nat → Int32) (f_this_y0 : Nat → Int32) (f_this_x1 : Nat → Int32) (f_this_y1 : Nat → Int32) (f_this_said : Nat → Int32) (f_this_lineFirst : Nat → Int32) (f_this_lineLast : Nat → Int32) : va_W := [(a_this, .inr (8, [.ref a_this_board, .int v_this_run, .int v_this_signs, .int v_this_lastSigns, .ref a_this_area, .ref a_this_x0, .ref a_this_y0, .ref a_this_x1, .ref a_this_y1, .ref a_this_head, .ref a_this_said, .ref a_this_low, .ref a_this_high, .ref a_this_least, .ref a_this_price, .int v_this_dirt, .int v_this_time, .ref a_this_way, .int v_this_lineMany, .ref a_this_lineFirst, .ref a_this_lineLast, .ref a_this_left, .ref a_this_pile, .ref a_this_rest, .int v_this_notSign, .int v_this_notKind, .ref a_this_read, .ref a_this_measure, .int v_this_measureMany, .ref a_this_wentBack])), (a_this_board, .inl (cJ, 32, .inr (.inl f_this_board))), (a_this_area, .inl (cI, 40, .inl f_this_area)), (a_this_x0, .inl (cI, 40, .inl f_this_x0)), (a_this_y0, .inl (cI, 40, .inl f_this_y0)), (a_this_x1, .inl (cI, 40, .inl f_this_x1)), (a_this_y1, .inl (cI, 40, .inl f_this_y1)), (a_this_said, .inl (cI, 40, .inl f_this_said)), (a_this_lineFirst, .inl (cI, 32, .inl f_this_lineFirst)), (a_this_lineLast, .inl (cI, 32, .inl f_this_lineLast))]
abbrev rm_X8_sign : Room := { frames := 6, cells := 0, slots := 0, locals := 138 }
theorem hd_X8_sign : yX8_sign.cls = RX8 ∧ yX8_sign.cls ≠ "java/lang/invoke/MethodHandle" ∧ yX8_sign.cls ≠ "java/lang/invoke/VarHandle" ∧ (parseMethodDescriptor yX8_sign.desc).map (fun d => d.parameters.length) = some 2 := by decide +kernel
set_option maxHeartbeats 4000000 in
set_option maxRecDepth 100000 in
theorem c_X8_sign (l : Launch) (D : va_G) (cI cJ cZ : ClassId) (a_this a_this_board a_this_area a_this_x0 a_this_y0 a_this_x1 a_this_y1 a_this_head a_this_said a_this_low a_this_high a_this_least a_this_price a_this_way a_this_lineFirst a_this_lineLast a_this_left a_this_pile a_this_rest a_this_read a_this_measure a_this_wentBack : Nat) (v_this_run : Int32) (v_this_signs : Int32) (v_this_lastSigns : Int32) (v_this_dirt : Int32) (v_this_time : Int32) (v_this_lineMany : Int32) (v_this_notSign : Int32) (v_this_notKind : Int32) (v_this_measureMany : Int32) (f_this_board : Nat → Int64) (f_this_area : Nat → Int32) (f_this_x0 : Nat → Int32) (f_this_y0 : Nat → Int32) (f_this_x1 : Nat → Int32) (f_this_y1 : Nat → Int32) (f_this_said : Nat → Int32) (f_this_lineFirst : Nat → Int32) (f_this_lineLast : Nat → Int32) (K : Nat) (i1 : Int32) (i2 : Int32) (o : Int32 × Int32 × (Nat → Int32) × (Nat → Int32)) (h : p_X8_sign K v_this_run v_this_signs v_this_lineMany f_this_board f_this_area f_this_x0 f_this_y0 f_this_x1 f_this_y1 f_this_said f_this_lineFirst f_this_lineLast i1 i2 = some o) : zMi l D (zT cI cJ cZ) yX8_sign gs_X8_sign rm_X8_sign [.ref a_this, .int i1, .int i2] (wd_X8_sign cI cJ cZ a_this a_this_board a_this_area a_this_x0 a_this_y0 a_this_x1 a_this_y1 a_this_head a_this_said a_this_low a_this_high a_this_least a_this_price a_this_way a_this_lineFirst a_this_lineLast a_this_left a_this_pile a_this_rest a_this_read a_this_measure a_this_wentBack v_this_run v_this_signs v_this_lastSigns v_this_dirt v_this_time v_this_lineMany v_this_notSign v_this_notKind v_this_measureMany f_this_board f_this_area f_this_x0 f_this_y0 f_this_x1 f_this_y1 f_this_said f_this_lineFirst f_this_lineLast) (wd_X8_sign cI cJ cZ a_this a_this_board a_this_area a_this_x0 a_this_y0 a_this_x1 a_this_y1 a_this_head a_this_said a_this_low a_this_high a_this_least a_this_price a_this_way a_this_lineFirst a_this_lineLast a_this_left a_this_pile a_this_rest a_this_read a_this_measure a_this_wentBack v_this_run v_this_signs v_this_lastSigns v_this_dirt v_this_time (o.2.1) v_this_notSign v_this_notKind v_this_measureMany f_this_board f_this_area f_this_x0 f_this_y0 f_this_x1 f_this_y1 f_this_said (o.2.2.1) (o.2.2.2)) (o.1) := by
  refine zMet_i (own := RX8) (fun u : Int32 × Int32 × (Nat → Int32) × (Nat → Int32) => (wd_X8_sign cI cJ cZ a_this a_this_board a_this_area a_this_x0 a_this_y0 a_this_x1 a_this_y1 a_this_head a_this_said a_this_low a_this_high a_this_least a_this_price a_this_way a_this_lineFirst a_this_lineLast a_this_left a_this_pile a_this_rest a_this_read a_this_measure a_this_wentBack v_this_run v_this_signs v_this_lastSigns v_this_dirt v_this_time (u.2.1) v_this_notSign v_this_notKind v_this_measureMany f_this_board f_this_area f_this_x0 f_this_y0 f_this_x1 f_this_y1 f_this_said (u.2.2.1) (u.2.2.2))) (fun u : Int32 × Int32 × (Nat → Int32) × (Nat → Int32) => u.1) (by decide) rfl rfl (Nat.le_of_ble_eq_true rfl) ?_
  intro p e s m args below meth c A Q S hK hA hw ret ls hl
  replace hl : lv_has ls 3 [(0, .ref a_this), (1, .int i1), (2, .int i2)] := hl
  refine lv_aload_n S.1 S.2.1 dX8_sign_0 rfl (lv_at hl 0 rfl) ?_
  refine lv_iload_n S.1 S.2.1 dX8_sign_1 rfl (lv_at hl 1 rfl) ?_
  obtain ⟨y1, hc, h⟩ := z_b1_e h
  refine z_callVi (As := [.int i1]) (rest := []) S (c_X8_isSign l D cI cJ cZ a_this a_this_board a_this_area a_this_x0 a_this_y0 a_this_x1 a_this_y1 a_this_head a_this_said a_this_low a_this_high a_this_least a_this_price a_this_way a_this_lineFirst a_this_lineLast a_this_left a_this_pile a_this_rest a_this_read a_this_measure a_this_wentBack v_this_run v_this_signs v_this_lastSigns v_this_dirt v_this_time v_this_lineMany v_this_notSign v_this_notKind v_this_measureMany i1 _ hc) (cwV 1 S.2.2.2.2 (gw_V gw_878 gw_880 gw_39 gw_58 gw_881) rfl rfl rfl hd_X8_isSign ⟨Nat.le_of_ble_eq_true rfl, Nat.le_of_ble_eq_true rfl⟩) hK hA hw [0] (by decide) rfl rfl [some 0, none, none, none, none, none, none, none, none, none] rfl (by decide) 0 rfl rfl hl.1 rfl rfl (lv_room (Nat.le_of_ble_eq_true rfl)) ⟨Nat.zero_le _, Nat.zero_le _⟩ dX8_sign_2 (fun H locs hw => ?_)
  replace hw : zW D A s H locs (wd_X8_sign cI cJ cZ a_this a_this_board a_this_area a_this_x0 a_this_y0 a_this_x1 a_this_y1 a_this_head a_this_said a_this_low a_this_high a_this_least a_this_price a_this_way a_this_lineFirst a_this_lineLast a_this_left a_this_pile a_this_rest a_this_read a_this_measure a_this_wentBack v_this_run v_this_signs v_this_lastSigns v_this_dirt v_this_time v_this_lineMany v_this_notSign v_this_notKind v_this_measureMany f_this_board f_this_area f_this_x0 f_this_y0 f_this_x1 f_this_y1 f_this_said f_this_lineFirst f_this_lineLast) := hw
  refine z_if_ne S (tgt := 11) h dX8_sign_5 (by decide) (fun h => ?_) (fun h => ?_)
  · refine lv_iload_n S.1 S.2.1 dX8_sign_11 rfl (lv_at hl 2 rfl) ?_
    refine z_ife h (fun e12_0 h => ?_) (fun ne12_0 h => ?_)
    · refine lv_tableIn (tgt := 56) S.1 S.2.1 dX8_sign_12 (by rw [e12_0]; decide) (by rw [e12_0]; decide) (by rw [e12_0]; rfl) (by decide) ?_
      refine lv_aload_n S.1 S.2.1 dX8_sign_56 rfl (lv_at hl 0 rfl) ?_
      refine z_get S (C := RX8) (T := TX8) (N := 30) (gi gu_X8) hK hw 0 rfl rfl 4 (Nat.le_of_ble_eq_true rfl) (List.mem_cons_of_mem _ gw_715) rfl dX8_sign_57 ?_
      refine lv_iload_n S.1 S.2.1 dX8_sign_60 rfl (lv_at hl 1 rfl) ?_
      refine z_iald S hK hw 2 0 rfl rfl h dX8_sign_61 (fun y2 h => ?_)
      exact ret (y2, v_this_lineMany, f_this_lineFirst, f_this_lineLast) h 62 ls _ _ dX8_sign_62 hw
    refine z_ife h (fun e12_1 h => ?_) (fun ne12_1 h => ?_)
    · refine lv_tableIn (tgt := 63) S.1 S.2.1 dX8_sign_12 (by rw [e12_1]; decide) (by rw [e12_1]; decide) (by rw [e12_1]; rfl) (by decide) ?_
      refine lv_aload_n S.1 S.2.1 dX8_sign_63 rfl (lv_at hl 0 rfl) ?_
      refine z_get S (C := RX8) (T := TX8) (N := 30) (gi gu_X8) hK hw 0 rfl rfl 5 (Nat.le_of_ble_eq_true rfl) (List.mem_cons_of_mem _ gw_716) rfl dX8_sign_64 ?_
      refine lv_iload_n S.1 S.2.1 dX8_sign_67 rfl (lv_at hl 1 rfl) ?_
      refine z_iald S hK hw 3 0 rfl rfl h dX8_sign_68 (fun y3 h => ?_)
      exact ret (y3, v_this_lineMany, f_this_lineFirst, f_this_lineLast) h 69 ls _ _ dX8_sign_69 hw
    refine z_ife h (fun e12_2 h => ?_) (fun ne12_2 h => ?_)
    · refine lv_tableIn (tgt := 70) S.1 S.2.1 dX8_sign_12 (by rw [e12_2]; decide) (by rw [e12_2]; decide) (by rw [e12_2]; rfl) (by decide) ?_
      refine lv_aload_n S.1 S.2.1 dX8_sign_70 rfl (lv_at hl 0 rfl) ?_
      refine z_get S (C := RX8) (T := TX8) (N := 30) (gi gu_X8) hK hw 0 rfl rfl 6 (Nat.le_of_ble_eq_true rfl) (List.mem_cons_of_mem _ gw_717) rfl dX8_sign_71 ?_
      refine lv_iload_n S.1 S.2.1 dX8_sign_74 rfl (lv_at hl 1 rfl) ?_
      refine z_iald S hK hw 4 0 rfl rfl h dX8_sign_75 (fun y4 h => ?_)
      exact ret (y4, v_this_lineMany, f_this_lineFirst, f_this_lineLast) h 76 ls _ _ dX8_sign_76 hw
    refine z_ife h (fun e12_3 h => ?_) (fun ne12_3 h => ?_)
    · refine lv_tableIn (tgt := 77) S.1 S.2.1 dX8_sign_12 (by rw [e12_3]; decide) (by rw [e12_3]; decide) (by rw [e12_3]; rfl) (by decide) ?_
      refine lv_aload_n S.1 S.2.1 dX8_sign_77 rfl (lv_at hl 0 rfl) ?_
      refine z_get S (C := RX8) (T := TX8) (N := 30) (gi gu_X8) hK hw 0 rfl rfl 7 (Nat.le_of_ble_eq_true rfl) (List.mem_cons_of_mem _ gw_718) rfl dX8_sign_78 ?_
      refine lv_iload_n S.1 S.2.1 dX8_sign_81 rfl (lv_at hl 1 rfl) ?_
      refine z_iald S hK hw 5 0 rfl rfl h dX8_sign_82 (fun y5 h => ?_)
      exact ret (y5, v_this_lineMany, f_this_lineFirst, f_this_lineLast) h 83 ls _ _ dX8_sign_83 hw
    refine z_ife h (fun e12_4 h => ?_) (fun ne12_4 h => ?_)
    · refine lv_tableIn (tgt := 84) S.1 S.2.1 dX8_sign_12 (by rw [e12_4]; decide) (by rw [e12_4]; decide) (by rw [e12_4]; rfl) (by decide) ?_
      refine lv_aload_n S.1 S.2.1 dX8_sign_84 rfl (lv_at hl 0 rfl) ?_
      refine z_get S (C := RX8) (T := TX8) (N := 30) (gi gu_X8) hK hw 0 rfl rfl 8 (Nat.le_of_ble_eq_true rfl) (List.mem_cons_of_mem _ gw_719) rfl dX8_sign_85 ?_
      refine lv_iload_n S.1 S.2.1 dX8_sign_88 rfl (lv_at hl 1 rfl) ?_
      refine z_iald S hK hw 6 0 rfl rfl h dX8_sign_89 (fun y6 h => ?_)
      exact ret (y6, v_this_lineMany, f_this_lineFirst, f_this_lineLast) h 90 ls _ _ dX8_sign_90 hw
    refine z_ife h (fun e12_5 h => ?_) (fun ne12_5 h => ?_)
    · refine lv_tableIn (tgt := 91) S.1 S.2.1 dX8_sign_12 (by rw [e12_5]; decide) (by rw [e12_5]; decide) (by rw [e12_5]; rfl) (by decide) ?_
      refine lv_aload_n S.1 S.2.1 dX8_sign_91 rfl (lv_at hl 0 rfl) ?_
      refine lv_iload_n S.1 S.2.1 dX8_sign_92 rfl (lv_at hl 1 rfl) ?_
      obtain ⟨y7, v8, f9, f10, hc, h⟩ := z_b4_e h
      refine z_callVi (As := [.int i1]) (rest := []) S (c_X8_stepOf l D cI cJ cZ a_this a_this_board a_this_area a_this_x0 a_this_y0 a_this_x1 a_this_y1 a_this_head a_this_said a_this_low a_this_high a_this_least a_this_price a_this_way a_this_lineFirst a_this_lineLast a_this_left a_this_pile a_this_rest a_this_read a_this_measure a_this_wentBack v_this_run v_this_signs v_this_lastSigns v_this_dirt v_this_time v_this_lineMany v_this_notSign v_this_notKind v_this_measureMany f_this_board f_this_y0 f_this_y1 f_this_lineFirst f_this_lineLast K i1 _ hc) (cwV 1 S.2.2.2.2 (gw_V gw_883 gw_885 gw_40 gw_58 gw_886) rfl rfl rfl hd_X8_stepOf ⟨Nat.le_of_ble_eq_true rfl, Nat.le_of_ble_eq_true rfl⟩) hK hA hw [0, 1, 4, 6, 8, 9] (by decide) rfl rfl [some 0, some 1, none, none, some 2, none, some 3, none, some 4, some 5] rfl (by decide) 0 rfl rfl hl.1 rfl rfl (lv_room (Nat.le_of_ble_eq_true rfl)) ⟨Nat.zero_le _, Nat.zero_le _⟩ dX8_sign_93 (fun H locs hw => ?_)
      replace hw : zW D A s H locs (wd_X8_sign cI cJ cZ a_this a_this_board a_this_area a_this_x0 a_this_y0 a_this_x1 a_this_y1 a_this_head a_this_said a_this_low a_this_high a_this_least a_this_price a_this_way a_this_lineFirst a_this_lineLast a_this_left a_this_pile a_this_rest a_this_read a_this_measure a_this_wentBack v_this_run v_this_signs v_this_lastSigns v_this_dirt v_this_time v8 v_this_notSign v_this_notKind v_this_measureMany f_this_board f_this_area f_this_x0 f_this_y0 f_this_x1 f_this_y1 f_this_said f9 f10) := hw
      exact ret (y7, v8, f9, f10) h 96 ls _ _ dX8_sign_96 hw
    refine z_ife h (fun e12_6 h => ?_) (fun ne12_6 h => ?_)
    · refine lv_tableIn (tgt := 97) S.1 S.2.1 dX8_sign_12 (by rw [e12_6]; decide) (by rw [e12_6]; decide) (by rw [e12_6]; rfl) (by decide) ?_
      refine lv_aload_n S.1 S.2.1 dX8_sign_97 rfl (lv_at hl 0 rfl) ?_
      refine z_get S (C := RX8) (T := TX8) (N := 30) (gi gu_X8) hK hw 0 rfl rfl 10 (Nat.le_of_ble_eq_true rfl) (List.mem_cons_of_mem _ gw_721) rfl dX8_sign_98 ?_
      refine lv_iload_n S.1 S.2.1 dX8_sign_101 rfl (lv_at hl 1 rfl) ?_
      refine z_iald S hK hw 7 0 rfl rfl h dX8_sign_102 (fun y11 h => ?_)
      exact ret (y11, v_this_lineMany, f_this_lineFirst, f_this_lineLast) h 103 ls _ _ dX8_sign_103 hw
    have ho_12 : (i2 : Int32).toInt < 0 ∨ 6 < (i2 : Int32).toInt := by
      have q_ne12_0 := lv_neT ne12_0 (a := 0) (by decide)
      have q_ne12_1 := lv_neT ne12_1 (a := 1) (by decide)
      have q_ne12_2 := lv_neT ne12_2 (a := 2) (by decide)
      have q_ne12_3 := lv_neT ne12_3 (a := 3) (by decide)
      have q_ne12_4 := lv_neT ne12_4 (a := 4) (by decide)
      have q_ne12_5 := lv_neT ne12_5 (a := 5) (by decide)
      have q_ne12_6 := lv_neT ne12_6 (a := 6) (by decide)
      omega
    refine lv_tableOut (tgt := 104) S.1 S.2.1 dX8_sign_12 ho_12 (by decide) ?_
    refine lv_ldc (v := (-2147483648)) S.1 S.2.1 S.2.2.2.1 (S.2.2.2.2 _ (List.mem_cons_of_mem _ gw_882)) dX8_sign_104 ?_
    exact ret ((-2147483648), v_this_lineMany, f_this_lineFirst, f_this_lineLast) h 106 ls _ _ dX8_sign_106 hw
  · refine lv_ldc (v := (-2147483648)) S.1 S.2.1 S.2.2.2.1 (S.2.2.2.2 _ (List.mem_cons_of_mem _ gw_882)) dX8_sign_8 ?_
    exact ret ((-2147483648), v_this_lineMany, f_this_lineFirst, f_this_lineLast) h 10 ls _ _ dX8_sign_10 hw
theorem gw_735 : Cond.fieldLink RX8 81 "ScoreReaderModel" "notSign" "I" ∈ GW := GW_of 735 (by decide +kernel) (by decide +kernel)
theorem gw_911 : Cond.constant RX8 154 10000000 ∈ GW := GW_of 911 (by decide +kernel) (by decide +kernel)
theorem gw_736 : Cond.fieldLink RX8 84 "ScoreReaderModel" "notKind" "I" ∈ GW := GW_of 736 (by decide +kernel) (by decide +kernel)
def gs_X8_costOf : List Cond := Cond.code yX8_costOf cX8_costOf 5 (some .int) :: GW
def wd_X8_costOf (cI cJ cZ : ClassId) (a_this a_this_board a_this_area a_this_x0 a_this_y0 a_this_x1 a_this_y1 a_this_head a_this_said a_this_low a_this_high a_this_least a_this_price a_this_way a_this_lineFirst a_this_lineLast a_this_left a_this_pile a_this_rest a_this_read a_this_measure a_this_wentBack : Nat) (v_this_run : Int32) (v_this_signs : Int32) (v_this_lastSigns : Int32) (v_this_dirt : Int32) (v_this_time : Int32) (v_this_lineMany : Int32) (v_this_notSign : Int32) (v_this_notKind : Int32) (v_this_measureMany : Int32) (f_this_area : Nat → Int32) (f_this_y0 : Nat → Int32) (f_this_y1 : Nat → Int32) (f_this_said : Nat → Int32) (f_this_low : Nat → Int32) (f_this_high : Nat → Int32) (f_this_least : Nat → Int32) (f_this_price : Nat → Int32) : va_W := [(a_this, .inr (8, [.ref a_this_board, .int v_this_run, .int v_this_signs, .int v_this_lastSigns, .ref a_this_area, .ref a_this_x0, .ref a_this_y0, .ref a_this_x1, .ref a_this_y1, .ref a_this_head, .ref a_this_said, .ref a_this_low, .ref a_this_high, .ref a_this_least, .ref a_this_price, .int v_this_dirt, .int v_this_time, .ref a_this_way, .int v_this_lineMany, .ref a_this_lineFirst, .ref a_this_lineLast, .ref a_this_left, .ref a_this_pile, .ref a_this_rest, .int v_this_notSign, .int v_this_notKind, .ref a_this_read, .ref a_this_measure, .int v_this_measureMany, .ref a_this_wentBack])), (a_this_area, .inl (cI, 40, .inl f_this_area)), (a_this_y0, .inl (cI, 40, .inl f_this_y0)), (a_this_y1, .inl (cI, 40, .inl f_this_y1)), (a_this_said, .inl (cI, 40, .inl f_this_said)), (a_this_low, .inl (cI, 6, .inl f_this_low)), (a_this_high, .inl (cI, 6, .inl f_this_high)), (a_this_least, .inl (cI, 6, .inl f_this_least)), (a_this_price, .inl (cI, 6, .inl f_this_price))]
abbrev rm_X8_costOf : Room := { frames := 0, cells := 0, slots := 0, locals := 0 }
theorem hd_X8_costOf : yX8_costOf.cls = RX8 ∧ yX8_costOf.cls ≠ "java/lang/invoke/MethodHandle" ∧ yX8_costOf.cls ≠ "java/lang/invoke/VarHandle" ∧ (parseMethodDescriptor yX8_costOf.desc).map (fun d => d.parameters.length) = some 2 := by decide +kernel
set_option maxHeartbeats 4000000 in
set_option maxRecDepth 100000 in
theorem c_X8_costOf (l : Launch) (D : va_G) (cI cJ cZ : ClassId) (a_this a_this_board a_this_area a_this_x0 a_this_y0 a_this_x1 a_this_y1 a_this_head a_this_said a_this_low a_this_high a_this_least a_this_price a_this_way a_this_lineFirst a_this_lineLast a_this_left a_this_pile a_this_rest a_this_read a_this_measure a_this_wentBack : Nat) (v_this_run : Int32) (v_this_signs : Int32) (v_this_lastSigns : Int32) (v_this_dirt : Int32) (v_this_time : Int32) (v_this_lineMany : Int32) (v_this_notSign : Int32) (v_this_notKind : Int32) (v_this_measureMany : Int32) (f_this_area : Nat → Int32) (f_this_y0 : Nat → Int32) (f_this_y1 : Nat → Int32) (f_this_said : Nat → Int32) (f_this_low : Nat → Int32) (f_this_high : Nat → Int32) (f_this_least : Nat → Int32) (f_this_price : Nat → Int32) (i1 : Int32) (i2 : Int32) (o : Int32) (h : p_X8_costOf v_this_dirt v_this_notSign v_this_notKind f_this_area f_this_y0 f_this_y1 f_this_said f_this_low f_this_high f_this_least f_this_price i1 i2 = some o) : zMi l D (zT cI cJ cZ) yX8_costOf gs_X8_costOf rm_X8_costOf [.ref a_this, .int i1, .int i2] (wd_X8_costOf cI cJ cZ a_this a_this_board a_this_area a_this_x0 a_this_y0 a_this_x1 a_this_y1 a_this_head a_this_said a_this_low a_this_high a_this_least a_this_price a_this_way a_this_lineFirst a_this_lineLast a_this_left a_this_pile a_this_rest a_this_read a_this_measure a_this_wentBack v_this_run v_this_signs v_this_lastSigns v_this_dirt v_this_time v_this_lineMany v_this_notSign v_this_notKind v_this_measureMany f_this_area f_this_y0 f_this_y1 f_this_said f_this_low f_this_high f_this_least f_this_price) (wd_X8_costOf cI cJ cZ a_this a_this_board a_this_area a_this_x0 a_this_y0 a_this_x1 a_this_y1 a_this_head a_this_said a_this_low a_this_high a_this_least a_this_price a_this_way a_this_lineFirst a_this_lineLast a_this_left a_this_pile a_this_rest a_this_read a_this_measure a_this_wentBack v_this_run v_this_signs v_this_lastSigns v_this_dirt v_this_time v_this_lineMany v_this_notSign v_this_notKind v_this_measureMany f_this_area f_this_y0 f_this_y1 f_this_said f_this_low f_this_high f_this_least f_this_price) (o) := by
  refine zMet_i (own := RX8) (fun u : Int32 => (wd_X8_costOf cI cJ cZ a_this a_this_board a_this_area a_this_x0 a_this_y0 a_this_x1 a_this_y1 a_this_head a_this_said a_this_low a_this_high a_this_least a_this_price a_this_way a_this_lineFirst a_this_lineLast a_this_left a_this_pile a_this_rest a_this_read a_this_measure a_this_wentBack v_this_run v_this_signs v_this_lastSigns v_this_dirt v_this_time v_this_lineMany v_this_notSign v_this_notKind v_this_measureMany f_this_area f_this_y0 f_this_y1 f_this_said f_this_low f_this_high f_this_least f_this_price)) (fun u : Int32 => u) (by decide) rfl rfl (Nat.le_of_ble_eq_true rfl) ?_
  intro p e s m args below meth c A Q S hK hA hw ret ls hl
  replace hl : lv_has ls 5 [(0, .ref a_this), (1, .int i1), (2, .int i2)] := hl
  refine lv_iload_n S.1 S.2.1 dX8_costOf_0 rfl (lv_at hl 1 rfl) ?_
  refine lv_aload_n S.1 S.2.1 dX8_costOf_1 rfl (lv_at hl 0 rfl) ?_
  refine z_get S (C := RX8) (T := TX8) (N := 30) (gi gu_X8) hK hw 0 rfl rfl 24 (Nat.le_of_ble_eq_true rfl) (List.mem_cons_of_mem _ gw_735) rfl dX8_costOf_2 ?_
  have J_19 : ∀ (h : (p_X8_costOf_j19 f_this_said i1 i2 v_this_dirt f_this_area f_this_low f_this_high f_this_least f_this_y1 f_this_y0 f_this_price) = some o) (H : Heap) (locs : List Loc) (ls : Array Slot), zW D A s H locs (wd_X8_costOf cI cJ cZ a_this a_this_board a_this_area a_this_x0 a_this_y0 a_this_x1 a_this_y1 a_this_head a_this_said a_this_low a_this_high a_this_least a_this_price a_this_way a_this_lineFirst a_this_lineLast a_this_left a_this_pile a_this_rest a_this_read a_this_measure a_this_wentBack v_this_run v_this_signs v_this_lastSigns v_this_dirt v_this_time v_this_lineMany v_this_notSign v_this_notKind v_this_measureMany f_this_area f_this_y0 f_this_y1 f_this_said f_this_low f_this_high f_this_least f_this_price) → lv_has ls 5 [(0, .ref a_this), (1, .int i1), (2, .int i2)] → W p l e (headSpec gs_X8_costOf rm_X8_costOf).room s m args below meth c H locs 0 0 Q (F0 m 19 ls []) := by
    intro h H locs ls hw hl
    refine lv_aload_n S.1 S.2.1 dX8_costOf_19 rfl (lv_at hl 0 rfl) ?_
    refine z_get S (C := RX8) (T := TX8) (N := 30) (gi gu_X8) hK hw 0 rfl rfl 10 (Nat.le_of_ble_eq_true rfl) (List.mem_cons_of_mem _ gw_721) rfl dX8_costOf_20 ?_
    refine lv_iload_n S.1 S.2.1 dX8_costOf_23 rfl (lv_at hl 1 rfl) ?_
    refine z_iald S hK hw 4 0 rfl rfl h dX8_costOf_24 (fun y1 h => ?_)
    refine lv_iconst (v := (-1)) S.1 S.2.1 dX8_costOf_25 (by decide) ?_
    refine z_icmp_eq S (tgt := 46) h dX8_costOf_26 (by decide) (fun h => ?_) (fun h => ?_)
    · refine lv_iload_n S.1 S.2.1 dX8_costOf_46 rfl (lv_at hl 2 rfl) ?_
      refine lv_bipush (v := 6) S.1 S.2.1 dX8_costOf_47 (by decide) ?_
      refine z_icmp_ne S (tgt := 57) h dX8_costOf_49 (by decide) (fun h => ?_) (fun h => ?_)
      · refine lv_aload_n S.1 S.2.1 dX8_costOf_57 rfl (lv_at hl 0 rfl) ?_
        refine z_get S (C := RX8) (T := TX8) (N := 30) (gi gu_X8) hK hw 0 rfl rfl 4 (Nat.le_of_ble_eq_true rfl) (List.mem_cons_of_mem _ gw_715) rfl dX8_costOf_58 ?_
        refine lv_iload_n S.1 S.2.1 dX8_costOf_61 rfl (lv_at hl 1 rfl) ?_
        refine z_iald S hK hw 1 0 rfl rfl h dX8_costOf_62 (fun y2 h => ?_)
        refine lv_aload_n S.1 S.2.1 dX8_costOf_63 rfl (lv_at hl 0 rfl) ?_
        refine z_get S (C := RX8) (T := TX8) (N := 30) (gi gu_X8) hK hw 0 rfl rfl 11 (Nat.le_of_ble_eq_true rfl) (List.mem_cons_of_mem _ gw_722) rfl dX8_costOf_64 ?_
        refine lv_iload_n S.1 S.2.1 dX8_costOf_67 rfl (lv_at hl 2 rfl) ?_
        refine z_iald S hK hw 5 0 rfl rfl h dX8_costOf_68 (fun y3 h => ?_)
        have J_120 : ∀ (z4 : Int32) (h : (p_X8_costOf_j120 f_this_least i2 f_this_y1 i1 f_this_y0 f_this_price) z4 = some o) (H : Heap) (locs : List Loc) (ls : Array Slot), zW D A s H locs (wd_X8_costOf cI cJ cZ a_this a_this_board a_this_area a_this_x0 a_this_y0 a_this_x1 a_this_y1 a_this_head a_this_said a_this_low a_this_high a_this_least a_this_price a_this_way a_this_lineFirst a_this_lineLast a_this_left a_this_pile a_this_rest a_this_read a_this_measure a_this_wentBack v_this_run v_this_signs v_this_lastSigns v_this_dirt v_this_time v_this_lineMany v_this_notSign v_this_notKind v_this_measureMany f_this_area f_this_y0 f_this_y1 f_this_said f_this_low f_this_high f_this_least f_this_price) → lv_has ls 5 [(0, .ref a_this), (1, .int i1), (2, .int i2)] → W p l e (headSpec gs_X8_costOf rm_X8_costOf).room s m args below meth c H locs 0 0 Q (F0 m 120 ls [.int z4]) := by
          intro z4 h H locs ls hw hl
          refine lv_istore_n (lv' := [(3, .int z4), (0, .ref a_this), (1, .int i1), (2, .int i2)]) S.1 S.2.1 dX8_costOf_120 rfl hl (by decide) rfl (fun ls hl => ?_)
          refine lv_aload_n S.1 S.2.1 dX8_costOf_121 rfl (lv_at hl 1 rfl) ?_
          refine z_get S (C := RX8) (T := TX8) (N := 30) (gi gu_X8) hK hw 0 rfl rfl 13 (Nat.le_of_ble_eq_true rfl) (List.mem_cons_of_mem _ gw_724) rfl dX8_costOf_122 ?_
          refine lv_iload_n S.1 S.2.1 dX8_costOf_125 rfl (lv_at hl 3 rfl) ?_
          refine z_iald S hK hw 7 0 rfl rfl h dX8_costOf_126 (fun y5 h => ?_)
          refine lv_aload_n S.1 S.2.1 dX8_costOf_127 rfl (lv_at hl 1 rfl) ?_
          refine z_get S (C := RX8) (T := TX8) (N := 30) (gi gu_X8) hK hw 0 rfl rfl 8 (Nat.le_of_ble_eq_true rfl) (List.mem_cons_of_mem _ gw_719) rfl dX8_costOf_128 ?_
          refine lv_iload_n S.1 S.2.1 dX8_costOf_131 rfl (lv_at hl 2 rfl) ?_
          refine z_iald S hK hw 3 0 rfl rfl h dX8_costOf_132 (fun y6 h => ?_)
          refine lv_aload_n S.1 S.2.1 dX8_costOf_133 rfl (lv_at hl 1 rfl) ?_
          refine z_get S (C := RX8) (T := TX8) (N := 30) (gi gu_X8) hK hw 0 rfl rfl 6 (Nat.le_of_ble_eq_true rfl) (List.mem_cons_of_mem _ gw_717) rfl dX8_costOf_134 ?_
          refine lv_iload_n S.1 S.2.1 dX8_costOf_137 rfl (lv_at hl 2 rfl) ?_
          refine z_iald S hK hw 2 0 rfl rfl h dX8_costOf_138 (fun y7 h => ?_)
          refine lv_isub S.1 S.2.1 dX8_costOf_139 ?_
          refine lv_iconst (v := 1) S.1 S.2.1 dX8_costOf_140 (by decide) ?_
          refine lv_iadd S.1 S.2.1 dX8_costOf_141 ?_
          refine lv_isub S.1 S.2.1 dX8_costOf_142 ?_
          refine z_leti h (fun y8 h => ?_)
          refine lv_istore (lv' := [(4, .int y8), (3, .int z4), (0, .ref a_this), (1, .int i1), (2, .int i2)]) S.1 S.2.1 dX8_costOf_143 hl (by decide) rfl (fun ls hl => ?_)
          refine lv_aload_n S.1 S.2.1 dX8_costOf_145 rfl (lv_at hl 2 rfl) ?_
          refine z_get S (C := RX8) (T := TX8) (N := 30) (gi gu_X8) hK hw 0 rfl rfl 14 (Nat.le_of_ble_eq_true rfl) (List.mem_cons_of_mem _ gw_725) rfl dX8_costOf_146 ?_
          refine lv_iload_n S.1 S.2.1 dX8_costOf_149 rfl (lv_at hl 4 rfl) ?_
          refine z_iald S hK hw 8 0 rfl rfl h dX8_costOf_150 (fun y9 h => ?_)
          refine lv_iload_n S.1 S.2.1 dX8_costOf_151 rfl (lv_at hl 1 rfl) ?_
          refine lv_iadd S.1 S.2.1 dX8_costOf_152 ?_
          refine lv_iload S.1 S.2.1 dX8_costOf_153 (lv_at hl 0 rfl) ?_
          refine z_if_le S (tgt := 165) h dX8_costOf_155 (by decide) (fun h => ?_) (fun h => ?_)
          · refine lv_iconst (v := 0) S.1 S.2.1 dX8_costOf_165 (by decide) ?_
            refine lv_iadd S.1 S.2.1 dX8_costOf_166 ?_
            exact ret ((y9 + z4) + 0) h 167 ls _ _ dX8_costOf_167 hw
          · refine lv_iconst (v := 5) S.1 S.2.1 dX8_costOf_158 (by decide) ?_
            refine lv_iload S.1 S.2.1 dX8_costOf_159 (lv_at hl 0 rfl) ?_
            refine lv_imul S.1 S.2.1 dX8_costOf_161 ?_
            refine lv_goto (tgt := 166) S.1 S.2.1 dX8_costOf_162 (by decide) ?_
            refine lv_iadd S.1 S.2.1 dX8_costOf_166 ?_
            exact ret ((y9 + z4) + (5 * y8)) h 167 ls _ _ dX8_costOf_167 hw
        refine z_icmp_ge S (tgt := 88) h dX8_costOf_69 (by decide) (fun h => ?_) (fun h => ?_)
        · refine lv_aload_n S.1 S.2.1 dX8_costOf_88 rfl (lv_at hl 0 rfl) ?_
          refine z_get S (C := RX8) (T := TX8) (N := 30) (gi gu_X8) hK hw 0 rfl rfl 4 (Nat.le_of_ble_eq_true rfl) (List.mem_cons_of_mem _ gw_715) rfl dX8_costOf_89 ?_
          refine lv_iload_n S.1 S.2.1 dX8_costOf_92 rfl (lv_at hl 1 rfl) ?_
          refine z_iald S hK hw 1 0 rfl rfl h dX8_costOf_93 (fun y10 h => ?_)
          refine lv_aload_n S.1 S.2.1 dX8_costOf_94 rfl (lv_at hl 0 rfl) ?_
          refine z_get S (C := RX8) (T := TX8) (N := 30) (gi gu_X8) hK hw 0 rfl rfl 12 (Nat.le_of_ble_eq_true rfl) (List.mem_cons_of_mem _ gw_723) rfl dX8_costOf_95 ?_
          refine lv_iload_n S.1 S.2.1 dX8_costOf_98 rfl (lv_at hl 2 rfl) ?_
          refine z_iald S hK hw 6 0 rfl rfl h dX8_costOf_99 (fun y11 h => ?_)
          refine z_icmp_le S (tgt := 119) h dX8_costOf_100 (by decide) (fun h => ?_) (fun h => ?_)
          · refine lv_iconst (v := 0) S.1 S.2.1 dX8_costOf_119 (by decide) ?_
            exact J_120 0 h _ _ ls hw (lv_sub hl [0, 1, 2] rfl)
          · refine lv_aload_n S.1 S.2.1 dX8_costOf_103 rfl (lv_at hl 0 rfl) ?_
            refine z_get S (C := RX8) (T := TX8) (N := 30) (gi gu_X8) hK hw 0 rfl rfl 4 (Nat.le_of_ble_eq_true rfl) (List.mem_cons_of_mem _ gw_715) rfl dX8_costOf_104 ?_
            refine lv_iload_n S.1 S.2.1 dX8_costOf_107 rfl (lv_at hl 1 rfl) ?_
            refine z_iald S hK hw 1 0 rfl rfl h dX8_costOf_108 (fun y12 h => ?_)
            refine lv_aload_n S.1 S.2.1 dX8_costOf_109 rfl (lv_at hl 0 rfl) ?_
            refine z_get S (C := RX8) (T := TX8) (N := 30) (gi gu_X8) hK hw 0 rfl rfl 12 (Nat.le_of_ble_eq_true rfl) (List.mem_cons_of_mem _ gw_723) rfl dX8_costOf_110 ?_
            refine lv_iload_n S.1 S.2.1 dX8_costOf_113 rfl (lv_at hl 2 rfl) ?_
            refine z_iald S hK hw 6 0 rfl rfl h dX8_costOf_114 (fun y13 h => ?_)
            refine lv_isub S.1 S.2.1 dX8_costOf_115 ?_
            refine lv_goto (tgt := 120) S.1 S.2.1 dX8_costOf_116 (by decide) ?_
            exact J_120 (y12 - y13) h _ _ ls hw (lv_sub hl [0, 1, 2] rfl)
        · refine lv_aload_n S.1 S.2.1 dX8_costOf_72 rfl (lv_at hl 0 rfl) ?_
          refine z_get S (C := RX8) (T := TX8) (N := 30) (gi gu_X8) hK hw 0 rfl rfl 11 (Nat.le_of_ble_eq_true rfl) (List.mem_cons_of_mem _ gw_722) rfl dX8_costOf_73 ?_
          refine lv_iload_n S.1 S.2.1 dX8_costOf_76 rfl (lv_at hl 2 rfl) ?_
          refine z_iald S hK hw 5 0 rfl rfl h dX8_costOf_77 (fun y14 h => ?_)
          refine lv_aload_n S.1 S.2.1 dX8_costOf_78 rfl (lv_at hl 0 rfl) ?_
          refine z_get S (C := RX8) (T := TX8) (N := 30) (gi gu_X8) hK hw 0 rfl rfl 4 (Nat.le_of_ble_eq_true rfl) (List.mem_cons_of_mem _ gw_715) rfl dX8_costOf_79 ?_
          refine lv_iload_n S.1 S.2.1 dX8_costOf_82 rfl (lv_at hl 1 rfl) ?_
          refine z_iald S hK hw 1 0 rfl rfl h dX8_costOf_83 (fun y15 h => ?_)
          refine lv_isub S.1 S.2.1 dX8_costOf_84 ?_
          refine lv_goto (tgt := 120) S.1 S.2.1 dX8_costOf_85 (by decide) ?_
          exact J_120 (y14 - y15) h _ _ ls hw (lv_sub hl [0, 1, 2] rfl)
      · refine lv_aload_n S.1 S.2.1 dX8_costOf_52 rfl (lv_at hl 0 rfl) ?_
        refine z_get S (C := RX8) (T := TX8) (N := 30) (gi gu_X8) hK hw 0 rfl rfl 15 (Nat.le_of_ble_eq_true rfl) (List.mem_cons_of_mem _ gw_726) rfl dX8_costOf_53 ?_
        exact ret v_this_dirt h 56 ls _ _ dX8_costOf_56 hw
    · refine lv_aload_n S.1 S.2.1 dX8_costOf_29 rfl (lv_at hl 0 rfl) ?_
      refine z_get S (C := RX8) (T := TX8) (N := 30) (gi gu_X8) hK hw 0 rfl rfl 10 (Nat.le_of_ble_eq_true rfl) (List.mem_cons_of_mem _ gw_721) rfl dX8_costOf_30 ?_
      refine lv_iload_n S.1 S.2.1 dX8_costOf_33 rfl (lv_at hl 1 rfl) ?_
      refine z_iald S hK hw 4 0 rfl rfl h dX8_costOf_34 (fun y16 h => ?_)
      refine lv_iload_n S.1 S.2.1 dX8_costOf_35 rfl (lv_at hl 2 rfl) ?_
      refine z_icmp_ne S (tgt := 43) h dX8_costOf_36 (by decide) (fun h => ?_) (fun h => ?_)
      · refine lv_ldc (v := 10000000) S.1 S.2.1 S.2.2.2.1 (S.2.2.2.2 _ (List.mem_cons_of_mem _ gw_911)) dX8_costOf_43 ?_
        exact ret 10000000 h 45 ls _ _ dX8_costOf_45 hw
      · refine lv_iconst (v := 0) S.1 S.2.1 dX8_costOf_39 (by decide) ?_
        refine lv_goto (tgt := 45) S.1 S.2.1 dX8_costOf_40 (by decide) ?_
        exact ret 0 h 45 ls _ _ dX8_costOf_45 hw
  refine z_icmp_ne S (tgt := 19) h dX8_costOf_5 (by decide) (fun h => ?_) (fun h => ?_)
  · exact J_19 h _ _ ls hw (lv_sub hl [0, 1, 2] rfl)
  · refine lv_iload_n S.1 S.2.1 dX8_costOf_8 rfl (lv_at hl 2 rfl) ?_
    refine lv_aload_n S.1 S.2.1 dX8_costOf_9 rfl (lv_at hl 0 rfl) ?_
    refine z_get S (C := RX8) (T := TX8) (N := 30) (gi gu_X8) hK hw 0 rfl rfl 25 (Nat.le_of_ble_eq_true rfl) (List.mem_cons_of_mem _ gw_736) rfl dX8_costOf_10 ?_
    refine z_icmp_ne S (tgt := 19) h dX8_costOf_13 (by decide) (fun h => ?_) (fun h => ?_)
    · exact J_19 h _ _ ls hw (lv_sub hl [0, 1, 2] rfl)
    · refine lv_ldc (v := 10000000) S.1 S.2.1 S.2.2.2.1 (S.2.2.2.2 _ (List.mem_cons_of_mem _ gw_911)) dX8_costOf_16 ?_
      exact ret 10000000 h 18 ls _ _ dX8_costOf_18 hw
theorem gw_916 : Cond.methodLink RX8 155 yX8_costOf ∈ GW := GW_of 916 (by decide +kernel) (by decide +kernel)
theorem gw_919 : Cond.code yX8_costOf cX8_costOf 5 (some .int) ∈ GW := GW_of 919 (by decide +kernel) (by decide +kernel)
theorem gw_918 : Cond.instanceMethod yX8_costOf ∈ GW := GW_of 918 (by decide +kernel) (by decide +kernel)
theorem gw_44 : Cond.selects RX8 yX8_costOf yX8_costOf ∈ GW := GW_of 44 (by decide +kernel) (by decide +kernel)
theorem gw_734 : Cond.fieldLink RX8 78 "ScoreReaderModel" "rest" "[I" ∈ GW := GW_of 734 (by decide +kernel) (by decide +kernel)
theorem gw_920 : Cond.methodLink RX8 159 yX8_restAt ∈ GW := GW_of 920 (by decide +kernel) (by decide +kernel)
theorem gw_922 : Cond.code yX8_restAt cX8_restAt 3 (some .int) ∈ GW := GW_of 922 (by decide +kernel) (by decide +kernel)
theorem gw_921 : Cond.static yX8_restAt ∈ GW := GW_of 921 (by decide +kernel) (by decide +kernel)
theorem gw_923 : Cond.methodLink RX8 163 yX8_timeOf ∈ GW := GW_of 923 (by decide +kernel) (by decide +kernel)
theorem gw_925 : Cond.code yX8_timeOf cX8_timeOf 1 (some .int) ∈ GW := GW_of 925 (by decide +kernel) (by decide +kernel)
theorem gw_924 : Cond.static yX8_timeOf ∈ GW := GW_of 924 (by decide +kernel) (by decide +kernel)
def gs_X8_withKind : List Cond := Cond.code yX8_withKind cX8_withKind 7 (some .int) :: GW
def wd_X8_withKind (cI cJ cZ : ClassId) (a_this a_this_board a_this_area a_this_x0 a_this_y0 a_this_x1 a_this_y1 a_this_head a_this_said a_this_low a_this_high a_this_least a_this_price a_this_way a_this_lineFirst a_this_lineLast a_this_left a_this_pile a_this_rest a_this_read a_this_measure a_this_wentBack : Nat) (v_this_run : Int32) (v_this_signs : Int32) (v_this_lastSigns : Int32) (v_this_dirt : Int32) (v_this_time : Int32) (v_this_lineMany : Int32) (v_this_notSign : Int32) (v_this_notKind : Int32) (v_this_measureMany : Int32) (f_this_area : Nat → Int32) (f_this_y0 : Nat → Int32) (f_this_y1 : Nat → Int32) (f_this_said : Nat → Int32) (f_this_low : Nat → Int32) (f_this_high : Nat → Int32) (f_this_least : Nat → Int32) (f_this_price : Nat → Int32) (f_this_rest : Nat → Int32) : va_W := [(a_this, .inr (8, [.ref a_this_board, .int v_this_run, .int v_this_signs, .int v_this_lastSigns, .ref a_this_area, .ref a_this_x0, .ref a_this_y0, .ref a_this_x1, .ref a_this_y1, .ref a_this_head, .ref a_this_said, .ref a_this_low, .ref a_this_high, .ref a_this_least, .ref a_this_price, .int v_this_dirt, .int v_this_time, .ref a_this_way, .int v_this_lineMany, .ref a_this_lineFirst, .ref a_this_lineLast, .ref a_this_left, .ref a_this_pile, .ref a_this_rest, .int v_this_notSign, .int v_this_notKind, .ref a_this_read, .ref a_this_measure, .int v_this_measureMany, .ref a_this_wentBack])), (a_this_area, .inl (cI, 40, .inl f_this_area)), (a_this_y0, .inl (cI, 40, .inl f_this_y0)), (a_this_y1, .inl (cI, 40, .inl f_this_y1)), (a_this_said, .inl (cI, 40, .inl f_this_said)), (a_this_low, .inl (cI, 6, .inl f_this_low)), (a_this_high, .inl (cI, 6, .inl f_this_high)), (a_this_least, .inl (cI, 6, .inl f_this_least)), (a_this_price, .inl (cI, 6, .inl f_this_price)), (a_this_rest, .inl (cI, 6027, .inl f_this_rest))]
abbrev rm_X8_withKind : Room := { frames := 1, cells := 0, slots := 0, locals := 24 }
theorem hd_X8_withKind : yX8_withKind.cls = RX8 ∧ yX8_withKind.cls ≠ "java/lang/invoke/MethodHandle" ∧ yX8_withKind.cls ≠ "java/lang/invoke/VarHandle" ∧ (parseMethodDescriptor yX8_withKind.desc).map (fun d => d.parameters.length) = some 4 := by decide +kernel
set_option maxHeartbeats 4000000 in
set_option maxRecDepth 100000 in
theorem c_X8_withKind (l : Launch) (D : va_G) (cI cJ cZ : ClassId) (a_this a_this_board a_this_area a_this_x0 a_this_y0 a_this_x1 a_this_y1 a_this_head a_this_said a_this_low a_this_high a_this_least a_this_price a_this_way a_this_lineFirst a_this_lineLast a_this_left a_this_pile a_this_rest a_this_read a_this_measure a_this_wentBack : Nat) (v_this_run : Int32) (v_this_signs : Int32) (v_this_lastSigns : Int32) (v_this_dirt : Int32) (v_this_time : Int32) (v_this_lineMany : Int32) (v_this_notSign : Int32) (v_this_notKind : Int32) (v_this_measureMany : Int32) (f_this_area : Nat → Int32) (f_this_y0 : Nat → Int32) (f_this_y1 : Nat → Int32) (f_this_said : Nat → Int32) (f_this_low : Nat → Int32) (f_this_high : Nat → Int32) (f_this_least : Nat → Int32) (f_this_price : Nat → Int32) (f_this_rest : Nat → Int32) (i1 : Int32) (i2 : Int32) (i3 : Int32) (i4 : Int32) (o : Int32) (h : p_X8_withKind v_this_dirt v_this_time v_this_notSign v_this_notKind f_this_area f_this_y0 f_this_y1 f_this_said f_this_low f_this_high f_this_least f_this_price f_this_rest i1 i2 i3 i4 = some o) : zMi l D (zT cI cJ cZ) yX8_withKind gs_X8_withKind rm_X8_withKind [.ref a_this, .int i1, .int i2, .int i3, .int i4] (wd_X8_withKind cI cJ cZ a_this a_this_board a_this_area a_this_x0 a_this_y0 a_this_x1 a_this_y1 a_this_head a_this_said a_this_low a_this_high a_this_least a_this_price a_this_way a_this_lineFirst a_this_lineLast a_this_left a_this_pile a_this_rest a_this_read a_this_measure a_this_wentBack v_this_run v_this_signs v_this_lastSigns v_this_dirt v_this_time v_this_lineMany v_this_notSign v_this_notKind v_this_measureMany f_this_area f_this_y0 f_this_y1 f_this_said f_this_low f_this_high f_this_least f_this_price f_this_rest) (wd_X8_withKind cI cJ cZ a_this a_this_board a_this_area a_this_x0 a_this_y0 a_this_x1 a_this_y1 a_this_head a_this_said a_this_low a_this_high a_this_least a_this_price a_this_way a_this_lineFirst a_this_lineLast a_this_left a_this_pile a_this_rest a_this_read a_this_measure a_this_wentBack v_this_run v_this_signs v_this_lastSigns v_this_dirt v_this_time v_this_lineMany v_this_notSign v_this_notKind v_this_measureMany f_this_area f_this_y0 f_this_y1 f_this_said f_this_low f_this_high f_this_least f_this_price f_this_rest) (o) := by
  refine zMet_i (own := RX8) (fun u : Int32 => (wd_X8_withKind cI cJ cZ a_this a_this_board a_this_area a_this_x0 a_this_y0 a_this_x1 a_this_y1 a_this_head a_this_said a_this_low a_this_high a_this_least a_this_price a_this_way a_this_lineFirst a_this_lineLast a_this_left a_this_pile a_this_rest a_this_read a_this_measure a_this_wentBack v_this_run v_this_signs v_this_lastSigns v_this_dirt v_this_time v_this_lineMany v_this_notSign v_this_notKind v_this_measureMany f_this_area f_this_y0 f_this_y1 f_this_said f_this_low f_this_high f_this_least f_this_price f_this_rest)) (fun u : Int32 => u) (by decide) rfl rfl (Nat.le_of_ble_eq_true rfl) ?_
  intro p e s m args below meth c A Q S hK hA hw ret ls hl
  replace hl : lv_has ls 7 [(0, .ref a_this), (1, .int i1), (2, .int i2), (3, .int i3), (4, .int i4)] := hl
  refine lv_aload_n S.1 S.2.1 dX8_withKind_0 rfl (lv_at hl 0 rfl) ?_
  refine lv_iload_n S.1 S.2.1 dX8_withKind_1 rfl (lv_at hl 1 rfl) ?_
  refine lv_iload S.1 S.2.1 dX8_withKind_2 (lv_at hl 4 rfl) ?_
  obtain ⟨y1, hc, h⟩ := z_b1_e h
  refine z_callVi (As := [.int i1, .int i4]) (rest := []) S (c_X8_costOf l D cI cJ cZ a_this a_this_board a_this_area a_this_x0 a_this_y0 a_this_x1 a_this_y1 a_this_head a_this_said a_this_low a_this_high a_this_least a_this_price a_this_way a_this_lineFirst a_this_lineLast a_this_left a_this_pile a_this_rest a_this_read a_this_measure a_this_wentBack v_this_run v_this_signs v_this_lastSigns v_this_dirt v_this_time v_this_lineMany v_this_notSign v_this_notKind v_this_measureMany f_this_area f_this_y0 f_this_y1 f_this_said f_this_low f_this_high f_this_least f_this_price i1 i4 _ hc) (cwV 2 S.2.2.2.2 (gw_V gw_916 gw_918 gw_44 gw_58 gw_919) rfl rfl rfl hd_X8_costOf ⟨Nat.le_of_ble_eq_true rfl, Nat.le_of_ble_eq_true rfl⟩) hK hA hw [0, 1, 2, 3, 4, 5, 6, 7, 8] (by decide) rfl rfl [some 0, some 1, some 2, some 3, some 4, some 5, some 6, some 7, some 8, none] rfl (by decide) 0 rfl rfl hl.1 rfl rfl (lv_room (Nat.le_of_ble_eq_true rfl)) ⟨Nat.zero_le _, Nat.zero_le _⟩ dX8_withKind_4 (fun H locs hw => ?_)
  replace hw : zW D A s H locs (wd_X8_withKind cI cJ cZ a_this a_this_board a_this_area a_this_x0 a_this_y0 a_this_x1 a_this_y1 a_this_head a_this_said a_this_low a_this_high a_this_least a_this_price a_this_way a_this_lineFirst a_this_lineLast a_this_left a_this_pile a_this_rest a_this_read a_this_measure a_this_wentBack v_this_run v_this_signs v_this_lastSigns v_this_dirt v_this_time v_this_lineMany v_this_notSign v_this_notKind v_this_measureMany f_this_area f_this_y0 f_this_y1 f_this_said f_this_low f_this_high f_this_least f_this_price f_this_rest) := hw
  refine lv_istore (lv' := [(5, .int y1), (0, .ref a_this), (1, .int i1), (2, .int i2), (3, .int i3), (4, .int i4)]) S.1 S.2.1 dX8_withKind_7 hl (by decide) rfl (fun ls hl => ?_)
  refine lv_iload S.1 S.2.1 dX8_withKind_9 (lv_at hl 0 rfl) ?_
  refine lv_ldc (v := 10000000) S.1 S.2.1 S.2.2.2.1 (S.2.2.2.2 _ (List.mem_cons_of_mem _ gw_911)) dX8_withKind_11 ?_
  refine z_icmp_ne S (tgt := 19) h dX8_withKind_13 (by decide) (fun h => ?_) (fun h => ?_)
  · refine lv_iload S.1 S.2.1 dX8_withKind_19 (lv_at hl 5 rfl) ?_
    refine lv_bipush (v := 6) S.1 S.2.1 dX8_withKind_21 (by decide) ?_
    refine z_icmp_ne S (tgt := 43) h dX8_withKind_23 (by decide) (fun h => ?_) (fun h => ?_)
    · refine lv_iload S.1 S.2.1 dX8_withKind_43 (lv_at hl 5 rfl) ?_
      refine lv_iconst (v := 5) S.1 S.2.1 dX8_withKind_45 (by decide) ?_
      refine z_icmp_ne S (tgt := 83) h dX8_withKind_46 (by decide) (fun h => ?_) (fun h => ?_)
      · refine lv_iload S.1 S.2.1 dX8_withKind_83 (lv_at hl 5 rfl) ?_
        refine lv_iconst (v := 4) S.1 S.2.1 dX8_withKind_85 (by decide) ?_
        have J_109 : ∀ (z2 : Int32) (h : (p_X8_withKind_j109 i2 v_this_time i4 i1 f_this_rest y1) z2 = some o) (H : Heap) (locs : List Loc) (ls : Array Slot), zW D A s H locs (wd_X8_withKind cI cJ cZ a_this a_this_board a_this_area a_this_x0 a_this_y0 a_this_x1 a_this_y1 a_this_head a_this_said a_this_low a_this_high a_this_least a_this_price a_this_way a_this_lineFirst a_this_lineLast a_this_left a_this_pile a_this_rest a_this_read a_this_measure a_this_wentBack v_this_run v_this_signs v_this_lastSigns v_this_dirt v_this_time v_this_lineMany v_this_notSign v_this_notKind v_this_measureMany f_this_area f_this_y0 f_this_y1 f_this_said f_this_low f_this_high f_this_least f_this_price f_this_rest) → lv_has ls 7 [(0, .ref a_this), (1, .int i1), (2, .int i2), (4, .int i4), (5, .int y1)] → W p l e (headSpec gs_X8_withKind rm_X8_withKind).room s m args below meth c H locs 0 0 Q (F0 m 109 ls [.int z2]) := by
          intro z2 h H locs ls hw hl
          refine lv_istore (lv' := [(6, .int z2), (0, .ref a_this), (1, .int i1), (2, .int i2), (4, .int i4), (5, .int y1)]) S.1 S.2.1 dX8_withKind_109 hl (by decide) rfl (fun ls hl => ?_)
          refine lv_iload_n S.1 S.2.1 dX8_withKind_111 rfl (lv_at hl 3 rfl) ?_
          refine lv_iload S.1 S.2.1 dX8_withKind_112 (lv_at hl 0 rfl) ?_
          refine lv_iadd S.1 S.2.1 dX8_withKind_114 ?_
          refine lv_aload_n S.1 S.2.1 dX8_withKind_115 rfl (lv_at hl 1 rfl) ?_
          refine z_get S (C := RX8) (T := TX8) (N := 30) (gi gu_X8) hK hw 0 rfl rfl 16 (Nat.le_of_ble_eq_true rfl) (List.mem_cons_of_mem _ gw_727) rfl dX8_withKind_116 ?_
          refine z_icmp_le S (tgt := 125) h dX8_withKind_119 (by decide) (fun h => ?_) (fun h => ?_)
          · refine lv_iload S.1 S.2.1 dX8_withKind_125 (lv_at hl 5 rfl) ?_
            refine lv_aload_n S.1 S.2.1 dX8_withKind_127 rfl (lv_at hl 1 rfl) ?_
            refine z_get S (C := RX8) (T := TX8) (N := 30) (gi gu_X8) hK hw 0 rfl rfl 23 (Nat.le_of_ble_eq_true rfl) (List.mem_cons_of_mem _ gw_734) rfl dX8_withKind_128 ?_
            refine lv_iload_n S.1 S.2.1 dX8_withKind_131 rfl (lv_at hl 2 rfl) ?_
            refine lv_iconst (v := 1) S.1 S.2.1 dX8_withKind_132 (by decide) ?_
            refine lv_iadd S.1 S.2.1 dX8_withKind_133 ?_
            refine lv_iload_n S.1 S.2.1 dX8_withKind_134 rfl (lv_at hl 3 rfl) ?_
            refine lv_iload S.1 S.2.1 dX8_withKind_135 (lv_at hl 0 rfl) ?_
            refine lv_iadd S.1 S.2.1 dX8_withKind_137 ?_
            refine lv_iload S.1 S.2.1 dX8_withKind_138 (lv_at hl 4 rfl) ?_
            have J_158 : ∀ (z3 : Int32) (h : (p_X8_withKind_j158 i1 i2 z2 f_this_rest y1) z3 = some o) (H : Heap) (locs : List Loc) (ls : Array Slot), zW D A s H locs (wd_X8_withKind cI cJ cZ a_this a_this_board a_this_area a_this_x0 a_this_y0 a_this_x1 a_this_y1 a_this_head a_this_said a_this_low a_this_high a_this_least a_this_price a_this_way a_this_lineFirst a_this_lineLast a_this_left a_this_pile a_this_rest a_this_read a_this_measure a_this_wentBack v_this_run v_this_signs v_this_lastSigns v_this_dirt v_this_time v_this_lineMany v_this_notSign v_this_notKind v_this_measureMany f_this_area f_this_y0 f_this_y1 f_this_said f_this_low f_this_high f_this_least f_this_price f_this_rest) → lv_has ls 7 [] → W p l e (headSpec gs_X8_withKind rm_X8_withKind).room s m args below meth c H locs 0 0 Q (F0 m 158 ls [.int z3, .int (i2 + z2), .int (i1 + 1), .ref a_this_rest, .int y1]) := by
              intro z3 h H locs ls hw hl
              obtain ⟨y4, hc, h⟩ := z_b1_e h
              refine z_callSi (As := [.int (i1 + 1), .int (i2 + z2), .int z3]) (rest := [.ref a_this_rest, .int y1]) S (c_X8_restAt l D cI cJ cZ (i1 + 1) (i2 + z2) z3 _ hc) (va_cwS 3 S.2.2.2.2 (gw_S gw_920 gw_921 gw_58 gw_922) rfl rfl rfl hd_X8_restAt ⟨Nat.le_of_ble_eq_true rfl, Nat.le_of_ble_eq_true rfl⟩) hK hA hw [] (by decide) rfl rfl [none, none, none, none, none, none, none, none, none, none] rfl (by decide) hl.1 rfl rfl (lv_room (Nat.le_of_ble_eq_true rfl)) ⟨Nat.zero_le _, Nat.zero_le _⟩ dX8_withKind_158 (fun H locs hw => ?_)
              replace hw : zW D A s H locs (wd_X8_withKind cI cJ cZ a_this a_this_board a_this_area a_this_x0 a_this_y0 a_this_x1 a_this_y1 a_this_head a_this_said a_this_low a_this_high a_this_least a_this_price a_this_way a_this_lineFirst a_this_lineLast a_this_left a_this_pile a_this_rest a_this_read a_this_measure a_this_wentBack v_this_run v_this_signs v_this_lastSigns v_this_dirt v_this_time v_this_lineMany v_this_notSign v_this_notKind v_this_measureMany f_this_area f_this_y0 f_this_y1 f_this_said f_this_low f_this_high f_this_least f_this_price f_this_rest) := hw
              refine z_iald S hK hw 9 0 rfl rfl h dX8_withKind_161 (fun y5 h => ?_)
              refine lv_iadd S.1 S.2.1 dX8_withKind_162 ?_
              exact ret (y1 + y5) h 163 ls _ _ dX8_withKind_163 hw
            refine z_if_ne S (tgt := 147) h dX8_withKind_140 (by decide) (fun h => ?_) (fun h => ?_)
            · refine lv_iload S.1 S.2.1 dX8_withKind_147 (lv_at hl 4 rfl) ?_
              refine lv_iconst (v := 1) S.1 S.2.1 dX8_withKind_149 (by decide) ?_
              refine z_icmp_ne S (tgt := 157) h dX8_withKind_150 (by decide) (fun h => ?_) (fun h => ?_)
              · refine lv_iconst (v := 0) S.1 S.2.1 dX8_withKind_157 (by decide) ?_
                exact J_158 0 h _ _ ls hw (lv_sub hl [] rfl)
              · refine lv_iconst (v := 2) S.1 S.2.1 dX8_withKind_153 (by decide) ?_
                refine lv_goto (tgt := 158) S.1 S.2.1 dX8_withKind_154 (by decide) ?_
                exact J_158 2 h _ _ ls hw (lv_sub hl [] rfl)
            · refine lv_iconst (v := 1) S.1 S.2.1 dX8_withKind_143 (by decide) ?_
              refine lv_goto (tgt := 158) S.1 S.2.1 dX8_withKind_144 (by decide) ?_
              exact J_158 1 h _ _ ls hw (lv_sub hl [] rfl)
          · refine lv_ldc (v := 10000000) S.1 S.2.1 S.2.2.2.1 (S.2.2.2.2 _ (List.mem_cons_of_mem _ gw_911)) dX8_withKind_122 ?_
            exact ret 10000000 h 124 ls _ _ dX8_withKind_124 hw
        refine z_icmp_ne S (tgt := 104) h dX8_withKind_86 (by decide) (fun h => ?_) (fun h => ?_)
        · refine lv_iload S.1 S.2.1 dX8_withKind_104 (lv_at hl 5 rfl) ?_
          obtain ⟨y6, hc, h⟩ := z_b1_e h
          refine z_callSi (As := [.int i4]) (rest := []) S (c_X8_timeOf l D cI cJ cZ i4 _ hc) (va_cwS 1 S.2.2.2.2 (gw_S gw_923 gw_924 gw_58 gw_925) rfl rfl rfl hd_X8_timeOf ⟨Nat.le_of_ble_eq_true rfl, Nat.le_of_ble_eq_true rfl⟩) hK hA hw [] (by decide) rfl rfl [none, none, none, none, none, none, none, none, none, none] rfl (by decide) hl.1 rfl rfl (lv_room (Nat.le_of_ble_eq_true rfl)) ⟨Nat.zero_le _, Nat.zero_le _⟩ dX8_withKind_106 (fun H locs hw => ?_)
          replace hw : zW D A s H locs (wd_X8_withKind cI cJ cZ a_this a_this_board a_this_area a_this_x0 a_this_y0 a_this_x1 a_this_y1 a_this_head a_this_said a_this_low a_this_high a_this_least a_this_price a_this_way a_this_lineFirst a_this_lineLast a_this_left a_this_pile a_this_rest a_this_read a_this_measure a_this_wentBack v_this_run v_this_signs v_this_lastSigns v_this_dirt v_this_time v_this_lineMany v_this_notSign v_this_notKind v_this_measureMany f_this_area f_this_y0 f_this_y1 f_this_said f_this_low f_this_high f_this_least f_this_price f_this_rest) := hw
          exact J_109 y6 h _ _ ls hw (lv_sub hl [1, 2, 3, 5, 0] rfl)
        · refine lv_iload_n S.1 S.2.1 dX8_withKind_89 rfl (lv_at hl 4 rfl) ?_
          refine z_if_ne S (tgt := 98) h dX8_withKind_90 (by decide) (fun h => ?_) (fun h => ?_)
          · refine lv_iconst (v := 2) S.1 S.2.1 dX8_withKind_98 (by decide) ?_
            refine lv_iload_n S.1 S.2.1 dX8_withKind_99 rfl (lv_at hl 4 rfl) ?_
            refine lv_imul S.1 S.2.1 dX8_withKind_100 ?_
            refine lv_goto (tgt := 109) S.1 S.2.1 dX8_withKind_101 (by decide) ?_
            exact J_109 (2 * i3) h _ _ ls hw (lv_sub hl [1, 2, 3, 5, 0] rfl)
          · refine lv_bipush (v := 100) S.1 S.2.1 dX8_withKind_93 (by decide) ?_
            refine lv_goto (tgt := 109) S.1 S.2.1 dX8_withKind_95 (by decide) ?_
            exact J_109 100 h _ _ ls hw (lv_sub hl [1, 2, 3, 5, 0] rfl)
      · refine lv_iload_n S.1 S.2.1 dX8_withKind_49 rfl (lv_at hl 3 rfl) ?_
        have J_61 : ∀ (h : (p_X8_withKind_j61 i1 f_this_rest y1) = some o) (H : Heap) (locs : List Loc) (ls : Array Slot), zW D A s H locs (wd_X8_withKind cI cJ cZ a_this a_this_board a_this_area a_this_x0 a_this_y0 a_this_x1 a_this_y1 a_this_head a_this_said a_this_low a_this_high a_this_least a_this_price a_this_way a_this_lineFirst a_this_lineLast a_this_left a_this_pile a_this_rest a_this_read a_this_measure a_this_wentBack v_this_run v_this_signs v_this_lastSigns v_this_dirt v_this_time v_this_lineMany v_this_notSign v_this_notKind v_this_measureMany f_this_area f_this_y0 f_this_y1 f_this_said f_this_low f_this_high f_this_least f_this_price f_this_rest) → lv_has ls 7 [(0, .ref a_this), (1, .int i1), (5, .int y1)] → W p l e (headSpec gs_X8_withKind rm_X8_withKind).room s m args below meth c H locs 0 0 Q (F0 m 61 ls []) := by
          intro h H locs ls hw hl
          refine lv_iload S.1 S.2.1 dX8_withKind_61 (lv_at hl 2 rfl) ?_
          refine lv_aload_n S.1 S.2.1 dX8_withKind_63 rfl (lv_at hl 0 rfl) ?_
          refine z_get S (C := RX8) (T := TX8) (N := 30) (gi gu_X8) hK hw 0 rfl rfl 23 (Nat.le_of_ble_eq_true rfl) (List.mem_cons_of_mem _ gw_734) rfl dX8_withKind_64 ?_
          refine lv_iload_n S.1 S.2.1 dX8_withKind_67 rfl (lv_at hl 1 rfl) ?_
          refine lv_iconst (v := 1) S.1 S.2.1 dX8_withKind_68 (by decide) ?_
          refine lv_iadd S.1 S.2.1 dX8_withKind_69 ?_
          refine lv_iconst (v := 0) S.1 S.2.1 dX8_withKind_70 (by decide) ?_
          refine lv_iconst (v := 0) S.1 S.2.1 dX8_withKind_71 (by decide) ?_
          obtain ⟨y7, hc, h⟩ := z_b1_e h
          refine z_callSi (As := [.int (i1 + 1), .int 0, .int 0]) (rest := [.ref a_this_rest, .int y1]) S (c_X8_restAt l D cI cJ cZ (i1 + 1) 0 0 _ hc) (va_cwS 3 S.2.2.2.2 (gw_S gw_920 gw_921 gw_58 gw_922) rfl rfl rfl hd_X8_restAt ⟨Nat.le_of_ble_eq_true rfl, Nat.le_of_ble_eq_true rfl⟩) hK hA hw [] (by decide) rfl rfl [none, none, none, none, none, none, none, none, none, none] rfl (by decide) hl.1 rfl rfl (lv_room (Nat.le_of_ble_eq_true rfl)) ⟨Nat.zero_le _, Nat.zero_le _⟩ dX8_withKind_72 (fun H locs hw => ?_)
          replace hw : zW D A s H locs (wd_X8_withKind cI cJ cZ a_this a_this_board a_this_area a_this_x0 a_this_y0 a_this_x1 a_this_y1 a_this_head a_this_said a_this_low a_this_high a_this_least a_this_price a_this_way a_this_lineFirst a_this_lineLast a_this_left a_this_pile a_this_rest a_this_read a_this_measure a_this_wentBack v_this_run v_this_signs v_this_lastSigns v_this_dirt v_this_time v_this_lineMany v_this_notSign v_this_notKind v_this_measureMany f_this_area f_this_y0 f_this_y1 f_this_said f_this_low f_this_high f_this_least f_this_price f_this_rest) := hw
          refine z_iald S hK hw 9 0 rfl rfl h dX8_withKind_75 (fun y8 h => ?_)
          refine lv_iadd S.1 S.2.1 dX8_withKind_76 ?_
          refine lv_goto (tgt := 82) S.1 S.2.1 dX8_withKind_77 (by decide) ?_
          exact ret (y1 + y8) h 82 ls _ _ dX8_withKind_82 hw
        refine z_if_eq S (tgt := 61) h dX8_withKind_50 (by decide) (fun h => ?_) (fun h => ?_)
        · exact J_61 h _ _ ls hw (lv_sub hl [1, 2, 0] rfl)
        · refine lv_iload_n S.1 S.2.1 dX8_withKind_53 rfl (lv_at hl 3 rfl) ?_
          refine lv_aload_n S.1 S.2.1 dX8_withKind_54 rfl (lv_at hl 1 rfl) ?_
          refine z_get S (C := RX8) (T := TX8) (N := 30) (gi gu_X8) hK hw 0 rfl rfl 16 (Nat.le_of_ble_eq_true rfl) (List.mem_cons_of_mem _ gw_727) rfl dX8_withKind_55 ?_
          refine z_icmp_ne S (tgt := 80) h dX8_withKind_58 (by decide) (fun h => ?_) (fun h => ?_)
          · refine lv_ldc (v := 10000000) S.1 S.2.1 S.2.2.2.1 (S.2.2.2.2 _ (List.mem_cons_of_mem _ gw_911)) dX8_withKind_80 ?_
            exact ret 10000000 h 82 ls _ _ dX8_withKind_82 hw
          · exact J_61 h _ _ ls hw (lv_sub hl [1, 2, 0] rfl)
    · refine lv_iload S.1 S.2.1 dX8_withKind_26 (lv_at hl 0 rfl) ?_
      refine lv_aload_n S.1 S.2.1 dX8_withKind_28 rfl (lv_at hl 1 rfl) ?_
      refine z_get S (C := RX8) (T := TX8) (N := 30) (gi gu_X8) hK hw 0 rfl rfl 23 (Nat.le_of_ble_eq_true rfl) (List.mem_cons_of_mem _ gw_734) rfl dX8_withKind_29 ?_
      refine lv_iload_n S.1 S.2.1 dX8_withKind_32 rfl (lv_at hl 2 rfl) ?_
      refine lv_iconst (v := 1) S.1 S.2.1 dX8_withKind_33 (by decide) ?_
      refine lv_iadd S.1 S.2.1 dX8_withKind_34 ?_
      refine lv_iload_n S.1 S.2.1 dX8_withKind_35 rfl (lv_at hl 3 rfl) ?_
      refine lv_iload_n S.1 S.2.1 dX8_withKind_36 rfl (lv_at hl 4 rfl) ?_
      obtain ⟨y9, hc, h⟩ := z_b1_e h
      refine z_callSi (As := [.int (i1 + 1), .int i2, .int i3]) (rest := [.ref a_this_rest, .int y1]) S (c_X8_restAt l D cI cJ cZ (i1 + 1) i2 i3 _ hc) (va_cwS 3 S.2.2.2.2 (gw_S gw_920 gw_921 gw_58 gw_922) rfl rfl rfl hd_X8_restAt ⟨Nat.le_of_ble_eq_true rfl, Nat.le_of_ble_eq_true rfl⟩) hK hA hw [] (by decide) rfl rfl [none, none, none, none, none, none, none, none, none, none] rfl (by decide) hl.1 rfl rfl (lv_room (Nat.le_of_ble_eq_true rfl)) ⟨Nat.zero_le _, Nat.zero_le _⟩ dX8_withKind_37 (fun H locs hw => ?_)
      replace hw : zW D A s H locs (wd_X8_withKind cI cJ cZ a_this a_this_board a_this_area a_this_x0 a_this_y0 a_this_x1 a_this_y1 a_this_head a_this_said a_this_low a_this_high a_this_least a_this_price a_this_way a_this_lineFirst a_this_lineLast a_this_left a_this_pile a_this_rest a_this_read a_this_measure a_this_wentBack v_this_run v_this_signs v_this_lastSigns v_this_dirt v_this_time v_this_lineMany v_this_notSign v_this_notKind v_this_measureMany f_this_area f_this_y0 f_this_y1 f_this_said f_this_low f_this_high f_this_least f_this_price f_this_rest) := hw
      refine z_iald S hK hw 9 0 rfl rfl h dX8_withKind_40 (fun y10 h => ?_)
      refine lv_iadd S.1 S.2.1 dX8_withKind_41 ?_
      exact ret (y1 + y10) h 42 ls _ _ dX8_withKind_42 hw
  · refine lv_ldc (v := 10000000) S.1 S.2.1 S.2.2.2.1 (S.2.2.2.2 _ (List.mem_cons_of_mem _ gw_911)) dX8_withKind_16 ?_
    exact ret 10000000 h 18 ls _ _ dX8_withKind_18 hw
theorem gw_912 : Cond.methodLink RX8 166 yX8_withKind ∈ GW := GW_of 912 (by decide +kernel) (by decide +kernel)
theorem gw_915 : Cond.code yX8_withKind cX8_withKind 7 (some .int) ∈ GW := GW_of 915 (by decide +kernel) (by decide +kernel)
theorem gw_914 : Cond.instanceMethod yX8_withKind ∈ GW := GW_of 914 (by decide +kernel) (by decide +kernel)
theorem gw_43 : Cond.selects RX8 yX8_withKind yX8_withKind ∈ GW := GW_of 43 (by decide +kernel) (by decide +kernel)
def gs_X8_leastNow : List Cond := Cond.code yX8_leastNow cX8_leastNow 7 (some .int) :: GW
def wd_X8_leastNow (cI cJ cZ : ClassId) (a_this a_this_board a_this_area a_this_x0 a_this_y0 a_this_x1 a_this_y1 a_this_head a_this_said a_this_low a_this_high a_this_least a_this_price a_this_way a_this_lineFirst a_this_lineLast a_this_left a_this_pile a_this_rest a_this_read a_this_measure a_this_wentBack : Nat) (v_this_run : Int32) (v_this_signs : Int32) (v_this_lastSigns : Int32) (v_this_dirt : Int32) (v_this_time : Int32) (v_this_lineMany : Int32) (v_this_notSign : Int32) (v_this_notKind : Int32) (v_this_measureMany : Int32) (f_this_area : Nat → Int32) (f_this_y0 : Nat → Int32) (f_this_y1 : Nat → Int32) (f_this_said : Nat → Int32) (f_this_low : Nat → Int32) (f_this_high : Nat → Int32) (f_this_least : Nat → Int32) (f_this_price : Nat → Int32) (f_this_rest : Nat → Int32) : va_W := [(a_this, .inr (8, [.ref a_this_board, .int v_this_run, .int v_this_signs, .int v_this_lastSigns, .ref a_this_area, .ref a_this_x0, .ref a_this_y0, .ref a_this_x1, .ref a_this_y1, .ref a_this_head, .ref a_this_said, .ref a_this_low, .ref a_this_high, .ref a_this_least, .ref a_this_price, .int v_this_dirt, .int v_this_time, .ref a_this_way, .int v_this_lineMany, .ref a_this_lineFirst, .ref a_this_lineLast, .ref a_this_left, .ref a_this_pile, .ref a_this_rest, .int v_this_notSign, .int v_this_notKind, .ref a_this_read, .ref a_this_measure, .int v_this_measureMany, .ref a_this_wentBack])), (a_this_area, .inl (cI, 40, .inl f_this_area)), (a_this_y0, .inl (cI, 40, .inl f_this_y0)), (a_this_y1, .inl (cI, 40, .inl f_this_y1)), (a_this_said, .inl (cI, 40, .inl f_this_said)), (a_this_low, .inl (cI, 6, .inl f_this_low)), (a_this_high, .inl (cI, 6, .inl f_this_high)), (a_this_least, .inl (cI, 6, .inl f_this_least)), (a_this_price, .inl (cI, 6, .inl f_this_price)), (a_this_rest, .inl (cI, 6027, .inl f_this_rest))]
abbrev rm_X8_leastNow : Room := { frames := 2, cells := 0, slots := 0, locals := 50 }
theorem hd_X8_leastNow : yX8_leastNow.cls = RX8 ∧ yX8_leastNow.cls ≠ "java/lang/invoke/MethodHandle" ∧ yX8_leastNow.cls ≠ "java/lang/invoke/VarHandle" ∧ (parseMethodDescriptor yX8_leastNow.desc).map (fun d => d.parameters.length) = some 0 := by decide +kernel
set_option maxHeartbeats 4000000 in
set_option maxRecDepth 100000 in
theorem c_X8_leastNow (l : Launch) (D : va_G) (cI cJ cZ : ClassId) (a_this a_this_board a_this_area a_this_x0 a_this_y0 a_this_x1 a_this_y1 a_this_head a_this_said a_this_low a_this_high a_this_least a_this_price a_this_way a_this_lineFirst a_this_lineLast a_this_left a_this_pile a_this_rest a_this_read a_this_measure a_this_wentBack : Nat) (v_this_run : Int32) (v_this_signs : Int32) (v_this_lastSigns : Int32) (v_this_dirt : Int32) (v_this_time : Int32) (v_this_lineMany : Int32) (v_this_notSign : Int32) (v_this_notKind : Int32) (v_this_measureMany : Int32) (f_this_area : Nat → Int32) (f_this_y0 : Nat → Int32) (f_this_y1 : Nat → Int32) (f_this_said : Nat → Int32) (f_this_low : Nat → Int32) (f_this_high : Nat → Int32) (f_this_least : Nat → Int32) (f_this_price : Nat → Int32) (f_this_rest : Nat → Int32) (K : Nat) (o : Int32 × (Nat → Int32)) (h : p_X8_leastNow K v_this_signs v_this_dirt v_this_time v_this_notSign v_this_notKind f_this_area f_this_y0 f_this_y1 f_this_said f_this_low f_this_high f_this_least f_this_price f_this_rest = some o) : zMi l D (zT cI cJ cZ) yX8_leastNow gs_X8_leastNow rm_X8_leastNow [.ref a_this] (wd_X8_leastNow cI cJ cZ a_this a_this_board a_this_area a_this_x0 a_this_y0 a_this_x1 a_this_y1 a_this_head a_this_said a_this_low a_this_high a_this_least a_this_price a_this_way a_this_lineFirst a_this_lineLast a_this_left a_this_pile a_this_rest a_this_read a_this_measure a_this_wentBack v_this_run v_this_signs v_this_lastSigns v_this_dirt v_this_time v_this_lineMany v_this_notSign v_this_notKind v_this_measureMany f_this_area f_this_y0 f_this_y1 f_this_said f_this_low f_this_high f_this_least f_this_price f_this_rest) (wd_X8_leastNow cI cJ cZ a_this a_this_board a_this_area a_this_x0 a_this_y0 a_this_x1 a_this_y1 a_this_head a_this_said a_this_low a_this_high a_this_least a_this_price a_this_way a_this_lineFirst a_this_lineLast a_this_left a_this_pile a_this_rest a_this_read a_this_measure a_this_wentBack v_this_run v_this_signs v_this_lastSigns v_this_dirt v_this_time v_this_lineMany v_this_notSign v_this_notKind v_this_measureMany f_this_area f_this_y0 f_this_y1 f_this_said f_this_low f_this_high f_this_least f_this_price (o.2)) (o.1) := by
  refine zMet_i (own := RX8) (fun u : Int32 × (Nat → Int32) => (wd_X8_leastNow cI cJ cZ a_this a_this_board a_this_area a_this_x0 a_this_y0 a_this_x1 a_this_y1 a_this_head a_this_said a_this_low a_this_high a_this_least a_this_price a_this_way a_this_lineFirst a_this_lineLast a_this_left a_this_pile a_this_rest a_this_read a_this_measure a_this_wentBack v_this_run v_this_signs v_this_lastSigns v_this_dirt v_this_time v_this_lineMany v_this_notSign v_this_notKind v_this_measureMany f_this_area f_this_y0 f_this_y1 f_this_said f_this_low f_this_high f_this_least f_this_price (u.2))) (fun u : Int32 × (Nat → Int32) => u.1) (by decide) rfl rfl (Nat.le_of_ble_eq_true rfl) ?_
  intro p e s m args below meth c A Q S hK hA hw ret ls hl
  replace hl : lv_has ls 7 [(0, .ref a_this)] := hl
  refine lv_aload_n S.1 S.2.1 dX8_leastNow_0 rfl (lv_at hl 0 rfl) ?_
  refine z_get S (C := RX8) (T := TX8) (N := 30) (gi gu_X8) hK hw 0 rfl rfl 2 (Nat.le_of_ble_eq_true rfl) (List.mem_cons_of_mem _ gw_713) rfl dX8_leastNow_1 ?_
  refine lv_istore_n (lv' := [(1, .int v_this_signs), (0, .ref a_this)]) S.1 S.2.1 dX8_leastNow_4 rfl hl (by decide) rfl (fun ls hl => ?_)
  have L_5 : ∀ (n5_2 : Nat) (f1 : Nat → Int32) (x2 : Int32) (h : z_lp2 (p_X8_leastNow_l5 v_this_time v_this_signs v_this_dirt v_this_notSign v_this_notKind f_this_area f_this_y0 f_this_y1 f_this_said f_this_low f_this_high f_this_least f_this_price K) n5_2 f1 x2 = some o) (H : Heap) (locs : List Loc) (ls : Array Slot), zW D A s H locs (wd_X8_leastNow cI cJ cZ a_this a_this_board a_this_area a_this_x0 a_this_y0 a_this_x1 a_this_y1 a_this_head a_this_said a_this_low a_this_high a_this_least a_this_price a_this_way a_this_lineFirst a_this_lineLast a_this_left a_this_pile a_this_rest a_this_read a_this_measure a_this_wentBack v_this_run v_this_signs v_this_lastSigns v_this_dirt v_this_time v_this_lineMany v_this_notSign v_this_notKind v_this_measureMany f_this_area f_this_y0 f_this_y1 f_this_said f_this_low f_this_high f_this_least f_this_price f1) → lv_has ls 7 [(0, .ref a_this), (1, .int x2)] → W p l e (headSpec gs_X8_leastNow rm_X8_leastNow).room s m args below meth c H locs 0 0 Q (F0 m 5 ls []) := by
    intro n5_2
    induction n5_2 with
    | zero => intro f1 x2 h; exact z_no h
    | succ n5_2 ih_5 =>
      intro f1 x2 h H locs ls hw hl
      replace h : (p_X8_leastNow_l5 v_this_time v_this_signs v_this_dirt v_this_notSign v_this_notKind f_this_area f_this_y0 f_this_y1 f_this_said f_this_low f_this_high f_this_least f_this_price K) (z_lp2 (p_X8_leastNow_l5 v_this_time v_this_signs v_this_dirt v_this_notSign v_this_notKind f_this_area f_this_y0 f_this_y1 f_this_said f_this_low f_this_high f_this_least f_this_price K) n5_2) f1 x2 = some o := h
      refine lv_iload_n S.1 S.2.1 dX8_leastNow_5 rfl (lv_at hl 1 rfl) ?_
      refine z_if_lt S (tgt := 136) h dX8_leastNow_6 (by decide) (fun h => ?_) (fun h => ?_)
      · refine lv_aload_n S.1 S.2.1 dX8_leastNow_136 rfl (lv_at hl 0 rfl) ?_
        refine z_get S (C := RX8) (T := TX8) (N := 30) (gi gu_X8) hK hw 0 rfl rfl 23 (Nat.le_of_ble_eq_true rfl) (List.mem_cons_of_mem _ gw_734) rfl dX8_leastNow_137 ?_
        refine lv_iconst (v := 0) S.1 S.2.1 dX8_leastNow_140 (by decide) ?_
        refine z_iald S hK hw 9 0 rfl rfl h dX8_leastNow_141 (fun y3 h => ?_)
        exact ret (y3, f1) h 142 ls _ _ dX8_leastNow_142 hw
      · refine lv_iconst (v := 0) S.1 S.2.1 dX8_leastNow_9 (by decide) ?_
        refine lv_istore_n (lv' := [(2, .int 0), (0, .ref a_this), (1, .int x2)]) S.1 S.2.1 dX8_leastNow_10 rfl hl (by decide) rfl (fun ls hl => ?_)
        have L_11 : ∀ (n11_5 : Nat) (f4 : Nat → Int32) (x5 : Int32) (h : z_lp2 (p_X8_leastNow_l11 v_this_time x2 v_this_signs v_this_dirt v_this_notSign v_this_notKind f_this_area f_this_y0 f_this_y1 f_this_said f_this_low f_this_high f_this_least f_this_price K (z_lp2 (p_X8_leastNow_l5 v_this_time v_this_signs v_this_dirt v_this_notSign v_this_notKind f_this_area f_this_y0 f_this_y1 f_this_said f_this_low f_this_high f_this_least f_this_price K) n5_2)) n11_5 f4 x5 = some o) (H : Heap) (locs : List Loc) (ls : Array Slot), zW D A s H locs (wd_X8_leastNow cI cJ cZ a_this a_this_board a_this_area a_this_x0 a_this_y0 a_this_x1 a_this_y1 a_this_head a_this_said a_this_low a_this_high a_this_least a_this_price a_this_way a_this_lineFirst a_this_lineLast a_this_left a_this_pile a_this_rest a_this_read a_this_measure a_this_wentBack v_this_run v_this_signs v_this_lastSigns v_this_dirt v_this_time v_this_lineMany v_this_notSign v_this_notKind v_this_measureMany f_this_area f_this_y0 f_this_y1 f_this_said f_this_low f_this_high f_this_least f_this_price f4) → lv_has ls 7 [(0, .ref a_this), (1, .int x2), (2, .int x5)] → W p l e (headSpec gs_X8_leastNow rm_X8_leastNow).room s m args below meth c H locs 0 0 Q (F0 m 11 ls []) := by
          intro n11_5
          induction n11_5 with
          | zero => intro f4 x5 h; exact z_no h
          | succ n11_5 ih_11 =>
            intro f4 x5 h H locs ls hw hl
            replace h : (p_X8_leastNow_l11 v_this_time x2 v_this_signs v_this_dirt v_this_notSign v_this_notKind f_this_area f_this_y0 f_this_y1 f_this_said f_this_low f_this_high f_this_least f_this_price K (z_lp2 (p_X8_leastNow_l5 v_this_time v_this_signs v_this_dirt v_this_notSign v_this_notKind f_this_area f_this_y0 f_this_y1 f_this_said f_this_low f_this_high f_this_least f_this_price K) n5_2)) (z_lp2 (p_X8_leastNow_l11 v_this_time x2 v_this_signs v_this_dirt v_this_notSign v_this_notKind f_this_area f_this_y0 f_this_y1 f_this_said f_this_low f_this_high f_this_least f_this_price K (z_lp2 (p_X8_leastNow_l5 v_this_time v_this_signs v_this_dirt v_this_notSign v_this_notKind f_this_area f_this_y0 f_this_y1 f_this_said f_this_low f_this_high f_this_least f_this_price K) n5_2)) n11_5) f4 x5 = some o := h
            refine lv_iload_n S.1 S.2.1 dX8_leastNow_11 rfl (lv_at hl 2 rfl) ?_
            refine lv_aload_n S.1 S.2.1 dX8_leastNow_12 rfl (lv_at hl 0 rfl) ?_
            refine z_get S (C := RX8) (T := TX8) (N := 30) (gi gu_X8) hK hw 0 rfl rfl 16 (Nat.le_of_ble_eq_true rfl) (List.mem_cons_of_mem _ gw_727) rfl dX8_leastNow_13 ?_
            refine z_icmp_gt S (tgt := 130) h dX8_leastNow_16 (by decide) (fun h => ?_) (fun h => ?_)
            · refine z_iinc S (i := 1) (k := 1) (v := x2 + (-1)) hl rfl (by decide) (congrArg (fun w => x2 + w) (by decide : Int32.ofInt (-1) = (-1 : Int32))) (fun v => (1, .int v) :: [(0, .ref a_this), (2, .int x5)]) (fun _ => rfl) h dX8_leastNow_130 (fun y6 ls hl h => ?_)
              replace hl : lv_has ls 7 [(1, .int y6), (0, .ref a_this), (2, .int x5)] := hl
              refine lv_goto (tgt := 5) S.1 S.2.1 dX8_leastNow_133 (by decide) ?_
              exact ih_5 f4 y6 h _ _ ls hw (lv_sub hl [1, 0] rfl)
            · refine lv_iconst (v := 0) S.1 S.2.1 dX8_leastNow_19 (by decide) ?_
              refine lv_istore_n (lv' := [(3, .int 0), (0, .ref a_this), (1, .int x2), (2, .int x5)]) S.1 S.2.1 dX8_leastNow_20 rfl hl (by decide) rfl (fun ls hl => ?_)
              have L_21 : ∀ (n21_8 : Nat) (f7 : Nat → Int32) (x8 : Int32) (h : z_lp2 (p_X8_leastNow_l21 x5 x2 v_this_signs v_this_dirt v_this_time v_this_notSign v_this_notKind f_this_area f_this_y0 f_this_y1 f_this_said f_this_low f_this_high f_this_least f_this_price K (z_lp2 (p_X8_leastNow_l11 v_this_time x2 v_this_signs v_this_dirt v_this_notSign v_this_notKind f_this_area f_this_y0 f_this_y1 f_this_said f_this_low f_this_high f_this_least f_this_price K (z_lp2 (p_X8_leastNow_l5 v_this_time v_this_signs v_this_dirt v_this_notSign v_this_notKind f_this_area f_this_y0 f_this_y1 f_this_said f_this_low f_this_high f_this_least f_this_price K) n5_2)) n11_5)) n21_8 f7 x8 = some o) (H : Heap) (locs : List Loc) (ls : Array Slot), zW D A s H locs (wd_X8_leastNow cI cJ cZ a_this a_this_board a_this_area a_this_x0 a_this_y0 a_this_x1 a_this_y1 a_this_head a_this_said a_this_low a_this_high a_this_least a_this_price a_this_way a_this_lineFirst a_this_lineLast a_this_left a_this_pile a_this_rest a_this_read a_this_measure a_this_wentBack v_this_run v_this_signs v_this_lastSigns v_this_dirt v_this_time v_this_lineMany v_this_notSign v_this_notKind v_this_measureMany f_this_area f_this_y0 f_this_y1 f_this_said f_this_low f_this_high f_this_least f_this_price f7) → lv_has ls 7 [(0, .ref a_this), (1, .int x2), (2, .int x5), (3, .int x8)] → W p l e (headSpec gs_X8_leastNow rm_X8_leastNow).room s m args below meth c H locs 0 0 Q (F0 m 21 ls []) := by
                intro n21_8
                induction n21_8 with
                | zero => intro f7 x8 h; exact z_no h
                | succ n21_8 ih_21 =>
                  intro f7 x8 h H locs ls hw hl
                  replace h : (p_X8_leastNow_l21 x5 x2 v_this_signs v_this_dirt v_this_time v_this_notSign v_this_notKind f_this_area f_this_y0 f_this_y1 f_this_said f_this_low f_this_high f_this_least f_this_price K (z_lp2 (p_X8_leastNow_l11 v_this_time x2 v_this_signs v_this_dirt v_this_notSign v_this_notKind f_this_area f_this_y0 f_this_y1 f_this_said f_this_low f_this_high f_this_least f_this_price K (z_lp2 (p_X8_leastNow_l5 v_this_time v_this_signs v_this_dirt v_this_notSign v_this_notKind f_this_area f_this_y0 f_this_y1 f_this_said f_this_low f_this_high f_this_least f_this_price K) n5_2)) n11_5)) (z_lp2 (p_X8_leastNow_l21 x5 x2 v_this_signs v_this_dirt v_this_time v_this_notSign v_this_notKind f_this_area f_this_y0 f_this_y1 f_this_said f_this_low f_this_high f_this_least f_this_price K (z_lp2 (p_X8_leastNow_l11 v_this_time x2 v_this_signs v_this_dirt v_this_notSign v_this_notKind f_this_area f_this_y0 f_this_y1 f_this_said f_this_low f_this_high f_this_least f_this_price K (z_lp2 (p_X8_leastNow_l5 v_this_time v_this_signs v_this_dirt v_this_notSign v_this_notKind f_this_area f_this_y0 f_this_y1 f_this_said f_this_low f_this_high f_this_least f_this_price K) n5_2)) n11_5)) n21_8) f7 x8 = some o := h
                  refine lv_iload_n S.1 S.2.1 dX8_leastNow_21 rfl (lv_at hl 3 rfl) ?_
                  refine lv_iconst (v := 3) S.1 S.2.1 dX8_leastNow_22 (by decide) ?_
                  refine z_icmp_ge S (tgt := 124) h dX8_leastNow_23 (by decide) (fun h => ?_) (fun h => ?_)
                  · refine z_iinc S (i := 2) (k := 2) (v := x5 + 1) hl rfl (by decide) rfl (fun v => (2, .int v) :: [(0, .ref a_this), (1, .int x2), (3, .int x8)]) (fun _ => rfl) h dX8_leastNow_124 (fun y9 ls hl h => ?_)
                    replace hl : lv_has ls 7 [(2, .int y9), (0, .ref a_this), (1, .int x2), (3, .int x8)] := hl
                    refine lv_goto (tgt := 11) S.1 S.2.1 dX8_leastNow_127 (by decide) ?_
                    exact ih_11 f7 y9 h _ _ ls hw (lv_sub hl [1, 2, 0] rfl)
                  · refine lv_iload_n S.1 S.2.1 dX8_leastNow_26 rfl (lv_at hl 1 rfl) ?_
                    refine lv_aload_n S.1 S.2.1 dX8_leastNow_27 rfl (lv_at hl 0 rfl) ?_
                    refine z_get S (C := RX8) (T := TX8) (N := 30) (gi gu_X8) hK hw 0 rfl rfl 2 (Nat.le_of_ble_eq_true rfl) (List.mem_cons_of_mem _ gw_713) rfl dX8_leastNow_28 ?_
                    have J_52 : ∀ (z10 : Int32) (h : (p_X8_leastNow_j52 v_this_signs x2 v_this_dirt v_this_time v_this_notSign v_this_notKind f_this_area f_this_y0 f_this_y1 f_this_said f_this_low f_this_high f_this_least f_this_price f7 x5 x8 K (z_lp2 (p_X8_leastNow_l21 x5 x2 v_this_signs v_this_dirt v_this_time v_this_notSign v_this_notKind f_this_area f_this_y0 f_this_y1 f_this_said f_this_low f_this_high f_this_least f_this_price K (z_lp2 (p_X8_leastNow_l11 v_this_time x2 v_this_signs v_this_dirt v_this_notSign v_this_notKind f_this_area f_this_y0 f_this_y1 f_this_said f_this_low f_this_high f_this_least f_this_price K (z_lp2 (p_X8_leastNow_l5 v_this_time v_this_signs v_this_dirt v_this_notSign v_this_notKind f_this_area f_this_y0 f_this_y1 f_this_said f_this_low f_this_high f_this_least f_this_price K) n5_2)) n11_5)) n21_8)) z10 = some o) (H : Heap) (locs : List Loc) (ls : Array Slot), zW D A s H locs (wd_X8_leastNow cI cJ cZ a_this a_this_board a_this_area a_this_x0 a_this_y0 a_this_x1 a_this_y1 a_this_head a_this_said a_this_low a_this_high a_this_least a_this_price a_this_way a_this_lineFirst a_this_lineLast a_this_left a_this_pile a_this_rest a_this_read a_this_measure a_this_wentBack v_this_run v_this_signs v_this_lastSigns v_this_dirt v_this_time v_this_lineMany v_this_notSign v_this_notKind v_this_measureMany f_this_area f_this_y0 f_this_y1 f_this_said f_this_low f_this_high f_this_least f_this_price f7) → lv_has ls 7 [(0, .ref a_this), (1, .int x2), (2, .int x5), (3, .int x8)] → W p l e (headSpec gs_X8_leastNow rm_X8_leastNow).room s m args below meth c H locs 0 0 Q (F0 m 52 ls [.int z10]) := by
                      intro z10 h H locs ls hw hl
                      refine lv_istore (lv' := [(4, .int z10), (0, .ref a_this), (1, .int x2), (2, .int x5), (3, .int x8)]) S.1 S.2.1 dX8_leastNow_52 hl (by decide) rfl (fun ls hl => ?_)
                      refine lv_iconst (v := 0) S.1 S.2.1 dX8_leastNow_54 (by decide) ?_
                      refine lv_istore (lv' := [(5, .int 0), (4, .int z10), (0, .ref a_this), (1, .int x2), (2, .int x5), (3, .int x8)]) S.1 S.2.1 dX8_leastNow_55 hl (by decide) rfl (fun ls hl => ?_)
                      have J_105 : ∀ (x11 : Int32) (h : (p_X8_leastNow_j105 x2 x5 x8 f7 (z_lp2 (p_X8_leastNow_l21 x5 x2 v_this_signs v_this_dirt v_this_time v_this_notSign v_this_notKind f_this_area f_this_y0 f_this_y1 f_this_said f_this_low f_this_high f_this_least f_this_price K (z_lp2 (p_X8_leastNow_l11 v_this_time x2 v_this_signs v_this_dirt v_this_notSign v_this_notKind f_this_area f_this_y0 f_this_y1 f_this_said f_this_low f_this_high f_this_least f_this_price K (z_lp2 (p_X8_leastNow_l5 v_this_time v_this_signs v_this_dirt v_this_notSign v_this_notKind f_this_area f_this_y0 f_this_y1 f_this_said f_this_low f_this_high f_this_least f_this_price K) n5_2)) n11_5)) n21_8)) x11 = some o) (H : Heap) (locs : List Loc) (ls : Array Slot), zW D A s H locs (wd_X8_leastNow cI cJ cZ a_this a_this_board a_this_area a_this_x0 a_this_y0 a_this_x1 a_this_y1 a_this_head a_this_said a_this_low a_this_high a_this_least a_this_price a_this_way a_this_lineFirst a_this_lineLast a_this_left a_this_pile a_this_rest a_this_read a_this_measure a_this_wentBack v_this_run v_this_signs v_this_lastSigns v_this_dirt v_this_time v_this_lineMany v_this_notSign v_this_notKind v_this_measureMany f_this_area f_this_y0 f_this_y1 f_this_said f_this_low f_this_high f_this_least f_this_price f7) → lv_has ls 7 [(0, .ref a_this), (1, .int x2), (2, .int x5), (3, .int x8), (4, .int x11)] → W p l e (headSpec gs_X8_leastNow rm_X8_leastNow).room s m args below meth c H locs 0 0 Q (F0 m 105 ls []) := by
                        intro x11 h H locs ls hw hl
                        refine lv_aload_n S.1 S.2.1 dX8_leastNow_105 rfl (lv_at hl 0 rfl) ?_
                        refine z_get S (C := RX8) (T := TX8) (N := 30) (gi gu_X8) hK hw 0 rfl rfl 23 (Nat.le_of_ble_eq_true rfl) (List.mem_cons_of_mem _ gw_734) rfl dX8_leastNow_106 ?_
                        refine lv_iload_n S.1 S.2.1 dX8_leastNow_109 rfl (lv_at hl 1 rfl) ?_
                        refine lv_iload_n S.1 S.2.1 dX8_leastNow_110 rfl (lv_at hl 2 rfl) ?_
                        refine lv_iload_n S.1 S.2.1 dX8_leastNow_111 rfl (lv_at hl 3 rfl) ?_
                        obtain ⟨y12, hc, h⟩ := z_b1_e h
                        refine z_callSi (As := [.int x2, .int x5, .int x8]) (rest := [.ref a_this_rest]) S (c_X8_restAt l D cI cJ cZ x2 x5 x8 _ hc) (va_cwS 3 S.2.2.2.2 (gw_S gw_920 gw_921 gw_58 gw_922) rfl rfl rfl hd_X8_restAt ⟨Nat.le_of_ble_eq_true rfl, Nat.le_of_ble_eq_true rfl⟩) hK hA hw [] (by decide) rfl rfl [none, none, none, none, none, none, none, none, none, none] rfl (by decide) hl.1 rfl rfl (lv_room (Nat.le_of_ble_eq_true rfl)) ⟨Nat.zero_le _, Nat.zero_le _⟩ dX8_leastNow_112 (fun H locs hw => ?_)
                        replace hw : zW D A s H locs (wd_X8_leastNow cI cJ cZ a_this a_this_board a_this_area a_this_x0 a_this_y0 a_this_x1 a_this_y1 a_this_head a_this_said a_this_low a_this_high a_this_least a_this_price a_this_way a_this_lineFirst a_this_lineLast a_this_left a_this_pile a_this_rest a_this_read a_this_measure a_this_wentBack v_this_run v_this_signs v_this_lastSigns v_this_dirt v_this_time v_this_lineMany v_this_notSign v_this_notKind v_this_measureMany f_this_area f_this_y0 f_this_y1 f_this_said f_this_low f_this_high f_this_least f_this_price f7) := hw
                        refine lv_iload S.1 S.2.1 dX8_leastNow_115 (lv_at hl 4 rfl) ?_
                        refine z_iast S hK hw 9 0 rfl rfl h dX8_leastNow_117 (fun f13 H locs hw h => ?_)
                        replace hw : zW D A s H locs (wd_X8_leastNow cI cJ cZ a_this a_this_board a_this_area a_this_x0 a_this_y0 a_this_x1 a_this_y1 a_this_head a_this_said a_this_low a_this_high a_this_least a_this_price a_this_way a_this_lineFirst a_this_lineLast a_this_left a_this_pile a_this_rest a_this_read a_this_measure a_this_wentBack v_this_run v_this_signs v_this_lastSigns v_this_dirt v_this_time v_this_lineMany v_this_notSign v_this_notKind v_this_measureMany f_this_area f_this_y0 f_this_y1 f_this_said f_this_low f_this_high f_this_least f_this_price f13) := hw
                        refine z_iinc S (i := 3) (k := 3) (v := x8 + 1) hl rfl (by decide) rfl (fun v => (3, .int v) :: [(0, .ref a_this), (1, .int x2), (2, .int x5), (4, .int x11)]) (fun _ => rfl) h dX8_leastNow_118 (fun y14 ls hl h => ?_)
                        replace hl : lv_has ls 7 [(3, .int y14), (0, .ref a_this), (1, .int x2), (2, .int x5), (4, .int x11)] := hl
                        refine lv_goto (tgt := 21) S.1 S.2.1 dX8_leastNow_121 (by decide) ?_
                        exact ih_21 f13 y14 h _ _ ls hw (lv_sub hl [1, 2, 3, 0] rfl)
                      have L_57 : ∀ (n57_16 : Nat) (x15 : Int32) (x16 : Int32) (h : z_lp2 (p_X8_leastNow_l57 v_this_signs x2 v_this_dirt v_this_time v_this_notSign v_this_notKind f_this_area f_this_y0 f_this_y1 f_this_said f_this_low f_this_high f_this_least f_this_price f7 x5 x8 (p_X8_leastNow_j105 x2 x5 x8 f7 (z_lp2 (p_X8_leastNow_l21 x5 x2 v_this_signs v_this_dirt v_this_time v_this_notSign v_this_notKind f_this_area f_this_y0 f_this_y1 f_this_said f_this_low f_this_high f_this_least f_this_price K (z_lp2 (p_X8_leastNow_l11 v_this_time x2 v_this_signs v_this_dirt v_this_notSign v_this_notKind f_this_area f_this_y0 f_this_y1 f_this_said f_this_low f_this_high f_this_least f_this_price K (z_lp2 (p_X8_leastNow_l5 v_this_time v_this_signs v_this_dirt v_this_notSign v_this_notKind f_this_area f_this_y0 f_this_y1 f_this_said f_this_low f_this_high f_this_least f_this_price K) n5_2)) n11_5)) n21_8))) n57_16 x15 x16 = some o) (H : Heap) (locs : List Loc) (ls : Array Slot), zW D A s H locs (wd_X8_leastNow cI cJ cZ a_this a_this_board a_this_area a_this_x0 a_this_y0 a_this_x1 a_this_y1 a_this_head a_this_said a_this_low a_this_high a_this_least a_this_price a_this_way a_this_lineFirst a_this_lineLast a_this_left a_this_pile a_this_rest a_this_read a_this_measure a_this_wentBack v_this_run v_this_signs v_this_lastSigns v_this_dirt v_this_time v_this_lineMany v_this_notSign v_this_notKind v_this_measureMany f_this_area f_this_y0 f_this_y1 f_this_said f_this_low f_this_high f_this_least f_this_price f7) → lv_has ls 7 [(0, .ref a_this), (1, .int x2), (2, .int x5), (3, .int x8), (4, .int x15), (5, .int x16)] → W p l e (headSpec gs_X8_leastNow rm_X8_leastNow).room s m args below meth c H locs 0 0 Q (F0 m 57 ls []) := by
                        intro n57_16
                        induction n57_16 with
                        | zero => intro x15 x16 h; exact z_no h
                        | succ n57_16 ih_57 =>
                          intro x15 x16 h H locs ls hw hl
                          replace h : (p_X8_leastNow_l57 v_this_signs x2 v_this_dirt v_this_time v_this_notSign v_this_notKind f_this_area f_this_y0 f_this_y1 f_this_said f_this_low f_this_high f_this_least f_this_price f7 x5 x8 (p_X8_leastNow_j105 x2 x5 x8 f7 (z_lp2 (p_X8_leastNow_l21 x5 x2 v_this_signs v_this_dirt v_this_time v_this_notSign v_this_notKind f_this_area f_this_y0 f_this_y1 f_this_said f_this_low f_this_high f_this_least f_this_price K (z_lp2 (p_X8_leastNow_l11 v_this_time x2 v_this_signs v_this_dirt v_this_notSign v_this_notKind f_this_area f_this_y0 f_this_y1 f_this_said f_this_low f_this_high f_this_least f_this_price K (z_lp2 (p_X8_leastNow_l5 v_this_time v_this_signs v_this_dirt v_this_notSign v_this_notKind f_this_area f_this_y0 f_this_y1 f_this_said f_this_low f_this_high f_this_least f_this_price K) n5_2)) n11_5)) n21_8))) (z_lp2 (p_X8_leastNow_l57 v_this_signs x2 v_this_dirt v_this_time v_this_notSign v_this_notKind f_this_area f_this_y0 f_this_y1 f_this_said f_this_low f_this_high f_this_least f_this_price f7 x5 x8 (p_X8_leastNow_j105 x2 x5 x8 f7 (z_lp2 (p_X8_leastNow_l21 x5 x2 v_this_signs v_this_dirt v_this_time v_this_notSign v_this_notKind f_this_area f_this_y0 f_this_y1 f_this_said f_this_low f_this_high f_this_least f_this_price K (z_lp2 (p_X8_leastNow_l11 v_this_time x2 v_this_signs v_this_dirt v_this_notSign v_this_notKind f_this_area f_this_y0 f_this_y1 f_this_said f_this_low f_this_high f_this_least f_this_price K (z_lp2 (p_X8_leastNow_l5 v_this_time v_this_signs v_this_dirt v_this_notSign v_this_notKind f_this_area f_this_y0 f_this_y1 f_this_said f_this_low f_this_high f_this_least f_this_price K) n5_2)) n11_5)) n21_8))) n57_16) x15 x16 = some o := h
                          refine lv_iload S.1 S.2.1 dX8_leastNow_57 (lv_at hl 5 rfl) ?_
                          refine lv_bipush (v := 6) S.1 S.2.1 dX8_leastNow_59 (by decide) ?_
                          refine z_icmp_gt S (tgt := 105) h dX8_leastNow_61 (by decide) (fun h => ?_) (fun h => ?_)
                          · exact J_105 x15 h _ _ ls hw (lv_sub hl [0, 1, 2, 3, 4] rfl)
                          · refine lv_iload_n S.1 S.2.1 dX8_leastNow_64 rfl (lv_at hl 1 rfl) ?_
                            refine lv_aload_n S.1 S.2.1 dX8_leastNow_65 rfl (lv_at hl 0 rfl) ?_
                            refine z_get S (C := RX8) (T := TX8) (N := 30) (gi gu_X8) hK hw 0 rfl rfl 2 (Nat.le_of_ble_eq_true rfl) (List.mem_cons_of_mem _ gw_713) rfl dX8_leastNow_66 ?_
                            refine z_icmp_ge S (tgt := 105) h dX8_leastNow_69 (by decide) (fun h => ?_) (fun h => ?_)
                            · exact J_105 x15 h _ _ ls hw (lv_sub hl [0, 1, 2, 3, 4] rfl)
                            · refine lv_aload_n S.1 S.2.1 dX8_leastNow_72 rfl (lv_at hl 0 rfl) ?_
                              refine lv_iload_n S.1 S.2.1 dX8_leastNow_73 rfl (lv_at hl 1 rfl) ?_
                              refine lv_iload_n S.1 S.2.1 dX8_leastNow_74 rfl (lv_at hl 2 rfl) ?_
                              refine lv_iload_n S.1 S.2.1 dX8_leastNow_75 rfl (lv_at hl 3 rfl) ?_
                              refine lv_iload S.1 S.2.1 dX8_leastNow_76 (lv_at hl 5 rfl) ?_
                              obtain ⟨y17, hc, h⟩ := z_b1_e h
                              refine z_callVi (As := [.int x2, .int x5, .int x8, .int x16]) (rest := []) S (c_X8_withKind l D cI cJ cZ a_this a_this_board a_this_area a_this_x0 a_this_y0 a_this_x1 a_this_y1 a_this_head a_this_said a_this_low a_this_high a_this_least a_this_price a_this_way a_this_lineFirst a_this_lineLast a_this_left a_this_pile a_this_rest a_this_read a_this_measure a_this_wentBack v_this_run v_this_signs v_this_lastSigns v_this_dirt v_this_time v_this_lineMany v_this_notSign v_this_notKind v_this_measureMany f_this_area f_this_y0 f_this_y1 f_this_said f_this_low f_this_high f_this_least f_this_price f7 x2 x5 x8 x16 _ hc) (cwV 4 S.2.2.2.2 (gw_V gw_912 gw_914 gw_43 gw_58 gw_915) rfl rfl rfl hd_X8_withKind ⟨Nat.le_of_ble_eq_true rfl, Nat.le_of_ble_eq_true rfl⟩) hK hA hw [0, 1, 2, 3, 4, 5, 6, 7, 8, 9] (by decide) rfl rfl [some 0, some 1, some 2, some 3, some 4, some 5, some 6, some 7, some 8, some 9] rfl (by decide) 0 rfl rfl hl.1 rfl rfl (lv_room (Nat.le_of_ble_eq_true rfl)) ⟨Nat.zero_le _, Nat.zero_le _⟩ dX8_leastNow_78 (fun H locs hw => ?_)
                              replace hw : zW D A s H locs (wd_X8_leastNow cI cJ cZ a_this a_this_board a_this_area a_this_x0 a_this_y0 a_this_x1 a_this_y1 a_this_head a_this_said a_this_low a_this_high a_this_least a_this_price a_this_way a_this_lineFirst a_this_lineLast a_this_left a_this_pile a_this_rest a_this_read a_this_measure a_this_wentBack v_this_run v_this_signs v_this_lastSigns v_this_dirt v_this_time v_this_lineMany v_this_notSign v_this_notKind v_this_measureMany f_this_area f_this_y0 f_this_y1 f_this_said f_this_low f_this_high f_this_least f_this_price f7) := hw
                              refine lv_istore (lv' := [(6, .int y17), (0, .ref a_this), (1, .int x2), (2, .int x5), (3, .int x8), (4, .int x15), (5, .int x16)]) S.1 S.2.1 dX8_leastNow_81 hl (by decide) rfl (fun ls hl => ?_)
                              refine lv_iload S.1 S.2.1 dX8_leastNow_83 (lv_at hl 0 rfl) ?_
                              refine lv_iload S.1 S.2.1 dX8_leastNow_85 (lv_at hl 5 rfl) ?_
                              refine z_icmp_ge S (tgt := 95) h dX8_leastNow_87 (by decide) (fun h => ?_) (fun h => ?_)
                              · refine lv_iload S.1 S.2.1 dX8_leastNow_95 (lv_at hl 5 rfl) ?_
                                refine lv_istore (lv' := [(4, .int x15), (6, .int y17), (0, .ref a_this), (1, .int x2), (2, .int x5), (3, .int x8), (5, .int x16)]) S.1 S.2.1 dX8_leastNow_97 hl (by decide) rfl (fun ls hl => ?_)
                                refine z_iinc S (i := 5) (k := 6) (v := x16 + 1) hl rfl (by decide) rfl (fun v => (5, .int v) :: [(4, .int x15), (6, .int y17), (0, .ref a_this), (1, .int x2), (2, .int x5), (3, .int x8)]) (fun _ => rfl) h dX8_leastNow_99 (fun y18 ls hl h => ?_)
                                replace hl : lv_has ls 7 [(5, .int y18), (4, .int x15), (6, .int y17), (0, .ref a_this), (1, .int x2), (2, .int x5), (3, .int x8)] := hl
                                refine lv_goto (tgt := 57) S.1 S.2.1 dX8_leastNow_102 (by decide) ?_
                                exact ih_57 x15 y18 h _ _ ls hw (lv_sub hl [3, 4, 5, 6, 1, 0] rfl)
                              · refine lv_iload S.1 S.2.1 dX8_leastNow_90 (lv_at hl 0 rfl) ?_
                                refine lv_goto (tgt := 97) S.1 S.2.1 dX8_leastNow_92 (by decide) ?_
                                refine lv_istore (lv' := [(4, .int y17), (6, .int y17), (0, .ref a_this), (1, .int x2), (2, .int x5), (3, .int x8), (5, .int x16)]) S.1 S.2.1 dX8_leastNow_97 hl (by decide) rfl (fun ls hl => ?_)
                                refine z_iinc S (i := 5) (k := 6) (v := x16 + 1) hl rfl (by decide) rfl (fun v => (5, .int v) :: [(4, .int y17), (6, .int y17), (0, .ref a_this), (1, .int x2), (2, .int x5), (3, .int x8)]) (fun _ => rfl) h dX8_leastNow_99 (fun y19 ls hl h => ?_)
                                replace hl : lv_has ls 7 [(5, .int y19), (4, .int y17), (6, .int y17), (0, .ref a_this), (1, .int x2), (2, .int x5), (3, .int x8)] := hl
                                refine lv_goto (tgt := 57) S.1 S.2.1 dX8_leastNow_102 (by decide) ?_
                                exact ih_57 y17 y19 h _ _ ls hw (lv_sub hl [3, 4, 5, 6, 1, 0] rfl)
                      exact L_57 K z10 0 h _ _ ls hw (lv_sub hl [2, 3, 4, 5, 1, 0] rfl)
                    have J_50 : ∀ (h : (p_X8_leastNow_j50 (p_X8_leastNow_j52 v_this_signs x2 v_this_dirt v_this_time v_this_notSign v_this_notKind f_this_area f_this_y0 f_this_y1 f_this_said f_this_low f_this_high f_this_least f_this_price f7 x5 x8 K (z_lp2 (p_X8_leastNow_l21 x5 x2 v_this_signs v_this_dirt v_this_time v_this_notSign v_this_notKind f_this_area f_this_y0 f_this_y1 f_this_said f_this_low f_this_high f_this_least f_this_price K (z_lp2 (p_X8_leastNow_l11 v_this_time x2 v_this_signs v_this_dirt v_this_notSign v_this_notKind f_this_area f_this_y0 f_this_y1 f_this_said f_this_low f_this_high f_this_least f_this_price K (z_lp2 (p_X8_leastNow_l5 v_this_time v_this_signs v_this_dirt v_this_notSign v_this_notKind f_this_area f_this_y0 f_this_y1 f_this_said f_this_low f_this_high f_this_least f_this_price K) n5_2)) n11_5)) n21_8))) = some o) (H : Heap) (locs : List Loc) (ls : Array Slot), zW D A s H locs (wd_X8_leastNow cI cJ cZ a_this a_this_board a_this_area a_this_x0 a_this_y0 a_this_x1 a_this_y1 a_this_head a_this_said a_this_low a_this_high a_this_least a_this_price a_this_way a_this_lineFirst a_this_lineLast a_this_left a_this_pile a_this_rest a_this_read a_this_measure a_this_wentBack v_this_run v_this_signs v_this_lastSigns v_this_dirt v_this_time v_this_lineMany v_this_notSign v_this_notKind v_this_measureMany f_this_area f_this_y0 f_this_y1 f_this_said f_this_low f_this_high f_this_least f_this_price f7) → lv_has ls 7 [(0, .ref a_this), (1, .int x2), (2, .int x5), (3, .int x8)] → W p l e (headSpec gs_X8_leastNow rm_X8_leastNow).room s m args below meth c H locs 0 0 Q (F0 m 50 ls []) := by
                      intro h H locs ls hw hl
                      refine lv_ldc (v := 10000000) S.1 S.2.1 S.2.2.2.1 (S.2.2.2.2 _ (List.mem_cons_of_mem _ gw_911)) dX8_leastNow_50 ?_
                      exact J_52 10000000 h _ _ ls hw (lv_sub hl [0, 1, 2, 3] rfl)
                    refine z_icmp_ne S (tgt := 50) h dX8_leastNow_31 (by decide) (fun h => ?_) (fun h => ?_)
                    · exact J_50 h _ _ ls hw (lv_sub hl [0, 1, 2, 3] rfl)
                    · refine lv_iload_n S.1 S.2.1 dX8_leastNow_34 rfl (lv_at hl 2 rfl) ?_
                      have J_46 : ∀ (h : (p_X8_leastNow_j46 (p_X8_leastNow_j52 v_this_signs x2 v_this_dirt v_this_time v_this_notSign v_this_notKind f_this_area f_this_y0 f_this_y1 f_this_said f_this_low f_this_high f_this_least f_this_price f7 x5 x8 K (z_lp2 (p_X8_leastNow_l21 x5 x2 v_this_signs v_this_dirt v_this_time v_this_notSign v_this_notKind f_this_area f_this_y0 f_this_y1 f_this_said f_this_low f_this_high f_this_least f_this_price K (z_lp2 (p_X8_leastNow_l11 v_this_time x2 v_this_signs v_this_dirt v_this_notSign v_this_notKind f_this_area f_this_y0 f_this_y1 f_this_said f_this_low f_this_high f_this_least f_this_price K (z_lp2 (p_X8_leastNow_l5 v_this_time v_this_signs v_this_dirt v_this_notSign v_this_notKind f_this_area f_this_y0 f_this_y1 f_this_said f_this_low f_this_high f_this_least f_this_price K) n5_2)) n11_5)) n21_8))) = some o) (H : Heap) (locs : List Loc) (ls : Array Slot), zW D A s H locs (wd_X8_leastNow cI cJ cZ a_this a_this_board a_this_area a_this_x0 a_this_y0 a_this_x1 a_this_y1 a_this_head a_this_said a_this_low a_this_high a_this_least a_this_price a_this_way a_this_lineFirst a_this_lineLast a_this_left a_this_pile a_this_rest a_this_read a_this_measure a_this_wentBack v_this_run v_this_signs v_this_lastSigns v_this_dirt v_this_time v_this_lineMany v_this_notSign v_this_notKind v_this_measureMany f_this_area f_this_y0 f_this_y1 f_this_said f_this_low f_this_high f_this_least f_this_price f7) → lv_has ls 7 [(0, .ref a_this), (1, .int x2), (2, .int x5), (3, .int x8)] → W p l e (headSpec gs_X8_leastNow rm_X8_leastNow).room s m args below meth c H locs 0 0 Q (F0 m 46 ls []) := by
                        intro h H locs ls hw hl
                        refine lv_iconst (v := 0) S.1 S.2.1 dX8_leastNow_46 (by decide) ?_
                        refine lv_goto (tgt := 52) S.1 S.2.1 dX8_leastNow_47 (by decide) ?_
                        exact J_52 0 h _ _ ls hw (lv_sub hl [0, 1, 2, 3] rfl)
                      refine z_if_eq S (tgt := 46) h dX8_leastNow_35 (by decide) (fun h => ?_) (fun h => ?_)
                      · exact J_46 h _ _ ls hw (lv_sub hl [0, 1, 2, 3] rfl)
                      · refine lv_iload_n S.1 S.2.1 dX8_leastNow_38 rfl (lv_at hl 2 rfl) ?_
                        refine lv_aload_n S.1 S.2.1 dX8_leastNow_39 rfl (lv_at hl 0 rfl) ?_
                        refine z_get S (C := RX8) (T := TX8) (N := 30) (gi gu_X8) hK hw 0 rfl rfl 16 (Nat.le_of_ble_eq_true rfl) (List.mem_cons_of_mem _ gw_727) rfl dX8_leastNow_40 ?_
                        refine z_icmp_ne S (tgt := 50) h dX8_leastNow_43 (by decide) (fun h => ?_) (fun h => ?_)
                        · exact J_50 h _ _ ls hw (lv_sub hl [0, 1, 2, 3] rfl)
                        · exact J_46 h _ _ ls hw (lv_sub hl [0, 1, 2, 3] rfl)
              exact L_21 K f4 0 h _ _ ls hw (lv_sub hl [1, 2, 3, 0] rfl)
        exact L_11 K f1 0 h _ _ ls hw (lv_sub hl [1, 2, 0] rfl)
  exact L_5 K f_this_rest v_this_signs h _ _ ls hw (lv_sub hl [1, 0] rfl)
theorem gw_907 : Cond.methodLink RX8 170 yX8_leastNow ∈ GW := GW_of 907 (by decide +kernel) (by decide +kernel)
theorem gw_910 : Cond.code yX8_leastNow cX8_leastNow 7 (some .int) ∈ GW := GW_of 910 (by decide +kernel) (by decide +kernel)
theorem gw_909 : Cond.instanceMethod yX8_leastNow ∈ GW := GW_of 909 (by decide +kernel) (by decide +kernel)
theorem gw_42 : Cond.selects RX8 yX8_leastNow yX8_leastNow ∈ GW := GW_of 42 (by decide +kernel) (by decide +kernel)
theorem gw_737 : Cond.fieldLink RX8 87 "ScoreReaderModel" "read" "[I" ∈ GW := GW_of 737 (by decide +kernel) (by decide +kernel)
def gs_X8_findBest : List Cond := Cond.code yX8_findBest cX8_findBest 6 (some .int) :: GW
def wd_X8_findBest (cI cJ cZ : ClassId) (a_this a_this_board a_this_area a_this_x0 a_this_y0 a_this_x1 a_this_y1 a_this_head a_this_said a_this_low a_this_high a_this_least a_this_price a_this_way a_this_lineFirst a_this_lineLast a_this_left a_this_pile a_this_rest a_this_read a_this_measure a_this_wentBack : Nat) (v_this_run : Int32) (v_this_signs : Int32) (v_this_lastSigns : Int32) (v_this_dirt : Int32) (v_this_time : Int32) (v_this_lineMany : Int32) (v_this_notSign : Int32) (v_this_notKind : Int32) (v_this_measureMany : Int32) (f_this_area : Nat → Int32) (f_this_y0 : Nat → Int32) (f_this_y1 : Nat → Int32) (f_this_said : Nat → Int32) (f_this_low : Nat → Int32) (f_this_high : Nat → Int32) (f_this_least : Nat → Int32) (f_this_price : Nat → Int32) (f_this_rest : Nat → Int32) (f_this_read : Nat → Int32) : va_W := [(a_this, .inr (8, [.ref a_this_board, .int v_this_run, .int v_this_signs, .int v_this_lastSigns, .ref a_this_area, .ref a_this_x0, .ref a_this_y0, .ref a_this_x1, .ref a_this_y1, .ref a_this_head, .ref a_this_said, .ref a_this_low, .ref a_this_high, .ref a_this_least, .ref a_this_price, .int v_this_dirt, .int v_this_time, .ref a_this_way, .int v_this_lineMany, .ref a_this_lineFirst, .ref a_this_lineLast, .ref a_this_left, .ref a_this_pile, .ref a_this_rest, .int v_this_notSign, .int v_this_notKind, .ref a_this_read, .ref a_this_measure, .int v_this_measureMany, .ref a_this_wentBack])), (a_this_area, .inl (cI, 40, .inl f_this_area)), (a_this_y0, .inl (cI, 40, .inl f_this_y0)), (a_this_y1, .inl (cI, 40, .inl f_this_y1)), (a_this_said, .inl (cI, 40, .inl f_this_said)), (a_this_low, .inl (cI, 6, .inl f_this_low)), (a_this_high, .inl (cI, 6, .inl f_this_high)), (a_this_least, .inl (cI, 6, .inl f_this_least)), (a_this_price, .inl (cI, 6, .inl f_this_price)), (a_this_rest, .inl (cI, 6027, .inl f_this_rest)), (a_this_read, .inl (cI, 40, .inl f_this_read))]
abbrev rm_X8_findBest : Room := { frames := 3, cells := 0, slots := 0, locals := 76 }
theorem hd_X8_findBest : yX8_findBest.cls = RX8 ∧ yX8_findBest.cls ≠ "java/lang/invoke/MethodHandle" ∧ yX8_findBest.cls ≠ "java/lang/invoke/VarHandle" ∧ (parseMethodDescriptor yX8_findBest.desc).map (fun d => d.parameters.length) = some 0 := by decide +kernel
set_option maxHeartbeats 4000000 in
set_option maxRecDepth 100000 in
theorem c_X8_findBest (l : Launch) (D : va_G) (cI cJ cZ : ClassId) (a_this a_this_board a_this_area a_this_x0 a_this_y0 a_this_x1 a_this_y1 a_this_head a_this_said a_this_low a_this_high a_this_least a_this_price a_this_way a_this_lineFirst a_this_lineLast a_this_left a_this_pile a_this_rest a_this_read a_this_measure a_this_wentBack : Nat) (v_this_run : Int32) (v_this_signs : Int32) (v_this_lastSigns : Int32) (v_this_dirt : Int32) (v_this_time : Int32) (v_this_lineMany : Int32) (v_this_notSign : Int32) (v_this_notKind : Int32) (v_this_measureMany : Int32) (f_this_area : Nat → Int32) (f_this_y0 : Nat → Int32) (f_this_y1 : Nat → Int32) (f_this_said : Nat → Int32) (f_this_low : Nat → Int32) (f_this_high : Nat → Int32) (f_this_least : Nat → Int32) (f_this_price : Nat → Int32) (f_this_rest : Nat → Int32) (f_this_read : Nat → Int32) (K : Nat) (o : Int32 × (Nat → Int32) × (Nat → Int32)) (h : p_X8_findBest K v_this_signs v_this_dirt v_this_time v_this_notSign v_this_notKind f_this_area f_this_y0 f_this_y1 f_this_said f_this_low f_this_high f_this_least f_this_price f_this_rest f_this_read = some o) : zMi l D (zT cI cJ cZ) yX8_findBest gs_X8_findBest rm_X8_findBest [.ref a_this] (wd_X8_findBest cI cJ cZ a_this a_this_board a_this_area a_this_x0 a_this_y0 a_this_x1 a_this_y1 a_this_head a_this_said a_this_low a_this_high a_this_least a_this_price a_this_way a_this_lineFirst a_this_lineLast a_this_left a_this_pile a_this_rest a_this_read a_this_measure a_this_wentBack v_this_run v_this_signs v_this_lastSigns v_this_dirt v_this_time v_this_lineMany v_this_notSign v_this_notKind v_this_measureMany f_this_area f_this_y0 f_this_y1 f_this_said f_this_low f_this_high f_this_least f_this_price f_this_rest f_this_read) (wd_X8_findBest cI cJ cZ a_this a_this_board a_this_area a_this_x0 a_this_y0 a_this_x1 a_this_y1 a_this_head a_this_said a_this_low a_this_high a_this_least a_this_price a_this_way a_this_lineFirst a_this_lineLast a_this_left a_this_pile a_this_rest a_this_read a_this_measure a_this_wentBack v_this_run v_this_signs v_this_lastSigns v_this_dirt v_this_time v_this_lineMany v_this_notSign v_this_notKind v_this_measureMany f_this_area f_this_y0 f_this_y1 f_this_said f_this_low f_this_high f_this_least f_this_price (o.2.1) (o.2.2)) (o.1) := by
  refine zMet_i (own := RX8) (fun u : Int32 × (Nat → Int32) × (Nat → Int32) => (wd_X8_findBest cI cJ cZ a_this a_this_board a_this_area a_this_x0 a_this_y0 a_this_x1 a_this_y1 a_this_head a_this_said a_this_low a_this_high a_this_least a_this_price a_this_way a_this_lineFirst a_this_lineLast a_this_left a_this_pile a_this_rest a_this_read a_this_measure a_this_wentBack v_this_run v_this_signs v_this_lastSigns v_this_dirt v_this_time v_this_lineMany v_this_notSign v_this_notKind v_this_measureMany f_this_area f_this_y0 f_this_y1 f_this_said f_this_low f_this_high f_this_least f_this_price (u.2.1) (u.2.2))) (fun u : Int32 × (Nat → Int32) × (Nat → Int32) => u.1) (by decide) rfl rfl (Nat.le_of_ble_eq_true rfl) ?_
  intro p e s m args below meth c A Q S hK hA hw ret ls hl
  replace hl : lv_has ls 6 [(0, .ref a_this)] := hl
  refine lv_aload_n S.1 S.2.1 dX8_findBest_0 rfl (lv_at hl 0 rfl) ?_
  refine z_get S (C := RX8) (T := TX8) (N := 30) (gi gu_X8) hK hw 0 rfl rfl 2 (Nat.le_of_ble_eq_true rfl) (List.mem_cons_of_mem _ gw_713) rfl dX8_findBest_1 ?_
  refine lv_iconst (v := (-1)) S.1 S.2.1 dX8_findBest_4 (by decide) ?_
  refine z_icmp_ne S (tgt := 11) h dX8_findBest_5 (by decide) (fun h => ?_) (fun h => ?_)
  · refine lv_aload_n S.1 S.2.1 dX8_findBest_11 rfl (lv_at hl 0 rfl) ?_
    obtain ⟨y1, f2, hc, h⟩ := z_b2_e h
    refine z_callVi (As := []) (rest := []) S (c_X8_leastNow l D cI cJ cZ a_this a_this_board a_this_area a_this_x0 a_this_y0 a_this_x1 a_this_y1 a_this_head a_this_said a_this_low a_this_high a_this_least a_this_price a_this_way a_this_lineFirst a_this_lineLast a_this_left a_this_pile a_this_rest a_this_read a_this_measure a_this_wentBack v_this_run v_this_signs v_this_lastSigns v_this_dirt v_this_time v_this_lineMany v_this_notSign v_this_notKind v_this_measureMany f_this_area f_this_y0 f_this_y1 f_this_said f_this_low f_this_high f_this_least f_this_price f_this_rest K _ hc) (cwV 0 S.2.2.2.2 (gw_V gw_907 gw_909 gw_42 gw_58 gw_910) rfl rfl rfl hd_X8_leastNow ⟨Nat.le_of_ble_eq_true rfl, Nat.le_of_ble_eq_true rfl⟩) hK hA hw [0, 1, 2, 3, 4, 5, 6, 7, 8, 9] (by decide) rfl rfl [some 0, some 1, some 2, some 3, some 4, some 5, some 6, some 7, some 8, some 9, none] rfl (by decide) 0 rfl rfl hl.1 rfl rfl (lv_room (Nat.le_of_ble_eq_true rfl)) ⟨Nat.zero_le _, Nat.zero_le _⟩ dX8_findBest_12 (fun H locs hw => ?_)
    replace hw : zW D A s H locs (wd_X8_findBest cI cJ cZ a_this a_this_board a_this_area a_this_x0 a_this_y0 a_this_x1 a_this_y1 a_this_head a_this_said a_this_low a_this_high a_this_least a_this_price a_this_way a_this_lineFirst a_this_lineLast a_this_left a_this_pile a_this_rest a_this_read a_this_measure a_this_wentBack v_this_run v_this_signs v_this_lastSigns v_this_dirt v_this_time v_this_lineMany v_this_notSign v_this_notKind v_this_measureMany f_this_area f_this_y0 f_this_y1 f_this_said f_this_low f_this_high f_this_least f_this_price f2 f_this_read) := hw
    refine lv_istore_n (lv' := [(1, .int y1), (0, .ref a_this)]) S.1 S.2.1 dX8_findBest_15 rfl hl (by decide) rfl (fun ls hl => ?_)
    refine lv_iload_n S.1 S.2.1 dX8_findBest_16 rfl (lv_at hl 0 rfl) ?_
    refine lv_ldc (v := 10000000) S.1 S.2.1 S.2.2.2.1 (S.2.2.2.2 _ (List.mem_cons_of_mem _ gw_911)) dX8_findBest_17 ?_
    refine z_icmp_lt S (tgt := 25) h dX8_findBest_19 (by decide) (fun h => ?_) (fun h => ?_)
    · refine lv_iconst (v := 0) S.1 S.2.1 dX8_findBest_25 (by decide) ?_
      refine lv_istore_n (lv' := [(2, .int 0), (1, .int y1), (0, .ref a_this)]) S.1 S.2.1 dX8_findBest_26 rfl hl (by decide) rfl (fun ls hl => ?_)
      refine lv_iconst (v := 0) S.1 S.2.1 dX8_findBest_27 (by decide) ?_
      refine lv_istore_n (lv' := [(3, .int 0), (2, .int 0), (1, .int y1), (0, .ref a_this)]) S.1 S.2.1 dX8_findBest_28 rfl hl (by decide) rfl (fun ls hl => ?_)
      refine lv_iconst (v := 0) S.1 S.2.1 dX8_findBest_29 (by decide) ?_
      refine lv_istore (lv' := [(4, .int 0), (3, .int 0), (2, .int 0), (1, .int y1), (0, .ref a_this)]) S.1 S.2.1 dX8_findBest_30 hl (by decide) rfl (fun ls hl => ?_)
      have L_32 : ∀ (n32_6 : Nat) (f3 : Nat → Int32) (x4 : Int32) (x5 : Int32) (x6 : Int32) (h : z_lp4 (p_X8_findBest_l32 v_this_signs y1 f2 v_this_dirt v_this_time v_this_notSign v_this_notKind f_this_area f_this_y0 f_this_y1 f_this_said f_this_low f_this_high f_this_least f_this_price K) n32_6 f3 x4 x5 x6 = some o) (H : Heap) (locs : List Loc) (ls : Array Slot), zW D A s H locs (wd_X8_findBest cI cJ cZ a_this a_this_board a_this_area a_this_x0 a_this_y0 a_this_x1 a_this_y1 a_this_head a_this_said a_this_low a_this_high a_this_least a_this_price a_this_way a_this_lineFirst a_this_lineLast a_this_left a_this_pile a_this_rest a_this_read a_this_measure a_this_wentBack v_this_run v_this_signs v_this_lastSigns v_this_dirt v_this_time v_this_lineMany v_this_notSign v_this_notKind v_this_measureMany f_this_area f_this_y0 f_this_y1 f_this_said f_this_low f_this_high f_this_least f_this_price f2 f3) → lv_has ls 6 [(0, .ref a_this), (1, .int y1), (2, .int x4), (3, .int x5), (4, .int x6)] → W p l e (headSpec gs_X8_findBest rm_X8_findBest).room s m args below meth c H locs 0 0 Q (F0 m 32 ls []) := by
        intro n32_6
        induction n32_6 with
        | zero => intro f3 x4 x5 x6 h; exact z_no h
        | succ n32_6 ih_32 =>
          intro f3 x4 x5 x6 h H locs ls hw hl
          replace h : (p_X8_findBest_l32 v_this_signs y1 f2 v_this_dirt v_this_time v_this_notSign v_this_notKind f_this_area f_this_y0 f_this_y1 f_this_said f_this_low f_this_high f_this_least f_this_price K) (z_lp4 (p_X8_findBest_l32 v_this_signs y1 f2 v_this_dirt v_this_time v_this_notSign v_this_notKind f_this_area f_this_y0 f_this_y1 f_this_said f_this_low f_this_high f_this_least f_this_price K) n32_6) f3 x4 x5 x6 = some o := h
          refine lv_iload S.1 S.2.1 dX8_findBest_32 (lv_at hl 4 rfl) ?_
          refine lv_aload_n S.1 S.2.1 dX8_findBest_34 rfl (lv_at hl 0 rfl) ?_
          refine z_get S (C := RX8) (T := TX8) (N := 30) (gi gu_X8) hK hw 0 rfl rfl 2 (Nat.le_of_ble_eq_true rfl) (List.mem_cons_of_mem _ gw_713) rfl dX8_findBest_35 ?_
          refine z_icmp_ge S (tgt := 151) h dX8_findBest_38 (by decide) (fun h => ?_) (fun h => ?_)
          · refine lv_iload_n S.1 S.2.1 dX8_findBest_151 rfl (lv_at hl 1 rfl) ?_
            exact ret (y1, f2, f3) h 152 ls _ _ dX8_findBest_152 hw
          · refine lv_iconst (v := 0) S.1 S.2.1 dX8_findBest_41 (by decide) ?_
            refine lv_istore (lv' := [(5, .int 0), (0, .ref a_this), (1, .int y1), (2, .int x4), (3, .int x5), (4, .int x6)]) S.1 S.2.1 dX8_findBest_42 hl (by decide) rfl (fun ls hl => ?_)
            have J_75 : ∀ (x7 : Int32) (h : (p_X8_findBest_j75 f3 x6 x4 x5 (z_lp4 (p_X8_findBest_l32 v_this_signs y1 f2 v_this_dirt v_this_time v_this_notSign v_this_notKind f_this_area f_this_y0 f_this_y1 f_this_said f_this_low f_this_high f_this_least f_this_price K) n32_6)) x7 = some o) (H : Heap) (locs : List Loc) (ls : Array Slot), zW D A s H locs (wd_X8_findBest cI cJ cZ a_this a_this_board a_this_area a_this_x0 a_this_y0 a_this_x1 a_this_y1 a_this_head a_this_said a_this_low a_this_high a_this_least a_this_price a_this_way a_this_lineFirst a_this_lineLast a_this_left a_this_pile a_this_rest a_this_read a_this_measure a_this_wentBack v_this_run v_this_signs v_this_lastSigns v_this_dirt v_this_time v_this_lineMany v_this_notSign v_this_notKind v_this_measureMany f_this_area f_this_y0 f_this_y1 f_this_said f_this_low f_this_high f_this_least f_this_price f2 f3) → lv_has ls 6 [(0, .ref a_this), (1, .int y1), (2, .int x4), (3, .int x5), (4, .int x6), (5, .int x7)] → W p l e (headSpec gs_X8_findBest rm_X8_findBest).room s m args below meth c H locs 0 0 Q (F0 m 75 ls []) := by
              intro x7 h H locs ls hw hl
              refine lv_aload_n S.1 S.2.1 dX8_findBest_75 rfl (lv_at hl 0 rfl) ?_
              refine z_get S (C := RX8) (T := TX8) (N := 30) (gi gu_X8) hK hw 0 rfl rfl 26 (Nat.le_of_ble_eq_true rfl) (List.mem_cons_of_mem _ gw_737) rfl dX8_findBest_76 ?_
              refine lv_iload S.1 S.2.1 dX8_findBest_79 (lv_at hl 4 rfl) ?_
              refine lv_iload S.1 S.2.1 dX8_findBest_81 (lv_at hl 5 rfl) ?_
              refine z_iast S hK hw 10 0 rfl rfl h dX8_findBest_83 (fun f8 H locs hw h => ?_)
              replace hw : zW D A s H locs (wd_X8_findBest cI cJ cZ a_this a_this_board a_this_area a_this_x0 a_this_y0 a_this_x1 a_this_y1 a_this_head a_this_said a_this_low a_this_high a_this_least a_this_price a_this_way a_this_lineFirst a_this_lineLast a_this_left a_this_pile a_this_rest a_this_read a_this_measure a_this_wentBack v_this_run v_this_signs v_this_lastSigns v_this_dirt v_this_time v_this_lineMany v_this_notSign v_this_notKind v_this_measureMany f_this_area f_this_y0 f_this_y1 f_this_said f_this_low f_this_high f_this_least f_this_price f2 f8) := hw
              refine lv_iload S.1 S.2.1 dX8_findBest_84 (lv_at hl 5 rfl) ?_
              refine lv_iconst (v := 5) S.1 S.2.1 dX8_findBest_86 (by decide) ?_
              refine z_icmp_ne S (tgt := 97) h dX8_findBest_87 (by decide) (fun h => ?_) (fun h => ?_)
              · refine lv_iload S.1 S.2.1 dX8_findBest_97 (lv_at hl 5 rfl) ?_
                refine lv_bipush (v := 6) S.1 S.2.1 dX8_findBest_99 (by decide) ?_
                refine z_icmp_eq S (tgt := 145) h dX8_findBest_101 (by decide) (fun h => ?_) (fun h => ?_)
                · refine z_iinc S (i := 4) (k := 4) (v := x6 + 1) hl rfl (by decide) rfl (fun v => (4, .int v) :: [(0, .ref a_this), (1, .int y1), (2, .int x4), (3, .int x5), (5, .int x7)]) (fun _ => rfl) h dX8_findBest_145 (fun y9 ls hl h => ?_)
                  replace hl : lv_has ls 6 [(4, .int y9), (0, .ref a_this), (1, .int y1), (2, .int x4), (3, .int x5), (5, .int x7)] := hl
                  refine lv_goto (tgt := 32) S.1 S.2.1 dX8_findBest_148 (by decide) ?_
                  exact ih_32 f8 x4 x5 y9 h _ _ ls hw (lv_sub hl [1, 2, 3, 4, 0] rfl)
                · refine lv_iload_n S.1 S.2.1 dX8_findBest_104 rfl (lv_at hl 2 rfl) ?_
                  refine lv_iload S.1 S.2.1 dX8_findBest_105 (lv_at hl 5 rfl) ?_
                  refine lv_iconst (v := 4) S.1 S.2.1 dX8_findBest_107 (by decide) ?_
                  have J_122 : ∀ (z10 : Int32) (h : (p_X8_findBest_j122 x4 x7 x6 f8 (z_lp4 (p_X8_findBest_l32 v_this_signs y1 f2 v_this_dirt v_this_time v_this_notSign v_this_notKind f_this_area f_this_y0 f_this_y1 f_this_said f_this_low f_this_high f_this_least f_this_price K) n32_6)) z10 = some o) (H : Heap) (locs : List Loc) (ls : Array Slot), zW D A s H locs (wd_X8_findBest cI cJ cZ a_this a_this_board a_this_area a_this_x0 a_this_y0 a_this_x1 a_this_y1 a_this_head a_this_said a_this_low a_this_high a_this_least a_this_price a_this_way a_this_lineFirst a_this_lineLast a_this_left a_this_pile a_this_rest a_this_read a_this_measure a_this_wentBack v_this_run v_this_signs v_this_lastSigns v_this_dirt v_this_time v_this_lineMany v_this_notSign v_this_notKind v_this_measureMany f_this_area f_this_y0 f_this_y1 f_this_said f_this_low f_this_high f_this_least f_this_price f2 f8) → lv_has ls 6 [(0, .ref a_this), (1, .int y1), (4, .int x6), (5, .int x7)] → W p l e (headSpec gs_X8_findBest rm_X8_findBest).room s m args below meth c H locs 0 0 Q (F0 m 122 ls [.int z10, .int x4]) := by
                    intro z10 h H locs ls hw hl
                    refine lv_iadd S.1 S.2.1 dX8_findBest_122 ?_
                    refine z_leti h (fun y11 h => ?_)
                    refine lv_istore_n (lv' := [(2, .int y11), (0, .ref a_this), (1, .int y1), (4, .int x6), (5, .int x7)]) S.1 S.2.1 dX8_findBest_123 rfl hl (by decide) rfl (fun ls hl => ?_)
                    refine lv_iload S.1 S.2.1 dX8_findBest_124 (lv_at hl 4 rfl) ?_
                    refine z_if_ne S (tgt := 133) h dX8_findBest_126 (by decide) (fun h => ?_) (fun h => ?_)
                    · refine lv_iload S.1 S.2.1 dX8_findBest_133 (lv_at hl 4 rfl) ?_
                      refine lv_iconst (v := 1) S.1 S.2.1 dX8_findBest_135 (by decide) ?_
                      refine z_icmp_ne S (tgt := 143) h dX8_findBest_136 (by decide) (fun h => ?_) (fun h => ?_)
                      · refine lv_iconst (v := 0) S.1 S.2.1 dX8_findBest_143 (by decide) ?_
                        refine lv_istore_n (lv' := [(3, .int 0), (2, .int y11), (0, .ref a_this), (1, .int y1), (4, .int x6), (5, .int x7)]) S.1 S.2.1 dX8_findBest_144 rfl hl (by decide) rfl (fun ls hl => ?_)
                        refine z_iinc S (i := 4) (k := 4) (v := x6 + 1) hl rfl (by decide) rfl (fun v => (4, .int v) :: [(3, .int 0), (2, .int y11), (0, .ref a_this), (1, .int y1), (5, .int x7)]) (fun _ => rfl) h dX8_findBest_145 (fun y12 ls hl h => ?_)
                        replace hl : lv_has ls 6 [(4, .int y12), (3, .int 0), (2, .int y11), (0, .ref a_this), (1, .int y1), (5, .int x7)] := hl
                        refine lv_goto (tgt := 32) S.1 S.2.1 dX8_findBest_148 (by decide) ?_
                        exact ih_32 f8 y11 0 y12 h _ _ ls hw (lv_sub hl [3, 4, 2, 1, 0] rfl)
                      · refine lv_iconst (v := 2) S.1 S.2.1 dX8_findBest_139 (by decide) ?_
                        refine lv_goto (tgt := 144) S.1 S.2.1 dX8_findBest_140 (by decide) ?_
                        refine lv_istore_n (lv' := [(3, .int 2), (2, .int y11), (0, .ref a_this), (1, .int y1), (4, .int x6), (5, .int x7)]) S.1 S.2.1 dX8_findBest_144 rfl hl (by decide) rfl (fun ls hl => ?_)
                        refine z_iinc S (i := 4) (k := 4) (v := x6 + 1) hl rfl (by decide) rfl (fun v => (4, .int v) :: [(3, .int 2), (2, .int y11), (0, .ref a_this), (1, .int y1), (5, .int x7)]) (fun _ => rfl) h dX8_findBest_145 (fun y13 ls hl h => ?_)
                        replace hl : lv_has ls 6 [(4, .int y13), (3, .int 2), (2, .int y11), (0, .ref a_this), (1, .int y1), (5, .int x7)] := hl
                        refine lv_goto (tgt := 32) S.1 S.2.1 dX8_findBest_148 (by decide) ?_
                        exact ih_32 f8 y11 2 y13 h _ _ ls hw (lv_sub hl [3, 4, 2, 1, 0] rfl)
                    · refine lv_iconst (v := 1) S.1 S.2.1 dX8_findBest_129 (by decide) ?_
                      refine lv_goto (tgt := 144) S.1 S.2.1 dX8_findBest_130 (by decide) ?_
                      refine lv_istore_n (lv' := [(3, .int 1), (2, .int y11), (0, .ref a_this), (1, .int y1), (4, .int x6), (5, .int x7)]) S.1 S.2.1 dX8_findBest_144 rfl hl (by decide) rfl (fun ls hl => ?_)
                      refine z_iinc S (i := 4) (k := 4) (v := x6 + 1) hl rfl (by decide) rfl (fun v => (4, .int v) :: [(3, .int 1), (2, .int y11), (0, .ref a_this), (1, .int y1), (5, .int x7)]) (fun _ => rfl) h dX8_findBest_145 (fun y14 ls hl h => ?_)
                      replace hl : lv_has ls 6 [(4, .int y14), (3, .int 1), (2, .int y11), (0, .ref a_this), (1, .int y1), (5, .int x7)] := hl
                      refine lv_goto (tgt := 32) S.1 S.2.1 dX8_findBest_148 (by decide) ?_
                      exact ih_32 f8 y11 1 y14 h _ _ ls hw (lv_sub hl [3, 4, 2, 1, 0] rfl)
                  refine z_icmp_ne S (tgt := 117) h dX8_findBest_108 (by decide) (fun h => ?_) (fun h => ?_)
                  · refine lv_iload S.1 S.2.1 dX8_findBest_117 (lv_at hl 5 rfl) ?_
                    obtain ⟨y15, hc, h⟩ := z_b1_e h
                    refine z_callSi (As := [.int x7]) (rest := [.int x4]) S (c_X8_timeOf l D cI cJ cZ x7 _ hc) (va_cwS 1 S.2.2.2.2 (gw_S gw_923 gw_924 gw_58 gw_925) rfl rfl rfl hd_X8_timeOf ⟨Nat.le_of_ble_eq_true rfl, Nat.le_of_ble_eq_true rfl⟩) hK hA hw [] (by decide) rfl rfl [none, none, none, none, none, none, none, none, none, none, none] rfl (by decide) hl.1 rfl rfl (lv_room (Nat.le_of_ble_eq_true rfl)) ⟨Nat.zero_le _, Nat.zero_le _⟩ dX8_findBest_119 (fun H locs hw => ?_)
                    replace hw : zW D A s H locs (wd_X8_findBest cI cJ cZ a_this a_this_board a_this_area a_this_x0 a_this_y0 a_this_x1 a_this_y1 a_this_head a_this_said a_this_low a_this_high a_this_least a_this_price a_this_way a_this_lineFirst a_this_lineLast a_this_left a_this_pile a_this_rest a_this_read a_this_measure a_this_wentBack v_this_run v_this_signs v_this_lastSigns v_this_dirt v_this_time v_this_lineMany v_this_notSign v_this_notKind v_this_measureMany f_this_area f_this_y0 f_this_y1 f_this_said f_this_low f_this_high f_this_least f_this_price f2 f8) := hw
                    exact J_122 y15 h _ _ ls hw (lv_sub hl [0, 1, 4, 5] rfl)
                  · refine lv_iconst (v := 2) S.1 S.2.1 dX8_findBest_111 (by decide) ?_
                    refine lv_iload_n S.1 S.2.1 dX8_findBest_112 rfl (lv_at hl 3 rfl) ?_
                    refine lv_imul S.1 S.2.1 dX8_findBest_113 ?_
                    refine lv_goto (tgt := 122) S.1 S.2.1 dX8_findBest_114 (by decide) ?_
                    exact J_122 (2 * x5) h _ _ ls hw (lv_sub hl [0, 1, 4, 5] rfl)
              · refine lv_iconst (v := 0) S.1 S.2.1 dX8_findBest_90 (by decide) ?_
                refine lv_istore_n (lv' := [(2, .int 0), (0, .ref a_this), (1, .int y1), (3, .int x5), (4, .int x6), (5, .int x7)]) S.1 S.2.1 dX8_findBest_91 rfl hl (by decide) rfl (fun ls hl => ?_)
                refine lv_iconst (v := 0) S.1 S.2.1 dX8_findBest_92 (by decide) ?_
                refine lv_istore_n (lv' := [(3, .int 0), (2, .int 0), (0, .ref a_this), (1, .int y1), (4, .int x6), (5, .int x7)]) S.1 S.2.1 dX8_findBest_93 rfl hl (by decide) rfl (fun ls hl => ?_)
                refine lv_goto (tgt := 145) S.1 S.2.1 dX8_findBest_94 (by decide) ?_
                refine z_iinc S (i := 4) (k := 4) (v := x6 + 1) hl rfl (by decide) rfl (fun v => (4, .int v) :: [(3, .int 0), (2, .int 0), (0, .ref a_this), (1, .int y1), (5, .int x7)]) (fun _ => rfl) h dX8_findBest_145 (fun y16 ls hl h => ?_)
                replace hl : lv_has ls 6 [(4, .int y16), (3, .int 0), (2, .int 0), (0, .ref a_this), (1, .int y1), (5, .int x7)] := hl
                refine lv_goto (tgt := 32) S.1 S.2.1 dX8_findBest_148 (by decide) ?_
                exact ih_32 f8 0 0 y16 h _ _ ls hw (lv_sub hl [3, 4, 2, 1, 0] rfl)
            have L_44 : ∀ (n44_17 : Nat) (x17 : Int32) (h : z_lp1 (p_X8_findBest_l44 v_this_dirt v_this_time v_this_notSign v_this_notKind f_this_area f_this_y0 f_this_y1 f_this_said f_this_low f_this_high f_this_least f_this_price f2 x6 x4 x5 (p_X8_findBest_j75 f3 x6 x4 x5 (z_lp4 (p_X8_findBest_l32 v_this_signs y1 f2 v_this_dirt v_this_time v_this_notSign v_this_notKind f_this_area f_this_y0 f_this_y1 f_this_said f_this_low f_this_high f_this_least f_this_price K) n32_6))) n44_17 x17 = some o) (H : Heap) (locs : List Loc) (ls : Array Slot), zW D A s H locs (wd_X8_findBest cI cJ cZ a_this a_this_board a_this_area a_this_x0 a_this_y0 a_this_x1 a_this_y1 a_this_head a_this_said a_this_low a_this_high a_this_least a_this_price a_this_way a_this_lineFirst a_this_lineLast a_this_left a_this_pile a_this_rest a_this_read a_this_measure a_this_wentBack v_this_run v_this_signs v_this_lastSigns v_this_dirt v_this_time v_this_lineMany v_this_notSign v_this_notKind v_this_measureMany f_this_area f_this_y0 f_this_y1 f_this_said f_this_low f_this_high f_this_least f_this_price f2 f3) → lv_has ls 6 [(0, .ref a_this), (1, .int y1), (2, .int x4), (3, .int x5), (4, .int x6), (5, .int x17)] → W p l e (headSpec gs_X8_findBest rm_X8_findBest).room s m args below meth c H locs 0 0 Q (F0 m 44 ls []) := by
              intro n44_17
              induction n44_17 with
              | zero => intro x17 h; exact z_no h
              | succ n44_17 ih_44 =>
                intro x17 h H locs ls hw hl
                replace h : (p_X8_findBest_l44 v_this_dirt v_this_time v_this_notSign v_this_notKind f_this_area f_this_y0 f_this_y1 f_this_said f_this_low f_this_high f_this_least f_this_price f2 x6 x4 x5 (p_X8_findBest_j75 f3 x6 x4 x5 (z_lp4 (p_X8_findBest_l32 v_this_signs y1 f2 v_this_dirt v_this_time v_this_notSign v_this_notKind f_this_area f_this_y0 f_this_y1 f_this_said f_this_low f_this_high f_this_least f_this_price K) n32_6))) (z_lp1 (p_X8_findBest_l44 v_this_dirt v_this_time v_this_notSign v_this_notKind f_this_area f_this_y0 f_this_y1 f_this_said f_this_low f_this_high f_this_least f_this_price f2 x6 x4 x5 (p_X8_findBest_j75 f3 x6 x4 x5 (z_lp4 (p_X8_findBest_l32 v_this_signs y1 f2 v_this_dirt v_this_time v_this_notSign v_this_notKind f_this_area f_this_y0 f_this_y1 f_this_said f_this_low f_this_high f_this_least f_this_price K) n32_6))) n44_17) x17 = some o := h
                refine lv_aload_n S.1 S.2.1 dX8_findBest_44 rfl (lv_at hl 0 rfl) ?_
                refine lv_iload S.1 S.2.1 dX8_findBest_45 (lv_at hl 4 rfl) ?_
                refine lv_iload_n S.1 S.2.1 dX8_findBest_47 rfl (lv_at hl 2 rfl) ?_
                refine lv_iload_n S.1 S.2.1 dX8_findBest_48 rfl (lv_at hl 3 rfl) ?_
                refine lv_iload S.1 S.2.1 dX8_findBest_49 (lv_at hl 5 rfl) ?_
                obtain ⟨y18, hc, h⟩ := z_b1_e h
                refine z_callVi (As := [.int x6, .int x4, .int x5, .int x17]) (rest := []) S (c_X8_withKind l D cI cJ cZ a_this a_this_board a_this_area a_this_x0 a_this_y0 a_this_x1 a_this_y1 a_this_head a_this_said a_this_low a_this_high a_this_least a_this_price a_this_way a_this_lineFirst a_this_lineLast a_this_left a_this_pile a_this_rest a_this_read a_this_measure a_this_wentBack v_this_run v_this_signs v_this_lastSigns v_this_dirt v_this_time v_this_lineMany v_this_notSign v_this_notKind v_this_measureMany f_this_area f_this_y0 f_this_y1 f_this_said f_this_low f_this_high f_this_least f_this_price f2 x6 x4 x5 x17 _ hc) (cwV 4 S.2.2.2.2 (gw_V gw_912 gw_914 gw_43 gw_58 gw_915) rfl rfl rfl hd_X8_withKind ⟨Nat.le_of_ble_eq_true rfl, Nat.le_of_ble_eq_true rfl⟩) hK hA hw [0, 1, 2, 3, 4, 5, 6, 7, 8, 9] (by decide) rfl rfl [some 0, some 1, some 2, some 3, some 4, some 5, some 6, some 7, some 8, some 9, none] rfl (by decide) 0 rfl rfl hl.1 rfl rfl (lv_room (Nat.le_of_ble_eq_true rfl)) ⟨Nat.zero_le _, Nat.zero_le _⟩ dX8_findBest_51 (fun H locs hw => ?_)
                replace hw : zW D A s H locs (wd_X8_findBest cI cJ cZ a_this a_this_board a_this_area a_this_x0 a_this_y0 a_this_x1 a_this_y1 a_this_head a_this_said a_this_low a_this_high a_this_least a_this_price a_this_way a_this_lineFirst a_this_lineLast a_this_left a_this_pile a_this_rest a_this_read a_this_measure a_this_wentBack v_this_run v_this_signs v_this_lastSigns v_this_dirt v_this_time v_this_lineMany v_this_notSign v_this_notKind v_this_measureMany f_this_area f_this_y0 f_this_y1 f_this_said f_this_low f_this_high f_this_least f_this_price f2 f3) := hw
                refine lv_aload_n S.1 S.2.1 dX8_findBest_54 rfl (lv_at hl 0 rfl) ?_
                refine z_get S (C := RX8) (T := TX8) (N := 30) (gi gu_X8) hK hw 0 rfl rfl 23 (Nat.le_of_ble_eq_true rfl) (List.mem_cons_of_mem _ gw_734) rfl dX8_findBest_55 ?_
                refine lv_iload S.1 S.2.1 dX8_findBest_58 (lv_at hl 4 rfl) ?_
                refine lv_iload_n S.1 S.2.1 dX8_findBest_60 rfl (lv_at hl 2 rfl) ?_
                refine lv_iload_n S.1 S.2.1 dX8_findBest_61 rfl (lv_at hl 3 rfl) ?_
                obtain ⟨y19, hc, h⟩ := z_b1_e h
                refine z_callSi (As := [.int x6, .int x4, .int x5]) (rest := [.ref a_this_rest, .int y18]) S (c_X8_restAt l D cI cJ cZ x6 x4 x5 _ hc) (va_cwS 3 S.2.2.2.2 (gw_S gw_920 gw_921 gw_58 gw_922) rfl rfl rfl hd_X8_restAt ⟨Nat.le_of_ble_eq_true rfl, Nat.le_of_ble_eq_true rfl⟩) hK hA hw [] (by decide) rfl rfl [none, none, none, none, none, none, none, none, none, none, none] rfl (by decide) hl.1 rfl rfl (lv_room (Nat.le_of_ble_eq_true rfl)) ⟨Nat.zero_le _, Nat.zero_le _⟩ dX8_findBest_62 (fun H locs hw => ?_)
                replace hw : zW D A s H locs (wd_X8_findBest cI cJ cZ a_this a_this_board a_this_area a_this_x0 a_this_y0 a_this_x1 a_this_y1 a_this_head a_this_said a_this_low a_this_high a_this_least a_this_price a_this_way a_this_lineFirst a_this_lineLast a_this_left a_this_pile a_this_rest a_this_read a_this_measure a_this_wentBack v_this_run v_this_signs v_this_lastSigns v_this_dirt v_this_time v_this_lineMany v_this_notSign v_this_notKind v_this_measureMany f_this_area f_this_y0 f_this_y1 f_this_said f_this_low f_this_high f_this_least f_this_price f2 f3) := hw
                refine z_iald S hK hw 9 0 rfl rfl h dX8_findBest_65 (fun y20 h => ?_)
                refine z_icmp_eq S (tgt := 75) h dX8_findBest_66 (by decide) (fun h => ?_) (fun h => ?_)
                · exact J_75 x17 h _ _ ls hw (lv_sub hl [0, 1, 2, 3, 4, 5] rfl)
                · refine z_iinc S (i := 5) (k := 5) (v := x17 + 1) hl rfl (by decide) rfl (fun v => (5, .int v) :: [(0, .ref a_this), (1, .int y1), (2, .int x4), (3, .int x5), (4, .int x6)]) (fun _ => rfl) h dX8_findBest_69 (fun y21 ls hl h => ?_)
                  replace hl : lv_has ls 6 [(5, .int y21), (0, .ref a_this), (1, .int y1), (2, .int x4), (3, .int x5), (4, .int x6)] := hl
                  refine lv_goto (tgt := 44) S.1 S.2.1 dX8_findBest_72 (by decide) ?_
                  exact ih_44 y21 h _ _ ls hw (lv_sub hl [1, 2, 3, 4, 5, 0] rfl)
            exact L_44 K 0 h _ _ ls hw (lv_sub hl [1, 2, 3, 4, 5, 0] rfl)
      exact L_32 K f_this_read 0 0 0 h _ _ ls hw (lv_sub hl [4, 3, 2, 1, 0] rfl)
    · refine lv_bipush (v := (-3)) S.1 S.2.1 dX8_findBest_22 (by decide) ?_
      exact ret ((-3), f2, f_this_read) h 24 ls _ _ dX8_findBest_24 hw
  · refine lv_bipush (v := (-3)) S.1 S.2.1 dX8_findBest_8 (by decide) ?_
    exact ret ((-3), f_this_rest, f_this_read) h 10 ls _ _ dX8_findBest_10 hw
theorem gw_903 : Cond.methodLink RX8 173 yX8_findBest ∈ GW := GW_of 903 (by decide +kernel) (by decide +kernel)
theorem gw_906 : Cond.code yX8_findBest cX8_findBest 6 (some .int) ∈ GW := GW_of 906 (by decide +kernel) (by decide +kernel)
theorem gw_905 : Cond.instanceMethod yX8_findBest ∈ GW := GW_of 905 (by decide +kernel) (by decide +kernel)
theorem gw_41 : Cond.selects RX8 yX8_findBest yX8_findBest ∈ GW := GW_of 41 (by decide +kernel) (by decide +kernel)
def gs_X8_best : List Cond := Cond.code yX8_best cX8_best 1 (some .int) :: GW
def wd_X8_best (cI cJ cZ : ClassId) (a_this a_this_board a_this_area a_this_x0 a_this_y0 a_this_x1 a_this_y1 a_this_head a_this_said a_this_low a_this_high a_this_least a_this_price a_this_way a_this_lineFirst a_this_lineLast a_this_left a_this_pile a_this_rest a_this_read a_this_measure a_this_wentBack : Nat) (v_this_run : Int32) (v_this_signs : Int32) (v_this_lastSigns : Int32) (v_this_dirt : Int32) (v_this_time : Int32) (v_this_lineMany : Int32) (v_this_notSign : Int32) (v_this_notKind : Int32) (v_this_measureMany : Int32) (f_this_area : Nat → Int32) (f_this_y0 : Nat → Int32) (f_this_y1 : Nat → Int32) (f_this_said : Nat → Int32) (f_this_low : Nat → Int32) (f_this_high : Nat → Int32) (f_this_least : Nat → Int32) (f_this_price : Nat → Int32) (f_this_rest : Nat → Int32) (f_this_read : Nat → Int32) : va_W := [(a_this, .inr (8, [.ref a_this_board, .int v_this_run, .int v_this_signs, .int v_this_lastSigns, .ref a_this_area, .ref a_this_x0, .ref a_this_y0, .ref a_this_x1, .ref a_this_y1, .ref a_this_head, .ref a_this_said, .ref a_this_low, .ref a_this_high, .ref a_this_least, .ref a_this_price, .int v_this_dirt, .int v_this_time, .ref a_this_way, .int v_this_lineMany, .ref a_this_lineFirst, .ref a_this_lineLast, .ref a_this_left, .ref a_this_pile, .ref a_this_rest, .int v_this_notSign, .int v_this_notKind, .ref a_this_read, .ref a_this_measure, .int v_this_measureMany, .ref a_this_wentBack])), (a_this_area, .inl (cI, 40, .inl f_this_area)), (a_this_y0, .inl (cI, 40, .inl f_this_y0)), (a_this_y1, .inl (cI, 40, .inl f_this_y1)), (a_this_said, .inl (cI, 40, .inl f_this_said)), (a_this_low, .inl (cI, 6, .inl f_this_low)), (a_this_high, .inl (cI, 6, .inl f_this_high)), (a_this_least, .inl (cI, 6, .inl f_this_least)), (a_this_price, .inl (cI, 6, .inl f_this_price)), (a_this_rest, .inl (cI, 6027, .inl f_this_rest)), (a_this_read, .inl (cI, 40, .inl f_this_read))]
abbrev rm_X8_best : Room := { frames := 4, cells := 0, slots := 0, locals := 101 }
theorem hd_X8_best : yX8_best.cls = RX8 ∧ yX8_best.cls ≠ "java/lang/invoke/MethodHandle" ∧ yX8_best.cls ≠ "java/lang/invoke/VarHandle" ∧ (parseMethodDescriptor yX8_best.desc).map (fun d => d.parameters.length) = some 0 := by decide +kernel
set_option maxHeartbeats 4000000 in
set_option maxRecDepth 100000 in
theorem c_X8_best (l : Launch) (D : va_G) (cI cJ cZ : ClassId) (a_this a_this_board a_this_area a_this_x0 a_this_y0 a_this_x1 a_this_y1 a_this_head a_this_said a_this_low a_this_high a_this_least a_this_price a_this_way a_this_lineFirst a_this_lineLast a_this_left a_this_pile a_this_rest a_this_read a_this_measure a_this_wentBack : Nat) (v_this_run : Int32) (v_this_signs : Int32) (v_this_lastSigns : Int32) (v_this_dirt : Int32) (v_this_time : Int32) (v_this_lineMany : Int32) (v_this_notSign : Int32) (v_this_notKind : Int32) (v_this_measureMany : Int32) (f_this_area : Nat → Int32) (f_this_y0 : Nat → Int32) (f_this_y1 : Nat → Int32) (f_this_said : Nat → Int32) (f_this_low : Nat → Int32) (f_this_high : Nat → Int32) (f_this_least : Nat → Int32) (f_this_price : Nat → Int32) (f_this_rest : Nat → Int32) (f_this_read : Nat → Int32) (K : Nat) (o : Int32 × (Nat → Int32) × (Nat → Int32)) (h : p_X8_best K v_this_signs v_this_dirt v_this_time v_this_notSign v_this_notKind f_this_area f_this_y0 f_this_y1 f_this_said f_this_low f_this_high f_this_least f_this_price f_this_rest f_this_read = some o) : zMi l D (zT cI cJ cZ) yX8_best gs_X8_best rm_X8_best [.ref a_this] (wd_X8_best cI cJ cZ a_this a_this_board a_this_area a_this_x0 a_this_y0 a_this_x1 a_this_y1 a_this_head a_this_said a_this_low a_this_high a_this_least a_this_price a_this_way a_this_lineFirst a_this_lineLast a_this_left a_this_pile a_this_rest a_this_read a_this_measure a_this_wentBack v_this_run v_this_signs v_this_lastSigns v_this_dirt v_this_time v_this_lineMany v_this_notSign v_this_notKind v_this_measureMany f_this_area f_this_y0 f_this_y1 f_this_said f_this_low f_this_high f_this_least f_this_price f_this_rest f_this_read) (wd_X8_best cI cJ cZ a_this a_this_board a_this_area a_this_x0 a_this_y0 a_this_x1 a_this_y1 a_this_head a_this_said a_this_low a_this_high a_this_least a_this_price a_this_way a_this_lineFirst a_this_lineLast a_this_left a_this_pile a_this_rest a_this_read a_this_measure a_this_wentBack v_this_run v_this_signs v_this_lastSigns v_this_dirt v_this_time v_this_lineMany v_this_notSign v_this_notKind v_this_measureMany f_this_area f_this_y0 f_this_y1 f_this_said f_this_low f_this_high f_this_least f_this_price (o.2.1) (o.2.2)) (o.1) := by
  refine zMet_i (own := RX8) (fun u : Int32 × (Nat → Int32) × (Nat → Int32) => (wd_X8_best cI cJ cZ a_this a_this_board a_this_area a_this_x0 a_this_y0 a_this_x1 a_this_y1 a_this_head a_this_said a_this_low a_this_high a_this_least a_this_price a_this_way a_this_lineFirst a_this_lineLast a_this_left a_this_pile a_this_rest a_this_read a_this_measure a_this_wentBack v_this_run v_this_signs v_this_lastSigns v_this_dirt v_this_time v_this_lineMany v_this_notSign v_this_notKind v_this_measureMany f_this_area f_this_y0 f_this_y1 f_this_said f_this_low f_this_high f_this_least f_this_price (u.2.1) (u.2.2))) (fun u : Int32 × (Nat → Int32) × (Nat → Int32) => u.1) (by decide) rfl rfl (Nat.le_of_ble_eq_true rfl) ?_
  intro p e s m args below meth c A Q S hK hA hw ret ls hl
  replace hl : lv_has ls 1 [(0, .ref a_this)] := hl
  refine lv_aload_n S.1 S.2.1 dX8_best_0 rfl (lv_at hl 0 rfl) ?_
  obtain ⟨y1, f2, f3, hc, h⟩ := z_b3_e h
  refine z_callVi (As := []) (rest := []) S (c_X8_findBest l D cI cJ cZ a_this a_this_board a_this_area a_this_x0 a_this_y0 a_this_x1 a_this_y1 a_this_head a_this_said a_this_low a_this_high a_this_least a_this_price a_this_way a_this_lineFirst a_this_lineLast a_this_left a_this_pile a_this_rest a_this_read a_this_measure a_this_wentBack v_this_run v_this_signs v_this_lastSigns v_this_dirt v_this_time v_this_lineMany v_this_notSign v_this_notKind v_this_measureMany f_this_area f_this_y0 f_this_y1 f_this_said f_this_low f_this_high f_this_least f_this_price f_this_rest f_this_read K _ hc) (cwV 0 S.2.2.2.2 (gw_V gw_903 gw_905 gw_41 gw_58 gw_906) rfl rfl rfl hd_X8_findBest ⟨Nat.le_of_ble_eq_true rfl, Nat.le_of_ble_eq_true rfl⟩) hK hA hw [0, 1, 2, 3, 4, 5, 6, 7, 8, 9, 10] (by decide) rfl rfl [some 0, some 1, some 2, some 3, some 4, some 5, some 6, some 7, some 8, some 9, some 10] rfl (by decide) 0 rfl rfl hl.1 rfl rfl (lv_room (Nat.le_of_ble_eq_true rfl)) ⟨Nat.zero_le _, Nat.zero_le _⟩ dX8_best_1 (fun H locs hw => ?_)
  replace hw : zW D A s H locs (wd_X8_best cI cJ cZ a_this a_this_board a_this_area a_this_x0 a_this_y0 a_this_x1 a_this_y1 a_this_head a_this_said a_this_low a_this_high a_this_least a_this_price a_this_way a_this_lineFirst a_this_lineLast a_this_left a_this_pile a_this_rest a_this_read a_this_measure a_this_wentBack v_this_run v_this_signs v_this_lastSigns v_this_dirt v_this_time v_this_lineMany v_this_notSign v_this_notKind v_this_measureMany f_this_area f_this_y0 f_this_y1 f_this_said f_this_low f_this_high f_this_least f_this_price f2 f3) := hw
  exact ret (y1, f2, f3) h 4 ls _ _ dX8_best_4 hw
def gs_X8_read : List Cond := Cond.code yX8_read cX8_read 2 (some .int) :: GW
def wd_X8_read (cI cJ cZ : ClassId) (a_this a_this_board a_this_area a_this_x0 a_this_y0 a_this_x1 a_this_y1 a_this_head a_this_said a_this_low a_this_high a_this_least a_this_price a_this_way a_this_lineFirst a_this_lineLast a_this_left a_this_pile a_this_rest a_this_read a_this_measure a_this_wentBack : Nat) (v_this_run : Int32) (v_this_signs : Int32) (v_this_lastSigns : Int32) (v_this_dirt : Int32) (v_this_time : Int32) (v_this_lineMany : Int32) (v_this_notSign : Int32) (v_this_notKind : Int32) (v_this_measureMany : Int32) (f_this_area : Nat → Int32) (f_this_y0 : Nat → Int32) (f_this_y1 : Nat → Int32) (f_this_said : Nat → Int32) (f_this_low : Nat → Int32) (f_this_high : Nat → Int32) (f_this_least : Nat → Int32) (f_this_price : Nat → Int32) (f_this_rest : Nat → Int32) (f_this_read : Nat → Int32) : va_W := [(a_this, .inr (8, [.ref a_this_board, .int v_this_run, .int v_this_signs, .int v_this_lastSigns, .ref a_this_area, .ref a_this_x0, .ref a_this_y0, .ref a_this_x1, .ref a_this_y1, .ref a_this_head, .ref a_this_said, .ref a_this_low, .ref a_this_high, .ref a_this_least, .ref a_this_price, .int v_this_dirt, .int v_this_time, .ref a_this_way, .int v_this_lineMany, .ref a_this_lineFirst, .ref a_this_lineLast, .ref a_this_left, .ref a_this_pile, .ref a_this_rest, .int v_this_notSign, .int v_this_notKind, .ref a_this_read, .ref a_this_measure, .int v_this_measureMany, .ref a_this_wentBack])), (a_this_area, .inl (cI, 40, .inl f_this_area)), (a_this_y0, .inl (cI, 40, .inl f_this_y0)), (a_this_y1, .inl (cI, 40, .inl f_this_y1)), (a_this_said, .inl (cI, 40, .inl f_this_said)), (a_this_low, .inl (cI, 6, .inl f_this_low)), (a_this_high, .inl (cI, 6, .inl f_this_high)), (a_this_least, .inl (cI, 6, .inl f_this_least)), (a_this_price, .inl (cI, 6, .inl f_this_price)), (a_this_rest, .inl (cI, 6027, .inl f_this_rest)), (a_this_read, .inl (cI, 40, .inl f_this_read))]
abbrev rm_X8_read : Room := { frames := 4, cells := 0, slots := 0, locals := 101 }
theorem hd_X8_read : yX8_read.cls = RX8 ∧ yX8_read.cls ≠ "java/lang/invoke/MethodHandle" ∧ yX8_read.cls ≠ "java/lang/invoke/VarHandle" ∧ (parseMethodDescriptor yX8_read.desc).map (fun d => d.parameters.length) = some 1 := by decide +kernel
set_option maxHeartbeats 4000000 in
set_option maxRecDepth 100000 in
theorem c_X8_read (l : Launch) (D : va_G) (cI cJ cZ : ClassId) (a_this a_this_board a_this_area a_this_x0 a_this_y0 a_this_x1 a_this_y1 a_this_head a_this_said a_this_low a_this_high a_this_least a_this_price a_this_way a_this_lineFirst a_this_lineLast a_this_left a_this_pile a_this_rest a_this_read a_this_measure a_this_wentBack : Nat) (v_this_run : Int32) (v_this_signs : Int32) (v_this_lastSigns : Int32) (v_this_dirt : Int32) (v_this_time : Int32) (v_this_lineMany : Int32) (v_this_notSign : Int32) (v_this_notKind : Int32) (v_this_measureMany : Int32) (f_this_area : Nat → Int32) (f_this_y0 : Nat → Int32) (f_this_y1 : Nat → Int32) (f_this_said : Nat → Int32) (f_this_low : Nat → Int32) (f_this_high : Nat → Int32) (f_this_least : Nat → Int32) (f_this_price : Nat → Int32) (f_this_rest : Nat → Int32) (f_this_read : Nat → Int32) (K : Nat) (i1 : Int32) (o : Int32 × (Nat → Int32) × (Nat → Int32)) (h : p_X8_read K v_this_signs v_this_dirt v_this_time v_this_notSign v_this_notKind f_this_area f_this_y0 f_this_y1 f_this_said f_this_low f_this_high f_this_least f_this_price f_this_rest f_this_read i1 = some o) : zMi l D (zT cI cJ cZ) yX8_read gs_X8_read rm_X8_read [.ref a_this, .int i1] (wd_X8_read cI cJ cZ a_this a_this_board a_this_area a_this_x0 a_this_y0 a_this_x1 a_this_y1 a_this_head a_this_said a_this_low a_this_high a_this_least a_this_price a_this_way a_this_lineFirst a_this_lineLast a_this_left a_this_pile a_this_rest a_this_read a_this_measure a_this_wentBack v_this_run v_this_signs v_this_lastSigns v_this_dirt v_this_time v_this_lineMany v_this_notSign v_this_notKind v_this_measureMany f_this_area f_this_y0 f_this_y1 f_this_said f_this_low f_this_high f_this_least f_this_price f_this_rest f_this_read) (wd_X8_read cI cJ cZ a_this a_this_board a_this_area a_this_x0 a_this_y0 a_this_x1 a_this_y1 a_this_head a_this_said a_this_low a_this_high a_this_least a_this_price a_this_way a_this_lineFirst a_this_lineLast a_this_left a_this_pile a_this_rest a_this_read a_this_measure a_this_wentBack v_this_run v_this_signs v_this_lastSigns v_this_dirt v_this_time v_this_lineMany v_this_notSign v_this_notKind v_this_measureMany f_this_area f_this_y0 f_this_y1 f_this_said f_this_low f_this_high f_this_least f_this_price (o.2.1) (o.2.2)) (o.1) := by
  refine zMet_i (own := RX8) (fun u : Int32 × (Nat → Int32) × (Nat → Int32) => (wd_X8_read cI cJ cZ a_this a_this_board a_this_area a_this_x0 a_this_y0 a_this_x1 a_this_y1 a_this_head a_this_said a_this_low a_this_high a_this_least a_this_price a_this_way a_this_lineFirst a_this_lineLast a_this_left a_this_pile a_this_rest a_this_read a_this_measure a_this_wentBack v_this_run v_this_signs v_this_lastSigns v_this_dirt v_this_time v_this_lineMany v_this_notSign v_this_notKind v_this_measureMany f_this_area f_this_y0 f_this_y1 f_this_said f_this_low f_this_high f_this_least f_this_price (u.2.1) (u.2.2))) (fun u : Int32 × (Nat → Int32) × (Nat → Int32) => u.1) (by decide) rfl rfl (Nat.le_of_ble_eq_true rfl) ?_
  intro p e s m args below meth c A Q S hK hA hw ret ls hl
  replace hl : lv_has ls 2 [(0, .ref a_this), (1, .int i1)] := hl
  refine lv_aload_n S.1 S.2.1 dX8_read_0 rfl (lv_at hl 0 rfl) ?_
  refine z_get S (C := RX8) (T := TX8) (N := 30) (gi gu_X8) hK hw 0 rfl rfl 2 (Nat.le_of_ble_eq_true rfl) (List.mem_cons_of_mem _ gw_713) rfl dX8_read_1 ?_
  refine lv_iconst (v := (-1)) S.1 S.2.1 dX8_read_4 (by decide) ?_
  refine z_icmp_ne S (tgt := 11) h dX8_read_5 (by decide) (fun h => ?_) (fun h => ?_)
  · refine lv_aload_n S.1 S.2.1 dX8_read_11 rfl (lv_at hl 0 rfl) ?_
    refine lv_iload_n S.1 S.2.1 dX8_read_12 rfl (lv_at hl 1 rfl) ?_
    obtain ⟨y1, hc, h⟩ := z_b1_e h
    refine z_callVi (As := [.int i1]) (rest := []) S (c_X8_isSign l D cI cJ cZ a_this a_this_board a_this_area a_this_x0 a_this_y0 a_this_x1 a_this_y1 a_this_head a_this_said a_this_low a_this_high a_this_least a_this_price a_this_way a_this_lineFirst a_this_lineLast a_this_left a_this_pile a_this_rest a_this_read a_this_measure a_this_wentBack v_this_run v_this_signs v_this_lastSigns v_this_dirt v_this_time v_this_lineMany v_this_notSign v_this_notKind v_this_measureMany i1 _ hc) (cwV 1 S.2.2.2.2 (gw_V gw_878 gw_880 gw_39 gw_58 gw_881) rfl rfl rfl hd_X8_isSign ⟨Nat.le_of_ble_eq_true rfl, Nat.le_of_ble_eq_true rfl⟩) hK hA hw [0] (by decide) rfl rfl [some 0, none, none, none, none, none, none, none, none, none, none] rfl (by decide) 0 rfl rfl hl.1 rfl rfl (lv_room (Nat.le_of_ble_eq_true rfl)) ⟨Nat.zero_le _, Nat.zero_le _⟩ dX8_read_13 (fun H locs hw => ?_)
    replace hw : zW D A s H locs (wd_X8_read cI cJ cZ a_this a_this_board a_this_area a_this_x0 a_this_y0 a_this_x1 a_this_y1 a_this_head a_this_said a_this_low a_this_high a_this_least a_this_price a_this_way a_this_lineFirst a_this_lineLast a_this_left a_this_pile a_this_rest a_this_read a_this_measure a_this_wentBack v_this_run v_this_signs v_this_lastSigns v_this_dirt v_this_time v_this_lineMany v_this_notSign v_this_notKind v_this_measureMany f_this_area f_this_y0 f_this_y1 f_this_said f_this_low f_this_high f_this_least f_this_price f_this_rest f_this_read) := hw
    refine z_if_ne S (tgt := 22) h dX8_read_16 (by decide) (fun h => ?_) (fun h => ?_)
    · refine lv_aload_n S.1 S.2.1 dX8_read_22 rfl (lv_at hl 0 rfl) ?_
      obtain ⟨y2, f3, f4, hc, h⟩ := z_b3_e h
      refine z_callVi (As := []) (rest := []) S (c_X8_findBest l D cI cJ cZ a_this a_this_board a_this_area a_this_x0 a_this_y0 a_this_x1 a_this_y1 a_this_head a_this_said a_this_low a_this_high a_this_least a_this_price a_this_way a_this_lineFirst a_this_lineLast a_this_left a_this_pile a_this_rest a_this_read a_this_measure a_this_wentBack v_this_run v_this_signs v_this_lastSigns v_this_dirt v_this_time v_this_lineMany v_this_notSign v_this_notKind v_this_measureMany f_this_area f_this_y0 f_this_y1 f_this_said f_this_low f_this_high f_this_least f_this_price f_this_rest f_this_read K _ hc) (cwV 0 S.2.2.2.2 (gw_V gw_903 gw_905 gw_41 gw_58 gw_906) rfl rfl rfl hd_X8_findBest ⟨Nat.le_of_ble_eq_true rfl, Nat.le_of_ble_eq_true rfl⟩) hK hA hw [0, 1, 2, 3, 4, 5, 6, 7, 8, 9, 10] (by decide) rfl rfl [some 0, some 1, some 2, some 3, some 4, some 5, some 6, some 7, some 8, some 9, some 10] rfl (by decide) 0 rfl rfl hl.1 rfl rfl (lv_room (Nat.le_of_ble_eq_true rfl)) ⟨Nat.zero_le _, Nat.zero_le _⟩ dX8_read_23 (fun H locs hw => ?_)
      replace hw : zW D A s H locs (wd_X8_read cI cJ cZ a_this a_this_board a_this_area a_this_x0 a_this_y0 a_this_x1 a_this_y1 a_this_head a_this_said a_this_low a_this_high a_this_least a_this_price a_this_way a_this_lineFirst a_this_lineLast a_this_left a_this_pile a_this_rest a_this_read a_this_measure a_this_wentBack v_this_run v_this_signs v_this_lastSigns v_this_dirt v_this_time v_this_lineMany v_this_notSign v_this_notKind v_this_measureMany f_this_area f_this_y0 f_this_y1 f_this_said f_this_low f_this_high f_this_least f_this_price f3 f4) := hw
      refine z_if_ge S (tgt := 34) h dX8_read_26 (by decide) (fun h => ?_) (fun h => ?_)
      · refine lv_aload_n S.1 S.2.1 dX8_read_34 rfl (lv_at hl 0 rfl) ?_
        refine z_get S (C := RX8) (T := TX8) (N := 30) (gi gu_X8) hK hw 0 rfl rfl 26 (Nat.le_of_ble_eq_true rfl) (List.mem_cons_of_mem _ gw_737) rfl dX8_read_35 ?_
        refine lv_iload_n S.1 S.2.1 dX8_read_38 rfl (lv_at hl 1 rfl) ?_
        refine z_iald S hK hw 10 0 rfl rfl h dX8_read_39 (fun y5 h => ?_)
        exact ret (y5, f3, f4) h 40 ls _ _ dX8_read_40 hw
      · refine lv_bipush (v := (-3)) S.1 S.2.1 dX8_read_29 (by decide) ?_
        refine lv_goto (tgt := 40) S.1 S.2.1 dX8_read_31 (by decide) ?_
        exact ret ((-3), f3, f4) h 40 ls _ _ dX8_read_40 hw
    · refine lv_bipush (v := (-2)) S.1 S.2.1 dX8_read_19 (by decide) ?_
      exact ret ((-2), f_this_rest, f_this_read) h 21 ls _ _ dX8_read_21 hw
  · refine lv_bipush (v := (-3)) S.1 S.2.1 dX8_read_8 (by decide) ?_
    exact ret ((-3), f_this_rest, f_this_read) h 10 ls _ _ dX8_read_10 hw
def gs_X8_doubtOf : List Cond := Cond.code yX8_doubtOf cX8_doubtOf 4 (some .int) :: GW
def wd_X8_doubtOf (cI cJ cZ : ClassId) (a_this a_this_board a_this_area a_this_x0 a_this_y0 a_this_x1 a_this_y1 a_this_head a_this_said a_this_low a_this_high a_this_least a_this_price a_this_way a_this_lineFirst a_this_lineLast a_this_left a_this_pile a_this_rest a_this_read a_this_measure a_this_wentBack : Nat) (v_this_run : Int32) (v_this_signs : Int32) (v_this_lastSigns : Int32) (v_this_dirt : Int32) (v_this_time : Int32) (v_this_lineMany : Int32) (v_this_notSign : Int32) (v_this_notKind : Int32) (v_this_measureMany : Int32) (f_this_area : Nat → Int32) (f_this_y0 : Nat → Int32) (f_this_y1 : Nat → Int32) (f_this_said : Nat → Int32) (f_this_low : Nat → Int32) (f_this_high : Nat → Int32) (f_this_least : Nat → Int32) (f_this_price : Nat → Int32) (f_this_rest : Nat → Int32) (f_this_read : Nat → Int32) : va_W := [(a_this, .inr (8, [.ref a_this_board, .int v_this_run, .int v_this_signs, .int v_this_lastSigns, .ref a_this_area, .ref a_this_x0, .ref a_this_y0, .ref a_this_x1, .ref a_this_y1, .ref a_this_head, .ref a_this_said, .ref a_this_low, .ref a_this_high, .ref a_this_least, .ref a_this_price, .int v_this_dirt, .int v_this_time, .ref a_this_way, .int v_this_lineMany, .ref a_this_lineFirst, .ref a_this_lineLast, .ref a_this_left, .ref a_this_pile, .ref a_this_rest, .int v_this_notSign, .int v_this_notKind, .ref a_this_read, .ref a_this_measure, .int v_this_measureMany, .ref a_this_wentBack])), (a_this_area, .inl (cI, 40, .inl f_this_area)), (a_this_y0, .inl (cI, 40, .inl f_this_y0)), (a_this_y1, .inl (cI, 40, .inl f_this_y1)), (a_this_said, .inl (cI, 40, .inl f_this_said)), (a_this_low, .inl (cI, 6, .inl f_this_low)), (a_this_high, .inl (cI, 6, .inl f_this_high)), (a_this_least, .inl (cI, 6, .inl f_this_least)), (a_this_price, .inl (cI, 6, .inl f_this_price)), (a_this_rest, .inl (cI, 6027, .inl f_this_rest)), (a_this_read, .inl (cI, 40, .inl f_this_read))]
abbrev rm_X8_doubtOf : Room := { frames := 3, cells := 0, slots := 0, locals := 76 }
theorem hd_X8_doubtOf : yX8_doubtOf.cls = RX8 ∧ yX8_doubtOf.cls ≠ "java/lang/invoke/MethodHandle" ∧ yX8_doubtOf.cls ≠ "java/lang/invoke/VarHandle" ∧ (parseMethodDescriptor yX8_doubtOf.desc).map (fun d => d.parameters.length) = some 2 := by decide +kernel
set_option maxHeartbeats 4000000 in
set_option maxRecDepth 100000 in
theorem c_X8_doubtOf (l : Launch) (D : va_G) (cI cJ cZ : ClassId) (a_this a_this_board a_this_area a_this_x0 a_this_y0 a_this_x1 a_this_y1 a_this_head a_this_said a_this_low a_this_high a_this_least a_this_price a_this_way a_this_lineFirst a_this_lineLast a_this_left a_this_pile a_this_rest a_this_read a_this_measure a_this_wentBack : Nat) (v_this_run : Int32) (v_this_signs : Int32) (v_this_lastSigns : Int32) (v_this_dirt : Int32) (v_this_time : Int32) (v_this_lineMany : Int32) (v_this_notSign : Int32) (v_this_notKind : Int32) (v_this_measureMany : Int32) (f_this_area : Nat → Int32) (f_this_y0 : Nat → Int32) (f_this_y1 : Nat → Int32) (f_this_said : Nat → Int32) (f_this_low : Nat → Int32) (f_this_high : Nat → Int32) (f_this_least : Nat → Int32) (f_this_price : Nat → Int32) (f_this_rest : Nat → Int32) (f_this_read : Nat → Int32) (K : Nat) (i1 : Int32) (i2 : Int32) (o : Int32 × Int32 × Int32 × (Nat → Int32)) (h : p_X8_doubtOf K v_this_signs v_this_dirt v_this_time v_this_notSign v_this_notKind f_this_area f_this_y0 f_this_y1 f_this_said f_this_low f_this_high f_this_least f_this_price f_this_rest f_this_read i1 i2 = some o) : zMi l D (zT cI cJ cZ) yX8_doubtOf gs_X8_doubtOf rm_X8_doubtOf [.ref a_this, .int i1, .int i2] (wd_X8_doubtOf cI cJ cZ a_this a_this_board a_this_area a_this_x0 a_this_y0 a_this_x1 a_this_y1 a_this_head a_this_said a_this_low a_this_high a_this_least a_this_price a_this_way a_this_lineFirst a_this_lineLast a_this_left a_this_pile a_this_rest a_this_read a_this_measure a_this_wentBack v_this_run v_this_signs v_this_lastSigns v_this_dirt v_this_time v_this_lineMany v_this_notSign v_this_notKind v_this_measureMany f_this_area f_this_y0 f_this_y1 f_this_said f_this_low f_this_high f_this_least f_this_price f_this_rest f_this_read) (wd_X8_doubtOf cI cJ cZ a_this a_this_board a_this_area a_this_x0 a_this_y0 a_this_x1 a_this_y1 a_this_head a_this_said a_this_low a_this_high a_this_least a_this_price a_this_way a_this_lineFirst a_this_lineLast a_this_left a_this_pile a_this_rest a_this_read a_this_measure a_this_wentBack v_this_run v_this_signs v_this_lastSigns v_this_dirt v_this_time v_this_lineMany (o.2.1) (o.2.2.1) v_this_measureMany f_this_area f_this_y0 f_this_y1 f_this_said f_this_low f_this_high f_this_least f_this_price (o.2.2.2) f_this_read) (o.1) := by
  refine zMet_i (own := RX8) (fun u : Int32 × Int32 × Int32 × (Nat → Int32) => (wd_X8_doubtOf cI cJ cZ a_this a_this_board a_this_area a_this_x0 a_this_y0 a_this_x1 a_this_y1 a_this_head a_this_said a_this_low a_this_high a_this_least a_this_price a_this_way a_this_lineFirst a_this_lineLast a_this_left a_this_pile a_this_rest a_this_read a_this_measure a_this_wentBack v_this_run v_this_signs v_this_lastSigns v_this_dirt v_this_time v_this_lineMany (u.2.1) (u.2.2.1) v_this_measureMany f_this_area f_this_y0 f_this_y1 f_this_said f_this_low f_this_high f_this_least f_this_price (u.2.2.2) f_this_read)) (fun u : Int32 × Int32 × Int32 × (Nat → Int32) => u.1) (by decide) rfl rfl (Nat.le_of_ble_eq_true rfl) ?_
  intro p e s m args below meth c A Q S hK hA hw ret ls hl
  replace hl : lv_has ls 4 [(0, .ref a_this), (1, .int i1), (2, .int i2)] := hl
  refine lv_aload_n S.1 S.2.1 dX8_doubtOf_0 rfl (lv_at hl 0 rfl) ?_
  refine lv_iload_n S.1 S.2.1 dX8_doubtOf_1 rfl (lv_at hl 1 rfl) ?_
  refine z_put S (C := RX8) (T := TX8) (N := 30) (gi gu_X8) tyX8 tyX8_ok nmX8 hK hw 0 rfl rfl 24 (Nat.le_of_ble_eq_true rfl) (List.mem_cons_of_mem _ gw_735) rfl rfl rfl (Nat.le_of_ble_eq_true rfl) dX8_doubtOf_2 (fun H locs hw => ?_)
  replace hw : zW D A s H locs (wd_X8_doubtOf cI cJ cZ a_this a_this_board a_this_area a_this_x0 a_this_y0 a_this_x1 a_this_y1 a_this_head a_this_said a_this_low a_this_high a_this_least a_this_price a_this_way a_this_lineFirst a_this_lineLast a_this_left a_this_pile a_this_rest a_this_read a_this_measure a_this_wentBack v_this_run v_this_signs v_this_lastSigns v_this_dirt v_this_time v_this_lineMany i1 v_this_notKind v_this_measureMany f_this_area f_this_y0 f_this_y1 f_this_said f_this_low f_this_high f_this_least f_this_price f_this_rest f_this_read) := hw
  refine lv_aload_n S.1 S.2.1 dX8_doubtOf_5 rfl (lv_at hl 0 rfl) ?_
  refine lv_aload_n S.1 S.2.1 dX8_doubtOf_6 rfl (lv_at hl 0 rfl) ?_
  refine z_get S (C := RX8) (T := TX8) (N := 30) (gi gu_X8) hK hw 0 rfl rfl 26 (Nat.le_of_ble_eq_true rfl) (List.mem_cons_of_mem _ gw_737) rfl dX8_doubtOf_7 ?_
  refine lv_iload_n S.1 S.2.1 dX8_doubtOf_10 rfl (lv_at hl 1 rfl) ?_
  refine z_iald S hK hw 10 0 rfl rfl h dX8_doubtOf_11 (fun y1 h => ?_)
  refine z_put S (C := RX8) (T := TX8) (N := 30) (gi gu_X8) tyX8 tyX8_ok nmX8 hK hw 0 rfl rfl 25 (Nat.le_of_ble_eq_true rfl) (List.mem_cons_of_mem _ gw_736) rfl rfl rfl (Nat.le_of_ble_eq_true rfl) dX8_doubtOf_12 (fun H locs hw => ?_)
  replace hw : zW D A s H locs (wd_X8_doubtOf cI cJ cZ a_this a_this_board a_this_area a_this_x0 a_this_y0 a_this_x1 a_this_y1 a_this_head a_this_said a_this_low a_this_high a_this_least a_this_price a_this_way a_this_lineFirst a_this_lineLast a_this_left a_this_pile a_this_rest a_this_read a_this_measure a_this_wentBack v_this_run v_this_signs v_this_lastSigns v_this_dirt v_this_time v_this_lineMany i1 y1 v_this_measureMany f_this_area f_this_y0 f_this_y1 f_this_said f_this_low f_this_high f_this_least f_this_price f_this_rest f_this_read) := hw
  refine lv_aload_n S.1 S.2.1 dX8_doubtOf_15 rfl (lv_at hl 0 rfl) ?_
  obtain ⟨y2, f3, hc, h⟩ := z_b2_e h
  refine z_callVi (As := []) (rest := []) S (c_X8_leastNow l D cI cJ cZ a_this a_this_board a_this_area a_this_x0 a_this_y0 a_this_x1 a_this_y1 a_this_head a_this_said a_this_low a_this_high a_this_least a_this_price a_this_way a_this_lineFirst a_this_lineLast a_this_left a_this_pile a_this_rest a_this_read a_this_measure a_this_wentBack v_this_run v_this_signs v_this_lastSigns v_this_dirt v_this_time v_this_lineMany i1 y1 v_this_measureMany f_this_area f_this_y0 f_this_y1 f_this_said f_this_low f_this_high f_this_least f_this_price f_this_rest K _ hc) (cwV 0 S.2.2.2.2 (gw_V gw_907 gw_909 gw_42 gw_58 gw_910) rfl rfl rfl hd_X8_leastNow ⟨Nat.le_of_ble_eq_true rfl, Nat.le_of_ble_eq_true rfl⟩) hK hA hw [0, 1, 2, 3, 4, 5, 6, 7, 8, 9] (by decide) rfl rfl [some 0, some 1, some 2, some 3, some 4, some 5, some 6, some 7, some 8, some 9, none] rfl (by decide) 0 rfl rfl hl.1 rfl rfl (lv_room (Nat.le_of_ble_eq_true rfl)) ⟨Nat.zero_le _, Nat.zero_le _⟩ dX8_doubtOf_16 (fun H locs hw => ?_)
  replace hw : zW D A s H locs (wd_X8_doubtOf cI cJ cZ a_this a_this_board a_this_area a_this_x0 a_this_y0 a_this_x1 a_this_y1 a_this_head a_this_said a_this_low a_this_high a_this_least a_this_price a_this_way a_this_lineFirst a_this_lineLast a_this_left a_this_pile a_this_rest a_this_read a_this_measure a_this_wentBack v_this_run v_this_signs v_this_lastSigns v_this_dirt v_this_time v_this_lineMany i1 y1 v_this_measureMany f_this_area f_this_y0 f_this_y1 f_this_said f_this_low f_this_high f_this_least f_this_price f3 f_this_read) := hw
  refine lv_istore_n (lv' := [(3, .int y2), (0, .ref a_this), (1, .int i1), (2, .int i2)]) S.1 S.2.1 dX8_doubtOf_19 rfl hl (by decide) rfl (fun ls hl => ?_)
  refine lv_aload_n S.1 S.2.1 dX8_doubtOf_20 rfl (lv_at hl 1 rfl) ?_
  refine lv_iconst (v := (-1)) S.1 S.2.1 dX8_doubtOf_21 (by decide) ?_
  refine z_put S (C := RX8) (T := TX8) (N := 30) (gi gu_X8) tyX8 tyX8_ok nmX8 hK hw 0 rfl rfl 24 (Nat.le_of_ble_eq_true rfl) (List.mem_cons_of_mem _ gw_735) rfl rfl rfl (Nat.le_of_ble_eq_true rfl) dX8_doubtOf_22 (fun H locs hw => ?_)
  replace hw : zW D A s H locs (wd_X8_doubtOf cI cJ cZ a_this a_this_board a_this_area a_this_x0 a_this_y0 a_this_x1 a_this_y1 a_this_head a_this_said a_this_low a_this_high a_this_least a_this_price a_this_way a_this_lineFirst a_this_lineLast a_this_left a_this_pile a_this_rest a_this_read a_this_measure a_this_wentBack v_this_run v_this_signs v_this_lastSigns v_this_dirt v_this_time v_this_lineMany (-1) y1 v_this_measureMany f_this_area f_this_y0 f_this_y1 f_this_said f_this_low f_this_high f_this_least f_this_price f3 f_this_read) := hw
  refine lv_aload_n S.1 S.2.1 dX8_doubtOf_25 rfl (lv_at hl 1 rfl) ?_
  refine lv_iconst (v := (-1)) S.1 S.2.1 dX8_doubtOf_26 (by decide) ?_
  refine z_put S (C := RX8) (T := TX8) (N := 30) (gi gu_X8) tyX8 tyX8_ok nmX8 hK hw 0 rfl rfl 25 (Nat.le_of_ble_eq_true rfl) (List.mem_cons_of_mem _ gw_736) rfl rfl rfl (Nat.le_of_ble_eq_true rfl) dX8_doubtOf_27 (fun H locs hw => ?_)
  replace hw : zW D A s H locs (wd_X8_doubtOf cI cJ cZ a_this a_this_board a_this_area a_this_x0 a_this_y0 a_this_x1 a_this_y1 a_this_head a_this_said a_this_low a_this_high a_this_least a_this_price a_this_way a_this_lineFirst a_this_lineLast a_this_left a_this_pile a_this_rest a_this_read a_this_measure a_this_wentBack v_this_run v_this_signs v_this_lastSigns v_this_dirt v_this_time v_this_lineMany (-1) (-1) v_this_measureMany f_this_area f_this_y0 f_this_y1 f_this_said f_this_low f_this_high f_this_least f_this_price f3 f_this_read) := hw
  refine lv_iload_n S.1 S.2.1 dX8_doubtOf_30 rfl (lv_at hl 0 rfl) ?_
  refine lv_ldc (v := 10000000) S.1 S.2.1 S.2.2.2.1 (S.2.2.2.2 _ (List.mem_cons_of_mem _ gw_911)) dX8_doubtOf_31 ?_
  refine z_icmp_lt S (tgt := 40) h dX8_doubtOf_33 (by decide) (fun h => ?_) (fun h => ?_)
  · refine lv_iload_n S.1 S.2.1 dX8_doubtOf_40 rfl (lv_at hl 0 rfl) ?_
    refine lv_iload_n S.1 S.2.1 dX8_doubtOf_41 rfl (lv_at hl 3 rfl) ?_
    refine lv_isub S.1 S.2.1 dX8_doubtOf_42 ?_
    exact ret ((y2 - i2), (-1), (-1), f3) h 43 ls _ _ dX8_doubtOf_43 hw
  · refine lv_iconst (v := (-1)) S.1 S.2.1 dX8_doubtOf_36 (by decide) ?_
    refine lv_goto (tgt := 43) S.1 S.2.1 dX8_doubtOf_37 (by decide) ?_
    exact ret ((-1), (-1), (-1), f3) h 43 ls _ _ dX8_doubtOf_43 hw
theorem gw_934 : Cond.methodLink RX8 176 yX8_doubtOf ∈ GW := GW_of 934 (by decide +kernel) (by decide +kernel)
theorem gw_937 : Cond.code yX8_doubtOf cX8_doubtOf 4 (some .int) ∈ GW := GW_of 937 (by decide +kernel) (by decide +kernel)
theorem gw_936 : Cond.instanceMethod yX8_doubtOf ∈ GW := GW_of 936 (by decide +kernel) (by decide +kernel)
theorem gw_45 : Cond.selects RX8 yX8_doubtOf yX8_doubtOf ∈ GW := GW_of 45 (by decide +kernel) (by decide +kernel)
def gs_X8_doubt : List Cond := Cond.code yX8_doubt cX8_doubt 3 (some .int) :: GW
def wd_X8_doubt (cI cJ cZ : ClassId) (a_this a_this_board a_this_area a_this_x0 a_this_y0 a_this_x1 a_this_y1 a_this_head a_this_said a_this_low a_this_high a_this_least a_this_price a_this_way a_this_lineFirst a_this_lineLast a_this_left a_this_pile a_this_rest a_this_read a_this_measure a_this_wentBack : Nat) (v_this_run : Int32) (v_this_signs : Int32) (v_this_lastSigns : Int32) (v_this_dirt : Int32) (v_this_time : Int32) (v_this_lineMany : Int32) (v_this_notSign : Int32) (v_this_notKind : Int32) (v_this_measureMany : Int32) (f_this_area : Nat → Int32) (f_this_y0 : Nat → Int32) (f_this_y1 : Nat → Int32) (f_this_said : Nat → Int32) (f_this_low : Nat → Int32) (f_this_high : Nat → Int32) (f_this_least : Nat → Int32) (f_this_price : Nat → Int32) (f_this_rest : Nat → Int32) (f_this_read : Nat → Int32) : va_W := [(a_this, .inr (8, [.ref a_this_board, .int v_this_run, .int v_this_signs, .int v_this_lastSigns, .ref a_this_area, .ref a_this_x0, .ref a_this_y0, .ref a_this_x1, .ref a_this_y1, .ref a_this_head, .ref a_this_said, .ref a_this_low, .ref a_this_high, .ref a_this_least, .ref a_this_price, .int v_this_dirt, .int v_this_time, .ref a_this_way, .int v_this_lineMany, .ref a_this_lineFirst, .ref a_this_lineLast, .ref a_this_left, .ref a_this_pile, .ref a_this_rest, .int v_this_notSign, .int v_this_notKind, .ref a_this_read, .ref a_this_measure, .int v_this_measureMany, .ref a_this_wentBack])), (a_this_area, .inl (cI, 40, .inl f_this_area)), (a_this_y0, .inl (cI, 40, .inl f_this_y0)), (a_this_y1, .inl (cI, 40, .inl f_this_y1)), (a_this_said, .inl (cI, 40, .inl f_this_said)), (a_this_low, .inl (cI, 6, .inl f_this_low)), (a_this_high, .inl (cI, 6, .inl f_this_high)), (a_this_least, .inl (cI, 6, .inl f_this_least)), (a_this_price, .inl (cI, 6, .inl f_this_price)), (a_this_rest, .inl (cI, 6027, .inl f_this_rest)), (a_this_read, .inl (cI, 40, .inl f_this_read))]
abbrev rm_X8_doubt : Room := { frames := 4, cells := 0, slots := 0, locals := 101 }
theorem hd_X8_doubt : yX8_doubt.cls = RX8 ∧ yX8_doubt.cls ≠ "java/lang/invoke/MethodHandle" ∧ yX8_doubt.cls ≠ "java/lang/invoke/VarHandle" ∧ (parseMethodDescriptor yX8_doubt.desc).map (fun d => d.parameters.length) = some 1 := by decide +kernel
set_option maxHeartbeats 4000000 in
set_option maxRecDepth 100000 in
theorem c_X8_doubt (l : Launch) (D : va_G) (cI cJ cZ : ClassId) (a_this a_this_board a_this_area a_this_x0 a_this_y0 a_this_x1 a_this_y1 a_this_head a_this_said a_this_low a_this_high a_this_least a_this_price a_this_way a_this_lineFirst a_this_lineLast a_this_left a_this_pile a_this_rest a_this_read a_this_measure a_this_wentBack : Nat) (v_this_run : Int32) (v_this_signs : Int32) (v_this_lastSigns : Int32) (v_this_dirt : Int32) (v_this_time : Int32) (v_this_lineMany : Int32) (v_this_notSign : Int32) (v_this_notKind : Int32) (v_this_measureMany : Int32) (f_this_area : Nat → Int32) (f_this_y0 : Nat → Int32) (f_this_y1 : Nat → Int32) (f_this_said : Nat → Int32) (f_this_low : Nat → Int32) (f_this_high : Nat → Int32) (f_this_least : Nat → Int32) (f_this_price : Nat → Int32) (f_this_rest : Nat → Int32) (f_this_read : Nat → Int32) (K : Nat) (i1 : Int32) (o : Int32 × Int32 × Int32 × (Nat → Int32) × (Nat → Int32)) (h : p_X8_doubt K v_this_signs v_this_dirt v_this_time v_this_notSign v_this_notKind f_this_area f_this_y0 f_this_y1 f_this_said f_this_low f_this_high f_this_least f_this_price f_this_rest f_this_read i1 = some o) : zMi l D (zT cI cJ cZ) yX8_doubt gs_X8_doubt rm_X8_doubt [.ref a_this, .int i1] (wd_X8_doubt cI cJ cZ a_this a_this_board a_this_area a_this_x0 a_this_y0 a_this_x1 a_this_y1 a_this_head a_this_said a_this_low a_this_high a_this_least a_this_price a_this_way a_this_lineFirst a_this_lineLast a_this_left a_this_pile a_this_rest a_this_read a_this_measure a_this_wentBack v_this_run v_this_signs v_this_lastSigns v_this_dirt v_this_time v_this_lineMany v_this_notSign v_this_notKind v_this_measureMany f_this_area f_this_y0 f_this_y1 f_this_said f_this_low f_this_high f_this_least f_this_price f_this_rest f_this_read) (wd_X8_doubt cI cJ cZ a_this a_this_board a_this_area a_this_x0 a_this_y0 a_this_x1 a_this_y1 a_this_head a_this_said a_this_low a_this_high a_this_least a_this_price a_this_way a_this_lineFirst a_this_lineLast a_this_left a_this_pile a_this_rest a_this_read a_this_measure a_this_wentBack v_this_run v_this_signs v_this_lastSigns v_this_dirt v_this_time v_this_lineMany (o.2.1) (o.2.2.1) v_this_measureMany f_this_area f_this_y0 f_this_y1 f_this_said f_this_low f_this_high f_this_least f_this_price (o.2.2.2.1) (o.2.2.2.2)) (o.1) := by
  refine zMet_i (own := RX8) (fun u : Int32 × Int32 × Int32 × (Nat → Int32) × (Nat → Int32) => (wd_X8_doubt cI cJ cZ a_this a_this_board a_this_area a_this_x0 a_this_y0 a_this_x1 a_this_y1 a_this_head a_this_said a_this_low a_this_high a_this_least a_this_price a_this_way a_this_lineFirst a_this_lineLast a_this_left a_this_pile a_this_rest a_this_read a_this_measure a_this_wentBack v_this_run v_this_signs v_this_lastSigns v_this_dirt v_this_time v_this_lineMany (u.2.1) (u.2.2.1) v_this_measureMany f_this_area f_this_y0 f_this_y1 f_this_said f_this_low f_this_high f_this_least f_this_price (u.2.2.2.1) (u.2.2.2.2))) (fun u : Int32 × Int32 × Int32 × (Nat → Int32) × (Nat → Int32) => u.1) (by decide) rfl rfl (Nat.le_of_ble_eq_true rfl) ?_
  intro p e s m args below meth c A Q S hK hA hw ret ls hl
  replace hl : lv_has ls 3 [(0, .ref a_this), (1, .int i1)] := hl
  refine lv_aload_n S.1 S.2.1 dX8_doubt_0 rfl (lv_at hl 0 rfl) ?_
  refine z_get S (C := RX8) (T := TX8) (N := 30) (gi gu_X8) hK hw 0 rfl rfl 2 (Nat.le_of_ble_eq_true rfl) (List.mem_cons_of_mem _ gw_713) rfl dX8_doubt_1 ?_
  refine lv_iconst (v := (-1)) S.1 S.2.1 dX8_doubt_4 (by decide) ?_
  refine z_icmp_ne S (tgt := 11) h dX8_doubt_5 (by decide) (fun h => ?_) (fun h => ?_)
  · refine lv_aload_n S.1 S.2.1 dX8_doubt_11 rfl (lv_at hl 0 rfl) ?_
    refine lv_iload_n S.1 S.2.1 dX8_doubt_12 rfl (lv_at hl 1 rfl) ?_
    obtain ⟨y1, hc, h⟩ := z_b1_e h
    refine z_callVi (As := [.int i1]) (rest := []) S (c_X8_isSign l D cI cJ cZ a_this a_this_board a_this_area a_this_x0 a_this_y0 a_this_x1 a_this_y1 a_this_head a_this_said a_this_low a_this_high a_this_least a_this_price a_this_way a_this_lineFirst a_this_lineLast a_this_left a_this_pile a_this_rest a_this_read a_this_measure a_this_wentBack v_this_run v_this_signs v_this_lastSigns v_this_dirt v_this_time v_this_lineMany v_this_notSign v_this_notKind v_this_measureMany i1 _ hc) (cwV 1 S.2.2.2.2 (gw_V gw_878 gw_880 gw_39 gw_58 gw_881) rfl rfl rfl hd_X8_isSign ⟨Nat.le_of_ble_eq_true rfl, Nat.le_of_ble_eq_true rfl⟩) hK hA hw [0] (by decide) rfl rfl [some 0, none, none, none, none, none, none, none, none, none, none] rfl (by decide) 0 rfl rfl hl.1 rfl rfl (lv_room (Nat.le_of_ble_eq_true rfl)) ⟨Nat.zero_le _, Nat.zero_le _⟩ dX8_doubt_13 (fun H locs hw => ?_)
    replace hw : zW D A s H locs (wd_X8_doubt cI cJ cZ a_this a_this_board a_this_area a_this_x0 a_this_y0 a_this_x1 a_this_y1 a_this_head a_this_said a_this_low a_this_high a_this_least a_this_price a_this_way a_this_lineFirst a_this_lineLast a_this_left a_this_pile a_this_rest a_this_read a_this_measure a_this_wentBack v_this_run v_this_signs v_this_lastSigns v_this_dirt v_this_time v_this_lineMany v_this_notSign v_this_notKind v_this_measureMany f_this_area f_this_y0 f_this_y1 f_this_said f_this_low f_this_high f_this_least f_this_price f_this_rest f_this_read) := hw
    refine z_if_ne S (tgt := 22) h dX8_doubt_16 (by decide) (fun h => ?_) (fun h => ?_)
    · refine lv_aload_n S.1 S.2.1 dX8_doubt_22 rfl (lv_at hl 0 rfl) ?_
      obtain ⟨y2, f3, f4, hc, h⟩ := z_b3_e h
      refine z_callVi (As := []) (rest := []) S (c_X8_findBest l D cI cJ cZ a_this a_this_board a_this_area a_this_x0 a_this_y0 a_this_x1 a_this_y1 a_this_head a_this_said a_this_low a_this_high a_this_least a_this_price a_this_way a_this_lineFirst a_this_lineLast a_this_left a_this_pile a_this_rest a_this_read a_this_measure a_this_wentBack v_this_run v_this_signs v_this_lastSigns v_this_dirt v_this_time v_this_lineMany v_this_notSign v_this_notKind v_this_measureMany f_this_area f_this_y0 f_this_y1 f_this_said f_this_low f_this_high f_this_least f_this_price f_this_rest f_this_read K _ hc) (cwV 0 S.2.2.2.2 (gw_V gw_903 gw_905 gw_41 gw_58 gw_906) rfl rfl rfl hd_X8_findBest ⟨Nat.le_of_ble_eq_true rfl, Nat.le_of_ble_eq_true rfl⟩) hK hA hw [0, 1, 2, 3, 4, 5, 6, 7, 8, 9, 10] (by decide) rfl rfl [some 0, some 1, some 2, some 3, some 4, some 5, some 6, some 7, some 8, some 9, some 10] rfl (by decide) 0 rfl rfl hl.1 rfl rfl (lv_room (Nat.le_of_ble_eq_true rfl)) ⟨Nat.zero_le _, Nat.zero_le _⟩ dX8_doubt_23 (fun H locs hw => ?_)
      replace hw : zW D A s H locs (wd_X8_doubt cI cJ cZ a_this a_this_board a_this_area a_this_x0 a_this_y0 a_this_x1 a_this_y1 a_this_head a_this_said a_this_low a_this_high a_this_least a_this_price a_this_way a_this_lineFirst a_this_lineLast a_this_left a_this_pile a_this_rest a_this_read a_this_measure a_this_wentBack v_this_run v_this_signs v_this_lastSigns v_this_dirt v_this_time v_this_lineMany v_this_notSign v_this_notKind v_this_measureMany f_this_area f_this_y0 f_this_y1 f_this_said f_this_low f_this_high f_this_least f_this_price f3 f4) := hw
      refine lv_istore_n (lv' := [(2, .int y2), (0, .ref a_this), (1, .int i1)]) S.1 S.2.1 dX8_doubt_26 rfl hl (by decide) rfl (fun ls hl => ?_)
      refine lv_iload_n S.1 S.2.1 dX8_doubt_27 rfl (lv_at hl 0 rfl) ?_
      refine z_if_ge S (tgt := 36) h dX8_doubt_28 (by decide) (fun h => ?_) (fun h => ?_)
      · refine lv_aload_n S.1 S.2.1 dX8_doubt_36 rfl (lv_at hl 1 rfl) ?_
        refine lv_iload_n S.1 S.2.1 dX8_doubt_37 rfl (lv_at hl 2 rfl) ?_
        refine lv_iload_n S.1 S.2.1 dX8_doubt_38 rfl (lv_at hl 0 rfl) ?_
        obtain ⟨y5, v6, v7, f8, hc, h⟩ := z_b4_e h
        refine z_callVi (As := [.int i1, .int y2]) (rest := []) S (c_X8_doubtOf l D cI cJ cZ a_this a_this_board a_this_area a_this_x0 a_this_y0 a_this_x1 a_this_y1 a_this_head a_this_said a_this_low a_this_high a_this_least a_this_price a_this_way a_this_lineFirst a_this_lineLast a_this_left a_this_pile a_this_rest a_this_read a_this_measure a_this_wentBack v_this_run v_this_signs v_this_lastSigns v_this_dirt v_this_time v_this_lineMany v_this_notSign v_this_notKind v_this_measureMany f_this_area f_this_y0 f_this_y1 f_this_said f_this_low f_this_high f_this_least f_this_price f3 f4 K i1 y2 _ hc) (cwV 2 S.2.2.2.2 (gw_V gw_934 gw_936 gw_45 gw_58 gw_937) rfl rfl rfl hd_X8_doubtOf ⟨Nat.le_of_ble_eq_true rfl, Nat.le_of_ble_eq_true rfl⟩) hK hA hw [0, 1, 2, 3, 4, 5, 6, 7, 8, 9, 10] (by decide) rfl rfl [some 0, some 1, some 2, some 3, some 4, some 5, some 6, some 7, some 8, some 9, some 10] rfl (by decide) 0 rfl rfl hl.1 rfl rfl (lv_room (Nat.le_of_ble_eq_true rfl)) ⟨Nat.zero_le _, Nat.zero_le _⟩ dX8_doubt_39 (fun H locs hw => ?_)
        replace hw : zW D A s H locs (wd_X8_doubt cI cJ cZ a_this a_this_board a_this_area a_this_x0 a_this_y0 a_this_x1 a_this_y1 a_this_head a_this_said a_this_low a_this_high a_this_least a_this_price a_this_way a_this_lineFirst a_this_lineLast a_this_left a_this_pile a_this_rest a_this_read a_this_measure a_this_wentBack v_this_run v_this_signs v_this_lastSigns v_this_dirt v_this_time v_this_lineMany v6 v7 v_this_measureMany f_this_area f_this_y0 f_this_y1 f_this_said f_this_low f_this_high f_this_least f_this_price f8 f4) := hw
        exact ret (y5, v6, v7, f8, f4) h 42 ls _ _ dX8_doubt_42 hw
      · refine lv_bipush (v := (-3)) S.1 S.2.1 dX8_doubt_31 (by decide) ?_
        refine lv_goto (tgt := 42) S.1 S.2.1 dX8_doubt_33 (by decide) ?_
        exact ret ((-3), v_this_notSign, v_this_notKind, f3, f4) h 42 ls _ _ dX8_doubt_42 hw
    · refine lv_bipush (v := (-2)) S.1 S.2.1 dX8_doubt_19 (by decide) ?_
      exact ret ((-2), v_this_notSign, v_this_notKind, f_this_rest, f_this_read) h 21 ls _ _ dX8_doubt_21 hw
  · refine lv_bipush (v := (-3)) S.1 S.2.1 dX8_doubt_8 (by decide) ?_
    exact ret ((-3), v_this_notSign, v_this_notKind, f_this_rest, f_this_read) h 10 ls _ _ dX8_doubt_10 hw
def gs_X8_question : List Cond := Cond.code yX8_question cX8_question 6 (some .int) :: GW
def wd_X8_question (cI cJ cZ : ClassId) (a_this a_this_board a_this_area a_this_x0 a_this_y0 a_this_x1 a_this_y1 a_this_head a_this_said a_this_low a_this_high a_this_least a_this_price a_this_way a_this_lineFirst a_this_lineLast a_this_left a_this_pile a_this_rest a_this_read a_this_measure a_this_wentBack : Nat) (v_this_run : Int32) (v_this_signs : Int32) (v_this_lastSigns : Int32) (v_this_dirt : Int32) (v_this_time : Int32) (v_this_lineMany : Int32) (v_this_notSign : Int32) (v_this_notKind : Int32) (v_this_measureMany : Int32) (f_this_area : Nat → Int32) (f_this_y0 : Nat → Int32) (f_this_y1 : Nat → Int32) (f_this_said : Nat → Int32) (f_this_low : Nat → Int32) (f_this_high : Nat → Int32) (f_this_least : Nat → Int32) (f_this_price : Nat → Int32) (f_this_rest : Nat → Int32) (f_this_read : Nat → Int32) : va_W := [(a_this, .inr (8, [.ref a_this_board, .int v_this_run, .int v_this_signs, .int v_this_lastSigns, .ref a_this_area, .ref a_this_x0, .ref a_this_y0, .ref a_this_x1, .ref a_this_y1, .ref a_this_head, .ref a_this_said, .ref a_this_low, .ref a_this_high, .ref a_this_least, .ref a_this_price, .int v_this_dirt, .int v_this_time, .ref a_this_way, .int v_this_lineMany, .ref a_this_lineFirst, .ref a_this_lineLast, .ref a_this_left, .ref a_this_pile, .ref a_this_rest, .int v_this_notSign, .int v_this_notKind, .ref a_this_read, .ref a_this_measure, .int v_this_measureMany, .ref a_this_wentBack])), (a_this_area, .inl (cI, 40, .inl f_this_area)), (a_this_y0, .inl (cI, 40, .inl f_this_y0)), (a_this_y1, .inl (cI, 40, .inl f_this_y1)), (a_this_said, .inl (cI, 40, .inl f_this_said)), (a_this_low, .inl (cI, 6, .inl f_this_low)), (a_this_high, .inl (cI, 6, .inl f_this_high)), (a_this_least, .inl (cI, 6, .inl f_this_least)), (a_this_price, .inl (cI, 6, .inl f_this_price)), (a_this_rest, .inl (cI, 6027, .inl f_this_rest)), (a_this_read, .inl (cI, 40, .inl f_this_read))]
abbrev rm_X8_question : Room := { frames := 4, cells := 0, slots := 0, locals := 101 }
theorem hd_X8_question : yX8_question.cls = RX8 ∧ yX8_question.cls ≠ "java/lang/invoke/MethodHandle" ∧ yX8_question.cls ≠ "java/lang/invoke/VarHandle" ∧ (parseMethodDescriptor yX8_question.desc).map (fun d => d.parameters.length) = some 0 := by decide +kernel
set_option maxHeartbeats 4000000 in
set_option maxRecDepth 100000 in
theorem c_X8_question (l : Launch) (D : va_G) (cI cJ cZ : ClassId) (a_this a_this_board a_this_area a_this_x0 a_this_y0 a_this_x1 a_this_y1 a_this_head a_this_said a_this_low a_this_high a_this_least a_this_price a_this_way a_this_lineFirst a_this_lineLast a_this_left a_this_pile a_this_rest a_this_read a_this_measure a_this_wentBack : Nat) (v_this_run : Int32) (v_this_signs : Int32) (v_this_lastSigns : Int32) (v_this_dirt : Int32) (v_this_time : Int32) (v_this_lineMany : Int32) (v_this_notSign : Int32) (v_this_notKind : Int32) (v_this_measureMany : Int32) (f_this_area : Nat → Int32) (f_this_y0 : Nat → Int32) (f_this_y1 : Nat → Int32) (f_this_said : Nat → Int32) (f_this_low : Nat → Int32) (f_this_high : Nat → Int32) (f_this_least : Nat → Int32) (f_this_price : Nat → Int32) (f_this_rest : Nat → Int32) (f_this_read : Nat → Int32) (K : Nat) (o : Int32 × Int32 × Int32 × (Nat → Int32) × (Nat → Int32)) (h : p_X8_question K v_this_signs v_this_dirt v_this_time v_this_notSign v_this_notKind f_this_area f_this_y0 f_this_y1 f_this_said f_this_low f_this_high f_this_least f_this_price f_this_rest f_this_read = some o) : zMi l D (zT cI cJ cZ) yX8_question gs_X8_question rm_X8_question [.ref a_this] (wd_X8_question cI cJ cZ a_this a_this_board a_this_area a_this_x0 a_this_y0 a_this_x1 a_this_y1 a_this_head a_this_said a_this_low a_this_high a_this_least a_this_price a_this_way a_this_lineFirst a_this_lineLast a_this_left a_this_pile a_this_rest a_this_read a_this_measure a_this_wentBack v_this_run v_this_signs v_this_lastSigns v_this_dirt v_this_time v_this_lineMany v_this_notSign v_this_notKind v_this_measureMany f_this_area f_this_y0 f_this_y1 f_this_said f_this_low f_this_high f_this_least f_this_price f_this_rest f_this_read) (wd_X8_question cI cJ cZ a_this a_this_board a_this_area a_this_x0 a_this_y0 a_this_x1 a_this_y1 a_this_head a_this_said a_this_low a_this_high a_this_least a_this_price a_this_way a_this_lineFirst a_this_lineLast a_this_left a_this_pile a_this_rest a_this_read a_this_measure a_this_wentBack v_this_run v_this_signs v_this_lastSigns v_this_dirt v_this_time v_this_lineMany (o.2.1) (o.2.2.1) v_this_measureMany f_this_area f_this_y0 f_this_y1 f_this_said f_this_low f_this_high f_this_least f_this_price (o.2.2.2.1) (o.2.2.2.2)) (o.1) := by
  refine zMet_i (own := RX8) (fun u : Int32 × Int32 × Int32 × (Nat → Int32) × (Nat → Int32) => (wd_X8_question cI cJ cZ a_this a_this_board a_this_area a_this_x0 a_this_y0 a_this_x1 a_this_y1 a_this_head a_this_said a_this_low a_this_high a_this_least a_this_price a_this_way a_this_lineFirst a_this_lineLast a_this_left a_this_pile a_this_rest a_this_read a_this_measure a_this_wentBack v_this_run v_this_signs v_this_lastSigns v_this_dirt v_this_time v_this_lineMany (u.2.1) (u.2.2.1) v_this_measureMany f_this_area f_this_y0 f_this_y1 f_this_said f_this_low f_this_high f_this_least f_this_price (u.2.2.2.1) (u.2.2.2.2))) (fun u : Int32 × Int32 × Int32 × (Nat → Int32) × (Nat → Int32) => u.1) (by decide) rfl rfl (Nat.le_of_ble_eq_true rfl) ?_
  intro p e s m args below meth c A Q S hK hA hw ret ls hl
  replace hl : lv_has ls 6 [(0, .ref a_this)] := hl
  refine lv_aload_n S.1 S.2.1 dX8_question_0 rfl (lv_at hl 0 rfl) ?_
  obtain ⟨y1, f2, f3, hc, h⟩ := z_b3_e h
  refine z_callVi (As := []) (rest := []) S (c_X8_findBest l D cI cJ cZ a_this a_this_board a_this_area a_this_x0 a_this_y0 a_this_x1 a_this_y1 a_this_head a_this_said a_this_low a_this_high a_this_least a_this_price a_this_way a_this_lineFirst a_this_lineLast a_this_left a_this_pile a_this_rest a_this_read a_this_measure a_this_wentBack v_this_run v_this_signs v_this_lastSigns v_this_dirt v_this_time v_this_lineMany v_this_notSign v_this_notKind v_this_measureMany f_this_area f_this_y0 f_this_y1 f_this_said f_this_low f_this_high f_this_least f_this_price f_this_rest f_this_read K _ hc) (cwV 0 S.2.2.2.2 (gw_V gw_903 gw_905 gw_41 gw_58 gw_906) rfl rfl rfl hd_X8_findBest ⟨Nat.le_of_ble_eq_true rfl, Nat.le_of_ble_eq_true rfl⟩) hK hA hw [0, 1, 2, 3, 4, 5, 6, 7, 8, 9, 10] (by decide) rfl rfl [some 0, some 1, some 2, some 3, some 4, some 5, some 6, some 7, some 8, some 9, some 10] rfl (by decide) 0 rfl rfl hl.1 rfl rfl (lv_room (Nat.le_of_ble_eq_true rfl)) ⟨Nat.zero_le _, Nat.zero_le _⟩ dX8_question_1 (fun H locs hw => ?_)
  replace hw : zW D A s H locs (wd_X8_question cI cJ cZ a_this a_this_board a_this_area a_this_x0 a_this_y0 a_this_x1 a_this_y1 a_this_head a_this_said a_this_low a_this_high a_this_least a_this_price a_this_way a_this_lineFirst a_this_lineLast a_this_left a_this_pile a_this_rest a_this_read a_this_measure a_this_wentBack v_this_run v_this_signs v_this_lastSigns v_this_dirt v_this_time v_this_lineMany v_this_notSign v_this_notKind v_this_measureMany f_this_area f_this_y0 f_this_y1 f_this_said f_this_low f_this_high f_this_least f_this_price f2 f3) := hw
  refine lv_istore_n (lv' := [(1, .int y1), (0, .ref a_this)]) S.1 S.2.1 dX8_question_4 rfl hl (by decide) rfl (fun ls hl => ?_)
  refine lv_iload_n S.1 S.2.1 dX8_question_5 rfl (lv_at hl 0 rfl) ?_
  refine z_if_ge S (tgt := 12) h dX8_question_6 (by decide) (fun h => ?_) (fun h => ?_)
  · refine lv_iconst (v := (-1)) S.1 S.2.1 dX8_question_12 (by decide) ?_
    refine lv_istore_n (lv' := [(2, .int (-1)), (1, .int y1), (0, .ref a_this)]) S.1 S.2.1 dX8_question_13 rfl hl (by decide) rfl (fun ls hl => ?_)
    refine lv_ldc (v := 10000000) S.1 S.2.1 S.2.2.2.1 (S.2.2.2.2 _ (List.mem_cons_of_mem _ gw_911)) dX8_question_14 ?_
    refine lv_istore_n (lv' := [(3, .int 10000000), (2, .int (-1)), (1, .int y1), (0, .ref a_this)]) S.1 S.2.1 dX8_question_16 rfl hl (by decide) rfl (fun ls hl => ?_)
    refine lv_iconst (v := 0) S.1 S.2.1 dX8_question_17 (by decide) ?_
    refine lv_istore (lv' := [(4, .int 0), (3, .int 10000000), (2, .int (-1)), (1, .int y1), (0, .ref a_this)]) S.1 S.2.1 dX8_question_18 hl (by decide) rfl (fun ls hl => ?_)
    have L_20 : ∀ (n20_9 : Nat) (v4 : Int32) (v5 : Int32) (f6 : Nat → Int32) (x7 : Int32) (x8 : Int32) (x9 : Int32) (h : z_lp6 (p_X8_question_l20 v_this_signs f3 K v_this_dirt v_this_time f_this_area f_this_y0 f_this_y1 f_this_said f_this_low f_this_high f_this_least f_this_price y1) n20_9 v4 v5 f6 x7 x8 x9 = some o) (H : Heap) (locs : List Loc) (ls : Array Slot), zW D A s H locs (wd_X8_question cI cJ cZ a_this a_this_board a_this_area a_this_x0 a_this_y0 a_this_x1 a_this_y1 a_this_head a_this_said a_this_low a_this_high a_this_least a_this_price a_this_way a_this_lineFirst a_this_lineLast a_this_left a_this_pile a_this_rest a_this_read a_this_measure a_this_wentBack v_this_run v_this_signs v_this_lastSigns v_this_dirt v_this_time v_this_lineMany v4 v5 v_this_measureMany f_this_area f_this_y0 f_this_y1 f_this_said f_this_low f_this_high f_this_least f_this_price f6 f3) → lv_has ls 6 [(0, .ref a_this), (1, .int y1), (2, .int x7), (3, .int x8), (4, .int x9)] → W p l e (headSpec gs_X8_question rm_X8_question).room s m args below meth c H locs 0 0 Q (F0 m 20 ls []) := by
      intro n20_9
      induction n20_9 with
      | zero => intro v4 v5 f6 x7 x8 x9 h; exact z_no h
      | succ n20_9 ih_20 =>
        intro v4 v5 f6 x7 x8 x9 h H locs ls hw hl
        replace h : (p_X8_question_l20 v_this_signs f3 K v_this_dirt v_this_time f_this_area f_this_y0 f_this_y1 f_this_said f_this_low f_this_high f_this_least f_this_price y1) (z_lp6 (p_X8_question_l20 v_this_signs f3 K v_this_dirt v_this_time f_this_area f_this_y0 f_this_y1 f_this_said f_this_low f_this_high f_this_least f_this_price y1) n20_9) v4 v5 f6 x7 x8 x9 = some o := h
        refine lv_iload S.1 S.2.1 dX8_question_20 (lv_at hl 4 rfl) ?_
        refine lv_aload_n S.1 S.2.1 dX8_question_22 rfl (lv_at hl 0 rfl) ?_
        refine z_get S (C := RX8) (T := TX8) (N := 30) (gi gu_X8) hK hw 0 rfl rfl 2 (Nat.le_of_ble_eq_true rfl) (List.mem_cons_of_mem _ gw_713) rfl dX8_question_23 ?_
        refine z_icmp_ge S (tgt := 62) h dX8_question_26 (by decide) (fun h => ?_) (fun h => ?_)
        · refine lv_iload_n S.1 S.2.1 dX8_question_62 rfl (lv_at hl 2 rfl) ?_
          exact ret (x7, v4, v5, f6, f3) h 63 ls _ _ dX8_question_63 hw
        · refine lv_aload_n S.1 S.2.1 dX8_question_29 rfl (lv_at hl 0 rfl) ?_
          refine lv_iload S.1 S.2.1 dX8_question_30 (lv_at hl 4 rfl) ?_
          refine lv_iload_n S.1 S.2.1 dX8_question_32 rfl (lv_at hl 1 rfl) ?_
          obtain ⟨y10, v11, v12, f13, hc, h⟩ := z_b4_e h
          refine z_callVi (As := [.int x9, .int y1]) (rest := []) S (c_X8_doubtOf l D cI cJ cZ a_this a_this_board a_this_area a_this_x0 a_this_y0 a_this_x1 a_this_y1 a_this_head a_this_said a_this_low a_this_high a_this_least a_this_price a_this_way a_this_lineFirst a_this_lineLast a_this_left a_this_pile a_this_rest a_this_read a_this_measure a_this_wentBack v_this_run v_this_signs v_this_lastSigns v_this_dirt v_this_time v_this_lineMany v4 v5 v_this_measureMany f_this_area f_this_y0 f_this_y1 f_this_said f_this_low f_this_high f_this_least f_this_price f6 f3 K x9 y1 _ hc) (cwV 2 S.2.2.2.2 (gw_V gw_934 gw_936 gw_45 gw_58 gw_937) rfl rfl rfl hd_X8_doubtOf ⟨Nat.le_of_ble_eq_true rfl, Nat.le_of_ble_eq_true rfl⟩) hK hA hw [0, 1, 2, 3, 4, 5, 6, 7, 8, 9, 10] (by decide) rfl rfl [some 0, some 1, some 2, some 3, some 4, some 5, some 6, some 7, some 8, some 9, some 10] rfl (by decide) 0 rfl rfl hl.1 rfl rfl (lv_room (Nat.le_of_ble_eq_true rfl)) ⟨Nat.zero_le _, Nat.zero_le _⟩ dX8_question_33 (fun H locs hw => ?_)
          replace hw : zW D A s H locs (wd_X8_question cI cJ cZ a_this a_this_board a_this_area a_this_x0 a_this_y0 a_this_x1 a_this_y1 a_this_head a_this_said a_this_low a_this_high a_this_least a_this_price a_this_way a_this_lineFirst a_this_lineLast a_this_left a_this_pile a_this_rest a_this_read a_this_measure a_this_wentBack v_this_run v_this_signs v_this_lastSigns v_this_dirt v_this_time v_this_lineMany v11 v12 v_this_measureMany f_this_area f_this_y0 f_this_y1 f_this_said f_this_low f_this_high f_this_least f_this_price f13 f3) := hw
          refine lv_istore (lv' := [(5, .int y10), (0, .ref a_this), (1, .int y1), (2, .int x7), (3, .int x8), (4, .int x9)]) S.1 S.2.1 dX8_question_36 hl (by decide) rfl (fun ls hl => ?_)
          refine lv_iload S.1 S.2.1 dX8_question_38 (lv_at hl 0 rfl) ?_
          refine lv_iconst (v := (-1)) S.1 S.2.1 dX8_question_40 (by decide) ?_
          refine z_icmp_eq S (tgt := 56) h dX8_question_41 (by decide) (fun h => ?_) (fun h => ?_)
          · refine z_iinc S (i := 4) (k := 5) (v := x9 + 1) hl rfl (by decide) rfl (fun v => (4, .int v) :: [(5, .int y10), (0, .ref a_this), (1, .int y1), (2, .int x7), (3, .int x8)]) (fun _ => rfl) h dX8_question_56 (fun y14 ls hl h => ?_)
            replace hl : lv_has ls 6 [(4, .int y14), (5, .int y10), (0, .ref a_this), (1, .int y1), (2, .int x7), (3, .int x8)] := hl
            refine lv_goto (tgt := 20) S.1 S.2.1 dX8_question_59 (by decide) ?_
            exact ih_20 v11 v12 f13 x7 x8 y14 h _ _ ls hw (lv_sub hl [2, 3, 4, 5, 0] rfl)
          · refine lv_iload S.1 S.2.1 dX8_question_44 (lv_at hl 0 rfl) ?_
            refine lv_iload_n S.1 S.2.1 dX8_question_46 rfl (lv_at hl 4 rfl) ?_
            refine z_icmp_ge S (tgt := 56) h dX8_question_47 (by decide) (fun h => ?_) (fun h => ?_)
            · refine z_iinc S (i := 4) (k := 5) (v := x9 + 1) hl rfl (by decide) rfl (fun v => (4, .int v) :: [(5, .int y10), (0, .ref a_this), (1, .int y1), (2, .int x7), (3, .int x8)]) (fun _ => rfl) h dX8_question_56 (fun y15 ls hl h => ?_)
              replace hl : lv_has ls 6 [(4, .int y15), (5, .int y10), (0, .ref a_this), (1, .int y1), (2, .int x7), (3, .int x8)] := hl
              refine lv_goto (tgt := 20) S.1 S.2.1 dX8_question_59 (by decide) ?_
              exact ih_20 v11 v12 f13 x7 x8 y15 h _ _ ls hw (lv_sub hl [2, 3, 4, 5, 0] rfl)
            · refine lv_iload S.1 S.2.1 dX8_question_50 (lv_at hl 0 rfl) ?_
              refine lv_istore_n (lv' := [(3, .int y10), (5, .int y10), (0, .ref a_this), (1, .int y1), (2, .int x7), (4, .int x9)]) S.1 S.2.1 dX8_question_52 rfl hl (by decide) rfl (fun ls hl => ?_)
              refine lv_iload S.1 S.2.1 dX8_question_53 (lv_at hl 5 rfl) ?_
              refine lv_istore_n (lv' := [(2, .int x9), (3, .int y10), (5, .int y10), (0, .ref a_this), (1, .int y1), (4, .int x9)]) S.1 S.2.1 dX8_question_55 rfl hl (by decide) rfl (fun ls hl => ?_)
              refine z_iinc S (i := 4) (k := 5) (v := x9 + 1) hl rfl (by decide) rfl (fun v => (4, .int v) :: [(2, .int x9), (3, .int y10), (5, .int y10), (0, .ref a_this), (1, .int y1)]) (fun _ => rfl) h dX8_question_56 (fun y16 ls hl h => ?_)
              replace hl : lv_has ls 6 [(4, .int y16), (2, .int x9), (3, .int y10), (5, .int y10), (0, .ref a_this), (1, .int y1)] := hl
              refine lv_goto (tgt := 20) S.1 S.2.1 dX8_question_59 (by decide) ?_
              exact ih_20 v11 v12 f13 x9 y10 y16 h _ _ ls hw (lv_sub hl [4, 5, 1, 2, 0] rfl)
    exact L_20 K v_this_notSign v_this_notKind f2 (-1) 10000000 0 h _ _ ls hw (lv_sub hl [4, 3, 2, 1, 0] rfl)
  · refine lv_bipush (v := (-3)) S.1 S.2.1 dX8_question_9 (by decide) ?_
    exact ret ((-3), v_this_notSign, v_this_notKind, f2, f3) h 11 ls _ _ dX8_question_11 hw
theorem gw_739 : Cond.fieldLink RX8 179 "ScoreReaderModel" "measureMany" "I" ∈ GW := GW_of 739 (by decide +kernel) (by decide +kernel)
theorem gw_738 : Cond.fieldLink RX8 90 "ScoreReaderModel" "measure" "[I" ∈ GW := GW_of 738 (by decide +kernel) (by decide +kernel)
def gs_X8_findMeasures : List Cond := Cond.code yX8_findMeasures cX8_findMeasures 3 (some .boolean) :: GW
def wd_X8_findMeasures (cI cJ cZ : ClassId) (a_this a_this_board a_this_area a_this_x0 a_this_y0 a_this_x1 a_this_y1 a_this_head a_this_said a_this_low a_this_high a_this_least a_this_price a_this_way a_this_lineFirst a_this_lineLast a_this_left a_this_pile a_this_rest a_this_read a_this_measure a_this_wentBack : Nat) (v_this_run : Int32) (v_this_signs : Int32) (v_this_lastSigns : Int32) (v_this_dirt : Int32) (v_this_time : Int32) (v_this_lineMany : Int32) (v_this_notSign : Int32) (v_this_notKind : Int32) (v_this_measureMany : Int32) (f_this_area : Nat → Int32) (f_this_y0 : Nat → Int32) (f_this_y1 : Nat → Int32) (f_this_said : Nat → Int32) (f_this_low : Nat → Int32) (f_this_high : Nat → Int32) (f_this_least : Nat → Int32) (f_this_price : Nat → Int32) (f_this_rest : Nat → Int32) (f_this_read : Nat → Int32) (f_this_measure : Nat → Int32) : va_W := [(a_this, .inr (8, [.ref a_this_board, .int v_this_run, .int v_this_signs, .int v_this_lastSigns, .ref a_this_area, .ref a_this_x0, .ref a_this_y0, .ref a_this_x1, .ref a_this_y1, .ref a_this_head, .ref a_this_said, .ref a_this_low, .ref a_this_high, .ref a_this_least, .ref a_this_price, .int v_this_dirt, .int v_this_time, .ref a_this_way, .int v_this_lineMany, .ref a_this_lineFirst, .ref a_this_lineLast, .ref a_this_left, .ref a_this_pile, .ref a_this_rest, .int v_this_notSign, .int v_this_notKind, .ref a_this_read, .ref a_this_measure, .int v_this_measureMany, .ref a_this_wentBack])), (a_this_area, .inl (cI, 40, .inl f_this_area)), (a_this_y0, .inl (cI, 40, .inl f_this_y0)), (a_this_y1, .inl (cI, 40, .inl f_this_y1)), (a_this_said, .inl (cI, 40, .inl f_this_said)), (a_this_low, .inl (cI, 6, .inl f_this_low)), (a_this_high, .inl (cI, 6, .inl f_this_high)), (a_this_least, .inl (cI, 6, .inl f_this_least)), (a_this_price, .inl (cI, 6, .inl f_this_price)), (a_this_rest, .inl (cI, 6027, .inl f_this_rest)), (a_this_read, .inl (cI, 40, .inl f_this_read)), (a_this_measure, .inl (cI, 40, .inl f_this_measure))]
abbrev rm_X8_findMeasures : Room := { frames := 4, cells := 0, slots := 0, locals := 101 }
theorem hd_X8_findMeasures : yX8_findMeasures.cls = RX8 ∧ yX8_findMeasures.cls ≠ "java/lang/invoke/MethodHandle" ∧ yX8_findMeasures.cls ≠ "java/lang/invoke/VarHandle" ∧ (parseMethodDescriptor yX8_findMeasures.desc).map (fun d => d.parameters.length) = some 0 := by decide +kernel
set_option maxHeartbeats 4000000 in
set_option maxRecDepth 100000 in
theorem c_X8_findMeasures (l : Launch) (D : va_G) (cI cJ cZ : ClassId) (a_this a_this_board a_this_area a_this_x0 a_this_y0 a_this_x1 a_this_y1 a_this_head a_this_said a_this_low a_this_high a_this_least a_this_price a_this_way a_this_lineFirst a_this_lineLast a_this_left a_this_pile a_this_rest a_this_read a_this_measure a_this_wentBack : Nat) (v_this_run : Int32) (v_this_signs : Int32) (v_this_lastSigns : Int32) (v_this_dirt : Int32) (v_this_time : Int32) (v_this_lineMany : Int32) (v_this_notSign : Int32) (v_this_notKind : Int32) (v_this_measureMany : Int32) (f_this_area : Nat → Int32) (f_this_y0 : Nat → Int32) (f_this_y1 : Nat → Int32) (f_this_said : Nat → Int32) (f_this_low : Nat → Int32) (f_this_high : Nat → Int32) (f_this_least : Nat → Int32) (f_this_price : Nat → Int32) (f_this_rest : Nat → Int32) (f_this_read : Nat → Int32) (f_this_measure : Nat → Int32) (K : Nat) (o : Int32 × Int32 × (Nat → Int32) × (Nat → Int32) × (Nat → Int32)) (h : p_X8_findMeasures K v_this_signs v_this_dirt v_this_time v_this_notSign v_this_notKind v_this_measureMany f_this_area f_this_y0 f_this_y1 f_this_said f_this_low f_this_high f_this_least f_this_price f_this_rest f_this_read f_this_measure = some o) : zMi l D (zT cI cJ cZ) yX8_findMeasures gs_X8_findMeasures rm_X8_findMeasures [.ref a_this] (wd_X8_findMeasures cI cJ cZ a_this a_this_board a_this_area a_this_x0 a_this_y0 a_this_x1 a_this_y1 a_this_head a_this_said a_this_low a_this_high a_this_least a_this_price a_this_way a_this_lineFirst a_this_lineLast a_this_left a_this_pile a_this_rest a_this_read a_this_measure a_this_wentBack v_this_run v_this_signs v_this_lastSigns v_this_dirt v_this_time v_this_lineMany v_this_notSign v_this_notKind v_this_measureMany f_this_area f_this_y0 f_this_y1 f_this_said f_this_low f_this_high f_this_least f_this_price f_this_rest f_this_read f_this_measure) (wd_X8_findMeasures cI cJ cZ a_this a_this_board a_this_area a_this_x0 a_this_y0 a_this_x1 a_this_y1 a_this_head a_this_said a_this_low a_this_high a_this_least a_this_price a_this_way a_this_lineFirst a_this_lineLast a_this_left a_this_pile a_this_rest a_this_read a_this_measure a_this_wentBack v_this_run v_this_signs v_this_lastSigns v_this_dirt v_this_time v_this_lineMany v_this_notSign v_this_notKind (o.2.1) f_this_area f_this_y0 f_this_y1 f_this_said f_this_low f_this_high f_this_least f_this_price (o.2.2.1) (o.2.2.2.1) (o.2.2.2.2)) (o.1) := by
  refine zMet_z (own := RX8) (fun u : Int32 × Int32 × (Nat → Int32) × (Nat → Int32) × (Nat → Int32) => (wd_X8_findMeasures cI cJ cZ a_this a_this_board a_this_area a_this_x0 a_this_y0 a_this_x1 a_this_y1 a_this_head a_this_said a_this_low a_this_high a_this_least a_this_price a_this_way a_this_lineFirst a_this_lineLast a_this_left a_this_pile a_this_rest a_this_read a_this_measure a_this_wentBack v_this_run v_this_signs v_this_lastSigns v_this_dirt v_this_time v_this_lineMany v_this_notSign v_this_notKind (u.2.1) f_this_area f_this_y0 f_this_y1 f_this_said f_this_low f_this_high f_this_least f_this_price (u.2.2.1) (u.2.2.2.1) (u.2.2.2.2))) (fun u : Int32 × Int32 × (Nat → Int32) × (Nat → Int32) × (Nat → Int32) => u.1) (by decide) rfl rfl (Nat.le_of_ble_eq_true rfl) ?_
  intro p e s m args below meth c A Q S hK hA hw ret ls hl
  replace hl : lv_has ls 3 [(0, .ref a_this)] := hl
  refine lv_aload_n S.1 S.2.1 dX8_findMeasures_0 rfl (lv_at hl 0 rfl) ?_
  obtain ⟨y1, f2, f3, hc, h⟩ := z_b3_e h
  refine z_callVi (As := []) (rest := []) S (c_X8_findBest l D cI cJ cZ a_this a_this_board a_this_area a_this_x0 a_this_y0 a_this_x1 a_this_y1 a_this_head a_this_said a_this_low a_this_high a_this_least a_this_price a_this_way a_this_lineFirst a_this_lineLast a_this_left a_this_pile a_this_rest a_this_read a_this_measure a_this_wentBack v_this_run v_this_signs v_this_lastSigns v_this_dirt v_this_time v_this_lineMany v_this_notSign v_this_notKind v_this_measureMany f_this_area f_this_y0 f_this_y1 f_this_said f_this_low f_this_high f_this_least f_this_price f_this_rest f_this_read K _ hc) (cwV 0 S.2.2.2.2 (gw_V gw_903 gw_905 gw_41 gw_58 gw_906) rfl rfl rfl hd_X8_findBest ⟨Nat.le_of_ble_eq_true rfl, Nat.le_of_ble_eq_true rfl⟩) hK hA hw [0, 1, 2, 3, 4, 5, 6, 7, 8, 9, 10] (by decide) rfl rfl [some 0, some 1, some 2, some 3, some 4, some 5, some 6, some 7, some 8, some 9, some 10, none] rfl (by decide) 0 rfl rfl hl.1 rfl rfl (lv_room (Nat.le_of_ble_eq_true rfl)) ⟨Nat.zero_le _, Nat.zero_le _⟩ dX8_findMeasures_1 (fun H locs hw => ?_)
  replace hw : zW D A s H locs (wd_X8_findMeasures cI cJ cZ a_this a_this_board a_this_area a_this_x0 a_this_y0 a_this_x1 a_this_y1 a_this_head a_this_said a_this_low a_this_high a_this_least a_this_price a_this_way a_this_lineFirst a_this_lineLast a_this_left a_this_pile a_this_rest a_this_read a_this_measure a_this_wentBack v_this_run v_this_signs v_this_lastSigns v_this_dirt v_this_time v_this_lineMany v_this_notSign v_this_notKind v_this_measureMany f_this_area f_this_y0 f_this_y1 f_this_said f_this_low f_this_high f_this_least f_this_price f2 f3 f_this_measure) := hw
  refine z_if_ge S (tgt := 9) h dX8_findMeasures_4 (by decide) (fun h => ?_) (fun h => ?_)
  · refine lv_aload_n S.1 S.2.1 dX8_findMeasures_9 rfl (lv_at hl 0 rfl) ?_
    refine lv_iconst (v := 0) S.1 S.2.1 dX8_findMeasures_10 (by decide) ?_
    refine z_put S (C := RX8) (T := TX8) (N := 30) (gi gu_X8) tyX8 tyX8_ok nmX8 hK hw 0 rfl rfl 28 (Nat.le_of_ble_eq_true rfl) (List.mem_cons_of_mem _ gw_739) rfl rfl rfl (Nat.le_of_ble_eq_true rfl) dX8_findMeasures_11 (fun H locs hw => ?_)
    replace hw : zW D A s H locs (wd_X8_findMeasures cI cJ cZ a_this a_this_board a_this_area a_this_x0 a_this_y0 a_this_x1 a_this_y1 a_this_head a_this_said a_this_low a_this_high a_this_least a_this_price a_this_way a_this_lineFirst a_this_lineLast a_this_left a_this_pile a_this_rest a_this_read a_this_measure a_this_wentBack v_this_run v_this_signs v_this_lastSigns v_this_dirt v_this_time v_this_lineMany v_this_notSign v_this_notKind 0 f_this_area f_this_y0 f_this_y1 f_this_said f_this_low f_this_high f_this_least f_this_price f2 f3 f_this_measure) := hw
    refine lv_iconst (v := 0) S.1 S.2.1 dX8_findMeasures_14 (by decide) ?_
    refine lv_istore_n (lv' := [(1, .int 0), (0, .ref a_this)]) S.1 S.2.1 dX8_findMeasures_15 rfl hl (by decide) rfl (fun ls hl => ?_)
    refine lv_iconst (v := 0) S.1 S.2.1 dX8_findMeasures_16 (by decide) ?_
    refine lv_istore_n (lv' := [(2, .int 0), (1, .int 0), (0, .ref a_this)]) S.1 S.2.1 dX8_findMeasures_17 rfl hl (by decide) rfl (fun ls hl => ?_)
    have L_18 : ∀ (n18_7 : Nat) (v4 : Int32) (f5 : Nat → Int32) (x6 : Int32) (x7 : Int32) (h : z_lp4 (p_X8_findMeasures_l18 v_this_signs f2 f3) n18_7 v4 f5 x6 x7 = some o) (H : Heap) (locs : List Loc) (ls : Array Slot), zW D A s H locs (wd_X8_findMeasures cI cJ cZ a_this a_this_board a_this_area a_this_x0 a_this_y0 a_this_x1 a_this_y1 a_this_head a_this_said a_this_low a_this_high a_this_least a_this_price a_this_way a_this_lineFirst a_this_lineLast a_this_left a_this_pile a_this_rest a_this_read a_this_measure a_this_wentBack v_this_run v_this_signs v_this_lastSigns v_this_dirt v_this_time v_this_lineMany v_this_notSign v_this_notKind v4 f_this_area f_this_y0 f_this_y1 f_this_said f_this_low f_this_high f_this_least f_this_price f2 f3 f5) → lv_has ls 3 [(0, .ref a_this), (1, .int x6), (2, .int x7)] → W p l e (headSpec gs_X8_findMeasures rm_X8_findMeasures).room s m args below meth c H locs 0 0 Q (F0 m 18 ls []) := by
      intro n18_7
      induction n18_7 with
      | zero => intro v4 f5 x6 x7 h; exact z_no h
      | succ n18_7 ih_18 =>
        intro v4 f5 x6 x7 h H locs ls hw hl
        replace h : (p_X8_findMeasures_l18 v_this_signs f2 f3) (z_lp4 (p_X8_findMeasures_l18 v_this_signs f2 f3) n18_7) v4 f5 x6 x7 = some o := h
        refine lv_iload_n S.1 S.2.1 dX8_findMeasures_18 rfl (lv_at hl 2 rfl) ?_
        refine lv_aload_n S.1 S.2.1 dX8_findMeasures_19 rfl (lv_at hl 0 rfl) ?_
        refine z_get S (C := RX8) (T := TX8) (N := 30) (gi gu_X8) hK hw 0 rfl rfl 2 (Nat.le_of_ble_eq_true rfl) (List.mem_cons_of_mem _ gw_713) rfl dX8_findMeasures_20 ?_
        refine z_icmp_ge S (tgt := 97) h dX8_findMeasures_23 (by decide) (fun h => ?_) (fun h => ?_)
        · refine lv_iconst (v := 1) S.1 S.2.1 dX8_findMeasures_97 (by decide) ?_
          exact ret (1, v4, f2, f3, f5) h (z_nb (Or.inr rfl)) 98 ls _ _ dX8_findMeasures_98 hw
        · refine lv_aload_n S.1 S.2.1 dX8_findMeasures_26 rfl (lv_at hl 0 rfl) ?_
          refine z_get S (C := RX8) (T := TX8) (N := 30) (gi gu_X8) hK hw 0 rfl rfl 27 (Nat.le_of_ble_eq_true rfl) (List.mem_cons_of_mem _ gw_738) rfl dX8_findMeasures_27 ?_
          refine lv_iload_n S.1 S.2.1 dX8_findMeasures_30 rfl (lv_at hl 2 rfl) ?_
          refine lv_iconst (v := (-1)) S.1 S.2.1 dX8_findMeasures_31 (by decide) ?_
          refine z_iast S hK hw 11 0 rfl rfl h dX8_findMeasures_32 (fun f8 H locs hw h => ?_)
          replace hw : zW D A s H locs (wd_X8_findMeasures cI cJ cZ a_this a_this_board a_this_area a_this_x0 a_this_y0 a_this_x1 a_this_y1 a_this_head a_this_said a_this_low a_this_high a_this_least a_this_price a_this_way a_this_lineFirst a_this_lineLast a_this_left a_this_pile a_this_rest a_this_read a_this_measure a_this_wentBack v_this_run v_this_signs v_this_lastSigns v_this_dirt v_this_time v_this_lineMany v_this_notSign v_this_notKind v4 f_this_area f_this_y0 f_this_y1 f_this_said f_this_low f_this_high f_this_least f_this_price f2 f3 f8) := hw
          refine lv_aload_n S.1 S.2.1 dX8_findMeasures_33 rfl (lv_at hl 0 rfl) ?_
          refine z_get S (C := RX8) (T := TX8) (N := 30) (gi gu_X8) hK hw 0 rfl rfl 26 (Nat.le_of_ble_eq_true rfl) (List.mem_cons_of_mem _ gw_737) rfl dX8_findMeasures_34 ?_
          refine lv_iload_n S.1 S.2.1 dX8_findMeasures_37 rfl (lv_at hl 2 rfl) ?_
          refine z_iald S hK hw 10 0 rfl rfl h dX8_findMeasures_38 (fun y9 h => ?_)
          refine lv_iconst (v := 5) S.1 S.2.1 dX8_findMeasures_39 (by decide) ?_
          refine z_icmp_ne S (tgt := 48) h dX8_findMeasures_40 (by decide) (fun h => ?_) (fun h => ?_)
          · refine lv_aload_n S.1 S.2.1 dX8_findMeasures_48 rfl (lv_at hl 0 rfl) ?_
            refine z_get S (C := RX8) (T := TX8) (N := 30) (gi gu_X8) hK hw 0 rfl rfl 26 (Nat.le_of_ble_eq_true rfl) (List.mem_cons_of_mem _ gw_737) rfl dX8_findMeasures_49 ?_
            refine lv_iload_n S.1 S.2.1 dX8_findMeasures_52 rfl (lv_at hl 2 rfl) ?_
            refine z_iald S hK hw 10 0 rfl rfl h dX8_findMeasures_53 (fun y10 h => ?_)
            refine lv_bipush (v := 6) S.1 S.2.1 dX8_findMeasures_54 (by decide) ?_
            refine z_icmp_eq S (tgt := 91) h dX8_findMeasures_56 (by decide) (fun h => ?_) (fun h => ?_)
            · refine z_iinc S (i := 2) (k := 2) (v := x7 + 1) hl rfl (by decide) rfl (fun v => (2, .int v) :: [(0, .ref a_this), (1, .int x6)]) (fun _ => rfl) h dX8_findMeasures_91 (fun y11 ls hl h => ?_)
              replace hl : lv_has ls 3 [(2, .int y11), (0, .ref a_this), (1, .int x6)] := hl
              refine lv_goto (tgt := 18) S.1 S.2.1 dX8_findMeasures_94 (by decide) ?_
              exact ih_18 v4 f8 x6 y11 h _ _ ls hw (lv_sub hl [1, 2, 0] rfl)
            · refine lv_aload_n S.1 S.2.1 dX8_findMeasures_59 rfl (lv_at hl 0 rfl) ?_
              refine lv_dup S.1 S.2.1 dX8_findMeasures_60 rfl ?_
              refine z_get S (C := RX8) (T := TX8) (N := 30) (gi gu_X8) hK hw 0 rfl rfl 28 (Nat.le_of_ble_eq_true rfl) (List.mem_cons_of_mem _ gw_739) rfl dX8_findMeasures_61 ?_
              refine lv_iload_n S.1 S.2.1 dX8_findMeasures_64 rfl (lv_at hl 1 rfl) ?_
              have J_73 : ∀ (z12 : Int32) (h : (p_X8_findMeasures_j73 v4 f8 x7 (z_lp4 (p_X8_findMeasures_l18 v_this_signs f2 f3) n18_7)) z12 = some o) (H : Heap) (locs : List Loc) (ls : Array Slot), zW D A s H locs (wd_X8_findMeasures cI cJ cZ a_this a_this_board a_this_area a_this_x0 a_this_y0 a_this_x1 a_this_y1 a_this_head a_this_said a_this_low a_this_high a_this_least a_this_price a_this_way a_this_lineFirst a_this_lineLast a_this_left a_this_pile a_this_rest a_this_read a_this_measure a_this_wentBack v_this_run v_this_signs v_this_lastSigns v_this_dirt v_this_time v_this_lineMany v_this_notSign v_this_notKind v4 f_this_area f_this_y0 f_this_y1 f_this_said f_this_low f_this_high f_this_least f_this_price f2 f3 f8) → lv_has ls 3 [(0, .ref a_this), (2, .int x7)] → W p l e (headSpec gs_X8_findMeasures rm_X8_findMeasures).room s m args below meth c H locs 0 0 Q (F0 m 73 ls [.int z12, .int v4, .ref a_this]) := by
                intro z12 h H locs ls hw hl
                refine lv_iadd S.1 S.2.1 dX8_findMeasures_73 ?_
                refine z_leti h (fun y13 h => ?_)
                refine z_put S (C := RX8) (T := TX8) (N := 30) (gi gu_X8) tyX8 tyX8_ok nmX8 hK hw 0 rfl rfl 28 (Nat.le_of_ble_eq_true rfl) (List.mem_cons_of_mem _ gw_739) rfl rfl rfl (Nat.le_of_ble_eq_true rfl) dX8_findMeasures_74 (fun H locs hw => ?_)
                replace hw : zW D A s H locs (wd_X8_findMeasures cI cJ cZ a_this a_this_board a_this_area a_this_x0 a_this_y0 a_this_x1 a_this_y1 a_this_head a_this_said a_this_low a_this_high a_this_least a_this_price a_this_way a_this_lineFirst a_this_lineLast a_this_left a_this_pile a_this_rest a_this_read a_this_measure a_this_wentBack v_this_run v_this_signs v_this_lastSigns v_this_dirt v_this_time v_this_lineMany v_this_notSign v_this_notKind y13 f_this_area f_this_y0 f_this_y1 f_this_said f_this_low f_this_high f_this_least f_this_price f2 f3 f8) := hw
                refine lv_iconst (v := 1) S.1 S.2.1 dX8_findMeasures_77 (by decide) ?_
                refine lv_istore_n (lv' := [(1, .int 1), (0, .ref a_this), (2, .int x7)]) S.1 S.2.1 dX8_findMeasures_78 rfl hl (by decide) rfl (fun ls hl => ?_)
                refine lv_aload_n S.1 S.2.1 dX8_findMeasures_79 rfl (lv_at hl 1 rfl) ?_
                refine z_get S (C := RX8) (T := TX8) (N := 30) (gi gu_X8) hK hw 0 rfl rfl 27 (Nat.le_of_ble_eq_true rfl) (List.mem_cons_of_mem _ gw_738) rfl dX8_findMeasures_80 ?_
                refine lv_iload_n S.1 S.2.1 dX8_findMeasures_83 rfl (lv_at hl 2 rfl) ?_
                refine lv_aload_n S.1 S.2.1 dX8_findMeasures_84 rfl (lv_at hl 1 rfl) ?_
                refine z_get S (C := RX8) (T := TX8) (N := 30) (gi gu_X8) hK hw 0 rfl rfl 28 (Nat.le_of_ble_eq_true rfl) (List.mem_cons_of_mem _ gw_739) rfl dX8_findMeasures_85 ?_
                refine lv_iconst (v := 1) S.1 S.2.1 dX8_findMeasures_88 (by decide) ?_
                refine lv_isub S.1 S.2.1 dX8_findMeasures_89 ?_
                refine z_iast S hK hw 11 0 rfl rfl h dX8_findMeasures_90 (fun f14 H locs hw h => ?_)
                replace hw : zW D A s H locs (wd_X8_findMeasures cI cJ cZ a_this a_this_board a_this_area a_this_x0 a_this_y0 a_this_x1 a_this_y1 a_this_head a_this_said a_this_low a_this_high a_this_least a_this_price a_this_way a_this_lineFirst a_this_lineLast a_this_left a_this_pile a_this_rest a_this_read a_this_measure a_this_wentBack v_this_run v_this_signs v_this_lastSigns v_this_dirt v_this_time v_this_lineMany v_this_notSign v_this_notKind y13 f_this_area f_this_y0 f_this_y1 f_this_said f_this_low f_this_high f_this_least f_this_price f2 f3 f14) := hw
                refine z_iinc S (i := 2) (k := 2) (v := x7 + 1) hl rfl (by decide) rfl (fun v => (2, .int v) :: [(1, .int 1), (0, .ref a_this)]) (fun _ => rfl) h dX8_findMeasures_91 (fun y15 ls hl h => ?_)
                replace hl : lv_has ls 3 [(2, .int y15), (1, .int 1), (0, .ref a_this)] := hl
                refine lv_goto (tgt := 18) S.1 S.2.1 dX8_findMeasures_94 (by decide) ?_
                exact ih_18 y13 f14 1 y15 h _ _ ls hw (lv_sub hl [2, 1, 0] rfl)
              refine z_if_eq S (tgt := 72) h dX8_findMeasures_65 (by decide) (fun h => ?_) (fun h => ?_)
              · refine lv_iconst (v := 1) S.1 S.2.1 dX8_findMeasures_72 (by decide) ?_
                exact J_73 1 h _ _ ls hw (lv_sub hl [0, 2] rfl)
              · refine lv_iconst (v := 0) S.1 S.2.1 dX8_findMeasures_68 (by decide) ?_
                refine lv_goto (tgt := 73) S.1 S.2.1 dX8_findMeasures_69 (by decide) ?_
                exact J_73 0 h _ _ ls hw (lv_sub hl [0, 2] rfl)
          · refine lv_iconst (v := 0) S.1 S.2.1 dX8_findMeasures_43 (by decide) ?_
            refine lv_istore_n (lv' := [(1, .int 0), (0, .ref a_this), (2, .int x7)]) S.1 S.2.1 dX8_findMeasures_44 rfl hl (by decide) rfl (fun ls hl => ?_)
            refine lv_goto (tgt := 91) S.1 S.2.1 dX8_findMeasures_45 (by decide) ?_
            refine z_iinc S (i := 2) (k := 2) (v := x7 + 1) hl rfl (by decide) rfl (fun v => (2, .int v) :: [(1, .int 0), (0, .ref a_this)]) (fun _ => rfl) h dX8_findMeasures_91 (fun y16 ls hl h => ?_)
            replace hl : lv_has ls 3 [(2, .int y16), (1, .int 0), (0, .ref a_this)] := hl
            refine lv_goto (tgt := 18) S.1 S.2.1 dX8_findMeasures_94 (by decide) ?_
            exact ih_18 v4 f8 0 y16 h _ _ ls hw (lv_sub hl [2, 1, 0] rfl)
    exact L_18 K 0 f_this_measure 0 0 h _ _ ls hw (lv_sub hl [2, 1, 0] rfl)
  · refine lv_iconst (v := 0) S.1 S.2.1 dX8_findMeasures_7 (by decide) ?_
    exact ret (0, v_this_measureMany, f2, f3, f_this_measure) h (z_nb (Or.inl rfl)) 8 ls _ _ dX8_findMeasures_8 hw
theorem gw_946 : Cond.methodLink RX8 182 yX8_findMeasures ∈ GW := GW_of 946 (by decide +kernel) (by decide +kernel)
theorem gw_949 : Cond.code yX8_findMeasures cX8_findMeasures 3 (some .boolean) ∈ GW := GW_of 949 (by decide +kernel) (by decide +kernel)
theorem gw_948 : Cond.instanceMethod yX8_findMeasures ∈ GW := GW_of 948 (by decide +kernel) (by decide +kernel)
theorem gw_46 : Cond.selects RX8 yX8_findMeasures yX8_findMeasures ∈ GW := GW_of 46 (by decide +kernel) (by decide +kernel)
def gs_X8_measures : List Cond := Cond.code yX8_measures cX8_measures 1 (some .int) :: GW
def wd_X8_measures (cI cJ cZ : ClassId) (a_this a_this_board a_this_area a_this_x0 a_this_y0 a_this_x1 a_this_y1 a_this_head a_this_said a_this_low a_this_high a_this_least a_this_price a_this_way a_this_lineFirst a_this_lineLast a_this_left a_this_pile a_this_rest a_this_read a_this_measure a_this_wentBack : Nat) (v_this_run : Int32) (v_this_signs : Int32) (v_this_lastSigns : Int32) (v_this_dirt : Int32) (v_this_time : Int32) (v_this_lineMany : Int32) (v_this_notSign : Int32) (v_this_notKind : Int32) (v_this_measureMany : Int32) (f_this_area : Nat → Int32) (f_this_y0 : Nat → Int32) (f_this_y1 : Nat → Int32) (f_this_said : Nat → Int32) (f_this_low : Nat → Int32) (f_this_high : Nat → Int32) (f_this_least : Nat → Int32) (f_this_price : Nat → Int32) (f_this_rest : Nat → Int32) (f_this_read : Nat → Int32) (f_this_measure : Nat → Int32) : va_W := [(a_this, .inr (8, [.ref a_this_board, .int v_this_run, .int v_this_signs, .int v_this_lastSigns, .ref a_this_area, .ref a_this_x0, .ref a_this_y0, .ref a_this_x1, .ref a_this_y1, .ref a_this_head, .ref a_this_said, .ref a_this_low, .ref a_this_high, .ref a_this_least, .ref a_this_price, .int v_this_dirt, .int v_this_time, .ref a_this_way, .int v_this_lineMany, .ref a_this_lineFirst, .ref a_this_lineLast, .ref a_this_left, .ref a_this_pile, .ref a_this_rest, .int v_this_notSign, .int v_this_notKind, .ref a_this_read, .ref a_this_measure, .int v_this_measureMany, .ref a_this_wentBack])), (a_this_area, .inl (cI, 40, .inl f_this_area)), (a_this_y0, .inl (cI, 40, .inl f_this_y0)), (a_this_y1, .inl (cI, 40, .inl f_this_y1)), (a_this_said, .inl (cI, 40, .inl f_this_said)), (a_this_low, .inl (cI, 6, .inl f_this_low)), (a_this_high, .inl (cI, 6, .inl f_this_high)), (a_this_least, .inl (cI, 6, .inl f_this_least)), (a_this_price, .inl (cI, 6, .inl f_this_price)), (a_this_rest, .inl (cI, 6027, .inl f_this_rest)), (a_this_read, .inl (cI, 40, .inl f_this_read)), (a_this_measure, .inl (cI, 40, .inl f_this_measure))]
abbrev rm_X8_measures : Room := { frames := 5, cells := 0, slots := 0, locals := 123 }
theorem hd_X8_measures : yX8_measures.cls = RX8 ∧ yX8_measures.cls ≠ "java/lang/invoke/MethodHandle" ∧ yX8_measures.cls ≠ "java/lang/invoke/VarHandle" ∧ (parseMethodDescriptor yX8_measures.desc).map (fun d => d.parameters.length) = some 0 := by decide +kernel
set_option maxHeartbeats 4000000 in
set_option maxRecDepth 100000 in
theorem c_X8_measures (l : Launch) (D : va_G) (cI cJ cZ : ClassId) (a_this a_this_board a_this_area a_this_x0 a_this_y0 a_this_x1 a_this_y1 a_this_head a_this_said a_this_low a_this_high a_this_least a_this_price a_this_way a_this_lineFirst a_this_lineLast a_this_left a_this_pile a_this_rest a_this_read a_this_measure a_this_wentBack : Nat) (v_this_run : Int32) (v_this_signs : Int32) (v_this_lastSigns : Int32) (v_this_dirt : Int32) (v_this_time : Int32) (v_this_lineMany : Int32) (v_this_notSign : Int32) (v_this_notKind : Int32) (v_this_measureMany : Int32) (f_this_area : Nat → Int32) (f_this_y0 : Nat → Int32) (f_this_y1 : Nat → Int32) (f_this_said : Nat → Int32) (f_this_low : Nat → Int32) (f_this_high : Nat → Int32) (f_this_least : Nat → Int32) (f_this_price : Nat → Int32) (f_this_rest : Nat → Int32) (f_this_read : Nat → Int32) (f_this_measure : Nat → Int32) (K : Nat) (o : Int32 × Int32 × (Nat → Int32) × (Nat → Int32) × (Nat → Int32)) (h : p_X8_measures K v_this_signs v_this_dirt v_this_time v_this_notSign v_this_notKind v_this_measureMany f_this_area f_this_y0 f_this_y1 f_this_said f_this_low f_this_high f_this_least f_this_price f_this_rest f_this_read f_this_measure = some o) : zMi l D (zT cI cJ cZ) yX8_measures gs_X8_measures rm_X8_measures [.ref a_this] (wd_X8_measures cI cJ cZ a_this a_this_board a_this_area a_this_x0 a_this_y0 a_this_x1 a_this_y1 a_this_head a_this_said a_this_low a_this_high a_this_least a_this_price a_this_way a_this_lineFirst a_this_lineLast a_this_left a_this_pile a_this_rest a_this_read a_this_measure a_this_wentBack v_this_run v_this_signs v_this_lastSigns v_this_dirt v_this_time v_this_lineMany v_this_notSign v_this_notKind v_this_measureMany f_this_area f_this_y0 f_this_y1 f_this_said f_this_low f_this_high f_this_least f_this_price f_this_rest f_this_read f_this_measure) (wd_X8_measures cI cJ cZ a_this a_this_board a_this_area a_this_x0 a_this_y0 a_this_x1 a_this_y1 a_this_head a_this_said a_this_low a_this_high a_this_least a_this_price a_this_way a_this_lineFirst a_this_lineLast a_this_left a_this_pile a_this_rest a_this_read a_this_measure a_this_wentBack v_this_run v_this_signs v_this_lastSigns v_this_dirt v_this_time v_this_lineMany v_this_notSign v_this_notKind (o.2.1) f_this_area f_this_y0 f_this_y1 f_this_said f_this_low f_this_high f_this_least f_this_price (o.2.2.1) (o.2.2.2.1) (o.2.2.2.2)) (o.1) := by
  refine zMet_i (own := RX8) (fun u : Int32 × Int32 × (Nat → Int32) × (Nat → Int32) × (Nat → Int32) => (wd_X8_measures cI cJ cZ a_this a_this_board a_this_area a_this_x0 a_this_y0 a_this_x1 a_this_y1 a_this_head a_this_said a_this_low a_this_high a_this_least a_this_price a_this_way a_this_lineFirst a_this_lineLast a_this_left a_this_pile a_this_rest a_this_read a_this_measure a_this_wentBack v_this_run v_this_signs v_this_lastSigns v_this_dirt v_this_time v_this_lineMany v_this_notSign v_this_notKind (u.2.1) f_this_area f_this_y0 f_this_y1 f_this_said f_this_low f_this_high f_this_least f_this_price (u.2.2.1) (u.2.2.2.1) (u.2.2.2.2))) (fun u : Int32 × Int32 × (Nat → Int32) × (Nat → Int32) × (Nat → Int32) => u.1) (by decide) rfl rfl (Nat.le_of_ble_eq_true rfl) ?_
  intro p e s m args below meth c A Q S hK hA hw ret ls hl
  replace hl : lv_has ls 1 [(0, .ref a_this)] := hl
  refine lv_aload_n S.1 S.2.1 dX8_measures_0 rfl (lv_at hl 0 rfl) ?_
  obtain ⟨y1, v2, f3, f4, f5, hc, h⟩ := z_b5_e h
  refine z_callVi (As := []) (rest := []) S (c_X8_findMeasures l D cI cJ cZ a_this a_this_board a_this_area a_this_x0 a_this_y0 a_this_x1 a_this_y1 a_this_head a_this_said a_this_low a_this_high a_this_least a_this_price a_this_way a_this_lineFirst a_this_lineLast a_this_left a_this_pile a_this_rest a_this_read a_this_measure a_this_wentBack v_this_run v_this_signs v_this_lastSigns v_this_dirt v_this_time v_this_lineMany v_this_notSign v_this_notKind v_this_measureMany f_this_area f_this_y0 f_this_y1 f_this_said f_this_low f_this_high f_this_least f_this_price f_this_rest f_this_read f_this_measure K _ hc) (cwV 0 S.2.2.2.2 (gw_V gw_946 gw_948 gw_46 gw_58 gw_949) rfl rfl rfl hd_X8_findMeasures ⟨Nat.le_of_ble_eq_true rfl, Nat.le_of_ble_eq_true rfl⟩) hK hA hw [0, 1, 2, 3, 4, 5, 6, 7, 8, 9, 10, 11] (by decide) rfl rfl [some 0, some 1, some 2, some 3, some 4, some 5, some 6, some 7, some 8, some 9, some 10, some 11] rfl (by decide) 0 rfl rfl hl.1 rfl rfl (lv_room (Nat.le_of_ble_eq_true rfl)) ⟨Nat.zero_le _, Nat.zero_le _⟩ dX8_measures_1 (fun H locs hw => ?_)
  replace hw : zW D A s H locs (wd_X8_measures cI cJ cZ a_this a_this_board a_this_area a_this_x0 a_this_y0 a_this_x1 a_this_y1 a_this_head a_this_said a_this_low a_this_high a_this_least a_this_price a_this_way a_this_lineFirst a_this_lineLast a_this_left a_this_pile a_this_rest a_this_read a_this_measure a_this_wentBack v_this_run v_this_signs v_this_lastSigns v_this_dirt v_this_time v_this_lineMany v_this_notSign v_this_notKind v2 f_this_area f_this_y0 f_this_y1 f_this_said f_this_low f_this_high f_this_least f_this_price f3 f4 f5) := hw
  refine z_if_eq S (tgt := 14) h dX8_measures_4 (by decide) (fun h => ?_) (fun h => ?_)
  · refine lv_bipush (v := (-3)) S.1 S.2.1 dX8_measures_14 (by decide) ?_
    exact ret ((-3), v2, f3, f4, f5) h 16 ls _ _ dX8_measures_16 hw
  · refine lv_aload_n S.1 S.2.1 dX8_measures_7 rfl (lv_at hl 0 rfl) ?_
    refine z_get S (C := RX8) (T := TX8) (N := 30) (gi gu_X8) hK hw 0 rfl rfl 28 (Nat.le_of_ble_eq_true rfl) (List.mem_cons_of_mem _ gw_739) rfl dX8_measures_8 ?_
    refine lv_goto (tgt := 16) S.1 S.2.1 dX8_measures_11 (by decide) ?_
    exact ret (v2, v2, f3, f4, f5) h 16 ls _ _ dX8_measures_16 hw
def gs_X8_isDotted : List Cond := Cond.code yX8_isDotted cX8_isDotted 3 (some .boolean) :: GW
def wd_X8_isDotted (cI cJ cZ : ClassId) (a_this a_this_board a_this_area a_this_x0 a_this_y0 a_this_x1 a_this_y1 a_this_head a_this_said a_this_low a_this_high a_this_least a_this_price a_this_way a_this_lineFirst a_this_lineLast a_this_left a_this_pile a_this_rest a_this_read a_this_measure a_this_wentBack : Nat) (v_this_run : Int32) (v_this_signs : Int32) (v_this_lastSigns : Int32) (v_this_dirt : Int32) (v_this_time : Int32) (v_this_lineMany : Int32) (v_this_notSign : Int32) (v_this_notKind : Int32) (v_this_measureMany : Int32) (f_this_read : Nat → Int32) : va_W := [(a_this, .inr (8, [.ref a_this_board, .int v_this_run, .int v_this_signs, .int v_this_lastSigns, .ref a_this_area, .ref a_this_x0, .ref a_this_y0, .ref a_this_x1, .ref a_this_y1, .ref a_this_head, .ref a_this_said, .ref a_this_low, .ref a_this_high, .ref a_this_least, .ref a_this_price, .int v_this_dirt, .int v_this_time, .ref a_this_way, .int v_this_lineMany, .ref a_this_lineFirst, .ref a_this_lineLast, .ref a_this_left, .ref a_this_pile, .ref a_this_rest, .int v_this_notSign, .int v_this_notKind, .ref a_this_read, .ref a_this_measure, .int v_this_measureMany, .ref a_this_wentBack])), (a_this_read, .inl (cI, 40, .inl f_this_read))]
abbrev rm_X8_isDotted : Room := { frames := 0, cells := 0, slots := 0, locals := 0 }
theorem hd_X8_isDotted : yX8_isDotted.cls = RX8 ∧ yX8_isDotted.cls ≠ "java/lang/invoke/MethodHandle" ∧ yX8_isDotted.cls ≠ "java/lang/invoke/VarHandle" ∧ (parseMethodDescriptor yX8_isDotted.desc).map (fun d => d.parameters.length) = some 1 := by decide +kernel
set_option maxHeartbeats 4000000 in
set_option maxRecDepth 100000 in
theorem c_X8_isDotted (l : Launch) (D : va_G) (cI cJ cZ : ClassId) (a_this a_this_board a_this_area a_this_x0 a_this_y0 a_this_x1 a_this_y1 a_this_head a_this_said a_this_low a_this_high a_this_least a_this_price a_this_way a_this_lineFirst a_this_lineLast a_this_left a_this_pile a_this_rest a_this_read a_this_measure a_this_wentBack : Nat) (v_this_run : Int32) (v_this_signs : Int32) (v_this_lastSigns : Int32) (v_this_dirt : Int32) (v_this_time : Int32) (v_this_lineMany : Int32) (v_this_notSign : Int32) (v_this_notKind : Int32) (v_this_measureMany : Int32) (f_this_read : Nat → Int32) (K : Nat) (i1 : Int32) (o : Int32) (h : p_X8_isDotted K v_this_signs f_this_read i1 = some o) : zMi l D (zT cI cJ cZ) yX8_isDotted gs_X8_isDotted rm_X8_isDotted [.ref a_this, .int i1] (wd_X8_isDotted cI cJ cZ a_this a_this_board a_this_area a_this_x0 a_this_y0 a_this_x1 a_this_y1 a_this_head a_this_said a_this_low a_this_high a_this_least a_this_price a_this_way a_this_lineFirst a_this_lineLast a_this_left a_this_pile a_this_rest a_this_read a_this_measure a_this_wentBack v_this_run v_this_signs v_this_lastSigns v_this_dirt v_this_time v_this_lineMany v_this_notSign v_this_notKind v_this_measureMany f_this_read) (wd_X8_isDotted cI cJ cZ a_this a_this_board a_this_area a_this_x0 a_this_y0 a_this_x1 a_this_y1 a_this_head a_this_said a_this_low a_this_high a_this_least a_this_price a_this_way a_this_lineFirst a_this_lineLast a_this_left a_this_pile a_this_rest a_this_read a_this_measure a_this_wentBack v_this_run v_this_signs v_this_lastSigns v_this_dirt v_this_time v_this_lineMany v_this_notSign v_this_notKind v_this_measureMany f_this_read) (o) := by
  refine zMet_z (own := RX8) (fun u : Int32 => (wd_X8_isDotted cI cJ cZ a_this a_this_board a_this_area a_this_x0 a_this_y0 a_this_x1 a_this_y1 a_this_head a_this_said a_this_low a_this_high a_this_least a_this_price a_this_way a_this_lineFirst a_this_lineLast a_this_left a_this_pile a_this_rest a_this_read a_this_measure a_this_wentBack v_this_run v_this_signs v_this_lastSigns v_this_dirt v_this_time v_this_lineMany v_this_notSign v_this_notKind v_this_measureMany f_this_read)) (fun u : Int32 => u) (by decide) rfl rfl (Nat.le_of_ble_eq_true rfl) ?_
  intro p e s m args below meth c A Q S hK hA hw ret ls hl
  replace hl : lv_has ls 3 [(0, .ref a_this), (1, .int i1)] := hl
  refine lv_iload_n S.1 S.2.1 dX8_isDotted_0 rfl (lv_at hl 1 rfl) ?_
  refine lv_iconst (v := 1) S.1 S.2.1 dX8_isDotted_1 (by decide) ?_
  refine lv_iadd S.1 S.2.1 dX8_isDotted_2 ?_
  refine z_leti h (fun y1 h => ?_)
  refine lv_istore_n (lv' := [(2, .int y1), (0, .ref a_this), (1, .int i1)]) S.1 S.2.1 dX8_isDotted_3 rfl hl (by decide) rfl (fun ls hl => ?_)
  have J_29 : ∀ (x2 : Int32) (h : (p_X8_isDotted_j29 v_this_signs f_this_read) x2 = some o) (H : Heap) (locs : List Loc) (ls : Array Slot), zW D A s H locs (wd_X8_isDotted cI cJ cZ a_this a_this_board a_this_area a_this_x0 a_this_y0 a_this_x1 a_this_y1 a_this_head a_this_said a_this_low a_this_high a_this_least a_this_price a_this_way a_this_lineFirst a_this_lineLast a_this_left a_this_pile a_this_rest a_this_read a_this_measure a_this_wentBack v_this_run v_this_signs v_this_lastSigns v_this_dirt v_this_time v_this_lineMany v_this_notSign v_this_notKind v_this_measureMany f_this_read) → lv_has ls 3 [(0, .ref a_this), (2, .int x2)] → W p l e (headSpec gs_X8_isDotted rm_X8_isDotted).room s m args below meth c H locs 0 0 Q (F0 m 29 ls []) := by
    intro x2 h H locs ls hw hl
    refine lv_iload_n S.1 S.2.1 dX8_isDotted_29 rfl (lv_at hl 1 rfl) ?_
    refine lv_aload_n S.1 S.2.1 dX8_isDotted_30 rfl (lv_at hl 0 rfl) ?_
    refine z_get S (C := RX8) (T := TX8) (N := 30) (gi gu_X8) hK hw 0 rfl rfl 2 (Nat.le_of_ble_eq_true rfl) (List.mem_cons_of_mem _ gw_713) rfl dX8_isDotted_31 ?_
    refine z_icmp_ge S (tgt := 51) h dX8_isDotted_34 (by decide) (fun h => ?_) (fun h => ?_)
    · refine lv_iconst (v := 0) S.1 S.2.1 dX8_isDotted_51 (by decide) ?_
      exact ret 0 h (z_nb (Or.inl rfl)) 52 ls _ _ dX8_isDotted_52 hw
    · refine lv_aload_n S.1 S.2.1 dX8_isDotted_37 rfl (lv_at hl 0 rfl) ?_
      refine z_get S (C := RX8) (T := TX8) (N := 30) (gi gu_X8) hK hw 0 rfl rfl 26 (Nat.le_of_ble_eq_true rfl) (List.mem_cons_of_mem _ gw_737) rfl dX8_isDotted_38 ?_
      refine lv_iload_n S.1 S.2.1 dX8_isDotted_41 rfl (lv_at hl 1 rfl) ?_
      refine z_iald S hK hw 1 0 rfl rfl h dX8_isDotted_42 (fun y3 h => ?_)
      refine lv_iconst (v := 4) S.1 S.2.1 dX8_isDotted_43 (by decide) ?_
      refine z_icmp_ne S (tgt := 51) h dX8_isDotted_44 (by decide) (fun h => ?_) (fun h => ?_)
      · refine lv_iconst (v := 0) S.1 S.2.1 dX8_isDotted_51 (by decide) ?_
        exact ret 0 h (z_nb (Or.inl rfl)) 52 ls _ _ dX8_isDotted_52 hw
      · refine lv_iconst (v := 1) S.1 S.2.1 dX8_isDotted_47 (by decide) ?_
        refine lv_goto (tgt := 52) S.1 S.2.1 dX8_isDotted_48 (by decide) ?_
        exact ret 1 h (z_nb (Or.inr rfl)) 52 ls _ _ dX8_isDotted_52 hw
  have L_4 : ∀ (n4_4 : Nat) (x4 : Int32) (h : z_lp1 (p_X8_isDotted_l4 v_this_signs f_this_read (p_X8_isDotted_j29 v_this_signs f_this_read)) n4_4 x4 = some o) (H : Heap) (locs : List Loc) (ls : Array Slot), zW D A s H locs (wd_X8_isDotted cI cJ cZ a_this a_this_board a_this_area a_this_x0 a_this_y0 a_this_x1 a_this_y1 a_this_head a_this_said a_this_low a_this_high a_this_least a_this_price a_this_way a_this_lineFirst a_this_lineLast a_this_left a_this_pile a_this_rest a_this_read a_this_measure a_this_wentBack v_this_run v_this_signs v_this_lastSigns v_this_dirt v_this_time v_this_lineMany v_this_notSign v_this_notKind v_this_measureMany f_this_read) → lv_has ls 3 [(0, .ref a_this), (2, .int x4)] → W p l e (headSpec gs_X8_isDotted rm_X8_isDotted).room s m args below meth c H locs 0 0 Q (F0 m 4 ls []) := by
    intro n4_4
    induction n4_4 with
    | zero => intro x4 h; exact z_no h
    | succ n4_4 ih_4 =>
      intro x4 h H locs ls hw hl
      replace h : (p_X8_isDotted_l4 v_this_signs f_this_read (p_X8_isDotted_j29 v_this_signs f_this_read)) (z_lp1 (p_X8_isDotted_l4 v_this_signs f_this_read (p_X8_isDotted_j29 v_this_signs f_this_read)) n4_4) x4 = some o := h
      refine lv_iload_n S.1 S.2.1 dX8_isDotted_4 rfl (lv_at hl 1 rfl) ?_
      refine lv_aload_n S.1 S.2.1 dX8_isDotted_5 rfl (lv_at hl 0 rfl) ?_
      refine z_get S (C := RX8) (T := TX8) (N := 30) (gi gu_X8) hK hw 0 rfl rfl 2 (Nat.le_of_ble_eq_true rfl) (List.mem_cons_of_mem _ gw_713) rfl dX8_isDotted_6 ?_
      refine z_icmp_ge S (tgt := 29) h dX8_isDotted_9 (by decide) (fun h => ?_) (fun h => ?_)
      · exact J_29 x4 h _ _ ls hw (lv_sub hl [0, 1] rfl)
      · refine lv_aload_n S.1 S.2.1 dX8_isDotted_12 rfl (lv_at hl 0 rfl) ?_
        refine z_get S (C := RX8) (T := TX8) (N := 30) (gi gu_X8) hK hw 0 rfl rfl 26 (Nat.le_of_ble_eq_true rfl) (List.mem_cons_of_mem _ gw_737) rfl dX8_isDotted_13 ?_
        refine lv_iload_n S.1 S.2.1 dX8_isDotted_16 rfl (lv_at hl 1 rfl) ?_
        refine z_iald S hK hw 1 0 rfl rfl h dX8_isDotted_17 (fun y5 h => ?_)
        refine lv_bipush (v := 6) S.1 S.2.1 dX8_isDotted_18 (by decide) ?_
        refine z_icmp_ne S (tgt := 29) h dX8_isDotted_20 (by decide) (fun h => ?_) (fun h => ?_)
        · exact J_29 x4 h _ _ ls hw (lv_sub hl [0, 1] rfl)
        · refine z_iinc S (i := 2) (k := 1) (v := x4 + 1) hl rfl (by decide) rfl (fun v => (2, .int v) :: [(0, .ref a_this)]) (fun _ => rfl) h dX8_isDotted_23 (fun y6 ls hl h => ?_)
          replace hl : lv_has ls 3 [(2, .int y6), (0, .ref a_this)] := hl
          refine lv_goto (tgt := 4) S.1 S.2.1 dX8_isDotted_26 (by decide) ?_
          exact ih_4 y6 h _ _ ls hw (lv_sub hl [1, 0] rfl)
  exact L_4 K y1 h _ _ ls hw (lv_sub hl [1, 0] rfl)
theorem gw_954 : Cond.methodLink RX8 186 yX8_isDotted ∈ GW := GW_of 954 (by decide +kernel) (by decide +kernel)
theorem gw_957 : Cond.code yX8_isDotted cX8_isDotted 3 (some .boolean) ∈ GW := GW_of 957 (by decide +kernel) (by decide +kernel)
theorem gw_956 : Cond.instanceMethod yX8_isDotted ∈ GW := GW_of 956 (by decide +kernel) (by decide +kernel)
theorem gw_47 : Cond.selects RX8 yX8_isDotted yX8_isDotted ∈ GW := GW_of 47 (by decide +kernel) (by decide +kernel)
def gs_X8_note : List Cond := Cond.code yX8_note cX8_note 7 (some .int) :: GW
def wd_X8_note (cI cJ cZ : ClassId) (a_this a_this_board a_this_area a_this_x0 a_this_y0 a_this_x1 a_this_y1 a_this_head a_this_said a_this_low a_this_high a_this_least a_this_price a_this_way a_this_lineFirst a_this_lineLast a_this_left a_this_pile a_this_rest a_this_read a_this_measure a_this_wentBack : Nat) (v_this_run : Int32) (v_this_signs : Int32) (v_this_lastSigns : Int32) (v_this_dirt : Int32) (v_this_time : Int32) (v_this_lineMany : Int32) (v_this_notSign : Int32) (v_this_notKind : Int32) (v_this_measureMany : Int32) (f_this_board : Nat → Int64) (f_this_area : Nat → Int32) (f_this_y0 : Nat → Int32) (f_this_y1 : Nat → Int32) (f_this_said : Nat → Int32) (f_this_low : Nat → Int32) (f_this_high : Nat → Int32) (f_this_least : Nat → Int32) (f_this_price : Nat → Int32) (f_this_lineFirst : Nat → Int32) (f_this_lineLast : Nat → Int32) (f_this_rest : Nat → Int32) (f_this_read : Nat → Int32) (f_this_measure : Nat → Int32) : va_W := ((a_this, .inr (8, [.ref a_this_board, .int v_this_run, .int v_this_signs, .int v_this_lastSigns, .ref a_this_area, .ref a_this_x0, .ref a_this_y0, .ref a_this_x1, .ref a_this_y1, .ref a_this_head, .ref a_this_said, .ref a_this_low, .ref a_this_high, .ref a_this_least, .ref a_this_price, .int v_this_dirt, .int v_this_time, .ref a_this_way, .int v_this_lineMany, .ref a_this_lineFirst, .ref a_this_lineLast, .ref a_this_left, .ref a_this_pile, .ref a_this_rest, .int v_this_notSign, .int v_this_notKind, .ref a_this_read, .ref a_this_measure, .int v_this_measureMany, .ref a_this_wentBack])) :: (a_this_board, .inl (cJ, 32, .inr (.inl f_this_board))) :: (a_this_area, .inl (cI, 40, .inl f_this_area)) :: (a_this_y0, .inl (cI, 40, .inl f_this_y0)) :: (a_this_y1, .inl (cI, 40, .inl f_this_y1)) :: (a_this_said, .inl (cI, 40, .inl f_this_said)) :: (a_this_low, .inl (cI, 6, .inl f_this_low)) :: (a_this_high, .inl (cI, 6, .inl f_this_high)) :: (a_this_least, .inl (cI, 6, .inl f_this_least)) :: (a_this_price, .inl (cI, 6, .inl f_this_price)) :: (a_this_lineFirst, .inl (cI, 32, .inl f_this_lineFirst)) :: (a_this_lineLast, .inl (cI, 32, .inl f_this_lineLast)) :: (a_this_rest, .inl (cI, 6027, .inl f_this_rest)) :: (a_this_read, .inl (cI, 40, .inl f_this_read)) :: (a_this_measure, .inl (cI, 40, .inl f_this_measure)) :: [])
abbrev rm_X8_note : Room := { frames := 6, cells := 0, slots := 0, locals := 138 }
theorem hd_X8_note : yX8_note.cls = RX8 ∧ yX8_note.cls ≠ "java/lang/invoke/MethodHandle" ∧ yX8_note.cls ≠ "java/lang/invoke/VarHandle" ∧ (parseMethodDescriptor yX8_note.desc).map (fun d => d.parameters.length) = some 3 := by decide +kernel
set_option maxHeartbeats 4000000 in
set_option maxRecDepth 100000 in
theorem c_X8_note (l : Launch) (D : va_G) (cI cJ cZ : ClassId) (a_this a_this_board a_this_area a_this_x0 a_this_y0 a_this_x1 a_this_y1 a_this_head a_this_said a_this_low a_this_high a_this_least a_this_price a_this_way a_this_lineFirst a_this_lineLast a_this_left a_this_pile a_this_rest a_this_read a_this_measure a_this_wentBack : Nat) (v_this_run : Int32) (v_this_signs : Int32) (v_this_lastSigns : Int32) (v_this_dirt : Int32) (v_this_time : Int32) (v_this_lineMany : Int32) (v_this_notSign : Int32) (v_this_notKind : Int32) (v_this_measureMany : Int32) (f_this_board : Nat → Int64) (f_this_area : Nat → Int32) (f_this_y0 : Nat → Int32) (f_this_y1 : Nat → Int32) (f_this_said : Nat → Int32) (f_this_low : Nat → Int32) (f_this_high : Nat → Int32) (f_this_least : Nat → Int32) (f_this_price : Nat → Int32) (f_this_lineFirst : Nat → Int32) (f_this_lineLast : Nat → Int32) (f_this_rest : Nat → Int32) (f_this_read : Nat → Int32) (f_this_measure : Nat → Int32) (K : Nat) (i1 : Int32) (i2 : Int32) (i3 : Int32) (o : Int32 × Int32 × Int32 × (Nat → Int32) × (Nat → Int32) × (Nat → Int32) × (Nat → Int32) × (Nat → Int32)) (h : p_X8_note K v_this_run v_this_signs v_this_dirt v_this_time v_this_lineMany v_this_notSign v_this_notKind v_this_measureMany f_this_board f_this_area f_this_y0 f_this_y1 f_this_said f_this_low f_this_high f_this_least f_this_price f_this_lineFirst f_this_lineLast f_this_rest f_this_read f_this_measure i1 i2 i3 = some o) : zMi l D (zT cI cJ cZ) yX8_note gs_X8_note rm_X8_note [.ref a_this, .int i1, .int i2, .int i3] (wd_X8_note cI cJ cZ a_this a_this_board a_this_area a_this_x0 a_this_y0 a_this_x1 a_this_y1 a_this_head a_this_said a_this_low a_this_high a_this_least a_this_price a_this_way a_this_lineFirst a_this_lineLast a_this_left a_this_pile a_this_rest a_this_read a_this_measure a_this_wentBack v_this_run v_this_signs v_this_lastSigns v_this_dirt v_this_time v_this_lineMany v_this_notSign v_this_notKind v_this_measureMany f_this_board f_this_area f_this_y0 f_this_y1 f_this_said f_this_low f_this_high f_this_least f_this_price f_this_lineFirst f_this_lineLast f_this_rest f_this_read f_this_measure) (wd_X8_note cI cJ cZ a_this a_this_board a_this_area a_this_x0 a_this_y0 a_this_x1 a_this_y1 a_this_head a_this_said a_this_low a_this_high a_this_least a_this_price a_this_way a_this_lineFirst a_this_lineLast a_this_left a_this_pile a_this_rest a_this_read a_this_measure a_this_wentBack v_this_run v_this_signs v_this_lastSigns v_this_dirt v_this_time (o.2.1) v_this_notSign v_this_notKind (o.2.2.1) f_this_board f_this_area f_this_y0 f_this_y1 f_this_said f_this_low f_this_high f_this_least f_this_price (o.2.2.2.1) (o.2.2.2.2.1) (o.2.2.2.2.2.1) (o.2.2.2.2.2.2.1) (o.2.2.2.2.2.2.2)) (o.1) := by
  refine zMet_i (own := RX8) (fun u : Int32 × Int32 × Int32 × (Nat → Int32) × (Nat → Int32) × (Nat → Int32) × (Nat → Int32) × (Nat → Int32) => (wd_X8_note cI cJ cZ a_this a_this_board a_this_area a_this_x0 a_this_y0 a_this_x1 a_this_y1 a_this_head a_this_said a_this_low a_this_high a_this_least a_this_price a_this_way a_this_lineFirst a_this_lineLast a_this_left a_this_pile a_this_rest a_this_read a_this_measure a_this_wentBack v_this_run v_this_signs v_this_lastSigns v_this_dirt v_this_time (u.2.1) v_this_notSign v_this_notKind (u.2.2.1) f_this_board f_this_area f_this_y0 f_this_y1 f_this_said f_this_low f_this_high f_this_least f_this_price (u.2.2.2.1) (u.2.2.2.2.1) (u.2.2.2.2.2.1) (u.2.2.2.2.2.2.1) (u.2.2.2.2.2.2.2))) (fun u : Int32 × Int32 × Int32 × (Nat → Int32) × (Nat → Int32) × (Nat → Int32) × (Nat → Int32) × (Nat → Int32) => u.1) (by decide) rfl rfl (Nat.le_of_ble_eq_true rfl) ?_
  intro p e s m args below meth c A Q S hK hA hw ret ls hl
  replace hl : lv_has ls 7 [(0, .ref a_this), (1, .int i1), (2, .int i2), (3, .int i3)] := hl
  refine lv_iload_n S.1 S.2.1 dX8_note_0 rfl (lv_at hl 3 rfl) ?_
  refine lv_iconst (v := 0) S.1 S.2.1 dX8_note_1 (by decide) ?_
  refine lv_iconst (v := 2) S.1 S.2.1 dX8_note_2 (by decide) ?_
  obtain ⟨y1, hc, h⟩ := z_b1_e h
  refine z_callSi (As := [.int i3, .int 0, .int 2]) (rest := []) S (c_X8_in l D cI cJ cZ i3 0 2 _ hc) (va_cwS 3 S.2.2.2.2 (gw_S gw_807 gw_808 gw_58 gw_809) rfl rfl rfl hd_X8_in ⟨Nat.le_of_ble_eq_true rfl, Nat.le_of_ble_eq_true rfl⟩) hK hA hw [] (by decide) rfl rfl (none :: none :: none :: none :: none :: none :: none :: none :: none :: none :: none :: none :: none :: none :: none :: []) rfl (by decide) hl.1 rfl rfl (lv_room (Nat.le_of_ble_eq_true rfl)) ⟨Nat.zero_le _, Nat.zero_le _⟩ dX8_note_3 (fun H locs hw => ?_)
  replace hw : zW D A s H locs (wd_X8_note cI cJ cZ a_this a_this_board a_this_area a_this_x0 a_this_y0 a_this_x1 a_this_y1 a_this_head a_this_said a_this_low a_this_high a_this_least a_this_price a_this_way a_this_lineFirst a_this_lineLast a_this_left a_this_pile a_this_rest a_this_read a_this_measure a_this_wentBack v_this_run v_this_signs v_this_lastSigns v_this_dirt v_this_time v_this_lineMany v_this_notSign v_this_notKind v_this_measureMany f_this_board f_this_area f_this_y0 f_this_y1 f_this_said f_this_low f_this_high f_this_least f_this_price f_this_lineFirst f_this_lineLast f_this_rest f_this_read f_this_measure) := hw
  refine z_if_eq S (tgt := 34) h dX8_note_6 (by decide) (fun h => ?_) (fun h => ?_)
  · refine lv_ldc (v := (-2147483648)) S.1 S.2.1 S.2.2.2.1 (S.2.2.2.2 _ (List.mem_cons_of_mem _ gw_882)) dX8_note_34 ?_
    exact ret ((-2147483648), v_this_lineMany, v_this_measureMany, f_this_lineFirst, f_this_lineLast, f_this_rest, f_this_read, f_this_measure) h 36 ls _ _ dX8_note_36 hw
  · refine lv_iload_n S.1 S.2.1 dX8_note_9 rfl (lv_at hl 2 rfl) ?_
    refine z_if_lt S (tgt := 34) h dX8_note_10 (by decide) (fun h => ?_) (fun h => ?_)
    · refine lv_ldc (v := (-2147483648)) S.1 S.2.1 S.2.2.2.1 (S.2.2.2.2 _ (List.mem_cons_of_mem _ gw_882)) dX8_note_34 ?_
      exact ret ((-2147483648), v_this_lineMany, v_this_measureMany, f_this_lineFirst, f_this_lineLast, f_this_rest, f_this_read, f_this_measure) h 36 ls _ _ dX8_note_36 hw
    · refine lv_aload_n S.1 S.2.1 dX8_note_13 rfl (lv_at hl 0 rfl) ?_
      obtain ⟨y2, v3, f4, f5, f6, hc, h⟩ := z_b5_e h
      refine z_callVi (As := []) (rest := []) S (c_X8_findMeasures l D cI cJ cZ a_this a_this_board a_this_area a_this_x0 a_this_y0 a_this_x1 a_this_y1 a_this_head a_this_said a_this_low a_this_high a_this_least a_this_price a_this_way a_this_lineFirst a_this_lineLast a_this_left a_this_pile a_this_rest a_this_read a_this_measure a_this_wentBack v_this_run v_this_signs v_this_lastSigns v_this_dirt v_this_time v_this_lineMany v_this_notSign v_this_notKind v_this_measureMany f_this_area f_this_y0 f_this_y1 f_this_said f_this_low f_this_high f_this_least f_this_price f_this_rest f_this_read f_this_measure K _ hc) (cwV 0 S.2.2.2.2 (gw_V gw_946 gw_948 gw_46 gw_58 gw_949) rfl rfl rfl hd_X8_findMeasures ⟨Nat.le_of_ble_eq_true rfl, Nat.le_of_ble_eq_true rfl⟩) hK hA hw [0, 2, 3, 4, 5, 6, 7, 8, 9, 12, 13, 14] (by decide) rfl rfl (some 0 :: none :: some 1 :: some 2 :: some 3 :: some 4 :: some 5 :: some 6 :: some 7 :: some 8 :: none :: none :: some 9 :: some 10 :: some 11 :: []) rfl (by decide) 0 rfl rfl hl.1 rfl rfl (lv_room (Nat.le_of_ble_eq_true rfl)) ⟨Nat.zero_le _, Nat.zero_le _⟩ dX8_note_14 (fun H locs hw => ?_)
      replace hw : zW D A s H locs (wd_X8_note cI cJ cZ a_this a_this_board a_this_area a_this_x0 a_this_y0 a_this_x1 a_this_y1 a_this_head a_this_said a_this_low a_this_high a_this_least a_this_price a_this_way a_this_lineFirst a_this_lineLast a_this_left a_this_pile a_this_rest a_this_read a_this_measure a_this_wentBack v_this_run v_this_signs v_this_lastSigns v_this_dirt v_this_time v_this_lineMany v_this_notSign v_this_notKind v3 f_this_board f_this_area f_this_y0 f_this_y1 f_this_said f_this_low f_this_high f_this_least f_this_price f_this_lineFirst f_this_lineLast f4 f5 f6) := hw
      refine z_if_eq S (tgt := 34) h dX8_note_17 (by decide) (fun h => ?_) (fun h => ?_)
      · refine lv_ldc (v := (-2147483648)) S.1 S.2.1 S.2.2.2.1 (S.2.2.2.2 _ (List.mem_cons_of_mem _ gw_882)) dX8_note_34 ?_
        exact ret ((-2147483648), v_this_lineMany, v3, f_this_lineFirst, f_this_lineLast, f4, f5, f6) h 36 ls _ _ dX8_note_36 hw
      · refine lv_iload_n S.1 S.2.1 dX8_note_20 rfl (lv_at hl 1 rfl) ?_
        refine lv_iconst (v := 0) S.1 S.2.1 dX8_note_21 (by decide) ?_
        refine lv_aload_n S.1 S.2.1 dX8_note_22 rfl (lv_at hl 0 rfl) ?_
        refine z_get S (C := RX8) (T := TX8) (N := 30) (gi gu_X8) hK hw 0 rfl rfl 28 (Nat.le_of_ble_eq_true rfl) (List.mem_cons_of_mem _ gw_739) rfl dX8_note_23 ?_
        refine lv_iconst (v := 1) S.1 S.2.1 dX8_note_26 (by decide) ?_
        refine lv_isub S.1 S.2.1 dX8_note_27 ?_
        obtain ⟨y7, hc, h⟩ := z_b1_e h
        refine z_callSi (As := [.int i1, .int 0, .int (v3 - 1)]) (rest := []) S (c_X8_in l D cI cJ cZ i1 0 (v3 - 1) _ hc) (va_cwS 3 S.2.2.2.2 (gw_S gw_807 gw_808 gw_58 gw_809) rfl rfl rfl hd_X8_in ⟨Nat.le_of_ble_eq_true rfl, Nat.le_of_ble_eq_true rfl⟩) hK hA hw [] (by decide) rfl rfl (none :: none :: none :: none :: none :: none :: none :: none :: none :: none :: none :: none :: none :: none :: none :: []) rfl (by decide) hl.1 rfl rfl (lv_room (Nat.le_of_ble_eq_true rfl)) ⟨Nat.zero_le _, Nat.zero_le _⟩ dX8_note_28 (fun H locs hw => ?_)
        replace hw : zW D A s H locs (wd_X8_note cI cJ cZ a_this a_this_board a_this_area a_this_x0 a_this_y0 a_this_x1 a_this_y1 a_this_head a_this_said a_this_low a_this_high a_this_least a_this_price a_this_way a_this_lineFirst a_this_lineLast a_this_left a_this_pile a_this_rest a_this_read a_this_measure a_this_wentBack v_this_run v_this_signs v_this_lastSigns v_this_dirt v_this_time v_this_lineMany v_this_notSign v_this_notKind v3 f_this_board f_this_area f_this_y0 f_this_y1 f_this_said f_this_low f_this_high f_this_least f_this_price f_this_lineFirst f_this_lineLast f4 f5 f6) := hw
        refine z_if_ne S (tgt := 37) h dX8_note_31 (by decide) (fun h => ?_) (fun h => ?_)
        · refine lv_iconst (v := 0) S.1 S.2.1 dX8_note_37 (by decide) ?_
          refine lv_istore (lv' := [(4, .int 0), (0, .ref a_this), (1, .int i1), (2, .int i2), (3, .int i3)]) S.1 S.2.1 dX8_note_38 hl (by decide) rfl (fun ls hl => ?_)
          refine lv_iconst (v := 0) S.1 S.2.1 dX8_note_40 (by decide) ?_
          refine lv_istore (lv' := [(5, .int 0), (4, .int 0), (0, .ref a_this), (1, .int i1), (2, .int i2), (3, .int i3)]) S.1 S.2.1 dX8_note_41 hl (by decide) rfl (fun ls hl => ?_)
          have J_80 : ∀ (x8 : Int32) (h : (p_X8_note_j80 f5 i3 v_this_lineMany v3 f_this_lineFirst f_this_lineLast f4 f6 K v_this_run f_this_board f_this_y0 f_this_y1 v_this_signs) x8 = some o) (H : Heap) (locs : List Loc) (ls : Array Slot), zW D A s H locs (wd_X8_note cI cJ cZ a_this a_this_board a_this_area a_this_x0 a_this_y0 a_this_x1 a_this_y1 a_this_head a_this_said a_this_low a_this_high a_this_least a_this_price a_this_way a_this_lineFirst a_this_lineLast a_this_left a_this_pile a_this_rest a_this_read a_this_measure a_this_wentBack v_this_run v_this_signs v_this_lastSigns v_this_dirt v_this_time v_this_lineMany v_this_notSign v_this_notKind v3 f_this_board f_this_area f_this_y0 f_this_y1 f_this_said f_this_low f_this_high f_this_least f_this_price f_this_lineFirst f_this_lineLast f4 f5 f6) → lv_has ls 7 [(0, .ref a_this), (3, .int i3), (5, .int x8)] → W p l e (headSpec gs_X8_note rm_X8_note).room s m args below meth c H locs 0 0 Q (F0 m 80 ls []) := by
            intro x8 h H locs ls hw hl
            refine lv_aload_n S.1 S.2.1 dX8_note_80 rfl (lv_at hl 0 rfl) ?_
            refine z_get S (C := RX8) (T := TX8) (N := 30) (gi gu_X8) hK hw 0 rfl rfl 26 (Nat.le_of_ble_eq_true rfl) (List.mem_cons_of_mem _ gw_737) rfl dX8_note_81 ?_
            refine lv_iload S.1 S.2.1 dX8_note_84 (lv_at hl 2 rfl) ?_
            refine z_iald S hK hw 13 0 rfl rfl h dX8_note_86 (fun y9 h => ?_)
            obtain ⟨y10, hc, h⟩ := z_b1_e h
            refine z_callSi (As := [.int y9]) (rest := []) S (c_X8_timeOf l D cI cJ cZ y9 _ hc) (va_cwS 1 S.2.2.2.2 (gw_S gw_923 gw_924 gw_58 gw_925) rfl rfl rfl hd_X8_timeOf ⟨Nat.le_of_ble_eq_true rfl, Nat.le_of_ble_eq_true rfl⟩) hK hA hw [] (by decide) rfl rfl (none :: none :: none :: none :: none :: none :: none :: none :: none :: none :: none :: none :: none :: none :: none :: []) rfl (by decide) hl.1 rfl rfl (lv_room (Nat.le_of_ble_eq_true rfl)) ⟨Nat.zero_le _, Nat.zero_le _⟩ dX8_note_87 (fun H locs hw => ?_)
            replace hw : zW D A s H locs (wd_X8_note cI cJ cZ a_this a_this_board a_this_area a_this_x0 a_this_y0 a_this_x1 a_this_y1 a_this_head a_this_said a_this_low a_this_high a_this_least a_this_price a_this_way a_this_lineFirst a_this_lineLast a_this_left a_this_pile a_this_rest a_this_read a_this_measure a_this_wentBack v_this_run v_this_signs v_this_lastSigns v_this_dirt v_this_time v_this_lineMany v_this_notSign v_this_notKind v3 f_this_board f_this_area f_this_y0 f_this_y1 f_this_said f_this_low f_this_high f_this_least f_this_price f_this_lineFirst f_this_lineLast f4 f5 f6) := hw
            refine lv_istore (lv' := [(6, .int y10), (0, .ref a_this), (3, .int i3), (5, .int x8)]) S.1 S.2.1 dX8_note_90 hl (by decide) rfl (fun ls hl => ?_)
            refine lv_iload_n S.1 S.2.1 dX8_note_92 rfl (lv_at hl 2 rfl) ?_
            refine z_if_ne S (tgt := 101) h dX8_note_93 (by decide) (fun h => ?_) (fun h => ?_)
            · refine lv_iload_n S.1 S.2.1 dX8_note_101 rfl (lv_at hl 2 rfl) ?_
              refine lv_iconst (v := 1) S.1 S.2.1 dX8_note_102 (by decide) ?_
              refine z_icmp_ne S (tgt := 115) h dX8_note_103 (by decide) (fun h => ?_) (fun h => ?_)
              · refine lv_aload_n S.1 S.2.1 dX8_note_115 rfl (lv_at hl 1 rfl) ?_
                refine lv_iload S.1 S.2.1 dX8_note_116 (lv_at hl 3 rfl) ?_
                obtain ⟨y11, hc, h⟩ := z_b1_e h
                refine z_callVi (As := [.int x8]) (rest := []) S (c_X8_isDotted l D cI cJ cZ a_this a_this_board a_this_area a_this_x0 a_this_y0 a_this_x1 a_this_y1 a_this_head a_this_said a_this_low a_this_high a_this_least a_this_price a_this_way a_this_lineFirst a_this_lineLast a_this_left a_this_pile a_this_rest a_this_read a_this_measure a_this_wentBack v_this_run v_this_signs v_this_lastSigns v_this_dirt v_this_time v_this_lineMany v_this_notSign v_this_notKind v3 f5 K x8 _ hc) (cwV 1 S.2.2.2.2 (gw_V gw_954 gw_956 gw_47 gw_58 gw_957) rfl rfl rfl hd_X8_isDotted ⟨Nat.le_of_ble_eq_true rfl, Nat.le_of_ble_eq_true rfl⟩) hK hA hw [0, 13] (by decide) rfl rfl (some 0 :: none :: none :: none :: none :: none :: none :: none :: none :: none :: none :: none :: none :: some 1 :: none :: []) rfl (by decide) 0 rfl rfl hl.1 rfl rfl (lv_room (Nat.le_of_ble_eq_true rfl)) ⟨Nat.zero_le _, Nat.zero_le _⟩ dX8_note_118 (fun H locs hw => ?_)
                replace hw : zW D A s H locs (wd_X8_note cI cJ cZ a_this a_this_board a_this_area a_this_x0 a_this_y0 a_this_x1 a_this_y1 a_this_head a_this_said a_this_low a_this_high a_this_least a_this_price a_this_way a_this_lineFirst a_this_lineLast a_this_left a_this_pile a_this_rest a_this_read a_this_measure a_this_wentBack v_this_run v_this_signs v_this_lastSigns v_this_dirt v_this_time v_this_lineMany v_this_notSign v_this_notKind v3 f_this_board f_this_area f_this_y0 f_this_y1 f_this_said f_this_low f_this_high f_this_least f_this_price f_this_lineFirst f_this_lineLast f4 f5 f6) := hw
                refine z_if_eq S (tgt := 134) h dX8_note_121 (by decide) (fun h => ?_) (fun h => ?_)
                · refine lv_iload S.1 S.2.1 dX8_note_134 (lv_at hl 0 rfl) ?_
                  exact ret (y10, v_this_lineMany, v3, f_this_lineFirst, f_this_lineLast, f4, f5, f6) h 136 ls _ _ dX8_note_136 hw
                · refine lv_iload S.1 S.2.1 dX8_note_124 (lv_at hl 0 rfl) ?_
                  refine lv_iload S.1 S.2.1 dX8_note_126 (lv_at hl 0 rfl) ?_
                  refine lv_iconst (v := 2) S.1 S.2.1 dX8_note_128 (by decide) ?_
                  refine z_idiv S h dX8_note_129 (fun y12 h => ?_)
                  refine lv_iadd S.1 S.2.1 dX8_note_130 ?_
                  refine lv_goto (tgt := 136) S.1 S.2.1 dX8_note_131 (by decide) ?_
                  exact ret ((y10 + y12), v_this_lineMany, v3, f_this_lineFirst, f_this_lineLast, f4, f5, f6) h 136 ls _ _ dX8_note_136 hw
              · refine lv_aload_n S.1 S.2.1 dX8_note_106 rfl (lv_at hl 1 rfl) ?_
                refine lv_iload S.1 S.2.1 dX8_note_107 (lv_at hl 3 rfl) ?_
                obtain ⟨y13, v14, f15, f16, hc, h⟩ := z_b4_e h
                refine z_callVi (As := [.int x8]) (rest := []) S (c_X8_stepOf l D cI cJ cZ a_this a_this_board a_this_area a_this_x0 a_this_y0 a_this_x1 a_this_y1 a_this_head a_this_said a_this_low a_this_high a_this_least a_this_price a_this_way a_this_lineFirst a_this_lineLast a_this_left a_this_pile a_this_rest a_this_read a_this_measure a_this_wentBack v_this_run v_this_signs v_this_lastSigns v_this_dirt v_this_time v_this_lineMany v_this_notSign v_this_notKind v3 f_this_board f_this_y0 f_this_y1 f_this_lineFirst f_this_lineLast K x8 _ hc) (cwV 1 S.2.2.2.2 (gw_V gw_883 gw_885 gw_40 gw_58 gw_886) rfl rfl rfl hd_X8_stepOf ⟨Nat.le_of_ble_eq_true rfl, Nat.le_of_ble_eq_true rfl⟩) hK hA hw [0, 1, 3, 4, 10, 11] (by decide) rfl rfl (some 0 :: some 1 :: none :: some 2 :: some 3 :: none :: none :: none :: none :: none :: some 4 :: some 5 :: none :: none :: none :: []) rfl (by decide) 0 rfl rfl hl.1 rfl rfl (lv_room (Nat.le_of_ble_eq_true rfl)) ⟨Nat.zero_le _, Nat.zero_le _⟩ dX8_note_109 (fun H locs hw => ?_)
                replace hw : zW D A s H locs (wd_X8_note cI cJ cZ a_this a_this_board a_this_area a_this_x0 a_this_y0 a_this_x1 a_this_y1 a_this_head a_this_said a_this_low a_this_high a_this_least a_this_price a_this_way a_this_lineFirst a_this_lineLast a_this_left a_this_pile a_this_rest a_this_read a_this_measure a_this_wentBack v_this_run v_this_signs v_this_lastSigns v_this_dirt v_this_time v14 v_this_notSign v_this_notKind v3 f_this_board f_this_area f_this_y0 f_this_y1 f_this_said f_this_low f_this_high f_this_least f_this_price f15 f16 f4 f5 f6) := hw
                refine lv_goto (tgt := 136) S.1 S.2.1 dX8_note_112 (by decide) ?_
                exact ret (y13, v14, v3, f15, f16, f4, f5, f6) h 136 ls _ _ dX8_note_136 hw
            · refine lv_iload S.1 S.2.1 dX8_note_96 (lv_at hl 3 rfl) ?_
              refine lv_goto (tgt := 136) S.1 S.2.1 dX8_note_98 (by decide) ?_
              exact ret (x8, v_this_lineMany, v3, f_this_lineFirst, f_this_lineLast, f4, f5, f6) h 136 ls _ _ dX8_note_136 hw
          have L_43 : ∀ (n43_18 : Nat) (x17 : Int32) (x18 : Int32) (h : z_lp2 (p_X8_note_l43 v_this_signs v_this_lineMany v3 f_this_lineFirst f_this_lineLast f4 f5 f6 i1 i2 (p_X8_note_j80 f5 i3 v_this_lineMany v3 f_this_lineFirst f_this_lineLast f4 f6 K v_this_run f_this_board f_this_y0 f_this_y1 v_this_signs)) n43_18 x17 x18 = some o) (H : Heap) (locs : List Loc) (ls : Array Slot), zW D A s H locs (wd_X8_note cI cJ cZ a_this a_this_board a_this_area a_this_x0 a_this_y0 a_this_x1 a_this_y1 a_this_head a_this_said a_this_low a_this_high a_this_least a_this_price a_this_way a_this_lineFirst a_this_lineLast a_this_left a_this_pile a_this_rest a_this_read a_this_measure a_this_wentBack v_this_run v_this_signs v_this_lastSigns v_this_dirt v_this_time v_this_lineMany v_this_notSign v_this_notKind v3 f_this_board f_this_area f_this_y0 f_this_y1 f_this_said f_this_low f_this_high f_this_least f_this_price f_this_lineFirst f_this_lineLast f4 f5 f6) → lv_has ls 7 [(0, .ref a_this), (1, .int i1), (2, .int i2), (3, .int i3), (4, .int x17), (5, .int x18)] → W p l e (headSpec gs_X8_note rm_X8_note).room s m args below meth c H locs 0 0 Q (F0 m 43 ls []) := by
            intro n43_18
            induction n43_18 with
            | zero => intro x17 x18 h; exact z_no h
            | succ n43_18 ih_43 =>
              intro x17 x18 h H locs ls hw hl
              replace h : (p_X8_note_l43 v_this_signs v_this_lineMany v3 f_this_lineFirst f_this_lineLast f4 f5 f6 i1 i2 (p_X8_note_j80 f5 i3 v_this_lineMany v3 f_this_lineFirst f_this_lineLast f4 f6 K v_this_run f_this_board f_this_y0 f_this_y1 v_this_signs)) (z_lp2 (p_X8_note_l43 v_this_signs v_this_lineMany v3 f_this_lineFirst f_this_lineLast f4 f5 f6 i1 i2 (p_X8_note_j80 f5 i3 v_this_lineMany v3 f_this_lineFirst f_this_lineLast f4 f6 K v_this_run f_this_board f_this_y0 f_this_y1 v_this_signs)) n43_18) x17 x18 = some o := h
              refine lv_iload S.1 S.2.1 dX8_note_43 (lv_at hl 5 rfl) ?_
              refine lv_aload_n S.1 S.2.1 dX8_note_45 rfl (lv_at hl 0 rfl) ?_
              refine z_get S (C := RX8) (T := TX8) (N := 30) (gi gu_X8) hK hw 0 rfl rfl 2 (Nat.le_of_ble_eq_true rfl) (List.mem_cons_of_mem _ gw_713) rfl dX8_note_46 ?_
              refine z_icmp_ge S (tgt := 146) h dX8_note_49 (by decide) (fun h => ?_) (fun h => ?_)
              · refine lv_ldc (v := (-2147483648)) S.1 S.2.1 S.2.2.2.1 (S.2.2.2.2 _ (List.mem_cons_of_mem _ gw_882)) dX8_note_146 ?_
                exact ret ((-2147483648), v_this_lineMany, v3, f_this_lineFirst, f_this_lineLast, f4, f5, f6) h 148 ls _ _ dX8_note_148 hw
              · refine lv_aload_n S.1 S.2.1 dX8_note_52 rfl (lv_at hl 0 rfl) ?_
                refine z_get S (C := RX8) (T := TX8) (N := 30) (gi gu_X8) hK hw 0 rfl rfl 27 (Nat.le_of_ble_eq_true rfl) (List.mem_cons_of_mem _ gw_738) rfl dX8_note_53 ?_
                refine lv_iload S.1 S.2.1 dX8_note_56 (lv_at hl 5 rfl) ?_
                refine z_iald S hK hw 14 0 rfl rfl h dX8_note_58 (fun y19 h => ?_)
                refine lv_iload_n S.1 S.2.1 dX8_note_59 rfl (lv_at hl 1 rfl) ?_
                refine z_icmp_ne S (tgt := 140) h dX8_note_60 (by decide) (fun h => ?_) (fun h => ?_)
                · refine z_iinc S (i := 5) (k := 5) (v := x18 + 1) hl rfl (by decide) rfl (fun v => (5, .int v) :: [(0, .ref a_this), (1, .int i1), (2, .int i2), (3, .int i3), (4, .int x17)]) (fun _ => rfl) h dX8_note_140 (fun y20 ls hl h => ?_)
                  replace hl : lv_has ls 7 [(5, .int y20), (0, .ref a_this), (1, .int i1), (2, .int i2), (3, .int i3), (4, .int x17)] := hl
                  refine lv_goto (tgt := 43) S.1 S.2.1 dX8_note_143 (by decide) ?_
                  exact ih_43 x17 y20 h _ _ ls hw (lv_sub hl [1, 2, 3, 4, 5, 0] rfl)
                · refine lv_aload_n S.1 S.2.1 dX8_note_63 rfl (lv_at hl 0 rfl) ?_
                  refine z_get S (C := RX8) (T := TX8) (N := 30) (gi gu_X8) hK hw 0 rfl rfl 26 (Nat.le_of_ble_eq_true rfl) (List.mem_cons_of_mem _ gw_737) rfl dX8_note_64 ?_
                  refine lv_iload S.1 S.2.1 dX8_note_67 (lv_at hl 5 rfl) ?_
                  refine z_iald S hK hw 13 0 rfl rfl h dX8_note_69 (fun y21 h => ?_)
                  refine lv_iconst (v := 3) S.1 S.2.1 dX8_note_70 (by decide) ?_
                  refine z_icmp_ge S (tgt := 140) h dX8_note_71 (by decide) (fun h => ?_) (fun h => ?_)
                  · refine z_iinc S (i := 5) (k := 5) (v := x18 + 1) hl rfl (by decide) rfl (fun v => (5, .int v) :: [(0, .ref a_this), (1, .int i1), (2, .int i2), (3, .int i3), (4, .int x17)]) (fun _ => rfl) h dX8_note_140 (fun y22 ls hl h => ?_)
                    replace hl : lv_has ls 7 [(5, .int y22), (0, .ref a_this), (1, .int i1), (2, .int i2), (3, .int i3), (4, .int x17)] := hl
                    refine lv_goto (tgt := 43) S.1 S.2.1 dX8_note_143 (by decide) ?_
                    exact ih_43 x17 y22 h _ _ ls hw (lv_sub hl [1, 2, 3, 4, 5, 0] rfl)
                  · refine lv_iload S.1 S.2.1 dX8_note_74 (lv_at hl 4 rfl) ?_
                    refine lv_iload_n S.1 S.2.1 dX8_note_76 rfl (lv_at hl 2 rfl) ?_
                    refine z_icmp_ne S (tgt := 137) h dX8_note_77 (by decide) (fun h => ?_) (fun h => ?_)
                    · refine z_iinc S (i := 4) (k := 4) (v := x17 + 1) hl rfl (by decide) rfl (fun v => (4, .int v) :: [(0, .ref a_this), (1, .int i1), (2, .int i2), (3, .int i3), (5, .int x18)]) (fun _ => rfl) h dX8_note_137 (fun y23 ls hl h => ?_)
                      replace hl : lv_has ls 7 [(4, .int y23), (0, .ref a_this), (1, .int i1), (2, .int i2), (3, .int i3), (5, .int x18)] := hl
                      refine z_iinc S (i := 5) (k := 5) (v := x18 + 1) hl rfl (by decide) rfl (fun v => (5, .int v) :: [(4, .int y23), (0, .ref a_this), (1, .int i1), (2, .int i2), (3, .int i3)]) (fun _ => rfl) h dX8_note_140 (fun y24 ls hl h => ?_)
                      replace hl : lv_has ls 7 [(5, .int y24), (4, .int y23), (0, .ref a_this), (1, .int i1), (2, .int i2), (3, .int i3)] := hl
                      refine lv_goto (tgt := 43) S.1 S.2.1 dX8_note_143 (by decide) ?_
                      exact ih_43 y23 y24 h _ _ ls hw (lv_sub hl [2, 3, 4, 5, 1, 0] rfl)
                    · exact J_80 x18 h _ _ ls hw (lv_sub hl [0, 3, 5] rfl)
          exact L_43 K 0 0 h _ _ ls hw (lv_sub hl [2, 3, 4, 5, 1, 0] rfl)
        · refine lv_ldc (v := (-2147483648)) S.1 S.2.1 S.2.2.2.1 (S.2.2.2.2 _ (List.mem_cons_of_mem _ gw_882)) dX8_note_34 ?_
          exact ret ((-2147483648), v_this_lineMany, v3, f_this_lineFirst, f_this_lineLast, f4, f5, f6) h 36 ls _ _ dX8_note_36 hw
theorem gw_740 : Cond.fieldLink RX8 93 "ScoreReaderModel" "wentBack" "[Z" ∈ GW := GW_of 740 (by decide +kernel) (by decide +kernel)
def gs_X8_after : List Cond := Cond.code yX8_after cX8_after 3 (some .int) :: GW
def wd_X8_after (cI cJ cZ : ClassId) (a_this a_this_board a_this_area a_this_x0 a_this_y0 a_this_x1 a_this_y1 a_this_head a_this_said a_this_low a_this_high a_this_least a_this_price a_this_way a_this_lineFirst a_this_lineLast a_this_left a_this_pile a_this_rest a_this_read a_this_measure a_this_wentBack : Nat) (v_this_run : Int32) (v_this_signs : Int32) (v_this_lastSigns : Int32) (v_this_dirt : Int32) (v_this_time : Int32) (v_this_lineMany : Int32) (v_this_notSign : Int32) (v_this_notKind : Int32) (v_this_measureMany : Int32) (f_this_way : Nat → Int32) (f_this_wentBack : Nat → Int32) : va_W := [(a_this, .inr (8, [.ref a_this_board, .int v_this_run, .int v_this_signs, .int v_this_lastSigns, .ref a_this_area, .ref a_this_x0, .ref a_this_y0, .ref a_this_x1, .ref a_this_y1, .ref a_this_head, .ref a_this_said, .ref a_this_low, .ref a_this_high, .ref a_this_least, .ref a_this_price, .int v_this_dirt, .int v_this_time, .ref a_this_way, .int v_this_lineMany, .ref a_this_lineFirst, .ref a_this_lineLast, .ref a_this_left, .ref a_this_pile, .ref a_this_rest, .int v_this_notSign, .int v_this_notKind, .ref a_this_read, .ref a_this_measure, .int v_this_measureMany, .ref a_this_wentBack])), (a_this_way, .inl (cI, 40, .inl f_this_way)), (a_this_wentBack, .inl (cZ, 40, .inl f_this_wentBack))]
abbrev rm_X8_after : Room := { frames := 0, cells := 0, slots := 0, locals := 0 }
theorem hd_X8_after : yX8_after.cls = RX8 ∧ yX8_after.cls ≠ "java/lang/invoke/MethodHandle" ∧ yX8_after.cls ≠ "java/lang/invoke/VarHandle" ∧ (parseMethodDescriptor yX8_after.desc).map (fun d => d.parameters.length) = some 1 := by decide +kernel
set_option maxHeartbeats 4000000 in
set_option maxRecDepth 100000 in
theorem c_X8_after (l : Launch) (D : va_G) (cI cJ cZ : ClassId) (a_this a_this_board a_this_area a_this_x0 a_this_y0 a_this_x1 a_this_y1 a_this_head a_this_said a_this_low a_this_high a_this_least a_this_price a_this_way a_this_lineFirst a_this_lineLast a_this_left a_this_pile a_this_rest a_this_read a_this_measure a_this_wentBack : Nat) (v_this_run : Int32) (v_this_signs : Int32) (v_this_lastSigns : Int32) (v_this_dirt : Int32) (v_this_time : Int32) (v_this_lineMany : Int32) (v_this_notSign : Int32) (v_this_notKind : Int32) (v_this_measureMany : Int32) (f_this_way : Nat → Int32) (f_this_wentBack : Nat → Int32) (K : Nat) (i1 : Int32) (o : Int32 × (Nat → Int32)) (h : p_X8_after K f_this_way f_this_wentBack i1 = some o) : zMi l D (zT cI cJ cZ) yX8_after gs_X8_after rm_X8_after [.ref a_this, .int i1] (wd_X8_after cI cJ cZ a_this a_this_board a_this_area a_this_x0 a_this_y0 a_this_x1 a_this_y1 a_this_head a_this_said a_this_low a_this_high a_this_least a_this_price a_this_way a_this_lineFirst a_this_lineLast a_this_left a_this_pile a_this_rest a_this_read a_this_measure a_this_wentBack v_this_run v_this_signs v_this_lastSigns v_this_dirt v_this_time v_this_lineMany v_this_notSign v_this_notKind v_this_measureMany f_this_way f_this_wentBack) (wd_X8_after cI cJ cZ a_this a_this_board a_this_area a_this_x0 a_this_y0 a_this_x1 a_this_y1 a_this_head a_this_said a_this_low a_this_high a_this_least a_this_price a_this_way a_this_lineFirst a_this_lineLast a_this_left a_this_pile a_this_rest a_this_read a_this_measure a_this_wentBack v_this_run v_this_signs v_this_lastSigns v_this_dirt v_this_time v_this_lineMany v_this_notSign v_this_notKind v_this_measureMany f_this_way (o.2)) (o.1) := by
  refine zMet_i (own := RX8) (fun u : Int32 × (Nat → Int32) => (wd_X8_after cI cJ cZ a_this a_this_board a_this_area a_this_x0 a_this_y0 a_this_x1 a_this_y1 a_this_head a_this_said a_this_low a_this_high a_this_least a_this_price a_this_way a_this_lineFirst a_this_lineLast a_this_left a_this_pile a_this_rest a_this_read a_this_measure a_this_wentBack v_this_run v_this_signs v_this_lastSigns v_this_dirt v_this_time v_this_lineMany v_this_notSign v_this_notKind v_this_measureMany f_this_way (u.2))) (fun u : Int32 × (Nat → Int32) => u.1) (by decide) rfl rfl (Nat.le_of_ble_eq_true rfl) ?_
  intro p e s m args below meth c A Q S hK hA hw ret ls hl
  replace hl : lv_has ls 3 [(0, .ref a_this), (1, .int i1)] := hl
  refine lv_aload_n S.1 S.2.1 dX8_after_0 rfl (lv_at hl 0 rfl) ?_
  refine z_get S (C := RX8) (T := TX8) (N := 30) (gi gu_X8) hK hw 0 rfl rfl 17 (Nat.le_of_ble_eq_true rfl) (List.mem_cons_of_mem _ gw_728) rfl dX8_after_1 ?_
  refine lv_iload_n S.1 S.2.1 dX8_after_4 rfl (lv_at hl 1 rfl) ?_
  refine z_iald S hK hw 1 0 rfl rfl h dX8_after_5 (fun y1 h => ?_)
  refine lv_iconst (v := 2) S.1 S.2.1 dX8_after_6 (by decide) ?_
  refine z_icmp_lt S (tgt := 19) h dX8_after_7 (by decide) (fun h => ?_) (fun h => ?_)
  · refine lv_iload_n S.1 S.2.1 dX8_after_19 rfl (lv_at hl 1 rfl) ?_
    refine lv_iconst (v := 1) S.1 S.2.1 dX8_after_20 (by decide) ?_
    refine lv_iadd S.1 S.2.1 dX8_after_21 ?_
    exact ret ((i1 + 1), f_this_wentBack) h 22 ls _ _ dX8_after_22 hw
  · refine lv_aload_n S.1 S.2.1 dX8_after_10 rfl (lv_at hl 0 rfl) ?_
    refine z_get S (C := RX8) (T := TX8) (N := 30) (gi gu_X8) hK hw 0 rfl rfl 29 (Nat.le_of_ble_eq_true rfl) (List.mem_cons_of_mem _ gw_740) rfl dX8_after_11 ?_
    refine lv_iload_n S.1 S.2.1 dX8_after_14 rfl (lv_at hl 1 rfl) ?_
    refine z_zald S hK hw 2 2 rfl rfl h dX8_after_15 (fun y2 h => ?_)
    refine z_if_eq S (tgt := 23) h dX8_after_16 (by decide) (fun h => ?_) (fun h => ?_)
    · refine lv_aload_n S.1 S.2.1 dX8_after_23 rfl (lv_at hl 0 rfl) ?_
      refine z_get S (C := RX8) (T := TX8) (N := 30) (gi gu_X8) hK hw 0 rfl rfl 29 (Nat.le_of_ble_eq_true rfl) (List.mem_cons_of_mem _ gw_740) rfl dX8_after_24 ?_
      refine lv_iload_n S.1 S.2.1 dX8_after_27 rfl (lv_at hl 1 rfl) ?_
      refine lv_iconst (v := 1) S.1 S.2.1 dX8_after_28 (by decide) ?_
      refine z_zast S hK hw 2 2 rfl rfl h dX8_after_29 (fun f3 H locs hw h => ?_)
      replace hw : zW D A s H locs (wd_X8_after cI cJ cZ a_this a_this_board a_this_area a_this_x0 a_this_y0 a_this_x1 a_this_y1 a_this_head a_this_said a_this_low a_this_high a_this_least a_this_price a_this_way a_this_lineFirst a_this_lineLast a_this_left a_this_pile a_this_rest a_this_read a_this_measure a_this_wentBack v_this_run v_this_signs v_this_lastSigns v_this_dirt v_this_time v_this_lineMany v_this_notSign v_this_notKind v_this_measureMany f_this_way f3) := hw
      refine lv_iload_n S.1 S.2.1 dX8_after_30 rfl (lv_at hl 1 rfl) ?_
      refine lv_istore_n (lv' := [(2, .int i1), (0, .ref a_this), (1, .int i1)]) S.1 S.2.1 dX8_after_31 rfl hl (by decide) rfl (fun ls hl => ?_)
      have L_32 : ∀ (n32_4 : Nat) (x4 : Int32) (h : z_lp1 (p_X8_after_l32 f3 f_this_way i1) n32_4 x4 = some o) (H : Heap) (locs : List Loc) (ls : Array Slot), zW D A s H locs (wd_X8_after cI cJ cZ a_this a_this_board a_this_area a_this_x0 a_this_y0 a_this_x1 a_this_y1 a_this_head a_this_said a_this_low a_this_high a_this_least a_this_price a_this_way a_this_lineFirst a_this_lineLast a_this_left a_this_pile a_this_rest a_this_read a_this_measure a_this_wentBack v_this_run v_this_signs v_this_lastSigns v_this_dirt v_this_time v_this_lineMany v_this_notSign v_this_notKind v_this_measureMany f_this_way f3) → lv_has ls 3 [(0, .ref a_this), (1, .int i1), (2, .int x4)] → W p l e (headSpec gs_X8_after rm_X8_after).room s m args below meth c H locs 0 0 Q (F0 m 32 ls []) := by
        intro n32_4
        induction n32_4 with
        | zero => intro x4 h; exact z_no h
        | succ n32_4 ih_32 =>
          intro x4 h H locs ls hw hl
          replace h : (p_X8_after_l32 f3 f_this_way i1) (z_lp1 (p_X8_after_l32 f3 f_this_way i1) n32_4) x4 = some o := h
          refine lv_iload_n S.1 S.2.1 dX8_after_32 rfl (lv_at hl 2 rfl) ?_
          refine z_if_le S (tgt := 62) h dX8_after_33 (by decide) (fun h => ?_) (fun h => ?_)
          · refine lv_iload_n S.1 S.2.1 dX8_after_62 rfl (lv_at hl 2 rfl) ?_
            exact ret (x4, f3) h 63 ls _ _ dX8_after_63 hw
          · refine lv_aload_n S.1 S.2.1 dX8_after_36 rfl (lv_at hl 0 rfl) ?_
            refine z_get S (C := RX8) (T := TX8) (N := 30) (gi gu_X8) hK hw 0 rfl rfl 17 (Nat.le_of_ble_eq_true rfl) (List.mem_cons_of_mem _ gw_728) rfl dX8_after_37 ?_
            refine lv_iload_n S.1 S.2.1 dX8_after_40 rfl (lv_at hl 1 rfl) ?_
            refine z_iald S hK hw 1 0 rfl rfl h dX8_after_41 (fun y5 h => ?_)
            refine lv_iconst (v := 4) S.1 S.2.1 dX8_after_42 (by decide) ?_
            refine z_icmp_eq S (tgt := 56) h dX8_after_43 (by decide) (fun h => ?_) (fun h => ?_)
            · refine z_iinc S (i := 2) (k := 2) (v := x4 + (-1)) hl rfl (by decide) (congrArg (fun w => x4 + w) (by decide : Int32.ofInt (-1) = (-1 : Int32))) (fun v => (2, .int v) :: [(0, .ref a_this), (1, .int i1)]) (fun _ => rfl) h dX8_after_56 (fun y6 ls hl h => ?_)
              replace hl : lv_has ls 3 [(2, .int y6), (0, .ref a_this), (1, .int i1)] := hl
              refine lv_goto (tgt := 32) S.1 S.2.1 dX8_after_59 (by decide) ?_
              exact ih_32 y6 h _ _ ls hw (lv_sub hl [1, 2, 0] rfl)
            · refine lv_aload_n S.1 S.2.1 dX8_after_46 rfl (lv_at hl 0 rfl) ?_
              refine z_get S (C := RX8) (T := TX8) (N := 30) (gi gu_X8) hK hw 0 rfl rfl 17 (Nat.le_of_ble_eq_true rfl) (List.mem_cons_of_mem _ gw_728) rfl dX8_after_47 ?_
              refine lv_iload_n S.1 S.2.1 dX8_after_50 rfl (lv_at hl 2 rfl) ?_
              refine z_iald S hK hw 1 0 rfl rfl h dX8_after_51 (fun y7 h => ?_)
              refine lv_iconst (v := 1) S.1 S.2.1 dX8_after_52 (by decide) ?_
              refine z_icmp_eq S (tgt := 62) h dX8_after_53 (by decide) (fun h => ?_) (fun h => ?_)
              · refine lv_iload_n S.1 S.2.1 dX8_after_62 rfl (lv_at hl 2 rfl) ?_
                exact ret (x4, f3) h 63 ls _ _ dX8_after_63 hw
              · refine z_iinc S (i := 2) (k := 2) (v := x4 + (-1)) hl rfl (by decide) (congrArg (fun w => x4 + w) (by decide : Int32.ofInt (-1) = (-1 : Int32))) (fun v => (2, .int v) :: [(0, .ref a_this), (1, .int i1)]) (fun _ => rfl) h dX8_after_56 (fun y8 ls hl h => ?_)
                replace hl : lv_has ls 3 [(2, .int y8), (0, .ref a_this), (1, .int i1)] := hl
                refine lv_goto (tgt := 32) S.1 S.2.1 dX8_after_59 (by decide) ?_
                exact ih_32 y8 h _ _ ls hw (lv_sub hl [1, 2, 0] rfl)
      exact L_32 K i1 h _ _ ls hw (lv_sub hl [1, 2, 0] rfl)
    · refine lv_iload_n S.1 S.2.1 dX8_after_19 rfl (lv_at hl 1 rfl) ?_
      refine lv_iconst (v := 1) S.1 S.2.1 dX8_after_20 (by decide) ?_
      refine lv_iadd S.1 S.2.1 dX8_after_21 ?_
      exact ret ((i1 + 1), f_this_wentBack) h 22 ls _ _ dX8_after_22 hw
theorem gw_966 : Cond.methodLink RX8 189 yX8_after ∈ GW := GW_of 966 (by decide +kernel) (by decide +kernel)
theorem gw_969 : Cond.code yX8_after cX8_after 3 (some .int) ∈ GW := GW_of 969 (by decide +kernel) (by decide +kernel)
theorem gw_968 : Cond.instanceMethod yX8_after ∈ GW := GW_of 968 (by decide +kernel) (by decide +kernel)
theorem gw_48 : Cond.selects RX8 yX8_after yX8_after ∈ GW := GW_of 48 (by decide +kernel) (by decide +kernel)
def gs_X8_played : List Cond := Cond.code yX8_played cX8_played 4 (some .int) :: GW
def wd_X8_played (cI cJ cZ : ClassId) (a_this a_this_board a_this_area a_this_x0 a_this_y0 a_this_x1 a_this_y1 a_this_head a_this_said a_this_low a_this_high a_this_least a_this_price a_this_way a_this_lineFirst a_this_lineLast a_this_left a_this_pile a_this_rest a_this_read a_this_measure a_this_wentBack : Nat) (v_this_run : Int32) (v_this_signs : Int32) (v_this_lastSigns : Int32) (v_this_dirt : Int32) (v_this_time : Int32) (v_this_lineMany : Int32) (v_this_notSign : Int32) (v_this_notKind : Int32) (v_this_measureMany : Int32) (f_this_area : Nat → Int32) (f_this_y0 : Nat → Int32) (f_this_y1 : Nat → Int32) (f_this_said : Nat → Int32) (f_this_low : Nat → Int32) (f_this_high : Nat → Int32) (f_this_least : Nat → Int32) (f_this_price : Nat → Int32) (f_this_way : Nat → Int32) (f_this_rest : Nat → Int32) (f_this_read : Nat → Int32) (f_this_measure : Nat → Int32) (f_this_wentBack : Nat → Int32) : va_W := ((a_this, .inr (8, [.ref a_this_board, .int v_this_run, .int v_this_signs, .int v_this_lastSigns, .ref a_this_area, .ref a_this_x0, .ref a_this_y0, .ref a_this_x1, .ref a_this_y1, .ref a_this_head, .ref a_this_said, .ref a_this_low, .ref a_this_high, .ref a_this_least, .ref a_this_price, .int v_this_dirt, .int v_this_time, .ref a_this_way, .int v_this_lineMany, .ref a_this_lineFirst, .ref a_this_lineLast, .ref a_this_left, .ref a_this_pile, .ref a_this_rest, .int v_this_notSign, .int v_this_notKind, .ref a_this_read, .ref a_this_measure, .int v_this_measureMany, .ref a_this_wentBack])) :: (a_this_area, .inl (cI, 40, .inl f_this_area)) :: (a_this_y0, .inl (cI, 40, .inl f_this_y0)) :: (a_this_y1, .inl (cI, 40, .inl f_this_y1)) :: (a_this_said, .inl (cI, 40, .inl f_this_said)) :: (a_this_low, .inl (cI, 6, .inl f_this_low)) :: (a_this_high, .inl (cI, 6, .inl f_this_high)) :: (a_this_least, .inl (cI, 6, .inl f_this_least)) :: (a_this_price, .inl (cI, 6, .inl f_this_price)) :: (a_this_way, .inl (cI, 40, .inl f_this_way)) :: (a_this_rest, .inl (cI, 6027, .inl f_this_rest)) :: (a_this_read, .inl (cI, 40, .inl f_this_read)) :: (a_this_measure, .inl (cI, 40, .inl f_this_measure)) :: (a_this_wentBack, .inl (cZ, 40, .inl f_this_wentBack)) :: [])
abbrev rm_X8_played : Room := { frames := 5, cells := 0, slots := 0, locals := 123 }
theorem hd_X8_played : yX8_played.cls = RX8 ∧ yX8_played.cls ≠ "java/lang/invoke/MethodHandle" ∧ yX8_played.cls ≠ "java/lang/invoke/VarHandle" ∧ (parseMethodDescriptor yX8_played.desc).map (fun d => d.parameters.length) = some 1 := by decide +kernel
set_option maxHeartbeats 4000000 in
set_option maxRecDepth 100000 in
theorem c_X8_played (l : Launch) (D : va_G) (cI cJ cZ : ClassId) (a_this a_this_board a_this_area a_this_x0 a_this_y0 a_this_x1 a_this_y1 a_this_head a_this_said a_this_low a_this_high a_this_least a_this_price a_this_way a_this_lineFirst a_this_lineLast a_this_left a_this_pile a_this_rest a_this_read a_this_measure a_this_wentBack : Nat) (v_this_run : Int32) (v_this_signs : Int32) (v_this_lastSigns : Int32) (v_this_dirt : Int32) (v_this_time : Int32) (v_this_lineMany : Int32) (v_this_notSign : Int32) (v_this_notKind : Int32) (v_this_measureMany : Int32) (f_this_area : Nat → Int32) (f_this_y0 : Nat → Int32) (f_this_y1 : Nat → Int32) (f_this_said : Nat → Int32) (f_this_low : Nat → Int32) (f_this_high : Nat → Int32) (f_this_least : Nat → Int32) (f_this_price : Nat → Int32) (f_this_way : Nat → Int32) (f_this_rest : Nat → Int32) (f_this_read : Nat → Int32) (f_this_measure : Nat → Int32) (f_this_wentBack : Nat → Int32) (K : Nat) (i1 : Int32) (o : Int32 × Int32 × (Nat → Int32) × (Nat → Int32) × (Nat → Int32) × (Nat → Int32)) (h : p_X8_played K v_this_signs v_this_dirt v_this_time v_this_notSign v_this_notKind v_this_measureMany f_this_area f_this_y0 f_this_y1 f_this_said f_this_low f_this_high f_this_least f_this_price f_this_way f_this_rest f_this_read f_this_measure f_this_wentBack i1 = some o) : zMi l D (zT cI cJ cZ) yX8_played gs_X8_played rm_X8_played [.ref a_this, .int i1] (wd_X8_played cI cJ cZ a_this a_this_board a_this_area a_this_x0 a_this_y0 a_this_x1 a_this_y1 a_this_head a_this_said a_this_low a_this_high a_this_least a_this_price a_this_way a_this_lineFirst a_this_lineLast a_this_left a_this_pile a_this_rest a_this_read a_this_measure a_this_wentBack v_this_run v_this_signs v_this_lastSigns v_this_dirt v_this_time v_this_lineMany v_this_notSign v_this_notKind v_this_measureMany f_this_area f_this_y0 f_this_y1 f_this_said f_this_low f_this_high f_this_least f_this_price f_this_way f_this_rest f_this_read f_this_measure f_this_wentBack) (wd_X8_played cI cJ cZ a_this a_this_board a_this_area a_this_x0 a_this_y0 a_this_x1 a_this_y1 a_this_head a_this_said a_this_low a_this_high a_this_least a_this_price a_this_way a_this_lineFirst a_this_lineLast a_this_left a_this_pile a_this_rest a_this_read a_this_measure a_this_wentBack v_this_run v_this_signs v_this_lastSigns v_this_dirt v_this_time v_this_lineMany v_this_notSign v_this_notKind (o.2.1) f_this_area f_this_y0 f_this_y1 f_this_said f_this_low f_this_high f_this_least f_this_price f_this_way (o.2.2.1) (o.2.2.2.1) (o.2.2.2.2.1) (o.2.2.2.2.2)) (o.1) := by
  refine zMet_i (own := RX8) (fun u : Int32 × Int32 × (Nat → Int32) × (Nat → Int32) × (Nat → Int32) × (Nat → Int32) => (wd_X8_played cI cJ cZ a_this a_this_board a_this_area a_this_x0 a_this_y0 a_this_x1 a_this_y1 a_this_head a_this_said a_this_low a_this_high a_this_least a_this_price a_this_way a_this_lineFirst a_this_lineLast a_this_left a_this_pile a_this_rest a_this_read a_this_measure a_this_wentBack v_this_run v_this_signs v_this_lastSigns v_this_dirt v_this_time v_this_lineMany v_this_notSign v_this_notKind (u.2.1) f_this_area f_this_y0 f_this_y1 f_this_said f_this_low f_this_high f_this_least f_this_price f_this_way (u.2.2.1) (u.2.2.2.1) (u.2.2.2.2.1) (u.2.2.2.2.2))) (fun u : Int32 × Int32 × (Nat → Int32) × (Nat → Int32) × (Nat → Int32) × (Nat → Int32) => u.1) (by decide) rfl rfl (Nat.le_of_ble_eq_true rfl) ?_
  intro p e s m args below meth c A Q S hK hA hw ret ls hl
  replace hl : lv_has ls 4 [(0, .ref a_this), (1, .int i1)] := hl
  refine lv_iload_n S.1 S.2.1 dX8_played_0 rfl (lv_at hl 1 rfl) ?_
  refine lv_iconst (v := 0) S.1 S.2.1 dX8_played_1 (by decide) ?_
  refine lv_sipush (v := 199) S.1 S.2.1 dX8_played_2 (by decide) ?_
  obtain ⟨y1, hc, h⟩ := z_b1_e h
  refine z_callSi (As := [.int i1, .int 0, .int 199]) (rest := []) S (c_X8_in l D cI cJ cZ i1 0 199 _ hc) (va_cwS 3 S.2.2.2.2 (gw_S gw_807 gw_808 gw_58 gw_809) rfl rfl rfl hd_X8_in ⟨Nat.le_of_ble_eq_true rfl, Nat.le_of_ble_eq_true rfl⟩) hK hA hw [] (by decide) rfl rfl (none :: none :: none :: none :: none :: none :: none :: none :: none :: none :: none :: none :: none :: none :: []) rfl (by decide) hl.1 rfl rfl (lv_room (Nat.le_of_ble_eq_true rfl)) ⟨Nat.zero_le _, Nat.zero_le _⟩ dX8_played_5 (fun H locs hw => ?_)
  replace hw : zW D A s H locs (wd_X8_played cI cJ cZ a_this a_this_board a_this_area a_this_x0 a_this_y0 a_this_x1 a_this_y1 a_this_head a_this_said a_this_low a_this_high a_this_least a_this_price a_this_way a_this_lineFirst a_this_lineLast a_this_left a_this_pile a_this_rest a_this_read a_this_measure a_this_wentBack v_this_run v_this_signs v_this_lastSigns v_this_dirt v_this_time v_this_lineMany v_this_notSign v_this_notKind v_this_measureMany f_this_area f_this_y0 f_this_y1 f_this_said f_this_low f_this_high f_this_least f_this_price f_this_way f_this_rest f_this_read f_this_measure f_this_wentBack) := hw
  refine z_if_ne S (tgt := 14) h dX8_played_8 (by decide) (fun h => ?_) (fun h => ?_)
  · refine lv_aload_n S.1 S.2.1 dX8_played_14 rfl (lv_at hl 0 rfl) ?_
    obtain ⟨y2, v3, f4, f5, f6, hc, h⟩ := z_b5_e h
    refine z_callVi (As := []) (rest := []) S (c_X8_findMeasures l D cI cJ cZ a_this a_this_board a_this_area a_this_x0 a_this_y0 a_this_x1 a_this_y1 a_this_head a_this_said a_this_low a_this_high a_this_least a_this_price a_this_way a_this_lineFirst a_this_lineLast a_this_left a_this_pile a_this_rest a_this_read a_this_measure a_this_wentBack v_this_run v_this_signs v_this_lastSigns v_this_dirt v_this_time v_this_lineMany v_this_notSign v_this_notKind v_this_measureMany f_this_area f_this_y0 f_this_y1 f_this_said f_this_low f_this_high f_this_least f_this_price f_this_rest f_this_read f_this_measure K _ hc) (cwV 0 S.2.2.2.2 (gw_V gw_946 gw_948 gw_46 gw_58 gw_949) rfl rfl rfl hd_X8_findMeasures ⟨Nat.le_of_ble_eq_true rfl, Nat.le_of_ble_eq_true rfl⟩) hK hA hw [0, 1, 2, 3, 4, 5, 6, 7, 8, 10, 11, 12] (by decide) rfl rfl (some 0 :: some 1 :: some 2 :: some 3 :: some 4 :: some 5 :: some 6 :: some 7 :: some 8 :: none :: some 9 :: some 10 :: some 11 :: none :: []) rfl (by decide) 0 rfl rfl hl.1 rfl rfl (lv_room (Nat.le_of_ble_eq_true rfl)) ⟨Nat.zero_le _, Nat.zero_le _⟩ dX8_played_15 (fun H locs hw => ?_)
    replace hw : zW D A s H locs (wd_X8_played cI cJ cZ a_this a_this_board a_this_area a_this_x0 a_this_y0 a_this_x1 a_this_y1 a_this_head a_this_said a_this_low a_this_high a_this_least a_this_price a_this_way a_this_lineFirst a_this_lineLast a_this_left a_this_pile a_this_rest a_this_read a_this_measure a_this_wentBack v_this_run v_this_signs v_this_lastSigns v_this_dirt v_this_time v_this_lineMany v_this_notSign v_this_notKind v3 f_this_area f_this_y0 f_this_y1 f_this_said f_this_low f_this_high f_this_least f_this_price f_this_way f4 f5 f6 f_this_wentBack) := hw
    refine z_if_ne S (tgt := 24) h dX8_played_18 (by decide) (fun h => ?_) (fun h => ?_)
    · refine lv_iconst (v := 0) S.1 S.2.1 dX8_played_24 (by decide) ?_
      refine lv_istore_n (lv' := [(2, .int 0), (0, .ref a_this), (1, .int i1)]) S.1 S.2.1 dX8_played_25 rfl hl (by decide) rfl (fun ls hl => ?_)
      have J_45 : ∀ (f7 : Nat → Int32) (h : (p_X8_played_j45 v3 f4 f5 f6 f_this_way i1 K) f7 = some o) (H : Heap) (locs : List Loc) (ls : Array Slot), zW D A s H locs (wd_X8_played cI cJ cZ a_this a_this_board a_this_area a_this_x0 a_this_y0 a_this_x1 a_this_y1 a_this_head a_this_said a_this_low a_this_high a_this_least a_this_price a_this_way a_this_lineFirst a_this_lineLast a_this_left a_this_pile a_this_rest a_this_read a_this_measure a_this_wentBack v_this_run v_this_signs v_this_lastSigns v_this_dirt v_this_time v_this_lineMany v_this_notSign v_this_notKind v3 f_this_area f_this_y0 f_this_y1 f_this_said f_this_low f_this_high f_this_least f_this_price f_this_way f4 f5 f6 f7) → lv_has ls 4 [(0, .ref a_this), (1, .int i1)] → W p l e (headSpec gs_X8_played rm_X8_played).room s m args below meth c H locs 0 0 Q (F0 m 45 ls []) := by
        intro f7 h H locs ls hw hl
        refine lv_iconst (v := 0) S.1 S.2.1 dX8_played_45 (by decide) ?_
        refine lv_istore_n (lv' := [(2, .int 0), (0, .ref a_this), (1, .int i1)]) S.1 S.2.1 dX8_played_46 rfl hl (by decide) rfl (fun ls hl => ?_)
        refine lv_iconst (v := 0) S.1 S.2.1 dX8_played_47 (by decide) ?_
        refine lv_istore_n (lv' := [(3, .int 0), (2, .int 0), (0, .ref a_this), (1, .int i1)]) S.1 S.2.1 dX8_played_48 rfl hl (by decide) rfl (fun ls hl => ?_)
        have L_49 : ∀ (n49_10 : Nat) (f8 : Nat → Int32) (x9 : Int32) (x10 : Int32) (h : z_lp3 (p_X8_played_l49 v3 f4 f5 f6 f_this_way i1 K) n49_10 f8 x9 x10 = some o) (H : Heap) (locs : List Loc) (ls : Array Slot), zW D A s H locs (wd_X8_played cI cJ cZ a_this a_this_board a_this_area a_this_x0 a_this_y0 a_this_x1 a_this_y1 a_this_head a_this_said a_this_low a_this_high a_this_least a_this_price a_this_way a_this_lineFirst a_this_lineLast a_this_left a_this_pile a_this_rest a_this_read a_this_measure a_this_wentBack v_this_run v_this_signs v_this_lastSigns v_this_dirt v_this_time v_this_lineMany v_this_notSign v_this_notKind v3 f_this_area f_this_y0 f_this_y1 f_this_said f_this_low f_this_high f_this_least f_this_price f_this_way f4 f5 f6 f8) → lv_has ls 4 [(0, .ref a_this), (1, .int i1), (2, .int x9), (3, .int x10)] → W p l e (headSpec gs_X8_played rm_X8_played).room s m args below meth c H locs 0 0 Q (F0 m 49 ls []) := by
          intro n49_10
          induction n49_10 with
          | zero => intro f8 x9 x10 h; exact z_no h
          | succ n49_10 ih_49 =>
            intro f8 x9 x10 h H locs ls hw hl
            replace h : (p_X8_played_l49 v3 f4 f5 f6 f_this_way i1 K) (z_lp3 (p_X8_played_l49 v3 f4 f5 f6 f_this_way i1 K) n49_10) f8 x9 x10 = some o := h
            refine lv_iload_n S.1 S.2.1 dX8_played_49 rfl (lv_at hl 3 rfl) ?_
            refine lv_aload_n S.1 S.2.1 dX8_played_50 rfl (lv_at hl 0 rfl) ?_
            refine z_get S (C := RX8) (T := TX8) (N := 30) (gi gu_X8) hK hw 0 rfl rfl 28 (Nat.le_of_ble_eq_true rfl) (List.mem_cons_of_mem _ gw_739) rfl dX8_played_51 ?_
            refine z_icmp_ge S (tgt := 101) h dX8_played_54 (by decide) (fun h => ?_) (fun h => ?_)
            · refine lv_iconst (v := (-1)) S.1 S.2.1 dX8_played_101 (by decide) ?_
              exact ret ((-1), v3, f4, f5, f6, f8) h 102 ls _ _ dX8_played_102 hw
            · refine lv_aload_n S.1 S.2.1 dX8_played_57 rfl (lv_at hl 0 rfl) ?_
              refine z_get S (C := RX8) (T := TX8) (N := 30) (gi gu_X8) hK hw 0 rfl rfl 17 (Nat.le_of_ble_eq_true rfl) (List.mem_cons_of_mem _ gw_728) rfl dX8_played_58 ?_
              refine lv_iload_n S.1 S.2.1 dX8_played_61 rfl (lv_at hl 3 rfl) ?_
              refine z_iald S hK hw 9 0 rfl rfl h dX8_played_62 (fun y11 h => ?_)
              refine lv_iconst (v := 3) S.1 S.2.1 dX8_played_63 (by decide) ?_
              have J_82 : ∀ (h : (p_X8_played_j82 x9 i1 x10 v3 f4 f5 f6 f8 K f_this_way (z_lp3 (p_X8_played_l49 v3 f4 f5 f6 f_this_way i1 K) n49_10)) = some o) (H : Heap) (locs : List Loc) (ls : Array Slot), zW D A s H locs (wd_X8_played cI cJ cZ a_this a_this_board a_this_area a_this_x0 a_this_y0 a_this_x1 a_this_y1 a_this_head a_this_said a_this_low a_this_high a_this_least a_this_price a_this_way a_this_lineFirst a_this_lineLast a_this_left a_this_pile a_this_rest a_this_read a_this_measure a_this_wentBack v_this_run v_this_signs v_this_lastSigns v_this_dirt v_this_time v_this_lineMany v_this_notSign v_this_notKind v3 f_this_area f_this_y0 f_this_y1 f_this_said f_this_low f_this_high f_this_least f_this_price f_this_way f4 f5 f6 f8) → lv_has ls 4 [(0, .ref a_this), (1, .int i1), (2, .int x9), (3, .int x10)] → W p l e (headSpec gs_X8_played rm_X8_played).room s m args below meth c H locs 0 0 Q (F0 m 82 ls []) := by
                intro h H locs ls hw hl
                refine lv_iload_n S.1 S.2.1 dX8_played_82 rfl (lv_at hl 2 rfl) ?_
                refine lv_iload_n S.1 S.2.1 dX8_played_83 rfl (lv_at hl 1 rfl) ?_
                refine z_icmp_ne S (tgt := 89) h dX8_played_84 (by decide) (fun h => ?_) (fun h => ?_)
                · refine z_iinc S (i := 2) (k := 2) (v := x9 + 1) hl rfl (by decide) rfl (fun v => (2, .int v) :: [(0, .ref a_this), (1, .int i1), (3, .int x10)]) (fun _ => rfl) h dX8_played_89 (fun y12 ls hl h => ?_)
                  replace hl : lv_has ls 4 [(2, .int y12), (0, .ref a_this), (1, .int i1), (3, .int x10)] := hl
                  refine lv_aload_n S.1 S.2.1 dX8_played_92 rfl (lv_at hl 1 rfl) ?_
                  refine lv_iload_n S.1 S.2.1 dX8_played_93 rfl (lv_at hl 3 rfl) ?_
                  obtain ⟨y13, f14, hc, h⟩ := z_b2_e h
                  refine z_callVi (As := [.int x10]) (rest := []) S (c_X8_after l D cI cJ cZ a_this a_this_board a_this_area a_this_x0 a_this_y0 a_this_x1 a_this_y1 a_this_head a_this_said a_this_low a_this_high a_this_least a_this_price a_this_way a_this_lineFirst a_this_lineLast a_this_left a_this_pile a_this_rest a_this_read a_this_measure a_this_wentBack v_this_run v_this_signs v_this_lastSigns v_this_dirt v_this_time v_this_lineMany v_this_notSign v_this_notKind v3 f_this_way f8 K x10 _ hc) (cwV 1 S.2.2.2.2 (gw_V gw_966 gw_968 gw_48 gw_58 gw_969) rfl rfl rfl hd_X8_after ⟨Nat.le_of_ble_eq_true rfl, Nat.le_of_ble_eq_true rfl⟩) hK hA hw [0, 9, 13] (by decide) rfl rfl (some 0 :: none :: none :: none :: none :: none :: none :: none :: none :: some 1 :: none :: none :: none :: some 2 :: []) rfl (by decide) 0 rfl rfl hl.1 rfl rfl (lv_room (Nat.le_of_ble_eq_true rfl)) ⟨Nat.zero_le _, Nat.zero_le _⟩ dX8_played_94 (fun H locs hw => ?_)
                  replace hw : zW D A s H locs (wd_X8_played cI cJ cZ a_this a_this_board a_this_area a_this_x0 a_this_y0 a_this_x1 a_this_y1 a_this_head a_this_said a_this_low a_this_high a_this_least a_this_price a_this_way a_this_lineFirst a_this_lineLast a_this_left a_this_pile a_this_rest a_this_read a_this_measure a_this_wentBack v_this_run v_this_signs v_this_lastSigns v_this_dirt v_this_time v_this_lineMany v_this_notSign v_this_notKind v3 f_this_area f_this_y0 f_this_y1 f_this_said f_this_low f_this_high f_this_least f_this_price f_this_way f4 f5 f6 f14) := hw
                  refine lv_istore_n (lv' := [(3, .int y13), (2, .int y12), (0, .ref a_this), (1, .int i1)]) S.1 S.2.1 dX8_played_97 rfl hl (by decide) rfl (fun ls hl => ?_)
                  refine lv_goto (tgt := 49) S.1 S.2.1 dX8_played_98 (by decide) ?_
                  exact ih_49 f14 y12 y13 h _ _ ls hw (lv_sub hl [2, 3, 1, 0] rfl)
                · refine lv_iload_n S.1 S.2.1 dX8_played_87 rfl (lv_at hl 3 rfl) ?_
                  exact ret (x10, v3, f4, f5, f6, f8) h 88 ls _ _ dX8_played_88 hw
              refine z_icmp_ne S (tgt := 82) h dX8_played_64 (by decide) (fun h => ?_) (fun h => ?_)
              · exact J_82 h _ _ ls hw (lv_sub hl [0, 1, 2, 3] rfl)
              · refine lv_aload_n S.1 S.2.1 dX8_played_67 rfl (lv_at hl 0 rfl) ?_
                refine z_get S (C := RX8) (T := TX8) (N := 30) (gi gu_X8) hK hw 0 rfl rfl 29 (Nat.le_of_ble_eq_true rfl) (List.mem_cons_of_mem _ gw_740) rfl dX8_played_68 ?_
                refine lv_iload_n S.1 S.2.1 dX8_played_71 rfl (lv_at hl 3 rfl) ?_
                refine z_zald S hK hw 13 2 rfl rfl h dX8_played_72 (fun y15 h => ?_)
                refine z_if_eq S (tgt := 82) h dX8_played_73 (by decide) (fun h => ?_) (fun h => ?_)
                · exact J_82 h _ _ ls hw (lv_sub hl [0, 1, 2, 3] rfl)
                · refine z_iinc S (i := 3) (k := 3) (v := x10 + 1) hl rfl (by decide) rfl (fun v => (3, .int v) :: [(0, .ref a_this), (1, .int i1), (2, .int x9)]) (fun _ => rfl) h dX8_played_76 (fun y16 ls hl h => ?_)
                  replace hl : lv_has ls 4 [(3, .int y16), (0, .ref a_this), (1, .int i1), (2, .int x9)] := hl
                  refine lv_goto (tgt := 49) S.1 S.2.1 dX8_played_79 (by decide) ?_
                  exact ih_49 f8 x9 y16 h _ _ ls hw (lv_sub hl [1, 2, 3, 0] rfl)
        exact L_49 K f7 0 0 h _ _ ls hw (lv_sub hl [2, 3, 1, 0] rfl)
      have L_26 : ∀ (n26_18 : Nat) (f17 : Nat → Int32) (x18 : Int32) (h : z_lp2 (p_X8_played_l26 (p_X8_played_j45 v3 f4 f5 f6 f_this_way i1 K)) n26_18 f17 x18 = some o) (H : Heap) (locs : List Loc) (ls : Array Slot), zW D A s H locs (wd_X8_played cI cJ cZ a_this a_this_board a_this_area a_this_x0 a_this_y0 a_this_x1 a_this_y1 a_this_head a_this_said a_this_low a_this_high a_this_least a_this_price a_this_way a_this_lineFirst a_this_lineLast a_this_left a_this_pile a_this_rest a_this_read a_this_measure a_this_wentBack v_this_run v_this_signs v_this_lastSigns v_this_dirt v_this_time v_this_lineMany v_this_notSign v_this_notKind v3 f_this_area f_this_y0 f_this_y1 f_this_said f_this_low f_this_high f_this_least f_this_price f_this_way f4 f5 f6 f17) → lv_has ls 4 [(0, .ref a_this), (1, .int i1), (2, .int x18)] → W p l e (headSpec gs_X8_played rm_X8_played).room s m args below meth c H locs 0 0 Q (F0 m 26 ls []) := by
        intro n26_18
        induction n26_18 with
        | zero => intro f17 x18 h; exact z_no h
        | succ n26_18 ih_26 =>
          intro f17 x18 h H locs ls hw hl
          replace h : (p_X8_played_l26 (p_X8_played_j45 v3 f4 f5 f6 f_this_way i1 K)) (z_lp2 (p_X8_played_l26 (p_X8_played_j45 v3 f4 f5 f6 f_this_way i1 K)) n26_18) f17 x18 = some o := h
          refine lv_iload_n S.1 S.2.1 dX8_played_26 rfl (lv_at hl 2 rfl) ?_
          refine lv_bipush (v := 40) S.1 S.2.1 dX8_played_27 (by decide) ?_
          refine z_icmp_ge S (tgt := 45) h dX8_played_29 (by decide) (fun h => ?_) (fun h => ?_)
          · exact J_45 f17 h _ _ ls hw (lv_sub hl [0, 1] rfl)
          · refine lv_aload_n S.1 S.2.1 dX8_played_32 rfl (lv_at hl 0 rfl) ?_
            refine z_get S (C := RX8) (T := TX8) (N := 30) (gi gu_X8) hK hw 0 rfl rfl 29 (Nat.le_of_ble_eq_true rfl) (List.mem_cons_of_mem _ gw_740) rfl dX8_played_33 ?_
            refine lv_iload_n S.1 S.2.1 dX8_played_36 rfl (lv_at hl 2 rfl) ?_
            refine lv_iconst (v := 0) S.1 S.2.1 dX8_played_37 (by decide) ?_
            refine z_zast S hK hw 13 2 rfl rfl h dX8_played_38 (fun f19 H locs hw h => ?_)
            replace hw : zW D A s H locs (wd_X8_played cI cJ cZ a_this a_this_board a_this_area a_this_x0 a_this_y0 a_this_x1 a_this_y1 a_this_head a_this_said a_this_low a_this_high a_this_least a_this_price a_this_way a_this_lineFirst a_this_lineLast a_this_left a_this_pile a_this_rest a_this_read a_this_measure a_this_wentBack v_this_run v_this_signs v_this_lastSigns v_this_dirt v_this_time v_this_lineMany v_this_notSign v_this_notKind v3 f_this_area f_this_y0 f_this_y1 f_this_said f_this_low f_this_high f_this_least f_this_price f_this_way f4 f5 f6 f19) := hw
            refine z_iinc S (i := 2) (k := 2) (v := x18 + 1) hl rfl (by decide) rfl (fun v => (2, .int v) :: [(0, .ref a_this), (1, .int i1)]) (fun _ => rfl) h dX8_played_39 (fun y20 ls hl h => ?_)
            replace hl : lv_has ls 4 [(2, .int y20), (0, .ref a_this), (1, .int i1)] := hl
            refine lv_goto (tgt := 26) S.1 S.2.1 dX8_played_42 (by decide) ?_
            exact ih_26 f19 y20 h _ _ ls hw (lv_sub hl [1, 2, 0] rfl)
      exact L_26 K f_this_wentBack 0 h _ _ ls hw (lv_sub hl [1, 2, 0] rfl)
    · refine lv_bipush (v := (-3)) S.1 S.2.1 dX8_played_21 (by decide) ?_
      exact ret ((-3), v3, f4, f5, f6, f_this_wentBack) h 23 ls _ _ dX8_played_23 hw
  · refine lv_bipush (v := (-2)) S.1 S.2.1 dX8_played_11 (by decide) ?_
    exact ret ((-2), v_this_measureMany, f_this_rest, f_this_read, f_this_measure, f_this_wentBack) h 13 ls _ _ dX8_played_13 hw
def gs_X8_count : List Cond := Cond.code yX8_count cX8_count 5 (some .int) :: GW
def wd_X8_count (cI cJ cZ : ClassId) (a_this a_this_board a_this_area a_this_x0 a_this_y0 a_this_x1 a_this_y1 a_this_head a_this_said a_this_low a_this_high a_this_least a_this_price a_this_way a_this_lineFirst a_this_lineLast a_this_left a_this_pile a_this_rest a_this_read a_this_measure a_this_wentBack : Nat) (v_this_run : Int32) (v_this_signs : Int32) (v_this_lastSigns : Int32) (v_this_dirt : Int32) (v_this_time : Int32) (v_this_lineMany : Int32) (v_this_notSign : Int32) (v_this_notKind : Int32) (v_this_measureMany : Int32) (f_this_board : Nat → Int64) (f_this_said : Nat → Int32) (f_this_lineFirst : Nat → Int32) (f_this_lineLast : Nat → Int32) : va_W := [(a_this, .inr (8, [.ref a_this_board, .int v_this_run, .int v_this_signs, .int v_this_lastSigns, .ref a_this_area, .ref a_this_x0, .ref a_this_y0, .ref a_this_x1, .ref a_this_y1, .ref a_this_head, .ref a_this_said, .ref a_this_low, .ref a_this_high, .ref a_this_least, .ref a_this_price, .int v_this_dirt, .int v_this_time, .ref a_this_way, .int v_this_lineMany, .ref a_this_lineFirst, .ref a_this_lineLast, .ref a_this_left, .ref a_this_pile, .ref a_this_rest, .int v_this_notSign, .int v_this_notKind, .ref a_this_read, .ref a_this_measure, .int v_this_measureMany, .ref a_this_wentBack])), (a_this_board, .inl (cJ, 32, .inr (.inl f_this_board))), (a_this_said, .inl (cI, 40, .inl f_this_said)), (a_this_lineFirst, .inl (cI, 32, .inl f_this_lineFirst)), (a_this_lineLast, .inl (cI, 32, .inl f_this_lineLast))]
abbrev rm_X8_count : Room := { frames := 5, cells := 0, slots := 0, locals := 114 }
theorem hd_X8_count : yX8_count.cls = RX8 ∧ yX8_count.cls ≠ "java/lang/invoke/MethodHandle" ∧ yX8_count.cls ≠ "java/lang/invoke/VarHandle" ∧ (parseMethodDescriptor yX8_count.desc).map (fun d => d.parameters.length) = some 1 := by decide +kernel
set_option maxHeartbeats 4000000 in
set_option maxRecDepth 100000 in
theorem c_X8_count (l : Launch) (D : va_G) (cI cJ cZ : ClassId) (a_this a_this_board a_this_area a_this_x0 a_this_y0 a_this_x1 a_this_y1 a_this_head a_this_said a_this_low a_this_high a_this_least a_this_price a_this_way a_this_lineFirst a_this_lineLast a_this_left a_this_pile a_this_rest a_this_read a_this_measure a_this_wentBack : Nat) (v_this_run : Int32) (v_this_signs : Int32) (v_this_lastSigns : Int32) (v_this_dirt : Int32) (v_this_time : Int32) (v_this_lineMany : Int32) (v_this_notSign : Int32) (v_this_notKind : Int32) (v_this_measureMany : Int32) (f_this_board : Nat → Int64) (f_this_said : Nat → Int32) (f_this_lineFirst : Nat → Int32) (f_this_lineLast : Nat → Int32) (K : Nat) (i1 : Int32) (o : Int32 × Int32 × (Nat → Int32) × (Nat → Int32)) (h : p_X8_count K v_this_run v_this_signs v_this_lineMany f_this_board f_this_said f_this_lineFirst f_this_lineLast i1 = some o) : zMi l D (zT cI cJ cZ) yX8_count gs_X8_count rm_X8_count [.ref a_this, .int i1] (wd_X8_count cI cJ cZ a_this a_this_board a_this_area a_this_x0 a_this_y0 a_this_x1 a_this_y1 a_this_head a_this_said a_this_low a_this_high a_this_least a_this_price a_this_way a_this_lineFirst a_this_lineLast a_this_left a_this_pile a_this_rest a_this_read a_this_measure a_this_wentBack v_this_run v_this_signs v_this_lastSigns v_this_dirt v_this_time v_this_lineMany v_this_notSign v_this_notKind v_this_measureMany f_this_board f_this_said f_this_lineFirst f_this_lineLast) (wd_X8_count cI cJ cZ a_this a_this_board a_this_area a_this_x0 a_this_y0 a_this_x1 a_this_y1 a_this_head a_this_said a_this_low a_this_high a_this_least a_this_price a_this_way a_this_lineFirst a_this_lineLast a_this_left a_this_pile a_this_rest a_this_read a_this_measure a_this_wentBack v_this_run v_this_signs v_this_lastSigns v_this_dirt v_this_time (o.2.1) v_this_notSign v_this_notKind v_this_measureMany f_this_board f_this_said (o.2.2.1) (o.2.2.2)) (o.1) := by
  refine zMet_i (own := RX8) (fun u : Int32 × Int32 × (Nat → Int32) × (Nat → Int32) => (wd_X8_count cI cJ cZ a_this a_this_board a_this_area a_this_x0 a_this_y0 a_this_x1 a_this_y1 a_this_head a_this_said a_this_low a_this_high a_this_least a_this_price a_this_way a_this_lineFirst a_this_lineLast a_this_left a_this_pile a_this_rest a_this_read a_this_measure a_this_wentBack v_this_run v_this_signs v_this_lastSigns v_this_dirt v_this_time (u.2.1) v_this_notSign v_this_notKind v_this_measureMany f_this_board f_this_said (u.2.2.1) (u.2.2.2))) (fun u : Int32 × Int32 × (Nat → Int32) × (Nat → Int32) => u.1) (by decide) rfl rfl (Nat.le_of_ble_eq_true rfl) ?_
  intro p e s m args below meth c A Q S hK hA hw ret ls hl
  replace hl : lv_has ls 5 [(0, .ref a_this), (1, .int i1)] := hl
  refine lv_iconst (v := 0) S.1 S.2.1 dX8_count_0 (by decide) ?_
  refine lv_istore_n (lv' := [(2, .int 0), (0, .ref a_this), (1, .int i1)]) S.1 S.2.1 dX8_count_1 rfl hl (by decide) rfl (fun ls hl => ?_)
  refine lv_iload_n S.1 S.2.1 dX8_count_2 rfl (lv_at hl 2 rfl) ?_
  refine z_ife h (fun e3_0 h => ?_) (fun ne3_0 h => ?_)
  · refine lv_tableIn (tgt := 36) S.1 S.2.1 dX8_count_3 (by rw [e3_0]; decide) (by rw [e3_0]; decide) (by rw [e3_0]; rfl) (by decide) ?_
    refine lv_aload_n S.1 S.2.1 dX8_count_36 rfl (lv_at hl 1 rfl) ?_
    refine z_get S (C := RX8) (T := TX8) (N := 30) (gi gu_X8) hK hw 0 rfl rfl 2 (Nat.le_of_ble_eq_true rfl) (List.mem_cons_of_mem _ gw_713) rfl dX8_count_37 ?_
    exact ret (v_this_signs, v_this_lineMany, f_this_lineFirst, f_this_lineLast) h 40 ls _ _ dX8_count_40 hw
  refine z_ife h (fun e3_1 h => ?_) (fun ne3_1 h => ?_)
  · refine lv_tableIn (tgt := 41) S.1 S.2.1 dX8_count_3 (by rw [e3_1]; decide) (by rw [e3_1]; decide) (by rw [e3_1]; rfl) (by decide) ?_
    refine lv_aload_n S.1 S.2.1 dX8_count_41 rfl (lv_at hl 1 rfl) ?_
    obtain ⟨y1, v2, f3, f4, hc, h⟩ := z_b4_e h
    refine z_callVi (As := []) (rest := []) S (c_X8_findStaff l D cI cJ cZ a_this a_this_board a_this_area a_this_x0 a_this_y0 a_this_x1 a_this_y1 a_this_head a_this_said a_this_low a_this_high a_this_least a_this_price a_this_way a_this_lineFirst a_this_lineLast a_this_left a_this_pile a_this_rest a_this_read a_this_measure a_this_wentBack v_this_run v_this_signs v_this_lastSigns v_this_dirt v_this_time v_this_lineMany v_this_notSign v_this_notKind v_this_measureMany f_this_board f_this_lineFirst f_this_lineLast K _ hc) (cwV 0 S.2.2.2.2 (gw_V gw_845 gw_847 gw_33 gw_58 gw_848) rfl rfl rfl hd_X8_findStaff ⟨Nat.le_of_ble_eq_true rfl, Nat.le_of_ble_eq_true rfl⟩) hK hA hw [0, 1, 3, 4] (by decide) rfl rfl [some 0, some 1, none, some 2, some 3] rfl (by decide) 0 rfl rfl hl.1 rfl rfl (lv_room (Nat.le_of_ble_eq_true rfl)) ⟨Nat.zero_le _, Nat.zero_le _⟩ dX8_count_42 (fun H locs hw => ?_)
    replace hw : zW D A s H locs (wd_X8_count cI cJ cZ a_this a_this_board a_this_area a_this_x0 a_this_y0 a_this_x1 a_this_y1 a_this_head a_this_said a_this_low a_this_high a_this_least a_this_price a_this_way a_this_lineFirst a_this_lineLast a_this_left a_this_pile a_this_rest a_this_read a_this_measure a_this_wentBack v_this_run v_this_signs v_this_lastSigns v_this_dirt v_this_time v2 v_this_notSign v_this_notKind v_this_measureMany f_this_board f_this_said f3 f4) := hw
    refine lv_iconst (v := (-1)) S.1 S.2.1 dX8_count_45 (by decide) ?_
    refine z_icmp_ne S (tgt := 53) h dX8_count_46 (by decide) (fun h => ?_) (fun h => ?_)
    · refine lv_iconst (v := 1) S.1 S.2.1 dX8_count_53 (by decide) ?_
      exact ret (1, v2, f3, f4) h 54 ls _ _ dX8_count_54 hw
    · refine lv_iconst (v := 0) S.1 S.2.1 dX8_count_49 (by decide) ?_
      refine lv_goto (tgt := 54) S.1 S.2.1 dX8_count_50 (by decide) ?_
      exact ret (0, v2, f3, f4) h 54 ls _ _ dX8_count_54 hw
  refine z_ife h (fun e3_2 h => ?_) (fun ne3_2 h => ?_)
  · refine lv_tableIn (tgt := 55) S.1 S.2.1 dX8_count_3 (by rw [e3_2]; decide) (by rw [e3_2]; decide) (by rw [e3_2]; rfl) (by decide) ?_
    refine lv_aload_n S.1 S.2.1 dX8_count_55 rfl (lv_at hl 1 rfl) ?_
    obtain ⟨y5, v6, f7, f8, hc, h⟩ := z_b4_e h
    refine z_callVi (As := []) (rest := []) S (c_X8_findStaff l D cI cJ cZ a_this a_this_board a_this_area a_this_x0 a_this_y0 a_this_x1 a_this_y1 a_this_head a_this_said a_this_low a_this_high a_this_least a_this_price a_this_way a_this_lineFirst a_this_lineLast a_this_left a_this_pile a_this_rest a_this_read a_this_measure a_this_wentBack v_this_run v_this_signs v_this_lastSigns v_this_dirt v_this_time v_this_lineMany v_this_notSign v_this_notKind v_this_measureMany f_this_board f_this_lineFirst f_this_lineLast K _ hc) (cwV 0 S.2.2.2.2 (gw_V gw_845 gw_847 gw_33 gw_58 gw_848) rfl rfl rfl hd_X8_findStaff ⟨Nat.le_of_ble_eq_true rfl, Nat.le_of_ble_eq_true rfl⟩) hK hA hw [0, 1, 3, 4] (by decide) rfl rfl [some 0, some 1, none, some 2, some 3] rfl (by decide) 0 rfl rfl hl.1 rfl rfl (lv_room (Nat.le_of_ble_eq_true rfl)) ⟨Nat.zero_le _, Nat.zero_le _⟩ dX8_count_56 (fun H locs hw => ?_)
    replace hw : zW D A s H locs (wd_X8_count cI cJ cZ a_this a_this_board a_this_area a_this_x0 a_this_y0 a_this_x1 a_this_y1 a_this_head a_this_said a_this_low a_this_high a_this_least a_this_price a_this_way a_this_lineFirst a_this_lineLast a_this_left a_this_pile a_this_rest a_this_read a_this_measure a_this_wentBack v_this_run v_this_signs v_this_lastSigns v_this_dirt v_this_time v6 v_this_notSign v_this_notKind v_this_measureMany f_this_board f_this_said f7 f8) := hw
    refine lv_istore_n (lv' := [(3, .int y5), (2, .int 0), (0, .ref a_this), (1, .int i1)]) S.1 S.2.1 dX8_count_59 rfl hl (by decide) rfl (fun ls hl => ?_)
    refine lv_iload_n S.1 S.2.1 dX8_count_60 rfl (lv_at hl 0 rfl) ?_
    refine lv_iconst (v := (-1)) S.1 S.2.1 dX8_count_61 (by decide) ?_
    refine z_icmp_ne S (tgt := 69) h dX8_count_62 (by decide) (fun h => ?_) (fun h => ?_)
    · refine lv_aload_n S.1 S.2.1 dX8_count_69 rfl (lv_at hl 2 rfl) ?_
      refine z_get S (C := RX8) (T := TX8) (N := 30) (gi gu_X8) hK hw 0 rfl rfl 19 (Nat.le_of_ble_eq_true rfl) (List.mem_cons_of_mem _ gw_730) rfl dX8_count_70 ?_
      refine lv_iload_n S.1 S.2.1 dX8_count_73 rfl (lv_at hl 0 rfl) ?_
      refine lv_iconst (v := 1) S.1 S.2.1 dX8_count_74 (by decide) ?_
      refine lv_iadd S.1 S.2.1 dX8_count_75 ?_
      refine z_iald S hK hw 3 0 rfl rfl h dX8_count_76 (fun y9 h => ?_)
      refine lv_aload_n S.1 S.2.1 dX8_count_77 rfl (lv_at hl 2 rfl) ?_
      refine z_get S (C := RX8) (T := TX8) (N := 30) (gi gu_X8) hK hw 0 rfl rfl 19 (Nat.le_of_ble_eq_true rfl) (List.mem_cons_of_mem _ gw_730) rfl dX8_count_78 ?_
      refine lv_iload_n S.1 S.2.1 dX8_count_81 rfl (lv_at hl 0 rfl) ?_
      refine z_iald S hK hw 3 0 rfl rfl h dX8_count_82 (fun y10 h => ?_)
      refine lv_isub S.1 S.2.1 dX8_count_83 ?_
      exact ret ((y9 - y10), v6, f7, f8) h 84 ls _ _ dX8_count_84 hw
    · refine lv_iconst (v := (-1)) S.1 S.2.1 dX8_count_65 (by decide) ?_
      refine lv_goto (tgt := 84) S.1 S.2.1 dX8_count_66 (by decide) ?_
      exact ret ((-1), v6, f7, f8) h 84 ls _ _ dX8_count_84 hw
  refine z_ife h (fun e3_3 h => ?_) (fun ne3_3 h => ?_)
  · refine lv_tableIn (tgt := 85) S.1 S.2.1 dX8_count_3 (by rw [e3_3]; decide) (by rw [e3_3]; decide) (by rw [e3_3]; rfl) (by decide) ?_
    refine lv_iconst (v := 0) S.1 S.2.1 dX8_count_85 (by decide) ?_
    refine lv_istore (lv' := [(4, .int 0), (2, .int 0), (0, .ref a_this), (1, .int i1)]) S.1 S.2.1 dX8_count_86 hl (by decide) rfl (fun ls hl => ?_)
    have L_88 : ∀ (n88_12 : Nat) (x11 : Int32) (x12 : Int32) (h : z_lp2 (p_X8_count_l88 v_this_lineMany f_this_lineFirst f_this_lineLast f_this_said) n88_12 x11 x12 = some o) (H : Heap) (locs : List Loc) (ls : Array Slot), zW D A s H locs (wd_X8_count cI cJ cZ a_this a_this_board a_this_area a_this_x0 a_this_y0 a_this_x1 a_this_y1 a_this_head a_this_said a_this_low a_this_high a_this_least a_this_price a_this_way a_this_lineFirst a_this_lineLast a_this_left a_this_pile a_this_rest a_this_read a_this_measure a_this_wentBack v_this_run v_this_signs v_this_lastSigns v_this_dirt v_this_time v_this_lineMany v_this_notSign v_this_notKind v_this_measureMany f_this_board f_this_said f_this_lineFirst f_this_lineLast) → lv_has ls 5 [(0, .ref a_this), (2, .int x11), (4, .int x12)] → W p l e (headSpec gs_X8_count rm_X8_count).room s m args below meth c H locs 0 0 Q (F0 m 88 ls []) := by
      intro n88_12
      induction n88_12 with
      | zero => intro x11 x12 h; exact z_no h
      | succ n88_12 ih_88 =>
        intro x11 x12 h H locs ls hw hl
        replace h : (p_X8_count_l88 v_this_lineMany f_this_lineFirst f_this_lineLast f_this_said) (z_lp2 (p_X8_count_l88 v_this_lineMany f_this_lineFirst f_this_lineLast f_this_said) n88_12) x11 x12 = some o := h
        refine lv_iload S.1 S.2.1 dX8_count_88 (lv_at hl 2 rfl) ?_
        refine lv_bipush (v := 40) S.1 S.2.1 dX8_count_90 (by decide) ?_
        refine z_icmp_ge S (tgt := 120) h dX8_count_92 (by decide) (fun h => ?_) (fun h => ?_)
        · refine lv_iload_n S.1 S.2.1 dX8_count_120 rfl (lv_at hl 1 rfl) ?_
          exact ret (x11, v_this_lineMany, f_this_lineFirst, f_this_lineLast) h 121 ls _ _ dX8_count_121 hw
        · refine lv_iload_n S.1 S.2.1 dX8_count_95 rfl (lv_at hl 1 rfl) ?_
          refine lv_aload_n S.1 S.2.1 dX8_count_96 rfl (lv_at hl 0 rfl) ?_
          refine z_get S (C := RX8) (T := TX8) (N := 30) (gi gu_X8) hK hw 0 rfl rfl 10 (Nat.le_of_ble_eq_true rfl) (List.mem_cons_of_mem _ gw_721) rfl dX8_count_97 ?_
          refine lv_iload S.1 S.2.1 dX8_count_100 (lv_at hl 2 rfl) ?_
          refine z_iald S hK hw 2 0 rfl rfl h dX8_count_102 (fun y13 h => ?_)
          refine lv_iconst (v := (-1)) S.1 S.2.1 dX8_count_103 (by decide) ?_
          refine z_icmp_eq S (tgt := 111) h dX8_count_104 (by decide) (fun h => ?_) (fun h => ?_)
          · refine lv_iconst (v := 0) S.1 S.2.1 dX8_count_111 (by decide) ?_
            refine lv_iadd S.1 S.2.1 dX8_count_112 ?_
            refine z_leti h (fun y14 h => ?_)
            refine lv_istore_n (lv' := [(2, .int y14), (0, .ref a_this), (4, .int x12)]) S.1 S.2.1 dX8_count_113 rfl hl (by decide) rfl (fun ls hl => ?_)
            refine z_iinc S (i := 4) (k := 2) (v := x12 + 1) hl rfl (by decide) rfl (fun v => (4, .int v) :: [(2, .int y14), (0, .ref a_this)]) (fun _ => rfl) h dX8_count_114 (fun y15 ls hl h => ?_)
            replace hl : lv_has ls 5 [(4, .int y15), (2, .int y14), (0, .ref a_this)] := hl
            refine lv_goto (tgt := 88) S.1 S.2.1 dX8_count_117 (by decide) ?_
            exact ih_88 y14 y15 h _ _ ls hw (lv_sub hl [2, 1, 0] rfl)
          · refine lv_iconst (v := 1) S.1 S.2.1 dX8_count_107 (by decide) ?_
            refine lv_goto (tgt := 112) S.1 S.2.1 dX8_count_108 (by decide) ?_
            refine lv_iadd S.1 S.2.1 dX8_count_112 ?_
            refine z_leti h (fun y16 h => ?_)
            refine lv_istore_n (lv' := [(2, .int y16), (0, .ref a_this), (4, .int x12)]) S.1 S.2.1 dX8_count_113 rfl hl (by decide) rfl (fun ls hl => ?_)
            refine z_iinc S (i := 4) (k := 2) (v := x12 + 1) hl rfl (by decide) rfl (fun v => (4, .int v) :: [(2, .int y16), (0, .ref a_this)]) (fun _ => rfl) h dX8_count_114 (fun y17 ls hl h => ?_)
            replace hl : lv_has ls 5 [(4, .int y17), (2, .int y16), (0, .ref a_this)] := hl
            refine lv_goto (tgt := 88) S.1 S.2.1 dX8_count_117 (by decide) ?_
            exact ih_88 y16 y17 h _ _ ls hw (lv_sub hl [2, 1, 0] rfl)
    exact L_88 K 0 0 h _ _ ls hw (lv_sub hl [2, 1, 0] rfl)
  refine z_ife h (fun e3_4 h => ?_) (fun ne3_4 h => ?_)
  · refine lv_tableIn (tgt := 122) S.1 S.2.1 dX8_count_3 (by rw [e3_4]; decide) (by rw [e3_4]; decide) (by rw [e3_4]; rfl) (by decide) ?_
    refine lv_iconst (v := 0) S.1 S.2.1 dX8_count_122 (by decide) ?_
    refine lv_istore (lv' := [(4, .int 0), (2, .int 0), (0, .ref a_this), (1, .int i1)]) S.1 S.2.1 dX8_count_123 hl (by decide) rfl (fun ls hl => ?_)
    have L_125 : ∀ (n125_19 : Nat) (x18 : Int32) (x19 : Int32) (h : z_lp2 (p_X8_count_l125 v_this_lineMany f_this_lineFirst f_this_lineLast f_this_board K) n125_19 x18 x19 = some o) (H : Heap) (locs : List Loc) (ls : Array Slot), zW D A s H locs (wd_X8_count cI cJ cZ a_this a_this_board a_this_area a_this_x0 a_this_y0 a_this_x1 a_this_y1 a_this_head a_this_said a_this_low a_this_high a_this_least a_this_price a_this_way a_this_lineFirst a_this_lineLast a_this_left a_this_pile a_this_rest a_this_read a_this_measure a_this_wentBack v_this_run v_this_signs v_this_lastSigns v_this_dirt v_this_time v_this_lineMany v_this_notSign v_this_notKind v_this_measureMany f_this_board f_this_said f_this_lineFirst f_this_lineLast) → lv_has ls 5 [(0, .ref a_this), (2, .int x18), (4, .int x19)] → W p l e (headSpec gs_X8_count rm_X8_count).room s m args below meth c H locs 0 0 Q (F0 m 125 ls []) := by
      intro n125_19
      induction n125_19 with
      | zero => intro x18 x19 h; exact z_no h
      | succ n125_19 ih_125 =>
        intro x18 x19 h H locs ls hw hl
        replace h : (p_X8_count_l125 v_this_lineMany f_this_lineFirst f_this_lineLast f_this_board K) (z_lp2 (p_X8_count_l125 v_this_lineMany f_this_lineFirst f_this_lineLast f_this_board K) n125_19) x18 x19 = some o := h
        refine lv_iload S.1 S.2.1 dX8_count_125 (lv_at hl 2 rfl) ?_
        refine lv_bipush (v := 32) S.1 S.2.1 dX8_count_127 (by decide) ?_
        refine z_icmp_ge S (tgt := 151) h dX8_count_129 (by decide) (fun h => ?_) (fun h => ?_)
        · refine lv_iload_n S.1 S.2.1 dX8_count_151 rfl (lv_at hl 1 rfl) ?_
          exact ret (x18, v_this_lineMany, f_this_lineFirst, f_this_lineLast) h 152 ls _ _ dX8_count_152 hw
        · refine lv_iload_n S.1 S.2.1 dX8_count_132 rfl (lv_at hl 1 rfl) ?_
          refine lv_aload_n S.1 S.2.1 dX8_count_133 rfl (lv_at hl 0 rfl) ?_
          refine z_get S (C := RX8) (T := TX8) (N := 30) (gi gu_X8) hK hw 0 rfl rfl 0 (Nat.le_of_ble_eq_true rfl) (List.mem_cons_of_mem _ gw_711) rfl dX8_count_134 ?_
          refine lv_iload S.1 S.2.1 dX8_count_137 (lv_at hl 2 rfl) ?_
          refine z_lald S hK hw 1 1 rfl rfl h dX8_count_139 (fun y20 h => ?_)
          obtain ⟨y21, hc, h⟩ := z_b1_e h
          refine z_callSi (As := [.long y20]) (rest := [.int x18]) S (c_X8_ones l D cI cJ cZ K y20 _ hc) (va_cwS 1 S.2.2.2.2 (gw_S gw_810 gw_811 gw_58 gw_812) rfl rfl rfl hd_X8_ones ⟨Nat.le_of_ble_eq_true rfl, Nat.le_of_ble_eq_true rfl⟩) hK hA hw [] (by decide) rfl rfl [none, none, none, none, none] rfl (by decide) hl.1 rfl rfl (lv_room (Nat.le_of_ble_eq_true rfl)) ⟨Nat.zero_le _, Nat.zero_le _⟩ dX8_count_140 (fun H locs hw => ?_)
          replace hw : zW D A s H locs (wd_X8_count cI cJ cZ a_this a_this_board a_this_area a_this_x0 a_this_y0 a_this_x1 a_this_y1 a_this_head a_this_said a_this_low a_this_high a_this_least a_this_price a_this_way a_this_lineFirst a_this_lineLast a_this_left a_this_pile a_this_rest a_this_read a_this_measure a_this_wentBack v_this_run v_this_signs v_this_lastSigns v_this_dirt v_this_time v_this_lineMany v_this_notSign v_this_notKind v_this_measureMany f_this_board f_this_said f_this_lineFirst f_this_lineLast) := hw
          refine lv_iadd S.1 S.2.1 dX8_count_143 ?_
          refine z_leti h (fun y22 h => ?_)
          refine lv_istore_n (lv' := [(2, .int y22), (0, .ref a_this), (4, .int x19)]) S.1 S.2.1 dX8_count_144 rfl hl (by decide) rfl (fun ls hl => ?_)
          refine z_iinc S (i := 4) (k := 2) (v := x19 + 1) hl rfl (by decide) rfl (fun v => (4, .int v) :: [(2, .int y22), (0, .ref a_this)]) (fun _ => rfl) h dX8_count_145 (fun y23 ls hl h => ?_)
          replace hl : lv_has ls 5 [(4, .int y23), (2, .int y22), (0, .ref a_this)] := hl
          refine lv_goto (tgt := 125) S.1 S.2.1 dX8_count_148 (by decide) ?_
          exact ih_125 y22 y23 h _ _ ls hw (lv_sub hl [2, 1, 0] rfl)
    exact L_125 K 0 0 h _ _ ls hw (lv_sub hl [2, 1, 0] rfl)
  have ho_3 : (i1 : Int32).toInt < 0 ∨ 4 < (i1 : Int32).toInt := by
    have q_ne3_0 := lv_neT ne3_0 (a := 0) (by decide)
    have q_ne3_1 := lv_neT ne3_1 (a := 1) (by decide)
    have q_ne3_2 := lv_neT ne3_2 (a := 2) (by decide)
    have q_ne3_3 := lv_neT ne3_3 (a := 3) (by decide)
    have q_ne3_4 := lv_neT ne3_4 (a := 4) (by decide)
    omega
  refine lv_tableOut (tgt := 153) S.1 S.2.1 dX8_count_3 ho_3 (by decide) ?_
  refine lv_bipush (v := (-2)) S.1 S.2.1 dX8_count_153 (by decide) ?_
  exact ret ((-2), v_this_lineMany, f_this_lineFirst, f_this_lineLast) h 155 ls _ _ dX8_count_155 hw
