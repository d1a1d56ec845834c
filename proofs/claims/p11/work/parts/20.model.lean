theorem gw_721 : Cond.fieldLink RX8 42 "ScoreReaderModel" "said" "[I" ∈ GW := GW_of 721 (by decide +kernel) (by decide +kernel)
def gs_X8_forget : List Cond := Cond.code yX8_forget cX8_forget 2 none :: GW
def wd_X8_forget (cI cJ cZ : ClassId) (a_this a_this_board a_this_area a_this_x0 a_this_y0 a_this_x1 a_this_y1 a_this_head a_this_said a_this_low a_this_high a_this_least a_this_price a_this_way a_this_lineFirst a_this_lineLast a_this_left a_this_pile a_this_rest a_this_read a_this_measure a_this_wentBack : Nat) (v_this_run : Int32) (v_this_signs : Int32) (v_this_lastSigns : Int32) (v_this_dirt : Int32) (v_this_time : Int32) (v_this_lineMany : Int32) (v_this_notSign : Int32) (v_this_notKind : Int32) (v_this_measureMany : Int32) (f_this_said : Nat → Int32) : va_W := [(a_this, .inr (8, [.ref a_this_board, .int v_this_run, .int v_this_signs, .int v_this_lastSigns, .ref a_this_area, .ref a_this_x0, .ref a_this_y0, .ref a_this_x1, .ref a_this_y1, .ref a_this_head, .ref a_this_said, .ref a_this_low, .ref a_this_high, .ref a_this_least, .ref a_this_price, .int v_this_dirt, .int v_this_time, .ref a_this_way, .int v_this_lineMany, .ref a_this_lineFirst, .ref a_this_lineLast, .ref a_this_left, .ref a_this_pile, .ref a_this_rest, .int v_this_notSign, .int v_this_notKind, .ref a_this_read, .ref a_this_measure, .int v_this_measureMany, .ref a_this_wentBack])), (a_this_said, .inl (cI, 40, .inl f_this_said))]
abbrev rm_X8_forget : Room := { frames := 0, cells := 0, slots := 0, locals := 0 }
theorem hd_X8_forget : yX8_forget.cls = RX8 ∧ yX8_forget.cls ≠ "java/lang/invoke/MethodHandle" ∧ yX8_forget.cls ≠ "java/lang/invoke/VarHandle" ∧ (parseMethodDescriptor yX8_forget.desc).map (fun d => d.parameters.length) = some 0 := by decide +kernel
set_option maxHeartbeats 4000000 in
set_option maxRecDepth 100000 in
theorem c_X8_forget (l : Launch) (D : va_G) (cI cJ cZ : ClassId) (a_this a_this_board a_this_area a_this_x0 a_this_y0 a_this_x1 a_this_y1 a_this_head a_this_said a_this_low a_this_high a_this_least a_this_price a_this_way a_this_lineFirst a_this_lineLast a_this_left a_this_pile a_this_rest a_this_read a_this_measure a_this_wentBack : Nat) (v_this_run : Int32) (v_this_signs : Int32) (v_this_lastSigns : Int32) (v_this_dirt : Int32) (v_this_time : Int32) (v_this_lineMany : Int32) (v_this_notSign : Int32) (v_this_notKind : Int32) (v_this_measureMany : Int32) (f_this_said : Nat → Int32) (K : Nat) (o : (Nat → Int32)) (h : p_X8_forget K f_this_said = some o) : zMv l D (zT cI cJ cZ) yX8_forget gs_X8_forget rm_X8_forget [.ref a_this] (wd_X8_forget cI cJ cZ a_this a_this_board a_this_area a_this_x0 a_this_y0 a_this_x1 a_this_y1 a_this_head a_this_said a_this_low a_this_high a_this_least a_this_price a_this_way a_this_lineFirst a_this_lineLast a_this_left a_this_pile a_this_rest a_this_read a_this_measure a_this_wentBack v_this_run v_this_signs v_this_lastSigns v_this_dirt v_this_time v_this_lineMany v_this_notSign v_this_notKind v_this_measureMany f_this_said) (wd_X8_forget cI cJ cZ a_this a_this_board a_this_area a_this_x0 a_this_y0 a_this_x1 a_this_y1 a_this_head a_this_said a_this_low a_this_high a_this_least a_this_price a_this_way a_this_lineFirst a_this_lineLast a_this_left a_this_pile a_this_rest a_this_read a_this_measure a_this_wentBack v_this_run v_this_signs v_this_lastSigns v_this_dirt v_this_time v_this_lineMany v_this_notSign v_this_notKind v_this_measureMany o) := by
  refine zMet_v (own := RX8) (fun u : (Nat → Int32) => (wd_X8_forget cI cJ cZ a_this a_this_board a_this_area a_this_x0 a_this_y0 a_this_x1 a_this_y1 a_this_head a_this_said a_this_low a_this_high a_this_least a_this_price a_this_way a_this_lineFirst a_this_lineLast a_this_left a_this_pile a_this_rest a_this_read a_this_measure a_this_wentBack v_this_run v_this_signs v_this_lastSigns v_this_dirt v_this_time v_this_lineMany v_this_notSign v_this_notKind v_this_measureMany u)) (by decide) rfl rfl (Nat.le_of_ble_eq_true rfl) ?_
  intro p e s m args below meth c A Q S hK hA hw ret ls hl
  replace hl : lv_has ls 2 [(0, .ref a_this)] := hl
  refine lv_iconst (v := 0) S.1 S.2.1 dX8_forget_0 (by decide) ?_
  refine lv_istore_n (lv' := [(1, .int 0), (0, .ref a_this)]) S.1 S.2.1 dX8_forget_1 rfl hl (by decide) rfl (fun ls hl => ?_)
  have L_2 : ∀ (n2_2 : Nat) (f1 : Nat → Int32) (x2 : Int32) (h : z_lp2 p_X8_forget_l2 n2_2 f1 x2 = some o) (H : Heap) (locs : List Loc) (ls : Array Slot), zW D A s H locs (wd_X8_forget cI cJ cZ a_this a_this_board a_this_area a_this_x0 a_this_y0 a_this_x1 a_this_y1 a_this_head a_this_said a_this_low a_this_high a_this_least a_this_price a_this_way a_this_lineFirst a_this_lineLast a_this_left a_this_pile a_this_rest a_this_read a_this_measure a_this_wentBack v_this_run v_this_signs v_this_lastSigns v_this_dirt v_this_time v_this_lineMany v_this_notSign v_this_notKind v_this_measureMany f1) → lv_has ls 2 [(0, .ref a_this), (1, .int x2)] → W p l e (headSpec gs_X8_forget rm_X8_forget).room s m args below meth c H locs 0 0 Q (F0 m 2 ls []) := by
    intro n2_2
    induction n2_2 with
    | zero => intro f1 x2 h; exact z_no h
    | succ n2_2 ih_2 =>
      intro f1 x2 h H locs ls hw hl
      replace h : p_X8_forget_l2 (z_lp2 p_X8_forget_l2 n2_2) f1 x2 = some o := h
      refine lv_iload_n S.1 S.2.1 dX8_forget_2 rfl (lv_at hl 1 rfl) ?_
      refine lv_bipush (v := 40) S.1 S.2.1 dX8_forget_3 (by decide) ?_
      refine z_icmp_ge S (tgt := 21) h dX8_forget_5 (by decide) (fun h => ?_) (fun h => ?_)
      · exact ret f1 h 21 ls _ _ dX8_forget_21 hw
      · refine lv_aload_n S.1 S.2.1 dX8_forget_8 rfl (lv_at hl 0 rfl) ?_
        refine z_get S (C := RX8) (T := TX8) (N := 30) (gi gu_X8) hK hw 0 rfl rfl 10 (Nat.le_of_ble_eq_true rfl) (List.mem_cons_of_mem _ gw_721) rfl dX8_forget_9 ?_
        refine lv_iload_n S.1 S.2.1 dX8_forget_12 rfl (lv_at hl 1 rfl) ?_
        refine lv_iconst (v := (-1)) S.1 S.2.1 dX8_forget_13 (by decide) ?_
        refine z_iast S hK hw 1 0 rfl rfl h dX8_forget_14 (fun f3 H locs hw h => ?_)
        replace hw : zW D A s H locs (wd_X8_forget cI cJ cZ a_this a_this_board a_this_area a_this_x0 a_this_y0 a_this_x1 a_this_y1 a_this_head a_this_said a_this_low a_this_high a_this_least a_this_price a_this_way a_this_lineFirst a_this_lineLast a_this_left a_this_pile a_this_rest a_this_read a_this_measure a_this_wentBack v_this_run v_this_signs v_this_lastSigns v_this_dirt v_this_time v_this_lineMany v_this_notSign v_this_notKind v_this_measureMany f3) := hw
        refine z_iinc S (i := 1) (k := 1) (v := x2 + 1) hl rfl (by decide) rfl (fun v => (1, .int v) :: [(0, .ref a_this)]) (fun _ => rfl) h dX8_forget_15 (fun y4 ls hl h => ?_)
        replace hl : lv_has ls 2 [(1, .int y4), (0, .ref a_this)] := hl
        refine lv_goto (tgt := 2) S.1 S.2.1 dX8_forget_18 (by decide) ?_
        exact ih_2 f3 y4 h _ _ ls hw (lv_sub hl [1, 0] rfl)
  exact L_2 K f_this_said 0 h _ _ ls hw (lv_sub hl [1, 0] rfl)
def gs_X8_in : List Cond := Cond.code yX8_in cX8_in 3 (some .boolean) :: GW
def wd_X8_in (cI cJ cZ : ClassId) : va_W := []
abbrev rm_X8_in : Room := { frames := 0, cells := 0, slots := 0, locals := 0 }
theorem hd_X8_in : yX8_in.cls ≠ "java/lang/invoke/MethodHandle" ∧ yX8_in.cls ≠ "java/lang/invoke/VarHandle" ∧ (parseMethodDescriptor yX8_in.desc).map (fun d => d.parameters.length) = some 3 := by decide +kernel
set_option maxHeartbeats 4000000 in
set_option maxRecDepth 100000 in
theorem c_X8_in (l : Launch) (D : va_G) (cI cJ cZ : ClassId) (i0 : Int32) (i1 : Int32) (i2 : Int32) (o : Int32) (h : p_X8_in i0 i1 i2 = some o) : zMi l D (zT cI cJ cZ) yX8_in gs_X8_in rm_X8_in [.int i0, .int i1, .int i2] (wd_X8_in cI cJ cZ) (wd_X8_in cI cJ cZ) (o) := by
  refine zMet_z (own := RX8) (fun u : Int32 => (wd_X8_in cI cJ cZ)) (fun u : Int32 => u) (by decide) rfl rfl (Nat.le_of_ble_eq_true rfl) ?_
  intro p e s m args below meth c A Q S hK hA hw ret ls hl
  replace hl : lv_has ls 3 [(0, .int i0), (1, .int i1), (2, .int i2)] := hl
  refine lv_iload_n S.1 S.2.1 dX8_in_0 rfl (lv_at hl 0 rfl) ?_
  refine lv_iload_n S.1 S.2.1 dX8_in_1 rfl (lv_at hl 1 rfl) ?_
  refine z_icmp_lt S (tgt := 14) h dX8_in_2 (by decide) (fun h => ?_) (fun h => ?_)
  · refine lv_iconst (v := 0) S.1 S.2.1 dX8_in_14 (by decide) ?_
    exact ret 0 h (z_nb (Or.inl rfl)) 15 ls _ _ dX8_in_15 hw
  · refine lv_iload_n S.1 S.2.1 dX8_in_5 rfl (lv_at hl 0 rfl) ?_
    refine lv_iload_n S.1 S.2.1 dX8_in_6 rfl (lv_at hl 2 rfl) ?_
    refine z_icmp_gt S (tgt := 14) h dX8_in_7 (by decide) (fun h => ?_) (fun h => ?_)
    · refine lv_iconst (v := 0) S.1 S.2.1 dX8_in_14 (by decide) ?_
      exact ret 0 h (z_nb (Or.inl rfl)) 15 ls _ _ dX8_in_15 hw
    · refine lv_iconst (v := 1) S.1 S.2.1 dX8_in_10 (by decide) ?_
      refine lv_goto (tgt := 15) S.1 S.2.1 dX8_in_11 (by decide) ?_
      exact ret 1 h (z_nb (Or.inr rfl)) 15 ls _ _ dX8_in_15 hw
theorem gw_807 : Cond.methodLink RX8 100 yX8_in ∈ GW := GW_of 807 (by decide +kernel) (by decide +kernel)
theorem gw_809 : Cond.code yX8_in cX8_in 3 (some .boolean) ∈ GW := GW_of 809 (by decide +kernel) (by decide +kernel)
theorem gw_58 : Cond.initialized RX8 ∈ GW := GW_of 58 (by decide +kernel) (by decide +kernel)
theorem gw_808 : Cond.static yX8_in ∈ GW := GW_of 808 (by decide +kernel) (by decide +kernel)
theorem gw_711 : Cond.fieldLink RX8 7 "ScoreReaderModel" "board" "[J" ∈ GW := GW_of 711 (by decide +kernel) (by decide +kernel)
def gs_X8_isBlack : List Cond := Cond.code yX8_isBlack cX8_isBlack 3 (some .boolean) :: GW
def wd_X8_isBlack (cI cJ cZ : ClassId) (a_this a_this_board a_this_area a_this_x0 a_this_y0 a_this_x1 a_this_y1 a_this_head a_this_said a_this_low a_this_high a_this_least a_this_price a_this_way a_this_lineFirst a_this_lineLast a_this_left a_this_pile a_this_rest a_this_read a_this_measure a_this_wentBack : Nat) (v_this_run : Int32) (v_this_signs : Int32) (v_this_lastSigns : Int32) (v_this_dirt : Int32) (v_this_time : Int32) (v_this_lineMany : Int32) (v_this_notSign : Int32) (v_this_notKind : Int32) (v_this_measureMany : Int32) (f_this_board : Nat → Int64) : va_W := [(a_this, .inr (8, [.ref a_this_board, .int v_this_run, .int v_this_signs, .int v_this_lastSigns, .ref a_this_area, .ref a_this_x0, .ref a_this_y0, .ref a_this_x1, .ref a_this_y1, .ref a_this_head, .ref a_this_said, .ref a_this_low, .ref a_this_high, .ref a_this_least, .ref a_this_price, .int v_this_dirt, .int v_this_time, .ref a_this_way, .int v_this_lineMany, .ref a_this_lineFirst, .ref a_this_lineLast, .ref a_this_left, .ref a_this_pile, .ref a_this_rest, .int v_this_notSign, .int v_this_notKind, .ref a_this_read, .ref a_this_measure, .int v_this_measureMany, .ref a_this_wentBack])), (a_this_board, .inl (cJ, 32, .inr (.inl f_this_board)))]
abbrev rm_X8_isBlack : Room := { frames := 1, cells := 0, slots := 0, locals := 22 }
theorem hd_X8_isBlack : yX8_isBlack.cls = RX8 ∧ yX8_isBlack.cls ≠ "java/lang/invoke/MethodHandle" ∧ yX8_isBlack.cls ≠ "java/lang/invoke/VarHandle" ∧ (parseMethodDescriptor yX8_isBlack.desc).map (fun d => d.parameters.length) = some 2 := by decide +kernel
set_option maxHeartbeats 4000000 in
set_option maxRecDepth 100000 in
theorem c_X8_isBlack (l : Launch) (D : va_G) (cI cJ cZ : ClassId) (a_this a_this_board a_this_area a_this_x0 a_this_y0 a_this_x1 a_this_y1 a_this_head a_this_said a_this_low a_this_high a_this_least a_this_price a_this_way a_this_lineFirst a_this_lineLast a_this_left a_this_pile a_this_rest a_this_read a_this_measure a_this_wentBack : Nat) (v_this_run : Int32) (v_this_signs : Int32) (v_this_lastSigns : Int32) (v_this_dirt : Int32) (v_this_time : Int32) (v_this_lineMany : Int32) (v_this_notSign : Int32) (v_this_notKind : Int32) (v_this_measureMany : Int32) (f_this_board : Nat → Int64) (i1 : Int32) (i2 : Int32) (o : Int32) (h : p_X8_isBlack f_this_board i1 i2 = some o) : zMi l D (zT cI cJ cZ) yX8_isBlack gs_X8_isBlack rm_X8_isBlack [.ref a_this, .int i1, .int i2] (wd_X8_isBlack cI cJ cZ a_this a_this_board a_this_area a_this_x0 a_this_y0 a_this_x1 a_this_y1 a_this_head a_this_said a_this_low a_this_high a_this_least a_this_price a_this_way a_this_lineFirst a_this_lineLast a_this_left a_this_pile a_this_rest a_this_read a_this_measure a_this_wentBack v_this_run v_this_signs v_this_lastSigns v_this_dirt v_this_time v_this_lineMany v_this_notSign v_this_notKind v_this_measureMany f_this_board) (wd_X8_isBlack cI cJ cZ a_this a_this_board a_this_area a_this_x0 a_this_y0 a_this_x1 a_this_y1 a_this_head a_this_said a_this_low a_this_high a_this_least a_this_price a_this_way a_this_lineFirst a_this_lineLast a_this_left a_this_pile a_this_rest a_this_read a_this_measure a_this_wentBack v_this_run v_this_signs v_this_lastSigns v_this_dirt v_this_time v_this_lineMany v_this_notSign v_this_notKind v_this_measureMany f_this_board) (o) := by
  refine zMet_z (own := RX8) (fun u : Int32 => (wd_X8_isBlack cI cJ cZ a_this a_this_board a_this_area a_this_x0 a_this_y0 a_this_x1 a_this_y1 a_this_head a_this_said a_this_low a_this_high a_this_least a_this_price a_this_way a_this_lineFirst a_this_lineLast a_this_left a_this_pile a_this_rest a_this_read a_this_measure a_this_wentBack v_this_run v_this_signs v_this_lastSigns v_this_dirt v_this_time v_this_lineMany v_this_notSign v_this_notKind v_this_measureMany f_this_board)) (fun u : Int32 => u) (by decide) rfl rfl (Nat.le_of_ble_eq_true rfl) ?_
  intro p e s m args below meth c A Q S hK hA hw ret ls hl
  replace hl : lv_has ls 3 [(0, .ref a_this), (1, .int i1), (2, .int i2)] := hl
  refine lv_iload_n S.1 S.2.1 dX8_isBlack_0 rfl (lv_at hl 1 rfl) ?_
  refine lv_iconst (v := 0) S.1 S.2.1 dX8_isBlack_1 (by decide) ?_
  refine lv_bipush (v := 59) S.1 S.2.1 dX8_isBlack_2 (by decide) ?_
  obtain ⟨y1, hc, h⟩ := z_b1_e h
  refine z_callSi (As := [.int i1, .int 0, .int 59]) (rest := []) S (c_X8_in l D cI cJ cZ i1 0 59 _ hc) (va_cwS 3 S.2.2.2.2 (gw_S gw_807 gw_808 gw_58 gw_809) rfl rfl rfl hd_X8_in ⟨Nat.le_of_ble_eq_true rfl, Nat.le_of_ble_eq_true rfl⟩) hK hA hw [] (by decide) rfl rfl [none, none] rfl (by decide) hl.1 rfl rfl (lv_room (Nat.le_of_ble_eq_true rfl)) ⟨Nat.zero_le _, Nat.zero_le _⟩ dX8_isBlack_4 (fun H locs hw => ?_)
  replace hw : zW D A s H locs (wd_X8_isBlack cI cJ cZ a_this a_this_board a_this_area a_this_x0 a_this_y0 a_this_x1 a_this_y1 a_this_head a_this_said a_this_low a_this_high a_this_least a_this_price a_this_way a_this_lineFirst a_this_lineLast a_this_left a_this_pile a_this_rest a_this_read a_this_measure a_this_wentBack v_this_run v_this_signs v_this_lastSigns v_this_dirt v_this_time v_this_lineMany v_this_notSign v_this_notKind v_this_measureMany f_this_board) := hw
  refine z_if_eq S (tgt := 39) h dX8_isBlack_7 (by decide) (fun h => ?_) (fun h => ?_)
  · refine lv_iconst (v := 0) S.1 S.2.1 dX8_isBlack_39 (by decide) ?_
    exact ret 0 h (z_nb (Or.inl rfl)) 40 ls _ _ dX8_isBlack_40 hw
  · refine lv_iload_n S.1 S.2.1 dX8_isBlack_10 rfl (lv_at hl 2 rfl) ?_
    refine lv_iconst (v := 0) S.1 S.2.1 dX8_isBlack_11 (by decide) ?_
    refine lv_bipush (v := 31) S.1 S.2.1 dX8_isBlack_12 (by decide) ?_
    obtain ⟨y2, hc, h⟩ := z_b1_e h
    refine z_callSi (As := [.int i2, .int 0, .int 31]) (rest := []) S (c_X8_in l D cI cJ cZ i2 0 31 _ hc) (va_cwS 3 S.2.2.2.2 (gw_S gw_807 gw_808 gw_58 gw_809) rfl rfl rfl hd_X8_in ⟨Nat.le_of_ble_eq_true rfl, Nat.le_of_ble_eq_true rfl⟩) hK hA hw [] (by decide) rfl rfl [none, none] rfl (by decide) hl.1 rfl rfl (lv_room (Nat.le_of_ble_eq_true rfl)) ⟨Nat.zero_le _, Nat.zero_le _⟩ dX8_isBlack_14 (fun H locs hw => ?_)
    replace hw : zW D A s H locs (wd_X8_isBlack cI cJ cZ a_this a_this_board a_this_area a_this_x0 a_this_y0 a_this_x1 a_this_y1 a_this_head a_this_said a_this_low a_this_high a_this_least a_this_price a_this_way a_this_lineFirst a_this_lineLast a_this_left a_this_pile a_this_rest a_this_read a_this_measure a_this_wentBack v_this_run v_this_signs v_this_lastSigns v_this_dirt v_this_time v_this_lineMany v_this_notSign v_this_notKind v_this_measureMany f_this_board) := hw
    refine z_if_eq S (tgt := 39) h dX8_isBlack_17 (by decide) (fun h => ?_) (fun h => ?_)
    · refine lv_iconst (v := 0) S.1 S.2.1 dX8_isBlack_39 (by decide) ?_
      exact ret 0 h (z_nb (Or.inl rfl)) 40 ls _ _ dX8_isBlack_40 hw
    · refine lv_aload_n S.1 S.2.1 dX8_isBlack_20 rfl (lv_at hl 0 rfl) ?_
      refine z_get S (C := RX8) (T := TX8) (N := 30) (gi gu_X8) hK hw 0 rfl rfl 0 (Nat.le_of_ble_eq_true rfl) (List.mem_cons_of_mem _ gw_711) rfl dX8_isBlack_21 ?_
      refine lv_iload_n S.1 S.2.1 dX8_isBlack_24 rfl (lv_at hl 2 rfl) ?_
      refine z_lald S hK hw 1 1 rfl rfl h dX8_isBlack_25 (fun y3 h => ?_)
      refine lv_iload_n S.1 S.2.1 dX8_isBlack_26 rfl (lv_at hl 1 rfl) ?_
      refine lv_lshr (v := ((y3 >>> (i1.toInt64 &&& 63)))) S.1 S.2.1 dX8_isBlack_27 rfl ?_
      refine lv_lconst (v := 1) S.1 S.2.1 dX8_isBlack_28 (by decide) ?_
      refine lv_land S.1 S.2.1 dX8_isBlack_29 ?_
      refine lv_lconst (v := 1) S.1 S.2.1 dX8_isBlack_30 (by decide) ?_
      refine W.lcmp S.1 S.2.1 dX8_isBlack_31 ?_
      refine z_if_ne S (tgt := 39) h dX8_isBlack_32 (by decide) (fun h => ?_) (fun h => ?_)
      · refine lv_iconst (v := 0) S.1 S.2.1 dX8_isBlack_39 (by decide) ?_
        exact ret 0 h (z_nb (Or.inl rfl)) 40 ls _ _ dX8_isBlack_40 hw
      · refine lv_iconst (v := 1) S.1 S.2.1 dX8_isBlack_35 (by decide) ?_
        refine lv_goto (tgt := 40) S.1 S.2.1 dX8_isBlack_36 (by decide) ?_
        exact ret 1 h (z_nb (Or.inr rfl)) 40 ls _ _ dX8_isBlack_40 hw
def gs_X8_ones : List Cond := Cond.code yX8_ones cX8_ones 4 (some .int) :: GW
def wd_X8_ones (cI cJ cZ : ClassId) : va_W := []
abbrev rm_X8_ones : Room := { frames := 0, cells := 0, slots := 0, locals := 0 }
theorem hd_X8_ones : yX8_ones.cls ≠ "java/lang/invoke/MethodHandle" ∧ yX8_ones.cls ≠ "java/lang/invoke/VarHandle" ∧ (parseMethodDescriptor yX8_ones.desc).map (fun d => d.parameters.length) = some 1 := by decide +kernel
set_option maxHeartbeats 4000000 in
set_option maxRecDepth 100000 in
theorem c_X8_ones (l : Launch) (D : va_G) (cI cJ cZ : ClassId) (K : Nat) (i0 : Int64) (o : Int32) (h : p_X8_ones K i0 = some o) : zMi l D (zT cI cJ cZ) yX8_ones gs_X8_ones rm_X8_ones [.long i0] (wd_X8_ones cI cJ cZ) (wd_X8_ones cI cJ cZ) (o) := by
  refine zMet_i (own := RX8) (fun u : Int32 => (wd_X8_ones cI cJ cZ)) (fun u : Int32 => u) (by decide) rfl rfl (Nat.le_of_ble_eq_true rfl) ?_
  intro p e s m args below meth c A Q S hK hA hw ret ls hl
  replace hl : lv_has ls 4 [(0, .long i0)] := hl
  refine lv_iconst (v := 0) S.1 S.2.1 dX8_ones_0 (by decide) ?_
  refine lv_istore_n (lv' := [(2, .int 0), (0, .long i0)]) S.1 S.2.1 dX8_ones_1 rfl hl (by decide) rfl (fun ls hl => ?_)
  refine lv_iconst (v := 0) S.1 S.2.1 dX8_ones_2 (by decide) ?_
  refine lv_istore_n (lv' := [(3, .int 0), (2, .int 0), (0, .long i0)]) S.1 S.2.1 dX8_ones_3 rfl hl (by decide) rfl (fun ls hl => ?_)
  have L_4 : ∀ (n4_2 : Nat) (x1 : Int32) (x2 : Int32) (h : z_lp2 (p_X8_ones_l4 i0) n4_2 x1 x2 = some o) (H : Heap) (locs : List Loc) (ls : Array Slot), zW D A s H locs (wd_X8_ones cI cJ cZ) → lv_has ls 4 [(0, .long i0), (2, .int x1), (3, .int x2)] → W p l e (headSpec gs_X8_ones rm_X8_ones).room s m args below meth c H locs 0 0 Q (F0 m 4 ls []) := by
    intro n4_2
    induction n4_2 with
    | zero => intro x1 x2 h; exact z_no h
    | succ n4_2 ih_4 =>
      intro x1 x2 h H locs ls hw hl
      replace h : (p_X8_ones_l4 i0) (z_lp2 (p_X8_ones_l4 i0) n4_2) x1 x2 = some o := h
      refine lv_iload_n S.1 S.2.1 dX8_ones_4 rfl (lv_at hl 2 rfl) ?_
      refine lv_bipush (v := 60) S.1 S.2.1 dX8_ones_5 (by decide) ?_
      refine z_icmp_ge S (tgt := 25) h dX8_ones_7 (by decide) (fun h => ?_) (fun h => ?_)
      · refine lv_iload_n S.1 S.2.1 dX8_ones_25 rfl (lv_at hl 1 rfl) ?_
        exact ret x1 h 26 ls _ _ dX8_ones_26 hw
      · refine lv_iload_n S.1 S.2.1 dX8_ones_10 rfl (lv_at hl 1 rfl) ?_
        refine lv_lload_n S.1 S.2.1 dX8_ones_11 rfl (lv_at hl 0 rfl) ?_
        refine lv_iload_n S.1 S.2.1 dX8_ones_12 rfl (lv_at hl 2 rfl) ?_
        refine lv_lshr (v := ((i0 >>> (x2.toInt64 &&& 63)))) S.1 S.2.1 dX8_ones_13 rfl ?_
        refine lv_lconst (v := 1) S.1 S.2.1 dX8_ones_14 (by decide) ?_
        refine lv_land S.1 S.2.1 dX8_ones_15 ?_
        refine lv_l2i (v := (((i0 >>> (x2.toInt64 &&& 63))) &&& 1).toInt32) S.1 S.2.1 dX8_ones_16 rfl ?_
        refine lv_iadd S.1 S.2.1 dX8_ones_17 ?_
        refine z_leti h (fun y3 h => ?_)
        refine lv_istore_n (lv' := [(2, .int y3), (0, .long i0), (3, .int x2)]) S.1 S.2.1 dX8_ones_18 rfl hl (by decide) rfl (fun ls hl => ?_)
        refine z_iinc S (i := 3) (k := 2) (v := x2 + 1) hl rfl (by decide) rfl (fun v => (3, .int v) :: [(2, .int y3), (0, .long i0)]) (fun _ => rfl) h dX8_ones_19 (fun y4 ls hl h => ?_)
        replace hl : lv_has ls 4 [(3, .int y4), (2, .int y3), (0, .long i0)] := hl
        refine lv_goto (tgt := 4) S.1 S.2.1 dX8_ones_22 (by decide) ?_
        exact ih_4 y3 y4 h _ _ ls hw (lv_sub hl [2, 1, 0] rfl)
  exact L_4 K 0 0 h _ _ ls hw (lv_sub hl [2, 1, 0] rfl)
theorem gw_713 : Cond.fieldLink RX8 17 "ScoreReaderModel" "signs" "I" ∈ GW := GW_of 713 (by decide +kernel) (by decide +kernel)
theorem gw_810 : Cond.methodLink RX8 104 yX8_ones ∈ GW := GW_of 810 (by decide +kernel) (by decide +kernel)
theorem gw_812 : Cond.code yX8_ones cX8_ones 4 (some .int) ∈ GW := GW_of 812 (by decide +kernel) (by decide +kernel)
theorem gw_811 : Cond.static yX8_ones ∈ GW := GW_of 811 (by decide +kernel) (by decide +kernel)
def gs_X8_row : List Cond := Cond.code yX8_row cX8_row 4 (some .int) :: GW
def wd_X8_row (cI cJ cZ : ClassId) (a_this a_this_board a_this_area a_this_x0 a_this_y0 a_this_x1 a_this_y1 a_this_head a_this_said a_this_low a_this_high a_this_least a_this_price a_this_way a_this_lineFirst a_this_lineLast a_this_left a_this_pile a_this_rest a_this_read a_this_measure a_this_wentBack : Nat) (v_this_run : Int32) (v_this_signs : Int32) (v_this_lastSigns : Int32) (v_this_dirt : Int32) (v_this_time : Int32) (v_this_lineMany : Int32) (v_this_notSign : Int32) (v_this_notKind : Int32) (v_this_measureMany : Int32) (f_this_board : Nat → Int64) : va_W := [(a_this, .inr (8, [.ref a_this_board, .int v_this_run, .int v_this_signs, .int v_this_lastSigns, .ref a_this_area, .ref a_this_x0, .ref a_this_y0, .ref a_this_x1, .ref a_this_y1, .ref a_this_head, .ref a_this_said, .ref a_this_low, .ref a_this_high, .ref a_this_least, .ref a_this_price, .int v_this_dirt, .int v_this_time, .ref a_this_way, .int v_this_lineMany, .ref a_this_lineFirst, .ref a_this_lineLast, .ref a_this_left, .ref a_this_pile, .ref a_this_rest, .int v_this_notSign, .int v_this_notKind, .ref a_this_read, .ref a_this_measure, .int v_this_measureMany, .ref a_this_wentBack])), (a_this_board, .inl (cJ, 32, .inr (.inl f_this_board)))]
abbrev rm_X8_row : Room := { frames := 1, cells := 0, slots := 0, locals := 23 }
theorem hd_X8_row : yX8_row.cls = RX8 ∧ yX8_row.cls ≠ "java/lang/invoke/MethodHandle" ∧ yX8_row.cls ≠ "java/lang/invoke/VarHandle" ∧ (parseMethodDescriptor yX8_row.desc).map (fun d => d.parameters.length) = some 2 := by decide +kernel
set_option maxHeartbeats 4000000 in
set_option maxRecDepth 100000 in
theorem c_X8_row (l : Launch) (D : va_G) (cI cJ cZ : ClassId) (a_this a_this_board a_this_area a_this_x0 a_this_y0 a_this_x1 a_this_y1 a_this_head a_this_said a_this_low a_this_high a_this_least a_this_price a_this_way a_this_lineFirst a_this_lineLast a_this_left a_this_pile a_this_rest a_this_read a_this_measure a_this_wentBack : Nat) (v_this_run : Int32) (v_this_signs : Int32) (v_this_lastSigns : Int32) (v_this_dirt : Int32) (v_this_time : Int32) (v_this_lineMany : Int32) (v_this_notSign : Int32) (v_this_notKind : Int32) (v_this_measureMany : Int32) (f_this_board : Nat → Int64) (K : Nat) (i1 : Int32) (i2 : Int64) (o : Int32 × Int32 × (Nat → Int64)) (h : p_X8_row K v_this_signs f_this_board i1 i2 = some o) : zMi l D (zT cI cJ cZ) yX8_row gs_X8_row rm_X8_row [.ref a_this, .int i1, .long i2] (wd_X8_row cI cJ cZ a_this a_this_board a_this_area a_this_x0 a_this_y0 a_this_x1 a_this_y1 a_this_head a_this_said a_this_low a_this_high a_this_least a_this_price a_this_way a_this_lineFirst a_this_lineLast a_this_left a_this_pile a_this_rest a_this_read a_this_measure a_this_wentBack v_this_run v_this_signs v_this_lastSigns v_this_dirt v_this_time v_this_lineMany v_this_notSign v_this_notKind v_this_measureMany f_this_board) (wd_X8_row cI cJ cZ a_this a_this_board a_this_area a_this_x0 a_this_y0 a_this_x1 a_this_y1 a_this_head a_this_said a_this_low a_this_high a_this_least a_this_price a_this_way a_this_lineFirst a_this_lineLast a_this_left a_this_pile a_this_rest a_this_read a_this_measure a_this_wentBack v_this_run (o.2.1) v_this_lastSigns v_this_dirt v_this_time v_this_lineMany v_this_notSign v_this_notKind v_this_measureMany (o.2.2)) (o.1) := by
  refine zMet_i (own := RX8) (fun u : Int32 × Int32 × (Nat → Int64) => (wd_X8_row cI cJ cZ a_this a_this_board a_this_area a_this_x0 a_this_y0 a_this_x1 a_this_y1 a_this_head a_this_said a_this_low a_this_high a_this_least a_this_price a_this_way a_this_lineFirst a_this_lineLast a_this_left a_this_pile a_this_rest a_this_read a_this_measure a_this_wentBack v_this_run (u.2.1) v_this_lastSigns v_this_dirt v_this_time v_this_lineMany v_this_notSign v_this_notKind v_this_measureMany (u.2.2))) (fun u : Int32 × Int32 × (Nat → Int64) => u.1) (by decide) rfl rfl (Nat.le_of_ble_eq_true rfl) ?_
  intro p e s m args below meth c A Q S hK hA hw ret ls hl
  replace hl : lv_has ls 4 [(0, .ref a_this), (1, .int i1), (2, .long i2)] := hl
  refine lv_iload_n S.1 S.2.1 dX8_row_0 rfl (lv_at hl 1 rfl) ?_
  refine lv_iconst (v := 0) S.1 S.2.1 dX8_row_1 (by decide) ?_
  refine lv_bipush (v := 31) S.1 S.2.1 dX8_row_2 (by decide) ?_
  obtain ⟨y1, hc, h⟩ := z_b1_e h
  refine z_callSi (As := [.int i1, .int 0, .int 31]) (rest := []) S (c_X8_in l D cI cJ cZ i1 0 31 _ hc) (va_cwS 3 S.2.2.2.2 (gw_S gw_807 gw_808 gw_58 gw_809) rfl rfl rfl hd_X8_in ⟨Nat.le_of_ble_eq_true rfl, Nat.le_of_ble_eq_true rfl⟩) hK hA hw [] (by decide) rfl rfl [none, none] rfl (by decide) hl.1 rfl rfl (lv_room (Nat.le_of_ble_eq_true rfl)) ⟨Nat.zero_le _, Nat.zero_le _⟩ dX8_row_4 (fun H locs hw => ?_)
  replace hw : zW D A s H locs (wd_X8_row cI cJ cZ a_this a_this_board a_this_area a_this_x0 a_this_y0 a_this_x1 a_this_y1 a_this_head a_this_said a_this_low a_this_high a_this_least a_this_price a_this_way a_this_lineFirst a_this_lineLast a_this_left a_this_pile a_this_rest a_this_read a_this_measure a_this_wentBack v_this_run v_this_signs v_this_lastSigns v_this_dirt v_this_time v_this_lineMany v_this_notSign v_this_notKind v_this_measureMany f_this_board) := hw
  refine z_if_eq S (tgt := 19) h dX8_row_7 (by decide) (fun h => ?_) (fun h => ?_)
  · refine lv_bipush (v := (-2)) S.1 S.2.1 dX8_row_19 (by decide) ?_
    exact ret ((-2), v_this_signs, f_this_board) h 21 ls _ _ dX8_row_21 hw
  · refine lv_lload_n S.1 S.2.1 dX8_row_10 rfl (lv_at hl 2 rfl) ?_
    refine lv_bipush (v := 60) S.1 S.2.1 dX8_row_11 (by decide) ?_
    refine lv_lshr (v := ((i2 >>> ((60 : Int32).toInt64 &&& 63)))) S.1 S.2.1 dX8_row_13 rfl ?_
    refine lv_lconst (v := 0) S.1 S.2.1 dX8_row_14 (by decide) ?_
    refine W.lcmp S.1 S.2.1 dX8_row_15 ?_
    refine z_if_eq S (tgt := 22) h dX8_row_16 (by decide) (fun h => ?_) (fun h => ?_)
    · refine lv_aload_n S.1 S.2.1 dX8_row_22 rfl (lv_at hl 0 rfl) ?_
      refine z_get S (C := RX8) (T := TX8) (N := 30) (gi gu_X8) hK hw 0 rfl rfl 0 (Nat.le_of_ble_eq_true rfl) (List.mem_cons_of_mem _ gw_711) rfl dX8_row_23 ?_
      refine lv_iload_n S.1 S.2.1 dX8_row_26 rfl (lv_at hl 1 rfl) ?_
      refine lv_lload_n S.1 S.2.1 dX8_row_27 rfl (lv_at hl 2 rfl) ?_
      refine z_last S hK hw 1 1 rfl rfl h dX8_row_28 (fun f2 H locs hw h => ?_)
      replace hw : zW D A s H locs (wd_X8_row cI cJ cZ a_this a_this_board a_this_area a_this_x0 a_this_y0 a_this_x1 a_this_y1 a_this_head a_this_said a_this_low a_this_high a_this_least a_this_price a_this_way a_this_lineFirst a_this_lineLast a_this_left a_this_pile a_this_rest a_this_read a_this_measure a_this_wentBack v_this_run v_this_signs v_this_lastSigns v_this_dirt v_this_time v_this_lineMany v_this_notSign v_this_notKind v_this_measureMany f2) := hw
      refine lv_aload_n S.1 S.2.1 dX8_row_29 rfl (lv_at hl 0 rfl) ?_
      refine lv_iconst (v := (-1)) S.1 S.2.1 dX8_row_30 (by decide) ?_
      refine z_put S (C := RX8) (T := TX8) (N := 30) (gi gu_X8) tyX8 tyX8_ok nmX8 hK hw 0 rfl rfl 2 (Nat.le_of_ble_eq_true rfl) (List.mem_cons_of_mem _ gw_713) rfl rfl rfl (Nat.le_of_ble_eq_true rfl) dX8_row_31 (fun H locs hw => ?_)
      replace hw : zW D A s H locs (wd_X8_row cI cJ cZ a_this a_this_board a_this_area a_this_x0 a_this_y0 a_this_x1 a_this_y1 a_this_head a_this_said a_this_low a_this_high a_this_least a_this_price a_this_way a_this_lineFirst a_this_lineLast a_this_left a_this_pile a_this_rest a_this_read a_this_measure a_this_wentBack v_this_run (-1) v_this_lastSigns v_this_dirt v_this_time v_this_lineMany v_this_notSign v_this_notKind v_this_measureMany f2) := hw
      refine lv_lload_n S.1 S.2.1 dX8_row_34 rfl (lv_at hl 2 rfl) ?_
      obtain ⟨y3, hc, h⟩ := z_b1_e h
      refine z_callSi (As := [.long i2]) (rest := []) S (c_X8_ones l D cI cJ cZ K i2 _ hc) (va_cwS 1 S.2.2.2.2 (gw_S gw_810 gw_811 gw_58 gw_812) rfl rfl rfl hd_X8_ones ⟨Nat.le_of_ble_eq_true rfl, Nat.le_of_ble_eq_true rfl⟩) hK hA hw [] (by decide) rfl rfl [none, none] rfl (by decide) hl.1 rfl rfl (lv_room (Nat.le_of_ble_eq_true rfl)) ⟨Nat.zero_le _, Nat.zero_le _⟩ dX8_row_35 (fun H locs hw => ?_)
      replace hw : zW D A s H locs (wd_X8_row cI cJ cZ a_this a_this_board a_this_area a_this_x0 a_this_y0 a_this_x1 a_this_y1 a_this_head a_this_said a_this_low a_this_high a_this_least a_this_price a_this_way a_this_lineFirst a_this_lineLast a_this_left a_this_pile a_this_rest a_this_read a_this_measure a_this_wentBack v_this_run (-1) v_this_lastSigns v_this_dirt v_this_time v_this_lineMany v_this_notSign v_this_notKind v_this_measureMany f2) := hw
      exact ret (y3, (-1), f2) h 38 ls _ _ dX8_row_38 hw
    · refine lv_bipush (v := (-2)) S.1 S.2.1 dX8_row_19 (by decide) ?_
      exact ret ((-2), v_this_signs, f_this_board) h 21 ls _ _ dX8_row_21 hw
theorem gw_817 : Cond.methodLink RX8 108 yX8_isBlack ∈ GW := GW_of 817 (by decide +kernel) (by decide +kernel)
theorem gw_820 : Cond.code yX8_isBlack cX8_isBlack 3 (some .boolean) ∈ GW := GW_of 820 (by decide +kernel) (by decide +kernel)
theorem gw_819 : Cond.instanceMethod yX8_isBlack ∈ GW := GW_of 819 (by decide +kernel) (by decide +kernel)
theorem gw_30 : Cond.selects RX8 yX8_isBlack yX8_isBlack ∈ GW := GW_of 30 (by decide +kernel) (by decide +kernel)
def gs_X8_ink : List Cond := Cond.code yX8_ink cX8_ink 9 (some .int) :: GW
def wd_X8_ink (cI cJ cZ : ClassId) (a_this a_this_board a_this_area a_this_x0 a_this_y0 a_this_x1 a_this_y1 a_this_head a_this_said a_this_low a_this_high a_this_least a_this_price a_this_way a_this_lineFirst a_this_lineLast a_this_left a_this_pile a_this_rest a_this_read a_this_measure a_this_wentBack : Nat) (v_this_run : Int32) (v_this_signs : Int32) (v_this_lastSigns : Int32) (v_this_dirt : Int32) (v_this_time : Int32) (v_this_lineMany : Int32) (v_this_notSign : Int32) (v_this_notKind : Int32) (v_this_measureMany : Int32) (f_this_board : Nat → Int64) : va_W := [(a_this, .inr (8, [.ref a_this_board, .int v_this_run, .int v_this_signs, .int v_this_lastSigns, .ref a_this_area, .ref a_this_x0, .ref a_this_y0, .ref a_this_x1, .ref a_this_y1, .ref a_this_head, .ref a_this_said, .ref a_this_low, .ref a_this_high, .ref a_this_least, .ref a_this_price, .int v_this_dirt, .int v_this_time, .ref a_this_way, .int v_this_lineMany, .ref a_this_lineFirst, .ref a_this_lineLast, .ref a_this_left, .ref a_this_pile, .ref a_this_rest, .int v_this_notSign, .int v_this_notKind, .ref a_this_read, .ref a_this_measure, .int v_this_measureMany, .ref a_this_wentBack])), (a_this_board, .inl (cJ, 32, .inr (.inl f_this_board)))]
abbrev rm_X8_ink : Room := { frames := 2, cells := 0, slots := 0, locals := 44 }
theorem hd_X8_ink : yX8_ink.cls = RX8 ∧ yX8_ink.cls ≠ "java/lang/invoke/MethodHandle" ∧ yX8_ink.cls ≠ "java/lang/invoke/VarHandle" ∧ (parseMethodDescriptor yX8_ink.desc).map (fun d => d.parameters.length) = some 5 := by decide +kernel
set_option maxHeartbeats 4000000 in
set_option maxRecDepth 100000 in
theorem c_X8_ink (l : Launch) (D : va_G) (cI cJ cZ : ClassId) (a_this a_this_board a_this_area a_this_x0 a_this_y0 a_this_x1 a_this_y1 a_this_head a_this_said a_this_low a_this_high a_this_least a_this_price a_this_way a_this_lineFirst a_this_lineLast a_this_left a_this_pile a_this_rest a_this_read a_this_measure a_this_wentBack : Nat) (v_this_run : Int32) (v_this_signs : Int32) (v_this_lastSigns : Int32) (v_this_dirt : Int32) (v_this_time : Int32) (v_this_lineMany : Int32) (v_this_notSign : Int32) (v_this_notKind : Int32) (v_this_measureMany : Int32) (f_this_board : Nat → Int64) (K : Nat) (i1 : Int32) (i2 : Int32) (i3 : Int32) (i4 : Int32) (i5 : Int32) (o : Int32 × Int32 × (Nat → Int64)) (h : p_X8_ink K v_this_signs f_this_board i1 i2 i3 i4 i5 = some o) : zMi l D (zT cI cJ cZ) yX8_ink gs_X8_ink rm_X8_ink [.ref a_this, .int i1, .int i2, .int i3, .int i4, .int i5] (wd_X8_ink cI cJ cZ a_this a_this_board a_this_area a_this_x0 a_this_y0 a_this_x1 a_this_y1 a_this_head a_this_said a_this_low a_this_high a_this_least a_this_price a_this_way a_this_lineFirst a_this_lineLast a_this_left a_this_pile a_this_rest a_this_read a_this_measure a_this_wentBack v_this_run v_this_signs v_this_lastSigns v_this_dirt v_this_time v_this_lineMany v_this_notSign v_this_notKind v_this_measureMany f_this_board) (wd_X8_ink cI cJ cZ a_this a_this_board a_this_area a_this_x0 a_this_y0 a_this_x1 a_this_y1 a_this_head a_this_said a_this_low a_this_high a_this_least a_this_price a_this_way a_this_lineFirst a_this_lineLast a_this_left a_this_pile a_this_rest a_this_read a_this_measure a_this_wentBack v_this_run (o.2.1) v_this_lastSigns v_this_dirt v_this_time v_this_lineMany v_this_notSign v_this_notKind v_this_measureMany (o.2.2)) (o.1) := by
  refine zMet_i (own := RX8) (fun u : Int32 × Int32 × (Nat → Int64) => (wd_X8_ink cI cJ cZ a_this a_this_board a_this_area a_this_x0 a_this_y0 a_this_x1 a_this_y1 a_this_head a_this_said a_this_low a_this_high a_this_least a_this_price a_this_way a_this_lineFirst a_this_lineLast a_this_left a_this_pile a_this_rest a_this_read a_this_measure a_this_wentBack v_this_run (u.2.1) v_this_lastSigns v_this_dirt v_this_time v_this_lineMany v_this_notSign v_this_notKind v_this_measureMany (u.2.2))) (fun u : Int32 × Int32 × (Nat → Int64) => u.1) (by decide) rfl rfl (Nat.le_of_ble_eq_true rfl) ?_
  intro p e s m args below meth c A Q S hK hA hw ret ls hl
  replace hl : lv_has ls 9 [(0, .ref a_this), (1, .int i1), (2, .int i2), (3, .int i3), (4, .int i4), (5, .int i5)] := hl
  refine lv_iload_n S.1 S.2.1 dX8_ink_0 rfl (lv_at hl 3 rfl) ?_
  refine lv_iconst (v := 1) S.1 S.2.1 dX8_ink_1 (by decide) ?_
  refine lv_bipush (v := 60) S.1 S.2.1 dX8_ink_2 (by decide) ?_
  obtain ⟨y1, hc, h⟩ := z_b1_e h
  refine z_callSi (As := [.int i3, .int 1, .int 60]) (rest := []) S (c_X8_in l D cI cJ cZ i3 1 60 _ hc) (va_cwS 3 S.2.2.2.2 (gw_S gw_807 gw_808 gw_58 gw_809) rfl rfl rfl hd_X8_in ⟨Nat.le_of_ble_eq_true rfl, Nat.le_of_ble_eq_true rfl⟩) hK hA hw [] (by decide) rfl rfl [none, none] rfl (by decide) hl.1 rfl rfl (lv_room (Nat.le_of_ble_eq_true rfl)) ⟨Nat.zero_le _, Nat.zero_le _⟩ dX8_ink_4 (fun H locs hw => ?_)
  replace hw : zW D A s H locs (wd_X8_ink cI cJ cZ a_this a_this_board a_this_area a_this_x0 a_this_y0 a_this_x1 a_this_y1 a_this_head a_this_said a_this_low a_this_high a_this_least a_this_price a_this_way a_this_lineFirst a_this_lineLast a_this_left a_this_pile a_this_rest a_this_read a_this_measure a_this_wentBack v_this_run v_this_signs v_this_lastSigns v_this_dirt v_this_time v_this_lineMany v_this_notSign v_this_notKind v_this_measureMany f_this_board) := hw
  refine z_if_eq S (tgt := 46) h dX8_ink_7 (by decide) (fun h => ?_) (fun h => ?_)
  · refine lv_bipush (v := (-2)) S.1 S.2.1 dX8_ink_46 (by decide) ?_
    exact ret ((-2), v_this_signs, f_this_board) h 48 ls _ _ dX8_ink_48 hw
  · refine lv_iload S.1 S.2.1 dX8_ink_10 (lv_at hl 4 rfl) ?_
    refine lv_iconst (v := 1) S.1 S.2.1 dX8_ink_12 (by decide) ?_
    refine lv_bipush (v := 32) S.1 S.2.1 dX8_ink_13 (by decide) ?_
    obtain ⟨y2, hc, h⟩ := z_b1_e h
    refine z_callSi (As := [.int i4, .int 1, .int 32]) (rest := []) S (c_X8_in l D cI cJ cZ i4 1 32 _ hc) (va_cwS 3 S.2.2.2.2 (gw_S gw_807 gw_808 gw_58 gw_809) rfl rfl rfl hd_X8_in ⟨Nat.le_of_ble_eq_true rfl, Nat.le_of_ble_eq_true rfl⟩) hK hA hw [] (by decide) rfl rfl [none, none] rfl (by decide) hl.1 rfl rfl (lv_room (Nat.le_of_ble_eq_true rfl)) ⟨Nat.zero_le _, Nat.zero_le _⟩ dX8_ink_15 (fun H locs hw => ?_)
    replace hw : zW D A s H locs (wd_X8_ink cI cJ cZ a_this a_this_board a_this_area a_this_x0 a_this_y0 a_this_x1 a_this_y1 a_this_head a_this_said a_this_low a_this_high a_this_least a_this_price a_this_way a_this_lineFirst a_this_lineLast a_this_left a_this_pile a_this_rest a_this_read a_this_measure a_this_wentBack v_this_run v_this_signs v_this_lastSigns v_this_dirt v_this_time v_this_lineMany v_this_notSign v_this_notKind v_this_measureMany f_this_board) := hw
    refine z_if_eq S (tgt := 46) h dX8_ink_18 (by decide) (fun h => ?_) (fun h => ?_)
    · refine lv_bipush (v := (-2)) S.1 S.2.1 dX8_ink_46 (by decide) ?_
      exact ret ((-2), v_this_signs, f_this_board) h 48 ls _ _ dX8_ink_48 hw
    · refine lv_iload_n S.1 S.2.1 dX8_ink_21 rfl (lv_at hl 1 rfl) ?_
      refine lv_iconst (v := 0) S.1 S.2.1 dX8_ink_22 (by decide) ?_
      refine lv_bipush (v := 60) S.1 S.2.1 dX8_ink_23 (by decide) ?_
      refine lv_iload_n S.1 S.2.1 dX8_ink_25 rfl (lv_at hl 3 rfl) ?_
      refine lv_isub S.1 S.2.1 dX8_ink_26 ?_
      obtain ⟨y3, hc, h⟩ := z_b1_e h
      refine z_callSi (As := [.int i1, .int 0, .int (60 - i3)]) (rest := []) S (c_X8_in l D cI cJ cZ i1 0 (60 - i3) _ hc) (va_cwS 3 S.2.2.2.2 (gw_S gw_807 gw_808 gw_58 gw_809) rfl rfl rfl hd_X8_in ⟨Nat.le_of_ble_eq_true rfl, Nat.le_of_ble_eq_true rfl⟩) hK hA hw [] (by decide) rfl rfl [none, none] rfl (by decide) hl.1 rfl rfl (lv_room (Nat.le_of_ble_eq_true rfl)) ⟨Nat.zero_le _, Nat.zero_le _⟩ dX8_ink_27 (fun H locs hw => ?_)
      replace hw : zW D A s H locs (wd_X8_ink cI cJ cZ a_this a_this_board a_this_area a_this_x0 a_this_y0 a_this_x1 a_this_y1 a_this_head a_this_said a_this_low a_this_high a_this_least a_this_price a_this_way a_this_lineFirst a_this_lineLast a_this_left a_this_pile a_this_rest a_this_read a_this_measure a_this_wentBack v_this_run v_this_signs v_this_lastSigns v_this_dirt v_this_time v_this_lineMany v_this_notSign v_this_notKind v_this_measureMany f_this_board) := hw
      refine z_if_eq S (tgt := 46) h dX8_ink_30 (by decide) (fun h => ?_) (fun h => ?_)
      · refine lv_bipush (v := (-2)) S.1 S.2.1 dX8_ink_46 (by decide) ?_
        exact ret ((-2), v_this_signs, f_this_board) h 48 ls _ _ dX8_ink_48 hw
      · refine lv_iload_n S.1 S.2.1 dX8_ink_33 rfl (lv_at hl 2 rfl) ?_
        refine lv_iconst (v := 0) S.1 S.2.1 dX8_ink_34 (by decide) ?_
        refine lv_bipush (v := 32) S.1 S.2.1 dX8_ink_35 (by decide) ?_
        refine lv_iload S.1 S.2.1 dX8_ink_37 (lv_at hl 4 rfl) ?_
        refine lv_isub S.1 S.2.1 dX8_ink_39 ?_
        obtain ⟨y4, hc, h⟩ := z_b1_e h
        refine z_callSi (As := [.int i2, .int 0, .int (32 - i4)]) (rest := []) S (c_X8_in l D cI cJ cZ i2 0 (32 - i4) _ hc) (va_cwS 3 S.2.2.2.2 (gw_S gw_807 gw_808 gw_58 gw_809) rfl rfl rfl hd_X8_in ⟨Nat.le_of_ble_eq_true rfl, Nat.le_of_ble_eq_true rfl⟩) hK hA hw [] (by decide) rfl rfl [none, none] rfl (by decide) hl.1 rfl rfl (lv_room (Nat.le_of_ble_eq_true rfl)) ⟨Nat.zero_le _, Nat.zero_le _⟩ dX8_ink_40 (fun H locs hw => ?_)
        replace hw : zW D A s H locs (wd_X8_ink cI cJ cZ a_this a_this_board a_this_area a_this_x0 a_this_y0 a_this_x1 a_this_y1 a_this_head a_this_said a_this_low a_this_high a_this_least a_this_price a_this_way a_this_lineFirst a_this_lineLast a_this_left a_this_pile a_this_rest a_this_read a_this_measure a_this_wentBack v_this_run v_this_signs v_this_lastSigns v_this_dirt v_this_time v_this_lineMany v_this_notSign v_this_notKind v_this_measureMany f_this_board) := hw
        refine z_if_ne S (tgt := 49) h dX8_ink_43 (by decide) (fun h => ?_) (fun h => ?_)
        · refine lv_iconst (v := 0) S.1 S.2.1 dX8_ink_49 (by decide) ?_
          refine lv_istore (lv' := [(6, .int 0), (0, .ref a_this), (1, .int i1), (2, .int i2), (3, .int i3), (4, .int i4), (5, .int i5)]) S.1 S.2.1 dX8_ink_50 hl (by decide) rfl (fun ls hl => ?_)
          refine lv_iload_n S.1 S.2.1 dX8_ink_52 rfl (lv_at hl 3 rfl) ?_
          refine lv_istore (lv' := [(7, .int i2), (6, .int 0), (0, .ref a_this), (1, .int i1), (2, .int i2), (3, .int i3), (4, .int i4), (5, .int i5)]) S.1 S.2.1 dX8_ink_53 hl (by decide) rfl (fun ls hl => ?_)
          have L_55 : ∀ (n55_7 : Nat) (f5 : Nat → Int64) (x6 : Int32) (x7 : Int32) (h : z_lp3 (p_X8_ink_l55 i2 i4 i1 i3 i5 K) n55_7 f5 x6 x7 = some o) (H : Heap) (locs : List Loc) (ls : Array Slot), zW D A s H locs (wd_X8_ink cI cJ cZ a_this a_this_board a_this_area a_this_x0 a_this_y0 a_this_x1 a_this_y1 a_this_head a_this_said a_this_low a_this_high a_this_least a_this_price a_this_way a_this_lineFirst a_this_lineLast a_this_left a_this_pile a_this_rest a_this_read a_this_measure a_this_wentBack v_this_run v_this_signs v_this_lastSigns v_this_dirt v_this_time v_this_lineMany v_this_notSign v_this_notKind v_this_measureMany f5) → lv_has ls 9 [(0, .ref a_this), (1, .int i1), (2, .int i2), (3, .int i3), (4, .int i4), (5, .int i5), (6, .int x6), (7, .int x7)] → W p l e (headSpec gs_X8_ink rm_X8_ink).room s m args below meth c H locs 0 0 Q (F0 m 55 ls []) := by
            intro n55_7
            induction n55_7 with
            | zero => intro f5 x6 x7 h; exact z_no h
            | succ n55_7 ih_55 =>
              intro f5 x6 x7 h H locs ls hw hl
              replace h : (p_X8_ink_l55 i2 i4 i1 i3 i5 K) (z_lp3 (p_X8_ink_l55 i2 i4 i1 i3 i5 K) n55_7) f5 x6 x7 = some o := h
              refine lv_iload S.1 S.2.1 dX8_ink_55 (lv_at hl 7 rfl) ?_
              refine lv_iload_n S.1 S.2.1 dX8_ink_57 rfl (lv_at hl 2 rfl) ?_
              refine lv_iload S.1 S.2.1 dX8_ink_58 (lv_at hl 4 rfl) ?_
              refine lv_iadd S.1 S.2.1 dX8_ink_60 ?_
              refine z_icmp_ge S (tgt := 117) h dX8_ink_61 (by decide) (fun h => ?_) (fun h => ?_)
              · refine lv_aload_n S.1 S.2.1 dX8_ink_117 rfl (lv_at hl 0 rfl) ?_
                refine lv_iconst (v := (-1)) S.1 S.2.1 dX8_ink_118 (by decide) ?_
                refine z_put S (C := RX8) (T := TX8) (N := 30) (gi gu_X8) tyX8 tyX8_ok nmX8 hK hw 0 rfl rfl 2 (Nat.le_of_ble_eq_true rfl) (List.mem_cons_of_mem _ gw_713) rfl rfl rfl (Nat.le_of_ble_eq_true rfl) dX8_ink_119 (fun H locs hw => ?_)
                replace hw : zW D A s H locs (wd_X8_ink cI cJ cZ a_this a_this_board a_this_area a_this_x0 a_this_y0 a_this_x1 a_this_y1 a_this_head a_this_said a_this_low a_this_high a_this_least a_this_price a_this_way a_this_lineFirst a_this_lineLast a_this_left a_this_pile a_this_rest a_this_read a_this_measure a_this_wentBack v_this_run (-1) v_this_lastSigns v_this_dirt v_this_time v_this_lineMany v_this_notSign v_this_notKind v_this_measureMany f5) := hw
                refine lv_iload S.1 S.2.1 dX8_ink_122 (lv_at hl 6 rfl) ?_
                exact ret (x6, (-1), f5) h 124 ls _ _ dX8_ink_124 hw
              · refine lv_iload_n S.1 S.2.1 dX8_ink_64 rfl (lv_at hl 1 rfl) ?_
                refine lv_istore (lv' := [(8, .int i1), (0, .ref a_this), (1, .int i1), (2, .int i2), (3, .int i3), (4, .int i4), (5, .int i5), (6, .int x6), (7, .int x7)]) S.1 S.2.1 dX8_ink_65 hl (by decide) rfl (fun ls hl => ?_)
                have L_67 : ∀ (n67_10 : Nat) (f8 : Nat → Int64) (x9 : Int32) (x10 : Int32) (h : z_lp3 (p_X8_ink_l67 i1 i3 x7 i5 (z_lp3 (p_X8_ink_l55 i2 i4 i1 i3 i5 K) n55_7)) n67_10 f8 x9 x10 = some o) (H : Heap) (locs : List Loc) (ls : Array Slot), zW D A s H locs (wd_X8_ink cI cJ cZ a_this a_this_board a_this_area a_this_x0 a_this_y0 a_this_x1 a_this_y1 a_this_head a_this_said a_this_low a_this_high a_this_least a_this_price a_this_way a_this_lineFirst a_this_lineLast a_this_left a_this_pile a_this_rest a_this_read a_this_measure a_this_wentBack v_this_run v_this_signs v_this_lastSigns v_this_dirt v_this_time v_this_lineMany v_this_notSign v_this_notKind v_this_measureMany f8) → lv_has ls 9 [(0, .ref a_this), (1, .int i1), (2, .int i2), (3, .int i3), (4, .int i4), (5, .int i5), (6, .int x9), (7, .int x7), (8, .int x10)] → W p l e (headSpec gs_X8_ink rm_X8_ink).room s m args below meth c H locs 0 0 Q (F0 m 67 ls []) := by
                  intro n67_10
                  induction n67_10 with
                  | zero => intro f8 x9 x10 h; exact z_no h
                  | succ n67_10 ih_67 =>
                    intro f8 x9 x10 h H locs ls hw hl
                    replace h : (p_X8_ink_l67 i1 i3 x7 i5 (z_lp3 (p_X8_ink_l55 i2 i4 i1 i3 i5 K) n55_7)) (z_lp3 (p_X8_ink_l67 i1 i3 x7 i5 (z_lp3 (p_X8_ink_l55 i2 i4 i1 i3 i5 K) n55_7)) n67_10) f8 x9 x10 = some o := h
                    refine lv_iload S.1 S.2.1 dX8_ink_67 (lv_at hl 8 rfl) ?_
                    refine lv_iload_n S.1 S.2.1 dX8_ink_69 rfl (lv_at hl 1 rfl) ?_
                    refine lv_iload_n S.1 S.2.1 dX8_ink_70 rfl (lv_at hl 3 rfl) ?_
                    refine lv_iadd S.1 S.2.1 dX8_ink_71 ?_
                    refine z_icmp_ge S (tgt := 111) h dX8_ink_72 (by decide) (fun h => ?_) (fun h => ?_)
                    · refine z_iinc S (i := 7) (k := 7) (v := x7 + 1) hl rfl (by decide) rfl (fun v => (7, .int v) :: [(0, .ref a_this), (1, .int i1), (2, .int i2), (3, .int i3), (4, .int i4), (5, .int i5), (6, .int x9), (8, .int x10)]) (fun _ => rfl) h dX8_ink_111 (fun y11 ls hl h => ?_)
                      replace hl : lv_has ls 9 [(7, .int y11), (0, .ref a_this), (1, .int i1), (2, .int i2), (3, .int i3), (4, .int i4), (5, .int i5), (6, .int x9), (8, .int x10)] := hl
                      refine lv_goto (tgt := 55) S.1 S.2.1 dX8_ink_114 (by decide) ?_
                      exact ih_55 f8 x9 y11 h _ _ ls hw (lv_sub hl [1, 2, 3, 4, 5, 6, 7, 0] rfl)
                    · refine lv_aload_n S.1 S.2.1 dX8_ink_75 rfl (lv_at hl 0 rfl) ?_
                      refine lv_iload S.1 S.2.1 dX8_ink_76 (lv_at hl 8 rfl) ?_
                      refine lv_iload S.1 S.2.1 dX8_ink_78 (lv_at hl 7 rfl) ?_
                      obtain ⟨y12, hc, h⟩ := z_b1_e h
                      refine z_callVi (As := [.int x10, .int x7]) (rest := []) S (c_X8_isBlack l D cI cJ cZ a_this a_this_board a_this_area a_this_x0 a_this_y0 a_this_x1 a_this_y1 a_this_head a_this_said a_this_low a_this_high a_this_least a_this_price a_this_way a_this_lineFirst a_this_lineLast a_this_left a_this_pile a_this_rest a_this_read a_this_measure a_this_wentBack v_this_run v_this_signs v_this_lastSigns v_this_dirt v_this_time v_this_lineMany v_this_notSign v_this_notKind v_this_measureMany f8 x10 x7 _ hc) (cwV 2 S.2.2.2.2 (gw_V gw_817 gw_819 gw_30 gw_58 gw_820) rfl rfl rfl hd_X8_isBlack ⟨Nat.le_of_ble_eq_true rfl, Nat.le_of_ble_eq_true rfl⟩) hK hA hw [0, 1] (by decide) rfl rfl [some 0, some 1] rfl (by decide) 0 rfl rfl hl.1 rfl rfl (lv_room (Nat.le_of_ble_eq_true rfl)) ⟨Nat.zero_le _, Nat.zero_le _⟩ dX8_ink_80 (fun H locs hw => ?_)
                      replace hw : zW D A s H locs (wd_X8_ink cI cJ cZ a_this a_this_board a_this_area a_this_x0 a_this_y0 a_this_x1 a_this_y1 a_this_head a_this_said a_this_low a_this_high a_this_least a_this_price a_this_way a_this_lineFirst a_this_lineLast a_this_left a_this_pile a_this_rest a_this_read a_this_measure a_this_wentBack v_this_run v_this_signs v_this_lastSigns v_this_dirt v_this_time v_this_lineMany v_this_notSign v_this_notKind v_this_measureMany f8) := hw
                      refine lv_iload S.1 S.2.1 dX8_ink_83 (lv_at hl 5 rfl) ?_
                      refine z_icmp_eq S (tgt := 105) h dX8_ink_85 (by decide) (fun h => ?_) (fun h => ?_)
                      · refine z_iinc S (i := 8) (k := 8) (v := x10 + 1) hl rfl (by decide) rfl (fun v => (8, .int v) :: [(0, .ref a_this), (1, .int i1), (2, .int i2), (3, .int i3), (4, .int i4), (5, .int i5), (6, .int x9), (7, .int x7)]) (fun _ => rfl) h dX8_ink_105 (fun y13 ls hl h => ?_)
                        replace hl : lv_has ls 9 [(8, .int y13), (0, .ref a_this), (1, .int i1), (2, .int i2), (3, .int i3), (4, .int i4), (5, .int i5), (6, .int x9), (7, .int x7)] := hl
                        refine lv_goto (tgt := 67) S.1 S.2.1 dX8_ink_108 (by decide) ?_
                        exact ih_67 f8 x9 y13 h _ _ ls hw (lv_sub hl [1, 2, 3, 4, 5, 6, 7, 8, 0] rfl)
                      · refine lv_aload_n S.1 S.2.1 dX8_ink_88 rfl (lv_at hl 0 rfl) ?_
                        refine z_get S (C := RX8) (T := TX8) (N := 30) (gi gu_X8) hK hw 0 rfl rfl 0 (Nat.le_of_ble_eq_true rfl) (List.mem_cons_of_mem _ gw_711) rfl dX8_ink_89 ?_
                        refine lv_iload S.1 S.2.1 dX8_ink_92 (lv_at hl 7 rfl) ?_
                        refine lv_dup2_11 S.1 S.2.1 dX8_ink_94 rfl rfl ?_
                        refine z_lald S hK hw 1 1 rfl rfl h dX8_ink_95 (fun y14 h => ?_)
                        refine lv_lconst (v := 1) S.1 S.2.1 dX8_ink_96 (by decide) ?_
                        refine lv_iload S.1 S.2.1 dX8_ink_97 (lv_at hl 8 rfl) ?_
                        refine lv_lshl (v := (((1 : Int64) <<< (x10.toInt64 &&& 63)))) S.1 S.2.1 dX8_ink_99 rfl ?_
                        refine lv_lxor S.1 S.2.1 dX8_ink_100 ?_
                        refine z_last S hK hw 1 1 rfl rfl h dX8_ink_101 (fun f15 H locs hw h => ?_)
                        replace hw : zW D A s H locs (wd_X8_ink cI cJ cZ a_this a_this_board a_this_area a_this_x0 a_this_y0 a_this_x1 a_this_y1 a_this_head a_this_said a_this_low a_this_high a_this_least a_this_price a_this_way a_this_lineFirst a_this_lineLast a_this_left a_this_pile a_this_rest a_this_read a_this_measure a_this_wentBack v_this_run v_this_signs v_this_lastSigns v_this_dirt v_this_time v_this_lineMany v_this_notSign v_this_notKind v_this_measureMany f15) := hw
                        refine z_iinc S (i := 6) (k := 6) (v := x9 + 1) hl rfl (by decide) rfl (fun v => (6, .int v) :: [(0, .ref a_this), (1, .int i1), (2, .int i2), (3, .int i3), (4, .int i4), (5, .int i5), (7, .int x7), (8, .int x10)]) (fun _ => rfl) h dX8_ink_102 (fun y16 ls hl h => ?_)
                        replace hl : lv_has ls 9 [(6, .int y16), (0, .ref a_this), (1, .int i1), (2, .int i2), (3, .int i3), (4, .int i4), (5, .int i5), (7, .int x7), (8, .int x10)] := hl
                        refine z_iinc S (i := 8) (k := 8) (v := x10 + 1) hl rfl (by decide) rfl (fun v => (8, .int v) :: [(6, .int y16), (0, .ref a_this), (1, .int i1), (2, .int i2), (3, .int i3), (4, .int i4), (5, .int i5), (7, .int x7)]) (fun _ => rfl) h dX8_ink_105 (fun y17 ls hl h => ?_)
                        replace hl : lv_has ls 9 [(8, .int y17), (6, .int y16), (0, .ref a_this), (1, .int i1), (2, .int i2), (3, .int i3), (4, .int i4), (5, .int i5), (7, .int x7)] := hl
                        refine lv_goto (tgt := 67) S.1 S.2.1 dX8_ink_108 (by decide) ?_
                        exact ih_67 f15 y16 y17 h _ _ ls hw (lv_sub hl [2, 3, 4, 5, 6, 7, 1, 8, 0] rfl)
                exact L_67 K f5 x6 i1 h _ _ ls hw (lv_sub hl [1, 2, 3, 4, 5, 6, 7, 8, 0] rfl)
          exact L_55 K f_this_board 0 i2 h _ _ ls hw (lv_sub hl [2, 3, 4, 5, 6, 7, 1, 0] rfl)
        · refine lv_bipush (v := (-2)) S.1 S.2.1 dX8_ink_46 (by decide) ?_
          exact ret ((-2), v_this_signs, f_this_board) h 48 ls _ _ dX8_ink_48 hw
theorem gw_712 : Cond.fieldLink RX8 13 "ScoreReaderModel" "run" "I" ∈ GW := GW_of 712 (by decide +kernel) (by decide +kernel)
def gs_X8_run : List Cond := Cond.code yX8_run cX8_run 3 (some .int) :: GW
def wd_X8_run (cI cJ cZ : ClassId) (a_this a_this_board a_this_area a_this_x0 a_this_y0 a_this_x1 a_this_y1 a_this_head a_this_said a_this_low a_this_high a_this_least a_this_price a_this_way a_this_lineFirst a_this_lineLast a_this_left a_this_pile a_this_rest a_this_read a_this_measure a_this_wentBack : Nat) (v_this_run : Int32) (v_this_signs : Int32) (v_this_lastSigns : Int32) (v_this_dirt : Int32) (v_this_time : Int32) (v_this_lineMany : Int32) (v_this_notSign : Int32) (v_this_notKind : Int32) (v_this_measureMany : Int32) : va_W := [(a_this, .inr (8, [.ref a_this_board, .int v_this_run, .int v_this_signs, .int v_this_lastSigns, .ref a_this_area, .ref a_this_x0, .ref a_this_y0, .ref a_this_x1, .ref a_this_y1, .ref a_this_head, .ref a_this_said, .ref a_this_low, .ref a_this_high, .ref a_this_least, .ref a_this_price, .int v_this_dirt, .int v_this_time, .ref a_this_way, .int v_this_lineMany, .ref a_this_lineFirst, .ref a_this_lineLast, .ref a_this_left, .ref a_this_pile, .ref a_this_rest, .int v_this_notSign, .int v_this_notKind, .ref a_this_read, .ref a_this_measure, .int v_this_measureMany, .ref a_this_wentBack]))]
abbrev rm_X8_run : Room := { frames := 1, cells := 0, slots := 0, locals := 22 }
theorem hd_X8_run : yX8_run.cls = RX8 ∧ yX8_run.cls ≠ "java/lang/invoke/MethodHandle" ∧ yX8_run.cls ≠ "java/lang/invoke/VarHandle" ∧ (parseMethodDescriptor yX8_run.desc).map (fun d => d.parameters.length) = some 1 := by decide +kernel
set_option maxHeartbeats 4000000 in
set_option maxRecDepth 100000 in
theorem c_X8_run (l : Launch) (D : va_G) (cI cJ cZ : ClassId) (a_this a_this_board a_this_area a_this_x0 a_this_y0 a_this_x1 a_this_y1 a_this_head a_this_said a_this_low a_this_high a_this_least a_this_price a_this_way a_this_lineFirst a_this_lineLast a_this_left a_this_pile a_this_rest a_this_read a_this_measure a_this_wentBack : Nat) (v_this_run : Int32) (v_this_signs : Int32) (v_this_lastSigns : Int32) (v_this_dirt : Int32) (v_this_time : Int32) (v_this_lineMany : Int32) (v_this_notSign : Int32) (v_this_notKind : Int32) (v_this_measureMany : Int32) (i1 : Int32) (o : Int32 × Int32 × Int32) (h : p_X8_run v_this_run v_this_signs i1 = some o) : zMi l D (zT cI cJ cZ) yX8_run gs_X8_run rm_X8_run [.ref a_this, .int i1] (wd_X8_run cI cJ cZ a_this a_this_board a_this_area a_this_x0 a_this_y0 a_this_x1 a_this_y1 a_this_head a_this_said a_this_low a_this_high a_this_least a_this_price a_this_way a_this_lineFirst a_this_lineLast a_this_left a_this_pile a_this_rest a_this_read a_this_measure a_this_wentBack v_this_run v_this_signs v_this_lastSigns v_this_dirt v_this_time v_this_lineMany v_this_notSign v_this_notKind v_this_measureMany) (wd_X8_run cI cJ cZ a_this a_this_board a_this_area a_this_x0 a_this_y0 a_this_x1 a_this_y1 a_this_head a_this_said a_this_low a_this_high a_this_least a_this_price a_this_way a_this_lineFirst a_this_lineLast a_this_left a_this_pile a_this_rest a_this_read a_this_measure a_this_wentBack (o.2.1) (o.2.2) v_this_lastSigns v_this_dirt v_this_time v_this_lineMany v_this_notSign v_this_notKind v_this_measureMany) (o.1) := by
  refine zMet_i (own := RX8) (fun u : Int32 × Int32 × Int32 => (wd_X8_run cI cJ cZ a_this a_this_board a_this_area a_this_x0 a_this_y0 a_this_x1 a_this_y1 a_this_head a_this_said a_this_low a_this_high a_this_least a_this_price a_this_way a_this_lineFirst a_this_lineLast a_this_left a_this_pile a_this_rest a_this_read a_this_measure a_this_wentBack (u.2.1) (u.2.2) v_this_lastSigns v_this_dirt v_this_time v_this_lineMany v_this_notSign v_this_notKind v_this_measureMany)) (fun u : Int32 × Int32 × Int32 => u.1) (by decide) rfl rfl (Nat.le_of_ble_eq_true rfl) ?_
  intro p e s m args below meth c A Q S hK hA hw ret ls hl
  replace hl : lv_has ls 3 [(0, .ref a_this), (1, .int i1)] := hl
  refine lv_iload_n S.1 S.2.1 dX8_run_0 rfl (lv_at hl 1 rfl) ?_
  refine lv_bipush (v := 10) S.1 S.2.1 dX8_run_1 (by decide) ?_
  refine lv_bipush (v := 60) S.1 S.2.1 dX8_run_3 (by decide) ?_
  obtain ⟨y1, hc, h⟩ := z_b1_e h
  refine z_callSi (As := [.int i1, .int 10, .int 60]) (rest := []) S (c_X8_in l D cI cJ cZ i1 10 60 _ hc) (va_cwS 3 S.2.2.2.2 (gw_S gw_807 gw_808 gw_58 gw_809) rfl rfl rfl hd_X8_in ⟨Nat.le_of_ble_eq_true rfl, Nat.le_of_ble_eq_true rfl⟩) hK hA hw [] (by decide) rfl rfl [none] rfl (by decide) hl.1 rfl rfl (lv_room (Nat.le_of_ble_eq_true rfl)) ⟨Nat.zero_le _, Nat.zero_le _⟩ dX8_run_5 (fun H locs hw => ?_)
  replace hw : zW D A s H locs (wd_X8_run cI cJ cZ a_this a_this_board a_this_area a_this_x0 a_this_y0 a_this_x1 a_this_y1 a_this_head a_this_said a_this_low a_this_high a_this_least a_this_price a_this_way a_this_lineFirst a_this_lineLast a_this_left a_this_pile a_this_rest a_this_read a_this_measure a_this_wentBack v_this_run v_this_signs v_this_lastSigns v_this_dirt v_this_time v_this_lineMany v_this_notSign v_this_notKind v_this_measureMany) := hw
  refine z_if_ne S (tgt := 14) h dX8_run_8 (by decide) (fun h => ?_) (fun h => ?_)
  · refine lv_aload_n S.1 S.2.1 dX8_run_14 rfl (lv_at hl 0 rfl) ?_
    refine z_get S (C := RX8) (T := TX8) (N := 30) (gi gu_X8) hK hw 0 rfl rfl 1 (Nat.le_of_ble_eq_true rfl) (List.mem_cons_of_mem _ gw_712) rfl dX8_run_15 ?_
    refine lv_istore_n (lv' := [(2, .int v_this_run), (0, .ref a_this), (1, .int i1)]) S.1 S.2.1 dX8_run_18 rfl hl (by decide) rfl (fun ls hl => ?_)
    refine lv_aload_n S.1 S.2.1 dX8_run_19 rfl (lv_at hl 1 rfl) ?_
    refine lv_iload_n S.1 S.2.1 dX8_run_20 rfl (lv_at hl 2 rfl) ?_
    refine z_put S (C := RX8) (T := TX8) (N := 30) (gi gu_X8) tyX8 tyX8_ok nmX8 hK hw 0 rfl rfl 1 (Nat.le_of_ble_eq_true rfl) (List.mem_cons_of_mem _ gw_712) rfl rfl rfl (Nat.le_of_ble_eq_true rfl) dX8_run_21 (fun H locs hw => ?_)
    replace hw : zW D A s H locs (wd_X8_run cI cJ cZ a_this a_this_board a_this_area a_this_x0 a_this_y0 a_this_x1 a_this_y1 a_this_head a_this_said a_this_low a_this_high a_this_least a_this_price a_this_way a_this_lineFirst a_this_lineLast a_this_left a_this_pile a_this_rest a_this_read a_this_measure a_this_wentBack i1 v_this_signs v_this_lastSigns v_this_dirt v_this_time v_this_lineMany v_this_notSign v_this_notKind v_this_measureMany) := hw
    refine lv_aload_n S.1 S.2.1 dX8_run_24 rfl (lv_at hl 1 rfl) ?_
    refine lv_iconst (v := (-1)) S.1 S.2.1 dX8_run_25 (by decide) ?_
    refine z_put S (C := RX8) (T := TX8) (N := 30) (gi gu_X8) tyX8 tyX8_ok nmX8 hK hw 0 rfl rfl 2 (Nat.le_of_ble_eq_true rfl) (List.mem_cons_of_mem _ gw_713) rfl rfl rfl (Nat.le_of_ble_eq_true rfl) dX8_run_26 (fun H locs hw => ?_)
    replace hw : zW D A s H locs (wd_X8_run cI cJ cZ a_this a_this_board a_this_area a_this_x0 a_this_y0 a_this_x1 a_this_y1 a_this_head a_this_said a_this_low a_this_high a_this_least a_this_price a_this_way a_this_lineFirst a_this_lineLast a_this_left a_this_pile a_this_rest a_this_read a_this_measure a_this_wentBack i1 (-1) v_this_lastSigns v_this_dirt v_this_time v_this_lineMany v_this_notSign v_this_notKind v_this_measureMany) := hw
    refine lv_iload_n S.1 S.2.1 dX8_run_29 rfl (lv_at hl 0 rfl) ?_
    exact ret (v_this_run, i1, (-1)) h 30 ls _ _ dX8_run_30 hw
  · refine lv_bipush (v := (-2)) S.1 S.2.1 dX8_run_11 (by decide) ?_
    exact ret ((-2), v_this_run, v_this_signs) h 13 ls _ _ dX8_run_13 hw
def gs_X8_dot : List Cond := Cond.code yX8_dot cX8_dot 3 (some .int) :: GW
def wd_X8_dot (cI cJ cZ : ClassId) (a_this a_this_board a_this_area a_this_x0 a_this_y0 a_this_x1 a_this_y1 a_this_head a_this_said a_this_low a_this_high a_this_least a_this_price a_this_way a_this_lineFirst a_this_lineLast a_this_left a_this_pile a_this_rest a_this_read a_this_measure a_this_wentBack : Nat) (v_this_run : Int32) (v_this_signs : Int32) (v_this_lastSigns : Int32) (v_this_dirt : Int32) (v_this_time : Int32) (v_this_lineMany : Int32) (v_this_notSign : Int32) (v_this_notKind : Int32) (v_this_measureMany : Int32) (f_this_board : Nat → Int64) : va_W := [(a_this, .inr (8, [.ref a_this_board, .int v_this_run, .int v_this_signs, .int v_this_lastSigns, .ref a_this_area, .ref a_this_x0, .ref a_this_y0, .ref a_this_x1, .ref a_this_y1, .ref a_this_head, .ref a_this_said, .ref a_this_low, .ref a_this_high, .ref a_this_least, .ref a_this_price, .int v_this_dirt, .int v_this_time, .ref a_this_way, .int v_this_lineMany, .ref a_this_lineFirst, .ref a_this_lineLast, .ref a_this_left, .ref a_this_pile, .ref a_this_rest, .int v_this_notSign, .int v_this_notKind, .ref a_this_read, .ref a_this_measure, .int v_this_measureMany, .ref a_this_wentBack])), (a_this_board, .inl (cJ, 32, .inr (.inl f_this_board)))]
abbrev rm_X8_dot : Room := { frames := 2, cells := 0, slots := 0, locals := 44 }
theorem hd_X8_dot : yX8_dot.cls = RX8 ∧ yX8_dot.cls ≠ "java/lang/invoke/MethodHandle" ∧ yX8_dot.cls ≠ "java/lang/invoke/VarHandle" ∧ (parseMethodDescriptor yX8_dot.desc).map (fun d => d.parameters.length) = some 2 := by decide +kernel
set_option maxHeartbeats 4000000 in
set_option maxRecDepth 100000 in
theorem c_X8_dot (l : Launch) (D : va_G) (cI cJ cZ : ClassId) (a_this a_this_board a_this_area a_this_x0 a_this_y0 a_this_x1 a_this_y1 a_this_head a_this_said a_this_low a_this_high a_this_least a_this_price a_this_way a_this_lineFirst a_this_lineLast a_this_left a_this_pile a_this_rest a_this_read a_this_measure a_this_wentBack : Nat) (v_this_run : Int32) (v_this_signs : Int32) (v_this_lastSigns : Int32) (v_this_dirt : Int32) (v_this_time : Int32) (v_this_lineMany : Int32) (v_this_notSign : Int32) (v_this_notKind : Int32) (v_this_measureMany : Int32) (f_this_board : Nat → Int64) (i1 : Int32) (i2 : Int32) (o : Int32) (h : p_X8_dot f_this_board i1 i2 = some o) : zMi l D (zT cI cJ cZ) yX8_dot gs_X8_dot rm_X8_dot [.ref a_this, .int i1, .int i2] (wd_X8_dot cI cJ cZ a_this a_this_board a_this_area a_this_x0 a_this_y0 a_this_x1 a_this_y1 a_this_head a_this_said a_this_low a_this_high a_this_least a_this_price a_this_way a_this_lineFirst a_this_lineLast a_this_left a_this_pile a_this_rest a_this_read a_this_measure a_this_wentBack v_this_run v_this_signs v_this_lastSigns v_this_dirt v_this_time v_this_lineMany v_this_notSign v_this_notKind v_this_measureMany f_this_board) (wd_X8_dot cI cJ cZ a_this a_this_board a_this_area a_this_x0 a_this_y0 a_this_x1 a_this_y1 a_this_head a_this_said a_this_low a_this_high a_this_least a_this_price a_this_way a_this_lineFirst a_this_lineLast a_this_left a_this_pile a_this_rest a_this_read a_this_measure a_this_wentBack v_this_run v_this_signs v_this_lastSigns v_this_dirt v_this_time v_this_lineMany v_this_notSign v_this_notKind v_this_measureMany f_this_board) (o) := by
  refine zMet_i (own := RX8) (fun u : Int32 => (wd_X8_dot cI cJ cZ a_this a_this_board a_this_area a_this_x0 a_this_y0 a_this_x1 a_this_y1 a_this_head a_this_said a_this_low a_this_high a_this_least a_this_price a_this_way a_this_lineFirst a_this_lineLast a_this_left a_this_pile a_this_rest a_this_read a_this_measure a_this_wentBack v_this_run v_this_signs v_this_lastSigns v_this_dirt v_this_time v_this_lineMany v_this_notSign v_this_notKind v_this_measureMany f_this_board)) (fun u : Int32 => u) (by decide) rfl rfl (Nat.le_of_ble_eq_true rfl) ?_
  intro p e s m args below meth c A Q S hK hA hw ret ls hl
  replace hl : lv_has ls 3 [(0, .ref a_this), (1, .int i1), (2, .int i2)] := hl
  refine lv_iload_n S.1 S.2.1 dX8_dot_0 rfl (lv_at hl 1 rfl) ?_
  refine lv_iconst (v := 0) S.1 S.2.1 dX8_dot_1 (by decide) ?_
  refine lv_bipush (v := 59) S.1 S.2.1 dX8_dot_2 (by decide) ?_
  obtain ⟨y1, hc, h⟩ := z_b1_e h
  refine z_callSi (As := [.int i1, .int 0, .int 59]) (rest := []) S (c_X8_in l D cI cJ cZ i1 0 59 _ hc) (va_cwS 3 S.2.2.2.2 (gw_S gw_807 gw_808 gw_58 gw_809) rfl rfl rfl hd_X8_in ⟨Nat.le_of_ble_eq_true rfl, Nat.le_of_ble_eq_true rfl⟩) hK hA hw [] (by decide) rfl rfl [none, none] rfl (by decide) hl.1 rfl rfl (lv_room (Nat.le_of_ble_eq_true rfl)) ⟨Nat.zero_le _, Nat.zero_le _⟩ dX8_dot_4 (fun H locs hw => ?_)
  replace hw : zW D A s H locs (wd_X8_dot cI cJ cZ a_this a_this_board a_this_area a_this_x0 a_this_y0 a_this_x1 a_this_y1 a_this_head a_this_said a_this_low a_this_high a_this_least a_this_price a_this_way a_this_lineFirst a_this_lineLast a_this_left a_this_pile a_this_rest a_this_read a_this_measure a_this_wentBack v_this_run v_this_signs v_this_lastSigns v_this_dirt v_this_time v_this_lineMany v_this_notSign v_this_notKind v_this_measureMany f_this_board) := hw
  refine z_if_eq S (tgt := 20) h dX8_dot_7 (by decide) (fun h => ?_) (fun h => ?_)
  · refine lv_bipush (v := (-2)) S.1 S.2.1 dX8_dot_20 (by decide) ?_
    refine lv_goto (tgt := 39) S.1 S.2.1 dX8_dot_22 (by decide) ?_
    exact ret (-2) h 39 ls _ _ dX8_dot_39 hw
  · refine lv_iload_n S.1 S.2.1 dX8_dot_10 rfl (lv_at hl 2 rfl) ?_
    refine lv_iconst (v := 0) S.1 S.2.1 dX8_dot_11 (by decide) ?_
    refine lv_bipush (v := 31) S.1 S.2.1 dX8_dot_12 (by decide) ?_
    obtain ⟨y2, hc, h⟩ := z_b1_e h
    refine z_callSi (As := [.int i2, .int 0, .int 31]) (rest := []) S (c_X8_in l D cI cJ cZ i2 0 31 _ hc) (va_cwS 3 S.2.2.2.2 (gw_S gw_807 gw_808 gw_58 gw_809) rfl rfl rfl hd_X8_in ⟨Nat.le_of_ble_eq_true rfl, Nat.le_of_ble_eq_true rfl⟩) hK hA hw [] (by decide) rfl rfl [none, none] rfl (by decide) hl.1 rfl rfl (lv_room (Nat.le_of_ble_eq_true rfl)) ⟨Nat.zero_le _, Nat.zero_le _⟩ dX8_dot_14 (fun H locs hw => ?_)
    replace hw : zW D A s H locs (wd_X8_dot cI cJ cZ a_this a_this_board a_this_area a_this_x0 a_this_y0 a_this_x1 a_this_y1 a_this_head a_this_said a_this_low a_this_high a_this_least a_this_price a_this_way a_this_lineFirst a_this_lineLast a_this_left a_this_pile a_this_rest a_this_read a_this_measure a_this_wentBack v_this_run v_this_signs v_this_lastSigns v_this_dirt v_this_time v_this_lineMany v_this_notSign v_this_notKind v_this_measureMany f_this_board) := hw
    refine z_if_ne S (tgt := 25) h dX8_dot_17 (by decide) (fun h => ?_) (fun h => ?_)
    · refine lv_aload_n S.1 S.2.1 dX8_dot_25 rfl (lv_at hl 0 rfl) ?_
      refine lv_iload_n S.1 S.2.1 dX8_dot_26 rfl (lv_at hl 1 rfl) ?_
      refine lv_iload_n S.1 S.2.1 dX8_dot_27 rfl (lv_at hl 2 rfl) ?_
      obtain ⟨y3, hc, h⟩ := z_b1_e h
      refine z_callVi (As := [.int i1, .int i2]) (rest := []) S (c_X8_isBlack l D cI cJ cZ a_this a_this_board a_this_area a_this_x0 a_this_y0 a_this_x1 a_this_y1 a_this_head a_this_said a_this_low a_this_high a_this_least a_this_price a_this_way a_this_lineFirst a_this_lineLast a_this_left a_this_pile a_this_rest a_this_read a_this_measure a_this_wentBack v_this_run v_this_signs v_this_lastSigns v_this_dirt v_this_time v_this_lineMany v_this_notSign v_this_notKind v_this_measureMany f_this_board i1 i2 _ hc) (cwV 2 S.2.2.2.2 (gw_V gw_817 gw_819 gw_30 gw_58 gw_820) rfl rfl rfl hd_X8_isBlack ⟨Nat.le_of_ble_eq_true rfl, Nat.le_of_ble_eq_true rfl⟩) hK hA hw [0, 1] (by decide) rfl rfl [some 0, some 1] rfl (by decide) 0 rfl rfl hl.1 rfl rfl (lv_room (Nat.le_of_ble_eq_true rfl)) ⟨Nat.zero_le _, Nat.zero_le _⟩ dX8_dot_28 (fun H locs hw => ?_)
      replace hw : zW D A s H locs (wd_X8_dot cI cJ cZ a_this a_this_board a_this_area a_this_x0 a_this_y0 a_this_x1 a_this_y1 a_this_head a_this_said a_this_low a_this_high a_this_least a_this_price a_this_way a_this_lineFirst a_this_lineLast a_this_left a_this_pile a_this_rest a_this_read a_this_measure a_this_wentBack v_this_run v_this_signs v_this_lastSigns v_this_dirt v_this_time v_this_lineMany v_this_notSign v_this_notKind v_this_measureMany f_this_board) := hw
      refine z_if_eq S (tgt := 38) h dX8_dot_31 (by decide) (fun h => ?_) (fun h => ?_)
      · refine lv_iconst (v := 0) S.1 S.2.1 dX8_dot_38 (by decide) ?_
        exact ret 0 h 39 ls _ _ dX8_dot_39 hw
      · refine lv_iconst (v := 1) S.1 S.2.1 dX8_dot_34 (by decide) ?_
        refine lv_goto (tgt := 39) S.1 S.2.1 dX8_dot_35 (by decide) ?_
        exact ret 1 h 39 ls _ _ dX8_dot_39 hw
    · refine lv_bipush (v := (-2)) S.1 S.2.1 dX8_dot_20 (by decide) ?_
      refine lv_goto (tgt := 39) S.1 S.2.1 dX8_dot_22 (by decide) ?_
      exact ret (-2) h 39 ls _ _ dX8_dot_39 hw
def gs_X8_isRule : List Cond := Cond.code yX8_isRule cX8_isRule 5 (some .boolean) :: GW
def wd_X8_isRule (cI cJ cZ : ClassId) (a_this a_this_board a_this_area a_this_x0 a_this_y0 a_this_x1 a_this_y1 a_this_head a_this_said a_this_low a_this_high a_this_least a_this_price a_this_way a_this_lineFirst a_this_lineLast a_this_left a_this_pile a_this_rest a_this_read a_this_measure a_this_wentBack : Nat) (v_this_run : Int32) (v_this_signs : Int32) (v_this_lastSigns : Int32) (v_this_dirt : Int32) (v_this_time : Int32) (v_this_lineMany : Int32) (v_this_notSign : Int32) (v_this_notKind : Int32) (v_this_measureMany : Int32) (f_this_board : Nat → Int64) : va_W := [(a_this, .inr (8, [.ref a_this_board, .int v_this_run, .int v_this_signs, .int v_this_lastSigns, .ref a_this_area, .ref a_this_x0, .ref a_this_y0, .ref a_this_x1, .ref a_this_y1, .ref a_this_head, .ref a_this_said, .ref a_this_low, .ref a_this_high, .ref a_this_least, .ref a_this_price, .int v_this_dirt, .int v_this_time, .ref a_this_way, .int v_this_lineMany, .ref a_this_lineFirst, .ref a_this_lineLast, .ref a_this_left, .ref a_this_pile, .ref a_this_rest, .int v_this_notSign, .int v_this_notKind, .ref a_this_read, .ref a_this_measure, .int v_this_measureMany, .ref a_this_wentBack])), (a_this_board, .inl (cJ, 32, .inr (.inl f_this_board)))]
abbrev rm_X8_isRule : Room := { frames := 2, cells := 0, slots := 0, locals := 44 }
theorem hd_X8_isRule : yX8_isRule.cls = RX8 ∧ yX8_isRule.cls ≠ "java/lang/invoke/MethodHandle" ∧ yX8_isRule.cls ≠ "java/lang/invoke/VarHandle" ∧ (parseMethodDescriptor yX8_isRule.desc).map (fun d => d.parameters.length) = some 1 := by decide +kernel
set_option maxHeartbeats 4000000 in
set_option maxRecDepth 100000 in
theorem c_X8_isRule (l : Launch) (D : va_G) (cI cJ cZ : ClassId) (a_this a_this_board a_this_area a_this_x0 a_this_y0 a_this_x1 a_this_y1 a_this_head a_this_said a_this_low a_this_high a_this_least a_this_price a_this_way a_this_lineFirst a_this_lineLast a_this_left a_this_pile a_this_rest a_this_read a_this_measure a_this_wentBack : Nat) (v_this_run : Int32) (v_this_signs : Int32) (v_this_lastSigns : Int32) (v_this_dirt : Int32) (v_this_time : Int32) (v_this_lineMany : Int32) (v_this_notSign : Int32) (v_this_notKind : Int32) (v_this_measureMany : Int32) (f_this_board : Nat → Int64) (K : Nat) (i1 : Int32) (o : Int32) (h : p_X8_isRule K v_this_run f_this_board i1 = some o) : zMi l D (zT cI cJ cZ) yX8_isRule gs_X8_isRule rm_X8_isRule [.ref a_this, .int i1] (wd_X8_isRule cI cJ cZ a_this a_this_board a_this_area a_this_x0 a_this_y0 a_this_x1 a_this_y1 a_this_head a_this_said a_this_low a_this_high a_this_least a_this_price a_this_way a_this_lineFirst a_this_lineLast a_this_left a_this_pile a_this_rest a_this_read a_this_measure a_this_wentBack v_this_run v_this_signs v_this_lastSigns v_this_dirt v_this_time v_this_lineMany v_this_notSign v_this_notKind v_this_measureMany f_this_board) (wd_X8_isRule cI cJ cZ a_this a_this_board a_this_area a_this_x0 a_this_y0 a_this_x1 a_this_y1 a_this_head a_this_said a_this_low a_this_high a_this_least a_this_price a_this_way a_this_lineFirst a_this_lineLast a_this_left a_this_pile a_this_rest a_this_read a_this_measure a_this_wentBack v_this_run v_this_signs v_this_lastSigns v_this_dirt v_this_time v_this_lineMany v_this_notSign v_this_notKind v_this_measureMany f_this_board) (o) := by
  refine zMet_z (own := RX8) (fun u : Int32 => (wd_X8_isRule cI cJ cZ a_this a_this_board a_this_area a_this_x0 a_this_y0 a_this_x1 a_this_y1 a_this_head a_this_said a_this_low a_this_high a_this_least a_this_price a_this_way a_this_lineFirst a_this_lineLast a_this_left a_this_pile a_this_rest a_this_read a_this_measure a_this_wentBack v_this_run v_this_signs v_this_lastSigns v_this_dirt v_this_time v_this_lineMany v_this_notSign v_this_notKind v_this_measureMany f_this_board)) (fun u : Int32 => u) (by decide) rfl rfl (Nat.le_of_ble_eq_true rfl) ?_
  intro p e s m args below meth c A Q S hK hA hw ret ls hl
  replace hl : lv_has ls 5 [(0, .ref a_this), (1, .int i1)] := hl
  refine lv_iconst (v := 0) S.1 S.2.1 dX8_isRule_0 (by decide) ?_
  refine lv_istore_n (lv' := [(2, .int 0), (0, .ref a_this), (1, .int i1)]) S.1 S.2.1 dX8_isRule_1 rfl hl (by decide) rfl (fun ls hl => ?_)
  refine lv_iconst (v := 0) S.1 S.2.1 dX8_isRule_2 (by decide) ?_
  refine lv_istore_n (lv' := [(3, .int 0), (2, .int 0), (0, .ref a_this), (1, .int i1)]) S.1 S.2.1 dX8_isRule_3 rfl hl (by decide) rfl (fun ls hl => ?_)
  refine lv_iconst (v := 0) S.1 S.2.1 dX8_isRule_4 (by decide) ?_
  refine lv_istore (lv' := [(4, .int 0), (3, .int 0), (2, .int 0), (0, .ref a_this), (1, .int i1)]) S.1 S.2.1 dX8_isRule_5 hl (by decide) rfl (fun ls hl => ?_)
  have L_7 : ∀ (n7_3 : Nat) (x1 : Int32) (x2 : Int32) (x3 : Int32) (h : z_lp3 (p_X8_isRule_l7 f_this_board i1 v_this_run) n7_3 x1 x2 x3 = some o) (H : Heap) (locs : List Loc) (ls : Array Slot), zW D A s H locs (wd_X8_isRule cI cJ cZ a_this a_this_board a_this_area a_this_x0 a_this_y0 a_this_x1 a_this_y1 a_this_head a_this_said a_this_low a_this_high a_this_least a_this_price a_this_way a_this_lineFirst a_this_lineLast a_this_left a_this_pile a_this_rest a_this_read a_this_measure a_this_wentBack v_this_run v_this_signs v_this_lastSigns v_this_dirt v_this_time v_this_lineMany v_this_notSign v_this_notKind v_this_measureMany f_this_board) → lv_has ls 5 [(0, .ref a_this), (1, .int i1), (2, .int x1), (3, .int x2), (4, .int x3)] → W p l e (headSpec gs_X8_isRule rm_X8_isRule).room s m args below meth c H locs 0 0 Q (F0 m 7 ls []) := by
    intro n7_3
    induction n7_3 with
    | zero => intro x1 x2 x3 h; exact z_no h
    | succ n7_3 ih_7 =>
      intro x1 x2 x3 h H locs ls hw hl
      replace h : (p_X8_isRule_l7 f_this_board i1 v_this_run) (z_lp3 (p_X8_isRule_l7 f_this_board i1 v_this_run) n7_3) x1 x2 x3 = some o := h
      refine lv_iload S.1 S.2.1 dX8_isRule_7 (lv_at hl 4 rfl) ?_
      refine lv_bipush (v := 60) S.1 S.2.1 dX8_isRule_9 (by decide) ?_
      refine z_icmp_ge S (tgt := 56) h dX8_isRule_11 (by decide) (fun h => ?_) (fun h => ?_)
      · refine lv_iload_n S.1 S.2.1 dX8_isRule_56 rfl (lv_at hl 3 rfl) ?_
        obtain ⟨hb1, h⟩ := z_bool_e h
        exact ret x2 h (z_nb hb1) 57 ls _ _ dX8_isRule_57 hw
      · refine lv_aload_n S.1 S.2.1 dX8_isRule_14 rfl (lv_at hl 0 rfl) ?_
        refine lv_iload S.1 S.2.1 dX8_isRule_15 (lv_at hl 4 rfl) ?_
        refine lv_iload_n S.1 S.2.1 dX8_isRule_17 rfl (lv_at hl 1 rfl) ?_
        obtain ⟨y4, hc, h⟩ := z_b1_e h
        refine z_callVi (As := [.int x3, .int i1]) (rest := []) S (c_X8_isBlack l D cI cJ cZ a_this a_this_board a_this_area a_this_x0 a_this_y0 a_this_x1 a_this_y1 a_this_head a_this_said a_this_low a_this_high a_this_least a_this_price a_this_way a_this_lineFirst a_this_lineLast a_this_left a_this_pile a_this_rest a_this_read a_this_measure a_this_wentBack v_this_run v_this_signs v_this_lastSigns v_this_dirt v_this_time v_this_lineMany v_this_notSign v_this_notKind v_this_measureMany f_this_board x3 i1 _ hc) (cwV 2 S.2.2.2.2 (gw_V gw_817 gw_819 gw_30 gw_58 gw_820) rfl rfl rfl hd_X8_isBlack ⟨Nat.le_of_ble_eq_true rfl, Nat.le_of_ble_eq_true rfl⟩) hK hA hw [0, 1] (by decide) rfl rfl [some 0, some 1] rfl (by decide) 0 rfl rfl hl.1 rfl rfl (lv_room (Nat.le_of_ble_eq_true rfl)) ⟨Nat.zero_le _, Nat.zero_le _⟩ dX8_isRule_18 (fun H locs hw => ?_)
        replace hw : zW D A s H locs (wd_X8_isRule cI cJ cZ a_this a_this_board a_this_area a_this_x0 a_this_y0 a_this_x1 a_this_y1 a_this_head a_this_said a_this_low a_this_high a_this_least a_this_price a_this_way a_this_lineFirst a_this_lineLast a_this_left a_this_pile a_this_rest a_this_read a_this_measure a_this_wentBack v_this_run v_this_signs v_this_lastSigns v_this_dirt v_this_time v_this_lineMany v_this_notSign v_this_notKind v_this_measureMany f_this_board) := hw
        have J_31 : ∀ (z5 : Int32) (h : (p_X8_isRule_j31 x2 v_this_run x3 (z_lp3 (p_X8_isRule_l7 f_this_board i1 v_this_run) n7_3)) z5 = some o) (H : Heap) (locs : List Loc) (ls : Array Slot), zW D A s H locs (wd_X8_isRule cI cJ cZ a_this a_this_board a_this_area a_this_x0 a_this_y0 a_this_x1 a_this_y1 a_this_head a_this_said a_this_low a_this_high a_this_least a_this_price a_this_way a_this_lineFirst a_this_lineLast a_this_left a_this_pile a_this_rest a_this_read a_this_measure a_this_wentBack v_this_run v_this_signs v_this_lastSigns v_this_dirt v_this_time v_this_lineMany v_this_notSign v_this_notKind v_this_measureMany f_this_board) → lv_has ls 5 [(0, .ref a_this), (1, .int i1), (3, .int x2), (4, .int x3)] → W p l e (headSpec gs_X8_isRule rm_X8_isRule).room s m args below meth c H locs 0 0 Q (F0 m 31 ls [.int z5]) := by
          intro z5 h H locs ls hw hl
          refine lv_istore_n (lv' := [(2, .int z5), (0, .ref a_this), (1, .int i1), (3, .int x2), (4, .int x3)]) S.1 S.2.1 dX8_isRule_31 rfl hl (by decide) rfl (fun ls hl => ?_)
          refine lv_iload_n S.1 S.2.1 dX8_isRule_32 rfl (lv_at hl 3 rfl) ?_
          have J_44 : ∀ (h : (p_X8_isRule_j44 x3 z5 (z_lp3 (p_X8_isRule_l7 f_this_board i1 v_this_run) n7_3)) = some o) (H : Heap) (locs : List Loc) (ls : Array Slot), zW D A s H locs (wd_X8_isRule cI cJ cZ a_this a_this_board a_this_area a_this_x0 a_this_y0 a_this_x1 a_this_y1 a_this_head a_this_said a_this_low a_this_high a_this_least a_this_price a_this_way a_this_lineFirst a_this_lineLast a_this_left a_this_pile a_this_rest a_this_read a_this_measure a_this_wentBack v_this_run v_this_signs v_this_lastSigns v_this_dirt v_this_time v_this_lineMany v_this_notSign v_this_notKind v_this_measureMany f_this_board) → lv_has ls 5 [(0, .ref a_this), (1, .int i1), (2, .int z5), (4, .int x3)] → W p l e (headSpec gs_X8_isRule rm_X8_isRule).room s m args below meth c H locs 0 0 Q (F0 m 44 ls []) := by
            intro h H locs ls hw hl
            refine lv_iconst (v := 1) S.1 S.2.1 dX8_isRule_44 (by decide) ?_
            refine lv_goto (tgt := 49) S.1 S.2.1 dX8_isRule_45 (by decide) ?_
            refine lv_istore_n (lv' := [(3, .int 1), (0, .ref a_this), (1, .int i1), (2, .int z5), (4, .int x3)]) S.1 S.2.1 dX8_isRule_49 rfl hl (by decide) rfl (fun ls hl => ?_)
            refine z_iinc S (i := 4) (k := 4) (v := x3 + 1) hl rfl (by decide) rfl (fun v => (4, .int v) :: [(3, .int 1), (0, .ref a_this), (1, .int i1), (2, .int z5)]) (fun _ => rfl) h dX8_isRule_50 (fun y6 ls hl h => ?_)
            replace hl : lv_has ls 5 [(4, .int y6), (3, .int 1), (0, .ref a_this), (1, .int i1), (2, .int z5)] := hl
            refine lv_goto (tgt := 7) S.1 S.2.1 dX8_isRule_53 (by decide) ?_
            exact ih_7 z5 1 y6 h _ _ ls hw (lv_sub hl [2, 3, 4, 1, 0] rfl)
          refine z_if_ne S (tgt := 44) h dX8_isRule_33 (by decide) (fun h => ?_) (fun h => ?_)
          · exact J_44 h _ _ ls hw (lv_sub hl [1, 2, 0, 4] rfl)
          · refine lv_iload_n S.1 S.2.1 dX8_isRule_36 rfl (lv_at hl 0 rfl) ?_
            refine lv_aload_n S.1 S.2.1 dX8_isRule_37 rfl (lv_at hl 1 rfl) ?_
            refine z_get S (C := RX8) (T := TX8) (N := 30) (gi gu_X8) hK hw 0 rfl rfl 1 (Nat.le_of_ble_eq_true rfl) (List.mem_cons_of_mem _ gw_712) rfl dX8_isRule_38 ?_
            refine z_icmp_lt S (tgt := 48) h dX8_isRule_41 (by decide) (fun h => ?_) (fun h => ?_)
            · refine lv_iconst (v := 0) S.1 S.2.1 dX8_isRule_48 (by decide) ?_
              refine lv_istore_n (lv' := [(3, .int 0), (2, .int z5), (0, .ref a_this), (1, .int i1), (4, .int x3)]) S.1 S.2.1 dX8_isRule_49 rfl hl (by decide) rfl (fun ls hl => ?_)
              refine z_iinc S (i := 4) (k := 4) (v := x3 + 1) hl rfl (by decide) rfl (fun v => (4, .int v) :: [(3, .int 0), (2, .int z5), (0, .ref a_this), (1, .int i1)]) (fun _ => rfl) h dX8_isRule_50 (fun y7 ls hl h => ?_)
              replace hl : lv_has ls 5 [(4, .int y7), (3, .int 0), (2, .int z5), (0, .ref a_this), (1, .int i1)] := hl
              refine lv_goto (tgt := 7) S.1 S.2.1 dX8_isRule_53 (by decide) ?_
              exact ih_7 z5 0 y7 h _ _ ls hw (lv_sub hl [3, 4, 2, 1, 0] rfl)
            · exact J_44 h _ _ ls hw (lv_sub hl [1, 2, 0, 4] rfl)
        refine z_if_eq S (tgt := 30) h dX8_isRule_21 (by decide) (fun h => ?_) (fun h => ?_)
        · refine lv_iconst (v := 0) S.1 S.2.1 dX8_isRule_30 (by decide) ?_
          exact J_31 0 h _ _ ls hw (lv_sub hl [0, 1, 3, 4] rfl)
        · refine lv_iload_n S.1 S.2.1 dX8_isRule_24 rfl (lv_at hl 2 rfl) ?_
          refine lv_iconst (v := 1) S.1 S.2.1 dX8_isRule_25 (by decide) ?_
          refine lv_iadd S.1 S.2.1 dX8_isRule_26 ?_
          refine lv_goto (tgt := 31) S.1 S.2.1 dX8_isRule_27 (by decide) ?_
          exact J_31 (x1 + 1) h _ _ ls hw (lv_sub hl [0, 1, 3, 4] rfl)
  exact L_7 K 0 0 0 h _ _ ls hw (lv_sub hl [3, 4, 2, 1, 0] rfl)
theorem gw_729 : Cond.fieldLink RX8 112 "ScoreReaderModel" "lineMany" "I" ∈ GW := GW_of 729 (by decide +kernel) (by decide +kernel)
theorem gw_837 : Cond.methodLink RX8 115 yX8_isRule ∈ GW := GW_of 837 (by decide +kernel) (by decide +kernel)
theorem gw_840 : Cond.code yX8_isRule cX8_isRule 5 (some .boolean) ∈ GW := GW_of 840 (by decide +kernel) (by decide +kernel)
theorem gw_839 : Cond.instanceMethod yX8_isRule ∈ GW := GW_of 839 (by decide +kernel) (by decide +kernel)
theorem gw_32 : Cond.selects RX8 yX8_isRule yX8_isRule ∈ GW := GW_of 32 (by decide +kernel) (by decide +kernel)
theorem gw_731 : Cond.fieldLink RX8 69 "ScoreReaderModel" "lineLast" "[I" ∈ GW := GW_of 731 (by decide +kernel) (by decide +kernel)
theorem gw_730 : Cond.fieldLink RX8 66 "ScoreReaderModel" "lineFirst" "[I" ∈ GW := GW_of 730 (by decide +kernel) (by decide +kernel)
def gs_X8_findLines : List Cond := Cond.code yX8_findLines cX8_findLines 2 none :: GW
def wd_X8_findLines (cI cJ cZ : ClassId) (a_this a_this_board a_this_area a_this_x0 a_this_y0 a_this_x1 a_this_y1 a_this_head a_this_said a_this_low a_this_high a_this_least a_this_price a_this_way a_this_lineFirst a_this_lineLast a_this_left a_this_pile a_this_rest a_this_read a_this_measure a_this_wentBack : Nat) (v_this_run : Int32) (v_this_signs : Int32) (v_this_lastSigns : Int32) (v_this_dirt : Int32) (v_this_time : Int32) (v_this_lineMany : Int32) (v_this_notSign : Int32) (v_this_notKind : Int32) (v_this_measureMany : Int32) (f_this_board : Nat → Int64) (f_this_lineFirst : Nat → Int32) (f_this_lineLast : Nat → Int32) : va_W := [(a_this, .inr (8, [.ref a_this_board, .int v_this_run, .int v_this_signs, .int v_this_lastSigns, .ref a_this_area, .ref a_this_x0, .ref a_this_y0, .ref a_this_x1, .ref a_this_y1, .ref a_this_head, .ref a_this_said, .ref a_this_low, .ref a_this_high, .ref a_this_least, .ref a_this_price, .int v_this_dirt, .int v_this_time, .ref a_this_way, .int v_this_lineMany, .ref a_this_lineFirst, .ref a_this_lineLast, .ref a_this_left, .ref a_this_pile, .ref a_this_rest, .int v_this_notSign, .int v_this_notKind, .ref a_this_read, .ref a_this_measure, .int v_this_measureMany, .ref a_this_wentBack])), (a_this_board, .inl (cJ, 32, .inr (.inl f_this_board))), (a_this_lineFirst, .inl (cI, 32, .inl f_this_lineFirst)), (a_this_lineLast, .inl (cI, 32, .inl f_this_lineLast))]
abbrev rm_X8_findLines : Room := { frames := 3, cells := 0, slots := 0, locals := 68 }
theorem hd_X8_findLines : yX8_findLines.cls = RX8 ∧ yX8_findLines.cls ≠ "java/lang/invoke/MethodHandle" ∧ yX8_findLines.cls ≠ "java/lang/invoke/VarHandle" ∧ (parseMethodDescriptor yX8_findLines.desc).map (fun d => d.parameters.length) = some 0 := by decide +kernel
set_option maxHeartbeats 4000000 in
set_option maxRecDepth 100000 in
theorem c_X8_findLines (l : Launch) (D : va_G) (cI cJ cZ : ClassId) (a_this a_this_board a_this_area a_this_x0 a_this_y0 a_this_x1 a_this_y1 a_this_head a_this_said a_this_low a_this_high a_this_least a_this_price a_this_way a_this_lineFirst a_this_lineLast a_this_left a_this_pile a_this_rest a_this_read a_this_measure a_this_wentBack : Nat) (v_this_run : Int32) (v_this_signs : Int32) (v_this_lastSigns : Int32) (v_this_dirt : Int32) (v_this_time : Int32) (v_this_lineMany : Int32) (v_this_notSign : Int32) (v_this_notKind : Int32) (v_this_measureMany : Int32) (f_this_board : Nat → Int64) (f_this_lineFirst : Nat → Int32) (f_this_lineLast : Nat → Int32) (K : Nat) (o : Int32 × (Nat → Int32) × (Nat → Int32)) (h : p_X8_findLines K v_this_run v_this_lineMany f_this_board f_this_lineFirst f_this_lineLast = some o) : zMv l D (zT cI cJ cZ) yX8_findLines gs_X8_findLines rm_X8_findLines [.ref a_this] (wd_X8_findLines cI cJ cZ a_this a_this_board a_this_area a_this_x0 a_this_y0 a_this_x1 a_this_y1 a_this_head a_this_said a_this_low a_this_high a_this_least a_this_price a_this_way a_this_lineFirst a_this_lineLast a_this_left a_this_pile a_this_rest a_this_read a_this_measure a_this_wentBack v_this_run v_this_signs v_this_lastSigns v_this_dirt v_this_time v_this_lineMany v_this_notSign v_this_notKind v_this_measureMany f_this_board f_this_lineFirst f_this_lineLast) (wd_X8_findLines cI cJ cZ a_this a_this_board a_this_area a_this_x0 a_this_y0 a_this_x1 a_this_y1 a_this_head a_this_said a_this_low a_this_high a_this_least a_this_price a_this_way a_this_lineFirst a_this_lineLast a_this_left a_this_pile a_this_rest a_this_read a_this_measure a_this_wentBack v_this_run v_this_signs v_this_lastSigns v_this_dirt v_this_time (o.1) v_this_notSign v_this_notKind v_this_measureMany f_this_board (o.2.1) (o.2.2)) := by
  refine zMet_v (own := RX8) (fun u : Int32 × (Nat → Int32) × (Nat → Int32) => (wd_X8_findLines cI cJ cZ a_this a_this_board a_this_area a_this_x0 a_this_y0 a_this_x1 a_this_y1 a_this_head a_this_said a_this_low a_this_high a_this_least a_this_price a_this_way a_this_lineFirst a_this_lineLast a_this_left a_this_pile a_this_rest a_this_read a_this_measure a_this_wentBack v_this_run v_this_signs v_this_lastSigns v_this_dirt v_this_time (u.1) v_this_notSign v_this_notKind v_this_measureMany f_this_board (u.2.1) (u.2.2))) (by decide) rfl rfl (Nat.le_of_ble_eq_true rfl) ?_
  intro p e s m args below meth c A Q S hK hA hw ret ls hl
  replace hl : lv_has ls 2 [(0, .ref a_this)] := hl
  refine lv_aload_n S.1 S.2.1 dX8_findLines_0 rfl (lv_at hl 0 rfl) ?_
  refine lv_iconst (v := 0) S.1 S.2.1 dX8_findLines_1 (by decide) ?_
  refine z_put S (C := RX8) (T := TX8) (N := 30) (gi gu_X8) tyX8 tyX8_ok nmX8 hK hw 0 rfl rfl 18 (Nat.le_of_ble_eq_true rfl) (List.mem_cons_of_mem _ gw_729) rfl rfl rfl (Nat.le_of_ble_eq_true rfl) dX8_findLines_2 (fun H locs hw => ?_)
  replace hw : zW D A s H locs (wd_X8_findLines cI cJ cZ a_this a_this_board a_this_area a_this_x0 a_this_y0 a_this_x1 a_this_y1 a_this_head a_this_said a_this_low a_this_high a_this_least a_this_price a_this_way a_this_lineFirst a_this_lineLast a_this_left a_this_pile a_this_rest a_this_read a_this_measure a_this_wentBack v_this_run v_this_signs v_this_lastSigns v_this_dirt v_this_time 0 v_this_notSign v_this_notKind v_this_measureMany f_this_board f_this_lineFirst f_this_lineLast) := hw
  refine lv_iconst (v := 0) S.1 S.2.1 dX8_findLines_5 (by decide) ?_
  refine lv_istore_n (lv' := [(1, .int 0), (0, .ref a_this)]) S.1 S.2.1 dX8_findLines_6 rfl hl (by decide) rfl (fun ls hl => ?_)
  have L_7 : ∀ (n7_4 : Nat) (v1 : Int32) (f2 : Nat → Int32) (f3 : Nat → Int32) (x4 : Int32) (h : z_lp4 (p_X8_findLines_l7 K v_this_run f_this_board) n7_4 v1 f2 f3 x4 = some o) (H : Heap) (locs : List Loc) (ls : Array Slot), zW D A s H locs (wd_X8_findLines cI cJ cZ a_this a_this_board a_this_area a_this_x0 a_this_y0 a_this_x1 a_this_y1 a_this_head a_this_said a_this_low a_this_high a_this_least a_this_price a_this_way a_this_lineFirst a_this_lineLast a_this_left a_this_pile a_this_rest a_this_read a_this_measure a_this_wentBack v_this_run v_this_signs v_this_lastSigns v_this_dirt v_this_time v1 v_this_notSign v_this_notKind v_this_measureMany f_this_board f2 f3) → lv_has ls 2 [(0, .ref a_this), (1, .int x4)] → W p l e (headSpec gs_X8_findLines rm_X8_findLines).room s m args below meth c H locs 0 0 Q (F0 m 7 ls []) := by
    intro n7_4
    induction n7_4 with
    | zero => intro v1 f2 f3 x4 h; exact z_no h
    | succ n7_4 ih_7 =>
      intro v1 f2 f3 x4 h H locs ls hw hl
      replace h : (p_X8_findLines_l7 K v_this_run f_this_board) (z_lp4 (p_X8_findLines_l7 K v_this_run f_this_board) n7_4) v1 f2 f3 x4 = some o := h
      refine lv_iload_n S.1 S.2.1 dX8_findLines_7 rfl (lv_at hl 1 rfl) ?_
      refine lv_bipush (v := 32) S.1 S.2.1 dX8_findLines_8 (by decide) ?_
      refine z_icmp_ge S (tgt := 87) h dX8_findLines_10 (by decide) (fun h => ?_) (fun h => ?_)
      · exact ret (v1, f2, f3) h 87 ls _ _ dX8_findLines_87 hw
      · refine lv_aload_n S.1 S.2.1 dX8_findLines_13 rfl (lv_at hl 0 rfl) ?_
        refine lv_iload_n S.1 S.2.1 dX8_findLines_14 rfl (lv_at hl 1 rfl) ?_
        obtain ⟨y5, hc, h⟩ := z_b1_e h
        refine z_callVi (As := [.int x4]) (rest := []) S (c_X8_isRule l D cI cJ cZ a_this a_this_board a_this_area a_this_x0 a_this_y0 a_this_x1 a_this_y1 a_this_head a_this_said a_this_low a_this_high a_this_least a_this_price a_this_way a_this_lineFirst a_this_lineLast a_this_left a_this_pile a_this_rest a_this_read a_this_measure a_this_wentBack v_this_run v_this_signs v_this_lastSigns v_this_dirt v_this_time v1 v_this_notSign v_this_notKind v_this_measureMany f_this_board K x4 _ hc) (cwV 1 S.2.2.2.2 (gw_V gw_837 gw_839 gw_32 gw_58 gw_840) rfl rfl rfl hd_X8_isRule ⟨Nat.le_of_ble_eq_true rfl, Nat.le_of_ble_eq_true rfl⟩) hK hA hw [0, 1] (by decide) rfl rfl [some 0, some 1, none, none] rfl (by decide) 0 rfl rfl hl.1 rfl rfl (lv_room (Nat.le_of_ble_eq_true rfl)) ⟨Nat.zero_le _, Nat.zero_le _⟩ dX8_findLines_15 (fun H locs hw => ?_)
        replace hw : zW D A s H locs (wd_X8_findLines cI cJ cZ a_this a_this_board a_this_area a_this_x0 a_this_y0 a_this_x1 a_this_y1 a_this_head a_this_said a_this_low a_this_high a_this_least a_this_price a_this_way a_this_lineFirst a_this_lineLast a_this_left a_this_pile a_this_rest a_this_read a_this_measure a_this_wentBack v_this_run v_this_signs v_this_lastSigns v_this_dirt v_this_time v1 v_this_notSign v_this_notKind v_this_measureMany f_this_board f2 f3) := hw
        refine z_if_eq S (tgt := 81) h dX8_findLines_18 (by decide) (fun h => ?_) (fun h => ?_)
        · refine z_iinc S (i := 1) (k := 1) (v := x4 + 1) hl rfl (by decide) rfl (fun v => (1, .int v) :: [(0, .ref a_this)]) (fun _ => rfl) h dX8_findLines_81 (fun y6 ls hl h => ?_)
          replace hl : lv_has ls 2 [(1, .int y6), (0, .ref a_this)] := hl
          refine lv_goto (tgt := 7) S.1 S.2.1 dX8_findLines_84 (by decide) ?_
          exact ih_7 v1 f2 f3 y6 h _ _ ls hw (lv_sub hl [1, 0] rfl)
        · refine lv_iload_n S.1 S.2.1 dX8_findLines_21 rfl (lv_at hl 1 rfl) ?_
          have J_69 : ∀ (v7 : Int32) (f8 : Nat → Int32) (h : (p_X8_findLines_j69 f3 x4 (z_lp4 (p_X8_findLines_l7 K v_this_run f_this_board) n7_4)) v7 f8 = some o) (H : Heap) (locs : List Loc) (ls : Array Slot), zW D A s H locs (wd_X8_findLines cI cJ cZ a_this a_this_board a_this_area a_this_x0 a_this_y0 a_this_x1 a_this_y1 a_this_head a_this_said a_this_low a_this_high a_this_least a_this_price a_this_way a_this_lineFirst a_this_lineLast a_this_left a_this_pile a_this_rest a_this_read a_this_measure a_this_wentBack v_this_run v_this_signs v_this_lastSigns v_this_dirt v_this_time v7 v_this_notSign v_this_notKind v_this_measureMany f_this_board f8 f3) → lv_has ls 2 [(0, .ref a_this), (1, .int x4)] → W p l e (headSpec gs_X8_findLines rm_X8_findLines).room s m args below meth c H locs 0 0 Q (F0 m 69 ls []) := by
            intro v7 f8 h H locs ls hw hl
            refine lv_aload_n S.1 S.2.1 dX8_findLines_69 rfl (lv_at hl 0 rfl) ?_
            refine z_get S (C := RX8) (T := TX8) (N := 30) (gi gu_X8) hK hw 0 rfl rfl 20 (Nat.le_of_ble_eq_true rfl) (List.mem_cons_of_mem _ gw_731) rfl dX8_findLines_70 ?_
            refine lv_aload_n S.1 S.2.1 dX8_findLines_73 rfl (lv_at hl 0 rfl) ?_
            refine z_get S (C := RX8) (T := TX8) (N := 30) (gi gu_X8) hK hw 0 rfl rfl 18 (Nat.le_of_ble_eq_true rfl) (List.mem_cons_of_mem _ gw_729) rfl dX8_findLines_74 ?_
            refine lv_iconst (v := 1) S.1 S.2.1 dX8_findLines_77 (by decide) ?_
            refine lv_isub S.1 S.2.1 dX8_findLines_78 ?_
            refine lv_iload_n S.1 S.2.1 dX8_findLines_79 rfl (lv_at hl 1 rfl) ?_
            refine z_iast S hK hw 3 0 rfl rfl h dX8_findLines_80 (fun f9 H locs hw h => ?_)
            replace hw : zW D A s H locs (wd_X8_findLines cI cJ cZ a_this a_this_board a_this_area a_this_x0 a_this_y0 a_this_x1 a_this_y1 a_this_head a_this_said a_this_low a_this_high a_this_least a_this_price a_this_way a_this_lineFirst a_this_lineLast a_this_left a_this_pile a_this_rest a_this_read a_this_measure a_this_wentBack v_this_run v_this_signs v_this_lastSigns v_this_dirt v_this_time v7 v_this_notSign v_this_notKind v_this_measureMany f_this_board f8 f9) := hw
            refine z_iinc S (i := 1) (k := 1) (v := x4 + 1) hl rfl (by decide) rfl (fun v => (1, .int v) :: [(0, .ref a_this)]) (fun _ => rfl) h dX8_findLines_81 (fun y10 ls hl h => ?_)
            replace hl : lv_has ls 2 [(1, .int y10), (0, .ref a_this)] := hl
            refine lv_goto (tgt := 7) S.1 S.2.1 dX8_findLines_84 (by decide) ?_
            exact ih_7 v7 f8 f9 y10 h _ _ ls hw (lv_sub hl [1, 0] rfl)
          have J_49 : ∀ (h : (p_X8_findLines_j49 f2 v1 x4 (p_X8_findLines_j69 f3 x4 (z_lp4 (p_X8_findLines_l7 K v_this_run f_this_board) n7_4))) = some o) (H : Heap) (locs : List Loc) (ls : Array Slot), zW D A s H locs (wd_X8_findLines cI cJ cZ a_this a_this_board a_this_area a_this_x0 a_this_y0 a_this_x1 a_this_y1 a_this_head a_this_said a_this_low a_this_high a_this_least a_this_price a_this_way a_this_lineFirst a_this_lineLast a_this_left a_this_pile a_this_rest a_this_read a_this_measure a_this_wentBack v_this_run v_this_signs v_this_lastSigns v_this_dirt v_this_time v1 v_this_notSign v_this_notKind v_this_measureMany f_this_board f2 f3) → lv_has ls 2 [(0, .ref a_this), (1, .int x4)] → W p l e (headSpec gs_X8_findLines rm_X8_findLines).room s m args below meth c H locs 0 0 Q (F0 m 49 ls []) := by
            intro h H locs ls hw hl
            refine lv_aload_n S.1 S.2.1 dX8_findLines_49 rfl (lv_at hl 0 rfl) ?_
            refine z_get S (C := RX8) (T := TX8) (N := 30) (gi gu_X8) hK hw 0 rfl rfl 19 (Nat.le_of_ble_eq_true rfl) (List.mem_cons_of_mem _ gw_730) rfl dX8_findLines_50 ?_
            refine lv_aload_n S.1 S.2.1 dX8_findLines_53 rfl (lv_at hl 0 rfl) ?_
            refine z_get S (C := RX8) (T := TX8) (N := 30) (gi gu_X8) hK hw 0 rfl rfl 18 (Nat.le_of_ble_eq_true rfl) (List.mem_cons_of_mem _ gw_729) rfl dX8_findLines_54 ?_
            refine lv_iload_n S.1 S.2.1 dX8_findLines_57 rfl (lv_at hl 1 rfl) ?_
            refine z_iast S hK hw 2 0 rfl rfl h dX8_findLines_58 (fun f11 H locs hw h => ?_)
            replace hw : zW D A s H locs (wd_X8_findLines cI cJ cZ a_this a_this_board a_this_area a_this_x0 a_this_y0 a_this_x1 a_this_y1 a_this_head a_this_said a_this_low a_this_high a_this_least a_this_price a_this_way a_this_lineFirst a_this_lineLast a_this_left a_this_pile a_this_rest a_this_read a_this_measure a_this_wentBack v_this_run v_this_signs v_this_lastSigns v_this_dirt v_this_time v1 v_this_notSign v_this_notKind v_this_measureMany f_this_board f11 f3) := hw
            refine lv_aload_n S.1 S.2.1 dX8_findLines_59 rfl (lv_at hl 0 rfl) ?_
            refine lv_dup S.1 S.2.1 dX8_findLines_60 rfl ?_
            refine z_get S (C := RX8) (T := TX8) (N := 30) (gi gu_X8) hK hw 0 rfl rfl 18 (Nat.le_of_ble_eq_true rfl) (List.mem_cons_of_mem _ gw_729) rfl dX8_findLines_61 ?_
            refine lv_iconst (v := 1) S.1 S.2.1 dX8_findLines_64 (by decide) ?_
            refine lv_iadd S.1 S.2.1 dX8_findLines_65 ?_
            refine z_leti h (fun y12 h => ?_)
            refine z_put S (C := RX8) (T := TX8) (N := 30) (gi gu_X8) tyX8 tyX8_ok nmX8 hK hw 0 rfl rfl 18 (Nat.le_of_ble_eq_true rfl) (List.mem_cons_of_mem _ gw_729) rfl rfl rfl (Nat.le_of_ble_eq_true rfl) dX8_findLines_66 (fun H locs hw => ?_)
            replace hw : zW D A s H locs (wd_X8_findLines cI cJ cZ a_this a_this_board a_this_area a_this_x0 a_this_y0 a_this_x1 a_this_y1 a_this_head a_this_said a_this_low a_this_high a_this_least a_this_price a_this_way a_this_lineFirst a_this_lineLast a_this_left a_this_pile a_this_rest a_this_read a_this_measure a_this_wentBack v_this_run v_this_signs v_this_lastSigns v_this_dirt v_this_time y12 v_this_notSign v_this_notKind v_this_measureMany f_this_board f11 f3) := hw
            exact J_69 y12 f11 h _ _ ls hw (lv_sub hl [0, 1] rfl)
          refine z_if_eq S (tgt := 49) h dX8_findLines_22 (by decide) (fun h => ?_) (fun h => ?_)
          · exact J_49 h _ _ ls hw (lv_sub hl [0, 1] rfl)
          · refine lv_aload_n S.1 S.2.1 dX8_findLines_25 rfl (lv_at hl 0 rfl) ?_
            refine z_get S (C := RX8) (T := TX8) (N := 30) (gi gu_X8) hK hw 0 rfl rfl 18 (Nat.le_of_ble_eq_true rfl) (List.mem_cons_of_mem _ gw_729) rfl dX8_findLines_26 ?_
            refine z_if_eq S (tgt := 49) h dX8_findLines_29 (by decide) (fun h => ?_) (fun h => ?_)
            · exact J_49 h _ _ ls hw (lv_sub hl [0, 1] rfl)
            · refine lv_aload_n S.1 S.2.1 dX8_findLines_32 rfl (lv_at hl 0 rfl) ?_
              refine z_get S (C := RX8) (T := TX8) (N := 30) (gi gu_X8) hK hw 0 rfl rfl 20 (Nat.le_of_ble_eq_true rfl) (List.mem_cons_of_mem _ gw_731) rfl dX8_findLines_33 ?_
              refine lv_aload_n S.1 S.2.1 dX8_findLines_36 rfl (lv_at hl 0 rfl) ?_
              refine z_get S (C := RX8) (T := TX8) (N := 30) (gi gu_X8) hK hw 0 rfl rfl 18 (Nat.le_of_ble_eq_true rfl) (List.mem_cons_of_mem _ gw_729) rfl dX8_findLines_37 ?_
              refine lv_iconst (v := 1) S.1 S.2.1 dX8_findLines_40 (by decide) ?_
              refine lv_isub S.1 S.2.1 dX8_findLines_41 ?_
              refine z_iald S hK hw 3 0 rfl rfl h dX8_findLines_42 (fun y13 h => ?_)
              refine lv_iload_n S.1 S.2.1 dX8_findLines_43 rfl (lv_at hl 1 rfl) ?_
              refine lv_iconst (v := 1) S.1 S.2.1 dX8_findLines_44 (by decide) ?_
              refine lv_isub S.1 S.2.1 dX8_findLines_45 ?_
              refine z_icmp_eq S (tgt := 69) h dX8_findLines_46 (by decide) (fun h => ?_) (fun h => ?_)
              · exact J_69 v1 f2 h _ _ ls hw (lv_sub hl [0, 1] rfl)
              · exact J_49 h _ _ ls hw (lv_sub hl [0, 1] rfl)
  exact L_7 K 0 f_this_lineFirst f_this_lineLast 0 h _ _ ls hw (lv_sub hl [1, 0] rfl)
theorem gw_833 : Cond.methodLink RX8 119 yX8_findLines ∈ GW := GW_of 833 (by decide +kernel) (by decide +kernel)
theorem gw_836 : Cond.code yX8_findLines cX8_findLines 2 none ∈ GW := GW_of 836 (by decide +kernel) (by decide +kernel)
theorem gw_835 : Cond.instanceMethod yX8_findLines ∈ GW := GW_of 835 (by decide +kernel) (by decide +kernel)
theorem gw_31 : Cond.selects RX8 yX8_findLines yX8_findLines ∈ GW := GW_of 31 (by decide +kernel) (by decide +kernel)
def gs_X8_lines : List Cond := Cond.code yX8_lines cX8_lines 1 (some .int) :: GW
def wd_X8_lines (cI cJ cZ : ClassId) (a_this a_this_board a_this_area a_this_x0 a_this_y0 a_this_x1 a_this_y1 a_this_head a_this_said a_this_low a_this_high a_this_least a_this_price a_this_way a_this_lineFirst a_this_lineLast a_this_left a_this_pile a_this_rest a_this_read a_this_measure a_this_wentBack : Nat) (v_this_run : Int32) (v_this_signs : Int32) (v_this_lastSigns : Int32) (v_this_dirt : Int32) (v_this_time : Int32) (v_this_lineMany : Int32) (v_this_notSign : Int32) (v_this_notKind : Int32) (v_this_measureMany : Int32) (f_this_board : Nat → Int64) (f_this_lineFirst : Nat → Int32) (f_this_lineLast : Nat → Int32) : va_W := [(a_this, .inr (8, [.ref a_this_board, .int v_this_run, .int v_this_signs, .int v_this_lastSigns, .ref a_this_area, .ref a_this_x0, .ref a_this_y0, .ref a_this_x1, .ref a_this_y1, .ref a_this_head, .ref a_this_said, .ref a_this_low, .ref a_this_high, .ref a_this_least, .ref a_this_price, .int v_this_dirt, .int v_this_time, .ref a_this_way, .int v_this_lineMany, .ref a_this_lineFirst, .ref a_this_lineLast, .ref a_this_left, .ref a_this_pile, .ref a_this_rest, .int v_this_notSign, .int v_this_notKind, .ref a_this_read, .ref a_this_measure, .int v_this_measureMany, .ref a_this_wentBack])), (a_this_board, .inl (cJ, 32, .inr (.inl f_this_board))), (a_this_lineFirst, .inl (cI, 32, .inl f_this_lineFirst)), (a_this_lineLast, .inl (cI, 32, .inl f_this_lineLast))]
abbrev rm_X8_lines : Room := { frames := 4, cells := 0, slots := 0, locals := 89 }
theorem hd_X8_lines : yX8_lines.cls = RX8 ∧ yX8_lines.cls ≠ "java/lang/invoke/MethodHandle" ∧ yX8_lines.cls ≠ "java/lang/invoke/VarHandle" ∧ (parseMethodDescriptor yX8_lines.desc).map (fun d => d.parameters.length) = some 0 := by decide +kernel
set_option maxHeartbeats 4000000 in
set_option maxRecDepth 100000 in
theorem c_X8_lines (l : Launch) (D : va_G) (cI cJ cZ : ClassId) (a_this a_this_board a_this_area a_this_x0 a_this_y0 a_this_x1 a_this_y1 a_this_head a_this_said a_this_low a_this_high a_this_least a_this_price a_this_way a_this_lineFirst a_this_lineLast a_this_left a_this_pile a_this_rest a_this_read a_this_measure a_this_wentBack : Nat) (v_this_run : Int32) (v_this_signs : Int32) (v_this_lastSigns : Int32) (v_this_dirt : Int32) (v_this_time : Int32) (v_this_lineMany : Int32) (v_this_notSign : Int32) (v_this_notKind : Int32) (v_this_measureMany : Int32) (f_this_board : Nat → Int64) (f_this_lineFirst : Nat → Int32) (f_this_lineLast : Nat → Int32) (K : Nat) (o : Int32 × Int32 × (Nat → Int32) × (Nat → Int32)) (h : p_X8_lines K v_this_run v_this_lineMany f_this_board f_this_lineFirst f_this_lineLast = some o) : zMi l D (zT cI cJ cZ) yX8_lines gs_X8_lines rm_X8_lines [.ref a_this] (wd_X8_lines cI cJ cZ a_this a_this_board a_this_area a_this_x0 a_this_y0 a_this_x1 a_this_y1 a_this_head a_this_said a_this_low a_this_high a_this_least a_this_price a_this_way a_this_lineFirst a_this_lineLast a_this_left a_this_pile a_this_rest a_this_read a_this_measure a_this_wentBack v_this_run v_this_signs v_this_lastSigns v_this_dirt v_this_time v_this_lineMany v_this_notSign v_this_notKind v_this_measureMany f_this_board f_this_lineFirst f_this_lineLast) (wd_X8_lines cI cJ cZ a_this a_this_board a_this_area a_this_x0 a_this_y0 a_this_x1 a_this_y1 a_this_head a_this_said a_this_low a_this_high a_this_least a_this_price a_this_way a_this_lineFirst a_this_lineLast a_this_left a_this_pile a_this_rest a_this_read a_this_measure a_this_wentBack v_this_run v_this_signs v_this_lastSigns v_this_dirt v_this_time (o.2.1) v_this_notSign v_this_notKind v_this_measureMany f_this_board (o.2.2.1) (o.2.2.2)) (o.1) := by
  refine zMet_i (own := RX8) (fun u : Int32 × Int32 × (Nat → Int32) × (Nat → Int32) => (wd_X8_lines cI cJ cZ a_this a_this_board a_this_area a_this_x0 a_this_y0 a_this_x1 a_this_y1 a_this_head a_this_said a_this_low a_this_high a_this_least a_this_price a_this_way a_this_lineFirst a_this_lineLast a_this_left a_this_pile a_this_rest a_this_read a_this_measure a_this_wentBack v_this_run v_this_signs v_this_lastSigns v_this_dirt v_this_time (u.2.1) v_this_notSign v_this_notKind v_this_measureMany f_this_board (u.2.2.1) (u.2.2.2))) (fun u : Int32 × Int32 × (Nat → Int32) × (Nat → Int32) => u.1) (by decide) rfl rfl (Nat.le_of_ble_eq_true rfl) ?_
  intro p e s m args below meth c A Q S hK hA hw ret ls hl
  replace hl : lv_has ls 1 [(0, .ref a_this)] := hl
  refine lv_aload_n S.1 S.2.1 dX8_lines_0 rfl (lv_at hl 0 rfl) ?_
  obtain ⟨v1, f2, f3, hc, h⟩ := z_b3_e h
  refine z_callVv (As := []) (rest := []) S (c_X8_findLines l D cI cJ cZ a_this a_this_board a_this_area a_this_x0 a_this_y0 a_this_x1 a_this_y1 a_this_head a_this_said a_this_low a_this_high a_this_least a_this_price a_this_way a_this_lineFirst a_this_lineLast a_this_left a_this_pile a_this_rest a_this_read a_this_measure a_this_wentBack v_this_run v_this_signs v_this_lastSigns v_this_dirt v_this_time v_this_lineMany v_this_notSign v_this_notKind v_this_measureMany f_this_board f_this_lineFirst f_this_lineLast K _ hc) (cwV 0 S.2.2.2.2 (gw_V gw_833 gw_835 gw_31 gw_58 gw_836) rfl rfl rfl hd_X8_findLines ⟨Nat.le_of_ble_eq_true rfl, Nat.le_of_ble_eq_true rfl⟩) hK hA hw [0, 1, 2, 3] (by decide) rfl rfl [some 0, some 1, some 2, some 3] rfl (by decide) 0 rfl rfl hl.1 rfl rfl (lv_room (Nat.le_of_ble_eq_true rfl)) ⟨Nat.zero_le _, Nat.zero_le _⟩ dX8_lines_1 (fun H locs hw => ?_)
  replace hw : zW D A s H locs (wd_X8_lines cI cJ cZ a_this a_this_board a_this_area a_this_x0 a_this_y0 a_this_x1 a_this_y1 a_this_head a_this_said a_this_low a_this_high a_this_least a_this_price a_this_way a_this_lineFirst a_this_lineLast a_this_left a_this_pile a_this_rest a_this_read a_this_measure a_this_wentBack v_this_run v_this_signs v_this_lastSigns v_this_dirt v_this_time v1 v_this_notSign v_this_notKind v_this_measureMany f_this_board f2 f3) := hw
  refine lv_aload_n S.1 S.2.1 dX8_lines_4 rfl (lv_at hl 0 rfl) ?_
  refine z_get S (C := RX8) (T := TX8) (N := 30) (gi gu_X8) hK hw 0 rfl rfl 18 (Nat.le_of_ble_eq_true rfl) (List.mem_cons_of_mem _ gw_729) rfl dX8_lines_5 ?_
  exact ret (v1, v1, f2, f3) h 8 ls _ _ dX8_lines_8 hw
def gs_X8_findStaff : List Cond := Cond.code yX8_findStaff cX8_findStaff 6 (some .int) :: GW
def wd_X8_findStaff (cI cJ cZ : ClassId) (a_this a_this_board a_this_area a_this_x0 a_this_y0 a_this_x1 a_this_y1 a_this_head a_this_said a_this_low a_this_high a_this_least a_this_price a_this_way a_this_lineFirst a_this_lineLast a_this_left a_this_pile a_this_rest a_this_read a_this_measure a_this_wentBack : Nat) (v_this_run : Int32) (v_this_signs : Int32) (v_this_lastSigns : Int32) (v_this_dirt : Int32) (v_this_time : Int32) (v_this_lineMany : Int32) (v_this_notSign : Int32) (v_this_notKind : Int32) (v_this_measureMany : Int32) (f_this_board : Nat → Int64) (f_this_lineFirst : Nat → Int32) (f_this_lineLast : Nat → Int32) : va_W := [(a_this, .inr (8, [.ref a_this_board, .int v_this_run, .int v_this_signs, .int v_this_lastSigns, .ref a_this_area, .ref a_this_x0, .ref a_this_y0, .ref a_this_x1, .ref a_this_y1, .ref a_this_head, .ref a_this_said, .ref a_this_low, .ref a_this_high, .ref a_this_least, .ref a_this_price, .int v_this_dirt, .int v_this_time, .ref a_this_way, .int v_this_lineMany, .ref a_this_lineFirst, .ref a_this_lineLast, .ref a_this_left, .ref a_this_pile, .ref a_this_rest, .int v_this_notSign, .int v_this_notKind, .ref a_this_read, .ref a_this_measure, .int v_this_measureMany, .ref a_this_wentBack])), (a_this_board, .inl (cJ, 32, .inr (.inl f_this_board))), (a_this_lineFirst, .inl (cI, 32, .inl f_this_lineFirst)), (a_this_lineLast, .inl (cI, 32, .inl f_this_lineLast))]
abbrev rm_X8_findStaff : Room := { frames := 4, cells := 0, slots := 0, locals := 89 }
theorem hd_X8_findStaff : yX8_findStaff.cls = RX8 ∧ yX8_findStaff.cls ≠ "java/lang/invoke/MethodHandle" ∧ yX8_findStaff.cls ≠ "java/lang/invoke/VarHandle" ∧ (parseMethodDescriptor yX8_findStaff.desc).map (fun d => d.parameters.length) = some 0 := by decide +kernel
set_option maxHeartbeats 4000000 in
set_option maxRecDepth 100000 in
theorem c_X8_findStaff (l : Launch) (D : va_G) (cI cJ cZ : ClassId) (a_this a_this_board a_this_area a_this_x0 a_this_y0 a_this_x1 a_this_y1 a_this_head a_this_said a_this_low a_this_high a_this_least a_this_price a_this_way a_this_lineFirst a_this_lineLast a_this_left a_this_pile a_this_rest a_this_read a_this_measure a_this_wentBack : Nat) (v_this_run : Int32) (v_this_signs : Int32) (v_this_lastSigns : Int32) (v_this_dirt : Int32) (v_this_time : Int32) (v_this_lineMany : Int32) (v_this_notSign : Int32) (v_this_notKind : Int32) (v_this_measureMany : Int32) (f_this_board : Nat → Int64) (f_this_lineFirst : Nat → Int32) (f_this_lineLast : Nat → Int32) (K : Nat) (o : Int32 × Int32 × (Nat → Int32) × (Nat → Int32)) (h : p_X8_findStaff K v_this_run v_this_lineMany f_this_board f_this_lineFirst f_this_lineLast = some o) : zMi l D (zT cI cJ cZ) yX8_findStaff gs_X8_findStaff rm_X8_findStaff [.ref a_this] (wd_X8_findStaff cI cJ cZ a_this a_this_board a_this_area a_this_x0 a_this_y0 a_this_x1 a_this_y1 a_this_head a_this_said a_this_low a_this_high a_this_least a_this_price a_this_way a_this_lineFirst a_this_lineLast a_this_left a_this_pile a_this_rest a_this_read a_this_measure a_this_wentBack v_this_run v_this_signs v_this_lastSigns v_this_dirt v_this_time v_this_lineMany v_this_notSign v_this_notKind v_this_measureMany f_this_board f_this_lineFirst f_this_lineLast) (wd_X8_findStaff cI cJ cZ a_this a_this_board a_this_area a_this_x0 a_this_y0 a_this_x1 a_this_y1 a_this_head a_this_said a_this_low a_this_high a_this_least a_this_price a_this_way a_this_lineFirst a_this_lineLast a_this_left a_this_pile a_this_rest a_this_read a_this_measure a_this_wentBack v_this_run v_this_signs v_this_lastSigns v_this_dirt v_this_time (o.2.1) v_this_notSign v_this_notKind v_this_measureMany f_this_board (o.2.2.1) (o.2.2.2)) (o.1) := by
  refine zMet_i (own := RX8) (fun u : Int32 × Int32 × (Nat → Int32) × (Nat → Int32) => (wd_X8_findStaff cI cJ cZ a_this a_this_board a_this_area a_this_x0 a_this_y0 a_this_x1 a_this_y1 a_this_head a_this_said a_this_low a_this_high a_this_least a_this_price a_this_way a_this_lineFirst a_this_lineLast a_this_left a_this_pile a_this_rest a_this_read a_this_measure a_this_wentBack v_this_run v_this_signs v_this_lastSigns v_this_dirt v_this_time (u.2.1) v_this_notSign v_this_notKind v_this_measureMany f_this_board (u.2.2.1) (u.2.2.2))) (fun u : Int32 × Int32 × (Nat → Int32) × (Nat → Int32) => u.1) (by decide) rfl rfl (Nat.le_of_ble_eq_true rfl) ?_
  intro p e s m args below meth c A Q S hK hA hw ret ls hl
  replace hl : lv_has ls 6 [(0, .ref a_this)] := hl
  refine lv_aload_n S.1 S.2.1 dX8_findStaff_0 rfl (lv_at hl 0 rfl) ?_
  obtain ⟨v1, f2, f3, hc, h⟩ := z_b3_e h
  refine z_callVv (As := []) (rest := []) S (c_X8_findLines l D cI cJ cZ a_this a_this_board a_this_area a_this_x0 a_this_y0 a_this_x1 a_this_y1 a_this_head a_this_said a_this_low a_this_high a_this_least a_this_price a_this_way a_this_lineFirst a_this_lineLast a_this_left a_this_pile a_this_rest a_this_read a_this_measure a_this_wentBack v_this_run v_this_signs v_this_lastSigns v_this_dirt v_this_time v_this_lineMany v_this_notSign v_this_notKind v_this_measureMany f_this_board f_this_lineFirst f_this_lineLast K _ hc) (cwV 0 S.2.2.2.2 (gw_V gw_833 gw_835 gw_31 gw_58 gw_836) rfl rfl rfl hd_X8_findLines ⟨Nat.le_of_ble_eq_true rfl, Nat.le_of_ble_eq_true rfl⟩) hK hA hw [0, 1, 2, 3] (by decide) rfl rfl [some 0, some 1, some 2, some 3] rfl (by decide) 0 rfl rfl hl.1 rfl rfl (lv_room (Nat.le_of_ble_eq_true rfl)) ⟨Nat.zero_le _, Nat.zero_le _⟩ dX8_findStaff_1 (fun H locs hw => ?_)
  replace hw : zW D A s H locs (wd_X8_findStaff cI cJ cZ a_this a_this_board a_this_area a_this_x0 a_this_y0 a_this_x1 a_this_y1 a_this_head a_this_said a_this_low a_this_high a_this_least a_this_price a_this_way a_this_lineFirst a_this_lineLast a_this_left a_this_pile a_this_rest a_this_read a_this_measure a_this_wentBack v_this_run v_this_signs v_this_lastSigns v_this_dirt v_this_time v1 v_this_notSign v_this_notKind v_this_measureMany f_this_board f2 f3) := hw
  refine lv_iconst (v := 0) S.1 S.2.1 dX8_findStaff_4 (by decide) ?_
  refine lv_istore_n (lv' := [(1, .int 0), (0, .ref a_this)]) S.1 S.2.1 dX8_findStaff_5 rfl hl (by decide) rfl (fun ls hl => ?_)
  have L_6 : ∀ (n6_4 : Nat) (x4 : Int32) (h : z_lp1 (p_X8_findStaff_l6 v1 f2 f3 K) n6_4 x4 = some o) (H : Heap) (locs : List Loc) (ls : Array Slot), zW D A s H locs (wd_X8_findStaff cI cJ cZ a_this a_this_board a_this_area a_this_x0 a_this_y0 a_this_x1 a_this_y1 a_this_head a_this_said a_this_low a_this_high a_this_least a_this_price a_this_way a_this_lineFirst a_this_lineLast a_this_left a_this_pile a_this_rest a_this_read a_this_measure a_this_wentBack v_this_run v_this_signs v_this_lastSigns v_this_dirt v_this_time v1 v_this_notSign v_this_notKind v_this_measureMany f_this_board f2 f3) → lv_has ls 6 [(0, .ref a_this), (1, .int x4)] → W p l e (headSpec gs_X8_findStaff rm_X8_findStaff).room s m args below meth c H locs 0 0 Q (F0 m 6 ls []) := by
    intro n6_4
    induction n6_4 with
    | zero => intro x4 h; exact z_no h
    | succ n6_4 ih_6 =>
      intro x4 h H locs ls hw hl
      replace h : (p_X8_findStaff_l6 v1 f2 f3 K) (z_lp1 (p_X8_findStaff_l6 v1 f2 f3 K) n6_4) x4 = some o := h
      refine lv_iload_n S.1 S.2.1 dX8_findStaff_6 rfl (lv_at hl 1 rfl) ?_
      refine lv_iconst (v := 4) S.1 S.2.1 dX8_findStaff_7 (by decide) ?_
      refine lv_iadd S.1 S.2.1 dX8_findStaff_8 ?_
      refine lv_aload_n S.1 S.2.1 dX8_findStaff_9 rfl (lv_at hl 0 rfl) ?_
      refine z_get S (C := RX8) (T := TX8) (N := 30) (gi gu_X8) hK hw 0 rfl rfl 18 (Nat.le_of_ble_eq_true rfl) (List.mem_cons_of_mem _ gw_729) rfl dX8_findStaff_10 ?_
      refine z_icmp_ge S (tgt := 98) h dX8_findStaff_13 (by decide) (fun h => ?_) (fun h => ?_)
      · refine lv_iconst (v := (-1)) S.1 S.2.1 dX8_findStaff_98 (by decide) ?_
        exact ret ((-1), v1, f2, f3) h 99 ls _ _ dX8_findStaff_99 hw
      · refine lv_bipush (v := 100) S.1 S.2.1 dX8_findStaff_16 (by decide) ?_
        refine lv_istore_n (lv' := [(2, .int 100), (0, .ref a_this), (1, .int x4)]) S.1 S.2.1 dX8_findStaff_18 rfl hl (by decide) rfl (fun ls hl => ?_)
        refine lv_iconst (v := 0) S.1 S.2.1 dX8_findStaff_19 (by decide) ?_
        refine lv_istore_n (lv' := [(3, .int 0), (2, .int 100), (0, .ref a_this), (1, .int x4)]) S.1 S.2.1 dX8_findStaff_20 rfl hl (by decide) rfl (fun ls hl => ?_)
        refine lv_iload_n S.1 S.2.1 dX8_findStaff_21 rfl (lv_at hl 3 rfl) ?_
        refine lv_istore (lv' := [(4, .int x4), (3, .int 0), (2, .int 100), (0, .ref a_this), (1, .int x4)]) S.1 S.2.1 dX8_findStaff_22 hl (by decide) rfl (fun ls hl => ?_)
        have J_83 : ∀ (x5 : Int32) (x6 : Int32) (h : (p_X8_findStaff_j83 x4 v1 f2 f3 (z_lp1 (p_X8_findStaff_l6 v1 f2 f3 K) n6_4)) x5 x6 = some o) (H : Heap) (locs : List Loc) (ls : Array Slot), zW D A s H locs (wd_X8_findStaff cI cJ cZ a_this a_this_board a_this_area a_this_x0 a_this_y0 a_this_x1 a_this_y1 a_this_head a_this_said a_this_low a_this_high a_this_least a_this_price a_this_way a_this_lineFirst a_this_lineLast a_this_left a_this_pile a_this_rest a_this_read a_this_measure a_this_wentBack v_this_run v_this_signs v_this_lastSigns v_this_dirt v_this_time v1 v_this_notSign v_this_notKind v_this_measureMany f_this_board f2 f3) → lv_has ls 6 [(0, .ref a_this), (1, .int x4), (2, .int x5), (3, .int x6)] → W p l e (headSpec gs_X8_findStaff rm_X8_findStaff).room s m args below meth c H locs 0 0 Q (F0 m 83 ls []) := by
          intro x5 x6 h H locs ls hw hl
          refine lv_iload_n S.1 S.2.1 dX8_findStaff_83 rfl (lv_at hl 3 rfl) ?_
          refine lv_iload_n S.1 S.2.1 dX8_findStaff_84 rfl (lv_at hl 2 rfl) ?_
          refine lv_isub S.1 S.2.1 dX8_findStaff_85 ?_
          refine lv_iconst (v := 1) S.1 S.2.1 dX8_findStaff_86 (by decide) ?_
          refine z_icmp_gt S (tgt := 92) h dX8_findStaff_87 (by decide) (fun h => ?_) (fun h => ?_)
          · refine z_iinc S (i := 1) (k := 1) (v := x4 + 1) hl rfl (by decide) rfl (fun v => (1, .int v) :: [(0, .ref a_this), (2, .int x5), (3, .int x6)]) (fun _ => rfl) h dX8_findStaff_92 (fun y7 ls hl h => ?_)
            replace hl : lv_has ls 6 [(1, .int y7), (0, .ref a_this), (2, .int x5), (3, .int x6)] := hl
            refine lv_goto (tgt := 6) S.1 S.2.1 dX8_findStaff_95 (by decide) ?_
            exact ih_6 y7 h _ _ ls hw (lv_sub hl [1, 0] rfl)
          · refine lv_iload_n S.1 S.2.1 dX8_findStaff_90 rfl (lv_at hl 1 rfl) ?_
            exact ret (x4, v1, f2, f3) h 91 ls _ _ dX8_findStaff_91 hw
        have L_24 : ∀ (n24_10 : Nat) (x8 : Int32) (x9 : Int32) (x10 : Int32) (h : z_lp3 (p_X8_findStaff_l24 x4 f2 (p_X8_findStaff_j83 x4 v1 f2 f3 (z_lp1 (p_X8_findStaff_l6 v1 f2 f3 K) n6_4))) n24_10 x8 x9 x10 = some o) (H : Heap) (locs : List Loc) (ls : Array Slot), zW D A s H locs (wd_X8_findStaff cI cJ cZ a_this a_this_board a_this_area a_this_x0 a_this_y0 a_this_x1 a_this_y1 a_this_head a_this_said a_this_low a_this_high a_this_least a_this_price a_this_way a_this_lineFirst a_this_lineLast a_this_left a_this_pile a_this_rest a_this_read a_this_measure a_this_wentBack v_this_run v_this_signs v_this_lastSigns v_this_dirt v_this_time v1 v_this_notSign v_this_notKind v_this_measureMany f_this_board f2 f3) → lv_has ls 6 [(0, .ref a_this), (1, .int x4), (2, .int x8), (3, .int x9), (4, .int x10)] → W p l e (headSpec gs_X8_findStaff rm_X8_findStaff).room s m args below meth c H locs 0 0 Q (F0 m 24 ls []) := by
          intro n24_10
          induction n24_10 with
          | zero => intro x8 x9 x10 h; exact z_no h
          | succ n24_10 ih_24 =>
            intro x8 x9 x10 h H locs ls hw hl
            replace h : (p_X8_findStaff_l24 x4 f2 (p_X8_findStaff_j83 x4 v1 f2 f3 (z_lp1 (p_X8_findStaff_l6 v1 f2 f3 K) n6_4))) (z_lp3 (p_X8_findStaff_l24 x4 f2 (p_X8_findStaff_j83 x4 v1 f2 f3 (z_lp1 (p_X8_findStaff_l6 v1 f2 f3 K) n6_4))) n24_10) x8 x9 x10 = some o := h
            refine lv_iload S.1 S.2.1 dX8_findStaff_24 (lv_at hl 4 rfl) ?_
            refine lv_iload_n S.1 S.2.1 dX8_findStaff_26 rfl (lv_at hl 1 rfl) ?_
            refine lv_iconst (v := 4) S.1 S.2.1 dX8_findStaff_27 (by decide) ?_
            refine lv_iadd S.1 S.2.1 dX8_findStaff_28 ?_
            refine z_icmp_ge S (tgt := 83) h dX8_findStaff_29 (by decide) (fun h => ?_) (fun h => ?_)
            · exact J_83 x8 x9 h _ _ ls hw (lv_sub hl [0, 1, 2, 3] rfl)
            · refine lv_aload_n S.1 S.2.1 dX8_findStaff_32 rfl (lv_at hl 0 rfl) ?_
              refine z_get S (C := RX8) (T := TX8) (N := 30) (gi gu_X8) hK hw 0 rfl rfl 19 (Nat.le_of_ble_eq_true rfl) (List.mem_cons_of_mem _ gw_730) rfl dX8_findStaff_33 ?_
              refine lv_iload S.1 S.2.1 dX8_findStaff_36 (lv_at hl 4 rfl) ?_
              refine lv_iconst (v := 1) S.1 S.2.1 dX8_findStaff_38 (by decide) ?_
              refine lv_iadd S.1 S.2.1 dX8_findStaff_39 ?_
              refine z_iald S hK hw 2 0 rfl rfl h dX8_findStaff_40 (fun y11 h => ?_)
              refine lv_aload_n S.1 S.2.1 dX8_findStaff_41 rfl (lv_at hl 0 rfl) ?_
              refine z_get S (C := RX8) (T := TX8) (N := 30) (gi gu_X8) hK hw 0 rfl rfl 19 (Nat.le_of_ble_eq_true rfl) (List.mem_cons_of_mem _ gw_730) rfl dX8_findStaff_42 ?_
              refine lv_iload S.1 S.2.1 dX8_findStaff_45 (lv_at hl 4 rfl) ?_
              refine z_iald S hK hw 2 0 rfl rfl h dX8_findStaff_47 (fun y12 h => ?_)
              refine lv_isub S.1 S.2.1 dX8_findStaff_48 ?_
              refine z_leti h (fun y13 h => ?_)
              refine lv_istore (lv' := [(5, .int y13), (0, .ref a_this), (1, .int x4), (2, .int x8), (3, .int x9), (4, .int x10)]) S.1 S.2.1 dX8_findStaff_49 hl (by decide) rfl (fun ls hl => ?_)
              refine lv_iload S.1 S.2.1 dX8_findStaff_51 (lv_at hl 0 rfl) ?_
              refine lv_iload_n S.1 S.2.1 dX8_findStaff_53 rfl (lv_at hl 3 rfl) ?_
              have J_63 : ∀ (z14 : Int32) (h : (p_X8_findStaff_j63 y13 x9 x10 (z_lp3 (p_X8_findStaff_l24 x4 f2 (p_X8_findStaff_j83 x4 v1 f2 f3 (z_lp1 (p_X8_findStaff_l6 v1 f2 f3 K) n6_4))) n24_10)) z14 = some o) (H : Heap) (locs : List Loc) (ls : Array Slot), zW D A s H locs (wd_X8_findStaff cI cJ cZ a_this a_this_board a_this_area a_this_x0 a_this_y0 a_this_x1 a_this_y1 a_this_head a_this_said a_this_low a_this_high a_this_least a_this_price a_this_way a_this_lineFirst a_this_lineLast a_this_left a_this_pile a_this_rest a_this_read a_this_measure a_this_wentBack v_this_run v_this_signs v_this_lastSigns v_this_dirt v_this_time v1 v_this_notSign v_this_notKind v_this_measureMany f_this_board f2 f3) → lv_has ls 6 [(0, .ref a_this), (1, .int x4), (3, .int x9), (4, .int x10), (5, .int y13)] → W p l e (headSpec gs_X8_findStaff rm_X8_findStaff).room s m args below meth c H locs 0 0 Q (F0 m 63 ls [.int z14]) := by
                intro z14 h H locs ls hw hl
                refine lv_istore_n (lv' := [(2, .int z14), (0, .ref a_this), (1, .int x4), (3, .int x9), (4, .int x10), (5, .int y13)]) S.1 S.2.1 dX8_findStaff_63 rfl hl (by decide) rfl (fun ls hl => ?_)
                refine lv_iload S.1 S.2.1 dX8_findStaff_64 (lv_at hl 5 rfl) ?_
                refine lv_iload_n S.1 S.2.1 dX8_findStaff_66 rfl (lv_at hl 3 rfl) ?_
                refine z_icmp_le S (tgt := 75) h dX8_findStaff_67 (by decide) (fun h => ?_) (fun h => ?_)
                · refine lv_iload_n S.1 S.2.1 dX8_findStaff_75 rfl (lv_at hl 3 rfl) ?_
                  refine lv_istore_n (lv' := [(3, .int x9), (2, .int z14), (0, .ref a_this), (1, .int x4), (4, .int x10), (5, .int y13)]) S.1 S.2.1 dX8_findStaff_76 rfl hl (by decide) rfl (fun ls hl => ?_)
                  refine z_iinc S (i := 4) (k := 4) (v := x10 + 1) hl rfl (by decide) rfl (fun v => (4, .int v) :: [(3, .int x9), (2, .int z14), (0, .ref a_this), (1, .int x4), (5, .int y13)]) (fun _ => rfl) h dX8_findStaff_77 (fun y15 ls hl h => ?_)
                  replace hl : lv_has ls 6 [(4, .int y15), (3, .int x9), (2, .int z14), (0, .ref a_this), (1, .int x4), (5, .int y13)] := hl
                  refine lv_goto (tgt := 24) S.1 S.2.1 dX8_findStaff_80 (by decide) ?_
                  exact ih_24 z14 x9 y15 h _ _ ls hw (lv_sub hl [3, 4, 2, 1, 0] rfl)
                · refine lv_iload S.1 S.2.1 dX8_findStaff_70 (lv_at hl 5 rfl) ?_
                  refine lv_goto (tgt := 76) S.1 S.2.1 dX8_findStaff_72 (by decide) ?_
                  refine lv_istore_n (lv' := [(3, .int y13), (2, .int z14), (0, .ref a_this), (1, .int x4), (4, .int x10), (5, .int y13)]) S.1 S.2.1 dX8_findStaff_76 rfl hl (by decide) rfl (fun ls hl => ?_)
                  refine z_iinc S (i := 4) (k := 4) (v := x10 + 1) hl rfl (by decide) rfl (fun v => (4, .int v) :: [(3, .int y13), (2, .int z14), (0, .ref a_this), (1, .int x4), (5, .int y13)]) (fun _ => rfl) h dX8_findStaff_77 (fun y16 ls hl h => ?_)
                  replace hl : lv_has ls 6 [(4, .int y16), (3, .int y13), (2, .int z14), (0, .ref a_this), (1, .int x4), (5, .int y13)] := hl
                  refine lv_goto (tgt := 24) S.1 S.2.1 dX8_findStaff_80 (by decide) ?_
                  exact ih_24 z14 y13 y16 h _ _ ls hw (lv_sub hl [3, 4, 2, 1, 0] rfl)
              refine z_icmp_ge S (tgt := 62) h dX8_findStaff_54 (by decide) (fun h => ?_) (fun h => ?_)
              · refine lv_iload_n S.1 S.2.1 dX8_findStaff_62 rfl (lv_at hl 3 rfl) ?_
                exact J_63 x8 h _ _ ls hw (lv_sub hl [1, 2, 4, 5, 0] rfl)
              · refine lv_iload S.1 S.2.1 dX8_findStaff_57 (lv_at hl 0 rfl) ?_
                refine lv_goto (tgt := 63) S.1 S.2.1 dX8_findStaff_59 (by decide) ?_
                exact J_63 y13 h _ _ ls hw (lv_sub hl [1, 2, 4, 5, 0] rfl)
        exact L_24 K 100 0 x4 h _ _ ls hw (lv_sub hl [3, 4, 2, 1, 0] rfl)
  exact L_6 K 0 h _ _ ls hw (lv_sub hl [1, 0] rfl)
theorem gw_845 : Cond.methodLink RX8 122 yX8_findStaff ∈ GW := GW_of 845 (by decide +kernel) (by decide +kernel)
theorem gw_848 : Cond.code yX8_findStaff cX8_findStaff 6 (some .int) ∈ GW := GW_of 848 (by decide +kernel) (by decide +kernel)
theorem gw_847 : Cond.instanceMethod yX8_findStaff ∈ GW := GW_of 847 (by decide +kernel) (by decide +kernel)
theorem gw_33 : Cond.selects RX8 yX8_findStaff yX8_findStaff ∈ GW := GW_of 33 (by decide +kernel) (by decide +kernel)
def gs_X8_staff : List Cond := Cond.code yX8_staff cX8_staff 4 (some .int) :: GW
def wd_X8_staff (cI cJ cZ : ClassId) (a_this a_this_board a_this_area a_this_x0 a_this_y0 a_this_x1 a_this_y1 a_this_head a_this_said a_this_low a_this_high a_this_least a_this_price a_this_way a_this_lineFirst a_this_lineLast a_this_left a_this_pile a_this_rest a_this_read a_this_measure a_this_wentBack : Nat) (v_this_run : Int32) (v_this_signs : Int32) (v_this_lastSigns : Int32) (v_this_dirt : Int32) (v_this_time : Int32) (v_this_lineMany : Int32) (v_this_notSign : Int32) (v_this_notKind : Int32) (v_this_measureMany : Int32) (f_this_board : Nat → Int64) (f_this_lineFirst : Nat → Int32) (f_this_lineLast : Nat → Int32) : va_W := [(a_this, .inr (8, [.ref a_this_board, .int v_this_run, .int v_this_signs, .int v_this_lastSigns, .ref a_this_area, .ref a_this_x0, .ref a_this_y0, .ref a_this_x1, .ref a_this_y1, .ref a_this_head, .ref a_this_said, .ref a_this_low, .ref a_this_high, .ref a_this_least, .ref a_this_price, .int v_this_dirt, .int v_this_time, .ref a_this_way, .int v_this_lineMany, .ref a_this_lineFirst, .ref a_this_lineLast, .ref a_this_left, .ref a_this_pile, .ref a_this_rest, .int v_this_notSign, .int v_this_notKind, .ref a_this_read, .ref a_this_measure, .int v_this_measureMany, .ref a_this_wentBack])), (a_this_board, .inl (cJ, 32, .inr (.inl f_this_board))), (a_this_lineFirst, .inl (cI, 32, .inl f_this_lineFirst)), (a_this_lineLast, .inl (cI, 32, .inl f_this_lineLast))]
abbrev rm_X8_staff : Room := { frames := 5, cells := 0, slots := 0, locals := 114 }
theorem hd_X8_staff : yX8_staff.cls = RX8 ∧ yX8_staff.cls ≠ "java/lang/invoke/MethodHandle" ∧ yX8_staff.cls ≠ "java/lang/invoke/VarHandle" ∧ (parseMethodDescriptor yX8_staff.desc).map (fun d => d.parameters.length) = some 2 := by decide +kernel
set_option maxHeartbeats 4000000 in
set_option maxRecDepth 100000 in
theorem c_X8_staff (l : Launch) (D : va_G) (cI cJ cZ : ClassId) (a_this a_this_board a_this_area a_this_x0 a_this_y0 a_this_x1 a_this_y1 a_this_head a_this_said a_this_low a_this_high a_this_least a_this_price a_this_way a_this_lineFirst a_this_lineLast a_this_left a_this_pile a_this_rest a_this_read a_this_measure a_this_wentBack : Nat) (v_this_run : Int32) (v_this_signs : Int32) (v_this_lastSigns : Int32) (v_this_dirt : Int32) (v_this_time : Int32) (v_this_lineMany : Int32) (v_this_notSign : Int32) (v_this_notKind : Int32) (v_this_measureMany : Int32) (f_this_board : Nat → Int64) (f_this_lineFirst : Nat → Int32) (f_this_lineLast : Nat → Int32) (K : Nat) (i1 : Int32) (i2 : Int32) (o : Int32 × Int32 × (Nat → Int32) × (Nat → Int32)) (h : p_X8_staff K v_this_run v_this_lineMany f_this_board f_this_lineFirst f_this_lineLast i1 i2 = some o) : zMi l D (zT cI cJ cZ) yX8_staff gs_X8_staff rm_X8_staff [.ref a_this, .int i1, .int i2] (wd_X8_staff cI cJ cZ a_this a_this_board a_this_area a_this_x0 a_this_y0 a_this_x1 a_this_y1 a_this_head a_this_said a_this_low a_this_high a_this_least a_this_price a_this_way a_this_lineFirst a_this_lineLast a_this_left a_this_pile a_this_rest a_this_read a_this_measure a_this_wentBack v_this_run v_this_signs v_this_lastSigns v_this_dirt v_this_time v_this_lineMany v_this_notSign v_this_notKind v_this_measureMany f_this_board f_this_lineFirst f_this_lineLast) (wd_X8_staff cI cJ cZ a_this a_this_board a_this_area a_this_x0 a_this_y0 a_this_x1 a_this_y1 a_this_head a_this_said a_this_low a_this_high a_this_least a_this_price a_this_way a_this_lineFirst a_this_lineLast a_this_left a_this_pile a_this_rest a_this_read a_this_measure a_this_wentBack v_this_run v_this_signs v_this_lastSigns v_this_dirt v_this_time (o.2.1) v_this_notSign v_this_notKind v_this_measureMany f_this_board (o.2.2.1) (o.2.2.2)) (o.1) := by
  refine zMet_i (own := RX8) (fun u : Int32 × Int32 × (Nat → Int32) × (Nat → Int32) => (wd_X8_staff cI cJ cZ a_this a_this_board a_this_area a_this_x0 a_this_y0 a_this_x1 a_this_y1 a_this_head a_this_said a_this_low a_this_high a_this_least a_this_price a_this_way a_this_lineFirst a_this_lineLast a_this_left a_this_pile a_this_rest a_this_read a_this_measure a_this_wentBack v_this_run v_this_signs v_this_lastSigns v_this_dirt v_this_time (u.2.1) v_this_notSign v_this_notKind v_this_measureMany f_this_board (u.2.2.1) (u.2.2.2))) (fun u : Int32 × Int32 × (Nat → Int32) × (Nat → Int32) => u.1) (by decide) rfl rfl (Nat.le_of_ble_eq_true rfl) ?_
  intro p e s m args below meth c A Q S hK hA hw ret ls hl
  replace hl : lv_has ls 4 [(0, .ref a_this), (1, .int i1), (2, .int i2)] := hl
  refine lv_iload_n S.1 S.2.1 dX8_staff_0 rfl (lv_at hl 1 rfl) ?_
  refine lv_iconst (v := 0) S.1 S.2.1 dX8_staff_1 (by decide) ?_
  refine lv_iconst (v := 4) S.1 S.2.1 dX8_staff_2 (by decide) ?_
  obtain ⟨y1, hc, h⟩ := z_b1_e h
  refine z_callSi (As := [.int i1, .int 0, .int 4]) (rest := []) S (c_X8_in l D cI cJ cZ i1 0 4 _ hc) (va_cwS 3 S.2.2.2.2 (gw_S gw_807 gw_808 gw_58 gw_809) rfl rfl rfl hd_X8_in ⟨Nat.le_of_ble_eq_true rfl, Nat.le_of_ble_eq_true rfl⟩) hK hA hw [] (by decide) rfl rfl [none, none, none, none] rfl (by decide) hl.1 rfl rfl (lv_room (Nat.le_of_ble_eq_true rfl)) ⟨Nat.zero_le _, Nat.zero_le _⟩ dX8_staff_3 (fun H locs hw => ?_)
  replace hw : zW D A s H locs (wd_X8_staff cI cJ cZ a_this a_this_board a_this_area a_this_x0 a_this_y0 a_this_x1 a_this_y1 a_this_head a_this_said a_this_low a_this_high a_this_least a_this_price a_this_way a_this_lineFirst a_this_lineLast a_this_left a_this_pile a_this_rest a_this_read a_this_measure a_this_wentBack v_this_run v_this_signs v_this_lastSigns v_this_dirt v_this_time v_this_lineMany v_this_notSign v_this_notKind v_this_measureMany f_this_board f_this_lineFirst f_this_lineLast) := hw
  refine z_if_eq S (tgt := 18) h dX8_staff_6 (by decide) (fun h => ?_) (fun h => ?_)
  · refine lv_bipush (v := (-2)) S.1 S.2.1 dX8_staff_18 (by decide) ?_
    exact ret ((-2), v_this_lineMany, f_this_lineFirst, f_this_lineLast) h 20 ls _ _ dX8_staff_20 hw
  · refine lv_iload_n S.1 S.2.1 dX8_staff_9 rfl (lv_at hl 2 rfl) ?_
    refine lv_iconst (v := 0) S.1 S.2.1 dX8_staff_10 (by decide) ?_
    refine lv_iconst (v := 1) S.1 S.2.1 dX8_staff_11 (by decide) ?_
    obtain ⟨y2, hc, h⟩ := z_b1_e h
    refine z_callSi (As := [.int i2, .int 0, .int 1]) (rest := []) S (c_X8_in l D cI cJ cZ i2 0 1 _ hc) (va_cwS 3 S.2.2.2.2 (gw_S gw_807 gw_808 gw_58 gw_809) rfl rfl rfl hd_X8_in ⟨Nat.le_of_ble_eq_true rfl, Nat.le_of_ble_eq_true rfl⟩) hK hA hw [] (by decide) rfl rfl [none, none, none, none] rfl (by decide) hl.1 rfl rfl (lv_room (Nat.le_of_ble_eq_true rfl)) ⟨Nat.zero_le _, Nat.zero_le _⟩ dX8_staff_12 (fun H locs hw => ?_)
    replace hw : zW D A s H locs (wd_X8_staff cI cJ cZ a_this a_this_board a_this_area a_this_x0 a_this_y0 a_this_x1 a_this_y1 a_this_head a_this_said a_this_low a_this_high a_this_least a_this_price a_this_way a_this_lineFirst a_this_lineLast a_this_left a_this_pile a_this_rest a_this_read a_this_measure a_this_wentBack v_this_run v_this_signs v_this_lastSigns v_this_dirt v_this_time v_this_lineMany v_this_notSign v_this_notKind v_this_measureMany f_this_board f_this_lineFirst f_this_lineLast) := hw
    refine z_if_ne S (tgt := 21) h dX8_staff_15 (by decide) (fun h => ?_) (fun h => ?_)
    · refine lv_aload_n S.1 S.2.1 dX8_staff_21 rfl (lv_at hl 0 rfl) ?_
      obtain ⟨y3, v4, f5, f6, hc, h⟩ := z_b4_e h
      refine z_callVi (As := []) (rest := []) S (c_X8_findStaff l D cI cJ cZ a_this a_this_board a_this_area a_this_x0 a_this_y0 a_this_x1 a_this_y1 a_this_head a_this_said a_this_low a_this_high a_this_least a_this_price a_this_way a_this_lineFirst a_this_lineLast a_this_left a_this_pile a_this_rest a_this_read a_this_measure a_this_wentBack v_this_run v_this_signs v_this_lastSigns v_this_dirt v_this_time v_this_lineMany v_this_notSign v_this_notKind v_this_measureMany f_this_board f_this_lineFirst f_this_lineLast K _ hc) (cwV 0 S.2.2.2.2 (gw_V gw_845 gw_847 gw_33 gw_58 gw_848) rfl rfl rfl hd_X8_findStaff ⟨Nat.le_of_ble_eq_true rfl, Nat.le_of_ble_eq_true rfl⟩) hK hA hw [0, 1, 2, 3] (by decide) rfl rfl [some 0, some 1, some 2, some 3] rfl (by decide) 0 rfl rfl hl.1 rfl rfl (lv_room (Nat.le_of_ble_eq_true rfl)) ⟨Nat.zero_le _, Nat.zero_le _⟩ dX8_staff_22 (fun H locs hw => ?_)
      replace hw : zW D A s H locs (wd_X8_staff cI cJ cZ a_this a_this_board a_this_area a_this_x0 a_this_y0 a_this_x1 a_this_y1 a_this_head a_this_said a_this_low a_this_high a_this_least a_this_price a_this_way a_this_lineFirst a_this_lineLast a_this_left a_this_pile a_this_rest a_this_read a_this_measure a_this_wentBack v_this_run v_this_signs v_this_lastSigns v_this_dirt v_this_time v4 v_this_notSign v_this_notKind v_this_measureMany f_this_board f5 f6) := hw
      refine lv_istore_n (lv' := [(3, .int y3), (0, .ref a_this), (1, .int i1), (2, .int i2)]) S.1 S.2.1 dX8_staff_25 rfl hl (by decide) rfl (fun ls hl => ?_)
      refine lv_iload_n S.1 S.2.1 dX8_staff_26 rfl (lv_at hl 0 rfl) ?_
      refine lv_iconst (v := (-1)) S.1 S.2.1 dX8_staff_27 (by decide) ?_
      refine z_icmp_ne S (tgt := 36) h dX8_staff_28 (by decide) (fun h => ?_) (fun h => ?_)
      · refine lv_iload_n S.1 S.2.1 dX8_staff_36 rfl (lv_at hl 3 rfl) ?_
        refine z_if_ne S (tgt := 51) h dX8_staff_37 (by decide) (fun h => ?_) (fun h => ?_)
        · refine lv_aload_n S.1 S.2.1 dX8_staff_51 rfl (lv_at hl 1 rfl) ?_
          refine z_get S (C := RX8) (T := TX8) (N := 30) (gi gu_X8) hK hw 0 rfl rfl 20 (Nat.le_of_ble_eq_true rfl) (List.mem_cons_of_mem _ gw_731) rfl dX8_staff_52 ?_
          refine lv_iload_n S.1 S.2.1 dX8_staff_55 rfl (lv_at hl 0 rfl) ?_
          refine lv_iload_n S.1 S.2.1 dX8_staff_56 rfl (lv_at hl 2 rfl) ?_
          refine lv_iadd S.1 S.2.1 dX8_staff_57 ?_
          refine z_iald S hK hw 3 0 rfl rfl h dX8_staff_58 (fun y7 h => ?_)
          exact ret (y7, v4, f5, f6) h 59 ls _ _ dX8_staff_59 hw
        · refine lv_aload_n S.1 S.2.1 dX8_staff_40 rfl (lv_at hl 1 rfl) ?_
          refine z_get S (C := RX8) (T := TX8) (N := 30) (gi gu_X8) hK hw 0 rfl rfl 19 (Nat.le_of_ble_eq_true rfl) (List.mem_cons_of_mem _ gw_730) rfl dX8_staff_41 ?_
          refine lv_iload_n S.1 S.2.1 dX8_staff_44 rfl (lv_at hl 0 rfl) ?_
          refine lv_iload_n S.1 S.2.1 dX8_staff_45 rfl (lv_at hl 2 rfl) ?_
          refine lv_iadd S.1 S.2.1 dX8_staff_46 ?_
          refine z_iald S hK hw 2 0 rfl rfl h dX8_staff_47 (fun y8 h => ?_)
          refine lv_goto (tgt := 59) S.1 S.2.1 dX8_staff_48 (by decide) ?_
          exact ret (y8, v4, f5, f6) h 59 ls _ _ dX8_staff_59 hw
      · refine lv_bipush (v := (-3)) S.1 S.2.1 dX8_staff_31 (by decide) ?_
        refine lv_goto (tgt := 59) S.1 S.2.1 dX8_staff_33 (by decide) ?_
        exact ret ((-3), v4, f5, f6) h 59 ls _ _ dX8_staff_59 hw
    · refine lv_bipush (v := (-2)) S.1 S.2.1 dX8_staff_18 (by decide) ?_
      exact ret ((-2), v_this_lineMany, f_this_lineFirst, f_this_lineLast) h 20 ls _ _ dX8_staff_20 hw
theorem gw_732 : Cond.fieldLink RX8 72 "ScoreReaderModel" "left" "[J" ∈ GW := GW_of 732 (by decide +kernel) (by decide +kernel)
theorem gw_857 : Cond.constantLong RX8 126 (-1) ∈ GW := GW_of 857 (by decide +kernel) (by decide +kernel)
def gs_X8_takeOff : List Cond := Cond.code yX8_takeOff cX8_takeOff 5 none :: GW
def wd_X8_takeOff (cI cJ cZ : ClassId) (a_this a_this_board a_this_area a_this_x0 a_this_y0 a_this_x1 a_this_y1 a_this_head a_this_said a_this_low a_this_high a_this_least a_this_price a_this_way a_this_lineFirst a_this_lineLast a_this_left a_this_pile a_this_rest a_this_read a_this_measure a_this_wentBack : Nat) (v_this_run : Int32) (v_this_signs : Int32) (v_this_lastSigns : Int32) (v_this_dirt : Int32) (v_this_time : Int32) (v_this_lineMany : Int32) (v_this_notSign : Int32) (v_this_notKind : Int32) (v_this_measureMany : Int32) (f_this_board : Nat → Int64) (f_this_lineFirst : Nat → Int32) (f_this_lineLast : Nat → Int32) (f_this_left : Nat → Int64) : va_W := [(a_this, .inr (8, [.ref a_this_board, .int v_this_run, .int v_this_signs, .int v_this_lastSigns, .ref a_this_area, .ref a_this_x0, .ref a_this_y0, .ref a_this_x1, .ref a_this_y1, .ref a_this_head, .ref a_this_said, .ref a_this_low, .ref a_this_high, .ref a_this_least, .ref a_this_price, .int v_this_dirt, .int v_this_time, .ref a_this_way, .int v_this_lineMany, .ref a_this_lineFirst, .ref a_this_lineLast, .ref a_this_left, .ref a_this_pile, .ref a_this_rest, .int v_this_notSign, .int v_this_notKind, .ref a_this_read, .ref a_this_measure, .int v_this_measureMany, .ref a_this_wentBack])), (a_this_board, .inl (cJ, 32, .inr (.inl f_this_board))), (a_this_lineFirst, .inl (cI, 32, .inl f_this_lineFirst)), (a_this_lineLast, .inl (cI, 32, .inl f_this_lineLast)), (a_this_left, .inl (cJ, 32, .inr (.inl f_this_left)))]
abbrev rm_X8_takeOff : Room := { frames := 5, cells := 0, slots := 0, locals := 114 }
theorem hd_X8_takeOff : yX8_takeOff.cls = RX8 ∧ yX8_takeOff.cls ≠ "java/lang/invoke/MethodHandle" ∧ yX8_takeOff.cls ≠ "java/lang/invoke/VarHandle" ∧ (parseMethodDescriptor yX8_takeOff.desc).map (fun d => d.parameters.length) = some 0 := by decide +kernel
set_option maxHeartbeats 4000000 in
set_option maxRecDepth 100000 in
theorem c_X8_takeOff (l : Launch) (D : va_G) (cI cJ cZ : ClassId) (a_this a_this_board a_this_area a_this_x0 a_this_y0 a_this_x1 a_this_y1 a_this_head a_this_said a_this_low a_this_high a_this_least a_this_price a_this_way a_this_lineFirst a_this_lineLast a_this_left a_this_pile a_this_rest a_this_read a_this_measure a_this_wentBack : Nat) (v_this_run : Int32) (v_this_signs : Int32) (v_this_lastSigns : Int32) (v_this_dirt : Int32) (v_this_time : Int32) (v_this_lineMany : Int32) (v_this_notSign : Int32) (v_this_notKind : Int32) (v_this_measureMany : Int32) (f_this_board : Nat → Int64) (f_this_lineFirst : Nat → Int32) (f_this_lineLast : Nat → Int32) (f_this_left : Nat → Int64) (K : Nat) (o : Int32 × (Nat → Int32) × (Nat → Int32) × (Nat → Int64)) (h : p_X8_takeOff K v_this_run v_this_lineMany f_this_board f_this_lineFirst f_this_lineLast f_this_left = some o) : zMv l D (zT cI cJ cZ) yX8_takeOff gs_X8_takeOff rm_X8_takeOff [.ref a_this] (wd_X8_takeOff cI cJ cZ a_this a_this_board a_this_area a_this_x0 a_this_y0 a_this_x1 a_this_y1 a_this_head a_this_said a_this_low a_this_high a_this_least a_this_price a_this_way a_this_lineFirst a_this_lineLast a_this_left a_this_pile a_this_rest a_this_read a_this_measure a_this_wentBack v_this_run v_this_signs v_this_lastSigns v_this_dirt v_this_time v_this_lineMany v_this_notSign v_this_notKind v_this_measureMany f_this_board f_this_lineFirst f_this_lineLast f_this_left) (wd_X8_takeOff cI cJ cZ a_this a_this_board a_this_area a_this_x0 a_this_y0 a_this_x1 a_this_y1 a_this_head a_this_said a_this_low a_this_high a_this_least a_this_price a_this_way a_this_lineFirst a_this_lineLast a_this_left a_this_pile a_this_rest a_this_read a_this_measure a_this_wentBack v_this_run v_this_signs v_this_lastSigns v_this_dirt v_this_time (o.1) v_this_notSign v_this_notKind v_this_measureMany f_this_board (o.2.1) (o.2.2.1) (o.2.2.2)) := by
  refine zMet_v (own := RX8) (fun u : Int32 × (Nat → Int32) × (Nat → Int32) × (Nat → Int64) => (wd_X8_takeOff cI cJ cZ a_this a_this_board a_this_area a_this_x0 a_this_y0 a_this_x1 a_this_y1 a_this_head a_this_said a_this_low a_this_high a_this_least a_this_price a_this_way a_this_lineFirst a_this_lineLast a_this_left a_this_pile a_this_rest a_this_read a_this_measure a_this_wentBack v_this_run v_this_signs v_this_lastSigns v_this_dirt v_this_time (u.1) v_this_notSign v_this_notKind v_this_measureMany f_this_board (u.2.1) (u.2.2.1) (u.2.2.2))) (by decide) rfl rfl (Nat.le_of_ble_eq_true rfl) ?_
  intro p e s m args below meth c A Q S hK hA hw ret ls hl
  replace hl : lv_has ls 5 [(0, .ref a_this)] := hl
  refine lv_iconst (v := 0) S.1 S.2.1 dX8_takeOff_0 (by decide) ?_
  refine lv_istore_n (lv' := [(1, .int 0), (0, .ref a_this)]) S.1 S.2.1 dX8_takeOff_1 rfl hl (by decide) rfl (fun ls hl => ?_)
  have J_26 : ∀ (f1 : Nat → Int64) (h : (p_X8_takeOff_j26 K v_this_run v_this_lineMany f_this_board f_this_lineFirst f_this_lineLast) f1 = some o) (H : Heap) (locs : List Loc) (ls : Array Slot), zW D A s H locs (wd_X8_takeOff cI cJ cZ a_this a_this_board a_this_area a_this_x0 a_this_y0 a_this_x1 a_this_y1 a_this_head a_this_said a_this_low a_this_high a_this_least a_this_price a_this_way a_this_lineFirst a_this_lineLast a_this_left a_this_pile a_this_rest a_this_read a_this_measure a_this_wentBack v_this_run v_this_signs v_this_lastSigns v_this_dirt v_this_time v_this_lineMany v_this_notSign v_this_notKind v_this_measureMany f_this_board f_this_lineFirst f_this_lineLast f1) → lv_has ls 5 [(0, .ref a_this)] → W p l e (headSpec gs_X8_takeOff rm_X8_takeOff).room s m args below meth c H locs 0 0 Q (F0 m 26 ls []) := by
    intro f1 h H locs ls hw hl
    refine lv_aload_n S.1 S.2.1 dX8_takeOff_26 rfl (lv_at hl 0 rfl) ?_
    obtain ⟨y2, v3, f4, f5, hc, h⟩ := z_b4_e h
    refine z_callVi (As := []) (rest := []) S (c_X8_findStaff l D cI cJ cZ a_this a_this_board a_this_area a_this_x0 a_this_y0 a_this_x1 a_this_y1 a_this_head a_this_said a_this_low a_this_high a_this_least a_this_price a_this_way a_this_lineFirst a_this_lineLast a_this_left a_this_pile a_this_rest a_this_read a_this_measure a_this_wentBack v_this_run v_this_signs v_this_lastSigns v_this_dirt v_this_time v_this_lineMany v_this_notSign v_this_notKind v_this_measureMany f_this_board f_this_lineFirst f_this_lineLast K _ hc) (cwV 0 S.2.2.2.2 (gw_V gw_845 gw_847 gw_33 gw_58 gw_848) rfl rfl rfl hd_X8_findStaff ⟨Nat.le_of_ble_eq_true rfl, Nat.le_of_ble_eq_true rfl⟩) hK hA hw [0, 1, 2, 3] (by decide) rfl rfl [some 0, some 1, some 2, some 3, none] rfl (by decide) 0 rfl rfl hl.1 rfl rfl (lv_room (Nat.le_of_ble_eq_true rfl)) ⟨Nat.zero_le _, Nat.zero_le _⟩ dX8_takeOff_27 (fun H locs hw => ?_)
    replace hw : zW D A s H locs (wd_X8_takeOff cI cJ cZ a_this a_this_board a_this_area a_this_x0 a_this_y0 a_this_x1 a_this_y1 a_this_head a_this_said a_this_low a_this_high a_this_least a_this_price a_this_way a_this_lineFirst a_this_lineLast a_this_left a_this_pile a_this_rest a_this_read a_this_measure a_this_wentBack v_this_run v_this_signs v_this_lastSigns v_this_dirt v_this_time v3 v_this_notSign v_this_notKind v_this_measureMany f_this_board f4 f5 f1) := hw
    refine lv_istore_n (lv' := [(1, .int y2), (0, .ref a_this)]) S.1 S.2.1 dX8_takeOff_30 rfl hl (by decide) rfl (fun ls hl => ?_)
    refine lv_iload_n S.1 S.2.1 dX8_takeOff_31 rfl (lv_at hl 0 rfl) ?_
    refine lv_istore_n (lv' := [(2, .int y2), (1, .int y2), (0, .ref a_this)]) S.1 S.2.1 dX8_takeOff_32 rfl hl (by decide) rfl (fun ls hl => ?_)
    have L_33 : ∀ (n33_7 : Nat) (f6 : Nat → Int64) (x7 : Int32) (h : z_lp2 (p_X8_takeOff_l33 y2 v3 f4 f5 f_this_board K) n33_7 f6 x7 = some o) (H : Heap) (locs : List Loc) (ls : Array Slot), zW D A s H locs (wd_X8_takeOff cI cJ cZ a_this a_this_board a_this_area a_this_x0 a_this_y0 a_this_x1 a_this_y1 a_this_head a_this_said a_this_low a_this_high a_this_least a_this_price a_this_way a_this_lineFirst a_this_lineLast a_this_left a_this_pile a_this_rest a_this_read a_this_measure a_this_wentBack v_this_run v_this_signs v_this_lastSigns v_this_dirt v_this_time v3 v_this_notSign v_this_notKind v_this_measureMany f_this_board f4 f5 f6) → lv_has ls 5 [(0, .ref a_this), (1, .int y2), (2, .int x7)] → W p l e (headSpec gs_X8_takeOff rm_X8_takeOff).room s m args below meth c H locs 0 0 Q (F0 m 33 ls []) := by
      intro n33_7
      induction n33_7 with
      | zero => intro f6 x7 h; exact z_no h
      | succ n33_7 ih_33 =>
        intro f6 x7 h H locs ls hw hl
        replace h : (p_X8_takeOff_l33 y2 v3 f4 f5 f_this_board K) (z_lp2 (p_X8_takeOff_l33 y2 v3 f4 f5 f_this_board K) n33_7) f6 x7 = some o := h
        refine lv_iload_n S.1 S.2.1 dX8_takeOff_33 rfl (lv_at hl 1 rfl) ?_
        refine lv_iconst (v := (-1)) S.1 S.2.1 dX8_takeOff_34 (by decide) ?_
        refine z_icmp_eq S (tgt := 141) h dX8_takeOff_35 (by decide) (fun h => ?_) (fun h => ?_)
        · exact ret (v3, f4, f5, f6) h 141 ls _ _ dX8_takeOff_141 hw
        · refine lv_iload_n S.1 S.2.1 dX8_takeOff_38 rfl (lv_at hl 2 rfl) ?_
          refine lv_iload_n S.1 S.2.1 dX8_takeOff_39 rfl (lv_at hl 1 rfl) ?_
          refine lv_iconst (v := 5) S.1 S.2.1 dX8_takeOff_40 (by decide) ?_
          refine lv_iadd S.1 S.2.1 dX8_takeOff_41 ?_
          refine z_icmp_ge S (tgt := 141) h dX8_takeOff_42 (by decide) (fun h => ?_) (fun h => ?_)
          · exact ret (v3, f4, f5, f6) h 141 ls _ _ dX8_takeOff_141 hw
          · refine lv_aload_n S.1 S.2.1 dX8_takeOff_45 rfl (lv_at hl 0 rfl) ?_
            refine z_get S (C := RX8) (T := TX8) (N := 30) (gi gu_X8) hK hw 0 rfl rfl 19 (Nat.le_of_ble_eq_true rfl) (List.mem_cons_of_mem _ gw_730) rfl dX8_takeOff_46 ?_
            refine lv_iload_n S.1 S.2.1 dX8_takeOff_49 rfl (lv_at hl 2 rfl) ?_
            refine z_iald S hK hw 2 0 rfl rfl h dX8_takeOff_50 (fun y8 h => ?_)
            refine lv_istore_n (lv' := [(3, .int y8), (0, .ref a_this), (1, .int y2), (2, .int x7)]) S.1 S.2.1 dX8_takeOff_51 rfl hl (by decide) rfl (fun ls hl => ?_)
            have L_52 : ∀ (n52_10 : Nat) (f9 : Nat → Int64) (x10 : Int32) (h : z_lp2 (p_X8_takeOff_l52 f5 x7 f4 f_this_board K (z_lp2 (p_X8_takeOff_l33 y2 v3 f4 f5 f_this_board K) n33_7)) n52_10 f9 x10 = some o) (H : Heap) (locs : List Loc) (ls : Array Slot), zW D A s H locs (wd_X8_takeOff cI cJ cZ a_this a_this_board a_this_area a_this_x0 a_this_y0 a_this_x1 a_this_y1 a_this_head a_this_said a_this_low a_this_high a_this_least a_this_price a_this_way a_this_lineFirst a_this_lineLast a_this_left a_this_pile a_this_rest a_this_read a_this_measure a_this_wentBack v_this_run v_this_signs v_this_lastSigns v_this_dirt v_this_time v3 v_this_notSign v_this_notKind v_this_measureMany f_this_board f4 f5 f9) → lv_has ls 5 [(0, .ref a_this), (1, .int y2), (2, .int x7), (3, .int x10)] → W p l e (headSpec gs_X8_takeOff rm_X8_takeOff).room s m args below meth c H locs 0 0 Q (F0 m 52 ls []) := by
              intro n52_10
              induction n52_10 with
              | zero => intro f9 x10 h; exact z_no h
              | succ n52_10 ih_52 =>
                intro f9 x10 h H locs ls hw hl
                replace h : (p_X8_takeOff_l52 f5 x7 f4 f_this_board K (z_lp2 (p_X8_takeOff_l33 y2 v3 f4 f5 f_this_board K) n33_7)) (z_lp2 (p_X8_takeOff_l52 f5 x7 f4 f_this_board K (z_lp2 (p_X8_takeOff_l33 y2 v3 f4 f5 f_this_board K) n33_7)) n52_10) f9 x10 = some o := h
                refine lv_iload_n S.1 S.2.1 dX8_takeOff_52 rfl (lv_at hl 3 rfl) ?_
                refine lv_aload_n S.1 S.2.1 dX8_takeOff_53 rfl (lv_at hl 0 rfl) ?_
                refine z_get S (C := RX8) (T := TX8) (N := 30) (gi gu_X8) hK hw 0 rfl rfl 20 (Nat.le_of_ble_eq_true rfl) (List.mem_cons_of_mem _ gw_731) rfl dX8_takeOff_54 ?_
                refine lv_iload_n S.1 S.2.1 dX8_takeOff_57 rfl (lv_at hl 2 rfl) ?_
                refine z_iald S hK hw 3 0 rfl rfl h dX8_takeOff_58 (fun y11 h => ?_)
                refine z_icmp_gt S (tgt := 135) h dX8_takeOff_59 (by decide) (fun h => ?_) (fun h => ?_)
                · refine z_iinc S (i := 2) (k := 2) (v := x7 + 1) hl rfl (by decide) rfl (fun v => (2, .int v) :: [(0, .ref a_this), (1, .int y2), (3, .int x10)]) (fun _ => rfl) h dX8_takeOff_135 (fun y12 ls hl h => ?_)
                  replace hl : lv_has ls 5 [(2, .int y12), (0, .ref a_this), (1, .int y2), (3, .int x10)] := hl
                  refine lv_goto (tgt := 33) S.1 S.2.1 dX8_takeOff_138 (by decide) ?_
                  exact ih_33 f9 y12 h _ _ ls hw (lv_sub hl [1, 2, 0] rfl)
                · refine lv_iconst (v := 0) S.1 S.2.1 dX8_takeOff_62 (by decide) ?_
                  refine lv_istore (lv' := [(4, .int 0), (0, .ref a_this), (1, .int y2), (2, .int x7), (3, .int x10)]) S.1 S.2.1 dX8_takeOff_63 hl (by decide) rfl (fun ls hl => ?_)
                  have L_65 : ∀ (n65_14 : Nat) (f13 : Nat → Int64) (x14 : Int32) (h : z_lp2 (p_X8_takeOff_l65 x10 f4 x7 f_this_board f5 (z_lp2 (p_X8_takeOff_l52 f5 x7 f4 f_this_board K (z_lp2 (p_X8_takeOff_l33 y2 v3 f4 f5 f_this_board K) n33_7)) n52_10)) n65_14 f13 x14 = some o) (H : Heap) (locs : List Loc) (ls : Array Slot), zW D A s H locs (wd_X8_takeOff cI cJ cZ a_this a_this_board a_this_area a_this_x0 a_this_y0 a_this_x1 a_this_y1 a_this_head a_this_said a_this_low a_this_high a_this_least a_this_price a_this_way a_this_lineFirst a_this_lineLast a_this_left a_this_pile a_this_rest a_this_read a_this_measure a_this_wentBack v_this_run v_this_signs v_this_lastSigns v_this_dirt v_this_time v3 v_this_notSign v_this_notKind v_this_measureMany f_this_board f4 f5 f13) → lv_has ls 5 [(0, .ref a_this), (1, .int y2), (2, .int x7), (3, .int x10), (4, .int x14)] → W p l e (headSpec gs_X8_takeOff rm_X8_takeOff).room s m args below meth c H locs 0 0 Q (F0 m 65 ls []) := by
                    intro n65_14
                    induction n65_14 with
                    | zero => intro f13 x14 h; exact z_no h
                    | succ n65_14 ih_65 =>
                      intro f13 x14 h H locs ls hw hl
                      replace h : (p_X8_takeOff_l65 x10 f4 x7 f_this_board f5 (z_lp2 (p_X8_takeOff_l52 f5 x7 f4 f_this_board K (z_lp2 (p_X8_takeOff_l33 y2 v3 f4 f5 f_this_board K) n33_7)) n52_10)) (z_lp2 (p_X8_takeOff_l65 x10 f4 x7 f_this_board f5 (z_lp2 (p_X8_takeOff_l52 f5 x7 f4 f_this_board K (z_lp2 (p_X8_takeOff_l33 y2 v3 f4 f5 f_this_board K) n33_7)) n52_10)) n65_14) f13 x14 = some o := h
                      refine lv_iload S.1 S.2.1 dX8_takeOff_65 (lv_at hl 4 rfl) ?_
                      refine lv_bipush (v := 60) S.1 S.2.1 dX8_takeOff_67 (by decide) ?_
                      refine z_icmp_ge S (tgt := 129) h dX8_takeOff_69 (by decide) (fun h => ?_) (fun h => ?_)
                      · refine z_iinc S (i := 3) (k := 3) (v := x10 + 1) hl rfl (by decide) rfl (fun v => (3, .int v) :: [(0, .ref a_this), (1, .int y2), (2, .int x7), (4, .int x14)]) (fun _ => rfl) h dX8_takeOff_129 (fun y15 ls hl h => ?_)
                        replace hl : lv_has ls 5 [(3, .int y15), (0, .ref a_this), (1, .int y2), (2, .int x7), (4, .int x14)] := hl
                        refine lv_goto (tgt := 52) S.1 S.2.1 dX8_takeOff_132 (by decide) ?_
                        exact ih_52 f13 y15 h _ _ ls hw (lv_sub hl [1, 2, 3, 0] rfl)
                      · refine lv_aload_n S.1 S.2.1 dX8_takeOff_72 rfl (lv_at hl 0 rfl) ?_
                        refine lv_iload S.1 S.2.1 dX8_takeOff_73 (lv_at hl 4 rfl) ?_
                        refine lv_aload_n S.1 S.2.1 dX8_takeOff_75 rfl (lv_at hl 0 rfl) ?_
                        refine z_get S (C := RX8) (T := TX8) (N := 30) (gi gu_X8) hK hw 0 rfl rfl 19 (Nat.le_of_ble_eq_true rfl) (List.mem_cons_of_mem _ gw_730) rfl dX8_takeOff_76 ?_
                        refine lv_iload_n S.1 S.2.1 dX8_takeOff_79 rfl (lv_at hl 2 rfl) ?_
                        refine z_iald S hK hw 2 0 rfl rfl h dX8_takeOff_80 (fun y16 h => ?_)
                        refine lv_iconst (v := 1) S.1 S.2.1 dX8_takeOff_81 (by decide) ?_
                        refine lv_isub S.1 S.2.1 dX8_takeOff_82 ?_
                        obtain ⟨y17, hc, h⟩ := z_b1_e h
                        refine z_callVi (As := [.int x14, .int (y16 - 1)]) (rest := []) S (c_X8_isBlack l D cI cJ cZ a_this a_this_board a_this_area a_this_x0 a_this_y0 a_this_x1 a_this_y1 a_this_head a_this_said a_this_low a_this_high a_this_least a_this_price a_this_way a_this_lineFirst a_this_lineLast a_this_left a_this_pile a_this_rest a_this_read a_this_measure a_this_wentBack v_this_run v_this_signs v_this_lastSigns v_this_dirt v_this_time v3 v_this_notSign v_this_notKind v_this_measureMany f_this_board x14 (y16 - 1) _ hc) (cwV 2 S.2.2.2.2 (gw_V gw_817 gw_819 gw_30 gw_58 gw_820) rfl rfl rfl hd_X8_isBlack ⟨Nat.le_of_ble_eq_true rfl, Nat.le_of_ble_eq_true rfl⟩) hK hA hw [0, 1] (by decide) rfl rfl [some 0, some 1, none, none, none] rfl (by decide) 0 rfl rfl hl.1 rfl rfl (lv_room (Nat.le_of_ble_eq_true rfl)) ⟨Nat.zero_le _, Nat.zero_le _⟩ dX8_takeOff_83 (fun H locs hw => ?_)
                        replace hw : zW D A s H locs (wd_X8_takeOff cI cJ cZ a_this a_this_board a_this_area a_this_x0 a_this_y0 a_this_x1 a_this_y1 a_this_head a_this_said a_this_low a_this_high a_this_least a_this_price a_this_way a_this_lineFirst a_this_lineLast a_this_left a_this_pile a_this_rest a_this_read a_this_measure a_this_wentBack v_this_run v_this_signs v_this_lastSigns v_this_dirt v_this_time v3 v_this_notSign v_this_notKind v_this_measureMany f_this_board f4 f5 f13) := hw
                        refine z_if_ne S (tgt := 123) h dX8_takeOff_86 (by decide) (fun h => ?_) (fun h => ?_)
                        · refine z_iinc S (i := 4) (k := 4) (v := x14 + 1) hl rfl (by decide) rfl (fun v => (4, .int v) :: [(0, .ref a_this), (1, .int y2), (2, .int x7), (3, .int x10)]) (fun _ => rfl) h dX8_takeOff_123 (fun y18 ls hl h => ?_)
                          replace hl : lv_has ls 5 [(4, .int y18), (0, .ref a_this), (1, .int y2), (2, .int x7), (3, .int x10)] := hl
                          refine lv_goto (tgt := 65) S.1 S.2.1 dX8_takeOff_126 (by decide) ?_
                          exact ih_65 f13 y18 h _ _ ls hw (lv_sub hl [1, 2, 3, 4, 0] rfl)
                        · refine lv_aload_n S.1 S.2.1 dX8_takeOff_89 rfl (lv_at hl 0 rfl) ?_
                          refine lv_iload S.1 S.2.1 dX8_takeOff_90 (lv_at hl 4 rfl) ?_
                          refine lv_aload_n S.1 S.2.1 dX8_takeOff_92 rfl (lv_at hl 0 rfl) ?_
                          refine z_get S (C := RX8) (T := TX8) (N := 30) (gi gu_X8) hK hw 0 rfl rfl 20 (Nat.le_of_ble_eq_true rfl) (List.mem_cons_of_mem _ gw_731) rfl dX8_takeOff_93 ?_
                          refine lv_iload_n S.1 S.2.1 dX8_takeOff_96 rfl (lv_at hl 2 rfl) ?_
                          refine z_iald S hK hw 3 0 rfl rfl h dX8_takeOff_97 (fun y19 h => ?_)
                          refine lv_iconst (v := 1) S.1 S.2.1 dX8_takeOff_98 (by decide) ?_
                          refine lv_iadd S.1 S.2.1 dX8_takeOff_99 ?_
                          obtain ⟨y20, hc, h⟩ := z_b1_e h
                          refine z_callVi (As := [.int x14, .int (y19 + 1)]) (rest := []) S (c_X8_isBlack l D cI cJ cZ a_this a_this_board a_this_area a_this_x0 a_this_y0 a_this_x1 a_this_y1 a_this_head a_this_said a_this_low a_this_high a_this_least a_this_price a_this_way a_this_lineFirst a_this_lineLast a_this_left a_this_pile a_this_rest a_this_read a_this_measure a_this_wentBack v_this_run v_this_signs v_this_lastSigns v_this_dirt v_this_time v3 v_this_notSign v_this_notKind v_this_measureMany f_this_board x14 (y19 + 1) _ hc) (cwV 2 S.2.2.2.2 (gw_V gw_817 gw_819 gw_30 gw_58 gw_820) rfl rfl rfl hd_X8_isBlack ⟨Nat.le_of_ble_eq_true rfl, Nat.le_of_ble_eq_true rfl⟩) hK hA hw [0, 1] (by decide) rfl rfl [some 0, some 1, none, none, none] rfl (by decide) 0 rfl rfl hl.1 rfl rfl (lv_room (Nat.le_of_ble_eq_true rfl)) ⟨Nat.zero_le _, Nat.zero_le _⟩ dX8_takeOff_100 (fun H locs hw => ?_)
                          replace hw : zW D A s H locs (wd_X8_takeOff cI cJ cZ a_this a_this_board a_this_area a_this_x0 a_this_y0 a_this_x1 a_this_y1 a_this_head a_this_said a_this_low a_this_high a_this_least a_this_price a_this_way a_this_lineFirst a_this_lineLast a_this_left a_this_pile a_this_rest a_this_read a_this_measure a_this_wentBack v_this_run v_this_signs v_this_lastSigns v_this_dirt v_this_time v3 v_this_notSign v_this_notKind v_this_measureMany f_this_board f4 f5 f13) := hw
                          refine z_if_ne S (tgt := 123) h dX8_takeOff_103 (by decide) (fun h => ?_) (fun h => ?_)
                          · refine z_iinc S (i := 4) (k := 4) (v := x14 + 1) hl rfl (by decide) rfl (fun v => (4, .int v) :: [(0, .ref a_this), (1, .int y2), (2, .int x7), (3, .int x10)]) (fun _ => rfl) h dX8_takeOff_123 (fun y21 ls hl h => ?_)
                            replace hl : lv_has ls 5 [(4, .int y21), (0, .ref a_this), (1, .int y2), (2, .int x7), (3, .int x10)] := hl
                            refine lv_goto (tgt := 65) S.1 S.2.1 dX8_takeOff_126 (by decide) ?_
                            exact ih_65 f13 y21 h _ _ ls hw (lv_sub hl [1, 2, 3, 4, 0] rfl)
                          · refine lv_aload_n S.1 S.2.1 dX8_takeOff_106 rfl (lv_at hl 0 rfl) ?_
                            refine z_get S (C := RX8) (T := TX8) (N := 30) (gi gu_X8) hK hw 0 rfl rfl 21 (Nat.le_of_ble_eq_true rfl) (List.mem_cons_of_mem _ gw_732) rfl dX8_takeOff_107 ?_
                            refine lv_iload_n S.1 S.2.1 dX8_takeOff_110 rfl (lv_at hl 3 rfl) ?_
                            refine lv_dup2_11 S.1 S.2.1 dX8_takeOff_111 rfl rfl ?_
                            refine z_lald S hK hw 4 1 rfl rfl h dX8_takeOff_112 (fun y22 h => ?_)
                            refine lv_lconst (v := 1) S.1 S.2.1 dX8_takeOff_113 (by decide) ?_
                            refine lv_iload S.1 S.2.1 dX8_takeOff_114 (lv_at hl 4 rfl) ?_
                            refine lv_lshl (v := (((1 : Int64) <<< (x14.toInt64 &&& 63)))) S.1 S.2.1 dX8_takeOff_116 rfl ?_
                            refine lv_ldc2 (v := (-1)) S.1 S.2.1 S.2.2.2.1 (S.2.2.2.2 _ (List.mem_cons_of_mem _ gw_857)) dX8_takeOff_117 ?_
                            refine lv_lxor S.1 S.2.1 dX8_takeOff_120 ?_
                            refine lv_land S.1 S.2.1 dX8_takeOff_121 ?_
                            refine z_last S hK hw 4 1 rfl rfl h dX8_takeOff_122 (fun f23 H locs hw h => ?_)
                            replace hw : zW D A s H locs (wd_X8_takeOff cI cJ cZ a_this a_this_board a_this_area a_this_x0 a_this_y0 a_this_x1 a_this_y1 a_this_head a_this_said a_this_low a_this_high a_this_least a_this_price a_this_way a_this_lineFirst a_this_lineLast a_this_left a_this_pile a_this_rest a_this_read a_this_measure a_this_wentBack v_this_run v_this_signs v_this_lastSigns v_this_dirt v_this_time v3 v_this_notSign v_this_notKind v_this_measureMany f_this_board f4 f5 f23) := hw
                            refine z_iinc S (i := 4) (k := 4) (v := x14 + 1) hl rfl (by decide) rfl (fun v => (4, .int v) :: [(0, .ref a_this), (1, .int y2), (2, .int x7), (3, .int x10)]) (fun _ => rfl) h dX8_takeOff_123 (fun y24 ls hl h => ?_)
                            replace hl : lv_has ls 5 [(4, .int y24), (0, .ref a_this), (1, .int y2), (2, .int x7), (3, .int x10)] := hl
                            refine lv_goto (tgt := 65) S.1 S.2.1 dX8_takeOff_126 (by decide) ?_
                            exact ih_65 f23 y24 h _ _ ls hw (lv_sub hl [1, 2, 3, 4, 0] rfl)
                  exact L_65 K f9 0 h _ _ ls hw (lv_sub hl [1, 2, 3, 4, 0] rfl)
            exact L_52 K f6 y8 h _ _ ls hw (lv_sub hl [1, 2, 3, 0] rfl)
    exact L_33 K f1 y2 h _ _ ls hw (lv_sub hl [2, 1, 0] rfl)
  have L_2 : ∀ (n2_26 : Nat) (f25 : Nat → Int64) (x26 : Int32) (h : z_lp2 (p_X8_takeOff_l2 f_this_board (p_X8_takeOff_j26 K v_this_run v_this_lineMany f_this_board f_this_lineFirst f_this_lineLast)) n2_26 f25 x26 = some o) (H : Heap) (locs : List Loc) (ls : Array Slot), zW D A s H locs (wd_X8_takeOff cI cJ cZ a_this a_this_board a_this_area a_this_x0 a_this_y0 a_this_x1 a_this_y1 a_this_head a_this_said a_this_low a_this_high a_this_least a_this_price a_this_way a_this_lineFirst a_this_lineLast a_this_left a_this_pile a_this_rest a_this_read a_this_measure a_this_wentBack v_this_run v_this_signs v_this_lastSigns v_this_dirt v_this_time v_this_lineMany v_this_notSign v_this_notKind v_this_measureMany f_this_board f_this_lineFirst f_this_lineLast f25) → lv_has ls 5 [(0, .ref a_this), (1, .int x26)] → W p l e (headSpec gs_X8_takeOff rm_X8_takeOff).room s m args below meth c H locs 0 0 Q (F0 m 2 ls []) := by
    intro n2_26
    induction n2_26 with
    | zero => intro f25 x26 h; exact z_no h
    | succ n2_26 ih_2 =>
      intro f25 x26 h H locs ls hw hl
      replace h : (p_X8_takeOff_l2 f_this_board (p_X8_takeOff_j26 K v_this_run v_this_lineMany f_this_board f_this_lineFirst f_this_lineLast)) (z_lp2 (p_X8_takeOff_l2 f_this_board (p_X8_takeOff_j26 K v_this_run v_this_lineMany f_this_board f_this_lineFirst f_this_lineLast)) n2_26) f25 x26 = some o := h
      refine lv_iload_n S.1 S.2.1 dX8_takeOff_2 rfl (lv_at hl 1 rfl) ?_
      refine lv_bipush (v := 32) S.1 S.2.1 dX8_takeOff_3 (by decide) ?_
      refine z_icmp_ge S (tgt := 26) h dX8_takeOff_5 (by decide) (fun h => ?_) (fun h => ?_)
      · exact J_26 f25 h _ _ ls hw (lv_sub hl [0] rfl)
      · refine lv_aload_n S.1 S.2.1 dX8_takeOff_8 rfl (lv_at hl 0 rfl) ?_
        refine z_get S (C := RX8) (T := TX8) (N := 30) (gi gu_X8) hK hw 0 rfl rfl 21 (Nat.le_of_ble_eq_true rfl) (List.mem_cons_of_mem _ gw_732) rfl dX8_takeOff_9 ?_
        refine lv_iload_n S.1 S.2.1 dX8_takeOff_12 rfl (lv_at hl 1 rfl) ?_
        refine lv_aload_n S.1 S.2.1 dX8_takeOff_13 rfl (lv_at hl 0 rfl) ?_
        refine z_get S (C := RX8) (T := TX8) (N := 30) (gi gu_X8) hK hw 0 rfl rfl 0 (Nat.le_of_ble_eq_true rfl) (List.mem_cons_of_mem _ gw_711) rfl dX8_takeOff_14 ?_
        refine lv_iload_n S.1 S.2.1 dX8_takeOff_17 rfl (lv_at hl 1 rfl) ?_
        refine z_lald S hK hw 1 1 rfl rfl h dX8_takeOff_18 (fun y27 h => ?_)
        refine z_last S hK hw 4 1 rfl rfl h dX8_takeOff_19 (fun f28 H locs hw h => ?_)
        replace hw : zW D A s H locs (wd_X8_takeOff cI cJ cZ a_this a_this_board a_this_area a_this_x0 a_this_y0 a_this_x1 a_this_y1 a_this_head a_this_said a_this_low a_this_high a_this_least a_this_price a_this_way a_this_lineFirst a_this_lineLast a_this_left a_this_pile a_this_rest a_this_read a_this_measure a_this_wentBack v_this_run v_this_signs v_this_lastSigns v_this_dirt v_this_time v_this_lineMany v_this_notSign v_this_notKind v_this_measureMany f_this_board f_this_lineFirst f_this_lineLast f28) := hw
        refine z_iinc S (i := 1) (k := 1) (v := x26 + 1) hl rfl (by decide) rfl (fun v => (1, .int v) :: [(0, .ref a_this)]) (fun _ => rfl) h dX8_takeOff_20 (fun y29 ls hl h => ?_)
        replace hl : lv_has ls 5 [(1, .int y29), (0, .ref a_this)] := hl
        refine lv_goto (tgt := 2) S.1 S.2.1 dX8_takeOff_23 (by decide) ?_
        exact ih_2 f28 y29 h _ _ ls hw (lv_sub hl [1, 0] rfl)
  exact L_2 K f_this_left 0 h _ _ ls hw (lv_sub hl [1, 0] rfl)
def gs_X8_swap : List Cond := Cond.code yX8_swap cX8_swap 5 none :: GW
def wd_X8_swap (cI cJ cZ : ClassId) (a_this a_p1 n_p1 : Nat) (f_p1 : Nat → Int32) : va_W := [(a_p1, .inl (cI, n_p1, .inl f_p1))]
abbrev rm_X8_swap : Room := { frames := 0, cells := 0, slots := 0, locals := 0 }
theorem hd_X8_swap : yX8_swap.cls = RX8 ∧ yX8_swap.cls ≠ "java/lang/invoke/MethodHandle" ∧ yX8_swap.cls ≠ "java/lang/invoke/VarHandle" ∧ (parseMethodDescriptor yX8_swap.desc).map (fun d => d.parameters.length) = some 3 := by decide +kernel
set_option maxHeartbeats 4000000 in
set_option maxRecDepth 100000 in
theorem c_X8_swap (l : Launch) (D : va_G) (cI cJ cZ : ClassId) (a_this a_p1 n_p1 : Nat) (f_p1 : Nat → Int32) (i2 : Int32) (i3 : Int32) (o : (Nat → Int32)) (h : p_X8_swap n_p1 f_p1 i2 i3 = some o) : zMv l D (zT cI cJ cZ) yX8_swap gs_X8_swap rm_X8_swap [.ref a_this, .ref a_p1, .int i2, .int i3] (wd_X8_swap cI cJ cZ a_this a_p1 n_p1 f_p1) (wd_X8_swap cI cJ cZ a_this a_p1 n_p1 o) := by
  refine zMet_v (own := RX8) (fun u : (Nat → Int32) => (wd_X8_swap cI cJ cZ a_this a_p1 n_p1 u)) (by decide) rfl rfl (Nat.le_of_ble_eq_true rfl) ?_
  intro p e s m args below meth c A Q S hK hA hw ret ls hl
  replace hl : lv_has ls 5 [(0, .ref a_this), (1, .ref a_p1), (2, .int i2), (3, .int i3)] := hl
  refine lv_aload_n S.1 S.2.1 dX8_swap_0 rfl (lv_at hl 1 rfl) ?_
  refine lv_iload_n S.1 S.2.1 dX8_swap_1 rfl (lv_at hl 2 rfl) ?_
  refine z_iald S hK hw 0 0 rfl rfl h dX8_swap_2 (fun y1 h => ?_)
  refine lv_istore (lv' := [(4, .int y1), (0, .ref a_this), (1, .ref a_p1), (2, .int i2), (3, .int i3)]) S.1 S.2.1 dX8_swap_3 hl (by decide) rfl (fun ls hl => ?_)
  refine lv_aload_n S.1 S.2.1 dX8_swap_5 rfl (lv_at hl 2 rfl) ?_
  refine lv_iload_n S.1 S.2.1 dX8_swap_6 rfl (lv_at hl 3 rfl) ?_
  refine lv_aload_n S.1 S.2.1 dX8_swap_7 rfl (lv_at hl 2 rfl) ?_
  refine lv_iload_n S.1 S.2.1 dX8_swap_8 rfl (lv_at hl 4 rfl) ?_
  refine z_iald S hK hw 0 0 rfl rfl h dX8_swap_9 (fun y2 h => ?_)
  refine z_iast S hK hw 0 0 rfl rfl h dX8_swap_10 (fun f3 H locs hw h => ?_)
  replace hw : zW D A s H locs (wd_X8_swap cI cJ cZ a_this a_p1 n_p1 f3) := hw
  refine lv_aload_n S.1 S.2.1 dX8_swap_11 rfl (lv_at hl 2 rfl) ?_
  refine lv_iload_n S.1 S.2.1 dX8_swap_12 rfl (lv_at hl 4 rfl) ?_
  refine lv_iload S.1 S.2.1 dX8_swap_13 (lv_at hl 0 rfl) ?_
  refine z_iast S hK hw 0 0 rfl rfl h dX8_swap_15 (fun f4 H locs hw h => ?_)
  replace hw : zW D A s H locs (wd_X8_swap cI cJ cZ a_this a_p1 n_p1 f4) := hw
  exact ret f4 h 16 ls _ _ dX8_swap_16 hw
theorem gw_716 : Cond.fieldLink RX8 27 "ScoreReaderModel" "x0" "[I" ∈ GW := GW_of 716 (by decide +kernel) (by decide +kernel)
theorem gw_717 : Cond.fieldLink RX8 30 "ScoreReaderModel" "y0" "[I" ∈ GW := GW_of 717 (by decide +kernel) (by decide +kernel)
theorem gw_720 : Cond.fieldLink RX8 39 "ScoreReaderModel" "head" "[I" ∈ GW := GW_of 720 (by decide +kernel) (by decide +kernel)
def gs_X8_isAhead : List Cond := Cond.code yX8_isAhead cX8_isAhead 3 (some .boolean) :: GW
def wd_X8_isAhead (cI cJ cZ : ClassId) (a_this a_this_board a_this_area a_this_x0 a_this_y0 a_this_x1 a_this_y1 a_this_head a_this_said a_this_low a_this_high a_this_least a_this_price a_this_way a_this_lineFirst a_this_lineLast a_this_left a_this_pile a_this_rest a_this_read a_this_measure a_this_wentBack : Nat) (v_this_run : Int32) (v_this_signs : Int32) (v_this_lastSigns : Int32) (v_this_dirt : Int32) (v_this_time : Int32) (v_this_lineMany : Int32) (v_this_notSign : Int32) (v_this_notKind : Int32) (v_this_measureMany : Int32) (f_this_x0 : Nat → Int32) (f_this_y0 : Nat → Int32) (f_this_head : Nat → Int32) : va_W := [(a_this, .inr (8, [.ref a_this_board, .int v_this_run, .int v_this_signs, .int v_this_lastSigns, .ref a_this_area, .ref a_this_x0, .ref a_this_y0, .ref a_this_x1, .ref a_this_y1, .ref a_this_head, .ref a_this_said, .ref a_this_low, .ref a_this_high, .ref a_this_least, .ref a_this_price, .int v_this_dirt, .int v_this_time, .ref a_this_way, .int v_this_lineMany, .ref a_this_lineFirst, .ref a_this_lineLast, .ref a_this_left, .ref a_this_pile, .ref a_this_rest, .int v_this_notSign, .int v_this_notKind, .ref a_this_read, .ref a_this_measure, .int v_this_measureMany, .ref a_this_wentBack])), (a_this_x0, .inl (cI, 40, .inl f_this_x0)), (a_this_y0, .inl (cI, 40, .inl f_this_y0)), (a_this_head, .inl (cI, 40, .inl f_this_head))]
abbrev rm_X8_isAhead : Room := { frames := 0, cells := 0, slots := 0, locals := 0 }
theorem hd_X8_isAhead : yX8_isAhead.cls = RX8 ∧ yX8_isAhead.cls ≠ "java/lang/invoke/MethodHandle" ∧ yX8_isAhead.cls ≠ "java/lang/invoke/VarHandle" ∧ (parseMethodDescriptor yX8_isAhead.desc).map (fun d => d.parameters.length) = some 2 := by decide +kernel
set_option maxHeartbeats 4000000 in
set_option maxRecDepth 100000 in
theorem c_X8_isAhead (l : Launch) (D : va_G) (cI cJ cZ : ClassId) (a_this a_this_board a_this_area a_this_x0 a_this_y0 a_this_x1 a_this_y1 a_this_head a_this_said a_this_low a_this_high a_this_least a_this_price a_this_way a_this_lineFirst a_this_lineLast a_this_left a_this_pile a_this_rest a_this_read a_this_measure a_this_wentBack : Nat) (v_this_run : Int32) (v_this_signs : Int32) (v_this_lastSigns : Int32) (v_this_dirt : Int32) (v_this_time : Int32) (v_this_lineMany : Int32) (v_this_notSign : Int32) (v_this_notKind : Int32) (v_this_measureMany : Int32) (f_this_x0 : Nat → Int32) (f_this_y0 : Nat → Int32) (f_this_head : Nat → Int32) (i1 : Int32) (i2 : Int32) (o : Int32) (h : p_X8_isAhead f_this_x0 f_this_y0 f_this_head i1 i2 = some o) : zMi l D (zT cI cJ cZ) yX8_isAhead gs_X8_isAhead rm_X8_isAhead [.ref a_this, .int i1, .int i2] (wd_X8_isAhead cI cJ cZ a_this a_this_board a_this_area a_this_x0 a_this_y0 a_this_x1 a_this_y1 a_this_head a_this_said a_this_low a_this_high a_this_least a_this_price a_this_way a_this_lineFirst a_this_lineLast a_this_left a_this_pile a_this_rest a_this_read a_this_measure a_this_wentBack v_this_run v_this_signs v_this_lastSigns v_this_dirt v_this_time v_this_lineMany v_this_notSign v_this_notKind v_this_measureMany f_this_x0 f_this_y0 f_this_head) (wd_X8_isAhead cI cJ cZ a_this a_this_board a_this_area a_this_x0 a_this_y0 a_this_x1 a_this_y1 a_this_head a_this_said a_this_low a_this_high a_this_least a_this_price a_this_way a_this_lineFirst a_this_lineLast a_this_left a_this_pile a_this_rest a_this_read a_this_measure a_this_wentBack v_this_run v_this_signs v_this_lastSigns v_this_dirt v_this_time v_this_lineMany v_this_notSign v_this_notKind v_this_measureMany f_this_x0 f_this_y0 f_this_head) (o) := by
  refine zMet_z (own := RX8) (fun u : Int32 => (wd_X8_isAhead cI cJ cZ a_this a_this_board a_this_area a_this_x0 a_this_y0 a_this_x1 a_this_y1 a_this_head a_this_said a_this_low a_this_high a_this_least a_this_price a_this_way a_this_lineFirst a_this_lineLast a_this_left a_this_pile a_this_rest a_this_read a_this_measure a_this_wentBack v_this_run v_this_signs v_this_lastSigns v_this_dirt v_this_time v_this_lineMany v_this_notSign v_this_notKind v_this_measureMany f_this_x0 f_this_y0 f_this_head)) (fun u : Int32 => u) (by decide) rfl rfl (Nat.le_of_ble_eq_true rfl) ?_
  intro p e s m args below meth c A Q S hK hA hw ret ls hl
  replace hl : lv_has ls 3 [(0, .ref a_this), (1, .int i1), (2, .int i2)] := hl
  refine lv_aload_n S.1 S.2.1 dX8_isAhead_0 rfl (lv_at hl 0 rfl) ?_
  refine z_get S (C := RX8) (T := TX8) (N := 30) (gi gu_X8) hK hw 0 rfl rfl 5 (Nat.le_of_ble_eq_true rfl) (List.mem_cons_of_mem _ gw_716) rfl dX8_isAhead_1 ?_
  refine lv_iload_n S.1 S.2.1 dX8_isAhead_4 rfl (lv_at hl 1 rfl) ?_
  refine z_iald S hK hw 1 0 rfl rfl h dX8_isAhead_5 (fun y1 h => ?_)
  refine lv_aload_n S.1 S.2.1 dX8_isAhead_6 rfl (lv_at hl 0 rfl) ?_
  refine z_get S (C := RX8) (T := TX8) (N := 30) (gi gu_X8) hK hw 0 rfl rfl 5 (Nat.le_of_ble_eq_true rfl) (List.mem_cons_of_mem _ gw_716) rfl dX8_isAhead_7 ?_
  refine lv_iload_n S.1 S.2.1 dX8_isAhead_10 rfl (lv_at hl 2 rfl) ?_
  refine z_iald S hK hw 1 0 rfl rfl h dX8_isAhead_11 (fun y2 h => ?_)
  refine z_icmp_ne S (tgt := 64) h dX8_isAhead_12 (by decide) (fun h => ?_) (fun h => ?_)
  · refine lv_iconst (v := 0) S.1 S.2.1 dX8_isAhead_64 (by decide) ?_
    exact ret 0 h (z_nb (Or.inl rfl)) 65 ls _ _ dX8_isAhead_65 hw
  · refine lv_aload_n S.1 S.2.1 dX8_isAhead_15 rfl (lv_at hl 0 rfl) ?_
    refine z_get S (C := RX8) (T := TX8) (N := 30) (gi gu_X8) hK hw 0 rfl rfl 6 (Nat.le_of_ble_eq_true rfl) (List.mem_cons_of_mem _ gw_717) rfl dX8_isAhead_16 ?_
    refine lv_iload_n S.1 S.2.1 dX8_isAhead_19 rfl (lv_at hl 1 rfl) ?_
    refine z_iald S hK hw 2 0 rfl rfl h dX8_isAhead_20 (fun y3 h => ?_)
    refine lv_aload_n S.1 S.2.1 dX8_isAhead_21 rfl (lv_at hl 0 rfl) ?_
    refine z_get S (C := RX8) (T := TX8) (N := 30) (gi gu_X8) hK hw 0 rfl rfl 6 (Nat.le_of_ble_eq_true rfl) (List.mem_cons_of_mem _ gw_717) rfl dX8_isAhead_22 ?_
    refine lv_iload_n S.1 S.2.1 dX8_isAhead_25 rfl (lv_at hl 2 rfl) ?_
    refine z_iald S hK hw 2 0 rfl rfl h dX8_isAhead_26 (fun y4 h => ?_)
    refine z_icmp_lt S (tgt := 60) h dX8_isAhead_27 (by decide) (fun h => ?_) (fun h => ?_)
    · refine lv_iconst (v := 1) S.1 S.2.1 dX8_isAhead_60 (by decide) ?_
      refine lv_goto (tgt := 65) S.1 S.2.1 dX8_isAhead_61 (by decide) ?_
      exact ret 1 h (z_nb (Or.inr rfl)) 65 ls _ _ dX8_isAhead_65 hw
    · refine lv_aload_n S.1 S.2.1 dX8_isAhead_30 rfl (lv_at hl 0 rfl) ?_
      refine z_get S (C := RX8) (T := TX8) (N := 30) (gi gu_X8) hK hw 0 rfl rfl 6 (Nat.le_of_ble_eq_true rfl) (List.mem_cons_of_mem _ gw_717) rfl dX8_isAhead_31 ?_
      refine lv_iload_n S.1 S.2.1 dX8_isAhead_34 rfl (lv_at hl 1 rfl) ?_
      refine z_iald S hK hw 2 0 rfl rfl h dX8_isAhead_35 (fun y5 h => ?_)
      refine lv_aload_n S.1 S.2.1 dX8_isAhead_36 rfl (lv_at hl 0 rfl) ?_
      refine z_get S (C := RX8) (T := TX8) (N := 30) (gi gu_X8) hK hw 0 rfl rfl 6 (Nat.le_of_ble_eq_true rfl) (List.mem_cons_of_mem _ gw_717) rfl dX8_isAhead_37 ?_
      refine lv_iload_n S.1 S.2.1 dX8_isAhead_40 rfl (lv_at hl 2 rfl) ?_
      refine z_iald S hK hw 2 0 rfl rfl h dX8_isAhead_41 (fun y6 h => ?_)
      refine z_icmp_ne S (tgt := 64) h dX8_isAhead_42 (by decide) (fun h => ?_) (fun h => ?_)
      · refine lv_iconst (v := 0) S.1 S.2.1 dX8_isAhead_64 (by decide) ?_
        exact ret 0 h (z_nb (Or.inl rfl)) 65 ls _ _ dX8_isAhead_65 hw
      · refine lv_aload_n S.1 S.2.1 dX8_isAhead_45 rfl (lv_at hl 0 rfl) ?_
        refine z_get S (C := RX8) (T := TX8) (N := 30) (gi gu_X8) hK hw 0 rfl rfl 9 (Nat.le_of_ble_eq_true rfl) (List.mem_cons_of_mem _ gw_720) rfl dX8_isAhead_46 ?_
        refine lv_iload_n S.1 S.2.1 dX8_isAhead_49 rfl (lv_at hl 1 rfl) ?_
        refine z_iald S hK hw 3 0 rfl rfl h dX8_isAhead_50 (fun y7 h => ?_)
        refine lv_aload_n S.1 S.2.1 dX8_isAhead_51 rfl (lv_at hl 0 rfl) ?_
        refine z_get S (C := RX8) (T := TX8) (N := 30) (gi gu_X8) hK hw 0 rfl rfl 9 (Nat.le_of_ble_eq_true rfl) (List.mem_cons_of_mem _ gw_720) rfl dX8_isAhead_52 ?_
        refine lv_iload_n S.1 S.2.1 dX8_isAhead_55 rfl (lv_at hl 2 rfl) ?_
        refine z_iald S hK hw 3 0 rfl rfl h dX8_isAhead_56 (fun y8 h => ?_)
        refine z_icmp_ge S (tgt := 64) h dX8_isAhead_57 (by decide) (fun h => ?_) (fun h => ?_)
        · refine lv_iconst (v := 0) S.1 S.2.1 dX8_isAhead_64 (by decide) ?_
          exact ret 0 h (z_nb (Or.inl rfl)) 65 ls _ _ dX8_isAhead_65 hw
        · refine lv_iconst (v := 1) S.1 S.2.1 dX8_isAhead_60 (by decide) ?_
          refine lv_goto (tgt := 65) S.1 S.2.1 dX8_isAhead_61 (by decide) ?_
          exact ret 1 h (z_nb (Or.inr rfl)) 65 ls _ _ dX8_isAhead_65 hw
def gs_X8_isSign : List Cond := Cond.code yX8_isSign cX8_isSign 2 (some .boolean) :: GW
def wd_X8_isSign (cI cJ cZ : ClassId) (a_this a_this_board a_this_area a_this_x0 a_this_y0 a_this_x1 a_this_y1 a_this_head a_this_said a_this_low a_this_high a_this_least a_this_price a_this_way a_this_lineFirst a_this_lineLast a_this_left a_this_pile a_this_rest a_this_read a_this_measure a_this_wentBack : Nat) (v_this_run : Int32) (v_this_signs : Int32) (v_this_lastSigns : Int32) (v_this_dirt : Int32) (v_this_time : Int32) (v_this_lineMany : Int32) (v_this_notSign : Int32) (v_this_notKind : Int32) (v_this_measureMany : Int32) : va_W := [(a_this, .inr (8, [.ref a_this_board, .int v_this_run, .int v_this_signs, .int v_this_lastSigns, .ref a_this_area, .ref a_this_x0, .ref a_this_y0, .ref a_this_x1, .ref a_this_y1, .ref a_this_head, .ref a_this_said, .ref a_this_low, .ref a_this_high, .ref a_this_least, .ref a_this_price, .int v_this_dirt, .int v_this_time, .ref a_this_way, .int v_this_lineMany, .ref a_this_lineFirst, .ref a_this_lineLast, .ref a_this_left, .ref a_this_pile, .ref a_this_rest, .int v_this_notSign, .int v_this_notKind, .ref a_this_read, .ref a_this_measure, .int v_this_measureMany, .ref a_this_wentBack]))]
abbrev rm_X8_isSign : Room := { frames := 1, cells := 0, slots := 0, locals := 22 }
theorem hd_X8_isSign : yX8_isSign.cls = RX8 ∧ yX8_isSign.cls ≠ "java/lang/invoke/MethodHandle" ∧ yX8_isSign.cls ≠ "java/lang/invoke/VarHandle" ∧ (parseMethodDescriptor yX8_isSign.desc).map (fun d => d.parameters.length) = some 1 := by decide +kernel
set_option maxHeartbeats 4000000 in
set_option maxRecDepth 100000 in
theorem c_X8_isSign (l : Launch) (D : va_G) (cI cJ cZ : ClassId) (a_this a_this_board a_this_area a_this_x0 a_this_y0 a_this_x1 a_this_y1 a_this_head a_this_said a_this_low a_this_high a_this_least a_this_price a_this_way a_this_lineFirst a_this_lineLast a_this_left a_this_pile a_this_rest a_this_read a_this_measure a_this_wentBack : Nat) (v_this_run : Int32) (v_this_signs : Int32) (v_this_lastSigns : Int32) (v_this_dirt : Int32) (v_this_time : Int32) (v_this_lineMany : Int32) (v_this_notSign : Int32) (v_this_notKind : Int32) (v_this_measureMany : Int32) (i1 : Int32) (o : Int32) (h : p_X8_isSign v_this_signs i1 = some o) : zMi l D (zT cI cJ cZ) yX8_isSign gs_X8_isSign rm_X8_isSign [.ref a_this, .int i1] (wd_X8_isSign cI cJ cZ a_this a_this_board a_this_area a_this_x0 a_this_y0 a_this_x1 a_this_y1 a_this_head a_this_said a_this_low a_this_high a_this_least a_this_price a_this_way a_this_lineFirst a_this_lineLast a_this_left a_this_pile a_this_rest a_this_read a_this_measure a_this_wentBack v_this_run v_this_signs v_this_lastSigns v_this_dirt v_this_time v_this_lineMany v_this_notSign v_this_notKind v_this_measureMany) (wd_X8_isSign cI cJ cZ a_this a_this_board a_this_area a_this_x0 a_this_y0 a_this_x1 a_this_y1 a_this_head a_this_said a_this_low a_this_high a_this_least a_this_price a_this_way a_this_lineFirst a_this_lineLast a_this_left a_this_pile a_this_rest a_this_read a_this_measure a_this_wentBack v_this_run v_this_signs v_this_lastSigns v_this_dirt v_this_time v_this_lineMany v_this_notSign v_this_notKind v_this_measureMany) (o) := by
  refine zMet_z (own := RX8) (fun u : Int32 => (wd_X8_isSign cI cJ cZ a_this a_this_board a_this_area a_this_x0 a_this_y0 a_this_x1 a_this_y1 a_this_head a_this_said a_this_low a_this_high a_this_least a_this_price a_this_way a_this_lineFirst a_this_lineLast a_this_left a_this_pile a_this_rest a_this_read a_this_measure a_this_wentBack v_this_run v_this_signs v_this_lastSigns v_this_dirt v_this_time v_this_lineMany v_this_notSign v_this_notKind v_this_measureMany)) (fun u : Int32 => u) (by decide) rfl rfl (Nat.le_of_ble_eq_true rfl) ?_
  intro p e s m args below meth c A Q S hK hA hw ret ls hl
  replace hl : lv_has ls 2 [(0, .ref a_this), (1, .int i1)] := hl
  refine lv_iload_n S.1 S.2.1 dX8_isSign_0 rfl (lv_at hl 1 rfl) ?_
  refine lv_iconst (v := 0) S.1 S.2.1 dX8_isSign_1 (by decide) ?_
  refine lv_aload_n S.1 S.2.1 dX8_isSign_2 rfl (lv_at hl 0 rfl) ?_
  refine z_get S (C := RX8) (T := TX8) (N := 30) (gi gu_X8) hK hw 0 rfl rfl 2 (Nat.le_of_ble_eq_true rfl) (List.mem_cons_of_mem _ gw_713) rfl dX8_isSign_3 ?_
  refine lv_iconst (v := 1) S.1 S.2.1 dX8_isSign_6 (by decide) ?_
  refine lv_isub S.1 S.2.1 dX8_isSign_7 ?_
  obtain ⟨y1, hc, h⟩ := z_b1_e h
  refine z_callSi (As := [.int i1, .int 0, .int (v_this_signs - 1)]) (rest := []) S (c_X8_in l D cI cJ cZ i1 0 (v_this_signs - 1) _ hc) (va_cwS 3 S.2.2.2.2 (gw_S gw_807 gw_808 gw_58 gw_809) rfl rfl rfl hd_X8_in ⟨Nat.le_of_ble_eq_true rfl, Nat.le_of_ble_eq_true rfl⟩) hK hA hw [] (by decide) rfl rfl [none] rfl (by decide) hl.1 rfl rfl (lv_room (Nat.le_of_ble_eq_true rfl)) ⟨Nat.zero_le _, Nat.zero_le _⟩ dX8_isSign_8 (fun H locs hw => ?_)
  replace hw : zW D A s H locs (wd_X8_isSign cI cJ cZ a_this a_this_board a_this_area a_this_x0 a_this_y0 a_this_x1 a_this_y1 a_this_head a_this_said a_this_low a_this_high a_this_least a_this_price a_this_way a_this_lineFirst a_this_lineLast a_this_left a_this_pile a_this_rest a_this_read a_this_measure a_this_wentBack v_this_run v_this_signs v_this_lastSigns v_this_dirt v_this_time v_this_lineMany v_this_notSign v_this_notKind v_this_measureMany) := hw
  obtain ⟨hb1, h⟩ := z_bool_e h
  exact ret y1 h (z_nb hb1) 11 ls _ _ dX8_isSign_11 hw
theorem gw_722 : Cond.fieldLink RX8 45 "ScoreReaderModel" "low" "[I" ∈ GW := GW_of 722 (by decide +kernel) (by decide +kernel)
theorem gw_723 : Cond.fieldLink RX8 48 "ScoreReaderModel" "high" "[I" ∈ GW := GW_of 723 (by decide +kernel) (by decide +kernel)
theorem gw_724 : Cond.fieldLink RX8 51 "ScoreReaderModel" "least" "[I" ∈ GW := GW_of 724 (by decide +kernel) (by decide +kernel)
theorem gw_725 : Cond.fieldLink RX8 54 "ScoreReaderModel" "price" "[I" ∈ GW := GW_of 725 (by decide +kernel) (by decide +kernel)
def gs_X8_kind : List Cond := Cond.code yX8_kind cX8_kind 6 (some .int) :: GW
def wd_X8_kind (cI cJ cZ : ClassId) (a_this a_this_board a_this_area a_this_x0 a_this_y0 a_this_x1 a_this_y1 a_this_head a_this_said a_this_low a_this_high a_this_least a_this_price a_this_way a_this_lineFirst a_this_lineLast a_this_left a_this_pile a_this_rest a_this_read a_this_measure a_this_wentBack : Nat) (v_this_run : Int32) (v_this_signs : Int32) (v_this_lastSigns : Int32) (v_this_dirt : Int32) (v_this_time : Int32) (v_this_lineMany : Int32) (v_this_notSign : Int32) (v_this_notKind : Int32) (v_this_measureMany : Int32) (f_this_low : Nat → Int32) (f_this_high : Nat → Int32) (f_this_least : Nat → Int32) (f_this_price : Nat → Int32) : va_W := [(a_this, .inr (8, [.ref a_this_board, .int v_this_run, .int v_this_signs, .int v_this_lastSigns, .ref a_this_area, .ref a_this_x0, .ref a_this_y0, .ref a_this_x1, .ref a_this_y1, .ref a_this_head, .ref a_this_said, .ref a_this_low, .ref a_this_high, .ref a_this_least, .ref a_this_price, .int v_this_dirt, .int v_this_time, .ref a_this_way, .int v_this_lineMany, .ref a_this_lineFirst, .ref a_this_lineLast, .ref a_this_left, .ref a_this_pile, .ref a_this_rest, .int v_this_notSign, .int v_this_notKind, .ref a_this_read, .ref a_this_measure, .int v_this_measureMany, .ref a_this_wentBack])), (a_this_low, .inl (cI, 6, .inl f_this_low)), (a_this_high, .inl (cI, 6, .inl f_this_high)), (a_this_least, .inl (cI, 6, .inl f_this_least)), (a_this_price, .inl (cI, 6, .inl f_this_price))]
abbrev rm_X8_kind : Room := { frames := 1, cells := 0, slots := 0, locals := 22 }
theorem hd_X8_kind : yX8_kind.cls = RX8 ∧ yX8_kind.cls ≠ "java/lang/invoke/MethodHandle" ∧ yX8_kind.cls ≠ "java/lang/invoke/VarHandle" ∧ (parseMethodDescriptor yX8_kind.desc).map (fun d => d.parameters.length) = some 5 := by decide +kernel
set_option maxHeartbeats 4000000 in
set_option maxRecDepth 100000 in
theorem c_X8_kind (l : Launch) (D : va_G) (cI cJ cZ : ClassId) (a_this a_this_board a_this_area a_this_x0 a_this_y0 a_this_x1 a_this_y1 a_this_head a_this_said a_this_low a_this_high a_this_least a_this_price a_this_way a_this_lineFirst a_this_lineLast a_this_left a_this_pile a_this_rest a_this_read a_this_measure a_this_wentBack : Nat) (v_this_run : Int32) (v_this_signs : Int32) (v_this_lastSigns : Int32) (v_this_dirt : Int32) (v_this_time : Int32) (v_this_lineMany : Int32) (v_this_notSign : Int32) (v_this_notKind : Int32) (v_this_measureMany : Int32) (f_this_low : Nat → Int32) (f_this_high : Nat → Int32) (f_this_least : Nat → Int32) (f_this_price : Nat → Int32) (i1 : Int32) (i2 : Int32) (i3 : Int32) (i4 : Int32) (i5 : Int32) (o : Int32 × (Nat → Int32) × (Nat → Int32) × (Nat → Int32) × (Nat → Int32)) (h : p_X8_kind f_this_low f_this_high f_this_least f_this_price i1 i2 i3 i4 i5 = some o) : zMi l D (zT cI cJ cZ) yX8_kind gs_X8_kind rm_X8_kind [.ref a_this, .int i1, .int i2, .int i3, .int i4, .int i5] (wd_X8_kind cI cJ cZ a_this a_this_board a_this_area a_this_x0 a_this_y0 a_this_x1 a_this_y1 a_this_head a_this_said a_this_low a_this_high a_this_least a_this_price a_this_way a_this_lineFirst a_this_lineLast a_this_left a_this_pile a_this_rest a_this_read a_this_measure a_this_wentBack v_this_run v_this_signs v_this_lastSigns v_this_dirt v_this_time v_this_lineMany v_this_notSign v_this_notKind v_this_measureMany f_this_low f_this_high f_this_least f_this_price) (wd_X8_kind cI cJ cZ a_this a_this_board a_this_area a_this_x0 a_this_y0 a_this_x1 a_this_y1 a_this_head a_this_said a_this_low a_this_high a_this_least a_this_price a_this_way a_this_lineFirst a_this_lineLast a_this_left a_this_pile a_this_rest a_this_read a_this_measure a_this_wentBack v_this_run v_this_signs v_this_lastSigns v_this_dirt v_this_time v_this_lineMany v_this_notSign v_this_notKind v_this_measureMany (o.2.1) (o.2.2.1) (o.2.2.2.1) (o.2.2.2.2)) (o.1) := by
  refine zMet_i (own := RX8) (fun u : Int32 × (Nat → Int32) × (Nat → Int32) × (Nat → Int32) × (Nat → Int32) => (wd_X8_kind cI cJ cZ a_this a_this_board a_this_area a_this_x0 a_this_y0 a_this_x1 a_this_y1 a_this_head a_this_said a_this_low a_this_high a_this_least a_this_price a_this_way a_this_lineFirst a_this_lineLast a_this_left a_this_pile a_this_rest a_this_read a_this_measure a_this_wentBack v_this_run v_this_signs v_this_lastSigns v_this_dirt v_this_time v_this_lineMany v_this_notSign v_this_notKind v_this_measureMany (u.2.1) (u.2.2.1) (u.2.2.2.1) (u.2.2.2.2))) (fun u : Int32 × (Nat → Int32) × (Nat → Int32) × (Nat → Int32) × (Nat → Int32) => u.1) (by decide) rfl rfl (Nat.le_of_ble_eq_true rfl) ?_
  intro p e s m args below meth c A Q S hK hA hw ret ls hl
  replace hl : lv_has ls 6 [(0, .ref a_this), (1, .int i1), (2, .int i2), (3, .int i3), (4, .int i4), (5, .int i5)] := hl
  refine lv_iload_n S.1 S.2.1 dX8_kind_0 rfl (lv_at hl 1 rfl) ?_
  refine lv_iconst (v := 0) S.1 S.2.1 dX8_kind_1 (by decide) ?_
  refine lv_iconst (v := 5) S.1 S.2.1 dX8_kind_2 (by decide) ?_
  obtain ⟨y1, hc, h⟩ := z_b1_e h
  refine z_callSi (As := [.int i1, .int 0, .int 5]) (rest := []) S (c_X8_in l D cI cJ cZ i1 0 5 _ hc) (va_cwS 3 S.2.2.2.2 (gw_S gw_807 gw_808 gw_58 gw_809) rfl rfl rfl hd_X8_in ⟨Nat.le_of_ble_eq_true rfl, Nat.le_of_ble_eq_true rfl⟩) hK hA hw [] (by decide) rfl rfl [none, none, none, none, none] rfl (by decide) hl.1 rfl rfl (lv_room (Nat.le_of_ble_eq_true rfl)) ⟨Nat.zero_le _, Nat.zero_le _⟩ dX8_kind_3 (fun H locs hw => ?_)
  replace hw : zW D A s H locs (wd_X8_kind cI cJ cZ a_this a_this_board a_this_area a_this_x0 a_this_y0 a_this_x1 a_this_y1 a_this_head a_this_said a_this_low a_this_high a_this_least a_this_price a_this_way a_this_lineFirst a_this_lineLast a_this_left a_this_pile a_this_rest a_this_read a_this_measure a_this_wentBack v_this_run v_this_signs v_this_lastSigns v_this_dirt v_this_time v_this_lineMany v_this_notSign v_this_notKind v_this_measureMany f_this_low f_this_high f_this_least f_this_price) := hw
  refine z_if_eq S (tgt := 53) h dX8_kind_6 (by decide) (fun h => ?_) (fun h => ?_)
  · refine lv_bipush (v := (-2)) S.1 S.2.1 dX8_kind_53 (by decide) ?_
    exact ret ((-2), f_this_low, f_this_high, f_this_least, f_this_price) h 55 ls _ _ dX8_kind_55 hw
  · refine lv_iload_n S.1 S.2.1 dX8_kind_9 rfl (lv_at hl 2 rfl) ?_
    refine lv_iconst (v := 0) S.1 S.2.1 dX8_kind_10 (by decide) ?_
    refine lv_sipush (v := 2000) S.1 S.2.1 dX8_kind_11 (by decide) ?_
    obtain ⟨y2, hc, h⟩ := z_b1_e h
    refine z_callSi (As := [.int i2, .int 0, .int 2000]) (rest := []) S (c_X8_in l D cI cJ cZ i2 0 2000 _ hc) (va_cwS 3 S.2.2.2.2 (gw_S gw_807 gw_808 gw_58 gw_809) rfl rfl rfl hd_X8_in ⟨Nat.le_of_ble_eq_true rfl, Nat.le_of_ble_eq_true rfl⟩) hK hA hw [] (by decide) rfl rfl [none, none, none, none, none] rfl (by decide) hl.1 rfl rfl (lv_room (Nat.le_of_ble_eq_true rfl)) ⟨Nat.zero_le _, Nat.zero_le _⟩ dX8_kind_14 (fun H locs hw => ?_)
    replace hw : zW D A s H locs (wd_X8_kind cI cJ cZ a_this a_this_board a_this_area a_this_x0 a_this_y0 a_this_x1 a_this_y1 a_this_head a_this_said a_this_low a_this_high a_this_least a_this_price a_this_way a_this_lineFirst a_this_lineLast a_this_left a_this_pile a_this_rest a_this_read a_this_measure a_this_wentBack v_this_run v_this_signs v_this_lastSigns v_this_dirt v_this_time v_this_lineMany v_this_notSign v_this_notKind v_this_measureMany f_this_low f_this_high f_this_least f_this_price) := hw
    refine z_if_eq S (tgt := 53) h dX8_kind_17 (by decide) (fun h => ?_) (fun h => ?_)
    · refine lv_bipush (v := (-2)) S.1 S.2.1 dX8_kind_53 (by decide) ?_
      exact ret ((-2), f_this_low, f_this_high, f_this_least, f_this_price) h 55 ls _ _ dX8_kind_55 hw
    · refine lv_iload_n S.1 S.2.1 dX8_kind_20 rfl (lv_at hl 3 rfl) ?_
      refine lv_iload_n S.1 S.2.1 dX8_kind_21 rfl (lv_at hl 2 rfl) ?_
      refine lv_sipush (v := 2000) S.1 S.2.1 dX8_kind_22 (by decide) ?_
      obtain ⟨y3, hc, h⟩ := z_b1_e h
      refine z_callSi (As := [.int i3, .int i2, .int 2000]) (rest := []) S (c_X8_in l D cI cJ cZ i3 i2 2000 _ hc) (va_cwS 3 S.2.2.2.2 (gw_S gw_807 gw_808 gw_58 gw_809) rfl rfl rfl hd_X8_in ⟨Nat.le_of_ble_eq_true rfl, Nat.le_of_ble_eq_true rfl⟩) hK hA hw [] (by decide) rfl rfl [none, none, none, none, none] rfl (by decide) hl.1 rfl rfl (lv_room (Nat.le_of_ble_eq_true rfl)) ⟨Nat.zero_le _, Nat.zero_le _⟩ dX8_kind_25 (fun H locs hw => ?_)
      replace hw : zW D A s H locs (wd_X8_kind cI cJ cZ a_this a_this_board a_this_area a_this_x0 a_this_y0 a_this_x1 a_this_y1 a_this_head a_this_said a_this_low a_this_high a_this_least a_this_price a_this_way a_this_lineFirst a_this_lineLast a_this_left a_this_pile a_this_rest a_this_read a_this_measure a_this_wentBack v_this_run v_this_signs v_this_lastSigns v_this_dirt v_this_time v_this_lineMany v_this_notSign v_this_notKind v_this_measureMany f_this_low f_this_high f_this_least f_this_price) := hw
      refine z_if_eq S (tgt := 53) h dX8_kind_28 (by decide) (fun h => ?_) (fun h => ?_)
      · refine lv_bipush (v := (-2)) S.1 S.2.1 dX8_kind_53 (by decide) ?_
        exact ret ((-2), f_this_low, f_this_high, f_this_least, f_this_price) h 55 ls _ _ dX8_kind_55 hw
      · refine lv_iload S.1 S.2.1 dX8_kind_31 (lv_at hl 4 rfl) ?_
        refine lv_iconst (v := 1) S.1 S.2.1 dX8_kind_33 (by decide) ?_
        refine lv_bipush (v := 32) S.1 S.2.1 dX8_kind_34 (by decide) ?_
        obtain ⟨y4, hc, h⟩ := z_b1_e h
        refine z_callSi (As := [.int i4, .int 1, .int 32]) (rest := []) S (c_X8_in l D cI cJ cZ i4 1 32 _ hc) (va_cwS 3 S.2.2.2.2 (gw_S gw_807 gw_808 gw_58 gw_809) rfl rfl rfl hd_X8_in ⟨Nat.le_of_ble_eq_true rfl, Nat.le_of_ble_eq_true rfl⟩) hK hA hw [] (by decide) rfl rfl [none, none, none, none, none] rfl (by decide) hl.1 rfl rfl (lv_room (Nat.le_of_ble_eq_true rfl)) ⟨Nat.zero_le _, Nat.zero_le _⟩ dX8_kind_36 (fun H locs hw => ?_)
        replace hw : zW D A s H locs (wd_X8_kind cI cJ cZ a_this a_this_board a_this_area a_this_x0 a_this_y0 a_this_x1 a_this_y1 a_this_head a_this_said a_this_low a_this_high a_this_least a_this_price a_this_way a_this_lineFirst a_this_lineLast a_this_left a_this_pile a_this_rest a_this_read a_this_measure a_this_wentBack v_this_run v_this_signs v_this_lastSigns v_this_dirt v_this_time v_this_lineMany v_this_notSign v_this_notKind v_this_measureMany f_this_low f_this_high f_this_least f_this_price) := hw
        refine z_if_eq S (tgt := 53) h dX8_kind_39 (by decide) (fun h => ?_) (fun h => ?_)
        · refine lv_bipush (v := (-2)) S.1 S.2.1 dX8_kind_53 (by decide) ?_
          exact ret ((-2), f_this_low, f_this_high, f_this_least, f_this_price) h 55 ls _ _ dX8_kind_55 hw
        · refine lv_iload S.1 S.2.1 dX8_kind_42 (lv_at hl 5 rfl) ?_
          refine lv_iconst (v := 0) S.1 S.2.1 dX8_kind_44 (by decide) ?_
          refine lv_bipush (v := 100) S.1 S.2.1 dX8_kind_45 (by decide) ?_
          obtain ⟨y5, hc, h⟩ := z_b1_e h
          refine z_callSi (As := [.int i5, .int 0, .int 100]) (rest := []) S (c_X8_in l D cI cJ cZ i5 0 100 _ hc) (va_cwS 3 S.2.2.2.2 (gw_S gw_807 gw_808 gw_58 gw_809) rfl rfl rfl hd_X8_in ⟨Nat.le_of_ble_eq_true rfl, Nat.le_of_ble_eq_true rfl⟩) hK hA hw [] (by decide) rfl rfl [none, none, none, none, none] rfl (by decide) hl.1 rfl rfl (lv_room (Nat.le_of_ble_eq_true rfl)) ⟨Nat.zero_le _, Nat.zero_le _⟩ dX8_kind_47 (fun H locs hw => ?_)
          replace hw : zW D A s H locs (wd_X8_kind cI cJ cZ a_this a_this_board a_this_area a_this_x0 a_this_y0 a_this_x1 a_this_y1 a_this_head a_this_said a_this_low a_this_high a_this_least a_this_price a_this_way a_this_lineFirst a_this_lineLast a_this_left a_this_pile a_this_rest a_this_read a_this_measure a_this_wentBack v_this_run v_this_signs v_this_lastSigns v_this_dirt v_this_time v_this_lineMany v_this_notSign v_this_notKind v_this_measureMany f_this_low f_this_high f_this_least f_this_price) := hw
          refine z_if_ne S (tgt := 56) h dX8_kind_50 (by decide) (fun h => ?_) (fun h => ?_)
          · refine lv_aload_n S.1 S.2.1 dX8_kind_56 rfl (lv_at hl 0 rfl) ?_
            refine z_get S (C := RX8) (T := TX8) (N := 30) (gi gu_X8) hK hw 0 rfl rfl 11 (Nat.le_of_ble_eq_true rfl) (List.mem_cons_of_mem _ gw_722) rfl dX8_kind_57 ?_
            refine lv_iload_n S.1 S.2.1 dX8_kind_60 rfl (lv_at hl 1 rfl) ?_
            refine lv_iload_n S.1 S.2.1 dX8_kind_61 rfl (lv_at hl 2 rfl) ?_
            refine z_iast S hK hw 1 0 rfl rfl h dX8_kind_62 (fun f6 H locs hw h => ?_)
            replace hw : zW D A s H locs (wd_X8_kind cI cJ cZ a_this a_this_board a_this_area a_this_x0 a_this_y0 a_this_x1 a_this_y1 a_this_head a_this_said a_this_low a_this_high a_this_least a_this_price a_this_way a_this_lineFirst a_this_lineLast a_this_left a_this_pile a_this_rest a_this_read a_this_measure a_this_wentBack v_this_run v_this_signs v_this_lastSigns v_this_dirt v_this_time v_this_lineMany v_this_notSign v_this_notKind v_this_measureMany f6 f_this_high f_this_least f_this_price) := hw
            refine lv_aload_n S.1 S.2.1 dX8_kind_63 rfl (lv_at hl 0 rfl) ?_
            refine z_get S (C := RX8) (T := TX8) (N := 30) (gi gu_X8) hK hw 0 rfl rfl 12 (Nat.le_of_ble_eq_true rfl) (List.mem_cons_of_mem _ gw_723) rfl dX8_kind_64 ?_
            refine lv_iload_n S.1 S.2.1 dX8_kind_67 rfl (lv_at hl 1 rfl) ?_
            refine lv_iload_n S.1 S.2.1 dX8_kind_68 rfl (lv_at hl 3 rfl) ?_
            refine z_iast S hK hw 2 0 rfl rfl h dX8_kind_69 (fun f7 H locs hw h => ?_)
            replace hw : zW D A s H locs (wd_X8_kind cI cJ cZ a_this a_this_board a_this_area a_this_x0 a_this_y0 a_this_x1 a_this_y1 a_this_head a_this_said a_this_low a_this_high a_this_least a_this_price a_this_way a_this_lineFirst a_this_lineLast a_this_left a_this_pile a_this_rest a_this_read a_this_measure a_this_wentBack v_this_run v_this_signs v_this_lastSigns v_this_dirt v_this_time v_this_lineMany v_this_notSign v_this_notKind v_this_measureMany f6 f7 f_this_least f_this_price) := hw
            refine lv_aload_n S.1 S.2.1 dX8_kind_70 rfl (lv_at hl 0 rfl) ?_
            refine z_get S (C := RX8) (T := TX8) (N := 30) (gi gu_X8) hK hw 0 rfl rfl 13 (Nat.le_of_ble_eq_true rfl) (List.mem_cons_of_mem _ gw_724) rfl dX8_kind_71 ?_
            refine lv_iload_n S.1 S.2.1 dX8_kind_74 rfl (lv_at hl 1 rfl) ?_
            refine lv_iload S.1 S.2.1 dX8_kind_75 (lv_at hl 4 rfl) ?_
            refine z_iast S hK hw 3 0 rfl rfl h dX8_kind_77 (fun f8 H locs hw h => ?_)
            replace hw : zW D A s H locs (wd_X8_kind cI cJ cZ a_this a_this_board a_this_area a_this_x0 a_this_y0 a_this_x1 a_this_y1 a_this_head a_this_said a_this_low a_this_high a_this_least a_this_price a_this_way a_this_lineFirst a_this_lineLast a_this_left a_this_pile a_this_rest a_this_read a_this_measure a_this_wentBack v_this_run v_this_signs v_this_lastSigns v_this_dirt v_this_time v_this_lineMany v_this_notSign v_this_notKind v_this_measureMany f6 f7 f8 f_this_price) := hw
            refine lv_aload_n S.1 S.2.1 dX8_kind_78 rfl (lv_at hl 0 rfl) ?_
            refine z_get S (C := RX8) (T := TX8) (N := 30) (gi gu_X8) hK hw 0 rfl rfl 14 (Nat.le_of_ble_eq_true rfl) (List.mem_cons_of_mem _ gw_725) rfl dX8_kind_79 ?_
            refine lv_iload_n S.1 S.2.1 dX8_kind_82 rfl (lv_at hl 1 rfl) ?_
            refine lv_iload S.1 S.2.1 dX8_kind_83 (lv_at hl 5 rfl) ?_
            refine z_iast S hK hw 4 0 rfl rfl h dX8_kind_85 (fun f9 H locs hw h => ?_)
            replace hw : zW D A s H locs (wd_X8_kind cI cJ cZ a_this a_this_board a_this_area a_this_x0 a_this_y0 a_this_x1 a_this_y1 a_this_head a_this_said a_this_low a_this_high a_this_least a_this_price a_this_way a_this_lineFirst a_this_lineLast a_this_left a_this_pile a_this_rest a_this_read a_this_measure a_this_wentBack v_this_run v_this_signs v_this_lastSigns v_this_dirt v_this_time v_this_lineMany v_this_notSign v_this_notKind v_this_measureMany f6 f7 f8 f9) := hw
            refine lv_iconst (v := 1) S.1 S.2.1 dX8_kind_86 (by decide) ?_
            exact ret (1, f6, f7, f8, f9) h 87 ls _ _ dX8_kind_87 hw
          · refine lv_bipush (v := (-2)) S.1 S.2.1 dX8_kind_53 (by decide) ?_
            exact ret ((-2), f_this_low, f_this_high, f_this_least, f_this_price) h 55 ls _ _ dX8_kind_55 hw
theorem gw_726 : Cond.fieldLink RX8 57 "ScoreReaderModel" "dirt" "I" ∈ GW := GW_of 726 (by decide +kernel) (by decide +kernel)
theorem gw_727 : Cond.fieldLink RX8 60 "ScoreReaderModel" "time" "I" ∈ GW := GW_of 727 (by decide +kernel) (by decide +kernel)
def gs_X8_set : List Cond := Cond.code yX8_set cX8_set 4 (some .int) :: GW
def wd_X8_set (cI cJ cZ : ClassId) (a_this a_this_board a_this_area a_this_x0 a_this_y0 a_this_x1 a_this_y1 a_this_head a_this_said a_this_low a_this_high a_this_least a_this_price a_this_way a_this_lineFirst a_this_lineLast a_this_left a_this_pile a_this_rest a_this_read a_this_measure a_this_wentBack : Nat) (v_this_run : Int32) (v_this_signs : Int32) (v_this_lastSigns : Int32) (v_this_dirt : Int32) (v_this_time : Int32) (v_this_lineMany : Int32) (v_this_notSign : Int32) (v_this_notKind : Int32) (v_this_measureMany : Int32) : va_W := [(a_this, .inr (8, [.ref a_this_board, .int v_this_run, .int v_this_signs, .int v_this_lastSigns, .ref a_this_area, .ref a_this_x0, .ref a_this_y0, .ref a_this_x1, .ref a_this_y1, .ref a_this_head, .ref a_this_said, .ref a_this_low, .ref a_this_high, .ref a_this_least, .ref a_this_price, .int v_this_dirt, .int v_this_time, .ref a_this_way, .int v_this_lineMany, .ref a_this_lineFirst, .ref a_this_lineLast, .ref a_this_left, .ref a_this_pile, .ref a_this_rest, .int v_this_notSign, .int v_this_notKind, .ref a_this_read, .ref a_this_measure, .int v_this_measureMany, .ref a_this_wentBack]))]
abbrev rm_X8_set : Room := { frames := 1, cells := 0, slots := 0, locals := 22 }
theorem hd_X8_set : yX8_set.cls = RX8 ∧ yX8_set.cls ≠ "java/lang/invoke/MethodHandle" ∧ yX8_set.cls ≠ "java/lang/invoke/VarHandle" ∧ (parseMethodDescriptor yX8_set.desc).map (fun d => d.parameters.length) = some 2 := by decide +kernel
set_option maxHeartbeats 4000000 in
set_option maxRecDepth 100000 in
theorem c_X8_set (l : Launch) (D : va_G) (cI cJ cZ : ClassId) (a_this a_this_board a_this_area a_this_x0 a_this_y0 a_this_x1 a_this_y1 a_this_head a_this_said a_this_low a_this_high a_this_least a_this_price a_this_way a_this_lineFirst a_this_lineLast a_this_left a_this_pile a_this_rest a_this_read a_this_measure a_this_wentBack : Nat) (v_this_run : Int32) (v_this_signs : Int32) (v_this_lastSigns : Int32) (v_this_dirt : Int32) (v_this_time : Int32) (v_this_lineMany : Int32) (v_this_notSign : Int32) (v_this_notKind : Int32) (v_this_measureMany : Int32) (i1 : Int32) (i2 : Int32) (o : Int32 × Int32 × Int32) (h : p_X8_set v_this_dirt v_this_time i1 i2 = some o) : zMi l D (zT cI cJ cZ) yX8_set gs_X8_set rm_X8_set [.ref a_this, .int i1, .int i2] (wd_X8_set cI cJ cZ a_this a_this_board a_this_area a_this_x0 a_this_y0 a_this_x1 a_this_y1 a_this_head a_this_said a_this_low a_this_high a_this_least a_this_price a_this_way a_this_lineFirst a_this_lineLast a_this_left a_this_pile a_this_rest a_this_read a_this_measure a_this_wentBack v_this_run v_this_signs v_this_lastSigns v_this_dirt v_this_time v_this_lineMany v_this_notSign v_this_notKind v_this_measureMany) (wd_X8_set cI cJ cZ a_this a_this_board a_this_area a_this_x0 a_this_y0 a_this_x1 a_this_y1 a_this_head a_this_said a_this_low a_this_high a_this_least a_this_price a_this_way a_this_lineFirst a_this_lineLast a_this_left a_this_pile a_this_rest a_this_read a_this_measure a_this_wentBack v_this_run v_this_signs v_this_lastSigns (o.2.1) (o.2.2) v_this_lineMany v_this_notSign v_this_notKind v_this_measureMany) (o.1) := by
  refine zMet_i (own := RX8) (fun u : Int32 × Int32 × Int32 => (wd_X8_set cI cJ cZ a_this a_this_board a_this_area a_this_x0 a_this_y0 a_this_x1 a_this_y1 a_this_head a_this_said a_this_low a_this_high a_this_least a_this_price a_this_way a_this_lineFirst a_this_lineLast a_this_left a_this_pile a_this_rest a_this_read a_this_measure a_this_wentBack v_this_run v_this_signs v_this_lastSigns (u.2.1) (u.2.2) v_this_lineMany v_this_notSign v_this_notKind v_this_measureMany)) (fun u : Int32 × Int32 × Int32 => u.1) (by decide) rfl rfl (Nat.le_of_ble_eq_true rfl) ?_
  intro p e s m args below meth c A Q S hK hA hw ret ls hl
  replace hl : lv_has ls 4 [(0, .ref a_this), (1, .int i1), (2, .int i2)] := hl
  refine lv_iload_n S.1 S.2.1 dX8_set_0 rfl (lv_at hl 1 rfl) ?_
  refine lv_iconst (v := 0) S.1 S.2.1 dX8_set_1 (by decide) ?_
  refine lv_iconst (v := 1) S.1 S.2.1 dX8_set_2 (by decide) ?_
  obtain ⟨y1, hc, h⟩ := z_b1_e h
  refine z_callSi (As := [.int i1, .int 0, .int 1]) (rest := []) S (c_X8_in l D cI cJ cZ i1 0 1 _ hc) (va_cwS 3 S.2.2.2.2 (gw_S gw_807 gw_808 gw_58 gw_809) rfl rfl rfl hd_X8_in ⟨Nat.le_of_ble_eq_true rfl, Nat.le_of_ble_eq_true rfl⟩) hK hA hw [] (by decide) rfl rfl [none] rfl (by decide) hl.1 rfl rfl (lv_room (Nat.le_of_ble_eq_true rfl)) ⟨Nat.zero_le _, Nat.zero_le _⟩ dX8_set_3 (fun H locs hw => ?_)
  replace hw : zW D A s H locs (wd_X8_set cI cJ cZ a_this a_this_board a_this_area a_this_x0 a_this_y0 a_this_x1 a_this_y1 a_this_head a_this_said a_this_low a_this_high a_this_least a_this_price a_this_way a_this_lineFirst a_this_lineLast a_this_left a_this_pile a_this_rest a_this_read a_this_measure a_this_wentBack v_this_run v_this_signs v_this_lastSigns v_this_dirt v_this_time v_this_lineMany v_this_notSign v_this_notKind v_this_measureMany) := hw
  refine z_if_eq S (tgt := 37) h dX8_set_6 (by decide) (fun h => ?_) (fun h => ?_)
  · refine lv_bipush (v := (-2)) S.1 S.2.1 dX8_set_37 (by decide) ?_
    exact ret ((-2), v_this_dirt, v_this_time) h 39 ls _ _ dX8_set_39 hw
  · refine lv_iload_n S.1 S.2.1 dX8_set_9 rfl (lv_at hl 1 rfl) ?_
    have J_40 : ∀ (h : (p_X8_set_j40 i1 i2 v_this_time v_this_dirt) = some o) (H : Heap) (locs : List Loc) (ls : Array Slot), zW D A s H locs (wd_X8_set cI cJ cZ a_this a_this_board a_this_area a_this_x0 a_this_y0 a_this_x1 a_this_y1 a_this_head a_this_said a_this_low a_this_high a_this_least a_this_price a_this_way a_this_lineFirst a_this_lineLast a_this_left a_this_pile a_this_rest a_this_read a_this_measure a_this_wentBack v_this_run v_this_signs v_this_lastSigns v_this_dirt v_this_time v_this_lineMany v_this_notSign v_this_notKind v_this_measureMany) → lv_has ls 4 [(0, .ref a_this), (1, .int i1), (2, .int i2)] → W p l e (headSpec gs_X8_set rm_X8_set).room s m args below meth c H locs 0 0 Q (F0 m 40 ls []) := by
      intro h H locs ls hw hl
      refine lv_iload_n S.1 S.2.1 dX8_set_40 rfl (lv_at hl 1 rfl) ?_
      have J_55 : ∀ (z2 : Int32) (h : (p_X8_set_j55 i1 i2 v_this_time v_this_dirt) z2 = some o) (H : Heap) (locs : List Loc) (ls : Array Slot), zW D A s H locs (wd_X8_set cI cJ cZ a_this a_this_board a_this_area a_this_x0 a_this_y0 a_this_x1 a_this_y1 a_this_head a_this_said a_this_low a_this_high a_this_least a_this_price a_this_way a_this_lineFirst a_this_lineLast a_this_left a_this_pile a_this_rest a_this_read a_this_measure a_this_wentBack v_this_run v_this_signs v_this_lastSigns v_this_dirt v_this_time v_this_lineMany v_this_notSign v_this_notKind v_this_measureMany) → lv_has ls 4 [(0, .ref a_this), (1, .int i1), (2, .int i2)] → W p l e (headSpec gs_X8_set rm_X8_set).room s m args below meth c H locs 0 0 Q (F0 m 55 ls [.int z2]) := by
        intro z2 h H locs ls hw hl
        refine lv_istore_n (lv' := [(3, .int z2), (0, .ref a_this), (1, .int i1), (2, .int i2)]) S.1 S.2.1 dX8_set_55 rfl hl (by decide) rfl (fun ls hl => ?_)
        refine lv_aload_n S.1 S.2.1 dX8_set_56 rfl (lv_at hl 1 rfl) ?_
        refine lv_iload_n S.1 S.2.1 dX8_set_57 rfl (lv_at hl 2 rfl) ?_
        have J_69 : ∀ (z3 : Int32) (h : (p_X8_set_j69 i1 z2 i2 v_this_time) z3 = some o) (H : Heap) (locs : List Loc) (ls : Array Slot), zW D A s H locs (wd_X8_set cI cJ cZ a_this a_this_board a_this_area a_this_x0 a_this_y0 a_this_x1 a_this_y1 a_this_head a_this_said a_this_low a_this_high a_this_least a_this_price a_this_way a_this_lineFirst a_this_lineLast a_this_left a_this_pile a_this_rest a_this_read a_this_measure a_this_wentBack v_this_run v_this_signs v_this_lastSigns v_this_dirt v_this_time v_this_lineMany v_this_notSign v_this_notKind v_this_measureMany) → lv_has ls 4 [(0, .ref a_this), (1, .int i1), (2, .int i2), (3, .int z2)] → W p l e (headSpec gs_X8_set rm_X8_set).room s m args below meth c H locs 0 0 Q (F0 m 69 ls [.int z3, .ref a_this]) := by
          intro z3 h H locs ls hw hl
          refine z_put S (C := RX8) (T := TX8) (N := 30) (gi gu_X8) tyX8 tyX8_ok nmX8 hK hw 0 rfl rfl 15 (Nat.le_of_ble_eq_true rfl) (List.mem_cons_of_mem _ gw_726) rfl rfl rfl (Nat.le_of_ble_eq_true rfl) dX8_set_69 (fun H locs hw => ?_)
          replace hw : zW D A s H locs (wd_X8_set cI cJ cZ a_this a_this_board a_this_area a_this_x0 a_this_y0 a_this_x1 a_this_y1 a_this_head a_this_said a_this_low a_this_high a_this_least a_this_price a_this_way a_this_lineFirst a_this_lineLast a_this_left a_this_pile a_this_rest a_this_read a_this_measure a_this_wentBack v_this_run v_this_signs v_this_lastSigns z3 v_this_time v_this_lineMany v_this_notSign v_this_notKind v_this_measureMany) := hw
          refine lv_aload_n S.1 S.2.1 dX8_set_72 rfl (lv_at hl 0 rfl) ?_
          refine lv_iload_n S.1 S.2.1 dX8_set_73 rfl (lv_at hl 1 rfl) ?_
          refine lv_iconst (v := 1) S.1 S.2.1 dX8_set_74 (by decide) ?_
          refine z_icmp_ne S (tgt := 82) h dX8_set_75 (by decide) (fun h => ?_) (fun h => ?_)
          · refine lv_aload_n S.1 S.2.1 dX8_set_82 rfl (lv_at hl 0 rfl) ?_
            refine z_get S (C := RX8) (T := TX8) (N := 30) (gi gu_X8) hK hw 0 rfl rfl 16 (Nat.le_of_ble_eq_true rfl) (List.mem_cons_of_mem _ gw_727) rfl dX8_set_83 ?_
            refine z_put S (C := RX8) (T := TX8) (N := 30) (gi gu_X8) tyX8 tyX8_ok nmX8 hK hw 0 rfl rfl 16 (Nat.le_of_ble_eq_true rfl) (List.mem_cons_of_mem _ gw_727) rfl rfl rfl (Nat.le_of_ble_eq_true rfl) dX8_set_86 (fun H locs hw => ?_)
            replace hw : zW D A s H locs (wd_X8_set cI cJ cZ a_this a_this_board a_this_area a_this_x0 a_this_y0 a_this_x1 a_this_y1 a_this_head a_this_said a_this_low a_this_high a_this_least a_this_price a_this_way a_this_lineFirst a_this_lineLast a_this_left a_this_pile a_this_rest a_this_read a_this_measure a_this_wentBack v_this_run v_this_signs v_this_lastSigns z3 v_this_time v_this_lineMany v_this_notSign v_this_notKind v_this_measureMany) := hw
            refine lv_iload_n S.1 S.2.1 dX8_set_89 rfl (lv_at hl 3 rfl) ?_
            exact ret (z2, z3, v_this_time) h 90 ls _ _ dX8_set_90 hw
          · refine lv_iload_n S.1 S.2.1 dX8_set_78 rfl (lv_at hl 2 rfl) ?_
            refine lv_goto (tgt := 86) S.1 S.2.1 dX8_set_79 (by decide) ?_
            refine z_put S (C := RX8) (T := TX8) (N := 30) (gi gu_X8) tyX8 tyX8_ok nmX8 hK hw 0 rfl rfl 16 (Nat.le_of_ble_eq_true rfl) (List.mem_cons_of_mem _ gw_727) rfl rfl rfl (Nat.le_of_ble_eq_true rfl) dX8_set_86 (fun H locs hw => ?_)
            replace hw : zW D A s H locs (wd_X8_set cI cJ cZ a_this a_this_board a_this_area a_this_x0 a_this_y0 a_this_x1 a_this_y1 a_this_head a_this_said a_this_low a_this_high a_this_least a_this_price a_this_way a_this_lineFirst a_this_lineLast a_this_left a_this_pile a_this_rest a_this_read a_this_measure a_this_wentBack v_this_run v_this_signs v_this_lastSigns z3 i2 v_this_lineMany v_this_notSign v_this_notKind v_this_measureMany) := hw
            refine lv_iload_n S.1 S.2.1 dX8_set_89 rfl (lv_at hl 3 rfl) ?_
            exact ret (z2, z3, i2) h 90 ls _ _ dX8_set_90 hw
        refine z_if_ne S (tgt := 65) h dX8_set_58 (by decide) (fun h => ?_) (fun h => ?_)
        · refine lv_aload_n S.1 S.2.1 dX8_set_65 rfl (lv_at hl 1 rfl) ?_
          refine z_get S (C := RX8) (T := TX8) (N := 30) (gi gu_X8) hK hw 0 rfl rfl 15 (Nat.le_of_ble_eq_true rfl) (List.mem_cons_of_mem _ gw_726) rfl dX8_set_66 ?_
          exact J_69 v_this_dirt h _ _ ls hw (lv_sub hl [1, 2, 3, 0] rfl)
        · refine lv_iload_n S.1 S.2.1 dX8_set_61 rfl (lv_at hl 3 rfl) ?_
          refine lv_goto (tgt := 69) S.1 S.2.1 dX8_set_62 (by decide) ?_
          exact J_69 i2 h _ _ ls hw (lv_sub hl [1, 2, 3, 0] rfl)
      refine z_if_ne S (tgt := 51) h dX8_set_41 (by decide) (fun h => ?_) (fun h => ?_)
      · refine lv_aload_n S.1 S.2.1 dX8_set_51 rfl (lv_at hl 0 rfl) ?_
        refine z_get S (C := RX8) (T := TX8) (N := 30) (gi gu_X8) hK hw 0 rfl rfl 16 (Nat.le_of_ble_eq_true rfl) (List.mem_cons_of_mem _ gw_727) rfl dX8_set_52 ?_
        exact J_55 v_this_time h _ _ ls hw (lv_sub hl [0, 1, 2] rfl)
      · refine lv_aload_n S.1 S.2.1 dX8_set_44 rfl (lv_at hl 0 rfl) ?_
        refine z_get S (C := RX8) (T := TX8) (N := 30) (gi gu_X8) hK hw 0 rfl rfl 15 (Nat.le_of_ble_eq_true rfl) (List.mem_cons_of_mem _ gw_726) rfl dX8_set_45 ?_
        refine lv_goto (tgt := 55) S.1 S.2.1 dX8_set_48 (by decide) ?_
        exact J_55 v_this_dirt h _ _ ls hw (lv_sub hl [0, 1, 2] rfl)
    refine z_if_ne S (tgt := 27) h dX8_set_10 (by decide) (fun h => ?_) (fun h => ?_)
    · refine lv_iload_n S.1 S.2.1 dX8_set_27 rfl (lv_at hl 2 rfl) ?_
      refine lv_iconst (v := 2) S.1 S.2.1 dX8_set_28 (by decide) ?_
      refine lv_bipush (v := 48) S.1 S.2.1 dX8_set_29 (by decide) ?_
      obtain ⟨y4, hc, h⟩ := z_b1_e h
      refine z_callSi (As := [.int i2, .int 2, .int 48]) (rest := []) S (c_X8_in l D cI cJ cZ i2 2 48 _ hc) (va_cwS 3 S.2.2.2.2 (gw_S gw_807 gw_808 gw_58 gw_809) rfl rfl rfl hd_X8_in ⟨Nat.le_of_ble_eq_true rfl, Nat.le_of_ble_eq_true rfl⟩) hK hA hw [] (by decide) rfl rfl [none] rfl (by decide) hl.1 rfl rfl (lv_room (Nat.le_of_ble_eq_true rfl)) ⟨Nat.zero_le _, Nat.zero_le _⟩ dX8_set_31 (fun H locs hw => ?_)
      replace hw : zW D A s H locs (wd_X8_set cI cJ cZ a_this a_this_board a_this_area a_this_x0 a_this_y0 a_this_x1 a_this_y1 a_this_head a_this_said a_this_low a_this_high a_this_least a_this_price a_this_way a_this_lineFirst a_this_lineLast a_this_left a_this_pile a_this_rest a_this_read a_this_measure a_this_wentBack v_this_run v_this_signs v_this_lastSigns v_this_dirt v_this_time v_this_lineMany v_this_notSign v_this_notKind v_this_measureMany) := hw
      refine z_if_ne S (tgt := 40) h dX8_set_34 (by decide) (fun h => ?_) (fun h => ?_)
      · exact J_40 h _ _ ls hw (lv_sub hl [0, 1, 2] rfl)
      · refine lv_bipush (v := (-2)) S.1 S.2.1 dX8_set_37 (by decide) ?_
        exact ret ((-2), v_this_dirt, v_this_time) h 39 ls _ _ dX8_set_39 hw
    · refine lv_iload_n S.1 S.2.1 dX8_set_13 rfl (lv_at hl 2 rfl) ?_
      refine lv_iconst (v := 0) S.1 S.2.1 dX8_set_14 (by decide) ?_
      refine lv_sipush (v := 1000) S.1 S.2.1 dX8_set_15 (by decide) ?_
      obtain ⟨y5, hc, h⟩ := z_b1_e h
      refine z_callSi (As := [.int i2, .int 0, .int 1000]) (rest := []) S (c_X8_in l D cI cJ cZ i2 0 1000 _ hc) (va_cwS 3 S.2.2.2.2 (gw_S gw_807 gw_808 gw_58 gw_809) rfl rfl rfl hd_X8_in ⟨Nat.le_of_ble_eq_true rfl, Nat.le_of_ble_eq_true rfl⟩) hK hA hw [] (by decide) rfl rfl [none] rfl (by decide) hl.1 rfl rfl (lv_room (Nat.le_of_ble_eq_true rfl)) ⟨Nat.zero_le _, Nat.zero_le _⟩ dX8_set_18 (fun H locs hw => ?_)
      replace hw : zW D A s H locs (wd_X8_set cI cJ cZ a_this a_this_board a_this_area a_this_x0 a_this_y0 a_this_x1 a_this_y1 a_this_head a_this_said a_this_low a_this_high a_this_least a_this_price a_this_way a_this_lineFirst a_this_lineLast a_this_left a_this_pile a_this_rest a_this_read a_this_measure a_this_wentBack v_this_run v_this_signs v_this_lastSigns v_this_dirt v_this_time v_this_lineMany v_this_notSign v_this_notKind v_this_measureMany) := hw
      refine z_if_ne S (tgt := 40) h dX8_set_21 (by decide) (fun h => ?_) (fun h => ?_)
      · exact J_40 h _ _ ls hw (lv_sub hl [0, 1, 2] rfl)
      · refine lv_goto (tgt := 37) S.1 S.2.1 dX8_set_24 (by decide) ?_
        refine lv_bipush (v := (-2)) S.1 S.2.1 dX8_set_37 (by decide) ?_
        exact ret ((-2), v_this_dirt, v_this_time) h 39 ls _ _ dX8_set_39 hw
theorem gw_878 : Cond.methodLink RX8 146 yX8_isSign ∈ GW := GW_of 878 (by decide +kernel) (by decide +kernel)
theorem gw_881 : Cond.code yX8_isSign cX8_isSign 2 (some .boolean) ∈ GW := GW_of 881 (by decide +kernel) (by decide +kernel)
theorem gw_880 : Cond.instanceMethod yX8_isSign ∈ GW := GW_of 880 (by decide +kernel) (by decide +kernel)
theorem gw_39 : Cond.selects RX8 yX8_isSign yX8_isSign ∈ GW := GW_of 39 (by decide +kernel) (by decide +kernel)
def gs_X8_correct : List Cond := Cond.code yX8_correct cX8_correct 4 (some .int) :: GW
def wd_X8_correct (cI cJ cZ : ClassId) (a_this a_this_board a_this_area a_this_x0 a_this_y0 a_this_x1 a_this_y1 a_this_head a_this_said a_this_low a_this_high a_this_least a_this_price a_this_way a_this_lineFirst a_this_lineLast a_this_left a_this_pile a_this_rest a_this_read a_this_measure a_this_wentBack : Nat) (v_this_run : Int32) (v_this_signs : Int32) (v_this_lastSigns : Int32) (v_this_dirt : Int32) (v_this_time : Int32) (v_this_lineMany : Int32) (v_this_notSign : Int32) (v_this_notKind : Int32) (v_this_measureMany : Int32) (f_this_said : Nat → Int32) : va_W := [(a_this, .inr (8, [.ref a_this_board, .int v_this_run, .int v_this_signs, .int v_this_lastSigns, .ref a_this_area, .ref a_this_x0, .ref a_this_y0, .ref a_this_x1, .ref a_this_y1, .ref a_this_head, .ref a_this_said, .ref a_this_low, .ref a_this_high, .ref a_this_least, .ref a_this_price, .int v_this_dirt, .int v_this_time, .ref a_this_way, .int v_this_lineMany, .ref a_this_lineFirst, .ref a_this_lineLast, .ref a_this_left, .ref a_this_pile, .ref a_this_rest, .int v_this_notSign, .int v_this_notKind, .ref a_this_read, .ref a_this_measure, .int v_this_measureMany, .ref a_this_wentBack])), (a_this_said, .inl (cI, 40, .inl f_this_said))]
abbrev rm_X8_correct : Room := { frames := 2, cells := 0, slots := 0, locals := 43 }
theorem hd_X8_correct : yX8_correct.cls = RX8 ∧ yX8_correct.cls ≠ "java/lang/invoke/MethodHandle" ∧ yX8_correct.cls ≠ "java/lang/invoke/VarHandle" ∧ (parseMethodDescriptor yX8_correct.desc).map (fun d => d.parameters.length) = some 2 := by decide +kernel
set_option maxHeartbeats 4000000 in
set_option maxRecDepth 100000 in
theorem c_X8_correct (l : Launch) (D : va_G) (cI cJ cZ : ClassId) (a_this a_this_board a_this_area a_this_x0 a_this_y0 a_this_x1 a_this_y1 a_this_head a_this_said a_this_low a_this_high a_this_least a_this_price a_this_way a_this_lineFirst a_this_lineLast a_this_left a_this_pile a_this_rest a_this_read a_this_measure a_this_wentBack : Nat) (v_this_run : Int32) (v_this_signs : Int32) (v_this_lastSigns : Int32) (v_this_dirt : Int32) (v_this_time : Int32) (v_this_lineMany : Int32) (v_this_notSign : Int32) (v_this_notKind : Int32) (v_this_measureMany : Int32) (f_this_said : Nat → Int32) (i1 : Int32) (i2 : Int32) (o : Int32 × (Nat → Int32)) (h : p_X8_correct v_this_signs f_this_said i1 i2 = some o) : zMi l D (zT cI cJ cZ) yX8_correct gs_X8_correct rm_X8_correct [.ref a_this, .int i1, .int i2] (wd_X8_correct cI cJ cZ a_this a_this_board a_this_area a_this_x0 a_this_y0 a_this_x1 a_this_y1 a_this_head a_this_said a_this_low a_this_high a_this_least a_this_price a_this_way a_this_lineFirst a_this_lineLast a_this_left a_this_pile a_this_rest a_this_read a_this_measure a_this_wentBack v_this_run v_this_signs v_this_lastSigns v_this_dirt v_this_time v_this_lineMany v_this_notSign v_this_notKind v_this_measureMany f_this_said) (wd_X8_correct cI cJ cZ a_this a_this_board a_this_area a_this_x0 a_this_y0 a_this_x1 a_this_y1 a_this_head a_this_said a_this_low a_this_high a_this_least a_this_price a_this_way a_this_lineFirst a_this_lineLast a_this_left a_this_pile a_this_rest a_this_read a_this_measure a_this_wentBack v_this_run v_this_signs v_this_lastSigns v_this_dirt v_this_time v_this_lineMany v_this_notSign v_this_notKind v_this_measureMany (o.2)) (o.1) := by
  refine zMet_i (own := RX8) (fun u : Int32 × (Nat → Int32) => (wd_X8_correct cI cJ cZ a_this a_this_board a_this_area a_this_x0 a_this_y0 a_this_x1 a_this_y1 a_this_head a_this_said a_this_low a_this_high a_this_least a_this_price a_this_way a_this_lineFirst a_this_lineLast a_this_left a_this_pile a_this_rest a_this_read a_this_measure a_this_wentBack v_this_run v_this_signs v_this_lastSigns v_this_dirt v_this_time v_this_lineMany v_this_notSign v_this_notKind v_this_measureMany (u.2))) (fun u : Int32 × (Nat → Int32) => u.1) (by decide) rfl rfl (Nat.le_of_ble_eq_true rfl) ?_
  intro p e s m args below meth c A Q S hK hA hw ret ls hl
  replace hl : lv_has ls 4 [(0, .ref a_this), (1, .int i1), (2, .int i2)] := hl
  refine lv_iload_n S.1 S.2.1 dX8_correct_0 rfl (lv_at hl 2 rfl) ?_
  refine lv_iconst (v := (-1)) S.1 S.2.1 dX8_correct_1 (by decide) ?_
  refine lv_bipush (v := 6) S.1 S.2.1 dX8_correct_2 (by decide) ?_
  obtain ⟨y1, hc, h⟩ := z_b1_e h
  refine z_callSi (As := [.int i2, .int (-1), .int 6]) (rest := []) S (c_X8_in l D cI cJ cZ i2 (-1) 6 _ hc) (va_cwS 3 S.2.2.2.2 (gw_S gw_807 gw_808 gw_58 gw_809) rfl rfl rfl hd_X8_in ⟨Nat.le_of_ble_eq_true rfl, Nat.le_of_ble_eq_true rfl⟩) hK hA hw [] (by decide) rfl rfl [none, none] rfl (by decide) hl.1 rfl rfl (lv_room (Nat.le_of_ble_eq_true rfl)) ⟨Nat.zero_le _, Nat.zero_le _⟩ dX8_correct_4 (fun H locs hw => ?_)
  replace hw : zW D A s H locs (wd_X8_correct cI cJ cZ a_this a_this_board a_this_area a_this_x0 a_this_y0 a_this_x1 a_this_y1 a_this_head a_this_said a_this_low a_this_high a_this_least a_this_price a_this_way a_this_lineFirst a_this_lineLast a_this_left a_this_pile a_this_rest a_this_read a_this_measure a_this_wentBack v_this_run v_this_signs v_this_lastSigns v_this_dirt v_this_time v_this_lineMany v_this_notSign v_this_notKind v_this_measureMany f_this_said) := hw
  refine z_if_ne S (tgt := 13) h dX8_correct_7 (by decide) (fun h => ?_) (fun h => ?_)
  · refine lv_aload_n S.1 S.2.1 dX8_correct_13 rfl (lv_at hl 0 rfl) ?_
    refine z_get S (C := RX8) (T := TX8) (N := 30) (gi gu_X8) hK hw 0 rfl rfl 2 (Nat.le_of_ble_eq_true rfl) (List.mem_cons_of_mem _ gw_713) rfl dX8_correct_14 ?_
    refine lv_iconst (v := (-1)) S.1 S.2.1 dX8_correct_17 (by decide) ?_
    refine z_icmp_ne S (tgt := 24) h dX8_correct_18 (by decide) (fun h => ?_) (fun h => ?_)
    · refine lv_aload_n S.1 S.2.1 dX8_correct_24 rfl (lv_at hl 0 rfl) ?_
      refine lv_iload_n S.1 S.2.1 dX8_correct_25 rfl (lv_at hl 1 rfl) ?_
      obtain ⟨y2, hc, h⟩ := z_b1_e h
      refine z_callVi (As := [.int i1]) (rest := []) S (c_X8_isSign l D cI cJ cZ a_this a_this_board a_this_area a_this_x0 a_this_y0 a_this_x1 a_this_y1 a_this_head a_this_said a_this_low a_this_high a_this_least a_this_price a_this_way a_this_lineFirst a_this_lineLast a_this_left a_this_pile a_this_rest a_this_read a_this_measure a_this_wentBack v_this_run v_this_signs v_this_lastSigns v_this_dirt v_this_time v_this_lineMany v_this_notSign v_this_notKind v_this_measureMany i1 _ hc) (cwV 1 S.2.2.2.2 (gw_V gw_878 gw_880 gw_39 gw_58 gw_881) rfl rfl rfl hd_X8_isSign ⟨Nat.le_of_ble_eq_true rfl, Nat.le_of_ble_eq_true rfl⟩) hK hA hw [0] (by decide) rfl rfl [some 0, none] rfl (by decide) 0 rfl rfl hl.1 rfl rfl (lv_room (Nat.le_of_ble_eq_true rfl)) ⟨Nat.zero_le _, Nat.zero_le _⟩ dX8_correct_26 (fun H locs hw => ?_)
      replace hw : zW D A s H locs (wd_X8_correct cI cJ cZ a_this a_this_board a_this_area a_this_x0 a_this_y0 a_this_x1 a_this_y1 a_this_head a_this_said a_this_low a_this_high a_this_least a_this_price a_this_way a_this_lineFirst a_this_lineLast a_this_left a_this_pile a_this_rest a_this_read a_this_measure a_this_wentBack v_this_run v_this_signs v_this_lastSigns v_this_dirt v_this_time v_this_lineMany v_this_notSign v_this_notKind v_this_measureMany f_this_said) := hw
      refine z_if_ne S (tgt := 35) h dX8_correct_29 (by decide) (fun h => ?_) (fun h => ?_)
      · refine lv_aload_n S.1 S.2.1 dX8_correct_35 rfl (lv_at hl 0 rfl) ?_
        refine z_get S (C := RX8) (T := TX8) (N := 30) (gi gu_X8) hK hw 0 rfl rfl 10 (Nat.le_of_ble_eq_true rfl) (List.mem_cons_of_mem _ gw_721) rfl dX8_correct_36 ?_
        refine lv_iload_n S.1 S.2.1 dX8_correct_39 rfl (lv_at hl 1 rfl) ?_
        refine z_iald S hK hw 1 0 rfl rfl h dX8_correct_40 (fun y3 h => ?_)
        refine lv_istore_n (lv' := [(3, .int y3), (0, .ref a_this), (1, .int i1), (2, .int i2)]) S.1 S.2.1 dX8_correct_41 rfl hl (by decide) rfl (fun ls hl => ?_)
        refine lv_aload_n S.1 S.2.1 dX8_correct_42 rfl (lv_at hl 1 rfl) ?_
        refine z_get S (C := RX8) (T := TX8) (N := 30) (gi gu_X8) hK hw 0 rfl rfl 10 (Nat.le_of_ble_eq_true rfl) (List.mem_cons_of_mem _ gw_721) rfl dX8_correct_43 ?_
        refine lv_iload_n S.1 S.2.1 dX8_correct_46 rfl (lv_at hl 2 rfl) ?_
        refine lv_iload_n S.1 S.2.1 dX8_correct_47 rfl (lv_at hl 3 rfl) ?_
        refine z_iast S hK hw 1 0 rfl rfl h dX8_correct_48 (fun f4 H locs hw h => ?_)
        replace hw : zW D A s H locs (wd_X8_correct cI cJ cZ a_this a_this_board a_this_area a_this_x0 a_this_y0 a_this_x1 a_this_y1 a_this_head a_this_said a_this_low a_this_high a_this_least a_this_price a_this_way a_this_lineFirst a_this_lineLast a_this_left a_this_pile a_this_rest a_this_read a_this_measure a_this_wentBack v_this_run v_this_signs v_this_lastSigns v_this_dirt v_this_time v_this_lineMany v_this_notSign v_this_notKind v_this_measureMany f4) := hw
        refine lv_iload_n S.1 S.2.1 dX8_correct_49 rfl (lv_at hl 0 rfl) ?_
        exact ret (y3, f4) h 50 ls _ _ dX8_correct_50 hw
      · refine lv_bipush (v := (-2)) S.1 S.2.1 dX8_correct_32 (by decide) ?_
        exact ret ((-2), f_this_said) h 34 ls _ _ dX8_correct_34 hw
    · refine lv_bipush (v := (-3)) S.1 S.2.1 dX8_correct_21 (by decide) ?_
      exact ret ((-3), f_this_said) h 23 ls _ _ dX8_correct_23 hw
  · refine lv_bipush (v := (-2)) S.1 S.2.1 dX8_correct_10 (by decide) ?_
    exact ret ((-2), f_this_said) h 12 ls _ _ dX8_correct_12 hw
def gs_X8_restAt : List Cond := Cond.code yX8_restAt cX8_restAt 3 (some .int) :: GW
def wd_X8_restAt (cI cJ cZ : ClassId) : va_W := []
abbrev rm_X8_restAt : Room := { frames := 0, cells := 0, slots := 0, locals := 0 }
theorem hd_X8_restAt : yX8_restAt.cls ≠ "java/lang/invoke/MethodHandle" ∧ yX8_restAt.cls ≠ "java/lang/invoke/VarHandle" ∧ (parseMethodDescriptor yX8_restAt.desc).map (fun d => d.parameters.length) = some 3 := by decide +kernel
set_option maxHeartbeats 4000000 in
set_option maxRecDepth 100000 in
theorem c_X8_restAt (l : Launch) (D : va_G) (cI cJ cZ : ClassId) (i0 : Int32) (i1 : Int32) (i2 : Int32) (o : Int32) (h : p_X8_restAt i0 i1 i2 = some o) : zMi l D (zT cI cJ cZ) yX8_restAt gs_X8_restAt rm_X8_restAt [.int i0, .int i1, .int i2] (wd_X8_restAt cI cJ cZ) (wd_X8_restAt cI cJ cZ) (o) := by
  refine zMet_i (own := RX8) (fun u : Int32 => (wd_X8_restAt cI cJ cZ)) (fun u : Int32 => u) (by decide) rfl rfl (Nat.le_of_ble_eq_true rfl) ?_
  intro p e s m args below meth c A Q S hK hA hw ret ls hl
  replace hl : lv_has ls 3 [(0, .int i0), (1, .int i1), (2, .int i2)] := hl
  refine lv_bipush (v := 49) S.1 S.2.1 dX8_restAt_0 (by decide) ?_
  refine lv_iload_n S.1 S.2.1 dX8_restAt_2 rfl (lv_at hl 0 rfl) ?_
  refine lv_imul S.1 S.2.1 dX8_restAt_3 ?_
  refine lv_iload_n S.1 S.2.1 dX8_restAt_4 rfl (lv_at hl 1 rfl) ?_
  refine lv_iadd S.1 S.2.1 dX8_restAt_5 ?_
  refine lv_iconst (v := 3) S.1 S.2.1 dX8_restAt_6 (by decide) ?_
  refine lv_imul S.1 S.2.1 dX8_restAt_7 ?_
  refine lv_iload_n S.1 S.2.1 dX8_restAt_8 rfl (lv_at hl 2 rfl) ?_
  refine lv_iadd S.1 S.2.1 dX8_restAt_9 ?_
  exact ret ((((49 * i0) + i1) * 3) + i2) h 10 ls _ _ dX8_restAt_10 hw
def gs_X8_timeOf : List Cond := Cond.code yX8_timeOf cX8_timeOf 1 (some .int) :: GW
def wd_X8_timeOf (cI cJ cZ : ClassId) : va_W := []
abbrev rm_X8_timeOf : Room := { frames := 0, cells := 0, slots := 0, locals := 0 }
theorem hd_X8_timeOf : yX8_timeOf.cls ≠ "java/lang/invoke/MethodHandle" ∧ yX8_timeOf.cls ≠ "java/lang/invoke/VarHandle" ∧ (parseMethodDescriptor yX8_timeOf.desc).map (fun d => d.parameters.length) = some 1 := by decide +kernel
set_option maxHeartbeats 4000000 in
set_option maxRecDepth 100000 in
theorem c_X8_timeOf (l : Launch) (D : va_G) (cI cJ cZ : ClassId) (i0 : Int32) (o : Int32) (h : p_X8_timeOf i0 = some o) : zMi l D (zT cI cJ cZ) yX8_timeOf gs_X8_timeOf rm_X8_timeOf [.int i0] (wd_X8_timeOf cI cJ cZ) (wd_X8_timeOf cI cJ cZ) (o) := by
  refine zMet_i (own := RX8) (fun u : Int32 => (wd_X8_timeOf cI cJ cZ)) (fun u : Int32 => u) (by decide) rfl rfl (Nat.le_of_ble_eq_true rfl) ?_
  intro p e s m args below meth c A Q S hK hA hw ret ls hl
  replace hl : lv_has ls 1 [(0, .int i0)] := hl
  refine lv_iload_n S.1 S.2.1 dX8_timeOf_0 rfl (lv_at hl 0 rfl) ?_
  refine lv_iconst (v := 1) S.1 S.2.1 dX8_timeOf_1 (by decide) ?_
  refine z_icmp_ne S (tgt := 10) h dX8_timeOf_2 (by decide) (fun h => ?_) (fun h => ?_)
  · refine lv_iload_n S.1 S.2.1 dX8_timeOf_10 rfl (lv_at hl 0 rfl) ?_
    refine lv_iconst (v := 2) S.1 S.2.1 dX8_timeOf_11 (by decide) ?_
    refine z_icmp_ne S (tgt := 20) h dX8_timeOf_12 (by decide) (fun h => ?_) (fun h => ?_)
    · refine lv_iconst (v := 4) S.1 S.2.1 dX8_timeOf_20 (by decide) ?_
      exact ret 4 h 21 ls _ _ dX8_timeOf_21 hw
    · refine lv_bipush (v := 16) S.1 S.2.1 dX8_timeOf_15 (by decide) ?_
      refine lv_goto (tgt := 21) S.1 S.2.1 dX8_timeOf_17 (by decide) ?_
      exact ret 16 h 21 ls _ _ dX8_timeOf_21 hw
  · refine lv_bipush (v := 8) S.1 S.2.1 dX8_timeOf_5 (by decide) ?_
    refine lv_goto (tgt := 21) S.1 S.2.1 dX8_timeOf_7 (by decide) ?_
    exact ret 8 h 21 ls _ _ dX8_timeOf_21 hw
theorem gw_728 : Cond.fieldLink RX8 63 "ScoreReaderModel" "way" "[I" ∈ GW := GW_of 728 (by decide +kernel) (by decide +kernel)
def gs_X8_sway : List Cond := Cond.code yX8_sway cX8_sway 4 (some .int) :: GW
def wd_X8_sway (cI cJ cZ : ClassId) (a_this a_this_board a_this_area a_this_x0 a_this_y0 a_this_x1 a_this_y1 a_this_head a_this_said a_this_low a_this_high a_this_least a_this_price a_this_way a_this_lineFirst a_this_lineLast a_this_left a_this_pile a_this_rest a_this_read a_this_measure a_this_wentBack : Nat) (v_this_run : Int32) (v_this_signs : Int32) (v_this_lastSigns : Int32) (v_this_dirt : Int32) (v_this_time : Int32) (v_this_lineMany : Int32) (v_this_notSign : Int32) (v_this_notKind : Int32) (v_this_measureMany : Int32) (f_this_way : Nat → Int32) : va_W := [(a_this, .inr (8, [.ref a_this_board, .int v_this_run, .int v_this_signs, .int v_this_lastSigns, .ref a_this_area, .ref a_this_x0, .ref a_this_y0, .ref a_this_x1, .ref a_this_y1, .ref a_this_head, .ref a_this_said, .ref a_this_low, .ref a_this_high, .ref a_this_least, .ref a_this_price, .int v_this_dirt, .int v_this_time, .ref a_this_way, .int v_this_lineMany, .ref a_this_lineFirst, .ref a_this_lineLast, .ref a_this_left, .ref a_this_pile, .ref a_this_rest, .int v_this_notSign, .int v_this_notKind, .ref a_this_read, .ref a_this_measure, .int v_this_measureMany, .ref a_this_wentBack])), (a_this_way, .inl (cI, 40, .inl f_this_way))]
abbrev rm_X8_sway : Room := { frames := 1, cells := 0, slots := 0, locals := 22 }
theorem hd_X8_sway : yX8_sway.cls = RX8 ∧ yX8_sway.cls ≠ "java/lang/invoke/MethodHandle" ∧ yX8_sway.cls ≠ "java/lang/invoke/VarHandle" ∧ (parseMethodDescriptor yX8_sway.desc).map (fun d => d.parameters.length) = some 2 := by decide +kernel
set_option maxHeartbeats 4000000 in
set_option maxRecDepth 100000 in
theorem c_X8_sway (l : Launch) (D : va_G) (cI cJ cZ : ClassId) (a_this a_this_board a_this_area a_this_x0 a_this_y0 a_this_x1 a_this_y1 a_this_head a_this_said a_this_low a_this_high a_this_least a_this_price a_this_way a_this_lineFirst a_this_lineLast a_this_left a_this_pile a_this_rest a_this_read a_this_measure a_this_wentBack : Nat) (v_this_run : Int32) (v_this_signs : Int32) (v_this_lastSigns : Int32) (v_this_dirt : Int32) (v_this_time : Int32) (v_this_lineMany : Int32) (v_this_notSign : Int32) (v_this_notKind : Int32) (v_this_measureMany : Int32) (f_this_way : Nat → Int32) (i1 : Int32) (i2 : Int32) (o : Int32 × (Nat → Int32)) (h : p_X8_sway f_this_way i1 i2 = some o) : zMi l D (zT cI cJ cZ) yX8_sway gs_X8_sway rm_X8_sway [.ref a_this, .int i1, .int i2] (wd_X8_sway cI cJ cZ a_this a_this_board a_this_area a_this_x0 a_this_y0 a_this_x1 a_this_y1 a_this_head a_this_said a_this_low a_this_high a_this_least a_this_price a_this_way a_this_lineFirst a_this_lineLast a_this_left a_this_pile a_this_rest a_this_read a_this_measure a_this_wentBack v_this_run v_this_signs v_this_lastSigns v_this_dirt v_this_time v_this_lineMany v_this_notSign v_this_notKind v_this_measureMany f_this_way) (wd_X8_sway cI cJ cZ a_this a_this_board a_this_area a_this_x0 a_this_y0 a_this_x1 a_this_y1 a_this_head a_this_said a_this_low a_this_high a_this_least a_this_price a_this_way a_this_lineFirst a_this_lineLast a_this_left a_this_pile a_this_rest a_this_read a_this_measure a_this_wentBack v_this_run v_this_signs v_this_lastSigns v_this_dirt v_this_time v_this_lineMany v_this_notSign v_this_notKind v_this_measureMany (o.2)) (o.1) := by
  refine zMet_i (own := RX8) (fun u : Int32 × (Nat → Int32) => (wd_X8_sway cI cJ cZ a_this a_this_board a_this_area a_this_x0 a_this_y0 a_this_x1 a_this_y1 a_this_head a_this_said a_this_low a_this_high a_this_least a_this_price a_this_way a_this_lineFirst a_this_lineLast a_this_left a_this_pile a_this_rest a_this_read a_this_measure a_this_wentBack v_this_run v_this_signs v_this_lastSigns v_this_dirt v_this_time v_this_lineMany v_this_notSign v_this_notKind v_this_measureMany (u.2))) (fun u : Int32 × (Nat → Int32) => u.1) (by decide) rfl rfl (Nat.le_of_ble_eq_true rfl) ?_
  intro p e s m args below meth c A Q S hK hA hw ret ls hl
  replace hl : lv_has ls 4 [(0, .ref a_this), (1, .int i1), (2, .int i2)] := hl
  refine lv_iload_n S.1 S.2.1 dX8_sway_0 rfl (lv_at hl 1 rfl) ?_
  refine lv_iconst (v := 0) S.1 S.2.1 dX8_sway_1 (by decide) ?_
  refine lv_bipush (v := 39) S.1 S.2.1 dX8_sway_2 (by decide) ?_
  obtain ⟨y1, hc, h⟩ := z_b1_e h
  refine z_callSi (As := [.int i1, .int 0, .int 39]) (rest := []) S (c_X8_in l D cI cJ cZ i1 0 39 _ hc) (va_cwS 3 S.2.2.2.2 (gw_S gw_807 gw_808 gw_58 gw_809) rfl rfl rfl hd_X8_in ⟨Nat.le_of_ble_eq_true rfl, Nat.le_of_ble_eq_true rfl⟩) hK hA hw [] (by decide) rfl rfl [none, none] rfl (by decide) hl.1 rfl rfl (lv_room (Nat.le_of_ble_eq_true rfl)) ⟨Nat.zero_le _, Nat.zero_le _⟩ dX8_sway_4 (fun H locs hw => ?_)
  replace hw : zW D A s H locs (wd_X8_sway cI cJ cZ a_this a_this_board a_this_area a_this_x0 a_this_y0 a_this_x1 a_this_y1 a_this_head a_this_said a_this_low a_this_high a_this_least a_this_price a_this_way a_this_lineFirst a_this_lineLast a_this_left a_this_pile a_this_rest a_this_read a_this_measure a_this_wentBack v_this_run v_this_signs v_this_lastSigns v_this_dirt v_this_time v_this_lineMany v_this_notSign v_this_notKind v_this_measureMany f_this_way) := hw
  refine z_if_eq S (tgt := 19) h dX8_sway_7 (by decide) (fun h => ?_) (fun h => ?_)
  · refine lv_bipush (v := (-2)) S.1 S.2.1 dX8_sway_19 (by decide) ?_
    exact ret ((-2), f_this_way) h 21 ls _ _ dX8_sway_21 hw
  · refine lv_iload_n S.1 S.2.1 dX8_sway_10 rfl (lv_at hl 2 rfl) ?_
    refine lv_iconst (v := 0) S.1 S.2.1 dX8_sway_11 (by decide) ?_
    refine lv_iconst (v := 4) S.1 S.2.1 dX8_sway_12 (by decide) ?_
    obtain ⟨y2, hc, h⟩ := z_b1_e h
    refine z_callSi (As := [.int i2, .int 0, .int 4]) (rest := []) S (c_X8_in l D cI cJ cZ i2 0 4 _ hc) (va_cwS 3 S.2.2.2.2 (gw_S gw_807 gw_808 gw_58 gw_809) rfl rfl rfl hd_X8_in ⟨Nat.le_of_ble_eq_true rfl, Nat.le_of_ble_eq_true rfl⟩) hK hA hw [] (by decide) rfl rfl [none, none] rfl (by decide) hl.1 rfl rfl (lv_room (Nat.le_of_ble_eq_true rfl)) ⟨Nat.zero_le _, Nat.zero_le _⟩ dX8_sway_13 (fun H locs hw => ?_)
    replace hw : zW D A s H locs (wd_X8_sway cI cJ cZ a_this a_this_board a_this_area a_this_x0 a_this_y0 a_this_x1 a_this_y1 a_this_head a_this_said a_this_low a_this_high a_this_least a_this_price a_this_way a_this_lineFirst a_this_lineLast a_this_left a_this_pile a_this_rest a_this_read a_this_measure a_this_wentBack v_this_run v_this_signs v_this_lastSigns v_this_dirt v_this_time v_this_lineMany v_this_notSign v_this_notKind v_this_measureMany f_this_way) := hw
    refine z_if_ne S (tgt := 22) h dX8_sway_16 (by decide) (fun h => ?_) (fun h => ?_)
    · refine lv_aload_n S.1 S.2.1 dX8_sway_22 rfl (lv_at hl 0 rfl) ?_
      refine z_get S (C := RX8) (T := TX8) (N := 30) (gi gu_X8) hK hw 0 rfl rfl 17 (Nat.le_of_ble_eq_true rfl) (List.mem_cons_of_mem _ gw_728) rfl dX8_sway_23 ?_
      refine lv_iload_n S.1 S.2.1 dX8_sway_26 rfl (lv_at hl 1 rfl) ?_
      refine z_iald S hK hw 1 0 rfl rfl h dX8_sway_27 (fun y3 h => ?_)
      refine lv_istore_n (lv' := [(3, .int y3), (0, .ref a_this), (1, .int i1), (2, .int i2)]) S.1 S.2.1 dX8_sway_28 rfl hl (by decide) rfl (fun ls hl => ?_)
      refine lv_aload_n S.1 S.2.1 dX8_sway_29 rfl (lv_at hl 1 rfl) ?_
      refine z_get S (C := RX8) (T := TX8) (N := 30) (gi gu_X8) hK hw 0 rfl rfl 17 (Nat.le_of_ble_eq_true rfl) (List.mem_cons_of_mem _ gw_728) rfl dX8_sway_30 ?_
      refine lv_iload_n S.1 S.2.1 dX8_sway_33 rfl (lv_at hl 2 rfl) ?_
      refine lv_iload_n S.1 S.2.1 dX8_sway_34 rfl (lv_at hl 3 rfl) ?_
      refine z_iast S hK hw 1 0 rfl rfl h dX8_sway_35 (fun f4 H locs hw h => ?_)
      replace hw : zW D A s H locs (wd_X8_sway cI cJ cZ a_this a_this_board a_this_area a_this_x0 a_this_y0 a_this_x1 a_this_y1 a_this_head a_this_said a_this_low a_this_high a_this_least a_this_price a_this_way a_this_lineFirst a_this_lineLast a_this_left a_this_pile a_this_rest a_this_read a_this_measure a_this_wentBack v_this_run v_this_signs v_this_lastSigns v_this_dirt v_this_time v_this_lineMany v_this_notSign v_this_notKind v_this_measureMany f4) := hw
      refine lv_iload_n S.1 S.2.1 dX8_sway_36 rfl (lv_at hl 0 rfl) ?_
      exact ret (y3, f4) h 37 ls _ _ dX8_sway_37 hw
    · refine lv_bipush (v := (-2)) S.1 S.2.1 dX8_sway_19 (by decide) ?_
      exact ret ((-2), f_this_way) h 21 ls _ _ dX8_sway_21 hw
