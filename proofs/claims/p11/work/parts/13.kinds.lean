theorem gw_154 : Cond.fieldLink RX0 16 "ScoreReader$Kinds" "lows" "LScoreReader$Row;" ∈ GW := GW_of 154 (by decide +kernel) (by decide +kernel)
theorem gw_478 : Cond.methodLink RX0 36 yX3_put ∈ GW := GW_of 478 (by decide +kernel) (by decide +kernel)
theorem gw_155 : Cond.fieldLink RX0 20 "ScoreReader$Kinds" "highs" "LScoreReader$Row;" ∈ GW := GW_of 155 (by decide +kernel) (by decide +kernel)
theorem gw_156 : Cond.fieldLink RX0 23 "ScoreReader$Kinds" "heights" "LScoreReader$Row;" ∈ GW := GW_of 156 (by decide +kernel) (by decide +kernel)
theorem gw_157 : Cond.fieldLink RX0 26 "ScoreReader$Kinds" "prices" "LScoreReader$Row;" ∈ GW := GW_of 157 (by decide +kernel) (by decide +kernel)
def gs_X0_describe : List Cond := Cond.code yX0_describe cX0_describe 6 none :: GW
def wd_X0_describe (cI cJ cZ : ClassId) (a_this a_this_lows a_this_lows_cells a_this_highs a_this_highs_cells a_this_heights a_this_heights_cells a_this_prices a_this_prices_cells : Nat) (v_this_dirt : Int32) (v_this_time : Int32) (f_this_lows_cells : Nat → Int32) (f_this_highs_cells : Nat → Int32) (f_this_heights_cells : Nat → Int32) (f_this_prices_cells : Nat → Int32) : va_W := [(a_this, .inr (0, [.ref a_this_lows, .ref a_this_highs, .ref a_this_heights, .ref a_this_prices, .int v_this_dirt, .int v_this_time])), (a_this_lows, .inr (3, [.ref a_this_lows_cells])), (a_this_lows_cells, .inl (cI, 6, .inl f_this_lows_cells)), (a_this_highs, .inr (3, [.ref a_this_highs_cells])), (a_this_highs_cells, .inl (cI, 6, .inl f_this_highs_cells)), (a_this_heights, .inr (3, [.ref a_this_heights_cells])), (a_this_heights_cells, .inl (cI, 6, .inl f_this_heights_cells)), (a_this_prices, .inr (3, [.ref a_this_prices_cells])), (a_this_prices_cells, .inl (cI, 6, .inl f_this_prices_cells))]
abbrev rm_X0_describe : Room := { frames := 1, cells := 0, slots := 0, locals := 22 }
theorem hd_X0_describe : yX0_describe.cls = RX0 ∧ yX0_describe.cls ≠ "java/lang/invoke/MethodHandle" ∧ yX0_describe.cls ≠ "java/lang/invoke/VarHandle" ∧ (parseMethodDescriptor yX0_describe.desc).map (fun d => d.parameters.length) = some 5 := by decide +kernel
set_option maxHeartbeats 4000000 in
set_option maxRecDepth 100000 in
theorem c_X0_describe (l : Launch) (D : va_G) (cI cJ cZ : ClassId) (a_this a_this_lows a_this_lows_cells a_this_highs a_this_highs_cells a_this_heights a_this_heights_cells a_this_prices a_this_prices_cells : Nat) (v_this_dirt : Int32) (v_this_time : Int32) (f_this_lows_cells : Nat → Int32) (f_this_highs_cells : Nat → Int32) (f_this_heights_cells : Nat → Int32) (f_this_prices_cells : Nat → Int32) (i1 : Int32) (i2 : Int32) (i3 : Int32) (i4 : Int32) (i5 : Int32) (o : (Nat → Int32) × (Nat → Int32) × (Nat → Int32) × (Nat → Int32)) (h : p_X0_describe f_this_lows_cells f_this_highs_cells f_this_heights_cells f_this_prices_cells i1 i2 i3 i4 i5 = some o) : zMv l D (zT cI cJ cZ) yX0_describe gs_X0_describe rm_X0_describe [.ref a_this, .int i1, .int i2, .int i3, .int i4, .int i5] (wd_X0_describe cI cJ cZ a_this a_this_lows a_this_lows_cells a_this_highs a_this_highs_cells a_this_heights a_this_heights_cells a_this_prices a_this_prices_cells v_this_dirt v_this_time f_this_lows_cells f_this_highs_cells f_this_heights_cells f_this_prices_cells) (wd_X0_describe cI cJ cZ a_this a_this_lows a_this_lows_cells a_this_highs a_this_highs_cells a_this_heights a_this_heights_cells a_this_prices a_this_prices_cells v_this_dirt v_this_time (o.1) (o.2.1) (o.2.2.1) (o.2.2.2)) := by
  refine zMet_v (own := RX0) (fun u : (Nat → Int32) × (Nat → Int32) × (Nat → Int32) × (Nat → Int32) => (wd_X0_describe cI cJ cZ a_this a_this_lows a_this_lows_cells a_this_highs a_this_highs_cells a_this_heights a_this_heights_cells a_this_prices a_this_prices_cells v_this_dirt v_this_time (u.1) (u.2.1) (u.2.2.1) (u.2.2.2))) (by decide) rfl rfl (Nat.le_of_ble_eq_true rfl) ?_
  intro p e s m args below meth c A Q S hK hA hw ret ls hl
  replace hl : lv_has ls 6 [(0, .ref a_this), (1, .int i1), (2, .int i2), (3, .int i3), (4, .int i4), (5, .int i5)] := hl
  refine lv_aload_n S.1 S.2.1 dX0_describe_0 rfl (lv_at hl 0 rfl) ?_
  refine z_get S (C := RX0) (T := TX0) (N := 6) (gi gu_X0) hK hw 0 rfl rfl 0 (Nat.le_of_ble_eq_true rfl) (List.mem_cons_of_mem _ gw_154) rfl dX0_describe_1 ?_
  refine lv_iload_n S.1 S.2.1 dX0_describe_4 rfl (lv_at hl 1 rfl) ?_
  refine lv_iload_n S.1 S.2.1 dX0_describe_5 rfl (lv_at hl 2 rfl) ?_
  obtain ⟨f1, hc, h⟩ := z_b1_e h
  refine z_callVv (As := [.int i1, .int i2]) (rest := []) S (c_X3_put l D cI cJ cZ a_this_lows a_this_lows_cells 6 f_this_lows_cells i1 i2 _ hc) (cwV 2 S.2.2.2.2 (gw_V gw_478 gw_326 gw_327 gw_53 gw_328) rfl rfl rfl hd_X3_put ⟨Nat.le_of_ble_eq_true rfl, Nat.le_of_ble_eq_true rfl⟩) hK hA hw [1, 2] (by decide) rfl rfl [none, some 0, some 1, none, none, none, none, none, none] rfl (by decide) 1 rfl rfl hl.1 rfl rfl (lv_room (Nat.le_of_ble_eq_true rfl)) ⟨Nat.zero_le _, Nat.zero_le _⟩ dX0_describe_6 (fun H locs hw => ?_)
  replace hw : zW D A s H locs (wd_X0_describe cI cJ cZ a_this a_this_lows a_this_lows_cells a_this_highs a_this_highs_cells a_this_heights a_this_heights_cells a_this_prices a_this_prices_cells v_this_dirt v_this_time f1 f_this_highs_cells f_this_heights_cells f_this_prices_cells) := hw
  refine lv_aload_n S.1 S.2.1 dX0_describe_9 rfl (lv_at hl 0 rfl) ?_
  refine z_get S (C := RX0) (T := TX0) (N := 6) (gi gu_X0) hK hw 0 rfl rfl 1 (Nat.le_of_ble_eq_true rfl) (List.mem_cons_of_mem _ gw_155) rfl dX0_describe_10 ?_
  refine lv_iload_n S.1 S.2.1 dX0_describe_13 rfl (lv_at hl 1 rfl) ?_
  refine lv_iload_n S.1 S.2.1 dX0_describe_14 rfl (lv_at hl 3 rfl) ?_
  obtain ⟨f2, hc, h⟩ := z_b1_e h
  refine z_callVv (As := [.int i1, .int i3]) (rest := []) S (c_X3_put l D cI cJ cZ a_this_highs a_this_highs_cells 6 f_this_highs_cells i1 i3 _ hc) (cwV 2 S.2.2.2.2 (gw_V gw_478 gw_326 gw_327 gw_53 gw_328) rfl rfl rfl hd_X3_put ⟨Nat.le_of_ble_eq_true rfl, Nat.le_of_ble_eq_true rfl⟩) hK hA hw [3, 4] (by decide) rfl rfl [none, none, none, some 0, some 1, none, none, none, none] rfl (by decide) 3 rfl rfl hl.1 rfl rfl (lv_room (Nat.le_of_ble_eq_true rfl)) ⟨Nat.zero_le _, Nat.zero_le _⟩ dX0_describe_15 (fun H locs hw => ?_)
  replace hw : zW D A s H locs (wd_X0_describe cI cJ cZ a_this a_this_lows a_this_lows_cells a_this_highs a_this_highs_cells a_this_heights a_this_heights_cells a_this_prices a_this_prices_cells v_this_dirt v_this_time f1 f2 f_this_heights_cells f_this_prices_cells) := hw
  refine lv_aload_n S.1 S.2.1 dX0_describe_18 rfl (lv_at hl 0 rfl) ?_
  refine z_get S (C := RX0) (T := TX0) (N := 6) (gi gu_X0) hK hw 0 rfl rfl 2 (Nat.le_of_ble_eq_true rfl) (List.mem_cons_of_mem _ gw_156) rfl dX0_describe_19 ?_
  refine lv_iload_n S.1 S.2.1 dX0_describe_22 rfl (lv_at hl 1 rfl) ?_
  refine lv_iload S.1 S.2.1 dX0_describe_23 (lv_at hl 4 rfl) ?_
  obtain ⟨f3, hc, h⟩ := z_b1_e h
  refine z_callVv (As := [.int i1, .int i4]) (rest := []) S (c_X3_put l D cI cJ cZ a_this_heights a_this_heights_cells 6 f_this_heights_cells i1 i4 _ hc) (cwV 2 S.2.2.2.2 (gw_V gw_478 gw_326 gw_327 gw_53 gw_328) rfl rfl rfl hd_X3_put ⟨Nat.le_of_ble_eq_true rfl, Nat.le_of_ble_eq_true rfl⟩) hK hA hw [5, 6] (by decide) rfl rfl [none, none, none, none, none, some 0, some 1, none, none] rfl (by decide) 5 rfl rfl hl.1 rfl rfl (lv_room (Nat.le_of_ble_eq_true rfl)) ⟨Nat.zero_le _, Nat.zero_le _⟩ dX0_describe_25 (fun H locs hw => ?_)
  replace hw : zW D A s H locs (wd_X0_describe cI cJ cZ a_this a_this_lows a_this_lows_cells a_this_highs a_this_highs_cells a_this_heights a_this_heights_cells a_this_prices a_this_prices_cells v_this_dirt v_this_time f1 f2 f3 f_this_prices_cells) := hw
  refine lv_aload_n S.1 S.2.1 dX0_describe_28 rfl (lv_at hl 0 rfl) ?_
  refine z_get S (C := RX0) (T := TX0) (N := 6) (gi gu_X0) hK hw 0 rfl rfl 3 (Nat.le_of_ble_eq_true rfl) (List.mem_cons_of_mem _ gw_157) rfl dX0_describe_29 ?_
  refine lv_iload_n S.1 S.2.1 dX0_describe_32 rfl (lv_at hl 1 rfl) ?_
  refine lv_iload S.1 S.2.1 dX0_describe_33 (lv_at hl 5 rfl) ?_
  obtain ⟨f4, hc, h⟩ := z_b1_e h
  refine z_callVv (As := [.int i1, .int i5]) (rest := []) S (c_X3_put l D cI cJ cZ a_this_prices a_this_prices_cells 6 f_this_prices_cells i1 i5 _ hc) (cwV 2 S.2.2.2.2 (gw_V gw_478 gw_326 gw_327 gw_53 gw_328) rfl rfl rfl hd_X3_put ⟨Nat.le_of_ble_eq_true rfl, Nat.le_of_ble_eq_true rfl⟩) hK hA hw [7, 8] (by decide) rfl rfl [none, none, none, none, none, none, none, some 0, some 1] rfl (by decide) 7 rfl rfl hl.1 rfl rfl (lv_room (Nat.le_of_ble_eq_true rfl)) ⟨Nat.zero_le _, Nat.zero_le _⟩ dX0_describe_35 (fun H locs hw => ?_)
  replace hw : zW D A s H locs (wd_X0_describe cI cJ cZ a_this a_this_lows a_this_lows_cells a_this_highs a_this_highs_cells a_this_heights a_this_heights_cells a_this_prices a_this_prices_cells v_this_dirt v_this_time f1 f2 f3 f4) := hw
  exact ret (f1, f2, f3, f4) h 38 ls _ _ dX0_describe_38 hw
theorem gw_158 : Cond.fieldLink RX0 29 "ScoreReader$Kinds" "dirt" "I" ∈ GW := GW_of 158 (by decide +kernel) (by decide +kernel)
def gs_X0_changeDirt : List Cond := Cond.code yX0_changeDirt cX0_changeDirt 3 (some .int) :: GW
def wd_X0_changeDirt (cI cJ cZ : ClassId) (a_this a_this_lows a_this_highs a_this_heights a_this_prices : Nat) (v_this_dirt : Int32) (v_this_time : Int32) : va_W := [(a_this, .inr (0, [.ref a_this_lows, .ref a_this_highs, .ref a_this_heights, .ref a_this_prices, .int v_this_dirt, .int v_this_time]))]
abbrev rm_X0_changeDirt : Room := { frames := 0, cells := 0, slots := 0, locals := 0 }
theorem hd_X0_changeDirt : yX0_changeDirt.cls = RX0 ∧ yX0_changeDirt.cls ≠ "java/lang/invoke/MethodHandle" ∧ yX0_changeDirt.cls ≠ "java/lang/invoke/VarHandle" ∧ (parseMethodDescriptor yX0_changeDirt.desc).map (fun d => d.parameters.length) = some 1 := by decide +kernel
set_option maxHeartbeats 4000000 in
set_option maxRecDepth 100000 in
theorem c_X0_changeDirt (l : Launch) (D : va_G) (cI cJ cZ : ClassId) (a_this a_this_lows a_this_highs a_this_heights a_this_prices : Nat) (v_this_dirt : Int32) (v_this_time : Int32) (i1 : Int32) (o : Int32 × Int32) (h : p_X0_changeDirt v_this_dirt i1 = some o) : zMi l D (zT cI cJ cZ) yX0_changeDirt gs_X0_changeDirt rm_X0_changeDirt [.ref a_this, .int i1] (wd_X0_changeDirt cI cJ cZ a_this a_this_lows a_this_highs a_this_heights a_this_prices v_this_dirt v_this_time) (wd_X0_changeDirt cI cJ cZ a_this a_this_lows a_this_highs a_this_heights a_this_prices (o.2) v_this_time) (o.1) := by
  refine zMet_i (own := RX0) (fun u : Int32 × Int32 => (wd_X0_changeDirt cI cJ cZ a_this a_this_lows a_this_highs a_this_heights a_this_prices (u.2) v_this_time)) (fun u : Int32 × Int32 => u.1) (by decide) rfl rfl (Nat.le_of_ble_eq_true rfl) ?_
  intro p e s m args below meth c A Q S hK hA hw ret ls hl
  replace hl : lv_has ls 3 [(0, .ref a_this), (1, .int i1)] := hl
  refine lv_aload_n S.1 S.2.1 dX0_changeDirt_0 rfl (lv_at hl 0 rfl) ?_
  refine z_get S (C := RX0) (T := TX0) (N := 6) (gi gu_X0) hK hw 0 rfl rfl 4 (Nat.le_of_ble_eq_true rfl) (List.mem_cons_of_mem _ gw_158) rfl dX0_changeDirt_1 ?_
  refine lv_istore_n (lv' := [(2, .int v_this_dirt), (0, .ref a_this), (1, .int i1)]) S.1 S.2.1 dX0_changeDirt_4 rfl hl (by decide) rfl (fun ls hl => ?_)
  refine lv_aload_n S.1 S.2.1 dX0_changeDirt_5 rfl (lv_at hl 1 rfl) ?_
  refine lv_iload_n S.1 S.2.1 dX0_changeDirt_6 rfl (lv_at hl 2 rfl) ?_
  refine z_put S (C := RX0) (T := TX0) (N := 6) (gi gu_X0) tyX0 tyX0_ok nmX0 hK hw 0 rfl rfl 4 (Nat.le_of_ble_eq_true rfl) (List.mem_cons_of_mem _ gw_158) rfl rfl rfl (Nat.le_of_ble_eq_true rfl) dX0_changeDirt_7 (fun H locs hw => ?_)
  replace hw : zW D A s H locs (wd_X0_changeDirt cI cJ cZ a_this a_this_lows a_this_highs a_this_heights a_this_prices i1 v_this_time) := hw
  refine lv_iload_n S.1 S.2.1 dX0_changeDirt_10 rfl (lv_at hl 0 rfl) ?_
  exact ret (v_this_dirt, i1) h 11 ls _ _ dX0_changeDirt_11 hw
theorem gw_159 : Cond.fieldLink RX0 33 "ScoreReader$Kinds" "time" "I" ∈ GW := GW_of 159 (by decide +kernel) (by decide +kernel)
def gs_X0_changeTime : List Cond := Cond.code yX0_changeTime cX0_changeTime 3 (some .int) :: GW
def wd_X0_changeTime (cI cJ cZ : ClassId) (a_this a_this_lows a_this_highs a_this_heights a_this_prices : Nat) (v_this_dirt : Int32) (v_this_time : Int32) : va_W := [(a_this, .inr (0, [.ref a_this_lows, .ref a_this_highs, .ref a_this_heights, .ref a_this_prices, .int v_this_dirt, .int v_this_time]))]
abbrev rm_X0_changeTime : Room := { frames := 0, cells := 0, slots := 0, locals := 0 }
theorem hd_X0_changeTime : yX0_changeTime.cls = RX0 ∧ yX0_changeTime.cls ≠ "java/lang/invoke/MethodHandle" ∧ yX0_changeTime.cls ≠ "java/lang/invoke/VarHandle" ∧ (parseMethodDescriptor yX0_changeTime.desc).map (fun d => d.parameters.length) = some 1 := by decide +kernel
set_option maxHeartbeats 4000000 in
set_option maxRecDepth 100000 in
theorem c_X0_changeTime (l : Launch) (D : va_G) (cI cJ cZ : ClassId) (a_this a_this_lows a_this_highs a_this_heights a_this_prices : Nat) (v_this_dirt : Int32) (v_this_time : Int32) (i1 : Int32) (o : Int32 × Int32) (h : p_X0_changeTime v_this_time i1 = some o) : zMi l D (zT cI cJ cZ) yX0_changeTime gs_X0_changeTime rm_X0_changeTime [.ref a_this, .int i1] (wd_X0_changeTime cI cJ cZ a_this a_this_lows a_this_highs a_this_heights a_this_prices v_this_dirt v_this_time) (wd_X0_changeTime cI cJ cZ a_this a_this_lows a_this_highs a_this_heights a_this_prices v_this_dirt (o.2)) (o.1) := by
  refine zMet_i (own := RX0) (fun u : Int32 × Int32 => (wd_X0_changeTime cI cJ cZ a_this a_this_lows a_this_highs a_this_heights a_this_prices v_this_dirt (u.2))) (fun u : Int32 × Int32 => u.1) (by decide) rfl rfl (Nat.le_of_ble_eq_true rfl) ?_
  intro p e s m args below meth c A Q S hK hA hw ret ls hl
  replace hl : lv_has ls 3 [(0, .ref a_this), (1, .int i1)] := hl
  refine lv_aload_n S.1 S.2.1 dX0_changeTime_0 rfl (lv_at hl 0 rfl) ?_
  refine z_get S (C := RX0) (T := TX0) (N := 6) (gi gu_X0) hK hw 0 rfl rfl 5 (Nat.le_of_ble_eq_true rfl) (List.mem_cons_of_mem _ gw_159) rfl dX0_changeTime_1 ?_
  refine lv_istore_n (lv' := [(2, .int v_this_time), (0, .ref a_this), (1, .int i1)]) S.1 S.2.1 dX0_changeTime_4 rfl hl (by decide) rfl (fun ls hl => ?_)
  refine lv_aload_n S.1 S.2.1 dX0_changeTime_5 rfl (lv_at hl 1 rfl) ?_
  refine lv_iload_n S.1 S.2.1 dX0_changeTime_6 rfl (lv_at hl 2 rfl) ?_
  refine z_put S (C := RX0) (T := TX0) (N := 6) (gi gu_X0) tyX0 tyX0_ok nmX0 hK hw 0 rfl rfl 5 (Nat.le_of_ble_eq_true rfl) (List.mem_cons_of_mem _ gw_159) rfl rfl rfl (Nat.le_of_ble_eq_true rfl) dX0_changeTime_7 (fun H locs hw => ?_)
  replace hw : zW D A s H locs (wd_X0_changeTime cI cJ cZ a_this a_this_lows a_this_highs a_this_heights a_this_prices v_this_dirt i1) := hw
  refine lv_iload_n S.1 S.2.1 dX0_changeTime_10 rfl (lv_at hl 0 rfl) ?_
  exact ret (v_this_time, i1) h 11 ls _ _ dX0_changeTime_11 hw
def gs_X0_time : List Cond := Cond.code yX0_time cX0_time 1 (some .int) :: GW
def wd_X0_time (cI cJ cZ : ClassId) (a_this a_this_lows a_this_highs a_this_heights a_this_prices : Nat) (v_this_dirt : Int32) (v_this_time : Int32) : va_W := [(a_this, .inr (0, [.ref a_this_lows, .ref a_this_highs, .ref a_this_heights, .ref a_this_prices, .int v_this_dirt, .int v_this_time]))]
abbrev rm_X0_time : Room := { frames := 0, cells := 0, slots := 0, locals := 0 }
theorem hd_X0_time : yX0_time.cls = RX0 ∧ yX0_time.cls ≠ "java/lang/invoke/MethodHandle" ∧ yX0_time.cls ≠ "java/lang/invoke/VarHandle" ∧ (parseMethodDescriptor yX0_time.desc).map (fun d => d.parameters.length) = some 0 := by decide +kernel
set_option maxHeartbeats 4000000 in
set_option maxRecDepth 100000 in
theorem c_X0_time (l : Launch) (D : va_G) (cI cJ cZ : ClassId) (a_this a_this_lows a_this_highs a_this_heights a_this_prices : Nat) (v_this_dirt : Int32) (v_this_time : Int32) (o : Int32) (h : p_X0_time v_this_time = some o) : zMi l D (zT cI cJ cZ) yX0_time gs_X0_time rm_X0_time [.ref a_this] (wd_X0_time cI cJ cZ a_this a_this_lows a_this_highs a_this_heights a_this_prices v_this_dirt v_this_time) (wd_X0_time cI cJ cZ a_this a_this_lows a_this_highs a_this_heights a_this_prices v_this_dirt v_this_time) (o) := by
  refine zMet_i (own := RX0) (fun u : Int32 => (wd_X0_time cI cJ cZ a_this a_this_lows a_this_highs a_this_heights a_this_prices v_this_dirt v_this_time)) (fun u : Int32 => u) (by decide) rfl rfl (Nat.le_of_ble_eq_true rfl) ?_
  intro p e s m args below meth c A Q S hK hA hw ret ls hl
  replace hl : lv_has ls 1 [(0, .ref a_this)] := hl
  refine lv_aload_n S.1 S.2.1 dX0_time_0 rfl (lv_at hl 0 rfl) ?_
  refine z_get S (C := RX0) (T := TX0) (N := 6) (gi gu_X0) hK hw 0 rfl rfl 5 (Nat.le_of_ble_eq_true rfl) (List.mem_cons_of_mem _ gw_159) rfl dX0_time_1 ?_
  exact ret v_this_time h 4 ls _ _ dX0_time_4 hw
theorem gw_531 : Cond.methodLink RX0 39 yX3_get ∈ GW := GW_of 531 (by decide +kernel) (by decide +kernel)
theorem gw_532 : Cond.methodLink RX0 43 yJ9_max_7cf53 ∈ GW := GW_of 532 (by decide +kernel) (by decide +kernel)
def gs_X0_costAs : List Cond := Cond.code yX0_costAs cX0_costAs 7 (some .int) :: GW
def wd_X0_costAs (cI cJ cZ : ClassId) (a_this a_this_lows a_this_lows_cells a_this_highs a_this_highs_cells a_this_heights a_this_heights_cells a_this_prices a_this_prices_cells : Nat) (v_this_dirt : Int32) (v_this_time : Int32) (f_this_lows_cells : Nat → Int32) (f_this_highs_cells : Nat → Int32) (f_this_heights_cells : Nat → Int32) (f_this_prices_cells : Nat → Int32) : va_W := [(a_this, .inr (0, [.ref a_this_lows, .ref a_this_highs, .ref a_this_heights, .ref a_this_prices, .int v_this_dirt, .int v_this_time])), (a_this_lows, .inr (3, [.ref a_this_lows_cells])), (a_this_lows_cells, .inl (cI, 6, .inl f_this_lows_cells)), (a_this_highs, .inr (3, [.ref a_this_highs_cells])), (a_this_highs_cells, .inl (cI, 6, .inl f_this_highs_cells)), (a_this_heights, .inr (3, [.ref a_this_heights_cells])), (a_this_heights_cells, .inl (cI, 6, .inl f_this_heights_cells)), (a_this_prices, .inr (3, [.ref a_this_prices_cells])), (a_this_prices_cells, .inl (cI, 6, .inl f_this_prices_cells))]
abbrev rm_X0_costAs : Room := { frames := 1, cells := 0, slots := 0, locals := 21 }
theorem hd_X0_costAs : yX0_costAs.cls = RX0 ∧ yX0_costAs.cls ≠ "java/lang/invoke/MethodHandle" ∧ yX0_costAs.cls ≠ "java/lang/invoke/VarHandle" ∧ (parseMethodDescriptor yX0_costAs.desc).map (fun d => d.parameters.length) = some 3 := by decide +kernel
set_option maxHeartbeats 4000000 in
set_option maxRecDepth 100000 in
theorem c_X0_costAs (l : Launch) (D : va_G) (cI cJ cZ : ClassId) (a_this a_this_lows a_this_lows_cells a_this_highs a_this_highs_cells a_this_heights a_this_heights_cells a_this_prices a_this_prices_cells : Nat) (v_this_dirt : Int32) (v_this_time : Int32) (f_this_lows_cells : Nat → Int32) (f_this_highs_cells : Nat → Int32) (f_this_heights_cells : Nat → Int32) (f_this_prices_cells : Nat → Int32) (i1 : Int32) (i2 : Int32) (i3 : Int32) (o : Int32) (h : p_X0_costAs v_this_dirt f_this_lows_cells f_this_highs_cells f_this_heights_cells f_this_prices_cells i1 i2 i3 = some o) : zMi l D (zT cI cJ cZ) yX0_costAs gs_X0_costAs rm_X0_costAs [.ref a_this, .int i1, .int i2, .int i3] (wd_X0_costAs cI cJ cZ a_this a_this_lows a_this_lows_cells a_this_highs a_this_highs_cells a_this_heights a_this_heights_cells a_this_prices a_this_prices_cells v_this_dirt v_this_time f_this_lows_cells f_this_highs_cells f_this_heights_cells f_this_prices_cells) (wd_X0_costAs cI cJ cZ a_this a_this_lows a_this_lows_cells a_this_highs a_this_highs_cells a_this_heights a_this_heights_cells a_this_prices a_this_prices_cells v_this_dirt v_this_time f_this_lows_cells f_this_highs_cells f_this_heights_cells f_this_prices_cells) (o) := by
  refine zMet_i (own := RX0) (fun u : Int32 => (wd_X0_costAs cI cJ cZ a_this a_this_lows a_this_lows_cells a_this_highs a_this_highs_cells a_this_heights a_this_heights_cells a_this_prices a_this_prices_cells v_this_dirt v_this_time f_this_lows_cells f_this_highs_cells f_this_heights_cells f_this_prices_cells)) (fun u : Int32 => u) (by decide) rfl rfl (Nat.le_of_ble_eq_true rfl) ?_
  intro p e s m args below meth c A Q S hK hA hw ret ls hl
  replace hl : lv_has ls 7 [(0, .ref a_this), (1, .int i1), (2, .int i2), (3, .int i3)] := hl
  refine lv_iload_n S.1 S.2.1 dX0_costAs_0 rfl (lv_at hl 1 rfl) ?_
  refine lv_bipush (v := 6) S.1 S.2.1 dX0_costAs_1 (by decide) ?_
  refine z_icmp_ne S (tgt := 11) h dX0_costAs_3 (by decide) (fun h => ?_) (fun h => ?_)
  · refine lv_iconst (v := 0) S.1 S.2.1 dX0_costAs_11 (by decide) ?_
    refine lv_aload_n S.1 S.2.1 dX0_costAs_12 rfl (lv_at hl 0 rfl) ?_
    refine z_get S (C := RX0) (T := TX0) (N := 6) (gi gu_X0) hK hw 0 rfl rfl 0 (Nat.le_of_ble_eq_true rfl) (List.mem_cons_of_mem _ gw_154) rfl dX0_costAs_13 ?_
    refine lv_iload_n S.1 S.2.1 dX0_costAs_16 rfl (lv_at hl 1 rfl) ?_
    obtain ⟨y1, hc, h⟩ := z_b1_e h
    refine z_callVi (As := [.int i1]) (rest := [.int 0]) S (c_X3_get l D cI cJ cZ a_this_lows a_this_lows_cells 6 f_this_lows_cells i1 _ hc) (cwV 1 S.2.2.2.2 (gw_V gw_531 gw_342 gw_343 gw_53 gw_344) rfl rfl rfl hd_X3_get ⟨Nat.le_of_ble_eq_true rfl, Nat.le_of_ble_eq_true rfl⟩) hK hA hw [1, 2] (by decide) rfl rfl [none, some 0, some 1, none, none, none, none, none, none] rfl (by decide) 1 rfl rfl hl.1 rfl rfl (lv_room (Nat.le_of_ble_eq_true rfl)) ⟨Nat.zero_le _, Nat.zero_le _⟩ dX0_costAs_17 (fun H locs hw => ?_)
    replace hw : zW D A s H locs (wd_X0_costAs cI cJ cZ a_this a_this_lows a_this_lows_cells a_this_highs a_this_highs_cells a_this_heights a_this_heights_cells a_this_prices a_this_prices_cells v_this_dirt v_this_time f_this_lows_cells f_this_highs_cells f_this_heights_cells f_this_prices_cells) := hw
    refine lv_iload_n S.1 S.2.1 dX0_costAs_20 rfl (lv_at hl 2 rfl) ?_
    refine lv_isub S.1 S.2.1 dX0_costAs_21 ?_
    obtain ⟨y2, hc, h⟩ := z_b1_e h
    refine z_callSi (As := [.int 0, .int (y1 - i2)]) (rest := []) S (c_J9_max_7cf53 l D cI cJ cZ 0 (y1 - i2) _ hc) (va_cwS 2 S.2.2.2.2 (gw_S gw_532 gw_349 gw_60 gw_350) rfl rfl rfl hd_J9_max_7cf53 ⟨Nat.le_of_ble_eq_true rfl, Nat.le_of_ble_eq_true rfl⟩) hK hA hw [] (by decide) rfl rfl [none, none, none, none, none, none, none, none, none] rfl (by decide) hl.1 rfl rfl (lv_room (Nat.le_of_ble_eq_true rfl)) ⟨Nat.zero_le _, Nat.zero_le _⟩ dX0_costAs_22 (fun H locs hw => ?_)
    replace hw : zW D A s H locs (wd_X0_costAs cI cJ cZ a_this a_this_lows a_this_lows_cells a_this_highs a_this_highs_cells a_this_heights a_this_heights_cells a_this_prices a_this_prices_cells v_this_dirt v_this_time f_this_lows_cells f_this_highs_cells f_this_heights_cells f_this_prices_cells) := hw
    refine lv_istore (lv' := [(4, .int y2), (0, .ref a_this), (1, .int i1), (2, .int i2), (3, .int i3)]) S.1 S.2.1 dX0_costAs_25 hl (by decide) rfl (fun ls hl => ?_)
    refine lv_iconst (v := 0) S.1 S.2.1 dX0_costAs_27 (by decide) ?_
    refine lv_iload_n S.1 S.2.1 dX0_costAs_28 rfl (lv_at hl 3 rfl) ?_
    refine lv_aload_n S.1 S.2.1 dX0_costAs_29 rfl (lv_at hl 1 rfl) ?_
    refine z_get S (C := RX0) (T := TX0) (N := 6) (gi gu_X0) hK hw 0 rfl rfl 1 (Nat.le_of_ble_eq_true rfl) (List.mem_cons_of_mem _ gw_155) rfl dX0_costAs_30 ?_
    refine lv_iload_n S.1 S.2.1 dX0_costAs_33 rfl (lv_at hl 2 rfl) ?_
    obtain ⟨y3, hc, h⟩ := z_b1_e h
    refine z_callVi (As := [.int i1]) (rest := [.int i2, .int 0]) S (c_X3_get l D cI cJ cZ a_this_highs a_this_highs_cells 6 f_this_highs_cells i1 _ hc) (cwV 1 S.2.2.2.2 (gw_V gw_531 gw_342 gw_343 gw_53 gw_344) rfl rfl rfl hd_X3_get ⟨Nat.le_of_ble_eq_true rfl, Nat.le_of_ble_eq_true rfl⟩) hK hA hw [3, 4] (by decide) rfl rfl [none, none, none, some 0, some 1, none, none, none, none] rfl (by decide) 3 rfl rfl hl.1 rfl rfl (lv_room (Nat.le_of_ble_eq_true rfl)) ⟨Nat.zero_le _, Nat.zero_le _⟩ dX0_costAs_34 (fun H locs hw => ?_)
    replace hw : zW D A s H locs (wd_X0_costAs cI cJ cZ a_this a_this_lows a_this_lows_cells a_this_highs a_this_highs_cells a_this_heights a_this_heights_cells a_this_prices a_this_prices_cells v_this_dirt v_this_time f_this_lows_cells f_this_highs_cells f_this_heights_cells f_this_prices_cells) := hw
    refine lv_isub S.1 S.2.1 dX0_costAs_37 ?_
    obtain ⟨y4, hc, h⟩ := z_b1_e h
    refine z_callSi (As := [.int 0, .int (i2 - y3)]) (rest := []) S (c_J9_max_7cf53 l D cI cJ cZ 0 (i2 - y3) _ hc) (va_cwS 2 S.2.2.2.2 (gw_S gw_532 gw_349 gw_60 gw_350) rfl rfl rfl hd_J9_max_7cf53 ⟨Nat.le_of_ble_eq_true rfl, Nat.le_of_ble_eq_true rfl⟩) hK hA hw [] (by decide) rfl rfl [none, none, none, none, none, none, none, none, none] rfl (by decide) hl.1 rfl rfl (lv_room (Nat.le_of_ble_eq_true rfl)) ⟨Nat.zero_le _, Nat.zero_le _⟩ dX0_costAs_38 (fun H locs hw => ?_)
    replace hw : zW D A s H locs (wd_X0_costAs cI cJ cZ a_this a_this_lows a_this_lows_cells a_this_highs a_this_highs_cells a_this_heights a_this_heights_cells a_this_prices a_this_prices_cells v_this_dirt v_this_time f_this_lows_cells f_this_highs_cells f_this_heights_cells f_this_prices_cells) := hw
    refine lv_istore (lv' := [(5, .int y4), (4, .int y2), (0, .ref a_this), (1, .int i1), (2, .int i2), (3, .int i3)]) S.1 S.2.1 dX0_costAs_41 hl (by decide) rfl (fun ls hl => ?_)
    refine lv_iconst (v := 0) S.1 S.2.1 dX0_costAs_43 (by decide) ?_
    refine lv_aload_n S.1 S.2.1 dX0_costAs_44 rfl (lv_at hl 2 rfl) ?_
    refine z_get S (C := RX0) (T := TX0) (N := 6) (gi gu_X0) hK hw 0 rfl rfl 2 (Nat.le_of_ble_eq_true rfl) (List.mem_cons_of_mem _ gw_156) rfl dX0_costAs_45 ?_
    refine lv_iload_n S.1 S.2.1 dX0_costAs_48 rfl (lv_at hl 3 rfl) ?_
    obtain ⟨y5, hc, h⟩ := z_b1_e h
    refine z_callVi (As := [.int i1]) (rest := [.int 0]) S (c_X3_get l D cI cJ cZ a_this_heights a_this_heights_cells 6 f_this_heights_cells i1 _ hc) (cwV 1 S.2.2.2.2 (gw_V gw_531 gw_342 gw_343 gw_53 gw_344) rfl rfl rfl hd_X3_get ⟨Nat.le_of_ble_eq_true rfl, Nat.le_of_ble_eq_true rfl⟩) hK hA hw [5, 6] (by decide) rfl rfl [none, none, none, none, none, some 0, some 1, none, none] rfl (by decide) 5 rfl rfl hl.1 rfl rfl (lv_room (Nat.le_of_ble_eq_true rfl)) ⟨Nat.zero_le _, Nat.zero_le _⟩ dX0_costAs_49 (fun H locs hw => ?_)
    replace hw : zW D A s H locs (wd_X0_costAs cI cJ cZ a_this a_this_lows a_this_lows_cells a_this_highs a_this_highs_cells a_this_heights a_this_heights_cells a_this_prices a_this_prices_cells v_this_dirt v_this_time f_this_lows_cells f_this_highs_cells f_this_heights_cells f_this_prices_cells) := hw
    refine lv_iload_n S.1 S.2.1 dX0_costAs_52 rfl (lv_at hl 5 rfl) ?_
    refine lv_isub S.1 S.2.1 dX0_costAs_53 ?_
    obtain ⟨y6, hc, h⟩ := z_b1_e h
    refine z_callSi (As := [.int 0, .int (y5 - i3)]) (rest := []) S (c_J9_max_7cf53 l D cI cJ cZ 0 (y5 - i3) _ hc) (va_cwS 2 S.2.2.2.2 (gw_S gw_532 gw_349 gw_60 gw_350) rfl rfl rfl hd_J9_max_7cf53 ⟨Nat.le_of_ble_eq_true rfl, Nat.le_of_ble_eq_true rfl⟩) hK hA hw [] (by decide) rfl rfl [none, none, none, none, none, none, none, none, none] rfl (by decide) hl.1 rfl rfl (lv_room (Nat.le_of_ble_eq_true rfl)) ⟨Nat.zero_le _, Nat.zero_le _⟩ dX0_costAs_54 (fun H locs hw => ?_)
    replace hw : zW D A s H locs (wd_X0_costAs cI cJ cZ a_this a_this_lows a_this_lows_cells a_this_highs a_this_highs_cells a_this_heights a_this_heights_cells a_this_prices a_this_prices_cells v_this_dirt v_this_time f_this_lows_cells f_this_highs_cells f_this_heights_cells f_this_prices_cells) := hw
    refine lv_istore (lv' := [(6, .int y6), (5, .int y4), (4, .int y2), (0, .ref a_this), (1, .int i1), (2, .int i2), (3, .int i3)]) S.1 S.2.1 dX0_costAs_57 hl (by decide) rfl (fun ls hl => ?_)
    refine lv_aload_n S.1 S.2.1 dX0_costAs_59 rfl (lv_at hl 3 rfl) ?_
    refine z_get S (C := RX0) (T := TX0) (N := 6) (gi gu_X0) hK hw 0 rfl rfl 3 (Nat.le_of_ble_eq_true rfl) (List.mem_cons_of_mem _ gw_157) rfl dX0_costAs_60 ?_
    refine lv_iload_n S.1 S.2.1 dX0_costAs_63 rfl (lv_at hl 4 rfl) ?_
    obtain ⟨y7, hc, h⟩ := z_b1_e h
    refine z_callVi (As := [.int i1]) (rest := []) S (c_X3_get l D cI cJ cZ a_this_prices a_this_prices_cells 6 f_this_prices_cells i1 _ hc) (cwV 1 S.2.2.2.2 (gw_V gw_531 gw_342 gw_343 gw_53 gw_344) rfl rfl rfl hd_X3_get ⟨Nat.le_of_ble_eq_true rfl, Nat.le_of_ble_eq_true rfl⟩) hK hA hw [7, 8] (by decide) rfl rfl [none, none, none, none, none, none, none, some 0, some 1] rfl (by decide) 7 rfl rfl hl.1 rfl rfl (lv_room (Nat.le_of_ble_eq_true rfl)) ⟨Nat.zero_le _, Nat.zero_le _⟩ dX0_costAs_64 (fun H locs hw => ?_)
    replace hw : zW D A s H locs (wd_X0_costAs cI cJ cZ a_this a_this_lows a_this_lows_cells a_this_highs a_this_highs_cells a_this_heights a_this_heights_cells a_this_prices a_this_prices_cells v_this_dirt v_this_time f_this_lows_cells f_this_highs_cells f_this_heights_cells f_this_prices_cells) := hw
    refine lv_iload S.1 S.2.1 dX0_costAs_67 (lv_at hl 2 rfl) ?_
    refine lv_iadd S.1 S.2.1 dX0_costAs_69 ?_
    refine lv_iload S.1 S.2.1 dX0_costAs_70 (lv_at hl 1 rfl) ?_
    refine lv_iadd S.1 S.2.1 dX0_costAs_72 ?_
    refine lv_iconst (v := 5) S.1 S.2.1 dX0_costAs_73 (by decide) ?_
    refine lv_iload S.1 S.2.1 dX0_costAs_74 (lv_at hl 0 rfl) ?_
    refine lv_imul S.1 S.2.1 dX0_costAs_76 ?_
    refine lv_iadd S.1 S.2.1 dX0_costAs_77 ?_
    exact ret (((y7 + y2) + y4) + (5 * y6)) h 78 ls _ _ dX0_costAs_78 hw
  · refine lv_aload_n S.1 S.2.1 dX0_costAs_6 rfl (lv_at hl 0 rfl) ?_
    refine z_get S (C := RX0) (T := TX0) (N := 6) (gi gu_X0) hK hw 0 rfl rfl 4 (Nat.le_of_ble_eq_true rfl) (List.mem_cons_of_mem _ gw_158) rfl dX0_costAs_7 ?_
    exact ret v_this_dirt h 10 ls _ _ dX0_costAs_10 hw
theorem gw_233 : Cond.fieldLink RX6 14 "ScoreReader$Ways" "signs" "LScoreReader$Row;" ∈ GW := GW_of 233 (by decide +kernel) (by decide +kernel)
theorem gw_665 : Cond.methodLink RX6 23 yX3_get ∈ GW := GW_of 665 (by decide +kernel) (by decide +kernel)
theorem gw_666 : Cond.methodLink RX6 27 yX3_put ∈ GW := GW_of 666 (by decide +kernel) (by decide +kernel)
def gs_X6_change : List Cond := Cond.code yX6_change cX6_change 4 (some .int) :: GW
def wd_X6_change (cI cJ cZ : ClassId) (a_this a_this_signs a_this_signs_cells a_this_gone : Nat) (f_this_signs_cells : Nat → Int32) : va_W := [(a_this, .inr (6, [.ref a_this_signs, .ref a_this_gone])), (a_this_signs, .inr (3, [.ref a_this_signs_cells])), (a_this_signs_cells, .inl (cI, 40, .inl f_this_signs_cells))]
abbrev rm_X6_change : Room := { frames := 1, cells := 0, slots := 0, locals := 22 }
theorem hd_X6_change : yX6_change.cls = RX6 ∧ yX6_change.cls ≠ "java/lang/invoke/MethodHandle" ∧ yX6_change.cls ≠ "java/lang/invoke/VarHandle" ∧ (parseMethodDescriptor yX6_change.desc).map (fun d => d.parameters.length) = some 2 := by decide +kernel
set_option maxHeartbeats 4000000 in
set_option maxRecDepth 100000 in
theorem c_X6_change (l : Launch) (D : va_G) (cI cJ cZ : ClassId) (a_this a_this_signs a_this_signs_cells a_this_gone : Nat) (f_this_signs_cells : Nat → Int32) (i1 : Int32) (i2 : Int32) (o : Int32 × (Nat → Int32)) (h : p_X6_change f_this_signs_cells i1 i2 = some o) : zMi l D (zT cI cJ cZ) yX6_change gs_X6_change rm_X6_change [.ref a_this, .int i1, .int i2] (wd_X6_change cI cJ cZ a_this a_this_signs a_this_signs_cells a_this_gone f_this_signs_cells) (wd_X6_change cI cJ cZ a_this a_this_signs a_this_signs_cells a_this_gone (o.2)) (o.1) := by
  refine zMet_i (own := RX6) (fun u : Int32 × (Nat → Int32) => (wd_X6_change cI cJ cZ a_this a_this_signs a_this_signs_cells a_this_gone (u.2))) (fun u : Int32 × (Nat → Int32) => u.1) (by decide) rfl rfl (Nat.le_of_ble_eq_true rfl) ?_
  intro p e s m args below meth c A Q S hK hA hw ret ls hl
  replace hl : lv_has ls 4 [(0, .ref a_this), (1, .int i1), (2, .int i2)] := hl
  refine lv_aload_n S.1 S.2.1 dX6_change_0 rfl (lv_at hl 0 rfl) ?_
  refine z_get S (C := RX6) (T := TX6) (N := 2) (gi gu_X6) hK hw 0 rfl rfl 0 (Nat.le_of_ble_eq_true rfl) (List.mem_cons_of_mem _ gw_233) rfl dX6_change_1 ?_
  refine lv_iload_n S.1 S.2.1 dX6_change_4 rfl (lv_at hl 1 rfl) ?_
  obtain ⟨y1, hc, h⟩ := z_b1_e h
  refine z_callVi (As := [.int i1]) (rest := []) S (c_X3_get l D cI cJ cZ a_this_signs a_this_signs_cells 40 f_this_signs_cells i1 _ hc) (cwV 1 S.2.2.2.2 (gw_V gw_665 gw_342 gw_343 gw_53 gw_344) rfl rfl rfl hd_X3_get ⟨Nat.le_of_ble_eq_true rfl, Nat.le_of_ble_eq_true rfl⟩) hK hA hw [1, 2] (by decide) rfl rfl [none, some 0, some 1] rfl (by decide) 1 rfl rfl hl.1 rfl rfl (lv_room (Nat.le_of_ble_eq_true rfl)) ⟨Nat.zero_le _, Nat.zero_le _⟩ dX6_change_5 (fun H locs hw => ?_)
  replace hw : zW D A s H locs (wd_X6_change cI cJ cZ a_this a_this_signs a_this_signs_cells a_this_gone f_this_signs_cells) := hw
  refine lv_istore_n (lv' := [(3, .int y1), (0, .ref a_this), (1, .int i1), (2, .int i2)]) S.1 S.2.1 dX6_change_8 rfl hl (by decide) rfl (fun ls hl => ?_)
  refine lv_aload_n S.1 S.2.1 dX6_change_9 rfl (lv_at hl 1 rfl) ?_
  refine z_get S (C := RX6) (T := TX6) (N := 2) (gi gu_X6) hK hw 0 rfl rfl 0 (Nat.le_of_ble_eq_true rfl) (List.mem_cons_of_mem _ gw_233) rfl dX6_change_10 ?_
  refine lv_iload_n S.1 S.2.1 dX6_change_13 rfl (lv_at hl 2 rfl) ?_
  refine lv_iload_n S.1 S.2.1 dX6_change_14 rfl (lv_at hl 3 rfl) ?_
  obtain ⟨f2, hc, h⟩ := z_b1_e h
  refine z_callVv (As := [.int i1, .int i2]) (rest := []) S (c_X3_put l D cI cJ cZ a_this_signs a_this_signs_cells 40 f_this_signs_cells i1 i2 _ hc) (cwV 2 S.2.2.2.2 (gw_V gw_666 gw_326 gw_327 gw_53 gw_328) rfl rfl rfl hd_X3_put ⟨Nat.le_of_ble_eq_true rfl, Nat.le_of_ble_eq_true rfl⟩) hK hA hw [1, 2] (by decide) rfl rfl [none, some 0, some 1] rfl (by decide) 1 rfl rfl hl.1 rfl rfl (lv_room (Nat.le_of_ble_eq_true rfl)) ⟨Nat.zero_le _, Nat.zero_le _⟩ dX6_change_15 (fun H locs hw => ?_)
  replace hw : zW D A s H locs (wd_X6_change cI cJ cZ a_this a_this_signs a_this_signs_cells a_this_gone f2) := hw
  refine lv_iload_n S.1 S.2.1 dX6_change_18 rfl (lv_at hl 0 rfl) ?_
  exact ret (y1, f2) h 19 ls _ _ dX6_change_19 hw
theorem gw_234 : Cond.fieldLink RX6 20 "ScoreReader$Ways" "gone" "LScoreReader$Row;" ∈ GW := GW_of 234 (by decide +kernel) (by decide +kernel)
def gs_X6_isLeftOut : List Cond := Cond.code yX6_isLeftOut cX6_isLeftOut 2 (some .boolean) :: GW
def wd_X6_isLeftOut (cI cJ cZ : ClassId) (a_this a_this_signs a_this_signs_cells a_this_gone a_this_gone_cells : Nat) (f_this_signs_cells : Nat → Int32) (f_this_gone_cells : Nat → Int32) : va_W := [(a_this, .inr (6, [.ref a_this_signs, .ref a_this_gone])), (a_this_signs, .inr (3, [.ref a_this_signs_cells])), (a_this_signs_cells, .inl (cI, 40, .inl f_this_signs_cells)), (a_this_gone, .inr (3, [.ref a_this_gone_cells])), (a_this_gone_cells, .inl (cI, 40, .inl f_this_gone_cells))]
abbrev rm_X6_isLeftOut : Room := { frames := 1, cells := 0, slots := 0, locals := 21 }
theorem hd_X6_isLeftOut : yX6_isLeftOut.cls = RX6 ∧ yX6_isLeftOut.cls ≠ "java/lang/invoke/MethodHandle" ∧ yX6_isLeftOut.cls ≠ "java/lang/invoke/VarHandle" ∧ (parseMethodDescriptor yX6_isLeftOut.desc).map (fun d => d.parameters.length) = some 1 := by decide +kernel
set_option maxHeartbeats 4000000 in
set_option maxRecDepth 100000 in
theorem c_X6_isLeftOut (l : Launch) (D : va_G) (cI cJ cZ : ClassId) (a_this a_this_signs a_this_signs_cells a_this_gone a_this_gone_cells : Nat) (f_this_signs_cells : Nat → Int32) (f_this_gone_cells : Nat → Int32) (i1 : Int32) (o : Int32) (h : p_X6_isLeftOut f_this_signs_cells f_this_gone_cells i1 = some o) : zMi l D (zT cI cJ cZ) yX6_isLeftOut gs_X6_isLeftOut rm_X6_isLeftOut [.ref a_this, .int i1] (wd_X6_isLeftOut cI cJ cZ a_this a_this_signs a_this_signs_cells a_this_gone a_this_gone_cells f_this_signs_cells f_this_gone_cells) (wd_X6_isLeftOut cI cJ cZ a_this a_this_signs a_this_signs_cells a_this_gone a_this_gone_cells f_this_signs_cells f_this_gone_cells) (o) := by
  refine zMet_z (own := RX6) (fun u : Int32 => (wd_X6_isLeftOut cI cJ cZ a_this a_this_signs a_this_signs_cells a_this_gone a_this_gone_cells f_this_signs_cells f_this_gone_cells)) (fun u : Int32 => u) (by decide) rfl rfl (Nat.le_of_ble_eq_true rfl) ?_
  intro p e s m args below meth c A Q S hK hA hw ret ls hl
  replace hl : lv_has ls 2 [(0, .ref a_this), (1, .int i1)] := hl
  refine lv_aload_n S.1 S.2.1 dX6_isLeftOut_0 rfl (lv_at hl 0 rfl) ?_
  refine z_get S (C := RX6) (T := TX6) (N := 2) (gi gu_X6) hK hw 0 rfl rfl 0 (Nat.le_of_ble_eq_true rfl) (List.mem_cons_of_mem _ gw_233) rfl dX6_isLeftOut_1 ?_
  refine lv_iload_n S.1 S.2.1 dX6_isLeftOut_4 rfl (lv_at hl 1 rfl) ?_
  obtain ⟨y1, hc, h⟩ := z_b1_e h
  refine z_callVi (As := [.int i1]) (rest := []) S (c_X3_get l D cI cJ cZ a_this_signs a_this_signs_cells 40 f_this_signs_cells i1 _ hc) (cwV 1 S.2.2.2.2 (gw_V gw_665 gw_342 gw_343 gw_53 gw_344) rfl rfl rfl hd_X3_get ⟨Nat.le_of_ble_eq_true rfl, Nat.le_of_ble_eq_true rfl⟩) hK hA hw [1, 2] (by decide) rfl rfl [none, some 0, some 1, none, none] rfl (by decide) 1 rfl rfl hl.1 rfl rfl (lv_room (Nat.le_of_ble_eq_true rfl)) ⟨Nat.zero_le _, Nat.zero_le _⟩ dX6_isLeftOut_5 (fun H locs hw => ?_)
  replace hw : zW D A s H locs (wd_X6_isLeftOut cI cJ cZ a_this a_this_signs a_this_signs_cells a_this_gone a_this_gone_cells f_this_signs_cells f_this_gone_cells) := hw
  refine lv_iconst (v := 3) S.1 S.2.1 dX6_isLeftOut_8 (by decide) ?_
  refine z_icmp_ne S (tgt := 28) h dX6_isLeftOut_9 (by decide) (fun h => ?_) (fun h => ?_)
  · refine lv_iconst (v := 0) S.1 S.2.1 dX6_isLeftOut_28 (by decide) ?_
    exact ret 0 h (z_nb (Or.inl rfl)) 29 ls _ _ dX6_isLeftOut_29 hw
  · refine lv_aload_n S.1 S.2.1 dX6_isLeftOut_12 rfl (lv_at hl 0 rfl) ?_
    refine z_get S (C := RX6) (T := TX6) (N := 2) (gi gu_X6) hK hw 0 rfl rfl 1 (Nat.le_of_ble_eq_true rfl) (List.mem_cons_of_mem _ gw_234) rfl dX6_isLeftOut_13 ?_
    refine lv_iload_n S.1 S.2.1 dX6_isLeftOut_16 rfl (lv_at hl 1 rfl) ?_
    obtain ⟨y2, hc, h⟩ := z_b1_e h
    refine z_callVi (As := [.int i1]) (rest := []) S (c_X3_get l D cI cJ cZ a_this_gone a_this_gone_cells 40 f_this_gone_cells i1 _ hc) (cwV 1 S.2.2.2.2 (gw_V gw_665 gw_342 gw_343 gw_53 gw_344) rfl rfl rfl hd_X3_get ⟨Nat.le_of_ble_eq_true rfl, Nat.le_of_ble_eq_true rfl⟩) hK hA hw [3, 4] (by decide) rfl rfl [none, none, none, some 0, some 1] rfl (by decide) 3 rfl rfl hl.1 rfl rfl (lv_room (Nat.le_of_ble_eq_true rfl)) ⟨Nat.zero_le _, Nat.zero_le _⟩ dX6_isLeftOut_17 (fun H locs hw => ?_)
    replace hw : zW D A s H locs (wd_X6_isLeftOut cI cJ cZ a_this a_this_signs a_this_signs_cells a_this_gone a_this_gone_cells f_this_signs_cells f_this_gone_cells) := hw
    refine lv_iconst (v := 1) S.1 S.2.1 dX6_isLeftOut_20 (by decide) ?_
    refine z_icmp_ne S (tgt := 28) h dX6_isLeftOut_21 (by decide) (fun h => ?_) (fun h => ?_)
    · refine lv_iconst (v := 0) S.1 S.2.1 dX6_isLeftOut_28 (by decide) ?_
      exact ret 0 h (z_nb (Or.inl rfl)) 29 ls _ _ dX6_isLeftOut_29 hw
    · refine lv_iconst (v := 1) S.1 S.2.1 dX6_isLeftOut_24 (by decide) ?_
      refine lv_goto (tgt := 29) S.1 S.2.1 dX6_isLeftOut_25 (by decide) ?_
      exact ret 1 h (z_nb (Or.inr rfl)) 29 ls _ _ dX6_isLeftOut_29 hw
def gs_X6_latestBegin : List Cond := Cond.code yX6_latestBegin cX6_latestBegin 3 (some .int) :: GW
def wd_X6_latestBegin (cI cJ cZ : ClassId) (a_this a_this_signs a_this_signs_cells a_this_gone : Nat) (f_this_signs_cells : Nat → Int32) : va_W := [(a_this, .inr (6, [.ref a_this_signs, .ref a_this_gone])), (a_this_signs, .inr (3, [.ref a_this_signs_cells])), (a_this_signs_cells, .inl (cI, 40, .inl f_this_signs_cells))]
abbrev rm_X6_latestBegin : Room := { frames := 1, cells := 0, slots := 0, locals := 21 }
theorem hd_X6_latestBegin : yX6_latestBegin.cls = RX6 ∧ yX6_latestBegin.cls ≠ "java/lang/invoke/MethodHandle" ∧ yX6_latestBegin.cls ≠ "java/lang/invoke/VarHandle" ∧ (parseMethodDescriptor yX6_latestBegin.desc).map (fun d => d.parameters.length) = some 1 := by decide +kernel
set_option maxHeartbeats 4000000 in
set_option maxRecDepth 100000 in
theorem c_X6_latestBegin (l : Launch) (D : va_G) (cI cJ cZ : ClassId) (a_this a_this_signs a_this_signs_cells a_this_gone : Nat) (f_this_signs_cells : Nat → Int32) (K : Nat) (i1 : Int32) (o : Int32) (h : p_X6_latestBegin K f_this_signs_cells i1 = some o) : zMi l D (zT cI cJ cZ) yX6_latestBegin gs_X6_latestBegin rm_X6_latestBegin [.ref a_this, .int i1] (wd_X6_latestBegin cI cJ cZ a_this a_this_signs a_this_signs_cells a_this_gone f_this_signs_cells) (wd_X6_latestBegin cI cJ cZ a_this a_this_signs a_this_signs_cells a_this_gone f_this_signs_cells) (o) := by
  refine zMet_i (own := RX6) (fun u : Int32 => (wd_X6_latestBegin cI cJ cZ a_this a_this_signs a_this_signs_cells a_this_gone f_this_signs_cells)) (fun u : Int32 => u) (by decide) rfl rfl (Nat.le_of_ble_eq_true rfl) ?_
  intro p e s m args below meth c A Q S hK hA hw ret ls hl
  replace hl : lv_has ls 3 [(0, .ref a_this), (1, .int i1)] := hl
  refine lv_iload_n S.1 S.2.1 dX6_latestBegin_0 rfl (lv_at hl 1 rfl) ?_
  refine lv_istore_n (lv' := [(2, .int i1), (0, .ref a_this), (1, .int i1)]) S.1 S.2.1 dX6_latestBegin_1 rfl hl (by decide) rfl (fun ls hl => ?_)
  have L_2 : ∀ (n2_1 : Nat) (x1 : Int32) (h : z_lp1 (p_X6_latestBegin_l2 f_this_signs_cells) n2_1 x1 = some o) (H : Heap) (locs : List Loc) (ls : Array Slot), zW D A s H locs (wd_X6_latestBegin cI cJ cZ a_this a_this_signs a_this_signs_cells a_this_gone f_this_signs_cells) → lv_has ls 3 [(0, .ref a_this), (2, .int x1)] → W p l e (headSpec gs_X6_latestBegin rm_X6_latestBegin).room s m args below meth c H locs 0 0 Q (F0 m 2 ls []) := by
    intro n2_1
    induction n2_1 with
    | zero => intro x1 h; exact z_no h
    | succ n2_1 ih_2 =>
      intro x1 h H locs ls hw hl
      replace h : (p_X6_latestBegin_l2 f_this_signs_cells) (z_lp1 (p_X6_latestBegin_l2 f_this_signs_cells) n2_1) x1 = some o := h
      refine lv_iload_n S.1 S.2.1 dX6_latestBegin_2 rfl (lv_at hl 1 rfl) ?_
      refine z_if_le S (tgt := 26) h dX6_latestBegin_3 (by decide) (fun h => ?_) (fun h => ?_)
      · refine lv_iconst (v := 0) S.1 S.2.1 dX6_latestBegin_26 (by decide) ?_
        exact ret 0 h 27 ls _ _ dX6_latestBegin_27 hw
      · refine lv_aload_n S.1 S.2.1 dX6_latestBegin_6 rfl (lv_at hl 0 rfl) ?_
        refine z_get S (C := RX6) (T := TX6) (N := 2) (gi gu_X6) hK hw 0 rfl rfl 0 (Nat.le_of_ble_eq_true rfl) (List.mem_cons_of_mem _ gw_233) rfl dX6_latestBegin_7 ?_
        refine lv_iload_n S.1 S.2.1 dX6_latestBegin_10 rfl (lv_at hl 1 rfl) ?_
        obtain ⟨y2, hc, h⟩ := z_b1_e h
        refine z_callVi (As := [.int x1]) (rest := []) S (c_X3_get l D cI cJ cZ a_this_signs a_this_signs_cells 40 f_this_signs_cells x1 _ hc) (cwV 1 S.2.2.2.2 (gw_V gw_665 gw_342 gw_343 gw_53 gw_344) rfl rfl rfl hd_X3_get ⟨Nat.le_of_ble_eq_true rfl, Nat.le_of_ble_eq_true rfl⟩) hK hA hw [1, 2] (by decide) rfl rfl [none, some 0, some 1] rfl (by decide) 1 rfl rfl hl.1 rfl rfl (lv_room (Nat.le_of_ble_eq_true rfl)) ⟨Nat.zero_le _, Nat.zero_le _⟩ dX6_latestBegin_11 (fun H locs hw => ?_)
        replace hw : zW D A s H locs (wd_X6_latestBegin cI cJ cZ a_this a_this_signs a_this_signs_cells a_this_gone f_this_signs_cells) := hw
        refine lv_iconst (v := 1) S.1 S.2.1 dX6_latestBegin_14 (by decide) ?_
        refine z_icmp_ne S (tgt := 20) h dX6_latestBegin_15 (by decide) (fun h => ?_) (fun h => ?_)
        · refine z_iinc S (i := 2) (k := 1) (v := x1 + (-1)) hl rfl (by decide) (congrArg (fun w => x1 + w) (by decide : Int32.ofInt (-1) = (-1 : Int32))) (fun v => (2, .int v) :: [(0, .ref a_this)]) (fun _ => rfl) h dX6_latestBegin_20 (fun y3 ls hl h => ?_)
          replace hl : lv_has ls 3 [(2, .int y3), (0, .ref a_this)] := hl
          refine lv_goto (tgt := 2) S.1 S.2.1 dX6_latestBegin_23 (by decide) ?_
          exact ih_2 y3 h _ _ ls hw (lv_sub hl [1, 0] rfl)
        · refine lv_iload_n S.1 S.2.1 dX6_latestBegin_18 rfl (lv_at hl 1 rfl) ?_
          exact ret x1 h 19 ls _ _ dX6_latestBegin_19 hw
  exact L_2 K i1 h _ _ ls hw (lv_sub hl [1, 0] rfl)
theorem gw_684 : Cond.methodLink RX6 41 yX6_latestBegin ∈ GW := GW_of 684 (by decide +kernel) (by decide +kernel)
theorem gw_687 : Cond.code yX6_latestBegin cX6_latestBegin 3 (some .int) ∈ GW := GW_of 687 (by decide +kernel) (by decide +kernel)
theorem gw_57 : Cond.initialized RX6 ∈ GW := GW_of 57 (by decide +kernel) (by decide +kernel)
theorem gw_686 : Cond.instanceMethod yX6_latestBegin ∈ GW := GW_of 686 (by decide +kernel) (by decide +kernel)
theorem gw_28 : Cond.selects RX6 yX6_latestBegin yX6_latestBegin ∈ GW := GW_of 28 (by decide +kernel) (by decide +kernel)
def gs_X6_goOn : List Cond := Cond.code yX6_goOn cX6_goOn 3 (some .int) :: GW
def wd_X6_goOn (cI cJ cZ : ClassId) (a_this a_this_signs a_this_signs_cells a_this_gone a_this_gone_cells : Nat) (f_this_signs_cells : Nat → Int32) (f_this_gone_cells : Nat → Int32) : va_W := [(a_this, .inr (6, [.ref a_this_signs, .ref a_this_gone])), (a_this_signs, .inr (3, [.ref a_this_signs_cells])), (a_this_signs_cells, .inl (cI, 40, .inl f_this_signs_cells)), (a_this_gone, .inr (3, [.ref a_this_gone_cells])), (a_this_gone_cells, .inl (cI, 40, .inl f_this_gone_cells))]
abbrev rm_X6_goOn : Room := { frames := 2, cells := 0, slots := 0, locals := 43 }
theorem hd_X6_goOn : yX6_goOn.cls = RX6 ∧ yX6_goOn.cls ≠ "java/lang/invoke/MethodHandle" ∧ yX6_goOn.cls ≠ "java/lang/invoke/VarHandle" ∧ (parseMethodDescriptor yX6_goOn.desc).map (fun d => d.parameters.length) = some 1 := by decide +kernel
set_option maxHeartbeats 4000000 in
set_option maxRecDepth 100000 in
theorem c_X6_goOn (l : Launch) (D : va_G) (cI cJ cZ : ClassId) (a_this a_this_signs a_this_signs_cells a_this_gone a_this_gone_cells : Nat) (f_this_signs_cells : Nat → Int32) (f_this_gone_cells : Nat → Int32) (K : Nat) (i1 : Int32) (o : Int32 × (Nat → Int32)) (h : p_X6_goOn K f_this_signs_cells f_this_gone_cells i1 = some o) : zMi l D (zT cI cJ cZ) yX6_goOn gs_X6_goOn rm_X6_goOn [.ref a_this, .int i1] (wd_X6_goOn cI cJ cZ a_this a_this_signs a_this_signs_cells a_this_gone a_this_gone_cells f_this_signs_cells f_this_gone_cells) (wd_X6_goOn cI cJ cZ a_this a_this_signs a_this_signs_cells a_this_gone a_this_gone_cells f_this_signs_cells (o.2)) (o.1) := by
  refine zMet_i (own := RX6) (fun u : Int32 × (Nat → Int32) => (wd_X6_goOn cI cJ cZ a_this a_this_signs a_this_signs_cells a_this_gone a_this_gone_cells f_this_signs_cells (u.2))) (fun u : Int32 × (Nat → Int32) => u.1) (by decide) rfl rfl (Nat.le_of_ble_eq_true rfl) ?_
  intro p e s m args below meth c A Q S hK hA hw ret ls hl
  replace hl : lv_has ls 3 [(0, .ref a_this), (1, .int i1)] := hl
  refine lv_aload_n S.1 S.2.1 dX6_goOn_0 rfl (lv_at hl 0 rfl) ?_
  refine z_get S (C := RX6) (T := TX6) (N := 2) (gi gu_X6) hK hw 0 rfl rfl 0 (Nat.le_of_ble_eq_true rfl) (List.mem_cons_of_mem _ gw_233) rfl dX6_goOn_1 ?_
  refine lv_iload_n S.1 S.2.1 dX6_goOn_4 rfl (lv_at hl 1 rfl) ?_
  obtain ⟨y1, hc, h⟩ := z_b1_e h
  refine z_callVi (As := [.int i1]) (rest := []) S (c_X3_get l D cI cJ cZ a_this_signs a_this_signs_cells 40 f_this_signs_cells i1 _ hc) (cwV 1 S.2.2.2.2 (gw_V gw_665 gw_342 gw_343 gw_53 gw_344) rfl rfl rfl hd_X3_get ⟨Nat.le_of_ble_eq_true rfl, Nat.le_of_ble_eq_true rfl⟩) hK hA hw [1, 2] (by decide) rfl rfl [none, some 0, some 1, none, none] rfl (by decide) 1 rfl rfl hl.1 rfl rfl (lv_room (Nat.le_of_ble_eq_true rfl)) ⟨Nat.zero_le _, Nat.zero_le _⟩ dX6_goOn_5 (fun H locs hw => ?_)
  replace hw : zW D A s H locs (wd_X6_goOn cI cJ cZ a_this a_this_signs a_this_signs_cells a_this_gone a_this_gone_cells f_this_signs_cells f_this_gone_cells) := hw
  refine lv_istore_n (lv' := [(2, .int y1), (0, .ref a_this), (1, .int i1)]) S.1 S.2.1 dX6_goOn_8 rfl hl (by decide) rfl (fun ls hl => ?_)
  refine lv_iload_n S.1 S.2.1 dX6_goOn_9 rfl (lv_at hl 0 rfl) ?_
  refine lv_iconst (v := 2) S.1 S.2.1 dX6_goOn_10 (by decide) ?_
  refine z_icmp_lt S (tgt := 26) h dX6_goOn_11 (by decide) (fun h => ?_) (fun h => ?_)
  · refine lv_iload_n S.1 S.2.1 dX6_goOn_26 rfl (lv_at hl 2 rfl) ?_
    refine lv_iconst (v := 1) S.1 S.2.1 dX6_goOn_27 (by decide) ?_
    refine lv_iadd S.1 S.2.1 dX6_goOn_28 ?_
    exact ret ((i1 + 1), f_this_gone_cells) h 29 ls _ _ dX6_goOn_29 hw
  · refine lv_aload_n S.1 S.2.1 dX6_goOn_14 rfl (lv_at hl 1 rfl) ?_
    refine z_get S (C := RX6) (T := TX6) (N := 2) (gi gu_X6) hK hw 0 rfl rfl 1 (Nat.le_of_ble_eq_true rfl) (List.mem_cons_of_mem _ gw_234) rfl dX6_goOn_15 ?_
    refine lv_iload_n S.1 S.2.1 dX6_goOn_18 rfl (lv_at hl 2 rfl) ?_
    obtain ⟨y2, hc, h⟩ := z_b1_e h
    refine z_callVi (As := [.int i1]) (rest := []) S (c_X3_get l D cI cJ cZ a_this_gone a_this_gone_cells 40 f_this_gone_cells i1 _ hc) (cwV 1 S.2.2.2.2 (gw_V gw_665 gw_342 gw_343 gw_53 gw_344) rfl rfl rfl hd_X3_get ⟨Nat.le_of_ble_eq_true rfl, Nat.le_of_ble_eq_true rfl⟩) hK hA hw [3, 4] (by decide) rfl rfl [none, none, none, some 0, some 1] rfl (by decide) 3 rfl rfl hl.1 rfl rfl (lv_room (Nat.le_of_ble_eq_true rfl)) ⟨Nat.zero_le _, Nat.zero_le _⟩ dX6_goOn_19 (fun H locs hw => ?_)
    replace hw : zW D A s H locs (wd_X6_goOn cI cJ cZ a_this a_this_signs a_this_signs_cells a_this_gone a_this_gone_cells f_this_signs_cells f_this_gone_cells) := hw
    refine lv_iconst (v := 1) S.1 S.2.1 dX6_goOn_22 (by decide) ?_
    refine z_icmp_ne S (tgt := 30) h dX6_goOn_23 (by decide) (fun h => ?_) (fun h => ?_)
    · refine lv_aload_n S.1 S.2.1 dX6_goOn_30 rfl (lv_at hl 1 rfl) ?_
      refine z_get S (C := RX6) (T := TX6) (N := 2) (gi gu_X6) hK hw 0 rfl rfl 1 (Nat.le_of_ble_eq_true rfl) (List.mem_cons_of_mem _ gw_234) rfl dX6_goOn_31 ?_
      refine lv_iload_n S.1 S.2.1 dX6_goOn_34 rfl (lv_at hl 2 rfl) ?_
      refine lv_iconst (v := 1) S.1 S.2.1 dX6_goOn_35 (by decide) ?_
      obtain ⟨f3, hc, h⟩ := z_b1_e h
      refine z_callVv (As := [.int i1, .int 1]) (rest := []) S (c_X3_put l D cI cJ cZ a_this_gone a_this_gone_cells 40 f_this_gone_cells i1 1 _ hc) (cwV 2 S.2.2.2.2 (gw_V gw_666 gw_326 gw_327 gw_53 gw_328) rfl rfl rfl hd_X3_put ⟨Nat.le_of_ble_eq_true rfl, Nat.le_of_ble_eq_true rfl⟩) hK hA hw [3, 4] (by decide) rfl rfl [none, none, none, some 0, some 1] rfl (by decide) 3 rfl rfl hl.1 rfl rfl (lv_room (Nat.le_of_ble_eq_true rfl)) ⟨Nat.zero_le _, Nat.zero_le _⟩ dX6_goOn_36 (fun H locs hw => ?_)
      replace hw : zW D A s H locs (wd_X6_goOn cI cJ cZ a_this a_this_signs a_this_signs_cells a_this_gone a_this_gone_cells f_this_signs_cells f3) := hw
      refine lv_iload_n S.1 S.2.1 dX6_goOn_39 rfl (lv_at hl 0 rfl) ?_
      refine lv_iconst (v := 4) S.1 S.2.1 dX6_goOn_40 (by decide) ?_
      refine z_icmp_ne S (tgt := 48) h dX6_goOn_41 (by decide) (fun h => ?_) (fun h => ?_)
      · refine lv_aload_n S.1 S.2.1 dX6_goOn_48 rfl (lv_at hl 1 rfl) ?_
        refine lv_iload_n S.1 S.2.1 dX6_goOn_49 rfl (lv_at hl 2 rfl) ?_
        obtain ⟨y4, hc, h⟩ := z_b1_e h
        refine z_callVi (As := [.int i1]) (rest := []) S (c_X6_latestBegin l D cI cJ cZ a_this a_this_signs a_this_signs_cells a_this_gone f_this_signs_cells K i1 _ hc) (cwV 1 S.2.2.2.2 (gw_V gw_684 gw_686 gw_28 gw_57 gw_687) rfl rfl rfl hd_X6_latestBegin ⟨Nat.le_of_ble_eq_true rfl, Nat.le_of_ble_eq_true rfl⟩) hK hA hw [0, 1, 2] (by decide) rfl rfl [some 0, some 1, some 2, none, none] rfl (by decide) 0 rfl rfl hl.1 rfl rfl (lv_room (Nat.le_of_ble_eq_true rfl)) ⟨Nat.zero_le _, Nat.zero_le _⟩ dX6_goOn_50 (fun H locs hw => ?_)
        replace hw : zW D A s H locs (wd_X6_goOn cI cJ cZ a_this a_this_signs a_this_signs_cells a_this_gone a_this_gone_cells f_this_signs_cells f3) := hw
        exact ret (y4, f3) h 53 ls _ _ dX6_goOn_53 hw
      · refine lv_iconst (v := 0) S.1 S.2.1 dX6_goOn_44 (by decide) ?_
        refine lv_goto (tgt := 53) S.1 S.2.1 dX6_goOn_45 (by decide) ?_
        exact ret (0, f3) h 53 ls _ _ dX6_goOn_53 hw
    · refine lv_iload_n S.1 S.2.1 dX6_goOn_26 rfl (lv_at hl 2 rfl) ?_
      refine lv_iconst (v := 1) S.1 S.2.1 dX6_goOn_27 (by decide) ?_
      refine lv_iadd S.1 S.2.1 dX6_goOn_28 ?_
      exact ret ((i1 + 1), f_this_gone_cells) h 29 ls _ _ dX6_goOn_29 hw
theorem gw_675 : Cond.methodLink RX6 30 yX3_fill ∈ GW := GW_of 675 (by decide +kernel) (by decide +kernel)
theorem gw_676 : Cond.methodLink RX6 34 yX6_isLeftOut ∈ GW := GW_of 676 (by decide +kernel) (by decide +kernel)
theorem gw_679 : Cond.code yX6_isLeftOut cX6_isLeftOut 2 (some .boolean) ∈ GW := GW_of 679 (by decide +kernel) (by decide +kernel)
theorem gw_678 : Cond.instanceMethod yX6_isLeftOut ∈ GW := GW_of 678 (by decide +kernel) (by decide +kernel)
theorem gw_26 : Cond.selects RX6 yX6_isLeftOut yX6_isLeftOut ∈ GW := GW_of 26 (by decide +kernel) (by decide +kernel)
theorem gw_680 : Cond.methodLink RX6 38 yX6_goOn ∈ GW := GW_of 680 (by decide +kernel) (by decide +kernel)
theorem gw_683 : Cond.code yX6_goOn cX6_goOn 3 (some .int) ∈ GW := GW_of 683 (by decide +kernel) (by decide +kernel)
theorem gw_682 : Cond.instanceMethod yX6_goOn ∈ GW := GW_of 682 (by decide +kernel) (by decide +kernel)
theorem gw_27 : Cond.selects RX6 yX6_goOn yX6_goOn ∈ GW := GW_of 27 (by decide +kernel) (by decide +kernel)
def gs_X6_measurePlayed : List Cond := Cond.code yX6_measurePlayed cX6_measurePlayed 6 (some .int) :: GW
def wd_X6_measurePlayed (cI cJ cZ : ClassId) (a_this a_this_signs a_this_signs_cells a_this_gone a_this_gone_cells : Nat) (f_this_signs_cells : Nat → Int32) (f_this_gone_cells : Nat → Int32) : va_W := [(a_this, .inr (6, [.ref a_this_signs, .ref a_this_gone])), (a_this_signs, .inr (3, [.ref a_this_signs_cells])), (a_this_signs_cells, .inl (cI, 40, .inl f_this_signs_cells)), (a_this_gone, .inr (3, [.ref a_this_gone_cells])), (a_this_gone_cells, .inl (cI, 40, .inl f_this_gone_cells))]
abbrev rm_X6_measurePlayed : Room := { frames := 3, cells := 0, slots := 0, locals := 65 }
theorem hd_X6_measurePlayed : yX6_measurePlayed.cls = RX6 ∧ yX6_measurePlayed.cls ≠ "java/lang/invoke/MethodHandle" ∧ yX6_measurePlayed.cls ≠ "java/lang/invoke/VarHandle" ∧ (parseMethodDescriptor yX6_measurePlayed.desc).map (fun d => d.parameters.length) = some 2 := by decide +kernel
set_option maxHeartbeats 4000000 in
set_option maxRecDepth 100000 in
theorem c_X6_measurePlayed (l : Launch) (D : va_G) (cI cJ cZ : ClassId) (a_this a_this_signs a_this_signs_cells a_this_gone a_this_gone_cells : Nat) (f_this_signs_cells : Nat → Int32) (f_this_gone_cells : Nat → Int32) (K : Nat) (i1 : Int32) (i2 : Int32) (o : Int32 × (Nat → Int32)) (h : p_X6_measurePlayed K f_this_signs_cells f_this_gone_cells i1 i2 = some o) : zMi l D (zT cI cJ cZ) yX6_measurePlayed gs_X6_measurePlayed rm_X6_measurePlayed [.ref a_this, .int i1, .int i2] (wd_X6_measurePlayed cI cJ cZ a_this a_this_signs a_this_signs_cells a_this_gone a_this_gone_cells f_this_signs_cells f_this_gone_cells) (wd_X6_measurePlayed cI cJ cZ a_this a_this_signs a_this_signs_cells a_this_gone a_this_gone_cells f_this_signs_cells (o.2)) (o.1) := by
  refine zMet_i (own := RX6) (fun u : Int32 × (Nat → Int32) => (wd_X6_measurePlayed cI cJ cZ a_this a_this_signs a_this_signs_cells a_this_gone a_this_gone_cells f_this_signs_cells (u.2))) (fun u : Int32 × (Nat → Int32) => u.1) (by decide) rfl rfl (Nat.le_of_ble_eq_true rfl) ?_
  intro p e s m args below meth c A Q S hK hA hw ret ls hl
  replace hl : lv_has ls 6 [(0, .ref a_this), (1, .int i1), (2, .int i2)] := hl
  refine lv_aload_n S.1 S.2.1 dX6_measurePlayed_0 rfl (lv_at hl 0 rfl) ?_
  refine z_get S (C := RX6) (T := TX6) (N := 2) (gi gu_X6) hK hw 0 rfl rfl 1 (Nat.le_of_ble_eq_true rfl) (List.mem_cons_of_mem _ gw_234) rfl dX6_measurePlayed_1 ?_
  refine lv_iconst (v := 0) S.1 S.2.1 dX6_measurePlayed_4 (by decide) ?_
  obtain ⟨f1, hc, h⟩ := z_b1_e h
  refine z_callVv (As := [.int 0]) (rest := []) S (c_X3_fill l D cI cJ cZ a_this_gone a_this_gone_cells 40 f_this_gone_cells K 0 _ hc) (cwV 1 S.2.2.2.2 (gw_V gw_675 gw_93 gw_94 gw_53 gw_95) rfl rfl rfl hd_X3_fill ⟨Nat.le_of_ble_eq_true rfl, Nat.le_of_ble_eq_true rfl⟩) hK hA hw [3, 4] (by decide) rfl rfl [none, none, none, some 0, some 1] rfl (by decide) 3 rfl rfl hl.1 rfl rfl (lv_room (Nat.le_of_ble_eq_true rfl)) ⟨Nat.zero_le _, Nat.zero_le _⟩ dX6_measurePlayed_5 (fun H locs hw => ?_)
  replace hw : zW D A s H locs (wd_X6_measurePlayed cI cJ cZ a_this a_this_signs a_this_signs_cells a_this_gone a_this_gone_cells f_this_signs_cells f1) := hw
  refine lv_iconst (v := 0) S.1 S.2.1 dX6_measurePlayed_8 (by decide) ?_
  refine lv_istore_n (lv' := [(3, .int 0), (0, .ref a_this), (1, .int i1), (2, .int i2)]) S.1 S.2.1 dX6_measurePlayed_9 rfl hl (by decide) rfl (fun ls hl => ?_)
  refine lv_iconst (v := 0) S.1 S.2.1 dX6_measurePlayed_10 (by decide) ?_
  refine lv_istore (lv' := [(4, .int 0), (3, .int 0), (0, .ref a_this), (1, .int i1), (2, .int i2)]) S.1 S.2.1 dX6_measurePlayed_11 hl (by decide) rfl (fun ls hl => ?_)
  refine lv_iconst (v := 0) S.1 S.2.1 dX6_measurePlayed_13 (by decide) ?_
  refine lv_istore (lv' := [(5, .int 0), (4, .int 0), (3, .int 0), (0, .ref a_this), (1, .int i1), (2, .int i2)]) S.1 S.2.1 dX6_measurePlayed_14 hl (by decide) rfl (fun ls hl => ?_)
  have L_16 : ∀ (n16_5 : Nat) (f2 : Nat → Int32) (x3 : Int32) (x4 : Int32) (x5 : Int32) (h : z_lp4 (p_X6_measurePlayed_l16 i2 f_this_signs_cells i1 K) n16_5 f2 x3 x4 x5 = some o) (H : Heap) (locs : List Loc) (ls : Array Slot), zW D A s H locs (wd_X6_measurePlayed cI cJ cZ a_this a_this_signs a_this_signs_cells a_this_gone a_this_gone_cells f_this_signs_cells f2) → lv_has ls 6 [(0, .ref a_this), (1, .int i1), (2, .int i2), (3, .int x3), (4, .int x4), (5, .int x5)] → W p l e (headSpec gs_X6_measurePlayed rm_X6_measurePlayed).room s m args below meth c H locs 0 0 Q (F0 m 16 ls []) := by
    intro n16_5
    induction n16_5 with
    | zero => intro f2 x3 x4 x5 h; exact z_no h
    | succ n16_5 ih_16 =>
      intro f2 x3 x4 x5 h H locs ls hw hl
      replace h : (p_X6_measurePlayed_l16 i2 f_this_signs_cells i1 K) (z_lp4 (p_X6_measurePlayed_l16 i2 f_this_signs_cells i1 K) n16_5) f2 x3 x4 x5 = some o := h
      refine lv_iload S.1 S.2.1 dX6_measurePlayed_16 (lv_at hl 5 rfl) ?_
      refine lv_sipush (v := 1640) S.1 S.2.1 dX6_measurePlayed_18 (by decide) ?_
      refine z_icmp_ge S (tgt := 66) h dX6_measurePlayed_21 (by decide) (fun h => ?_) (fun h => ?_)
      · refine lv_iconst (v := (-1)) S.1 S.2.1 dX6_measurePlayed_66 (by decide) ?_
        exact ret ((-1), f2) h 67 ls _ _ dX6_measurePlayed_67 hw
      · refine lv_iload_n S.1 S.2.1 dX6_measurePlayed_24 rfl (lv_at hl 3 rfl) ?_
        refine lv_iload_n S.1 S.2.1 dX6_measurePlayed_25 rfl (lv_at hl 2 rfl) ?_
        refine z_icmp_ge S (tgt := 66) h dX6_measurePlayed_26 (by decide) (fun h => ?_) (fun h => ?_)
        · refine lv_iconst (v := (-1)) S.1 S.2.1 dX6_measurePlayed_66 (by decide) ?_
          exact ret ((-1), f2) h 67 ls _ _ dX6_measurePlayed_67 hw
        · refine lv_aload_n S.1 S.2.1 dX6_measurePlayed_29 rfl (lv_at hl 0 rfl) ?_
          refine lv_iload_n S.1 S.2.1 dX6_measurePlayed_30 rfl (lv_at hl 3 rfl) ?_
          obtain ⟨y6, hc, h⟩ := z_b1_e h
          refine z_callVi (As := [.int x3]) (rest := []) S (c_X6_isLeftOut l D cI cJ cZ a_this a_this_signs a_this_signs_cells a_this_gone a_this_gone_cells f_this_signs_cells f2 x3 _ hc) (cwV 1 S.2.2.2.2 (gw_V gw_676 gw_678 gw_26 gw_57 gw_679) rfl rfl rfl hd_X6_isLeftOut ⟨Nat.le_of_ble_eq_true rfl, Nat.le_of_ble_eq_true rfl⟩) hK hA hw [0, 1, 2, 3, 4] (by decide) rfl rfl [some 0, some 1, some 2, some 3, some 4] rfl (by decide) 0 rfl rfl hl.1 rfl rfl (lv_room (Nat.le_of_ble_eq_true rfl)) ⟨Nat.zero_le _, Nat.zero_le _⟩ dX6_measurePlayed_31 (fun H locs hw => ?_)
          replace hw : zW D A s H locs (wd_X6_measurePlayed cI cJ cZ a_this a_this_signs a_this_signs_cells a_this_gone a_this_gone_cells f_this_signs_cells f2) := hw
          refine z_if_eq S (tgt := 43) h dX6_measurePlayed_34 (by decide) (fun h => ?_) (fun h => ?_)
          · refine lv_iload S.1 S.2.1 dX6_measurePlayed_43 (lv_at hl 4 rfl) ?_
            refine lv_iload_n S.1 S.2.1 dX6_measurePlayed_45 rfl (lv_at hl 1 rfl) ?_
            refine z_icmp_ne S (tgt := 51) h dX6_measurePlayed_46 (by decide) (fun h => ?_) (fun h => ?_)
            · refine z_iinc S (i := 4) (k := 4) (v := x4 + 1) hl rfl (by decide) rfl (fun v => (4, .int v) :: [(0, .ref a_this), (1, .int i1), (2, .int i2), (3, .int x3), (5, .int x5)]) (fun _ => rfl) h dX6_measurePlayed_51 (fun y7 ls hl h => ?_)
              replace hl : lv_has ls 6 [(4, .int y7), (0, .ref a_this), (1, .int i1), (2, .int i2), (3, .int x3), (5, .int x5)] := hl
              refine lv_aload_n S.1 S.2.1 dX6_measurePlayed_54 rfl (lv_at hl 1 rfl) ?_
              refine lv_iload_n S.1 S.2.1 dX6_measurePlayed_55 rfl (lv_at hl 4 rfl) ?_
              obtain ⟨y8, f9, hc, h⟩ := z_b2_e h
              refine z_callVi (As := [.int x3]) (rest := []) S (c_X6_goOn l D cI cJ cZ a_this a_this_signs a_this_signs_cells a_this_gone a_this_gone_cells f_this_signs_cells f2 K x3 _ hc) (cwV 1 S.2.2.2.2 (gw_V gw_680 gw_682 gw_27 gw_57 gw_683) rfl rfl rfl hd_X6_goOn ⟨Nat.le_of_ble_eq_true rfl, Nat.le_of_ble_eq_true rfl⟩) hK hA hw [0, 1, 2, 3, 4] (by decide) rfl rfl [some 0, some 1, some 2, some 3, some 4] rfl (by decide) 0 rfl rfl hl.1 rfl rfl (lv_room (Nat.le_of_ble_eq_true rfl)) ⟨Nat.zero_le _, Nat.zero_le _⟩ dX6_measurePlayed_56 (fun H locs hw => ?_)
              replace hw : zW D A s H locs (wd_X6_measurePlayed cI cJ cZ a_this a_this_signs a_this_signs_cells a_this_gone a_this_gone_cells f_this_signs_cells f9) := hw
              refine lv_istore_n (lv' := [(3, .int y8), (4, .int y7), (0, .ref a_this), (1, .int i1), (2, .int i2), (5, .int x5)]) S.1 S.2.1 dX6_measurePlayed_59 rfl hl (by decide) rfl (fun ls hl => ?_)
              refine z_iinc S (i := 5) (k := 5) (v := x5 + 1) hl rfl (by decide) rfl (fun v => (5, .int v) :: [(3, .int y8), (4, .int y7), (0, .ref a_this), (1, .int i1), (2, .int i2)]) (fun _ => rfl) h dX6_measurePlayed_60 (fun y10 ls hl h => ?_)
              replace hl : lv_has ls 6 [(5, .int y10), (3, .int y8), (4, .int y7), (0, .ref a_this), (1, .int i1), (2, .int i2)] := hl
              refine lv_goto (tgt := 16) S.1 S.2.1 dX6_measurePlayed_63 (by decide) ?_
              exact ih_16 f9 y8 y7 y10 h _ _ ls hw (lv_sub hl [3, 4, 5, 1, 2, 0] rfl)
            · refine lv_iload_n S.1 S.2.1 dX6_measurePlayed_49 rfl (lv_at hl 3 rfl) ?_
              exact ret (x3, f2) h 50 ls _ _ dX6_measurePlayed_50 hw
          · refine z_iinc S (i := 3) (k := 3) (v := x3 + 1) hl rfl (by decide) rfl (fun v => (3, .int v) :: [(0, .ref a_this), (1, .int i1), (2, .int i2), (4, .int x4), (5, .int x5)]) (fun _ => rfl) h dX6_measurePlayed_37 (fun y11 ls hl h => ?_)
            replace hl : lv_has ls 6 [(3, .int y11), (0, .ref a_this), (1, .int i1), (2, .int i2), (4, .int x4), (5, .int x5)] := hl
            refine lv_goto (tgt := 60) S.1 S.2.1 dX6_measurePlayed_40 (by decide) ?_
            refine z_iinc S (i := 5) (k := 5) (v := x5 + 1) hl rfl (by decide) rfl (fun v => (5, .int v) :: [(3, .int y11), (0, .ref a_this), (1, .int i1), (2, .int i2), (4, .int x4)]) (fun _ => rfl) h dX6_measurePlayed_60 (fun y12 ls hl h => ?_)
            replace hl : lv_has ls 6 [(5, .int y12), (3, .int y11), (0, .ref a_this), (1, .int i1), (2, .int i2), (4, .int x4)] := hl
            refine lv_goto (tgt := 16) S.1 S.2.1 dX6_measurePlayed_63 (by decide) ?_
            exact ih_16 f2 y11 x4 y12 h _ _ ls hw (lv_sub hl [2, 3, 4, 1, 5, 0] rfl)
  exact L_16 K f1 0 0 0 h _ _ ls hw (lv_sub hl [3, 4, 5, 2, 1, 0] rfl)
