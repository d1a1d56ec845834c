def gs_X1_hasRun : List Cond := Cond.code yX1_hasRun cX1_hasRun 6 (some .boolean) :: GW
def wd_X1_hasRun (cI cJ cZ : ClassId) : va_W := []
abbrev rm_X1_hasRun : Room := { frames := 0, cells := 0, slots := 0, locals := 0 }
theorem hd_X1_hasRun : yX1_hasRun.cls ≠ "java/lang/invoke/MethodHandle" ∧ yX1_hasRun.cls ≠ "java/lang/invoke/VarHandle" ∧ (parseMethodDescriptor yX1_hasRun.desc).map (fun d => d.parameters.length) = some 2 := by decide +kernel
set_option maxHeartbeats 4000000 in
set_option maxRecDepth 100000 in
theorem c_X1_hasRun (l : Launch) (D : va_G) (cI cJ cZ : ClassId) (K : Nat) (i0 : Int64) (i2 : Int32) (o : Int32) (h : p_X1_hasRun K i0 i2 = some o) : zMi l D (zT cI cJ cZ) yX1_hasRun gs_X1_hasRun rm_X1_hasRun [.long i0, .int i2] (wd_X1_hasRun cI cJ cZ) (wd_X1_hasRun cI cJ cZ) (o) := by
  refine zMet_z (own := RX1) (fun u : Int32 => (wd_X1_hasRun cI cJ cZ)) (fun u : Int32 => u) (by decide) rfl rfl (Nat.le_of_ble_eq_true rfl) ?_
  intro p e s m args below meth c A Q S hK hA hw ret ls hl
  replace hl : lv_has ls 6 [(0, .long i0), (2, .int i2)] := hl
  refine lv_lload_n S.1 S.2.1 dX1_hasRun_0 rfl (lv_at hl 0 rfl) ?_
  refine lv_lstore_n (lv' := [(3, .long i0), (0, .long i0), (2, .int i2)]) S.1 S.2.1 dX1_hasRun_1 rfl hl (by decide) rfl (fun ls hl => ?_)
  refine lv_iconst (v := 1) S.1 S.2.1 dX1_hasRun_2 (by decide) ?_
  refine lv_istore (lv' := [(5, .int 1), (3, .long i0), (0, .long i0), (2, .int i2)]) S.1 S.2.1 dX1_hasRun_3 hl (by decide) rfl (fun ls hl => ?_)
  have J_29 : ∀ (x1 : Int64) (h : p_X1_hasRun_j29 x1 = some o) (H : Heap) (locs : List Loc) (ls : Array Slot), zW D A s H locs (wd_X1_hasRun cI cJ cZ) → lv_has ls 6 [(3, .long x1)] → W p l e (headSpec gs_X1_hasRun rm_X1_hasRun).room s m args below meth c H locs 0 0 Q (F0 m 29 ls []) := by
    intro x1 h H locs ls hw hl
    refine lv_lload_n S.1 S.2.1 dX1_hasRun_29 rfl (lv_at hl 0 rfl) ?_
    refine lv_lconst (v := 0) S.1 S.2.1 dX1_hasRun_30 (by decide) ?_
    refine W.lcmp S.1 S.2.1 dX1_hasRun_31 ?_
    refine z_if_eq S (tgt := 39) h dX1_hasRun_32 (by decide) (fun h => ?_) (fun h => ?_)
    · refine lv_iconst (v := 0) S.1 S.2.1 dX1_hasRun_39 (by decide) ?_
      exact ret 0 h (z_nb (Or.inl rfl)) 40 ls _ _ dX1_hasRun_40 hw
    · refine lv_iconst (v := 1) S.1 S.2.1 dX1_hasRun_35 (by decide) ?_
      refine lv_goto (tgt := 40) S.1 S.2.1 dX1_hasRun_36 (by decide) ?_
      exact ret 1 h (z_nb (Or.inr rfl)) 40 ls _ _ dX1_hasRun_40 hw
  have L_5 : ∀ (n5_3 : Nat) (x2 : Int64) (x3 : Int32) (h : z_lp2 (p_X1_hasRun_l5 i2 p_X1_hasRun_j29) n5_3 x2 x3 = some o) (H : Heap) (locs : List Loc) (ls : Array Slot), zW D A s H locs (wd_X1_hasRun cI cJ cZ) → lv_has ls 6 [(2, .int i2), (3, .long x2), (5, .int x3)] → W p l e (headSpec gs_X1_hasRun rm_X1_hasRun).room s m args below meth c H locs 0 0 Q (F0 m 5 ls []) := by
    intro n5_3
    induction n5_3 with
    | zero => intro x2 x3 h; exact z_no h
    | succ n5_3 ih_5 =>
      intro x2 x3 h H locs ls hw hl
      replace h : (p_X1_hasRun_l5 i2 p_X1_hasRun_j29) (z_lp2 (p_X1_hasRun_l5 i2 p_X1_hasRun_j29) n5_3) x2 x3 = some o := h
      refine lv_iload S.1 S.2.1 dX1_hasRun_5 (lv_at hl 2 rfl) ?_
      refine lv_iload_n S.1 S.2.1 dX1_hasRun_7 rfl (lv_at hl 0 rfl) ?_
      refine z_icmp_ge S (tgt := 29) h dX1_hasRun_8 (by decide) (fun h => ?_) (fun h => ?_)
      · exact J_29 x2 h _ _ ls hw (lv_sub hl [1] rfl)
      · refine lv_lload_n S.1 S.2.1 dX1_hasRun_11 rfl (lv_at hl 1 rfl) ?_
        refine lv_lconst (v := 0) S.1 S.2.1 dX1_hasRun_12 (by decide) ?_
        refine W.lcmp S.1 S.2.1 dX1_hasRun_13 ?_
        refine z_if_eq S (tgt := 29) h dX1_hasRun_14 (by decide) (fun h => ?_) (fun h => ?_)
        · exact J_29 x2 h _ _ ls hw (lv_sub hl [1] rfl)
        · refine lv_lload_n S.1 S.2.1 dX1_hasRun_17 rfl (lv_at hl 1 rfl) ?_
          refine lv_lload_n S.1 S.2.1 dX1_hasRun_18 rfl (lv_at hl 1 rfl) ?_
          refine lv_iconst (v := 1) S.1 S.2.1 dX1_hasRun_19 (by decide) ?_
          refine lv_lushr (v := ((x2.toUInt64 >>> ((1 : Int32).toInt64.toUInt64 &&& Int64.toUInt64 63)).toInt64)) S.1 S.2.1 dX1_hasRun_20 rfl ?_
          refine lv_land S.1 S.2.1 dX1_hasRun_21 ?_
          refine z_letl h (fun y4 h => ?_)
          refine lv_lstore_n (lv' := [(3, .long y4), (2, .int i2), (5, .int x3)]) S.1 S.2.1 dX1_hasRun_22 rfl hl (by decide) rfl (fun ls hl => ?_)
          refine z_iinc S (i := 5) (k := 2) (v := x3 + 1) hl rfl (by decide) rfl (fun v => (5, .int v) :: [(3, .long y4), (2, .int i2)]) (fun _ => rfl) h dX1_hasRun_23 (fun y5 ls hl h => ?_)
          replace hl : lv_has ls 6 [(5, .int y5), (3, .long y4), (2, .int i2)] := hl
          refine lv_goto (tgt := 5) S.1 S.2.1 dX1_hasRun_26 (by decide) ?_
          exact ih_5 y4 y5 h _ _ ls hw (lv_sub hl [2, 1, 0] rfl)
  exact L_5 K i0 1 h _ _ ls hw (lv_sub hl [3, 1, 0] rfl)
theorem gw_101 : Cond.fieldLink RX1 14 "ScoreReader$Lines" "firsts" "LScoreReader$Row;" ∈ GW := GW_of 101 (by decide +kernel) (by decide +kernel)
theorem gw_341 : Cond.methodLink RX1 64 yX3_get ∈ GW := GW_of 341 (by decide +kernel) (by decide +kernel)
def gs_X1_gapBehind : List Cond := Cond.code yX1_gapBehind cX1_gapBehind 2 (some .int) :: GW
def wd_X1_gapBehind (cI cJ cZ : ClassId) (a_this a_this_firsts a_this_firsts_cells a_this_lasts : Nat) (v_this_size : Int32) (v_this_staffStart : Int32) (f_this_firsts_cells : Nat → Int32) : va_W := [(a_this, .inr (1, [.ref a_this_firsts, .ref a_this_lasts, .int v_this_size, .int v_this_staffStart])), (a_this_firsts, .inr (3, [.ref a_this_firsts_cells])), (a_this_firsts_cells, .inl (cI, 32, .inl f_this_firsts_cells))]
abbrev rm_X1_gapBehind : Room := { frames := 1, cells := 0, slots := 0, locals := 21 }
theorem hd_X1_gapBehind : yX1_gapBehind.cls = RX1 ∧ yX1_gapBehind.cls ≠ "java/lang/invoke/MethodHandle" ∧ yX1_gapBehind.cls ≠ "java/lang/invoke/VarHandle" ∧ (parseMethodDescriptor yX1_gapBehind.desc).map (fun d => d.parameters.length) = some 1 := by decide +kernel
set_option maxHeartbeats 4000000 in
set_option maxRecDepth 100000 in
theorem c_X1_gapBehind (l : Launch) (D : va_G) (cI cJ cZ : ClassId) (a_this a_this_firsts a_this_firsts_cells a_this_lasts : Nat) (v_this_size : Int32) (v_this_staffStart : Int32) (f_this_firsts_cells : Nat → Int32) (i1 : Int32) (o : Int32) (h : p_X1_gapBehind f_this_firsts_cells i1 = some o) : zMi l D (zT cI cJ cZ) yX1_gapBehind gs_X1_gapBehind rm_X1_gapBehind [.ref a_this, .int i1] (wd_X1_gapBehind cI cJ cZ a_this a_this_firsts a_this_firsts_cells a_this_lasts v_this_size v_this_staffStart f_this_firsts_cells) (wd_X1_gapBehind cI cJ cZ a_this a_this_firsts a_this_firsts_cells a_this_lasts v_this_size v_this_staffStart f_this_firsts_cells) (o) := by
  refine zMet_i (own := RX1) (fun u : Int32 => (wd_X1_gapBehind cI cJ cZ a_this a_this_firsts a_this_firsts_cells a_this_lasts v_this_size v_this_staffStart f_this_firsts_cells)) (fun u : Int32 => u) (by decide) rfl rfl (Nat.le_of_ble_eq_true rfl) ?_
  intro p e s m args below meth c A Q S hK hA hw ret ls hl
  replace hl : lv_has ls 2 [(0, .ref a_this), (1, .int i1)] := hl
  refine lv_aload_n S.1 S.2.1 dX1_gapBehind_0 rfl (lv_at hl 0 rfl) ?_
  refine z_get S (C := RX1) (T := TX1) (N := 4) (gi gu_X1) hK hw 0 rfl rfl 0 (Nat.le_of_ble_eq_true rfl) (List.mem_cons_of_mem _ gw_101) rfl dX1_gapBehind_1 ?_
  refine lv_iload_n S.1 S.2.1 dX1_gapBehind_4 rfl (lv_at hl 1 rfl) ?_
  refine lv_iconst (v := 1) S.1 S.2.1 dX1_gapBehind_5 (by decide) ?_
  refine lv_iadd S.1 S.2.1 dX1_gapBehind_6 ?_
  obtain ⟨y1, hc, h⟩ := z_b1_e h
  refine z_callVi (As := [.int (i1 + 1)]) (rest := []) S (c_X3_get l D cI cJ cZ a_this_firsts a_this_firsts_cells 32 f_this_firsts_cells (i1 + 1) _ hc) (cwV 1 S.2.2.2.2 (gw_V gw_341 gw_342 gw_343 gw_53 gw_344) rfl rfl rfl hd_X3_get ⟨Nat.le_of_ble_eq_true rfl, Nat.le_of_ble_eq_true rfl⟩) hK hA hw [1, 2] (by decide) rfl rfl [none, some 0, some 1] rfl (by decide) 1 rfl rfl hl.1 rfl rfl (lv_room (Nat.le_of_ble_eq_true rfl)) ⟨Nat.zero_le _, Nat.zero_le _⟩ dX1_gapBehind_7 (fun H locs hw => ?_)
  replace hw : zW D A s H locs (wd_X1_gapBehind cI cJ cZ a_this a_this_firsts a_this_firsts_cells a_this_lasts v_this_size v_this_staffStart f_this_firsts_cells) := hw
  refine lv_aload_n S.1 S.2.1 dX1_gapBehind_10 rfl (lv_at hl 0 rfl) ?_
  refine z_get S (C := RX1) (T := TX1) (N := 4) (gi gu_X1) hK hw 0 rfl rfl 0 (Nat.le_of_ble_eq_true rfl) (List.mem_cons_of_mem _ gw_101) rfl dX1_gapBehind_11 ?_
  refine lv_iload_n S.1 S.2.1 dX1_gapBehind_14 rfl (lv_at hl 1 rfl) ?_
  obtain ⟨y2, hc, h⟩ := z_b1_e h
  refine z_callVi (As := [.int i1]) (rest := [.int y1]) S (c_X3_get l D cI cJ cZ a_this_firsts a_this_firsts_cells 32 f_this_firsts_cells i1 _ hc) (cwV 1 S.2.2.2.2 (gw_V gw_341 gw_342 gw_343 gw_53 gw_344) rfl rfl rfl hd_X3_get ⟨Nat.le_of_ble_eq_true rfl, Nat.le_of_ble_eq_true rfl⟩) hK hA hw [1, 2] (by decide) rfl rfl [none, some 0, some 1] rfl (by decide) 1 rfl rfl hl.1 rfl rfl (lv_room (Nat.le_of_ble_eq_true rfl)) ⟨Nat.zero_le _, Nat.zero_le _⟩ dX1_gapBehind_15 (fun H locs hw => ?_)
  replace hw : zW D A s H locs (wd_X1_gapBehind cI cJ cZ a_this a_this_firsts a_this_firsts_cells a_this_lasts v_this_size v_this_staffStart f_this_firsts_cells) := hw
  refine lv_isub S.1 S.2.1 dX1_gapBehind_18 ?_
  exact ret (y1 - y2) h 19 ls _ _ dX1_gapBehind_19 hw
theorem gw_337 : Cond.methodLink RX1 51 yX1_gapBehind ∈ GW := GW_of 337 (by decide +kernel) (by decide +kernel)
theorem gw_340 : Cond.code yX1_gapBehind cX1_gapBehind 2 (some .int) ∈ GW := GW_of 340 (by decide +kernel) (by decide +kernel)
theorem gw_52 : Cond.initialized RX1 ∈ GW := GW_of 52 (by decide +kernel) (by decide +kernel)
theorem gw_339 : Cond.instanceMethod yX1_gapBehind ∈ GW := GW_of 339 (by decide +kernel) (by decide +kernel)
theorem gw_2 : Cond.selects RX1 yX1_gapBehind yX1_gapBehind ∈ GW := GW_of 2 (by decide +kernel) (by decide +kernel)
theorem gw_345 : Cond.methodLink RX1 55 yJ9_min_7cf53 ∈ GW := GW_of 345 (by decide +kernel) (by decide +kernel)
theorem gw_347 : Cond.code yJ9_min_7cf53 cJ9_min_7cf53 2 (some .int) ∈ GW := GW_of 347 (by decide +kernel) (by decide +kernel)
theorem gw_60 : Cond.initialized RJ9 ∈ GW := GW_of 60 (by decide +kernel) (by decide +kernel)
theorem gw_346 : Cond.static yJ9_min_7cf53 ∈ GW := GW_of 346 (by decide +kernel) (by decide +kernel)
theorem gw_348 : Cond.methodLink RX1 61 yJ9_max_7cf53 ∈ GW := GW_of 348 (by decide +kernel) (by decide +kernel)
theorem gw_350 : Cond.code yJ9_max_7cf53 cJ9_max_7cf53 2 (some .int) ∈ GW := GW_of 350 (by decide +kernel) (by decide +kernel)
theorem gw_349 : Cond.static yJ9_max_7cf53 ∈ GW := GW_of 349 (by decide +kernel) (by decide +kernel)
def gs_X1_isEven : List Cond := Cond.code yX1_isEven cX1_isEven 5 (some .boolean) :: GW
def wd_X1_isEven (cI cJ cZ : ClassId) (a_this a_this_firsts a_this_firsts_cells a_this_lasts : Nat) (v_this_size : Int32) (v_this_staffStart : Int32) (f_this_firsts_cells : Nat → Int32) : va_W := [(a_this, .inr (1, [.ref a_this_firsts, .ref a_this_lasts, .int v_this_size, .int v_this_staffStart])), (a_this_firsts, .inr (3, [.ref a_this_firsts_cells])), (a_this_firsts_cells, .inl (cI, 32, .inl f_this_firsts_cells))]
abbrev rm_X1_isEven : Room := { frames := 2, cells := 0, slots := 0, locals := 42 }
theorem hd_X1_isEven : yX1_isEven.cls = RX1 ∧ yX1_isEven.cls ≠ "java/lang/invoke/MethodHandle" ∧ yX1_isEven.cls ≠ "java/lang/invoke/VarHandle" ∧ (parseMethodDescriptor yX1_isEven.desc).map (fun d => d.parameters.length) = some 1 := by decide +kernel
set_option maxHeartbeats 4000000 in
set_option maxRecDepth 100000 in
theorem c_X1_isEven (l : Launch) (D : va_G) (cI cJ cZ : ClassId) (a_this a_this_firsts a_this_firsts_cells a_this_lasts : Nat) (v_this_size : Int32) (v_this_staffStart : Int32) (f_this_firsts_cells : Nat → Int32) (K : Nat) (i1 : Int32) (o : Int32) (h : p_X1_isEven K f_this_firsts_cells i1 = some o) : zMi l D (zT cI cJ cZ) yX1_isEven gs_X1_isEven rm_X1_isEven [.ref a_this, .int i1] (wd_X1_isEven cI cJ cZ a_this a_this_firsts a_this_firsts_cells a_this_lasts v_this_size v_this_staffStart f_this_firsts_cells) (wd_X1_isEven cI cJ cZ a_this a_this_firsts a_this_firsts_cells a_this_lasts v_this_size v_this_staffStart f_this_firsts_cells) (o) := by
  refine zMet_z (own := RX1) (fun u : Int32 => (wd_X1_isEven cI cJ cZ a_this a_this_firsts a_this_firsts_cells a_this_lasts v_this_size v_this_staffStart f_this_firsts_cells)) (fun u : Int32 => u) (by decide) rfl rfl (Nat.le_of_ble_eq_true rfl) ?_
  intro p e s m args below meth c A Q S hK hA hw ret ls hl
  replace hl : lv_has ls 5 [(0, .ref a_this), (1, .int i1)] := hl
  refine lv_bipush (v := 32) S.1 S.2.1 dX1_isEven_0 (by decide) ?_
  refine lv_istore_n (lv' := [(2, .int 32), (0, .ref a_this), (1, .int i1)]) S.1 S.2.1 dX1_isEven_2 rfl hl (by decide) rfl (fun ls hl => ?_)
  refine lv_iconst (v := 0) S.1 S.2.1 dX1_isEven_3 (by decide) ?_
  refine lv_istore_n (lv' := [(3, .int 0), (2, .int 32), (0, .ref a_this), (1, .int i1)]) S.1 S.2.1 dX1_isEven_4 rfl hl (by decide) rfl (fun ls hl => ?_)
  refine lv_iload_n S.1 S.2.1 dX1_isEven_5 rfl (lv_at hl 3 rfl) ?_
  refine lv_istore (lv' := [(4, .int i1), (3, .int 0), (2, .int 32), (0, .ref a_this), (1, .int i1)]) S.1 S.2.1 dX1_isEven_6 hl (by decide) rfl (fun ls hl => ?_)
  have J_46 : ∀ (x1 : Int32) (x2 : Int32) (h : p_X1_isEven_j46 x1 x2 = some o) (H : Heap) (locs : List Loc) (ls : Array Slot), zW D A s H locs (wd_X1_isEven cI cJ cZ a_this a_this_firsts a_this_firsts_cells a_this_lasts v_this_size v_this_staffStart f_this_firsts_cells) → lv_has ls 5 [(2, .int x1), (3, .int x2)] → W p l e (headSpec gs_X1_isEven rm_X1_isEven).room s m args below meth c H locs 0 0 Q (F0 m 46 ls []) := by
    intro x1 x2 h H locs ls hw hl
    refine lv_iload_n S.1 S.2.1 dX1_isEven_46 rfl (lv_at hl 1 rfl) ?_
    refine lv_iload_n S.1 S.2.1 dX1_isEven_47 rfl (lv_at hl 0 rfl) ?_
    refine lv_isub S.1 S.2.1 dX1_isEven_48 ?_
    refine lv_iconst (v := 1) S.1 S.2.1 dX1_isEven_49 (by decide) ?_
    refine z_icmp_gt S (tgt := 57) h dX1_isEven_50 (by decide) (fun h => ?_) (fun h => ?_)
    · refine lv_iconst (v := 0) S.1 S.2.1 dX1_isEven_57 (by decide) ?_
      exact ret 0 h (z_nb (Or.inl rfl)) 58 ls _ _ dX1_isEven_58 hw
    · refine lv_iconst (v := 1) S.1 S.2.1 dX1_isEven_53 (by decide) ?_
      refine lv_goto (tgt := 58) S.1 S.2.1 dX1_isEven_54 (by decide) ?_
      exact ret 1 h (z_nb (Or.inr rfl)) 58 ls _ _ dX1_isEven_58 hw
  have L_8 : ∀ (n8_5 : Nat) (x3 : Int32) (x4 : Int32) (x5 : Int32) (h : z_lp3 (p_X1_isEven_l8 i1 f_this_firsts_cells p_X1_isEven_j46) n8_5 x3 x4 x5 = some o) (H : Heap) (locs : List Loc) (ls : Array Slot), zW D A s H locs (wd_X1_isEven cI cJ cZ a_this a_this_firsts a_this_firsts_cells a_this_lasts v_this_size v_this_staffStart f_this_firsts_cells) → lv_has ls 5 [(0, .ref a_this), (1, .int i1), (2, .int x3), (3, .int x4), (4, .int x5)] → W p l e (headSpec gs_X1_isEven rm_X1_isEven).room s m args below meth c H locs 0 0 Q (F0 m 8 ls []) := by
    intro n8_5
    induction n8_5 with
    | zero => intro x3 x4 x5 h; exact z_no h
    | succ n8_5 ih_8 =>
      intro x3 x4 x5 h H locs ls hw hl
      replace h : (p_X1_isEven_l8 i1 f_this_firsts_cells p_X1_isEven_j46) (z_lp3 (p_X1_isEven_l8 i1 f_this_firsts_cells p_X1_isEven_j46) n8_5) x3 x4 x5 = some o := h
      refine lv_iload S.1 S.2.1 dX1_isEven_8 (lv_at hl 4 rfl) ?_
      refine lv_iload_n S.1 S.2.1 dX1_isEven_10 rfl (lv_at hl 1 rfl) ?_
      refine lv_iconst (v := 5) S.1 S.2.1 dX1_isEven_11 (by decide) ?_
      refine lv_iadd S.1 S.2.1 dX1_isEven_12 ?_
      refine lv_iconst (v := 1) S.1 S.2.1 dX1_isEven_13 (by decide) ?_
      refine lv_isub S.1 S.2.1 dX1_isEven_14 ?_
      refine z_icmp_ge S (tgt := 46) h dX1_isEven_15 (by decide) (fun h => ?_) (fun h => ?_)
      · exact J_46 x3 x4 h _ _ ls hw (lv_sub hl [2, 3] rfl)
      · refine lv_iload_n S.1 S.2.1 dX1_isEven_18 rfl (lv_at hl 2 rfl) ?_
        refine lv_aload_n S.1 S.2.1 dX1_isEven_19 rfl (lv_at hl 0 rfl) ?_
        refine lv_iload S.1 S.2.1 dX1_isEven_20 (lv_at hl 4 rfl) ?_
        obtain ⟨y6, hc, h⟩ := z_b1_e h
        refine z_callVi (As := [.int x5]) (rest := [.int x3]) S (c_X1_gapBehind l D cI cJ cZ a_this a_this_firsts a_this_firsts_cells a_this_lasts v_this_size v_this_staffStart f_this_firsts_cells x5 _ hc) (cwV 1 S.2.2.2.2 (gw_V gw_337 gw_339 gw_2 gw_52 gw_340) rfl rfl rfl hd_X1_gapBehind ⟨Nat.le_of_ble_eq_true rfl, Nat.le_of_ble_eq_true rfl⟩) hK hA hw [0, 1, 2] (by decide) rfl rfl [some 0, some 1, some 2] rfl (by decide) 0 rfl rfl hl.1 rfl rfl (lv_room (Nat.le_of_ble_eq_true rfl)) ⟨Nat.zero_le _, Nat.zero_le _⟩ dX1_isEven_22 (fun H locs hw => ?_)
        replace hw : zW D A s H locs (wd_X1_isEven cI cJ cZ a_this a_this_firsts a_this_firsts_cells a_this_lasts v_this_size v_this_staffStart f_this_firsts_cells) := hw
        obtain ⟨y7, hc, h⟩ := z_b1_e h
        refine z_callSi (As := [.int x3, .int y6]) (rest := []) S (c_J9_min_7cf53 l D cI cJ cZ x3 y6 _ hc) (va_cwS 2 S.2.2.2.2 (gw_S gw_345 gw_346 gw_60 gw_347) rfl rfl rfl hd_J9_min_7cf53 ⟨Nat.le_of_ble_eq_true rfl, Nat.le_of_ble_eq_true rfl⟩) hK hA hw [] (by decide) rfl rfl [none, none, none] rfl (by decide) hl.1 rfl rfl (lv_room (Nat.le_of_ble_eq_true rfl)) ⟨Nat.zero_le _, Nat.zero_le _⟩ dX1_isEven_25 (fun H locs hw => ?_)
        replace hw : zW D A s H locs (wd_X1_isEven cI cJ cZ a_this a_this_firsts a_this_firsts_cells a_this_lasts v_this_size v_this_staffStart f_this_firsts_cells) := hw
        refine lv_istore_n (lv' := [(2, .int y7), (0, .ref a_this), (1, .int i1), (3, .int x4), (4, .int x5)]) S.1 S.2.1 dX1_isEven_28 rfl hl (by decide) rfl (fun ls hl => ?_)
        refine lv_iload_n S.1 S.2.1 dX1_isEven_29 rfl (lv_at hl 3 rfl) ?_
        refine lv_aload_n S.1 S.2.1 dX1_isEven_30 rfl (lv_at hl 1 rfl) ?_
        refine lv_iload S.1 S.2.1 dX1_isEven_31 (lv_at hl 4 rfl) ?_
        obtain ⟨y8, hc, h⟩ := z_b1_e h
        refine z_callVi (As := [.int x5]) (rest := [.int x4]) S (c_X1_gapBehind l D cI cJ cZ a_this a_this_firsts a_this_firsts_cells a_this_lasts v_this_size v_this_staffStart f_this_firsts_cells x5 _ hc) (cwV 1 S.2.2.2.2 (gw_V gw_337 gw_339 gw_2 gw_52 gw_340) rfl rfl rfl hd_X1_gapBehind ⟨Nat.le_of_ble_eq_true rfl, Nat.le_of_ble_eq_true rfl⟩) hK hA hw [0, 1, 2] (by decide) rfl rfl [some 0, some 1, some 2] rfl (by decide) 0 rfl rfl hl.1 rfl rfl (lv_room (Nat.le_of_ble_eq_true rfl)) ⟨Nat.zero_le _, Nat.zero_le _⟩ dX1_isEven_33 (fun H locs hw => ?_)
        replace hw : zW D A s H locs (wd_X1_isEven cI cJ cZ a_this a_this_firsts a_this_firsts_cells a_this_lasts v_this_size v_this_staffStart f_this_firsts_cells) := hw
        obtain ⟨y9, hc, h⟩ := z_b1_e h
        refine z_callSi (As := [.int x4, .int y8]) (rest := []) S (c_J9_max_7cf53 l D cI cJ cZ x4 y8 _ hc) (va_cwS 2 S.2.2.2.2 (gw_S gw_348 gw_349 gw_60 gw_350) rfl rfl rfl hd_J9_max_7cf53 ⟨Nat.le_of_ble_eq_true rfl, Nat.le_of_ble_eq_true rfl⟩) hK hA hw [] (by decide) rfl rfl [none, none, none] rfl (by decide) hl.1 rfl rfl (lv_room (Nat.le_of_ble_eq_true rfl)) ⟨Nat.zero_le _, Nat.zero_le _⟩ dX1_isEven_36 (fun H locs hw => ?_)
        replace hw : zW D A s H locs (wd_X1_isEven cI cJ cZ a_this a_this_firsts a_this_firsts_cells a_this_lasts v_this_size v_this_staffStart f_this_firsts_cells) := hw
        refine lv_istore_n (lv' := [(3, .int y9), (2, .int y7), (0, .ref a_this), (1, .int i1), (4, .int x5)]) S.1 S.2.1 dX1_isEven_39 rfl hl (by decide) rfl (fun ls hl => ?_)
        refine z_iinc S (i := 4) (k := 4) (v := x5 + 1) hl rfl (by decide) rfl (fun v => (4, .int v) :: [(3, .int y9), (2, .int y7), (0, .ref a_this), (1, .int i1)]) (fun _ => rfl) h dX1_isEven_40 (fun y10 ls hl h => ?_)
        replace hl : lv_has ls 5 [(4, .int y10), (3, .int y9), (2, .int y7), (0, .ref a_this), (1, .int i1)] := hl
        refine lv_goto (tgt := 8) S.1 S.2.1 dX1_isEven_43 (by decide) ?_
        exact ih_8 y7 y9 y10 h _ _ ls hw (lv_sub hl [3, 4, 2, 1, 0] rfl)
  exact L_8 K 32 0 i1 h _ _ ls hw (lv_sub hl [3, 4, 2, 1, 0] rfl)
theorem gw_103 : Cond.fieldLink RX1 23 "ScoreReader$Lines" "size" "I" ∈ GW := GW_of 103 (by decide +kernel) (by decide +kernel)
theorem gw_333 : Cond.methodLink RX1 47 yX1_isEven ∈ GW := GW_of 333 (by decide +kernel) (by decide +kernel)
theorem gw_336 : Cond.code yX1_isEven cX1_isEven 5 (some .boolean) ∈ GW := GW_of 336 (by decide +kernel) (by decide +kernel)
theorem gw_335 : Cond.instanceMethod yX1_isEven ∈ GW := GW_of 335 (by decide +kernel) (by decide +kernel)
theorem gw_1 : Cond.selects RX1 yX1_isEven yX1_isEven ∈ GW := GW_of 1 (by decide +kernel) (by decide +kernel)
def gs_X1_firstStaff : List Cond := Cond.code yX1_firstStaff cX1_firstStaff 2 (some .int) :: GW
def wd_X1_firstStaff (cI cJ cZ : ClassId) (a_this a_this_firsts a_this_firsts_cells a_this_lasts : Nat) (v_this_size : Int32) (v_this_staffStart : Int32) (f_this_firsts_cells : Nat → Int32) : va_W := [(a_this, .inr (1, [.ref a_this_firsts, .ref a_this_lasts, .int v_this_size, .int v_this_staffStart])), (a_this_firsts, .inr (3, [.ref a_this_firsts_cells])), (a_this_firsts_cells, .inl (cI, 32, .inl f_this_firsts_cells))]
abbrev rm_X1_firstStaff : Room := { frames := 3, cells := 0, slots := 0, locals := 66 }
theorem hd_X1_firstStaff : yX1_firstStaff.cls = RX1 ∧ yX1_firstStaff.cls ≠ "java/lang/invoke/MethodHandle" ∧ yX1_firstStaff.cls ≠ "java/lang/invoke/VarHandle" ∧ (parseMethodDescriptor yX1_firstStaff.desc).map (fun d => d.parameters.length) = some 0 := by decide +kernel
set_option maxHeartbeats 4000000 in
set_option maxRecDepth 100000 in
theorem c_X1_firstStaff (l : Launch) (D : va_G) (cI cJ cZ : ClassId) (a_this a_this_firsts a_this_firsts_cells a_this_lasts : Nat) (v_this_size : Int32) (v_this_staffStart : Int32) (f_this_firsts_cells : Nat → Int32) (K : Nat) (o : Int32) (h : p_X1_firstStaff K v_this_size f_this_firsts_cells = some o) : zMi l D (zT cI cJ cZ) yX1_firstStaff gs_X1_firstStaff rm_X1_firstStaff [.ref a_this] (wd_X1_firstStaff cI cJ cZ a_this a_this_firsts a_this_firsts_cells a_this_lasts v_this_size v_this_staffStart f_this_firsts_cells) (wd_X1_firstStaff cI cJ cZ a_this a_this_firsts a_this_firsts_cells a_this_lasts v_this_size v_this_staffStart f_this_firsts_cells) (o) := by
  refine zMet_i (own := RX1) (fun u : Int32 => (wd_X1_firstStaff cI cJ cZ a_this a_this_firsts a_this_firsts_cells a_this_lasts v_this_size v_this_staffStart f_this_firsts_cells)) (fun u : Int32 => u) (by decide) rfl rfl (Nat.le_of_ble_eq_true rfl) ?_
  intro p e s m args below meth c A Q S hK hA hw ret ls hl
  replace hl : lv_has ls 2 [(0, .ref a_this)] := hl
  refine lv_iconst (v := 0) S.1 S.2.1 dX1_firstStaff_0 (by decide) ?_
  refine lv_istore_n (lv' := [(1, .int 0), (0, .ref a_this)]) S.1 S.2.1 dX1_firstStaff_1 rfl hl (by decide) rfl (fun ls hl => ?_)
  have L_2 : ∀ (n2_1 : Nat) (x1 : Int32) (h : z_lp1 (p_X1_firstStaff_l2 v_this_size K f_this_firsts_cells) n2_1 x1 = some o) (H : Heap) (locs : List Loc) (ls : Array Slot), zW D A s H locs (wd_X1_firstStaff cI cJ cZ a_this a_this_firsts a_this_firsts_cells a_this_lasts v_this_size v_this_staffStart f_this_firsts_cells) → lv_has ls 2 [(0, .ref a_this), (1, .int x1)] → W p l e (headSpec gs_X1_firstStaff rm_X1_firstStaff).room s m args below meth c H locs 0 0 Q (F0 m 2 ls []) := by
    intro n2_1
    induction n2_1 with
    | zero => intro x1 h; exact z_no h
    | succ n2_1 ih_2 =>
      intro x1 h H locs ls hw hl
      replace h : (p_X1_firstStaff_l2 v_this_size K f_this_firsts_cells) (z_lp1 (p_X1_firstStaff_l2 v_this_size K f_this_firsts_cells) n2_1) x1 = some o := h
      refine lv_iload_n S.1 S.2.1 dX1_firstStaff_2 rfl (lv_at hl 1 rfl) ?_
      refine lv_iconst (v := 5) S.1 S.2.1 dX1_firstStaff_3 (by decide) ?_
      refine lv_iadd S.1 S.2.1 dX1_firstStaff_4 ?_
      refine lv_aload_n S.1 S.2.1 dX1_firstStaff_5 rfl (lv_at hl 0 rfl) ?_
      refine z_get S (C := RX1) (T := TX1) (N := 4) (gi gu_X1) hK hw 0 rfl rfl 2 (Nat.le_of_ble_eq_true rfl) (List.mem_cons_of_mem _ gw_103) rfl dX1_firstStaff_6 ?_
      refine z_icmp_gt S (tgt := 28) h dX1_firstStaff_9 (by decide) (fun h => ?_) (fun h => ?_)
      · refine lv_iconst (v := (-1)) S.1 S.2.1 dX1_firstStaff_28 (by decide) ?_
        exact ret (-1) h 29 ls _ _ dX1_firstStaff_29 hw
      · refine lv_aload_n S.1 S.2.1 dX1_firstStaff_12 rfl (lv_at hl 0 rfl) ?_
        refine lv_iload_n S.1 S.2.1 dX1_firstStaff_13 rfl (lv_at hl 1 rfl) ?_
        obtain ⟨y2, hc, h⟩ := z_b1_e h
        refine z_callVi (As := [.int x1]) (rest := []) S (c_X1_isEven l D cI cJ cZ a_this a_this_firsts a_this_firsts_cells a_this_lasts v_this_size v_this_staffStart f_this_firsts_cells K x1 _ hc) (cwV 1 S.2.2.2.2 (gw_V gw_333 gw_335 gw_1 gw_52 gw_336) rfl rfl rfl hd_X1_isEven ⟨Nat.le_of_ble_eq_true rfl, Nat.le_of_ble_eq_true rfl⟩) hK hA hw [0, 1, 2] (by decide) rfl rfl [some 0, some 1, some 2] rfl (by decide) 0 rfl rfl hl.1 rfl rfl (lv_room (Nat.le_of_ble_eq_true rfl)) ⟨Nat.zero_le _, Nat.zero_le _⟩ dX1_firstStaff_14 (fun H locs hw => ?_)
        replace hw : zW D A s H locs (wd_X1_firstStaff cI cJ cZ a_this a_this_firsts a_this_firsts_cells a_this_lasts v_this_size v_this_staffStart f_this_firsts_cells) := hw
        refine z_if_eq S (tgt := 22) h dX1_firstStaff_17 (by decide) (fun h => ?_) (fun h => ?_)
        · refine z_iinc S (i := 1) (k := 1) (v := x1 + 1) hl rfl (by decide) rfl (fun v => (1, .int v) :: [(0, .ref a_this)]) (fun _ => rfl) h dX1_firstStaff_22 (fun y3 ls hl h => ?_)
          replace hl : lv_has ls 2 [(1, .int y3), (0, .ref a_this)] := hl
          refine lv_goto (tgt := 2) S.1 S.2.1 dX1_firstStaff_25 (by decide) ?_
          exact ih_2 y3 h _ _ ls hw (lv_sub hl [1, 0] rfl)
        · refine lv_iload_n S.1 S.2.1 dX1_firstStaff_20 rfl (lv_at hl 1 rfl) ?_
          exact ret x1 h 21 ls _ _ dX1_firstStaff_21 hw
  exact L_2 K 0 h _ _ ls hw (lv_sub hl [1, 0] rfl)
theorem gw_329 : Cond.methodLink RX1 43 yX1_firstStaff ∈ GW := GW_of 329 (by decide +kernel) (by decide +kernel)
theorem gw_332 : Cond.code yX1_firstStaff cX1_firstStaff 2 (some .int) ∈ GW := GW_of 332 (by decide +kernel) (by decide +kernel)
theorem gw_331 : Cond.instanceMethod yX1_firstStaff ∈ GW := GW_of 331 (by decide +kernel) (by decide +kernel)
theorem gw_0 : Cond.selects RX1 yX1_firstStaff yX1_firstStaff ∈ GW := GW_of 0 (by decide +kernel) (by decide +kernel)
theorem gw_104 : Cond.fieldLink RX1 27 "ScoreReader$Lines" "staffStart" "I" ∈ GW := GW_of 104 (by decide +kernel) (by decide +kernel)
theorem gw_321 : Cond.methodLink RX1 30 yX4_at ∈ GW := GW_of 321 (by decide +kernel) (by decide +kernel)
theorem gw_322 : Cond.methodLink RX1 36 yX1_hasRun ∈ GW := GW_of 322 (by decide +kernel) (by decide +kernel)
theorem gw_324 : Cond.code yX1_hasRun cX1_hasRun 6 (some .boolean) ∈ GW := GW_of 324 (by decide +kernel) (by decide +kernel)
theorem gw_323 : Cond.static yX1_hasRun ∈ GW := GW_of 323 (by decide +kernel) (by decide +kernel)
theorem gw_102 : Cond.fieldLink RX1 20 "ScoreReader$Lines" "lasts" "LScoreReader$Row;" ∈ GW := GW_of 102 (by decide +kernel) (by decide +kernel)
theorem gw_325 : Cond.methodLink RX1 40 yX3_put ∈ GW := GW_of 325 (by decide +kernel) (by decide +kernel)
theorem gw_328 : Cond.code yX3_put cX3_put 3 none ∈ GW := GW_of 328 (by decide +kernel) (by decide +kernel)
theorem gw_326 : Cond.instanceMethod yX3_put ∈ GW := GW_of 326 (by decide +kernel) (by decide +kernel)
theorem gw_327 : Cond.selects RX3 yX3_put yX3_put ∈ GW := GW_of 327 (by decide +kernel) (by decide +kernel)
def gs_X1_look : List Cond := Cond.code yX1_look cX1_look 6 none :: GW
def wd_X1_look (cI cJ cZ : ClassId) (a_this a_this_firsts a_this_firsts_cells a_this_lasts a_this_lasts_cells a_p1 a_p1_rows : Nat) (v_this_size : Int32) (v_this_staffStart : Int32) (f_this_firsts_cells : Nat → Int32) (f_this_lasts_cells : Nat → Int32) (f_p1_rows : Nat → Int64) : va_W := [(a_this, .inr (1, [.ref a_this_firsts, .ref a_this_lasts, .int v_this_size, .int v_this_staffStart])), (a_this_firsts, .inr (3, [.ref a_this_firsts_cells])), (a_this_firsts_cells, .inl (cI, 32, .inl f_this_firsts_cells)), (a_this_lasts, .inr (3, [.ref a_this_lasts_cells])), (a_this_lasts_cells, .inl (cI, 32, .inl f_this_lasts_cells)), (a_p1, .inr (4, [.ref a_p1_rows])), (a_p1_rows, .inl (cJ, 32, .inr (.inl f_p1_rows)))]
abbrev rm_X1_look : Room := { frames := 4, cells := 0, slots := 0, locals := 87 }
theorem hd_X1_look : yX1_look.cls = RX1 ∧ yX1_look.cls ≠ "java/lang/invoke/MethodHandle" ∧ yX1_look.cls ≠ "java/lang/invoke/VarHandle" ∧ (parseMethodDescriptor yX1_look.desc).map (fun d => d.parameters.length) = some 2 := by decide +kernel
set_option maxHeartbeats 4000000 in
set_option maxRecDepth 100000 in
theorem c_X1_look (l : Launch) (D : va_G) (cI cJ cZ : ClassId) (a_this a_this_firsts a_this_firsts_cells a_this_lasts a_this_lasts_cells a_p1 a_p1_rows : Nat) (v_this_size : Int32) (v_this_staffStart : Int32) (f_this_firsts_cells : Nat → Int32) (f_this_lasts_cells : Nat → Int32) (f_p1_rows : Nat → Int64) (K : Nat) (i2 : Int32) (o : Int32 × Int32 × (Nat → Int32) × (Nat → Int32)) (h : p_X1_look K v_this_size v_this_staffStart f_this_firsts_cells f_this_lasts_cells f_p1_rows i2 = some o) : zMv l D (zT cI cJ cZ) yX1_look gs_X1_look rm_X1_look [.ref a_this, .ref a_p1, .int i2] (wd_X1_look cI cJ cZ a_this a_this_firsts a_this_firsts_cells a_this_lasts a_this_lasts_cells a_p1 a_p1_rows v_this_size v_this_staffStart f_this_firsts_cells f_this_lasts_cells f_p1_rows) (wd_X1_look cI cJ cZ a_this a_this_firsts a_this_firsts_cells a_this_lasts a_this_lasts_cells a_p1 a_p1_rows (o.1) (o.2.1) (o.2.2.1) (o.2.2.2) f_p1_rows) := by
  refine zMet_v (own := RX1) (fun u : Int32 × Int32 × (Nat → Int32) × (Nat → Int32) => (wd_X1_look cI cJ cZ a_this a_this_firsts a_this_firsts_cells a_this_lasts a_this_lasts_cells a_p1 a_p1_rows (u.1) (u.2.1) (u.2.2.1) (u.2.2.2) f_p1_rows)) (by decide) rfl rfl (Nat.le_of_ble_eq_true rfl) ?_
  intro p e s m args below meth c A Q S hK hA hw ret ls hl
  replace hl : lv_has ls 6 [(0, .ref a_this), (1, .ref a_p1), (2, .int i2)] := hl
  refine lv_aload_n S.1 S.2.1 dX1_look_0 rfl (lv_at hl 0 rfl) ?_
  refine lv_iconst (v := 0) S.1 S.2.1 dX1_look_1 (by decide) ?_
  refine z_put S (C := RX1) (T := TX1) (N := 4) (gi gu_X1) tyX1 tyX1_ok nmX1 hK hw 0 rfl rfl 2 (Nat.le_of_ble_eq_true rfl) (List.mem_cons_of_mem _ gw_103) rfl rfl rfl (Nat.le_of_ble_eq_true rfl) dX1_look_2 (fun H locs hw => ?_)
  replace hw : zW D A s H locs (wd_X1_look cI cJ cZ a_this a_this_firsts a_this_firsts_cells a_this_lasts a_this_lasts_cells a_p1 a_p1_rows 0 v_this_staffStart f_this_firsts_cells f_this_lasts_cells f_p1_rows) := hw
  refine lv_iconst (v := 0) S.1 S.2.1 dX1_look_5 (by decide) ?_
  refine lv_istore_n (lv' := [(3, .int 0), (0, .ref a_this), (1, .ref a_p1), (2, .int i2)]) S.1 S.2.1 dX1_look_6 rfl hl (by decide) rfl (fun ls hl => ?_)
  refine lv_iconst (v := 0) S.1 S.2.1 dX1_look_7 (by decide) ?_
  refine lv_istore (lv' := [(4, .int 0), (3, .int 0), (0, .ref a_this), (1, .ref a_p1), (2, .int i2)]) S.1 S.2.1 dX1_look_8 hl (by decide) rfl (fun ls hl => ?_)
  have J_90 : ∀ (v1 : Int32) (f2 : Nat → Int32) (f3 : Nat → Int32) (h : (p_X1_look_j90 K) v1 f2 f3 = some o) (H : Heap) (locs : List Loc) (ls : Array Slot), zW D A s H locs (wd_X1_look cI cJ cZ a_this a_this_firsts a_this_firsts_cells a_this_lasts a_this_lasts_cells a_p1 a_p1_rows v1 v_this_staffStart f2 f3 f_p1_rows) → lv_has ls 6 [(0, .ref a_this)] → W p l e (headSpec gs_X1_look rm_X1_look).room s m args below meth c H locs 0 0 Q (F0 m 90 ls []) := by
    intro v1 f2 f3 h H locs ls hw hl
    refine lv_aload_n S.1 S.2.1 dX1_look_90 rfl (lv_at hl 0 rfl) ?_
    refine lv_aload_n S.1 S.2.1 dX1_look_91 rfl (lv_at hl 0 rfl) ?_
    obtain ⟨y4, hc, h⟩ := z_b1_e h
    refine z_callVi (As := []) (rest := [.ref a_this]) S (c_X1_firstStaff l D cI cJ cZ a_this a_this_firsts a_this_firsts_cells a_this_lasts v1 v_this_staffStart f2 K _ hc) (cwV 0 S.2.2.2.2 (gw_V gw_329 gw_331 gw_0 gw_52 gw_332) rfl rfl rfl hd_X1_firstStaff ⟨Nat.le_of_ble_eq_true rfl, Nat.le_of_ble_eq_true rfl⟩) hK hA hw [0, 1, 2] (by decide) rfl rfl [some 0, some 1, some 2, none, none, none, none] rfl (by decide) 0 rfl rfl hl.1 rfl rfl (lv_room (Nat.le_of_ble_eq_true rfl)) ⟨Nat.zero_le _, Nat.zero_le _⟩ dX1_look_92 (fun H locs hw => ?_)
    replace hw : zW D A s H locs (wd_X1_look cI cJ cZ a_this a_this_firsts a_this_firsts_cells a_this_lasts a_this_lasts_cells a_p1 a_p1_rows v1 v_this_staffStart f2 f3 f_p1_rows) := hw
    refine z_put S (C := RX1) (T := TX1) (N := 4) (gi gu_X1) tyX1 tyX1_ok nmX1 hK hw 0 rfl rfl 3 (Nat.le_of_ble_eq_true rfl) (List.mem_cons_of_mem _ gw_104) rfl rfl rfl (Nat.le_of_ble_eq_true rfl) dX1_look_95 (fun H locs hw => ?_)
    replace hw : zW D A s H locs (wd_X1_look cI cJ cZ a_this a_this_firsts a_this_firsts_cells a_this_lasts a_this_lasts_cells a_p1 a_p1_rows v1 y4 f2 f3 f_p1_rows) := hw
    exact ret (v1, y4, f2, f3) h 98 ls _ _ dX1_look_98 hw
  have L_10 : ∀ (n10_9 : Nat) (v5 : Int32) (f6 : Nat → Int32) (f7 : Nat → Int32) (x8 : Int32) (x9 : Int32) (h : z_lp5 (p_X1_look_l10 f_p1_rows K i2 (p_X1_look_j90 K)) n10_9 v5 f6 f7 x8 x9 = some o) (H : Heap) (locs : List Loc) (ls : Array Slot), zW D A s H locs (wd_X1_look cI cJ cZ a_this a_this_firsts a_this_firsts_cells a_this_lasts a_this_lasts_cells a_p1 a_p1_rows v5 v_this_staffStart f6 f7 f_p1_rows) → lv_has ls 6 [(0, .ref a_this), (1, .ref a_p1), (2, .int i2), (3, .int x8), (4, .int x9)] → W p l e (headSpec gs_X1_look rm_X1_look).room s m args below meth c H locs 0 0 Q (F0 m 10 ls []) := by
    intro n10_9
    induction n10_9 with
    | zero => intro v5 f6 f7 x8 x9 h; exact z_no h
    | succ n10_9 ih_10 =>
      intro v5 f6 f7 x8 x9 h H locs ls hw hl
      replace h : (p_X1_look_l10 f_p1_rows K i2 (p_X1_look_j90 K)) (z_lp5 (p_X1_look_l10 f_p1_rows K i2 (p_X1_look_j90 K)) n10_9) v5 f6 f7 x8 x9 = some o := h
      refine lv_iload S.1 S.2.1 dX1_look_10 (lv_at hl 4 rfl) ?_
      refine lv_bipush (v := 32) S.1 S.2.1 dX1_look_12 (by decide) ?_
      refine z_icmp_ge S (tgt := 90) h dX1_look_14 (by decide) (fun h => ?_) (fun h => ?_)
      · exact J_90 v5 f6 f7 h _ _ ls hw (lv_sub hl [0] rfl)
      · refine lv_aload_n S.1 S.2.1 dX1_look_17 rfl (lv_at hl 1 rfl) ?_
        refine lv_iload S.1 S.2.1 dX1_look_18 (lv_at hl 4 rfl) ?_
        obtain ⟨y10, hc, h⟩ := z_b1_e h
        refine z_callVl (As := [.int x9]) (rest := []) S (c_X4_at l D cI cJ cZ a_p1 a_p1_rows f_p1_rows x9 _ hc) (cwV 1 S.2.2.2.2 (gw_V gw_321 gw_295 gw_296 gw_51 gw_297) rfl rfl rfl hd_X4_at ⟨Nat.le_of_ble_eq_true rfl, Nat.le_of_ble_eq_true rfl⟩) hK hA hw [5, 6] (by decide) rfl rfl [none, none, none, none, none, some 0, some 1] rfl (by decide) 5 rfl rfl hl.1 rfl rfl (lv_room (Nat.le_of_ble_eq_true rfl)) ⟨Nat.zero_le _, Nat.zero_le _⟩ dX1_look_20 (fun H locs hw => ?_)
        replace hw : zW D A s H locs (wd_X1_look cI cJ cZ a_this a_this_firsts a_this_firsts_cells a_this_lasts a_this_lasts_cells a_p1 a_p1_rows v5 v_this_staffStart f6 f7 f_p1_rows) := hw
        refine lv_iload_n S.1 S.2.1 dX1_look_23 rfl (lv_at hl 2 rfl) ?_
        obtain ⟨y11, hc, h⟩ := z_b1_e h
        refine z_callSi (As := [.long y10, .int i2]) (rest := []) S (c_X1_hasRun l D cI cJ cZ K y10 i2 _ hc) (va_cwS 2 S.2.2.2.2 (gw_S gw_322 gw_323 gw_52 gw_324) rfl rfl rfl hd_X1_hasRun ⟨Nat.le_of_ble_eq_true rfl, Nat.le_of_ble_eq_true rfl⟩) hK hA hw [] (by decide) rfl rfl [none, none, none, none, none, none, none] rfl (by decide) hl.1 rfl rfl (lv_room (Nat.le_of_ble_eq_true rfl)) ⟨Nat.zero_le _, Nat.zero_le _⟩ dX1_look_24 (fun H locs hw => ?_)
        replace hw : zW D A s H locs (wd_X1_look cI cJ cZ a_this a_this_firsts a_this_firsts_cells a_this_lasts a_this_lasts_cells a_p1 a_p1_rows v5 v_this_staffStart f6 f7 f_p1_rows) := hw
        refine lv_istore (lv' := [(5, .int y11), (0, .ref a_this), (1, .ref a_p1), (2, .int i2), (3, .int x8), (4, .int x9)]) S.1 S.2.1 dX1_look_27 hl (by decide) rfl (fun ls hl => ?_)
        refine lv_iload S.1 S.2.1 dX1_look_29 (lv_at hl 0 rfl) ?_
        have J_61 : ∀ (v12 : Int32) (f13 : Nat → Int32) (h : (p_X1_look_j61 y11 x9 f7 (z_lp5 (p_X1_look_l10 f_p1_rows K i2 (p_X1_look_j90 K)) n10_9)) v12 f13 = some o) (H : Heap) (locs : List Loc) (ls : Array Slot), zW D A s H locs (wd_X1_look cI cJ cZ a_this a_this_firsts a_this_firsts_cells a_this_lasts a_this_lasts_cells a_p1 a_p1_rows v12 v_this_staffStart f13 f7 f_p1_rows) → lv_has ls 6 [(0, .ref a_this), (1, .ref a_p1), (2, .int i2), (4, .int x9), (5, .int y11)] → W p l e (headSpec gs_X1_look rm_X1_look).room s m args below meth c H locs 0 0 Q (F0 m 61 ls []) := by
          intro v12 f13 h H locs ls hw hl
          refine lv_iload S.1 S.2.1 dX1_look_61 (lv_at hl 4 rfl) ?_
          refine z_if_eq S (tgt := 81) h dX1_look_63 (by decide) (fun h => ?_) (fun h => ?_)
          · refine lv_iload S.1 S.2.1 dX1_look_81 (lv_at hl 4 rfl) ?_
            refine lv_istore_n (lv' := [(3, .int y11), (0, .ref a_this), (1, .ref a_p1), (2, .int i2), (4, .int x9), (5, .int y11)]) S.1 S.2.1 dX1_look_83 rfl hl (by decide) rfl (fun ls hl => ?_)
            refine z_iinc S (i := 4) (k := 4) (v := x9 + 1) hl rfl (by decide) rfl (fun v => (4, .int v) :: [(3, .int y11), (0, .ref a_this), (1, .ref a_p1), (2, .int i2), (5, .int y11)]) (fun _ => rfl) h dX1_look_84 (fun y14 ls hl h => ?_)
            replace hl : lv_has ls 6 [(4, .int y14), (3, .int y11), (0, .ref a_this), (1, .ref a_p1), (2, .int i2), (5, .int y11)] := hl
            refine lv_goto (tgt := 10) S.1 S.2.1 dX1_look_87 (by decide) ?_
            exact ih_10 v12 f13 f7 y11 y14 h _ _ ls hw (lv_sub hl [2, 3, 4, 1, 0] rfl)
          · refine lv_aload_n S.1 S.2.1 dX1_look_66 rfl (lv_at hl 0 rfl) ?_
            refine z_get S (C := RX1) (T := TX1) (N := 4) (gi gu_X1) hK hw 0 rfl rfl 1 (Nat.le_of_ble_eq_true rfl) (List.mem_cons_of_mem _ gw_102) rfl dX1_look_67 ?_
            refine lv_aload_n S.1 S.2.1 dX1_look_70 rfl (lv_at hl 0 rfl) ?_
            refine z_get S (C := RX1) (T := TX1) (N := 4) (gi gu_X1) hK hw 0 rfl rfl 2 (Nat.le_of_ble_eq_true rfl) (List.mem_cons_of_mem _ gw_103) rfl dX1_look_71 ?_
            refine lv_iconst (v := 1) S.1 S.2.1 dX1_look_74 (by decide) ?_
            refine lv_isub S.1 S.2.1 dX1_look_75 ?_
            refine lv_iload S.1 S.2.1 dX1_look_76 (lv_at hl 3 rfl) ?_
            obtain ⟨f15, hc, h⟩ := z_b1_e h
            refine z_callVv (As := [.int (v12 - 1), .int x9]) (rest := []) S (c_X3_put l D cI cJ cZ a_this_lasts a_this_lasts_cells 32 f7 (v12 - 1) x9 _ hc) (cwV 2 S.2.2.2.2 (gw_V gw_325 gw_326 gw_327 gw_53 gw_328) rfl rfl rfl hd_X3_put ⟨Nat.le_of_ble_eq_true rfl, Nat.le_of_ble_eq_true rfl⟩) hK hA hw [3, 4] (by decide) rfl rfl [none, none, none, some 0, some 1, none, none] rfl (by decide) 3 rfl rfl hl.1 rfl rfl (lv_room (Nat.le_of_ble_eq_true rfl)) ⟨Nat.zero_le _, Nat.zero_le _⟩ dX1_look_78 (fun H locs hw => ?_)
            replace hw : zW D A s H locs (wd_X1_look cI cJ cZ a_this a_this_firsts a_this_firsts_cells a_this_lasts a_this_lasts_cells a_p1 a_p1_rows v12 v_this_staffStart f13 f15 f_p1_rows) := hw
            refine lv_iload S.1 S.2.1 dX1_look_81 (lv_at hl 4 rfl) ?_
            refine lv_istore_n (lv' := [(3, .int y11), (0, .ref a_this), (1, .ref a_p1), (2, .int i2), (4, .int x9), (5, .int y11)]) S.1 S.2.1 dX1_look_83 rfl hl (by decide) rfl (fun ls hl => ?_)
            refine z_iinc S (i := 4) (k := 4) (v := x9 + 1) hl rfl (by decide) rfl (fun v => (4, .int v) :: [(3, .int y11), (0, .ref a_this), (1, .ref a_p1), (2, .int i2), (5, .int y11)]) (fun _ => rfl) h dX1_look_84 (fun y16 ls hl h => ?_)
            replace hl : lv_has ls 6 [(4, .int y16), (3, .int y11), (0, .ref a_this), (1, .ref a_p1), (2, .int i2), (5, .int y11)] := hl
            refine lv_goto (tgt := 10) S.1 S.2.1 dX1_look_87 (by decide) ?_
            exact ih_10 v12 f13 f15 y11 y16 h _ _ ls hw (lv_sub hl [2, 3, 4, 1, 0] rfl)
        refine z_if_eq S (tgt := 61) h dX1_look_31 (by decide) (fun h => ?_) (fun h => ?_)
        · exact J_61 v5 f6 h _ _ ls hw (lv_sub hl [1, 2, 3, 5, 0] rfl)
        · refine lv_iload_n S.1 S.2.1 dX1_look_34 rfl (lv_at hl 4 rfl) ?_
          refine z_if_ne S (tgt := 61) h dX1_look_35 (by decide) (fun h => ?_) (fun h => ?_)
          · exact J_61 v5 f6 h _ _ ls hw (lv_sub hl [1, 2, 3, 5, 0] rfl)
          · refine lv_aload_n S.1 S.2.1 dX1_look_38 rfl (lv_at hl 1 rfl) ?_
            refine z_get S (C := RX1) (T := TX1) (N := 4) (gi gu_X1) hK hw 0 rfl rfl 0 (Nat.le_of_ble_eq_true rfl) (List.mem_cons_of_mem _ gw_101) rfl dX1_look_39 ?_
            refine lv_aload_n S.1 S.2.1 dX1_look_42 rfl (lv_at hl 1 rfl) ?_
            refine z_get S (C := RX1) (T := TX1) (N := 4) (gi gu_X1) hK hw 0 rfl rfl 2 (Nat.le_of_ble_eq_true rfl) (List.mem_cons_of_mem _ gw_103) rfl dX1_look_43 ?_
            refine lv_iload S.1 S.2.1 dX1_look_46 (lv_at hl 5 rfl) ?_
            obtain ⟨f17, hc, h⟩ := z_b1_e h
            refine z_callVv (As := [.int v5, .int x9]) (rest := []) S (c_X3_put l D cI cJ cZ a_this_firsts a_this_firsts_cells 32 f6 v5 x9 _ hc) (cwV 2 S.2.2.2.2 (gw_V gw_325 gw_326 gw_327 gw_53 gw_328) rfl rfl rfl hd_X3_put ⟨Nat.le_of_ble_eq_true rfl, Nat.le_of_ble_eq_true rfl⟩) hK hA hw [1, 2] (by decide) rfl rfl [none, some 0, some 1, none, none, none, none] rfl (by decide) 1 rfl rfl hl.1 rfl rfl (lv_room (Nat.le_of_ble_eq_true rfl)) ⟨Nat.zero_le _, Nat.zero_le _⟩ dX1_look_48 (fun H locs hw => ?_)
            replace hw : zW D A s H locs (wd_X1_look cI cJ cZ a_this a_this_firsts a_this_firsts_cells a_this_lasts a_this_lasts_cells a_p1 a_p1_rows v5 v_this_staffStart f17 f7 f_p1_rows) := hw
            refine lv_aload_n S.1 S.2.1 dX1_look_51 rfl (lv_at hl 1 rfl) ?_
            refine lv_dup S.1 S.2.1 dX1_look_52 rfl ?_
            refine z_get S (C := RX1) (T := TX1) (N := 4) (gi gu_X1) hK hw 0 rfl rfl 2 (Nat.le_of_ble_eq_true rfl) (List.mem_cons_of_mem _ gw_103) rfl dX1_look_53 ?_
            refine lv_iconst (v := 1) S.1 S.2.1 dX1_look_56 (by decide) ?_
            refine lv_iadd S.1 S.2.1 dX1_look_57 ?_
            refine z_leti h (fun y18 h => ?_)
            refine z_put S (C := RX1) (T := TX1) (N := 4) (gi gu_X1) tyX1 tyX1_ok nmX1 hK hw 0 rfl rfl 2 (Nat.le_of_ble_eq_true rfl) (List.mem_cons_of_mem _ gw_103) rfl rfl rfl (Nat.le_of_ble_eq_true rfl) dX1_look_58 (fun H locs hw => ?_)
            replace hw : zW D A s H locs (wd_X1_look cI cJ cZ a_this a_this_firsts a_this_firsts_cells a_this_lasts a_this_lasts_cells a_p1 a_p1_rows y18 v_this_staffStart f17 f7 f_p1_rows) := hw
            exact J_61 y18 f17 h _ _ ls hw (lv_sub hl [1, 2, 3, 5, 0] rfl)
  exact L_10 K 0 f_this_firsts_cells f_this_lasts_cells 0 0 h _ _ ls hw (lv_sub hl [2, 3, 4, 1, 0] rfl)
def gs_X1_size : List Cond := Cond.code yX1_size cX1_size 1 (some .int) :: GW
def wd_X1_size (cI cJ cZ : ClassId) (a_this a_this_firsts a_this_lasts : Nat) (v_this_size : Int32) (v_this_staffStart : Int32) : va_W := [(a_this, .inr (1, [.ref a_this_firsts, .ref a_this_lasts, .int v_this_size, .int v_this_staffStart]))]
abbrev rm_X1_size : Room := { frames := 0, cells := 0, slots := 0, locals := 0 }
theorem hd_X1_size : yX1_size.cls = RX1 ∧ yX1_size.cls ≠ "java/lang/invoke/MethodHandle" ∧ yX1_size.cls ≠ "java/lang/invoke/VarHandle" ∧ (parseMethodDescriptor yX1_size.desc).map (fun d => d.parameters.length) = some 0 := by decide +kernel
set_option maxHeartbeats 4000000 in
set_option maxRecDepth 100000 in
theorem c_X1_size (l : Launch) (D : va_G) (cI cJ cZ : ClassId) (a_this a_this_firsts a_this_lasts : Nat) (v_this_size : Int32) (v_this_staffStart : Int32) (o : Int32) (h : p_X1_size v_this_size = some o) : zMi l D (zT cI cJ cZ) yX1_size gs_X1_size rm_X1_size [.ref a_this] (wd_X1_size cI cJ cZ a_this a_this_firsts a_this_lasts v_this_size v_this_staffStart) (wd_X1_size cI cJ cZ a_this a_this_firsts a_this_lasts v_this_size v_this_staffStart) (o) := by
  refine zMet_i (own := RX1) (fun u : Int32 => (wd_X1_size cI cJ cZ a_this a_this_firsts a_this_lasts v_this_size v_this_staffStart)) (fun u : Int32 => u) (by decide) rfl rfl (Nat.le_of_ble_eq_true rfl) ?_
  intro p e s m args below meth c A Q S hK hA hw ret ls hl
  replace hl : lv_has ls 1 [(0, .ref a_this)] := hl
  refine lv_aload_n S.1 S.2.1 dX1_size_0 rfl (lv_at hl 0 rfl) ?_
  refine z_get S (C := RX1) (T := TX1) (N := 4) (gi gu_X1) hK hw 0 rfl rfl 2 (Nat.le_of_ble_eq_true rfl) (List.mem_cons_of_mem _ gw_103) rfl dX1_size_1 ?_
  exact ret v_this_size h 4 ls _ _ dX1_size_4 hw
def gs_X1_hasStaff : List Cond := Cond.code yX1_hasStaff cX1_hasStaff 1 (some .boolean) :: GW
def wd_X1_hasStaff (cI cJ cZ : ClassId) (a_this a_this_firsts a_this_lasts : Nat) (v_this_size : Int32) (v_this_staffStart : Int32) : va_W := [(a_this, .inr (1, [.ref a_this_firsts, .ref a_this_lasts, .int v_this_size, .int v_this_staffStart]))]
abbrev rm_X1_hasStaff : Room := { frames := 0, cells := 0, slots := 0, locals := 0 }
theorem hd_X1_hasStaff : yX1_hasStaff.cls = RX1 ∧ yX1_hasStaff.cls ≠ "java/lang/invoke/MethodHandle" ∧ yX1_hasStaff.cls ≠ "java/lang/invoke/VarHandle" ∧ (parseMethodDescriptor yX1_hasStaff.desc).map (fun d => d.parameters.length) = some 0 := by decide +kernel
set_option maxHeartbeats 4000000 in
set_option maxRecDepth 100000 in
theorem c_X1_hasStaff (l : Launch) (D : va_G) (cI cJ cZ : ClassId) (a_this a_this_firsts a_this_lasts : Nat) (v_this_size : Int32) (v_this_staffStart : Int32) (o : Int32) (h : p_X1_hasStaff v_this_staffStart = some o) : zMi l D (zT cI cJ cZ) yX1_hasStaff gs_X1_hasStaff rm_X1_hasStaff [.ref a_this] (wd_X1_hasStaff cI cJ cZ a_this a_this_firsts a_this_lasts v_this_size v_this_staffStart) (wd_X1_hasStaff cI cJ cZ a_this a_this_firsts a_this_lasts v_this_size v_this_staffStart) (o) := by
  refine zMet_z (own := RX1) (fun u : Int32 => (wd_X1_hasStaff cI cJ cZ a_this a_this_firsts a_this_lasts v_this_size v_this_staffStart)) (fun u : Int32 => u) (by decide) rfl rfl (Nat.le_of_ble_eq_true rfl) ?_
  intro p e s m args below meth c A Q S hK hA hw ret ls hl
  replace hl : lv_has ls 1 [(0, .ref a_this)] := hl
  refine lv_aload_n S.1 S.2.1 dX1_hasStaff_0 rfl (lv_at hl 0 rfl) ?_
  refine z_get S (C := RX1) (T := TX1) (N := 4) (gi gu_X1) hK hw 0 rfl rfl 3 (Nat.le_of_ble_eq_true rfl) (List.mem_cons_of_mem _ gw_104) rfl dX1_hasStaff_1 ?_
  refine lv_iconst (v := (-1)) S.1 S.2.1 dX1_hasStaff_4 (by decide) ?_
  refine z_icmp_eq S (tgt := 12) h dX1_hasStaff_5 (by decide) (fun h => ?_) (fun h => ?_)
  · refine lv_iconst (v := 0) S.1 S.2.1 dX1_hasStaff_12 (by decide) ?_
    exact ret 0 h (z_nb (Or.inl rfl)) 13 ls _ _ dX1_hasStaff_13 hw
  · refine lv_iconst (v := 1) S.1 S.2.1 dX1_hasStaff_8 (by decide) ?_
    refine lv_goto (tgt := 13) S.1 S.2.1 dX1_hasStaff_9 (by decide) ?_
    exact ret 1 h (z_nb (Or.inr rfl)) 13 ls _ _ dX1_hasStaff_13 hw
theorem gw_387 : Cond.methodLink RX1 67 yX1_hasStaff ∈ GW := GW_of 387 (by decide +kernel) (by decide +kernel)
theorem gw_362 : Cond.code yX1_hasStaff cX1_hasStaff 1 (some .boolean) ∈ GW := GW_of 362 (by decide +kernel) (by decide +kernel)
theorem gw_360 : Cond.instanceMethod yX1_hasStaff ∈ GW := GW_of 360 (by decide +kernel) (by decide +kernel)
theorem gw_361 : Cond.selects RX1 yX1_hasStaff yX1_hasStaff ∈ GW := GW_of 361 (by decide +kernel) (by decide +kernel)
def gs_X1_gap : List Cond := Cond.code yX1_gap cX1_gap 1 (some .int) :: GW
def wd_X1_gap (cI cJ cZ : ClassId) (a_this a_this_firsts a_this_firsts_cells a_this_lasts : Nat) (v_this_size : Int32) (v_this_staffStart : Int32) (f_this_firsts_cells : Nat → Int32) : va_W := [(a_this, .inr (1, [.ref a_this_firsts, .ref a_this_lasts, .int v_this_size, .int v_this_staffStart])), (a_this_firsts, .inr (3, [.ref a_this_firsts_cells])), (a_this_firsts_cells, .inl (cI, 32, .inl f_this_firsts_cells))]
abbrev rm_X1_gap : Room := { frames := 2, cells := 0, slots := 0, locals := 42 }
theorem hd_X1_gap : yX1_gap.cls = RX1 ∧ yX1_gap.cls ≠ "java/lang/invoke/MethodHandle" ∧ yX1_gap.cls ≠ "java/lang/invoke/VarHandle" ∧ (parseMethodDescriptor yX1_gap.desc).map (fun d => d.parameters.length) = some 0 := by decide +kernel
set_option maxHeartbeats 4000000 in
set_option maxRecDepth 100000 in
theorem c_X1_gap (l : Launch) (D : va_G) (cI cJ cZ : ClassId) (a_this a_this_firsts a_this_firsts_cells a_this_lasts : Nat) (v_this_size : Int32) (v_this_staffStart : Int32) (f_this_firsts_cells : Nat → Int32) (o : Int32) (h : p_X1_gap v_this_staffStart f_this_firsts_cells = some o) : zMi l D (zT cI cJ cZ) yX1_gap gs_X1_gap rm_X1_gap [.ref a_this] (wd_X1_gap cI cJ cZ a_this a_this_firsts a_this_firsts_cells a_this_lasts v_this_size v_this_staffStart f_this_firsts_cells) (wd_X1_gap cI cJ cZ a_this a_this_firsts a_this_firsts_cells a_this_lasts v_this_size v_this_staffStart f_this_firsts_cells) (o) := by
  refine zMet_i (own := RX1) (fun u : Int32 => (wd_X1_gap cI cJ cZ a_this a_this_firsts a_this_firsts_cells a_this_lasts v_this_size v_this_staffStart f_this_firsts_cells)) (fun u : Int32 => u) (by decide) rfl rfl (Nat.le_of_ble_eq_true rfl) ?_
  intro p e s m args below meth c A Q S hK hA hw ret ls hl
  replace hl : lv_has ls 1 [(0, .ref a_this)] := hl
  refine lv_aload_n S.1 S.2.1 dX1_gap_0 rfl (lv_at hl 0 rfl) ?_
  obtain ⟨y1, hc, h⟩ := z_b1_e h
  refine z_callVi (As := []) (rest := []) S (c_X1_hasStaff l D cI cJ cZ a_this a_this_firsts a_this_lasts v_this_size v_this_staffStart _ hc) (cwV 0 S.2.2.2.2 (gw_V gw_387 gw_360 gw_361 gw_52 gw_362) rfl rfl rfl hd_X1_hasStaff ⟨Nat.le_of_ble_eq_true rfl, Nat.le_of_ble_eq_true rfl⟩) hK hA hw [0] (by decide) rfl rfl [some 0, none, none] rfl (by decide) 0 rfl rfl hl.1 rfl rfl (lv_room (Nat.le_of_ble_eq_true rfl)) ⟨Nat.zero_le _, Nat.zero_le _⟩ dX1_gap_1 (fun H locs hw => ?_)
  replace hw : zW D A s H locs (wd_X1_gap cI cJ cZ a_this a_this_firsts a_this_firsts_cells a_this_lasts v_this_size v_this_staffStart f_this_firsts_cells) := hw
  refine z_if_eq S (tgt := 18) h dX1_gap_4 (by decide) (fun h => ?_) (fun h => ?_)
  · refine lv_iconst (v := (-1)) S.1 S.2.1 dX1_gap_18 (by decide) ?_
    exact ret (-1) h 19 ls _ _ dX1_gap_19 hw
  · refine lv_aload_n S.1 S.2.1 dX1_gap_7 rfl (lv_at hl 0 rfl) ?_
    refine lv_aload_n S.1 S.2.1 dX1_gap_8 rfl (lv_at hl 0 rfl) ?_
    refine z_get S (C := RX1) (T := TX1) (N := 4) (gi gu_X1) hK hw 0 rfl rfl 3 (Nat.le_of_ble_eq_true rfl) (List.mem_cons_of_mem _ gw_104) rfl dX1_gap_9 ?_
    obtain ⟨y2, hc, h⟩ := z_b1_e h
    refine z_callVi (As := [.int v_this_staffStart]) (rest := []) S (c_X1_gapBehind l D cI cJ cZ a_this a_this_firsts a_this_firsts_cells a_this_lasts v_this_size v_this_staffStart f_this_firsts_cells v_this_staffStart _ hc) (cwV 1 S.2.2.2.2 (gw_V gw_337 gw_339 gw_2 gw_52 gw_340) rfl rfl rfl hd_X1_gapBehind ⟨Nat.le_of_ble_eq_true rfl, Nat.le_of_ble_eq_true rfl⟩) hK hA hw [0, 1, 2] (by decide) rfl rfl [some 0, some 1, some 2] rfl (by decide) 0 rfl rfl hl.1 rfl rfl (lv_room (Nat.le_of_ble_eq_true rfl)) ⟨Nat.zero_le _, Nat.zero_le _⟩ dX1_gap_12 (fun H locs hw => ?_)
    replace hw : zW D A s H locs (wd_X1_gap cI cJ cZ a_this a_this_firsts a_this_firsts_cells a_this_lasts v_this_size v_this_staffStart f_this_firsts_cells) := hw
    refine lv_goto (tgt := 19) S.1 S.2.1 dX1_gap_15 (by decide) ?_
    exact ret y2 h 19 ls _ _ dX1_gap_19 hw
def gs_X1_firstRow : List Cond := Cond.code yX1_firstRow cX1_firstRow 2 (some .int) :: GW
def wd_X1_firstRow (cI cJ cZ : ClassId) (a_this a_this_firsts a_this_firsts_cells a_this_lasts : Nat) (v_this_size : Int32) (v_this_staffStart : Int32) (f_this_firsts_cells : Nat → Int32) : va_W := [(a_this, .inr (1, [.ref a_this_firsts, .ref a_this_lasts, .int v_this_size, .int v_this_staffStart])), (a_this_firsts, .inr (3, [.ref a_this_firsts_cells])), (a_this_firsts_cells, .inl (cI, 32, .inl f_this_firsts_cells))]
abbrev rm_X1_firstRow : Room := { frames := 1, cells := 0, slots := 0, locals := 21 }
theorem hd_X1_firstRow : yX1_firstRow.cls = RX1 ∧ yX1_firstRow.cls ≠ "java/lang/invoke/MethodHandle" ∧ yX1_firstRow.cls ≠ "java/lang/invoke/VarHandle" ∧ (parseMethodDescriptor yX1_firstRow.desc).map (fun d => d.parameters.length) = some 1 := by decide +kernel
set_option maxHeartbeats 4000000 in
set_option maxRecDepth 100000 in
theorem c_X1_firstRow (l : Launch) (D : va_G) (cI cJ cZ : ClassId) (a_this a_this_firsts a_this_firsts_cells a_this_lasts : Nat) (v_this_size : Int32) (v_this_staffStart : Int32) (f_this_firsts_cells : Nat → Int32) (i1 : Int32) (o : Int32) (h : p_X1_firstRow v_this_staffStart f_this_firsts_cells i1 = some o) : zMi l D (zT cI cJ cZ) yX1_firstRow gs_X1_firstRow rm_X1_firstRow [.ref a_this, .int i1] (wd_X1_firstRow cI cJ cZ a_this a_this_firsts a_this_firsts_cells a_this_lasts v_this_size v_this_staffStart f_this_firsts_cells) (wd_X1_firstRow cI cJ cZ a_this a_this_firsts a_this_firsts_cells a_this_lasts v_this_size v_this_staffStart f_this_firsts_cells) (o) := by
  refine zMet_i (own := RX1) (fun u : Int32 => (wd_X1_firstRow cI cJ cZ a_this a_this_firsts a_this_firsts_cells a_this_lasts v_this_size v_this_staffStart f_this_firsts_cells)) (fun u : Int32 => u) (by decide) rfl rfl (Nat.le_of_ble_eq_true rfl) ?_
  intro p e s m args below meth c A Q S hK hA hw ret ls hl
  replace hl : lv_has ls 2 [(0, .ref a_this), (1, .int i1)] := hl
  refine lv_aload_n S.1 S.2.1 dX1_firstRow_0 rfl (lv_at hl 0 rfl) ?_
  refine z_get S (C := RX1) (T := TX1) (N := 4) (gi gu_X1) hK hw 0 rfl rfl 0 (Nat.le_of_ble_eq_true rfl) (List.mem_cons_of_mem _ gw_101) rfl dX1_firstRow_1 ?_
  refine lv_aload_n S.1 S.2.1 dX1_firstRow_4 rfl (lv_at hl 0 rfl) ?_
  refine z_get S (C := RX1) (T := TX1) (N := 4) (gi gu_X1) hK hw 0 rfl rfl 3 (Nat.le_of_ble_eq_true rfl) (List.mem_cons_of_mem _ gw_104) rfl dX1_firstRow_5 ?_
  refine lv_iload_n S.1 S.2.1 dX1_firstRow_8 rfl (lv_at hl 1 rfl) ?_
  refine lv_iadd S.1 S.2.1 dX1_firstRow_9 ?_
  obtain ⟨y1, hc, h⟩ := z_b1_e h
  refine z_callVi (As := [.int (v_this_staffStart + i1)]) (rest := []) S (c_X3_get l D cI cJ cZ a_this_firsts a_this_firsts_cells 32 f_this_firsts_cells (v_this_staffStart + i1) _ hc) (cwV 1 S.2.2.2.2 (gw_V gw_341 gw_342 gw_343 gw_53 gw_344) rfl rfl rfl hd_X3_get ⟨Nat.le_of_ble_eq_true rfl, Nat.le_of_ble_eq_true rfl⟩) hK hA hw [1, 2] (by decide) rfl rfl [none, some 0, some 1] rfl (by decide) 1 rfl rfl hl.1 rfl rfl (lv_room (Nat.le_of_ble_eq_true rfl)) ⟨Nat.zero_le _, Nat.zero_le _⟩ dX1_firstRow_10 (fun H locs hw => ?_)
  replace hw : zW D A s H locs (wd_X1_firstRow cI cJ cZ a_this a_this_firsts a_this_firsts_cells a_this_lasts v_this_size v_this_staffStart f_this_firsts_cells) := hw
  exact ret y1 h 13 ls _ _ dX1_firstRow_13 hw
def gs_X1_lastRow : List Cond := Cond.code yX1_lastRow cX1_lastRow 2 (some .int) :: GW
def wd_X1_lastRow (cI cJ cZ : ClassId) (a_this a_this_firsts a_this_lasts a_this_lasts_cells : Nat) (v_this_size : Int32) (v_this_staffStart : Int32) (f_this_lasts_cells : Nat → Int32) : va_W := [(a_this, .inr (1, [.ref a_this_firsts, .ref a_this_lasts, .int v_this_size, .int v_this_staffStart])), (a_this_lasts, .inr (3, [.ref a_this_lasts_cells])), (a_this_lasts_cells, .inl (cI, 32, .inl f_this_lasts_cells))]
abbrev rm_X1_lastRow : Room := { frames := 1, cells := 0, slots := 0, locals := 21 }
theorem hd_X1_lastRow : yX1_lastRow.cls = RX1 ∧ yX1_lastRow.cls ≠ "java/lang/invoke/MethodHandle" ∧ yX1_lastRow.cls ≠ "java/lang/invoke/VarHandle" ∧ (parseMethodDescriptor yX1_lastRow.desc).map (fun d => d.parameters.length) = some 1 := by decide +kernel
set_option maxHeartbeats 4000000 in
set_option maxRecDepth 100000 in
theorem c_X1_lastRow (l : Launch) (D : va_G) (cI cJ cZ : ClassId) (a_this a_this_firsts a_this_lasts a_this_lasts_cells : Nat) (v_this_size : Int32) (v_this_staffStart : Int32) (f_this_lasts_cells : Nat → Int32) (i1 : Int32) (o : Int32) (h : p_X1_lastRow v_this_staffStart f_this_lasts_cells i1 = some o) : zMi l D (zT cI cJ cZ) yX1_lastRow gs_X1_lastRow rm_X1_lastRow [.ref a_this, .int i1] (wd_X1_lastRow cI cJ cZ a_this a_this_firsts a_this_lasts a_this_lasts_cells v_this_size v_this_staffStart f_this_lasts_cells) (wd_X1_lastRow cI cJ cZ a_this a_this_firsts a_this_lasts a_this_lasts_cells v_this_size v_this_staffStart f_this_lasts_cells) (o) := by
  refine zMet_i (own := RX1) (fun u : Int32 => (wd_X1_lastRow cI cJ cZ a_this a_this_firsts a_this_lasts a_this_lasts_cells v_this_size v_this_staffStart f_this_lasts_cells)) (fun u : Int32 => u) (by decide) rfl rfl (Nat.le_of_ble_eq_true rfl) ?_
  intro p e s m args below meth c A Q S hK hA hw ret ls hl
  replace hl : lv_has ls 2 [(0, .ref a_this), (1, .int i1)] := hl
  refine lv_aload_n S.1 S.2.1 dX1_lastRow_0 rfl (lv_at hl 0 rfl) ?_
  refine z_get S (C := RX1) (T := TX1) (N := 4) (gi gu_X1) hK hw 0 rfl rfl 1 (Nat.le_of_ble_eq_true rfl) (List.mem_cons_of_mem _ gw_102) rfl dX1_lastRow_1 ?_
  refine lv_aload_n S.1 S.2.1 dX1_lastRow_4 rfl (lv_at hl 0 rfl) ?_
  refine z_get S (C := RX1) (T := TX1) (N := 4) (gi gu_X1) hK hw 0 rfl rfl 3 (Nat.le_of_ble_eq_true rfl) (List.mem_cons_of_mem _ gw_104) rfl dX1_lastRow_5 ?_
  refine lv_iload_n S.1 S.2.1 dX1_lastRow_8 rfl (lv_at hl 1 rfl) ?_
  refine lv_iadd S.1 S.2.1 dX1_lastRow_9 ?_
  obtain ⟨y1, hc, h⟩ := z_b1_e h
  refine z_callVi (As := [.int (v_this_staffStart + i1)]) (rest := []) S (c_X3_get l D cI cJ cZ a_this_lasts a_this_lasts_cells 32 f_this_lasts_cells (v_this_staffStart + i1) _ hc) (cwV 1 S.2.2.2.2 (gw_V gw_341 gw_342 gw_343 gw_53 gw_344) rfl rfl rfl hd_X3_get ⟨Nat.le_of_ble_eq_true rfl, Nat.le_of_ble_eq_true rfl⟩) hK hA hw [1, 2] (by decide) rfl rfl [none, some 0, some 1] rfl (by decide) 1 rfl rfl hl.1 rfl rfl (lv_room (Nat.le_of_ble_eq_true rfl)) ⟨Nat.zero_le _, Nat.zero_le _⟩ dX1_lastRow_10 (fun H locs hw => ?_)
  replace hw : zW D A s H locs (wd_X1_lastRow cI cJ cZ a_this a_this_firsts a_this_lasts a_this_lasts_cells v_this_size v_this_staffStart f_this_lasts_cells) := hw
  exact ret y1 h 13 ls _ _ dX1_lastRow_13 hw
theorem gw_441 : Cond.methodLink RX1 71 yX1_gap ∈ GW := GW_of 441 (by decide +kernel) (by decide +kernel)
theorem gw_444 : Cond.code yX1_gap cX1_gap 1 (some .int) ∈ GW := GW_of 444 (by decide +kernel) (by decide +kernel)
theorem gw_442 : Cond.instanceMethod yX1_gap ∈ GW := GW_of 442 (by decide +kernel) (by decide +kernel)
theorem gw_443 : Cond.selects RX1 yX1_gap yX1_gap ∈ GW := GW_of 443 (by decide +kernel) (by decide +kernel)
theorem gw_389 : Cond.methodLink RX1 74 yX1_lastRow ∈ GW := GW_of 389 (by decide +kernel) (by decide +kernel)
theorem gw_370 : Cond.code yX1_lastRow cX1_lastRow 2 (some .int) ∈ GW := GW_of 370 (by decide +kernel) (by decide +kernel)
theorem gw_368 : Cond.instanceMethod yX1_lastRow ∈ GW := GW_of 368 (by decide +kernel) (by decide +kernel)
theorem gw_369 : Cond.selects RX1 yX1_lastRow yX1_lastRow ∈ GW := GW_of 369 (by decide +kernel) (by decide +kernel)
theorem gw_445 : Cond.methodLink RX1 77 yJ9_floorDiv_7cf53 ∈ GW := GW_of 445 (by decide +kernel) (by decide +kernel)
theorem gw_447 : Cond.code yJ9_floorDiv_7cf53 cJ9_floorDiv_7cf53 3 (some .int) ∈ GW := GW_of 447 (by decide +kernel) (by decide +kernel)
theorem gw_446 : Cond.static yJ9_floorDiv_7cf53 ∈ GW := GW_of 446 (by decide +kernel) (by decide +kernel)
def gs_X1_stepAt : List Cond := Cond.code yX1_stepAt cX1_stepAt 3 (some .int) :: GW
def wd_X1_stepAt (cI cJ cZ : ClassId) (a_this a_this_firsts a_this_firsts_cells a_this_lasts a_this_lasts_cells : Nat) (v_this_size : Int32) (v_this_staffStart : Int32) (f_this_firsts_cells : Nat → Int32) (f_this_lasts_cells : Nat → Int32) : va_W := [(a_this, .inr (1, [.ref a_this_firsts, .ref a_this_lasts, .int v_this_size, .int v_this_staffStart])), (a_this_firsts, .inr (3, [.ref a_this_firsts_cells])), (a_this_firsts_cells, .inl (cI, 32, .inl f_this_firsts_cells)), (a_this_lasts, .inr (3, [.ref a_this_lasts_cells])), (a_this_lasts_cells, .inl (cI, 32, .inl f_this_lasts_cells))]
abbrev rm_X1_stepAt : Room := { frames := 3, cells := 0, slots := 0, locals := 62 }
theorem hd_X1_stepAt : yX1_stepAt.cls = RX1 ∧ yX1_stepAt.cls ≠ "java/lang/invoke/MethodHandle" ∧ yX1_stepAt.cls ≠ "java/lang/invoke/VarHandle" ∧ (parseMethodDescriptor yX1_stepAt.desc).map (fun d => d.parameters.length) = some 1 := by decide +kernel
set_option maxHeartbeats 4000000 in
set_option maxRecDepth 100000 in
theorem c_X1_stepAt (l : Launch) (D : va_G) (cI cJ cZ : ClassId) (a_this a_this_firsts a_this_firsts_cells a_this_lasts a_this_lasts_cells : Nat) (v_this_size : Int32) (v_this_staffStart : Int32) (f_this_firsts_cells : Nat → Int32) (f_this_lasts_cells : Nat → Int32) (i1 : Int32) (o : Int32) (h : p_X1_stepAt v_this_staffStart f_this_firsts_cells f_this_lasts_cells i1 = some o) : zMi l D (zT cI cJ cZ) yX1_stepAt gs_X1_stepAt rm_X1_stepAt [.ref a_this, .int i1] (wd_X1_stepAt cI cJ cZ a_this a_this_firsts a_this_firsts_cells a_this_lasts a_this_lasts_cells v_this_size v_this_staffStart f_this_firsts_cells f_this_lasts_cells) (wd_X1_stepAt cI cJ cZ a_this a_this_firsts a_this_firsts_cells a_this_lasts a_this_lasts_cells v_this_size v_this_staffStart f_this_firsts_cells f_this_lasts_cells) (o) := by
  refine zMet_i (own := RX1) (fun u : Int32 => (wd_X1_stepAt cI cJ cZ a_this a_this_firsts a_this_firsts_cells a_this_lasts a_this_lasts_cells v_this_size v_this_staffStart f_this_firsts_cells f_this_lasts_cells)) (fun u : Int32 => u) (by decide) rfl rfl (Nat.le_of_ble_eq_true rfl) ?_
  intro p e s m args below meth c A Q S hK hA hw ret ls hl
  replace hl : lv_has ls 3 [(0, .ref a_this), (1, .int i1)] := hl
  refine lv_aload_n S.1 S.2.1 dX1_stepAt_0 rfl (lv_at hl 0 rfl) ?_
  obtain ⟨y1, hc, h⟩ := z_b1_e h
  refine z_callVi (As := []) (rest := []) S (c_X1_gap l D cI cJ cZ a_this a_this_firsts a_this_firsts_cells a_this_lasts v_this_size v_this_staffStart f_this_firsts_cells _ hc) (cwV 0 S.2.2.2.2 (gw_V gw_441 gw_442 gw_443 gw_52 gw_444) rfl rfl rfl hd_X1_gap ⟨Nat.le_of_ble_eq_true rfl, Nat.le_of_ble_eq_true rfl⟩) hK hA hw [0, 1, 2] (by decide) rfl rfl [some 0, some 1, some 2, none, none] rfl (by decide) 0 rfl rfl hl.1 rfl rfl (lv_room (Nat.le_of_ble_eq_true rfl)) ⟨Nat.zero_le _, Nat.zero_le _⟩ dX1_stepAt_1 (fun H locs hw => ?_)
  replace hw : zW D A s H locs (wd_X1_stepAt cI cJ cZ a_this a_this_firsts a_this_firsts_cells a_this_lasts a_this_lasts_cells v_this_size v_this_staffStart f_this_firsts_cells f_this_lasts_cells) := hw
  refine lv_istore_n (lv' := [(2, .int y1), (0, .ref a_this), (1, .int i1)]) S.1 S.2.1 dX1_stepAt_4 rfl hl (by decide) rfl (fun ls hl => ?_)
  refine lv_iload_n S.1 S.2.1 dX1_stepAt_5 rfl (lv_at hl 0 rfl) ?_
  refine lv_iconst (v := 1) S.1 S.2.1 dX1_stepAt_6 (by decide) ?_
  refine z_icmp_ge S (tgt := 14) h dX1_stepAt_7 (by decide) (fun h => ?_) (fun h => ?_)
  · refine lv_iconst (v := 2) S.1 S.2.1 dX1_stepAt_14 (by decide) ?_
    refine lv_aload_n S.1 S.2.1 dX1_stepAt_15 rfl (lv_at hl 1 rfl) ?_
    refine lv_iconst (v := 4) S.1 S.2.1 dX1_stepAt_16 (by decide) ?_
    obtain ⟨y2, hc, h⟩ := z_b1_e h
    refine z_callVi (As := [.int 4]) (rest := [.int 2]) S (c_X1_lastRow l D cI cJ cZ a_this a_this_firsts a_this_lasts a_this_lasts_cells v_this_size v_this_staffStart f_this_lasts_cells 4 _ hc) (cwV 1 S.2.2.2.2 (gw_V gw_389 gw_368 gw_369 gw_52 gw_370) rfl rfl rfl hd_X1_lastRow ⟨Nat.le_of_ble_eq_true rfl, Nat.le_of_ble_eq_true rfl⟩) hK hA hw [0, 3, 4] (by decide) rfl rfl [some 0, none, none, some 1, some 2] rfl (by decide) 0 rfl rfl hl.1 rfl rfl (lv_room (Nat.le_of_ble_eq_true rfl)) ⟨Nat.zero_le _, Nat.zero_le _⟩ dX1_stepAt_17 (fun H locs hw => ?_)
    replace hw : zW D A s H locs (wd_X1_stepAt cI cJ cZ a_this a_this_firsts a_this_firsts_cells a_this_lasts a_this_lasts_cells v_this_size v_this_staffStart f_this_firsts_cells f_this_lasts_cells) := hw
    refine lv_iload_n S.1 S.2.1 dX1_stepAt_20 rfl (lv_at hl 2 rfl) ?_
    refine lv_isub S.1 S.2.1 dX1_stepAt_21 ?_
    refine lv_imul S.1 S.2.1 dX1_stepAt_22 ?_
    refine lv_iload_n S.1 S.2.1 dX1_stepAt_23 rfl (lv_at hl 0 rfl) ?_
    obtain ⟨y3, hc, h⟩ := z_b1_e h
    refine z_callSi (As := [.int (2 * (y2 - i1)), .int y1]) (rest := []) S (c_J9_floorDiv_7cf53 l D cI cJ cZ (2 * (y2 - i1)) y1 _ hc) (va_cwS 2 S.2.2.2.2 (gw_S gw_445 gw_446 gw_60 gw_447) rfl rfl rfl hd_J9_floorDiv_7cf53 ⟨Nat.le_of_ble_eq_true rfl, Nat.le_of_ble_eq_true rfl⟩) hK hA hw [] (by decide) rfl rfl [none, none, none, none, none] rfl (by decide) hl.1 rfl rfl (lv_room (Nat.le_of_ble_eq_true rfl)) ⟨Nat.zero_le _, Nat.zero_le _⟩ dX1_stepAt_24 (fun H locs hw => ?_)
    replace hw : zW D A s H locs (wd_X1_stepAt cI cJ cZ a_this a_this_firsts a_this_firsts_cells a_this_lasts a_this_lasts_cells v_this_size v_this_staffStart f_this_firsts_cells f_this_lasts_cells) := hw
    exact ret y3 h 27 ls _ _ dX1_stepAt_27 hw
  · refine lv_sipush (v := (-1001)) S.1 S.2.1 dX1_stepAt_10 (by decide) ?_
    exact ret (-1001) h 13 ls _ _ dX1_stepAt_13 hw
theorem gw_388 : Cond.methodLink RX1 80 yX1_firstRow ∈ GW := GW_of 388 (by decide +kernel) (by decide +kernel)
theorem gw_366 : Cond.code yX1_firstRow cX1_firstRow 2 (some .int) ∈ GW := GW_of 366 (by decide +kernel) (by decide +kernel)
theorem gw_364 : Cond.instanceMethod yX1_firstRow ∈ GW := GW_of 364 (by decide +kernel) (by decide +kernel)
theorem gw_365 : Cond.selects RX1 yX1_firstRow yX1_firstRow ∈ GW := GW_of 365 (by decide +kernel) (by decide +kernel)
theorem gw_390 : Cond.methodLink RX1 83 yX4_put ∈ GW := GW_of 390 (by decide +kernel) (by decide +kernel)
def gs_X1_takeOff : List Cond := Cond.code yX1_takeOff cX1_takeOff 6 none :: GW
def wd_X1_takeOff (cI cJ cZ : ClassId) (a_this a_this_firsts a_this_firsts_cells a_this_lasts a_this_lasts_cells a_p1 a_p1_rows : Nat) (v_this_size : Int32) (v_this_staffStart : Int32) (f_this_firsts_cells : Nat → Int32) (f_this_lasts_cells : Nat → Int32) (f_p1_rows : Nat → Int64) : va_W := [(a_this, .inr (1, [.ref a_this_firsts, .ref a_this_lasts, .int v_this_size, .int v_this_staffStart])), (a_this_firsts, .inr (3, [.ref a_this_firsts_cells])), (a_this_firsts_cells, .inl (cI, 32, .inl f_this_firsts_cells)), (a_this_lasts, .inr (3, [.ref a_this_lasts_cells])), (a_this_lasts_cells, .inl (cI, 32, .inl f_this_lasts_cells)), (a_p1, .inr (4, [.ref a_p1_rows])), (a_p1_rows, .inl (cJ, 32, .inr (.inl f_p1_rows)))]
abbrev rm_X1_takeOff : Room := { frames := 2, cells := 0, slots := 0, locals := 42 }
theorem hd_X1_takeOff : yX1_takeOff.cls = RX1 ∧ yX1_takeOff.cls ≠ "java/lang/invoke/MethodHandle" ∧ yX1_takeOff.cls ≠ "java/lang/invoke/VarHandle" ∧ (parseMethodDescriptor yX1_takeOff.desc).map (fun d => d.parameters.length) = some 1 := by decide +kernel
set_option maxHeartbeats 4000000 in
set_option maxRecDepth 100000 in
theorem c_X1_takeOff (l : Launch) (D : va_G) (cI cJ cZ : ClassId) (a_this a_this_firsts a_this_firsts_cells a_this_lasts a_this_lasts_cells a_p1 a_p1_rows : Nat) (v_this_size : Int32) (v_this_staffStart : Int32) (f_this_firsts_cells : Nat → Int32) (f_this_lasts_cells : Nat → Int32) (f_p1_rows : Nat → Int64) (K : Nat) (o : (Nat → Int64)) (h : p_X1_takeOff K v_this_staffStart f_this_firsts_cells f_this_lasts_cells f_p1_rows = some o) : zMv l D (zT cI cJ cZ) yX1_takeOff gs_X1_takeOff rm_X1_takeOff [.ref a_this, .ref a_p1] (wd_X1_takeOff cI cJ cZ a_this a_this_firsts a_this_firsts_cells a_this_lasts a_this_lasts_cells a_p1 a_p1_rows v_this_size v_this_staffStart f_this_firsts_cells f_this_lasts_cells f_p1_rows) (wd_X1_takeOff cI cJ cZ a_this a_this_firsts a_this_firsts_cells a_this_lasts a_this_lasts_cells a_p1 a_p1_rows v_this_size v_this_staffStart f_this_firsts_cells f_this_lasts_cells o) := by
  refine zMet_v (own := RX1) (fun u : (Nat → Int64) => (wd_X1_takeOff cI cJ cZ a_this a_this_firsts a_this_firsts_cells a_this_lasts a_this_lasts_cells a_p1 a_p1_rows v_this_size v_this_staffStart f_this_firsts_cells f_this_lasts_cells u)) (by decide) rfl rfl (Nat.le_of_ble_eq_true rfl) ?_
  intro p e s m args below meth c A Q S hK hA hw ret ls hl
  replace hl : lv_has ls 6 [(0, .ref a_this), (1, .ref a_p1)] := hl
  refine lv_aload_n S.1 S.2.1 dX1_takeOff_0 rfl (lv_at hl 0 rfl) ?_
  obtain ⟨y1, hc, h⟩ := z_b1_e h
  refine z_callVi (As := []) (rest := []) S (c_X1_hasStaff l D cI cJ cZ a_this a_this_firsts a_this_lasts v_this_size v_this_staffStart _ hc) (cwV 0 S.2.2.2.2 (gw_V gw_387 gw_360 gw_361 gw_52 gw_362) rfl rfl rfl hd_X1_hasStaff ⟨Nat.le_of_ble_eq_true rfl, Nat.le_of_ble_eq_true rfl⟩) hK hA hw [0] (by decide) rfl rfl [some 0, none, none, none, none, none, none] rfl (by decide) 0 rfl rfl hl.1 rfl rfl (lv_room (Nat.le_of_ble_eq_true rfl)) ⟨Nat.zero_le _, Nat.zero_le _⟩ dX1_takeOff_1 (fun H locs hw => ?_)
  replace hw : zW D A s H locs (wd_X1_takeOff cI cJ cZ a_this a_this_firsts a_this_firsts_cells a_this_lasts a_this_lasts_cells a_p1 a_p1_rows v_this_size v_this_staffStart f_this_firsts_cells f_this_lasts_cells f_p1_rows) := hw
  refine z_if_ne S (tgt := 8) h dX1_takeOff_4 (by decide) (fun h => ?_) (fun h => ?_)
  · refine lv_iconst (v := 0) S.1 S.2.1 dX1_takeOff_8 (by decide) ?_
    refine lv_istore_n (lv' := [(2, .int 0), (0, .ref a_this), (1, .ref a_p1)]) S.1 S.2.1 dX1_takeOff_9 rfl hl (by decide) rfl (fun ls hl => ?_)
    have L_10 : ∀ (n10_3 : Nat) (f2 : Nat → Int64) (x3 : Int32) (h : z_lp2 (p_X1_takeOff_l10 v_this_staffStart f_this_firsts_cells f_this_lasts_cells K) n10_3 f2 x3 = some o) (H : Heap) (locs : List Loc) (ls : Array Slot), zW D A s H locs (wd_X1_takeOff cI cJ cZ a_this a_this_firsts a_this_firsts_cells a_this_lasts a_this_lasts_cells a_p1 a_p1_rows v_this_size v_this_staffStart f_this_firsts_cells f_this_lasts_cells f2) → lv_has ls 6 [(0, .ref a_this), (1, .ref a_p1), (2, .int x3)] → W p l e (headSpec gs_X1_takeOff rm_X1_takeOff).room s m args below meth c H locs 0 0 Q (F0 m 10 ls []) := by
      intro n10_3
      induction n10_3 with
      | zero => intro f2 x3 h; exact z_no h
      | succ n10_3 ih_10 =>
        intro f2 x3 h H locs ls hw hl
        replace h : (p_X1_takeOff_l10 v_this_staffStart f_this_firsts_cells f_this_lasts_cells K) (z_lp2 (p_X1_takeOff_l10 v_this_staffStart f_this_firsts_cells f_this_lasts_cells K) n10_3) f2 x3 = some o := h
        refine lv_iload_n S.1 S.2.1 dX1_takeOff_10 rfl (lv_at hl 2 rfl) ?_
        refine lv_iconst (v := 5) S.1 S.2.1 dX1_takeOff_11 (by decide) ?_
        refine z_icmp_ge S (tgt := 89) h dX1_takeOff_12 (by decide) (fun h => ?_) (fun h => ?_)
        · exact ret f2 h 89 ls _ _ dX1_takeOff_89 hw
        · refine lv_aload_n S.1 S.2.1 dX1_takeOff_15 rfl (lv_at hl 1 rfl) ?_
          refine lv_aload_n S.1 S.2.1 dX1_takeOff_16 rfl (lv_at hl 0 rfl) ?_
          refine lv_iload_n S.1 S.2.1 dX1_takeOff_17 rfl (lv_at hl 2 rfl) ?_
          obtain ⟨y4, hc, h⟩ := z_b1_e h
          refine z_callVi (As := [.int x3]) (rest := [.ref a_p1]) S (c_X1_firstRow l D cI cJ cZ a_this a_this_firsts a_this_firsts_cells a_this_lasts v_this_size v_this_staffStart f_this_firsts_cells x3 _ hc) (cwV 1 S.2.2.2.2 (gw_V gw_388 gw_364 gw_365 gw_52 gw_366) rfl rfl rfl hd_X1_firstRow ⟨Nat.le_of_ble_eq_true rfl, Nat.le_of_ble_eq_true rfl⟩) hK hA hw [0, 1, 2] (by decide) rfl rfl [some 0, some 1, some 2, none, none, none, none] rfl (by decide) 0 rfl rfl hl.1 rfl rfl (lv_room (Nat.le_of_ble_eq_true rfl)) ⟨Nat.zero_le _, Nat.zero_le _⟩ dX1_takeOff_18 (fun H locs hw => ?_)
          replace hw : zW D A s H locs (wd_X1_takeOff cI cJ cZ a_this a_this_firsts a_this_firsts_cells a_this_lasts a_this_lasts_cells a_p1 a_p1_rows v_this_size v_this_staffStart f_this_firsts_cells f_this_lasts_cells f2) := hw
          refine lv_iconst (v := 1) S.1 S.2.1 dX1_takeOff_21 (by decide) ?_
          refine lv_isub S.1 S.2.1 dX1_takeOff_22 ?_
          obtain ⟨y5, hc, h⟩ := z_b1_e h
          refine z_callVl (As := [.int (y4 - 1)]) (rest := []) S (c_X4_at l D cI cJ cZ a_p1 a_p1_rows f2 (y4 - 1) _ hc) (cwV 1 S.2.2.2.2 (gw_V gw_321 gw_295 gw_296 gw_51 gw_297) rfl rfl rfl hd_X4_at ⟨Nat.le_of_ble_eq_true rfl, Nat.le_of_ble_eq_true rfl⟩) hK hA hw [5, 6] (by decide) rfl rfl [none, none, none, none, none, some 0, some 1] rfl (by decide) 5 rfl rfl hl.1 rfl rfl (lv_room (Nat.le_of_ble_eq_true rfl)) ⟨Nat.zero_le _, Nat.zero_le _⟩ dX1_takeOff_23 (fun H locs hw => ?_)
          replace hw : zW D A s H locs (wd_X1_takeOff cI cJ cZ a_this a_this_firsts a_this_firsts_cells a_this_lasts a_this_lasts_cells a_p1 a_p1_rows v_this_size v_this_staffStart f_this_firsts_cells f_this_lasts_cells f2) := hw
          refine lv_aload_n S.1 S.2.1 dX1_takeOff_26 rfl (lv_at hl 1 rfl) ?_
          refine lv_aload_n S.1 S.2.1 dX1_takeOff_27 rfl (lv_at hl 0 rfl) ?_
          refine lv_iload_n S.1 S.2.1 dX1_takeOff_28 rfl (lv_at hl 2 rfl) ?_
          obtain ⟨y6, hc, h⟩ := z_b1_e h
          refine z_callVi (As := [.int x3]) (rest := [.ref a_p1, .long y5]) S (c_X1_lastRow l D cI cJ cZ a_this a_this_firsts a_this_lasts a_this_lasts_cells v_this_size v_this_staffStart f_this_lasts_cells x3 _ hc) (cwV 1 S.2.2.2.2 (gw_V gw_389 gw_368 gw_369 gw_52 gw_370) rfl rfl rfl hd_X1_lastRow ⟨Nat.le_of_ble_eq_true rfl, Nat.le_of_ble_eq_true rfl⟩) hK hA hw [0, 3, 4] (by decide) rfl rfl [some 0, none, none, some 1, some 2, none, none] rfl (by decide) 0 rfl rfl hl.1 rfl rfl (lv_room (Nat.le_of_ble_eq_true rfl)) ⟨Nat.zero_le _, Nat.zero_le _⟩ dX1_takeOff_29 (fun H locs hw => ?_)
          replace hw : zW D A s H locs (wd_X1_takeOff cI cJ cZ a_this a_this_firsts a_this_firsts_cells a_this_lasts a_this_lasts_cells a_p1 a_p1_rows v_this_size v_this_staffStart f_this_firsts_cells f_this_lasts_cells f2) := hw
          refine lv_iconst (v := 1) S.1 S.2.1 dX1_takeOff_32 (by decide) ?_
          refine lv_iadd S.1 S.2.1 dX1_takeOff_33 ?_
          obtain ⟨y7, hc, h⟩ := z_b1_e h
          refine z_callVl (As := [.int (y6 + 1)]) (rest := [.long y5]) S (c_X4_at l D cI cJ cZ a_p1 a_p1_rows f2 (y6 + 1) _ hc) (cwV 1 S.2.2.2.2 (gw_V gw_321 gw_295 gw_296 gw_51 gw_297) rfl rfl rfl hd_X4_at ⟨Nat.le_of_ble_eq_true rfl, Nat.le_of_ble_eq_true rfl⟩) hK hA hw [5, 6] (by decide) rfl rfl [none, none, none, none, none, some 0, some 1] rfl (by decide) 5 rfl rfl hl.1 rfl rfl (lv_room (Nat.le_of_ble_eq_true rfl)) ⟨Nat.zero_le _, Nat.zero_le _⟩ dX1_takeOff_34 (fun H locs hw => ?_)
          replace hw : zW D A s H locs (wd_X1_takeOff cI cJ cZ a_this a_this_firsts a_this_firsts_cells a_this_lasts a_this_lasts_cells a_p1 a_p1_rows v_this_size v_this_staffStart f_this_firsts_cells f_this_lasts_cells f2) := hw
          refine lv_lor S.1 S.2.1 dX1_takeOff_37 ?_
          refine z_letl h (fun y8 h => ?_)
          refine lv_lstore_n (lv' := [(3, .long y8), (0, .ref a_this), (1, .ref a_p1), (2, .int x3)]) S.1 S.2.1 dX1_takeOff_38 rfl hl (by decide) rfl (fun ls hl => ?_)
          refine lv_aload_n S.1 S.2.1 dX1_takeOff_39 rfl (lv_at hl 1 rfl) ?_
          refine lv_iload_n S.1 S.2.1 dX1_takeOff_40 rfl (lv_at hl 3 rfl) ?_
          obtain ⟨y9, hc, h⟩ := z_b1_e h
          refine z_callVi (As := [.int x3]) (rest := []) S (c_X1_firstRow l D cI cJ cZ a_this a_this_firsts a_this_firsts_cells a_this_lasts v_this_size v_this_staffStart f_this_firsts_cells x3 _ hc) (cwV 1 S.2.2.2.2 (gw_V gw_388 gw_364 gw_365 gw_52 gw_366) rfl rfl rfl hd_X1_firstRow ⟨Nat.le_of_ble_eq_true rfl, Nat.le_of_ble_eq_true rfl⟩) hK hA hw [0, 1, 2] (by decide) rfl rfl [some 0, some 1, some 2, none, none, none, none] rfl (by decide) 0 rfl rfl hl.1 rfl rfl (lv_room (Nat.le_of_ble_eq_true rfl)) ⟨Nat.zero_le _, Nat.zero_le _⟩ dX1_takeOff_41 (fun H locs hw => ?_)
          replace hw : zW D A s H locs (wd_X1_takeOff cI cJ cZ a_this a_this_firsts a_this_firsts_cells a_this_lasts a_this_lasts_cells a_p1 a_p1_rows v_this_size v_this_staffStart f_this_firsts_cells f_this_lasts_cells f2) := hw
          refine lv_istore (lv' := [(5, .int y9), (3, .long y8), (0, .ref a_this), (1, .ref a_p1), (2, .int x3)]) S.1 S.2.1 dX1_takeOff_44 hl (by decide) rfl (fun ls hl => ?_)
          have L_46 : ∀ (n46_11 : Nat) (f10 : Nat → Int64) (x11 : Int32) (h : z_lp2 (p_X1_takeOff_l46 v_this_staffStart f_this_lasts_cells x3 y8 (z_lp2 (p_X1_takeOff_l10 v_this_staffStart f_this_firsts_cells f_this_lasts_cells K) n10_3)) n46_11 f10 x11 = some o) (H : Heap) (locs : List Loc) (ls : Array Slot), zW D A s H locs (wd_X1_takeOff cI cJ cZ a_this a_this_firsts a_this_firsts_cells a_this_lasts a_this_lasts_cells a_p1 a_p1_rows v_this_size v_this_staffStart f_this_firsts_cells f_this_lasts_cells f10) → lv_has ls 6 [(0, .ref a_this), (1, .ref a_p1), (2, .int x3), (3, .long y8), (5, .int x11)] → W p l e (headSpec gs_X1_takeOff rm_X1_takeOff).room s m args below meth c H locs 0 0 Q (F0 m 46 ls []) := by
            intro n46_11
            induction n46_11 with
            | zero => intro f10 x11 h; exact z_no h
            | succ n46_11 ih_46 =>
              intro f10 x11 h H locs ls hw hl
              replace h : (p_X1_takeOff_l46 v_this_staffStart f_this_lasts_cells x3 y8 (z_lp2 (p_X1_takeOff_l10 v_this_staffStart f_this_firsts_cells f_this_lasts_cells K) n10_3)) (z_lp2 (p_X1_takeOff_l46 v_this_staffStart f_this_lasts_cells x3 y8 (z_lp2 (p_X1_takeOff_l10 v_this_staffStart f_this_firsts_cells f_this_lasts_cells K) n10_3)) n46_11) f10 x11 = some o := h
              refine lv_iload S.1 S.2.1 dX1_takeOff_46 (lv_at hl 4 rfl) ?_
              refine lv_aload_n S.1 S.2.1 dX1_takeOff_48 rfl (lv_at hl 0 rfl) ?_
              refine lv_iload_n S.1 S.2.1 dX1_takeOff_49 rfl (lv_at hl 2 rfl) ?_
              obtain ⟨y12, hc, h⟩ := z_b1_e h
              refine z_callVi (As := [.int x3]) (rest := [.int x11]) S (c_X1_lastRow l D cI cJ cZ a_this a_this_firsts a_this_lasts a_this_lasts_cells v_this_size v_this_staffStart f_this_lasts_cells x3 _ hc) (cwV 1 S.2.2.2.2 (gw_V gw_389 gw_368 gw_369 gw_52 gw_370) rfl rfl rfl hd_X1_lastRow ⟨Nat.le_of_ble_eq_true rfl, Nat.le_of_ble_eq_true rfl⟩) hK hA hw [0, 3, 4] (by decide) rfl rfl [some 0, none, none, some 1, some 2, none, none] rfl (by decide) 0 rfl rfl hl.1 rfl rfl (lv_room (Nat.le_of_ble_eq_true rfl)) ⟨Nat.zero_le _, Nat.zero_le _⟩ dX1_takeOff_50 (fun H locs hw => ?_)
              replace hw : zW D A s H locs (wd_X1_takeOff cI cJ cZ a_this a_this_firsts a_this_firsts_cells a_this_lasts a_this_lasts_cells a_p1 a_p1_rows v_this_size v_this_staffStart f_this_firsts_cells f_this_lasts_cells f10) := hw
              refine z_icmp_gt S (tgt := 83) h dX1_takeOff_53 (by decide) (fun h => ?_) (fun h => ?_)
              · refine z_iinc S (i := 2) (k := 2) (v := x3 + 1) hl rfl (by decide) rfl (fun v => (2, .int v) :: [(0, .ref a_this), (1, .ref a_p1), (3, .long y8), (5, .int x11)]) (fun _ => rfl) h dX1_takeOff_83 (fun y13 ls hl h => ?_)
                replace hl : lv_has ls 6 [(2, .int y13), (0, .ref a_this), (1, .ref a_p1), (3, .long y8), (5, .int x11)] := hl
                refine lv_goto (tgt := 10) S.1 S.2.1 dX1_takeOff_86 (by decide) ?_
                exact ih_10 f10 y13 h _ _ ls hw (lv_sub hl [1, 2, 0] rfl)
              · refine lv_iload S.1 S.2.1 dX1_takeOff_56 (lv_at hl 4 rfl) ?_
                refine lv_bipush (v := 32) S.1 S.2.1 dX1_takeOff_58 (by decide) ?_
                refine z_icmp_ge S (tgt := 83) h dX1_takeOff_60 (by decide) (fun h => ?_) (fun h => ?_)
                · refine z_iinc S (i := 2) (k := 2) (v := x3 + 1) hl rfl (by decide) rfl (fun v => (2, .int v) :: [(0, .ref a_this), (1, .ref a_p1), (3, .long y8), (5, .int x11)]) (fun _ => rfl) h dX1_takeOff_83 (fun y14 ls hl h => ?_)
                  replace hl : lv_has ls 6 [(2, .int y14), (0, .ref a_this), (1, .ref a_p1), (3, .long y8), (5, .int x11)] := hl
                  refine lv_goto (tgt := 10) S.1 S.2.1 dX1_takeOff_86 (by decide) ?_
                  exact ih_10 f10 y14 h _ _ ls hw (lv_sub hl [1, 2, 0] rfl)
                · refine lv_aload_n S.1 S.2.1 dX1_takeOff_63 rfl (lv_at hl 1 rfl) ?_
                  refine lv_iload S.1 S.2.1 dX1_takeOff_64 (lv_at hl 4 rfl) ?_
                  refine lv_aload_n S.1 S.2.1 dX1_takeOff_66 rfl (lv_at hl 1 rfl) ?_
                  refine lv_iload S.1 S.2.1 dX1_takeOff_67 (lv_at hl 4 rfl) ?_
                  obtain ⟨y15, hc, h⟩ := z_b1_e h
                  refine z_callVl (As := [.int x11]) (rest := [.int x11, .ref a_p1]) S (c_X4_at l D cI cJ cZ a_p1 a_p1_rows f10 x11 _ hc) (cwV 1 S.2.2.2.2 (gw_V gw_321 gw_295 gw_296 gw_51 gw_297) rfl rfl rfl hd_X4_at ⟨Nat.le_of_ble_eq_true rfl, Nat.le_of_ble_eq_true rfl⟩) hK hA hw [5, 6] (by decide) rfl rfl [none, none, none, none, none, some 0, some 1] rfl (by decide) 5 rfl rfl hl.1 rfl rfl (lv_room (Nat.le_of_ble_eq_true rfl)) ⟨Nat.zero_le _, Nat.zero_le _⟩ dX1_takeOff_69 (fun H locs hw => ?_)
                  replace hw : zW D A s H locs (wd_X1_takeOff cI cJ cZ a_this a_this_firsts a_this_firsts_cells a_this_lasts a_this_lasts_cells a_p1 a_p1_rows v_this_size v_this_staffStart f_this_firsts_cells f_this_lasts_cells f10) := hw
                  refine lv_lload_n S.1 S.2.1 dX1_takeOff_72 rfl (lv_at hl 3 rfl) ?_
                  refine lv_land S.1 S.2.1 dX1_takeOff_73 ?_
                  obtain ⟨f16, hc, h⟩ := z_b1_e h
                  refine z_callVv (As := [.int x11, .long (y15 &&& y8)]) (rest := []) S (c_X4_put l D cI cJ cZ a_p1 a_p1_rows f10 x11 (y15 &&& y8) _ hc) (cwV 2 S.2.2.2.2 (gw_V gw_390 gw_277 gw_278 gw_51 gw_279) rfl rfl rfl hd_X4_put ⟨Nat.le_of_ble_eq_true rfl, Nat.le_of_ble_eq_true rfl⟩) hK hA hw [5, 6] (by decide) rfl rfl [none, none, none, none, none, some 0, some 1] rfl (by decide) 5 rfl rfl hl.1 rfl rfl (lv_room (Nat.le_of_ble_eq_true rfl)) ⟨Nat.zero_le _, Nat.zero_le _⟩ dX1_takeOff_74 (fun H locs hw => ?_)
                  replace hw : zW D A s H locs (wd_X1_takeOff cI cJ cZ a_this a_this_firsts a_this_firsts_cells a_this_lasts a_this_lasts_cells a_p1 a_p1_rows v_this_size v_this_staffStart f_this_firsts_cells f_this_lasts_cells f16) := hw
                  refine z_iinc S (i := 5) (k := 4) (v := x11 + 1) hl rfl (by decide) rfl (fun v => (5, .int v) :: [(0, .ref a_this), (1, .ref a_p1), (2, .int x3), (3, .long y8)]) (fun _ => rfl) h dX1_takeOff_77 (fun y17 ls hl h => ?_)
                  replace hl : lv_has ls 6 [(5, .int y17), (0, .ref a_this), (1, .ref a_p1), (2, .int x3), (3, .long y8)] := hl
                  refine lv_goto (tgt := 46) S.1 S.2.1 dX1_takeOff_80 (by decide) ?_
                  exact ih_46 f16 y17 h _ _ ls hw (lv_sub hl [1, 2, 3, 4, 0] rfl)
          exact L_46 K f2 y9 h _ _ ls hw (lv_sub hl [2, 3, 4, 1, 0] rfl)
    exact L_10 K f_p1_rows 0 h _ _ ls hw (lv_sub hl [1, 2, 0] rfl)
  · exact ret f_p1_rows h 7 ls _ _ dX1_takeOff_7 hw
