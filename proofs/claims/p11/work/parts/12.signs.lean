theorem gw_126 : Cond.fieldLink RX5 27 "ScoreReader$Signs" "facts" "LScoreReader$Row;" ∈ GW := GW_of 126 (by decide +kernel) (by decide +kernel)
theorem gw_405 : Cond.methodLink RX5 81 yX3_put ∈ GW := GW_of 405 (by decide +kernel) (by decide +kernel)
def gs_X5_putFact : List Cond := Cond.code yX5_putFact cX5_putFact 4 none :: GW
def wd_X5_putFact (cI cJ cZ : ClassId) (a_this a_this_left a_this_queue a_this_facts a_this_facts_cells a_this_places a_this_told : Nat) (v_this_size : Int32) (v_this_sizeBefore : Int32) (f_this_facts_cells : Nat → Int32) : va_W := [(a_this, .inr (5, [.ref a_this_left, .ref a_this_queue, .ref a_this_facts, .ref a_this_places, .ref a_this_told, .int v_this_size, .int v_this_sizeBefore])), (a_this_facts, .inr (3, [.ref a_this_facts_cells])), (a_this_facts_cells, .inl (cI, 240, .inl f_this_facts_cells))]
abbrev rm_X5_putFact : Room := { frames := 1, cells := 0, slots := 0, locals := 22 }
theorem hd_X5_putFact : yX5_putFact.cls = RX5 ∧ yX5_putFact.cls ≠ "java/lang/invoke/MethodHandle" ∧ yX5_putFact.cls ≠ "java/lang/invoke/VarHandle" ∧ (parseMethodDescriptor yX5_putFact.desc).map (fun d => d.parameters.length) = some 3 := by decide +kernel
set_option maxHeartbeats 4000000 in
set_option maxRecDepth 100000 in
theorem c_X5_putFact (l : Launch) (D : va_G) (cI cJ cZ : ClassId) (a_this a_this_left a_this_queue a_this_facts a_this_facts_cells a_this_places a_this_told : Nat) (v_this_size : Int32) (v_this_sizeBefore : Int32) (f_this_facts_cells : Nat → Int32) (i1 : Int32) (i2 : Int32) (i3 : Int32) (o : (Nat → Int32)) (h : p_X5_putFact f_this_facts_cells i1 i2 i3 = some o) : zMv l D (zT cI cJ cZ) yX5_putFact gs_X5_putFact rm_X5_putFact [.ref a_this, .int i1, .int i2, .int i3] (wd_X5_putFact cI cJ cZ a_this a_this_left a_this_queue a_this_facts a_this_facts_cells a_this_places a_this_told v_this_size v_this_sizeBefore f_this_facts_cells) (wd_X5_putFact cI cJ cZ a_this a_this_left a_this_queue a_this_facts a_this_facts_cells a_this_places a_this_told v_this_size v_this_sizeBefore o) := by
  refine zMet_v (own := RX5) (fun u : (Nat → Int32) => (wd_X5_putFact cI cJ cZ a_this a_this_left a_this_queue a_this_facts a_this_facts_cells a_this_places a_this_told v_this_size v_this_sizeBefore u)) (by decide) rfl rfl (Nat.le_of_ble_eq_true rfl) ?_
  intro p e s m args below meth c A Q S hK hA hw ret ls hl
  replace hl : lv_has ls 4 [(0, .ref a_this), (1, .int i1), (2, .int i2), (3, .int i3)] := hl
  refine lv_aload_n S.1 S.2.1 dX5_putFact_0 rfl (lv_at hl 0 rfl) ?_
  refine z_get S (C := RX5) (T := TX5) (N := 7) (gi gu_X5) hK hw 0 rfl rfl 2 (Nat.le_of_ble_eq_true rfl) (List.mem_cons_of_mem _ gw_126) rfl dX5_putFact_1 ?_
  refine lv_iload_n S.1 S.2.1 dX5_putFact_4 rfl (lv_at hl 1 rfl) ?_
  refine lv_bipush (v := 6) S.1 S.2.1 dX5_putFact_5 (by decide) ?_
  refine lv_imul S.1 S.2.1 dX5_putFact_7 ?_
  refine lv_iload_n S.1 S.2.1 dX5_putFact_8 rfl (lv_at hl 2 rfl) ?_
  refine lv_iadd S.1 S.2.1 dX5_putFact_9 ?_
  refine lv_iload_n S.1 S.2.1 dX5_putFact_10 rfl (lv_at hl 3 rfl) ?_
  obtain ⟨f1, hc, h⟩ := z_b1_e h
  refine z_callVv (As := [.int ((i1 * 6) + i2), .int i3]) (rest := []) S (c_X3_put l D cI cJ cZ a_this_facts a_this_facts_cells 240 f_this_facts_cells ((i1 * 6) + i2) i3 _ hc) (cwV 2 S.2.2.2.2 (gw_V gw_405 gw_326 gw_327 gw_53 gw_328) rfl rfl rfl hd_X3_put ⟨Nat.le_of_ble_eq_true rfl, Nat.le_of_ble_eq_true rfl⟩) hK hA hw [1, 2] (by decide) rfl rfl [none, some 0, some 1] rfl (by decide) 1 rfl rfl hl.1 rfl rfl (lv_room (Nat.le_of_ble_eq_true rfl)) ⟨Nat.zero_le _, Nat.zero_le _⟩ dX5_putFact_11 (fun H locs hw => ?_)
  replace hw : zW D A s H locs (wd_X5_putFact cI cJ cZ a_this a_this_left a_this_queue a_this_facts a_this_facts_cells a_this_places a_this_told v_this_size v_this_sizeBefore f1) := hw
  exact ret f1 h 14 ls _ _ dX5_putFact_14 hw
theorem gw_410 : Cond.methodLink RX5 87 yX3_get ∈ GW := GW_of 410 (by decide +kernel) (by decide +kernel)
def gs_X5_factAt : List Cond := Cond.code yX5_factAt cX5_factAt 3 (some .int) :: GW
def wd_X5_factAt (cI cJ cZ : ClassId) (a_this a_this_left a_this_queue a_this_facts a_this_facts_cells a_this_places a_this_told : Nat) (v_this_size : Int32) (v_this_sizeBefore : Int32) (f_this_facts_cells : Nat → Int32) : va_W := [(a_this, .inr (5, [.ref a_this_left, .ref a_this_queue, .ref a_this_facts, .ref a_this_places, .ref a_this_told, .int v_this_size, .int v_this_sizeBefore])), (a_this_facts, .inr (3, [.ref a_this_facts_cells])), (a_this_facts_cells, .inl (cI, 240, .inl f_this_facts_cells))]
abbrev rm_X5_factAt : Room := { frames := 1, cells := 0, slots := 0, locals := 21 }
theorem hd_X5_factAt : yX5_factAt.cls = RX5 ∧ yX5_factAt.cls ≠ "java/lang/invoke/MethodHandle" ∧ yX5_factAt.cls ≠ "java/lang/invoke/VarHandle" ∧ (parseMethodDescriptor yX5_factAt.desc).map (fun d => d.parameters.length) = some 2 := by decide +kernel
set_option maxHeartbeats 4000000 in
set_option maxRecDepth 100000 in
theorem c_X5_factAt (l : Launch) (D : va_G) (cI cJ cZ : ClassId) (a_this a_this_left a_this_queue a_this_facts a_this_facts_cells a_this_places a_this_told : Nat) (v_this_size : Int32) (v_this_sizeBefore : Int32) (f_this_facts_cells : Nat → Int32) (i1 : Int32) (i2 : Int32) (o : Int32) (h : p_X5_factAt f_this_facts_cells i1 i2 = some o) : zMi l D (zT cI cJ cZ) yX5_factAt gs_X5_factAt rm_X5_factAt [.ref a_this, .int i1, .int i2] (wd_X5_factAt cI cJ cZ a_this a_this_left a_this_queue a_this_facts a_this_facts_cells a_this_places a_this_told v_this_size v_this_sizeBefore f_this_facts_cells) (wd_X5_factAt cI cJ cZ a_this a_this_left a_this_queue a_this_facts a_this_facts_cells a_this_places a_this_told v_this_size v_this_sizeBefore f_this_facts_cells) (o) := by
  refine zMet_i (own := RX5) (fun u : Int32 => (wd_X5_factAt cI cJ cZ a_this a_this_left a_this_queue a_this_facts a_this_facts_cells a_this_places a_this_told v_this_size v_this_sizeBefore f_this_facts_cells)) (fun u : Int32 => u) (by decide) rfl rfl (Nat.le_of_ble_eq_true rfl) ?_
  intro p e s m args below meth c A Q S hK hA hw ret ls hl
  replace hl : lv_has ls 3 [(0, .ref a_this), (1, .int i1), (2, .int i2)] := hl
  refine lv_aload_n S.1 S.2.1 dX5_factAt_0 rfl (lv_at hl 0 rfl) ?_
  refine z_get S (C := RX5) (T := TX5) (N := 7) (gi gu_X5) hK hw 0 rfl rfl 2 (Nat.le_of_ble_eq_true rfl) (List.mem_cons_of_mem _ gw_126) rfl dX5_factAt_1 ?_
  refine lv_iload_n S.1 S.2.1 dX5_factAt_4 rfl (lv_at hl 1 rfl) ?_
  refine lv_bipush (v := 6) S.1 S.2.1 dX5_factAt_5 (by decide) ?_
  refine lv_imul S.1 S.2.1 dX5_factAt_7 ?_
  refine lv_iload_n S.1 S.2.1 dX5_factAt_8 rfl (lv_at hl 2 rfl) ?_
  refine lv_iadd S.1 S.2.1 dX5_factAt_9 ?_
  obtain ⟨y1, hc, h⟩ := z_b1_e h
  refine z_callVi (As := [.int ((i1 * 6) + i2)]) (rest := []) S (c_X3_get l D cI cJ cZ a_this_facts a_this_facts_cells 240 f_this_facts_cells ((i1 * 6) + i2) _ hc) (cwV 1 S.2.2.2.2 (gw_V gw_410 gw_342 gw_343 gw_53 gw_344) rfl rfl rfl hd_X3_get ⟨Nat.le_of_ble_eq_true rfl, Nat.le_of_ble_eq_true rfl⟩) hK hA hw [1, 2] (by decide) rfl rfl [none, some 0, some 1] rfl (by decide) 1 rfl rfl hl.1 rfl rfl (lv_room (Nat.le_of_ble_eq_true rfl)) ⟨Nat.zero_le _, Nat.zero_le _⟩ dX5_factAt_10 (fun H locs hw => ?_)
  replace hw : zW D A s H locs (wd_X5_factAt cI cJ cZ a_this a_this_left a_this_queue a_this_facts a_this_facts_cells a_this_places a_this_told v_this_size v_this_sizeBefore f_this_facts_cells) := hw
  exact ret y1 h 13 ls _ _ dX5_factAt_13 hw
theorem gw_415 : Cond.methodLink RX5 98 yX5_factAt ∈ GW := GW_of 415 (by decide +kernel) (by decide +kernel)
theorem gw_418 : Cond.code yX5_factAt cX5_factAt 3 (some .int) ∈ GW := GW_of 418 (by decide +kernel) (by decide +kernel)
theorem gw_54 : Cond.initialized RX5 ∈ GW := GW_of 54 (by decide +kernel) (by decide +kernel)
theorem gw_417 : Cond.instanceMethod yX5_factAt ∈ GW := GW_of 417 (by decide +kernel) (by decide +kernel)
theorem gw_7 : Cond.selects RX5 yX5_factAt yX5_factAt ∈ GW := GW_of 7 (by decide +kernel) (by decide +kernel)
theorem gw_406 : Cond.methodLink RX5 84 yX5_putFact ∈ GW := GW_of 406 (by decide +kernel) (by decide +kernel)
theorem gw_409 : Cond.code yX5_putFact cX5_putFact 4 none ∈ GW := GW_of 409 (by decide +kernel) (by decide +kernel)
theorem gw_408 : Cond.instanceMethod yX5_putFact ∈ GW := GW_of 408 (by decide +kernel) (by decide +kernel)
theorem gw_5 : Cond.selects RX5 yX5_putFact yX5_putFact ∈ GW := GW_of 5 (by decide +kernel) (by decide +kernel)
theorem gw_419 : Cond.methodLink RX5 102 yJ9_min_7cf53 ∈ GW := GW_of 419 (by decide +kernel) (by decide +kernel)
theorem gw_420 : Cond.methodLink RX5 107 yJ9_max_7cf53 ∈ GW := GW_of 420 (by decide +kernel) (by decide +kernel)
def gs_X5_include : List Cond := Cond.code yX5_include cX5_include 4 none :: GW
def wd_X5_include (cI cJ cZ : ClassId) (a_this a_this_left a_this_queue a_this_facts a_this_facts_cells a_this_places a_this_told : Nat) (v_this_size : Int32) (v_this_sizeBefore : Int32) (f_this_facts_cells : Nat → Int32) : va_W := [(a_this, .inr (5, [.ref a_this_left, .ref a_this_queue, .ref a_this_facts, .ref a_this_places, .ref a_this_told, .int v_this_size, .int v_this_sizeBefore])), (a_this_facts, .inr (3, [.ref a_this_facts_cells])), (a_this_facts_cells, .inl (cI, 240, .inl f_this_facts_cells))]
abbrev rm_X5_include : Room := { frames := 2, cells := 0, slots := 0, locals := 45 }
theorem hd_X5_include : yX5_include.cls = RX5 ∧ yX5_include.cls ≠ "java/lang/invoke/MethodHandle" ∧ yX5_include.cls ≠ "java/lang/invoke/VarHandle" ∧ (parseMethodDescriptor yX5_include.desc).map (fun d => d.parameters.length) = some 3 := by decide +kernel
set_option maxHeartbeats 4000000 in
set_option maxRecDepth 100000 in
theorem c_X5_include (l : Launch) (D : va_G) (cI cJ cZ : ClassId) (a_this a_this_left a_this_queue a_this_facts a_this_facts_cells a_this_places a_this_told : Nat) (v_this_size : Int32) (v_this_sizeBefore : Int32) (f_this_facts_cells : Nat → Int32) (i1 : Int32) (i2 : Int32) (i3 : Int32) (o : (Nat → Int32)) (h : p_X5_include f_this_facts_cells i1 i2 i3 = some o) : zMv l D (zT cI cJ cZ) yX5_include gs_X5_include rm_X5_include [.ref a_this, .int i1, .int i2, .int i3] (wd_X5_include cI cJ cZ a_this a_this_left a_this_queue a_this_facts a_this_facts_cells a_this_places a_this_told v_this_size v_this_sizeBefore f_this_facts_cells) (wd_X5_include cI cJ cZ a_this a_this_left a_this_queue a_this_facts a_this_facts_cells a_this_places a_this_told v_this_size v_this_sizeBefore o) := by
  refine zMet_v (own := RX5) (fun u : (Nat → Int32) => (wd_X5_include cI cJ cZ a_this a_this_left a_this_queue a_this_facts a_this_facts_cells a_this_places a_this_told v_this_size v_this_sizeBefore u)) (by decide) rfl rfl (Nat.le_of_ble_eq_true rfl) ?_
  intro p e s m args below meth c A Q S hK hA hw ret ls hl
  replace hl : lv_has ls 4 [(0, .ref a_this), (1, .int i1), (2, .int i2), (3, .int i3)] := hl
  refine lv_aload_n S.1 S.2.1 dX5_include_0 rfl (lv_at hl 0 rfl) ?_
  refine lv_iload_n S.1 S.2.1 dX5_include_1 rfl (lv_at hl 1 rfl) ?_
  refine lv_iconst (v := 0) S.1 S.2.1 dX5_include_2 (by decide) ?_
  refine lv_aload_n S.1 S.2.1 dX5_include_3 rfl (lv_at hl 0 rfl) ?_
  refine lv_iload_n S.1 S.2.1 dX5_include_4 rfl (lv_at hl 1 rfl) ?_
  refine lv_iconst (v := 0) S.1 S.2.1 dX5_include_5 (by decide) ?_
  obtain ⟨y1, hc, h⟩ := z_b1_e h
  refine z_callVi (As := [.int i1, .int 0]) (rest := [.int 0, .int i1, .ref a_this]) S (c_X5_factAt l D cI cJ cZ a_this a_this_left a_this_queue a_this_facts a_this_facts_cells a_this_places a_this_told v_this_size v_this_sizeBefore f_this_facts_cells i1 0 _ hc) (cwV 2 S.2.2.2.2 (gw_V gw_415 gw_417 gw_7 gw_54 gw_418) rfl rfl rfl hd_X5_factAt ⟨Nat.le_of_ble_eq_true rfl, Nat.le_of_ble_eq_true rfl⟩) hK hA hw [0, 1, 2] (by decide) rfl rfl [some 0, some 1, some 2] rfl (by decide) 0 rfl rfl hl.1 rfl rfl (lv_room (Nat.le_of_ble_eq_true rfl)) ⟨Nat.zero_le _, Nat.zero_le _⟩ dX5_include_6 (fun H locs hw => ?_)
  replace hw : zW D A s H locs (wd_X5_include cI cJ cZ a_this a_this_left a_this_queue a_this_facts a_this_facts_cells a_this_places a_this_told v_this_size v_this_sizeBefore f_this_facts_cells) := hw
  refine lv_iconst (v := 1) S.1 S.2.1 dX5_include_9 (by decide) ?_
  refine lv_iadd S.1 S.2.1 dX5_include_10 ?_
  obtain ⟨f2, hc, h⟩ := z_b1_e h
  refine z_callVv (As := [.int i1, .int 0, .int (y1 + 1)]) (rest := []) S (c_X5_putFact l D cI cJ cZ a_this a_this_left a_this_queue a_this_facts a_this_facts_cells a_this_places a_this_told v_this_size v_this_sizeBefore f_this_facts_cells i1 0 (y1 + 1) _ hc) (cwV 3 S.2.2.2.2 (gw_V gw_406 gw_408 gw_5 gw_54 gw_409) rfl rfl rfl hd_X5_putFact ⟨Nat.le_of_ble_eq_true rfl, Nat.le_of_ble_eq_true rfl⟩) hK hA hw [0, 1, 2] (by decide) rfl rfl [some 0, some 1, some 2] rfl (by decide) 0 rfl rfl hl.1 rfl rfl (lv_room (Nat.le_of_ble_eq_true rfl)) ⟨Nat.zero_le _, Nat.zero_le _⟩ dX5_include_11 (fun H locs hw => ?_)
  replace hw : zW D A s H locs (wd_X5_include cI cJ cZ a_this a_this_left a_this_queue a_this_facts a_this_facts_cells a_this_places a_this_told v_this_size v_this_sizeBefore f2) := hw
  refine lv_aload_n S.1 S.2.1 dX5_include_14 rfl (lv_at hl 0 rfl) ?_
  refine lv_iload_n S.1 S.2.1 dX5_include_15 rfl (lv_at hl 1 rfl) ?_
  refine lv_iconst (v := 1) S.1 S.2.1 dX5_include_16 (by decide) ?_
  refine lv_aload_n S.1 S.2.1 dX5_include_17 rfl (lv_at hl 0 rfl) ?_
  refine lv_iload_n S.1 S.2.1 dX5_include_18 rfl (lv_at hl 1 rfl) ?_
  refine lv_iconst (v := 1) S.1 S.2.1 dX5_include_19 (by decide) ?_
  obtain ⟨y3, hc, h⟩ := z_b1_e h
  refine z_callVi (As := [.int i1, .int 1]) (rest := [.int 1, .int i1, .ref a_this]) S (c_X5_factAt l D cI cJ cZ a_this a_this_left a_this_queue a_this_facts a_this_facts_cells a_this_places a_this_told v_this_size v_this_sizeBefore f2 i1 1 _ hc) (cwV 2 S.2.2.2.2 (gw_V gw_415 gw_417 gw_7 gw_54 gw_418) rfl rfl rfl hd_X5_factAt ⟨Nat.le_of_ble_eq_true rfl, Nat.le_of_ble_eq_true rfl⟩) hK hA hw [0, 1, 2] (by decide) rfl rfl [some 0, some 1, some 2] rfl (by decide) 0 rfl rfl hl.1 rfl rfl (lv_room (Nat.le_of_ble_eq_true rfl)) ⟨Nat.zero_le _, Nat.zero_le _⟩ dX5_include_20 (fun H locs hw => ?_)
  replace hw : zW D A s H locs (wd_X5_include cI cJ cZ a_this a_this_left a_this_queue a_this_facts a_this_facts_cells a_this_places a_this_told v_this_size v_this_sizeBefore f2) := hw
  refine lv_iload_n S.1 S.2.1 dX5_include_23 rfl (lv_at hl 2 rfl) ?_
  obtain ⟨y4, hc, h⟩ := z_b1_e h
  refine z_callSi (As := [.int y3, .int i2]) (rest := [.int 1, .int i1, .ref a_this]) S (c_J9_min_7cf53 l D cI cJ cZ y3 i2 _ hc) (va_cwS 2 S.2.2.2.2 (gw_S gw_419 gw_346 gw_60 gw_347) rfl rfl rfl hd_J9_min_7cf53 ⟨Nat.le_of_ble_eq_true rfl, Nat.le_of_ble_eq_true rfl⟩) hK hA hw [] (by decide) rfl rfl [none, none, none] rfl (by decide) hl.1 rfl rfl (lv_room (Nat.le_of_ble_eq_true rfl)) ⟨Nat.zero_le _, Nat.zero_le _⟩ dX5_include_24 (fun H locs hw => ?_)
  replace hw : zW D A s H locs (wd_X5_include cI cJ cZ a_this a_this_left a_this_queue a_this_facts a_this_facts_cells a_this_places a_this_told v_this_size v_this_sizeBefore f2) := hw
  obtain ⟨f5, hc, h⟩ := z_b1_e h
  refine z_callVv (As := [.int i1, .int 1, .int y4]) (rest := []) S (c_X5_putFact l D cI cJ cZ a_this a_this_left a_this_queue a_this_facts a_this_facts_cells a_this_places a_this_told v_this_size v_this_sizeBefore f2 i1 1 y4 _ hc) (cwV 3 S.2.2.2.2 (gw_V gw_406 gw_408 gw_5 gw_54 gw_409) rfl rfl rfl hd_X5_putFact ⟨Nat.le_of_ble_eq_true rfl, Nat.le_of_ble_eq_true rfl⟩) hK hA hw [0, 1, 2] (by decide) rfl rfl [some 0, some 1, some 2] rfl (by decide) 0 rfl rfl hl.1 rfl rfl (lv_room (Nat.le_of_ble_eq_true rfl)) ⟨Nat.zero_le _, Nat.zero_le _⟩ dX5_include_27 (fun H locs hw => ?_)
  replace hw : zW D A s H locs (wd_X5_include cI cJ cZ a_this a_this_left a_this_queue a_this_facts a_this_facts_cells a_this_places a_this_told v_this_size v_this_sizeBefore f5) := hw
  refine lv_aload_n S.1 S.2.1 dX5_include_30 rfl (lv_at hl 0 rfl) ?_
  refine lv_iload_n S.1 S.2.1 dX5_include_31 rfl (lv_at hl 1 rfl) ?_
  refine lv_iconst (v := 2) S.1 S.2.1 dX5_include_32 (by decide) ?_
  refine lv_aload_n S.1 S.2.1 dX5_include_33 rfl (lv_at hl 0 rfl) ?_
  refine lv_iload_n S.1 S.2.1 dX5_include_34 rfl (lv_at hl 1 rfl) ?_
  refine lv_iconst (v := 2) S.1 S.2.1 dX5_include_35 (by decide) ?_
  obtain ⟨y6, hc, h⟩ := z_b1_e h
  refine z_callVi (As := [.int i1, .int 2]) (rest := [.int 2, .int i1, .ref a_this]) S (c_X5_factAt l D cI cJ cZ a_this a_this_left a_this_queue a_this_facts a_this_facts_cells a_this_places a_this_told v_this_size v_this_sizeBefore f5 i1 2 _ hc) (cwV 2 S.2.2.2.2 (gw_V gw_415 gw_417 gw_7 gw_54 gw_418) rfl rfl rfl hd_X5_factAt ⟨Nat.le_of_ble_eq_true rfl, Nat.le_of_ble_eq_true rfl⟩) hK hA hw [0, 1, 2] (by decide) rfl rfl [some 0, some 1, some 2] rfl (by decide) 0 rfl rfl hl.1 rfl rfl (lv_room (Nat.le_of_ble_eq_true rfl)) ⟨Nat.zero_le _, Nat.zero_le _⟩ dX5_include_36 (fun H locs hw => ?_)
  replace hw : zW D A s H locs (wd_X5_include cI cJ cZ a_this a_this_left a_this_queue a_this_facts a_this_facts_cells a_this_places a_this_told v_this_size v_this_sizeBefore f5) := hw
  refine lv_iload_n S.1 S.2.1 dX5_include_39 rfl (lv_at hl 3 rfl) ?_
  obtain ⟨y7, hc, h⟩ := z_b1_e h
  refine z_callSi (As := [.int y6, .int i3]) (rest := [.int 2, .int i1, .ref a_this]) S (c_J9_min_7cf53 l D cI cJ cZ y6 i3 _ hc) (va_cwS 2 S.2.2.2.2 (gw_S gw_419 gw_346 gw_60 gw_347) rfl rfl rfl hd_J9_min_7cf53 ⟨Nat.le_of_ble_eq_true rfl, Nat.le_of_ble_eq_true rfl⟩) hK hA hw [] (by decide) rfl rfl [none, none, none] rfl (by decide) hl.1 rfl rfl (lv_room (Nat.le_of_ble_eq_true rfl)) ⟨Nat.zero_le _, Nat.zero_le _⟩ dX5_include_40 (fun H locs hw => ?_)
  replace hw : zW D A s H locs (wd_X5_include cI cJ cZ a_this a_this_left a_this_queue a_this_facts a_this_facts_cells a_this_places a_this_told v_this_size v_this_sizeBefore f5) := hw
  obtain ⟨f8, hc, h⟩ := z_b1_e h
  refine z_callVv (As := [.int i1, .int 2, .int y7]) (rest := []) S (c_X5_putFact l D cI cJ cZ a_this a_this_left a_this_queue a_this_facts a_this_facts_cells a_this_places a_this_told v_this_size v_this_sizeBefore f5 i1 2 y7 _ hc) (cwV 3 S.2.2.2.2 (gw_V gw_406 gw_408 gw_5 gw_54 gw_409) rfl rfl rfl hd_X5_putFact ⟨Nat.le_of_ble_eq_true rfl, Nat.le_of_ble_eq_true rfl⟩) hK hA hw [0, 1, 2] (by decide) rfl rfl [some 0, some 1, some 2] rfl (by decide) 0 rfl rfl hl.1 rfl rfl (lv_room (Nat.le_of_ble_eq_true rfl)) ⟨Nat.zero_le _, Nat.zero_le _⟩ dX5_include_43 (fun H locs hw => ?_)
  replace hw : zW D A s H locs (wd_X5_include cI cJ cZ a_this a_this_left a_this_queue a_this_facts a_this_facts_cells a_this_places a_this_told v_this_size v_this_sizeBefore f8) := hw
  refine lv_aload_n S.1 S.2.1 dX5_include_46 rfl (lv_at hl 0 rfl) ?_
  refine lv_iload_n S.1 S.2.1 dX5_include_47 rfl (lv_at hl 1 rfl) ?_
  refine lv_iconst (v := 3) S.1 S.2.1 dX5_include_48 (by decide) ?_
  refine lv_aload_n S.1 S.2.1 dX5_include_49 rfl (lv_at hl 0 rfl) ?_
  refine lv_iload_n S.1 S.2.1 dX5_include_50 rfl (lv_at hl 1 rfl) ?_
  refine lv_iconst (v := 3) S.1 S.2.1 dX5_include_51 (by decide) ?_
  obtain ⟨y9, hc, h⟩ := z_b1_e h
  refine z_callVi (As := [.int i1, .int 3]) (rest := [.int 3, .int i1, .ref a_this]) S (c_X5_factAt l D cI cJ cZ a_this a_this_left a_this_queue a_this_facts a_this_facts_cells a_this_places a_this_told v_this_size v_this_sizeBefore f8 i1 3 _ hc) (cwV 2 S.2.2.2.2 (gw_V gw_415 gw_417 gw_7 gw_54 gw_418) rfl rfl rfl hd_X5_factAt ⟨Nat.le_of_ble_eq_true rfl, Nat.le_of_ble_eq_true rfl⟩) hK hA hw [0, 1, 2] (by decide) rfl rfl [some 0, some 1, some 2] rfl (by decide) 0 rfl rfl hl.1 rfl rfl (lv_room (Nat.le_of_ble_eq_true rfl)) ⟨Nat.zero_le _, Nat.zero_le _⟩ dX5_include_52 (fun H locs hw => ?_)
  replace hw : zW D A s H locs (wd_X5_include cI cJ cZ a_this a_this_left a_this_queue a_this_facts a_this_facts_cells a_this_places a_this_told v_this_size v_this_sizeBefore f8) := hw
  refine lv_iload_n S.1 S.2.1 dX5_include_55 rfl (lv_at hl 2 rfl) ?_
  obtain ⟨y10, hc, h⟩ := z_b1_e h
  refine z_callSi (As := [.int y9, .int i2]) (rest := [.int 3, .int i1, .ref a_this]) S (c_J9_max_7cf53 l D cI cJ cZ y9 i2 _ hc) (va_cwS 2 S.2.2.2.2 (gw_S gw_420 gw_349 gw_60 gw_350) rfl rfl rfl hd_J9_max_7cf53 ⟨Nat.le_of_ble_eq_true rfl, Nat.le_of_ble_eq_true rfl⟩) hK hA hw [] (by decide) rfl rfl [none, none, none] rfl (by decide) hl.1 rfl rfl (lv_room (Nat.le_of_ble_eq_true rfl)) ⟨Nat.zero_le _, Nat.zero_le _⟩ dX5_include_56 (fun H locs hw => ?_)
  replace hw : zW D A s H locs (wd_X5_include cI cJ cZ a_this a_this_left a_this_queue a_this_facts a_this_facts_cells a_this_places a_this_told v_this_size v_this_sizeBefore f8) := hw
  obtain ⟨f11, hc, h⟩ := z_b1_e h
  refine z_callVv (As := [.int i1, .int 3, .int y10]) (rest := []) S (c_X5_putFact l D cI cJ cZ a_this a_this_left a_this_queue a_this_facts a_this_facts_cells a_this_places a_this_told v_this_size v_this_sizeBefore f8 i1 3 y10 _ hc) (cwV 3 S.2.2.2.2 (gw_V gw_406 gw_408 gw_5 gw_54 gw_409) rfl rfl rfl hd_X5_putFact ⟨Nat.le_of_ble_eq_true rfl, Nat.le_of_ble_eq_true rfl⟩) hK hA hw [0, 1, 2] (by decide) rfl rfl [some 0, some 1, some 2] rfl (by decide) 0 rfl rfl hl.1 rfl rfl (lv_room (Nat.le_of_ble_eq_true rfl)) ⟨Nat.zero_le _, Nat.zero_le _⟩ dX5_include_59 (fun H locs hw => ?_)
  replace hw : zW D A s H locs (wd_X5_include cI cJ cZ a_this a_this_left a_this_queue a_this_facts a_this_facts_cells a_this_places a_this_told v_this_size v_this_sizeBefore f11) := hw
  refine lv_aload_n S.1 S.2.1 dX5_include_62 rfl (lv_at hl 0 rfl) ?_
  refine lv_iload_n S.1 S.2.1 dX5_include_63 rfl (lv_at hl 1 rfl) ?_
  refine lv_iconst (v := 4) S.1 S.2.1 dX5_include_64 (by decide) ?_
  refine lv_aload_n S.1 S.2.1 dX5_include_65 rfl (lv_at hl 0 rfl) ?_
  refine lv_iload_n S.1 S.2.1 dX5_include_66 rfl (lv_at hl 1 rfl) ?_
  refine lv_iconst (v := 4) S.1 S.2.1 dX5_include_67 (by decide) ?_
  obtain ⟨y12, hc, h⟩ := z_b1_e h
  refine z_callVi (As := [.int i1, .int 4]) (rest := [.int 4, .int i1, .ref a_this]) S (c_X5_factAt l D cI cJ cZ a_this a_this_left a_this_queue a_this_facts a_this_facts_cells a_this_places a_this_told v_this_size v_this_sizeBefore f11 i1 4 _ hc) (cwV 2 S.2.2.2.2 (gw_V gw_415 gw_417 gw_7 gw_54 gw_418) rfl rfl rfl hd_X5_factAt ⟨Nat.le_of_ble_eq_true rfl, Nat.le_of_ble_eq_true rfl⟩) hK hA hw [0, 1, 2] (by decide) rfl rfl [some 0, some 1, some 2] rfl (by decide) 0 rfl rfl hl.1 rfl rfl (lv_room (Nat.le_of_ble_eq_true rfl)) ⟨Nat.zero_le _, Nat.zero_le _⟩ dX5_include_68 (fun H locs hw => ?_)
  replace hw : zW D A s H locs (wd_X5_include cI cJ cZ a_this a_this_left a_this_queue a_this_facts a_this_facts_cells a_this_places a_this_told v_this_size v_this_sizeBefore f11) := hw
  refine lv_iload_n S.1 S.2.1 dX5_include_71 rfl (lv_at hl 3 rfl) ?_
  obtain ⟨y13, hc, h⟩ := z_b1_e h
  refine z_callSi (As := [.int y12, .int i3]) (rest := [.int 4, .int i1, .ref a_this]) S (c_J9_max_7cf53 l D cI cJ cZ y12 i3 _ hc) (va_cwS 2 S.2.2.2.2 (gw_S gw_420 gw_349 gw_60 gw_350) rfl rfl rfl hd_J9_max_7cf53 ⟨Nat.le_of_ble_eq_true rfl, Nat.le_of_ble_eq_true rfl⟩) hK hA hw [] (by decide) rfl rfl [none, none, none] rfl (by decide) hl.1 rfl rfl (lv_room (Nat.le_of_ble_eq_true rfl)) ⟨Nat.zero_le _, Nat.zero_le _⟩ dX5_include_72 (fun H locs hw => ?_)
  replace hw : zW D A s H locs (wd_X5_include cI cJ cZ a_this a_this_left a_this_queue a_this_facts a_this_facts_cells a_this_places a_this_told v_this_size v_this_sizeBefore f11) := hw
  obtain ⟨f14, hc, h⟩ := z_b1_e h
  refine z_callVv (As := [.int i1, .int 4, .int y13]) (rest := []) S (c_X5_putFact l D cI cJ cZ a_this a_this_left a_this_queue a_this_facts a_this_facts_cells a_this_places a_this_told v_this_size v_this_sizeBefore f11 i1 4 y13 _ hc) (cwV 3 S.2.2.2.2 (gw_V gw_406 gw_408 gw_5 gw_54 gw_409) rfl rfl rfl hd_X5_putFact ⟨Nat.le_of_ble_eq_true rfl, Nat.le_of_ble_eq_true rfl⟩) hK hA hw [0, 1, 2] (by decide) rfl rfl [some 0, some 1, some 2] rfl (by decide) 0 rfl rfl hl.1 rfl rfl (lv_room (Nat.le_of_ble_eq_true rfl)) ⟨Nat.zero_le _, Nat.zero_le _⟩ dX5_include_75 (fun H locs hw => ?_)
  replace hw : zW D A s H locs (wd_X5_include cI cJ cZ a_this a_this_left a_this_queue a_this_facts a_this_facts_cells a_this_places a_this_told v_this_size v_this_sizeBefore f14) := hw
  exact ret f14 h 78 ls _ _ dX5_include_78 hw
theorem gw_124 : Cond.fieldLink RX5 12 "ScoreReader$Signs" "left" "LScoreReader$Sheet;" ∈ GW := GW_of 124 (by decide +kernel) (by decide +kernel)
theorem gw_392 : Cond.methodLink RX5 56 yX4_isBlack ∈ GW := GW_of 392 (by decide +kernel) (by decide +kernel)
theorem gw_312 : Cond.code yX4_isBlack cX4_isBlack 3 (some .boolean) ∈ GW := GW_of 312 (by decide +kernel) (by decide +kernel)
theorem gw_310 : Cond.instanceMethod yX4_isBlack ∈ GW := GW_of 310 (by decide +kernel) (by decide +kernel)
theorem gw_311 : Cond.selects RX4 yX4_isBlack yX4_isBlack ∈ GW := GW_of 311 (by decide +kernel) (by decide +kernel)
theorem gw_401 : Cond.methodLink RX5 78 yX4_wipe ∈ GW := GW_of 401 (by decide +kernel) (by decide +kernel)
theorem gw_404 : Cond.code yX4_wipe cX4_wipe 3 none ∈ GW := GW_of 404 (by decide +kernel) (by decide +kernel)
theorem gw_402 : Cond.instanceMethod yX4_wipe ∈ GW := GW_of 402 (by decide +kernel) (by decide +kernel)
theorem gw_403 : Cond.selects RX4 yX4_wipe yX4_wipe ∈ GW := GW_of 403 (by decide +kernel) (by decide +kernel)
theorem gw_125 : Cond.fieldLink RX5 23 "ScoreReader$Signs" "queue" "LScoreReader$Row;" ∈ GW := GW_of 125 (by decide +kernel) (by decide +kernel)
def gs_X5_queueNeighbours : List Cond := Cond.code yX5_queueNeighbours cX5_queueNeighbours 7 (some .int) :: GW
def wd_X5_queueNeighbours (cI cJ cZ : ClassId) (a_this a_this_left a_this_left_rows a_this_queue a_this_queue_cells a_this_facts a_this_places a_this_told : Nat) (v_this_size : Int32) (v_this_sizeBefore : Int32) (f_this_left_rows : Nat → Int64) (f_this_queue_cells : Nat → Int32) : va_W := [(a_this, .inr (5, [.ref a_this_left, .ref a_this_queue, .ref a_this_facts, .ref a_this_places, .ref a_this_told, .int v_this_size, .int v_this_sizeBefore])), (a_this_left, .inr (4, [.ref a_this_left_rows])), (a_this_left_rows, .inl (cJ, 32, .inr (.inl f_this_left_rows))), (a_this_queue, .inr (3, [.ref a_this_queue_cells])), (a_this_queue_cells, .inl (cI, 1920, .inl f_this_queue_cells))]
abbrev rm_X5_queueNeighbours : Room := { frames := 2, cells := 0, slots := 0, locals := 45 }
theorem hd_X5_queueNeighbours : yX5_queueNeighbours.cls = RX5 ∧ yX5_queueNeighbours.cls ≠ "java/lang/invoke/MethodHandle" ∧ yX5_queueNeighbours.cls ≠ "java/lang/invoke/VarHandle" ∧ (parseMethodDescriptor yX5_queueNeighbours.desc).map (fun d => d.parameters.length) = some 3 := by decide +kernel
set_option maxHeartbeats 4000000 in
set_option maxRecDepth 100000 in
theorem c_X5_queueNeighbours (l : Launch) (D : va_G) (cI cJ cZ : ClassId) (a_this a_this_left a_this_left_rows a_this_queue a_this_queue_cells a_this_facts a_this_places a_this_told : Nat) (v_this_size : Int32) (v_this_sizeBefore : Int32) (f_this_left_rows : Nat → Int64) (f_this_queue_cells : Nat → Int32) (K : Nat) (i1 : Int32) (i2 : Int32) (i3 : Int32) (o : Int32 × (Nat → Int64) × (Nat → Int32)) (h : p_X5_queueNeighbours K f_this_left_rows f_this_queue_cells i1 i2 i3 = some o) : zMi l D (zT cI cJ cZ) yX5_queueNeighbours gs_X5_queueNeighbours rm_X5_queueNeighbours [.ref a_this, .int i1, .int i2, .int i3] (wd_X5_queueNeighbours cI cJ cZ a_this a_this_left a_this_left_rows a_this_queue a_this_queue_cells a_this_facts a_this_places a_this_told v_this_size v_this_sizeBefore f_this_left_rows f_this_queue_cells) (wd_X5_queueNeighbours cI cJ cZ a_this a_this_left a_this_left_rows a_this_queue a_this_queue_cells a_this_facts a_this_places a_this_told v_this_size v_this_sizeBefore (o.2.1) (o.2.2)) (o.1) := by
  refine zMet_i (own := RX5) (fun u : Int32 × (Nat → Int64) × (Nat → Int32) => (wd_X5_queueNeighbours cI cJ cZ a_this a_this_left a_this_left_rows a_this_queue a_this_queue_cells a_this_facts a_this_places a_this_told v_this_size v_this_sizeBefore (u.2.1) (u.2.2))) (fun u : Int32 × (Nat → Int64) × (Nat → Int32) => u.1) (by decide) rfl rfl (Nat.le_of_ble_eq_true rfl) ?_
  intro p e s m args below meth c A Q S hK hA hw ret ls hl
  replace hl : lv_has ls 7 [(0, .ref a_this), (1, .int i1), (2, .int i2), (3, .int i3)] := hl
  refine lv_iload_n S.1 S.2.1 dX5_queueNeighbours_0 rfl (lv_at hl 3 rfl) ?_
  refine lv_istore (lv' := [(4, .int i3), (0, .ref a_this), (1, .int i1), (2, .int i2), (3, .int i3)]) S.1 S.2.1 dX5_queueNeighbours_1 hl (by decide) rfl (fun ls hl => ?_)
  refine lv_iload_n S.1 S.2.1 dX5_queueNeighbours_3 rfl (lv_at hl 3 rfl) ?_
  refine lv_iconst (v := 1) S.1 S.2.1 dX5_queueNeighbours_4 (by decide) ?_
  refine lv_isub S.1 S.2.1 dX5_queueNeighbours_5 ?_
  refine z_leti h (fun y1 h => ?_)
  refine lv_istore (lv' := [(5, .int y1), (4, .int i3), (0, .ref a_this), (1, .int i1), (2, .int i2), (3, .int i3)]) S.1 S.2.1 dX5_queueNeighbours_6 hl (by decide) rfl (fun ls hl => ?_)
  have L_8 : ∀ (n8_5 : Nat) (f2 : Nat → Int64) (f3 : Nat → Int32) (x4 : Int32) (x5 : Int32) (h : z_lp4 (p_X5_queueNeighbours_l8 i2 i1 K) n8_5 f2 f3 x4 x5 = some o) (H : Heap) (locs : List Loc) (ls : Array Slot), zW D A s H locs (wd_X5_queueNeighbours cI cJ cZ a_this a_this_left a_this_left_rows a_this_queue a_this_queue_cells a_this_facts a_this_places a_this_told v_this_size v_this_sizeBefore f2 f3) → lv_has ls 7 [(0, .ref a_this), (1, .int i1), (2, .int i2), (4, .int x4), (5, .int x5)] → W p l e (headSpec gs_X5_queueNeighbours rm_X5_queueNeighbours).room s m args below meth c H locs 0 0 Q (F0 m 8 ls []) := by
    intro n8_5
    induction n8_5 with
    | zero => intro f2 f3 x4 x5 h; exact z_no h
    | succ n8_5 ih_8 =>
      intro f2 f3 x4 x5 h H locs ls hw hl
      replace h : (p_X5_queueNeighbours_l8 i2 i1 K) (z_lp4 (p_X5_queueNeighbours_l8 i2 i1 K) n8_5) f2 f3 x4 x5 = some o := h
      refine lv_iload S.1 S.2.1 dX5_queueNeighbours_8 (lv_at hl 4 rfl) ?_
      refine lv_iload_n S.1 S.2.1 dX5_queueNeighbours_10 rfl (lv_at hl 2 rfl) ?_
      refine lv_iconst (v := 1) S.1 S.2.1 dX5_queueNeighbours_11 (by decide) ?_
      refine lv_iadd S.1 S.2.1 dX5_queueNeighbours_12 ?_
      refine z_icmp_gt S (tgt := 86) h dX5_queueNeighbours_13 (by decide) (fun h => ?_) (fun h => ?_)
      · refine lv_iload S.1 S.2.1 dX5_queueNeighbours_86 (lv_at hl 3 rfl) ?_
        exact ret (x4, f2, f3) h 88 ls _ _ dX5_queueNeighbours_88 hw
      · refine lv_iload_n S.1 S.2.1 dX5_queueNeighbours_16 rfl (lv_at hl 1 rfl) ?_
        refine lv_iconst (v := 1) S.1 S.2.1 dX5_queueNeighbours_17 (by decide) ?_
        refine lv_isub S.1 S.2.1 dX5_queueNeighbours_18 ?_
        refine z_leti h (fun y6 h => ?_)
        refine lv_istore (lv' := [(6, .int y6), (0, .ref a_this), (1, .int i1), (2, .int i2), (4, .int x4), (5, .int x5)]) S.1 S.2.1 dX5_queueNeighbours_19 hl (by decide) rfl (fun ls hl => ?_)
        have L_21 : ∀ (n21_10 : Nat) (f7 : Nat → Int64) (f8 : Nat → Int32) (x9 : Int32) (x10 : Int32) (h : z_lp4 (p_X5_queueNeighbours_l21 i1 x5 (z_lp4 (p_X5_queueNeighbours_l8 i2 i1 K) n8_5)) n21_10 f7 f8 x9 x10 = some o) (H : Heap) (locs : List Loc) (ls : Array Slot), zW D A s H locs (wd_X5_queueNeighbours cI cJ cZ a_this a_this_left a_this_left_rows a_this_queue a_this_queue_cells a_this_facts a_this_places a_this_told v_this_size v_this_sizeBefore f7 f8) → lv_has ls 7 [(0, .ref a_this), (1, .int i1), (2, .int i2), (4, .int x9), (5, .int x5), (6, .int x10)] → W p l e (headSpec gs_X5_queueNeighbours rm_X5_queueNeighbours).room s m args below meth c H locs 0 0 Q (F0 m 21 ls []) := by
          intro n21_10
          induction n21_10 with
          | zero => intro f7 f8 x9 x10 h; exact z_no h
          | succ n21_10 ih_21 =>
            intro f7 f8 x9 x10 h H locs ls hw hl
            replace h : (p_X5_queueNeighbours_l21 i1 x5 (z_lp4 (p_X5_queueNeighbours_l8 i2 i1 K) n8_5)) (z_lp4 (p_X5_queueNeighbours_l21 i1 x5 (z_lp4 (p_X5_queueNeighbours_l8 i2 i1 K) n8_5)) n21_10) f7 f8 x9 x10 = some o := h
            refine lv_iload S.1 S.2.1 dX5_queueNeighbours_21 (lv_at hl 5 rfl) ?_
            refine lv_iload_n S.1 S.2.1 dX5_queueNeighbours_23 rfl (lv_at hl 1 rfl) ?_
            refine lv_iconst (v := 1) S.1 S.2.1 dX5_queueNeighbours_24 (by decide) ?_
            refine lv_iadd S.1 S.2.1 dX5_queueNeighbours_25 ?_
            refine z_icmp_gt S (tgt := 80) h dX5_queueNeighbours_26 (by decide) (fun h => ?_) (fun h => ?_)
            · refine z_iinc S (i := 5) (k := 4) (v := x5 + 1) hl rfl (by decide) rfl (fun v => (5, .int v) :: [(0, .ref a_this), (1, .int i1), (2, .int i2), (4, .int x9), (6, .int x10)]) (fun _ => rfl) h dX5_queueNeighbours_80 (fun y11 ls hl h => ?_)
              replace hl : lv_has ls 7 [(5, .int y11), (0, .ref a_this), (1, .int i1), (2, .int i2), (4, .int x9), (6, .int x10)] := hl
              refine lv_goto (tgt := 8) S.1 S.2.1 dX5_queueNeighbours_83 (by decide) ?_
              exact ih_8 f7 f8 x9 y11 h _ _ ls hw (lv_sub hl [1, 2, 3, 4, 0] rfl)
            · refine lv_aload_n S.1 S.2.1 dX5_queueNeighbours_29 rfl (lv_at hl 0 rfl) ?_
              refine z_get S (C := RX5) (T := TX5) (N := 7) (gi gu_X5) hK hw 0 rfl rfl 0 (Nat.le_of_ble_eq_true rfl) (List.mem_cons_of_mem _ gw_124) rfl dX5_queueNeighbours_30 ?_
              refine lv_iload S.1 S.2.1 dX5_queueNeighbours_33 (lv_at hl 5 rfl) ?_
              refine lv_iload S.1 S.2.1 dX5_queueNeighbours_35 (lv_at hl 4 rfl) ?_
              obtain ⟨y12, hc, h⟩ := z_b1_e h
              refine z_callVi (As := [.int x10, .int x5]) (rest := []) S (c_X4_isBlack l D cI cJ cZ a_this_left a_this_left_rows f7 x10 x5 _ hc) (cwV 2 S.2.2.2.2 (gw_V gw_392 gw_310 gw_311 gw_51 gw_312) rfl rfl rfl hd_X4_isBlack ⟨Nat.le_of_ble_eq_true rfl, Nat.le_of_ble_eq_true rfl⟩) hK hA hw [1, 2] (by decide) rfl rfl [none, some 0, some 1, none, none] rfl (by decide) 1 rfl rfl hl.1 rfl rfl (lv_room (Nat.le_of_ble_eq_true rfl)) ⟨Nat.zero_le _, Nat.zero_le _⟩ dX5_queueNeighbours_37 (fun H locs hw => ?_)
              replace hw : zW D A s H locs (wd_X5_queueNeighbours cI cJ cZ a_this a_this_left a_this_left_rows a_this_queue a_this_queue_cells a_this_facts a_this_places a_this_told v_this_size v_this_sizeBefore f7 f8) := hw
              refine z_if_eq S (tgt := 74) h dX5_queueNeighbours_40 (by decide) (fun h => ?_) (fun h => ?_)
              · refine z_iinc S (i := 6) (k := 5) (v := x10 + 1) hl rfl (by decide) rfl (fun v => (6, .int v) :: [(0, .ref a_this), (1, .int i1), (2, .int i2), (4, .int x9), (5, .int x5)]) (fun _ => rfl) h dX5_queueNeighbours_74 (fun y13 ls hl h => ?_)
                replace hl : lv_has ls 7 [(6, .int y13), (0, .ref a_this), (1, .int i1), (2, .int i2), (4, .int x9), (5, .int x5)] := hl
                refine lv_goto (tgt := 21) S.1 S.2.1 dX5_queueNeighbours_77 (by decide) ?_
                exact ih_21 f7 f8 x9 y13 h _ _ ls hw (lv_sub hl [1, 2, 3, 4, 5, 0] rfl)
              · refine lv_aload_n S.1 S.2.1 dX5_queueNeighbours_43 rfl (lv_at hl 0 rfl) ?_
                refine z_get S (C := RX5) (T := TX5) (N := 7) (gi gu_X5) hK hw 0 rfl rfl 0 (Nat.le_of_ble_eq_true rfl) (List.mem_cons_of_mem _ gw_124) rfl dX5_queueNeighbours_44 ?_
                refine lv_iload S.1 S.2.1 dX5_queueNeighbours_47 (lv_at hl 5 rfl) ?_
                refine lv_iload S.1 S.2.1 dX5_queueNeighbours_49 (lv_at hl 4 rfl) ?_
                obtain ⟨f14, hc, h⟩ := z_b1_e h
                refine z_callVv (As := [.int x10, .int x5]) (rest := []) S (c_X4_wipe l D cI cJ cZ a_this_left a_this_left_rows f7 x10 x5 _ hc) (cwV 2 S.2.2.2.2 (gw_V gw_401 gw_402 gw_403 gw_51 gw_404) rfl rfl rfl hd_X4_wipe ⟨Nat.le_of_ble_eq_true rfl, Nat.le_of_ble_eq_true rfl⟩) hK hA hw [1, 2] (by decide) rfl rfl [none, some 0, some 1, none, none] rfl (by decide) 1 rfl rfl hl.1 rfl rfl (lv_room (Nat.le_of_ble_eq_true rfl)) ⟨Nat.zero_le _, Nat.zero_le _⟩ dX5_queueNeighbours_51 (fun H locs hw => ?_)
                replace hw : zW D A s H locs (wd_X5_queueNeighbours cI cJ cZ a_this a_this_left a_this_left_rows a_this_queue a_this_queue_cells a_this_facts a_this_places a_this_told v_this_size v_this_sizeBefore f14 f8) := hw
                refine lv_aload_n S.1 S.2.1 dX5_queueNeighbours_54 rfl (lv_at hl 0 rfl) ?_
                refine z_get S (C := RX5) (T := TX5) (N := 7) (gi gu_X5) hK hw 0 rfl rfl 1 (Nat.le_of_ble_eq_true rfl) (List.mem_cons_of_mem _ gw_125) rfl dX5_queueNeighbours_55 ?_
                refine lv_iload S.1 S.2.1 dX5_queueNeighbours_58 (lv_at hl 3 rfl) ?_
                refine lv_iload S.1 S.2.1 dX5_queueNeighbours_60 (lv_at hl 4 rfl) ?_
                refine lv_bipush (v := 60) S.1 S.2.1 dX5_queueNeighbours_62 (by decide) ?_
                refine lv_imul S.1 S.2.1 dX5_queueNeighbours_64 ?_
                refine lv_iload S.1 S.2.1 dX5_queueNeighbours_65 (lv_at hl 5 rfl) ?_
                refine lv_iadd S.1 S.2.1 dX5_queueNeighbours_67 ?_
                obtain ⟨f15, hc, h⟩ := z_b1_e h
                refine z_callVv (As := [.int x9, .int ((x5 * 60) + x10)]) (rest := []) S (c_X3_put l D cI cJ cZ a_this_queue a_this_queue_cells 1920 f8 x9 ((x5 * 60) + x10) _ hc) (cwV 2 S.2.2.2.2 (gw_V gw_405 gw_326 gw_327 gw_53 gw_328) rfl rfl rfl hd_X3_put ⟨Nat.le_of_ble_eq_true rfl, Nat.le_of_ble_eq_true rfl⟩) hK hA hw [3, 4] (by decide) rfl rfl [none, none, none, some 0, some 1] rfl (by decide) 3 rfl rfl hl.1 rfl rfl (lv_room (Nat.le_of_ble_eq_true rfl)) ⟨Nat.zero_le _, Nat.zero_le _⟩ dX5_queueNeighbours_68 (fun H locs hw => ?_)
                replace hw : zW D A s H locs (wd_X5_queueNeighbours cI cJ cZ a_this a_this_left a_this_left_rows a_this_queue a_this_queue_cells a_this_facts a_this_places a_this_told v_this_size v_this_sizeBefore f14 f15) := hw
                refine z_iinc S (i := 4) (k := 3) (v := x9 + 1) hl rfl (by decide) rfl (fun v => (4, .int v) :: [(0, .ref a_this), (1, .int i1), (2, .int i2), (5, .int x5), (6, .int x10)]) (fun _ => rfl) h dX5_queueNeighbours_71 (fun y16 ls hl h => ?_)
                replace hl : lv_has ls 7 [(4, .int y16), (0, .ref a_this), (1, .int i1), (2, .int i2), (5, .int x5), (6, .int x10)] := hl
                refine z_iinc S (i := 6) (k := 5) (v := x10 + 1) hl rfl (by decide) rfl (fun v => (6, .int v) :: [(4, .int y16), (0, .ref a_this), (1, .int i1), (2, .int i2), (5, .int x5)]) (fun _ => rfl) h dX5_queueNeighbours_74 (fun y17 ls hl h => ?_)
                replace hl : lv_has ls 7 [(6, .int y17), (4, .int y16), (0, .ref a_this), (1, .int i1), (2, .int i2), (5, .int x5)] := hl
                refine lv_goto (tgt := 21) S.1 S.2.1 dX5_queueNeighbours_77 (by decide) ?_
                exact ih_21 f14 f15 y16 y17 h _ _ ls hw (lv_sub hl [2, 3, 4, 1, 5, 0] rfl)
        exact L_21 K f2 f3 x4 y6 h _ _ ls hw (lv_sub hl [1, 2, 3, 4, 5, 0] rfl)
  exact L_8 K f_this_left_rows f_this_queue_cells i3 y1 h _ _ ls hw (lv_sub hl [2, 3, 4, 1, 0] rfl)
theorem gw_411 : Cond.methodLink RX5 91 yX5_include ∈ GW := GW_of 411 (by decide +kernel) (by decide +kernel)
theorem gw_414 : Cond.code yX5_include cX5_include 4 none ∈ GW := GW_of 414 (by decide +kernel) (by decide +kernel)
theorem gw_413 : Cond.instanceMethod yX5_include ∈ GW := GW_of 413 (by decide +kernel) (by decide +kernel)
theorem gw_6 : Cond.selects RX5 yX5_include yX5_include ∈ GW := GW_of 6 (by decide +kernel) (by decide +kernel)
theorem gw_421 : Cond.methodLink RX5 94 yX5_queueNeighbours ∈ GW := GW_of 421 (by decide +kernel) (by decide +kernel)
theorem gw_424 : Cond.code yX5_queueNeighbours cX5_queueNeighbours 7 (some .int) ∈ GW := GW_of 424 (by decide +kernel) (by decide +kernel)
theorem gw_423 : Cond.instanceMethod yX5_queueNeighbours ∈ GW := GW_of 423 (by decide +kernel) (by decide +kernel)
theorem gw_8 : Cond.selects RX5 yX5_queueNeighbours yX5_queueNeighbours ∈ GW := GW_of 8 (by decide +kernel) (by decide +kernel)
def gs_X5_flood : List Cond := Cond.code yX5_flood cX5_flood 8 none :: GW
def wd_X5_flood (cI cJ cZ : ClassId) (a_this a_this_left a_this_left_rows a_this_queue a_this_queue_cells a_this_facts a_this_facts_cells a_this_places a_this_told : Nat) (v_this_size : Int32) (v_this_sizeBefore : Int32) (f_this_left_rows : Nat → Int64) (f_this_queue_cells : Nat → Int32) (f_this_facts_cells : Nat → Int32) : va_W := [(a_this, .inr (5, [.ref a_this_left, .ref a_this_queue, .ref a_this_facts, .ref a_this_places, .ref a_this_told, .int v_this_size, .int v_this_sizeBefore])), (a_this_left, .inr (4, [.ref a_this_left_rows])), (a_this_left_rows, .inl (cJ, 32, .inr (.inl f_this_left_rows))), (a_this_queue, .inr (3, [.ref a_this_queue_cells])), (a_this_queue_cells, .inl (cI, 1920, .inl f_this_queue_cells)), (a_this_facts, .inr (3, [.ref a_this_facts_cells])), (a_this_facts_cells, .inl (cI, 240, .inl f_this_facts_cells))]
abbrev rm_X5_flood : Room := { frames := 3, cells := 0, slots := 0, locals := 71 }
theorem hd_X5_flood : yX5_flood.cls = RX5 ∧ yX5_flood.cls ≠ "java/lang/invoke/MethodHandle" ∧ yX5_flood.cls ≠ "java/lang/invoke/VarHandle" ∧ (parseMethodDescriptor yX5_flood.desc).map (fun d => d.parameters.length) = some 3 := by decide +kernel
set_option maxHeartbeats 4000000 in
set_option maxRecDepth 100000 in
theorem c_X5_flood (l : Launch) (D : va_G) (cI cJ cZ : ClassId) (a_this a_this_left a_this_left_rows a_this_queue a_this_queue_cells a_this_facts a_this_facts_cells a_this_places a_this_told : Nat) (v_this_size : Int32) (v_this_sizeBefore : Int32) (f_this_left_rows : Nat → Int64) (f_this_queue_cells : Nat → Int32) (f_this_facts_cells : Nat → Int32) (K : Nat) (i1 : Int32) (i2 : Int32) (i3 : Int32) (o : (Nat → Int64) × (Nat → Int32) × (Nat → Int32)) (h : p_X5_flood K f_this_left_rows f_this_queue_cells f_this_facts_cells i1 i2 i3 = some o) : zMv l D (zT cI cJ cZ) yX5_flood gs_X5_flood rm_X5_flood [.ref a_this, .int i1, .int i2, .int i3] (wd_X5_flood cI cJ cZ a_this a_this_left a_this_left_rows a_this_queue a_this_queue_cells a_this_facts a_this_facts_cells a_this_places a_this_told v_this_size v_this_sizeBefore f_this_left_rows f_this_queue_cells f_this_facts_cells) (wd_X5_flood cI cJ cZ a_this a_this_left a_this_left_rows a_this_queue a_this_queue_cells a_this_facts a_this_facts_cells a_this_places a_this_told v_this_size v_this_sizeBefore (o.1) (o.2.1) (o.2.2)) := by
  refine zMet_v (own := RX5) (fun u : (Nat → Int64) × (Nat → Int32) × (Nat → Int32) => (wd_X5_flood cI cJ cZ a_this a_this_left a_this_left_rows a_this_queue a_this_queue_cells a_this_facts a_this_facts_cells a_this_places a_this_told v_this_size v_this_sizeBefore (u.1) (u.2.1) (u.2.2))) (by decide) rfl rfl (Nat.le_of_ble_eq_true rfl) ?_
  intro p e s m args below meth c A Q S hK hA hw ret ls hl
  replace hl : lv_has ls 8 [(0, .ref a_this), (1, .int i1), (2, .int i2), (3, .int i3)] := hl
  refine lv_iconst (v := 0) S.1 S.2.1 dX5_flood_0 (by decide) ?_
  refine lv_istore (lv' := [(4, .int 0), (0, .ref a_this), (1, .int i1), (2, .int i2), (3, .int i3)]) S.1 S.2.1 dX5_flood_1 hl (by decide) rfl (fun ls hl => ?_)
  refine lv_aload_n S.1 S.2.1 dX5_flood_3 rfl (lv_at hl 1 rfl) ?_
  refine z_get S (C := RX5) (T := TX5) (N := 7) (gi gu_X5) hK hw 0 rfl rfl 0 (Nat.le_of_ble_eq_true rfl) (List.mem_cons_of_mem _ gw_124) rfl dX5_flood_4 ?_
  refine lv_iload_n S.1 S.2.1 dX5_flood_7 rfl (lv_at hl 3 rfl) ?_
  refine lv_iload_n S.1 S.2.1 dX5_flood_8 rfl (lv_at hl 4 rfl) ?_
  obtain ⟨f1, hc, h⟩ := z_b1_e h
  refine z_callVv (As := [.int i2, .int i3]) (rest := []) S (c_X4_wipe l D cI cJ cZ a_this_left a_this_left_rows f_this_left_rows i2 i3 _ hc) (cwV 2 S.2.2.2.2 (gw_V gw_401 gw_402 gw_403 gw_51 gw_404) rfl rfl rfl hd_X4_wipe ⟨Nat.le_of_ble_eq_true rfl, Nat.le_of_ble_eq_true rfl⟩) hK hA hw [1, 2] (by decide) rfl rfl [none, some 0, some 1, none, none, none, none] rfl (by decide) 1 rfl rfl hl.1 rfl rfl (lv_room (Nat.le_of_ble_eq_true rfl)) ⟨Nat.zero_le _, Nat.zero_le _⟩ dX5_flood_9 (fun H locs hw => ?_)
  replace hw : zW D A s H locs (wd_X5_flood cI cJ cZ a_this a_this_left a_this_left_rows a_this_queue a_this_queue_cells a_this_facts a_this_facts_cells a_this_places a_this_told v_this_size v_this_sizeBefore f1 f_this_queue_cells f_this_facts_cells) := hw
  refine lv_aload_n S.1 S.2.1 dX5_flood_12 rfl (lv_at hl 1 rfl) ?_
  refine z_get S (C := RX5) (T := TX5) (N := 7) (gi gu_X5) hK hw 0 rfl rfl 1 (Nat.le_of_ble_eq_true rfl) (List.mem_cons_of_mem _ gw_125) rfl dX5_flood_13 ?_
  refine lv_iload S.1 S.2.1 dX5_flood_16 (lv_at hl 0 rfl) ?_
  refine lv_iload_n S.1 S.2.1 dX5_flood_18 rfl (lv_at hl 4 rfl) ?_
  refine lv_bipush (v := 60) S.1 S.2.1 dX5_flood_19 (by decide) ?_
  refine lv_imul S.1 S.2.1 dX5_flood_21 ?_
  refine lv_iload_n S.1 S.2.1 dX5_flood_22 rfl (lv_at hl 3 rfl) ?_
  refine lv_iadd S.1 S.2.1 dX5_flood_23 ?_
  obtain ⟨f2, hc, h⟩ := z_b1_e h
  refine z_callVv (As := [.int 0, .int ((i3 * 60) + i2)]) (rest := []) S (c_X3_put l D cI cJ cZ a_this_queue a_this_queue_cells 1920 f_this_queue_cells 0 ((i3 * 60) + i2) _ hc) (cwV 2 S.2.2.2.2 (gw_V gw_405 gw_326 gw_327 gw_53 gw_328) rfl rfl rfl hd_X3_put ⟨Nat.le_of_ble_eq_true rfl, Nat.le_of_ble_eq_true rfl⟩) hK hA hw [3, 4] (by decide) rfl rfl [none, none, none, some 0, some 1, none, none] rfl (by decide) 3 rfl rfl hl.1 rfl rfl (lv_room (Nat.le_of_ble_eq_true rfl)) ⟨Nat.zero_le _, Nat.zero_le _⟩ dX5_flood_24 (fun H locs hw => ?_)
  replace hw : zW D A s H locs (wd_X5_flood cI cJ cZ a_this a_this_left a_this_left_rows a_this_queue a_this_queue_cells a_this_facts a_this_facts_cells a_this_places a_this_told v_this_size v_this_sizeBefore f1 f2 f_this_facts_cells) := hw
  refine z_iinc S (i := 4) (k := 0) (v := 0 + 1) hl rfl (by decide) rfl (fun v => (4, .int v) :: [(0, .ref a_this), (1, .int i1), (2, .int i2), (3, .int i3)]) (fun _ => rfl) h dX5_flood_27 (fun y3 ls hl h => ?_)
  replace hl : lv_has ls 8 [(4, .int y3), (0, .ref a_this), (1, .int i1), (2, .int i2), (3, .int i3)] := hl
  refine lv_aload_n S.1 S.2.1 dX5_flood_30 rfl (lv_at hl 1 rfl) ?_
  refine lv_iload_n S.1 S.2.1 dX5_flood_31 rfl (lv_at hl 2 rfl) ?_
  refine lv_iconst (v := 0) S.1 S.2.1 dX5_flood_32 (by decide) ?_
  refine lv_iconst (v := 0) S.1 S.2.1 dX5_flood_33 (by decide) ?_
  obtain ⟨f4, hc, h⟩ := z_b1_e h
  refine z_callVv (As := [.int i1, .int 0, .int 0]) (rest := []) S (c_X5_putFact l D cI cJ cZ a_this a_this_left a_this_queue a_this_facts a_this_facts_cells a_this_places a_this_told v_this_size v_this_sizeBefore f_this_facts_cells i1 0 0 _ hc) (cwV 3 S.2.2.2.2 (gw_V gw_406 gw_408 gw_5 gw_54 gw_409) rfl rfl rfl hd_X5_putFact ⟨Nat.le_of_ble_eq_true rfl, Nat.le_of_ble_eq_true rfl⟩) hK hA hw [0, 5, 6] (by decide) rfl rfl [some 0, none, none, none, none, some 1, some 2] rfl (by decide) 0 rfl rfl hl.1 rfl rfl (lv_room (Nat.le_of_ble_eq_true rfl)) ⟨Nat.zero_le _, Nat.zero_le _⟩ dX5_flood_34 (fun H locs hw => ?_)
  replace hw : zW D A s H locs (wd_X5_flood cI cJ cZ a_this a_this_left a_this_left_rows a_this_queue a_this_queue_cells a_this_facts a_this_facts_cells a_this_places a_this_told v_this_size v_this_sizeBefore f1 f2 f4) := hw
  refine lv_aload_n S.1 S.2.1 dX5_flood_37 rfl (lv_at hl 1 rfl) ?_
  refine lv_iload_n S.1 S.2.1 dX5_flood_38 rfl (lv_at hl 2 rfl) ?_
  refine lv_iconst (v := 1) S.1 S.2.1 dX5_flood_39 (by decide) ?_
  refine lv_iload_n S.1 S.2.1 dX5_flood_40 rfl (lv_at hl 3 rfl) ?_
  obtain ⟨f5, hc, h⟩ := z_b1_e h
  refine z_callVv (As := [.int i1, .int 1, .int i2]) (rest := []) S (c_X5_putFact l D cI cJ cZ a_this a_this_left a_this_queue a_this_facts a_this_facts_cells a_this_places a_this_told v_this_size v_this_sizeBefore f4 i1 1 i2 _ hc) (cwV 3 S.2.2.2.2 (gw_V gw_406 gw_408 gw_5 gw_54 gw_409) rfl rfl rfl hd_X5_putFact ⟨Nat.le_of_ble_eq_true rfl, Nat.le_of_ble_eq_true rfl⟩) hK hA hw [0, 5, 6] (by decide) rfl rfl [some 0, none, none, none, none, some 1, some 2] rfl (by decide) 0 rfl rfl hl.1 rfl rfl (lv_room (Nat.le_of_ble_eq_true rfl)) ⟨Nat.zero_le _, Nat.zero_le _⟩ dX5_flood_41 (fun H locs hw => ?_)
  replace hw : zW D A s H locs (wd_X5_flood cI cJ cZ a_this a_this_left a_this_left_rows a_this_queue a_this_queue_cells a_this_facts a_this_facts_cells a_this_places a_this_told v_this_size v_this_sizeBefore f1 f2 f5) := hw
  refine lv_aload_n S.1 S.2.1 dX5_flood_44 rfl (lv_at hl 1 rfl) ?_
  refine lv_iload_n S.1 S.2.1 dX5_flood_45 rfl (lv_at hl 2 rfl) ?_
  refine lv_iconst (v := 2) S.1 S.2.1 dX5_flood_46 (by decide) ?_
  refine lv_iload_n S.1 S.2.1 dX5_flood_47 rfl (lv_at hl 4 rfl) ?_
  obtain ⟨f6, hc, h⟩ := z_b1_e h
  refine z_callVv (As := [.int i1, .int 2, .int i3]) (rest := []) S (c_X5_putFact l D cI cJ cZ a_this a_this_left a_this_queue a_this_facts a_this_facts_cells a_this_places a_this_told v_this_size v_this_sizeBefore f5 i1 2 i3 _ hc) (cwV 3 S.2.2.2.2 (gw_V gw_406 gw_408 gw_5 gw_54 gw_409) rfl rfl rfl hd_X5_putFact ⟨Nat.le_of_ble_eq_true rfl, Nat.le_of_ble_eq_true rfl⟩) hK hA hw [0, 5, 6] (by decide) rfl rfl [some 0, none, none, none, none, some 1, some 2] rfl (by decide) 0 rfl rfl hl.1 rfl rfl (lv_room (Nat.le_of_ble_eq_true rfl)) ⟨Nat.zero_le _, Nat.zero_le _⟩ dX5_flood_48 (fun H locs hw => ?_)
  replace hw : zW D A s H locs (wd_X5_flood cI cJ cZ a_this a_this_left a_this_left_rows a_this_queue a_this_queue_cells a_this_facts a_this_facts_cells a_this_places a_this_told v_this_size v_this_sizeBefore f1 f2 f6) := hw
  refine lv_aload_n S.1 S.2.1 dX5_flood_51 rfl (lv_at hl 1 rfl) ?_
  refine lv_iload_n S.1 S.2.1 dX5_flood_52 rfl (lv_at hl 2 rfl) ?_
  refine lv_iconst (v := 3) S.1 S.2.1 dX5_flood_53 (by decide) ?_
  refine lv_iload_n S.1 S.2.1 dX5_flood_54 rfl (lv_at hl 3 rfl) ?_
  obtain ⟨f7, hc, h⟩ := z_b1_e h
  refine z_callVv (As := [.int i1, .int 3, .int i2]) (rest := []) S (c_X5_putFact l D cI cJ cZ a_this a_this_left a_this_queue a_this_facts a_this_facts_cells a_this_places a_this_told v_this_size v_this_sizeBefore f6 i1 3 i2 _ hc) (cwV 3 S.2.2.2.2 (gw_V gw_406 gw_408 gw_5 gw_54 gw_409) rfl rfl rfl hd_X5_putFact ⟨Nat.le_of_ble_eq_true rfl, Nat.le_of_ble_eq_true rfl⟩) hK hA hw [0, 5, 6] (by decide) rfl rfl [some 0, none, none, none, none, some 1, some 2] rfl (by decide) 0 rfl rfl hl.1 rfl rfl (lv_room (Nat.le_of_ble_eq_true rfl)) ⟨Nat.zero_le _, Nat.zero_le _⟩ dX5_flood_55 (fun H locs hw => ?_)
  replace hw : zW D A s H locs (wd_X5_flood cI cJ cZ a_this a_this_left a_this_left_rows a_this_queue a_this_queue_cells a_this_facts a_this_facts_cells a_this_places a_this_told v_this_size v_this_sizeBefore f1 f2 f7) := hw
  refine lv_aload_n S.1 S.2.1 dX5_flood_58 rfl (lv_at hl 1 rfl) ?_
  refine lv_iload_n S.1 S.2.1 dX5_flood_59 rfl (lv_at hl 2 rfl) ?_
  refine lv_iconst (v := 4) S.1 S.2.1 dX5_flood_60 (by decide) ?_
  refine lv_iload_n S.1 S.2.1 dX5_flood_61 rfl (lv_at hl 4 rfl) ?_
  obtain ⟨f8, hc, h⟩ := z_b1_e h
  refine z_callVv (As := [.int i1, .int 4, .int i3]) (rest := []) S (c_X5_putFact l D cI cJ cZ a_this a_this_left a_this_queue a_this_facts a_this_facts_cells a_this_places a_this_told v_this_size v_this_sizeBefore f7 i1 4 i3 _ hc) (cwV 3 S.2.2.2.2 (gw_V gw_406 gw_408 gw_5 gw_54 gw_409) rfl rfl rfl hd_X5_putFact ⟨Nat.le_of_ble_eq_true rfl, Nat.le_of_ble_eq_true rfl⟩) hK hA hw [0, 5, 6] (by decide) rfl rfl [some 0, none, none, none, none, some 1, some 2] rfl (by decide) 0 rfl rfl hl.1 rfl rfl (lv_room (Nat.le_of_ble_eq_true rfl)) ⟨Nat.zero_le _, Nat.zero_le _⟩ dX5_flood_62 (fun H locs hw => ?_)
  replace hw : zW D A s H locs (wd_X5_flood cI cJ cZ a_this a_this_left a_this_left_rows a_this_queue a_this_queue_cells a_this_facts a_this_facts_cells a_this_places a_this_told v_this_size v_this_sizeBefore f1 f2 f8) := hw
  refine lv_iconst (v := 0) S.1 S.2.1 dX5_flood_65 (by decide) ?_
  refine lv_istore (lv' := [(5, .int 0), (4, .int y3), (0, .ref a_this), (1, .int i1), (2, .int i2), (3, .int i3)]) S.1 S.2.1 dX5_flood_66 hl (by decide) rfl (fun ls hl => ?_)
  have L_68 : ∀ (n68_13 : Nat) (f9 : Nat → Int64) (f10 : Nat → Int32) (f11 : Nat → Int32) (x12 : Int32) (x13 : Int32) (h : z_lp5 (p_X5_flood_l68 i1 K) n68_13 f9 f10 f11 x12 x13 = some o) (H : Heap) (locs : List Loc) (ls : Array Slot), zW D A s H locs (wd_X5_flood cI cJ cZ a_this a_this_left a_this_left_rows a_this_queue a_this_queue_cells a_this_facts a_this_facts_cells a_this_places a_this_told v_this_size v_this_sizeBefore f9 f10 f11) → lv_has ls 8 [(0, .ref a_this), (1, .int i1), (4, .int x12), (5, .int x13)] → W p l e (headSpec gs_X5_flood rm_X5_flood).room s m args below meth c H locs 0 0 Q (F0 m 68 ls []) := by
    intro n68_13
    induction n68_13 with
    | zero => intro f9 f10 f11 x12 x13 h; exact z_no h
    | succ n68_13 ih_68 =>
      intro f9 f10 f11 x12 x13 h H locs ls hw hl
      replace h : (p_X5_flood_l68 i1 K) (z_lp5 (p_X5_flood_l68 i1 K) n68_13) f9 f10 f11 x12 x13 = some o := h
      refine lv_iload S.1 S.2.1 dX5_flood_68 (lv_at hl 3 rfl) ?_
      refine lv_iload S.1 S.2.1 dX5_flood_70 (lv_at hl 2 rfl) ?_
      refine z_icmp_ge S (tgt := 138) h dX5_flood_72 (by decide) (fun h => ?_) (fun h => ?_)
      · exact ret (f9, f10, f11) h 138 ls _ _ dX5_flood_138 hw
      · refine lv_iload S.1 S.2.1 dX5_flood_75 (lv_at hl 3 rfl) ?_
        refine lv_sipush (v := 1920) S.1 S.2.1 dX5_flood_77 (by decide) ?_
        refine z_icmp_ge S (tgt := 138) h dX5_flood_80 (by decide) (fun h => ?_) (fun h => ?_)
        · exact ret (f9, f10, f11) h 138 ls _ _ dX5_flood_138 hw
        · refine lv_aload_n S.1 S.2.1 dX5_flood_83 rfl (lv_at hl 0 rfl) ?_
          refine z_get S (C := RX5) (T := TX5) (N := 7) (gi gu_X5) hK hw 0 rfl rfl 1 (Nat.le_of_ble_eq_true rfl) (List.mem_cons_of_mem _ gw_125) rfl dX5_flood_84 ?_
          refine lv_iload S.1 S.2.1 dX5_flood_87 (lv_at hl 3 rfl) ?_
          obtain ⟨y14, hc, h⟩ := z_b1_e h
          refine z_callVi (As := [.int x13]) (rest := []) S (c_X3_get l D cI cJ cZ a_this_queue a_this_queue_cells 1920 f10 x13 _ hc) (cwV 1 S.2.2.2.2 (gw_V gw_410 gw_342 gw_343 gw_53 gw_344) rfl rfl rfl hd_X3_get ⟨Nat.le_of_ble_eq_true rfl, Nat.le_of_ble_eq_true rfl⟩) hK hA hw [3, 4] (by decide) rfl rfl [none, none, none, some 0, some 1, none, none] rfl (by decide) 3 rfl rfl hl.1 rfl rfl (lv_room (Nat.le_of_ble_eq_true rfl)) ⟨Nat.zero_le _, Nat.zero_le _⟩ dX5_flood_89 (fun H locs hw => ?_)
          replace hw : zW D A s H locs (wd_X5_flood cI cJ cZ a_this a_this_left a_this_left_rows a_this_queue a_this_queue_cells a_this_facts a_this_facts_cells a_this_places a_this_told v_this_size v_this_sizeBefore f9 f10 f11) := hw
          refine lv_bipush (v := 60) S.1 S.2.1 dX5_flood_92 (by decide) ?_
          refine z_irem S h dX5_flood_94 (fun y15 h => ?_)
          refine lv_istore (lv' := [(6, .int y15), (0, .ref a_this), (1, .int i1), (4, .int x12), (5, .int x13)]) S.1 S.2.1 dX5_flood_95 hl (by decide) rfl (fun ls hl => ?_)
          refine lv_aload_n S.1 S.2.1 dX5_flood_97 rfl (lv_at hl 1 rfl) ?_
          refine z_get S (C := RX5) (T := TX5) (N := 7) (gi gu_X5) hK hw 0 rfl rfl 1 (Nat.le_of_ble_eq_true rfl) (List.mem_cons_of_mem _ gw_125) rfl dX5_flood_98 ?_
          refine lv_iload S.1 S.2.1 dX5_flood_101 (lv_at hl 4 rfl) ?_
          obtain ⟨y16, hc, h⟩ := z_b1_e h
          refine z_callVi (As := [.int x13]) (rest := []) S (c_X3_get l D cI cJ cZ a_this_queue a_this_queue_cells 1920 f10 x13 _ hc) (cwV 1 S.2.2.2.2 (gw_V gw_410 gw_342 gw_343 gw_53 gw_344) rfl rfl rfl hd_X3_get ⟨Nat.le_of_ble_eq_true rfl, Nat.le_of_ble_eq_true rfl⟩) hK hA hw [3, 4] (by decide) rfl rfl [none, none, none, some 0, some 1, none, none] rfl (by decide) 3 rfl rfl hl.1 rfl rfl (lv_room (Nat.le_of_ble_eq_true rfl)) ⟨Nat.zero_le _, Nat.zero_le _⟩ dX5_flood_103 (fun H locs hw => ?_)
          replace hw : zW D A s H locs (wd_X5_flood cI cJ cZ a_this a_this_left a_this_left_rows a_this_queue a_this_queue_cells a_this_facts a_this_facts_cells a_this_places a_this_told v_this_size v_this_sizeBefore f9 f10 f11) := hw
          refine lv_bipush (v := 60) S.1 S.2.1 dX5_flood_106 (by decide) ?_
          refine z_idiv S h dX5_flood_108 (fun y17 h => ?_)
          refine lv_istore (lv' := [(7, .int y17), (6, .int y15), (0, .ref a_this), (1, .int i1), (4, .int x12), (5, .int x13)]) S.1 S.2.1 dX5_flood_109 hl (by decide) rfl (fun ls hl => ?_)
          refine lv_aload_n S.1 S.2.1 dX5_flood_111 rfl (lv_at hl 2 rfl) ?_
          refine lv_iload_n S.1 S.2.1 dX5_flood_112 rfl (lv_at hl 3 rfl) ?_
          refine lv_iload S.1 S.2.1 dX5_flood_113 (lv_at hl 1 rfl) ?_
          refine lv_iload S.1 S.2.1 dX5_flood_115 (lv_at hl 0 rfl) ?_
          obtain ⟨f18, hc, h⟩ := z_b1_e h
          refine z_callVv (As := [.int i1, .int y15, .int y17]) (rest := []) S (c_X5_include l D cI cJ cZ a_this a_this_left a_this_queue a_this_facts a_this_facts_cells a_this_places a_this_told v_this_size v_this_sizeBefore f11 i1 y15 y17 _ hc) (cwV 3 S.2.2.2.2 (gw_V gw_411 gw_413 gw_6 gw_54 gw_414) rfl rfl rfl hd_X5_include ⟨Nat.le_of_ble_eq_true rfl, Nat.le_of_ble_eq_true rfl⟩) hK hA hw [0, 5, 6] (by decide) rfl rfl [some 0, none, none, none, none, some 1, some 2] rfl (by decide) 0 rfl rfl hl.1 rfl rfl (lv_room (Nat.le_of_ble_eq_true rfl)) ⟨Nat.zero_le _, Nat.zero_le _⟩ dX5_flood_117 (fun H locs hw => ?_)
          replace hw : zW D A s H locs (wd_X5_flood cI cJ cZ a_this a_this_left a_this_left_rows a_this_queue a_this_queue_cells a_this_facts a_this_facts_cells a_this_places a_this_told v_this_size v_this_sizeBefore f9 f10 f18) := hw
          refine lv_aload_n S.1 S.2.1 dX5_flood_120 rfl (lv_at hl 2 rfl) ?_
          refine lv_iload S.1 S.2.1 dX5_flood_121 (lv_at hl 1 rfl) ?_
          refine lv_iload S.1 S.2.1 dX5_flood_123 (lv_at hl 0 rfl) ?_
          refine lv_iload S.1 S.2.1 dX5_flood_125 (lv_at hl 4 rfl) ?_
          obtain ⟨y19, f20, f21, hc, h⟩ := z_b3_e h
          refine z_callVi (As := [.int y15, .int y17, .int x12]) (rest := []) S (c_X5_queueNeighbours l D cI cJ cZ a_this a_this_left a_this_left_rows a_this_queue a_this_queue_cells a_this_facts a_this_places a_this_told v_this_size v_this_sizeBefore f9 f10 K y15 y17 x12 _ hc) (cwV 3 S.2.2.2.2 (gw_V gw_421 gw_423 gw_8 gw_54 gw_424) rfl rfl rfl hd_X5_queueNeighbours ⟨Nat.le_of_ble_eq_true rfl, Nat.le_of_ble_eq_true rfl⟩) hK hA hw [0, 1, 2, 3, 4] (by decide) rfl rfl [some 0, some 1, some 2, some 3, some 4, none, none] rfl (by decide) 0 rfl rfl hl.1 rfl rfl (lv_room (Nat.le_of_ble_eq_true rfl)) ⟨Nat.zero_le _, Nat.zero_le _⟩ dX5_flood_127 (fun H locs hw => ?_)
          replace hw : zW D A s H locs (wd_X5_flood cI cJ cZ a_this a_this_left a_this_left_rows a_this_queue a_this_queue_cells a_this_facts a_this_facts_cells a_this_places a_this_told v_this_size v_this_sizeBefore f20 f21 f18) := hw
          refine lv_istore (lv' := [(4, .int y19), (7, .int y17), (6, .int y15), (0, .ref a_this), (1, .int i1), (5, .int x13)]) S.1 S.2.1 dX5_flood_130 hl (by decide) rfl (fun ls hl => ?_)
          refine z_iinc S (i := 5) (k := 5) (v := x13 + 1) hl rfl (by decide) rfl (fun v => (5, .int v) :: [(4, .int y19), (7, .int y17), (6, .int y15), (0, .ref a_this), (1, .int i1)]) (fun _ => rfl) h dX5_flood_132 (fun y22 ls hl h => ?_)
          replace hl : lv_has ls 8 [(5, .int y22), (4, .int y19), (7, .int y17), (6, .int y15), (0, .ref a_this), (1, .int i1)] := hl
          refine lv_goto (tgt := 68) S.1 S.2.1 dX5_flood_135 (by decide) ?_
          exact ih_68 f20 f21 f18 y19 y22 h _ _ ls hw (lv_sub hl [4, 5, 1, 0] rfl)
  exact L_68 K f1 f2 f8 y3 0 h _ _ ls hw (lv_sub hl [2, 3, 1, 0] rfl)
def gs_X5_isAhead : List Cond := Cond.code yX5_isAhead cX5_isAhead 3 (some .boolean) :: GW
def wd_X5_isAhead (cI cJ cZ : ClassId) (a_this a_this_left a_this_queue a_this_facts a_this_facts_cells a_this_places a_this_told : Nat) (v_this_size : Int32) (v_this_sizeBefore : Int32) (f_this_facts_cells : Nat → Int32) : va_W := [(a_this, .inr (5, [.ref a_this_left, .ref a_this_queue, .ref a_this_facts, .ref a_this_places, .ref a_this_told, .int v_this_size, .int v_this_sizeBefore])), (a_this_facts, .inr (3, [.ref a_this_facts_cells])), (a_this_facts_cells, .inl (cI, 240, .inl f_this_facts_cells))]
abbrev rm_X5_isAhead : Room := { frames := 2, cells := 0, slots := 0, locals := 43 }
theorem hd_X5_isAhead : yX5_isAhead.cls = RX5 ∧ yX5_isAhead.cls ≠ "java/lang/invoke/MethodHandle" ∧ yX5_isAhead.cls ≠ "java/lang/invoke/VarHandle" ∧ (parseMethodDescriptor yX5_isAhead.desc).map (fun d => d.parameters.length) = some 2 := by decide +kernel
set_option maxHeartbeats 4000000 in
set_option maxRecDepth 100000 in
theorem c_X5_isAhead (l : Launch) (D : va_G) (cI cJ cZ : ClassId) (a_this a_this_left a_this_queue a_this_facts a_this_facts_cells a_this_places a_this_told : Nat) (v_this_size : Int32) (v_this_sizeBefore : Int32) (f_this_facts_cells : Nat → Int32) (i1 : Int32) (i2 : Int32) (o : Int32) (h : p_X5_isAhead f_this_facts_cells i1 i2 = some o) : zMi l D (zT cI cJ cZ) yX5_isAhead gs_X5_isAhead rm_X5_isAhead [.ref a_this, .int i1, .int i2] (wd_X5_isAhead cI cJ cZ a_this a_this_left a_this_queue a_this_facts a_this_facts_cells a_this_places a_this_told v_this_size v_this_sizeBefore f_this_facts_cells) (wd_X5_isAhead cI cJ cZ a_this a_this_left a_this_queue a_this_facts a_this_facts_cells a_this_places a_this_told v_this_size v_this_sizeBefore f_this_facts_cells) (o) := by
  refine zMet_z (own := RX5) (fun u : Int32 => (wd_X5_isAhead cI cJ cZ a_this a_this_left a_this_queue a_this_facts a_this_facts_cells a_this_places a_this_told v_this_size v_this_sizeBefore f_this_facts_cells)) (fun u : Int32 => u) (by decide) rfl rfl (Nat.le_of_ble_eq_true rfl) ?_
  intro p e s m args below meth c A Q S hK hA hw ret ls hl
  replace hl : lv_has ls 3 [(0, .ref a_this), (1, .int i1), (2, .int i2)] := hl
  refine lv_aload_n S.1 S.2.1 dX5_isAhead_0 rfl (lv_at hl 0 rfl) ?_
  refine lv_iload_n S.1 S.2.1 dX5_isAhead_1 rfl (lv_at hl 1 rfl) ?_
  refine lv_iconst (v := 1) S.1 S.2.1 dX5_isAhead_2 (by decide) ?_
  obtain ⟨y1, hc, h⟩ := z_b1_e h
  refine z_callVi (As := [.int i1, .int 1]) (rest := []) S (c_X5_factAt l D cI cJ cZ a_this a_this_left a_this_queue a_this_facts a_this_facts_cells a_this_places a_this_told v_this_size v_this_sizeBefore f_this_facts_cells i1 1 _ hc) (cwV 2 S.2.2.2.2 (gw_V gw_415 gw_417 gw_7 gw_54 gw_418) rfl rfl rfl hd_X5_factAt ⟨Nat.le_of_ble_eq_true rfl, Nat.le_of_ble_eq_true rfl⟩) hK hA hw [0, 1, 2] (by decide) rfl rfl [some 0, some 1, some 2] rfl (by decide) 0 rfl rfl hl.1 rfl rfl (lv_room (Nat.le_of_ble_eq_true rfl)) ⟨Nat.zero_le _, Nat.zero_le _⟩ dX5_isAhead_3 (fun H locs hw => ?_)
  replace hw : zW D A s H locs (wd_X5_isAhead cI cJ cZ a_this a_this_left a_this_queue a_this_facts a_this_facts_cells a_this_places a_this_told v_this_size v_this_sizeBefore f_this_facts_cells) := hw
  refine lv_aload_n S.1 S.2.1 dX5_isAhead_6 rfl (lv_at hl 0 rfl) ?_
  refine lv_iload_n S.1 S.2.1 dX5_isAhead_7 rfl (lv_at hl 2 rfl) ?_
  refine lv_iconst (v := 1) S.1 S.2.1 dX5_isAhead_8 (by decide) ?_
  obtain ⟨y2, hc, h⟩ := z_b1_e h
  refine z_callVi (As := [.int i2, .int 1]) (rest := [.int y1]) S (c_X5_factAt l D cI cJ cZ a_this a_this_left a_this_queue a_this_facts a_this_facts_cells a_this_places a_this_told v_this_size v_this_sizeBefore f_this_facts_cells i2 1 _ hc) (cwV 2 S.2.2.2.2 (gw_V gw_415 gw_417 gw_7 gw_54 gw_418) rfl rfl rfl hd_X5_factAt ⟨Nat.le_of_ble_eq_true rfl, Nat.le_of_ble_eq_true rfl⟩) hK hA hw [0, 1, 2] (by decide) rfl rfl [some 0, some 1, some 2] rfl (by decide) 0 rfl rfl hl.1 rfl rfl (lv_room (Nat.le_of_ble_eq_true rfl)) ⟨Nat.zero_le _, Nat.zero_le _⟩ dX5_isAhead_9 (fun H locs hw => ?_)
  replace hw : zW D A s H locs (wd_X5_isAhead cI cJ cZ a_this a_this_left a_this_queue a_this_facts a_this_facts_cells a_this_places a_this_told v_this_size v_this_sizeBefore f_this_facts_cells) := hw
  refine z_icmp_eq S (tgt := 36) h dX5_isAhead_12 (by decide) (fun h => ?_) (fun h => ?_)
  · refine lv_aload_n S.1 S.2.1 dX5_isAhead_36 rfl (lv_at hl 0 rfl) ?_
    refine lv_iload_n S.1 S.2.1 dX5_isAhead_37 rfl (lv_at hl 1 rfl) ?_
    refine lv_iconst (v := 2) S.1 S.2.1 dX5_isAhead_38 (by decide) ?_
    obtain ⟨y3, hc, h⟩ := z_b1_e h
    refine z_callVi (As := [.int i1, .int 2]) (rest := []) S (c_X5_factAt l D cI cJ cZ a_this a_this_left a_this_queue a_this_facts a_this_facts_cells a_this_places a_this_told v_this_size v_this_sizeBefore f_this_facts_cells i1 2 _ hc) (cwV 2 S.2.2.2.2 (gw_V gw_415 gw_417 gw_7 gw_54 gw_418) rfl rfl rfl hd_X5_factAt ⟨Nat.le_of_ble_eq_true rfl, Nat.le_of_ble_eq_true rfl⟩) hK hA hw [0, 1, 2] (by decide) rfl rfl [some 0, some 1, some 2] rfl (by decide) 0 rfl rfl hl.1 rfl rfl (lv_room (Nat.le_of_ble_eq_true rfl)) ⟨Nat.zero_le _, Nat.zero_le _⟩ dX5_isAhead_39 (fun H locs hw => ?_)
    replace hw : zW D A s H locs (wd_X5_isAhead cI cJ cZ a_this a_this_left a_this_queue a_this_facts a_this_facts_cells a_this_places a_this_told v_this_size v_this_sizeBefore f_this_facts_cells) := hw
    refine lv_aload_n S.1 S.2.1 dX5_isAhead_42 rfl (lv_at hl 0 rfl) ?_
    refine lv_iload_n S.1 S.2.1 dX5_isAhead_43 rfl (lv_at hl 2 rfl) ?_
    refine lv_iconst (v := 2) S.1 S.2.1 dX5_isAhead_44 (by decide) ?_
    obtain ⟨y4, hc, h⟩ := z_b1_e h
    refine z_callVi (As := [.int i2, .int 2]) (rest := [.int y3]) S (c_X5_factAt l D cI cJ cZ a_this a_this_left a_this_queue a_this_facts a_this_facts_cells a_this_places a_this_told v_this_size v_this_sizeBefore f_this_facts_cells i2 2 _ hc) (cwV 2 S.2.2.2.2 (gw_V gw_415 gw_417 gw_7 gw_54 gw_418) rfl rfl rfl hd_X5_factAt ⟨Nat.le_of_ble_eq_true rfl, Nat.le_of_ble_eq_true rfl⟩) hK hA hw [0, 1, 2] (by decide) rfl rfl [some 0, some 1, some 2] rfl (by decide) 0 rfl rfl hl.1 rfl rfl (lv_room (Nat.le_of_ble_eq_true rfl)) ⟨Nat.zero_le _, Nat.zero_le _⟩ dX5_isAhead_45 (fun H locs hw => ?_)
    replace hw : zW D A s H locs (wd_X5_isAhead cI cJ cZ a_this a_this_left a_this_queue a_this_facts a_this_facts_cells a_this_places a_this_told v_this_size v_this_sizeBefore f_this_facts_cells) := hw
    refine z_icmp_ge S (tgt := 55) h dX5_isAhead_48 (by decide) (fun h => ?_) (fun h => ?_)
    · refine lv_iconst (v := 0) S.1 S.2.1 dX5_isAhead_55 (by decide) ?_
      exact ret 0 h (z_nb (Or.inl rfl)) 56 ls _ _ dX5_isAhead_56 hw
    · refine lv_iconst (v := 1) S.1 S.2.1 dX5_isAhead_51 (by decide) ?_
      refine lv_goto (tgt := 56) S.1 S.2.1 dX5_isAhead_52 (by decide) ?_
      exact ret 1 h (z_nb (Or.inr rfl)) 56 ls _ _ dX5_isAhead_56 hw
  · refine lv_aload_n S.1 S.2.1 dX5_isAhead_15 rfl (lv_at hl 0 rfl) ?_
    refine lv_iload_n S.1 S.2.1 dX5_isAhead_16 rfl (lv_at hl 1 rfl) ?_
    refine lv_iconst (v := 1) S.1 S.2.1 dX5_isAhead_17 (by decide) ?_
    obtain ⟨y5, hc, h⟩ := z_b1_e h
    refine z_callVi (As := [.int i1, .int 1]) (rest := []) S (c_X5_factAt l D cI cJ cZ a_this a_this_left a_this_queue a_this_facts a_this_facts_cells a_this_places a_this_told v_this_size v_this_sizeBefore f_this_facts_cells i1 1 _ hc) (cwV 2 S.2.2.2.2 (gw_V gw_415 gw_417 gw_7 gw_54 gw_418) rfl rfl rfl hd_X5_factAt ⟨Nat.le_of_ble_eq_true rfl, Nat.le_of_ble_eq_true rfl⟩) hK hA hw [0, 1, 2] (by decide) rfl rfl [some 0, some 1, some 2] rfl (by decide) 0 rfl rfl hl.1 rfl rfl (lv_room (Nat.le_of_ble_eq_true rfl)) ⟨Nat.zero_le _, Nat.zero_le _⟩ dX5_isAhead_18 (fun H locs hw => ?_)
    replace hw : zW D A s H locs (wd_X5_isAhead cI cJ cZ a_this a_this_left a_this_queue a_this_facts a_this_facts_cells a_this_places a_this_told v_this_size v_this_sizeBefore f_this_facts_cells) := hw
    refine lv_aload_n S.1 S.2.1 dX5_isAhead_21 rfl (lv_at hl 0 rfl) ?_
    refine lv_iload_n S.1 S.2.1 dX5_isAhead_22 rfl (lv_at hl 2 rfl) ?_
    refine lv_iconst (v := 1) S.1 S.2.1 dX5_isAhead_23 (by decide) ?_
    obtain ⟨y6, hc, h⟩ := z_b1_e h
    refine z_callVi (As := [.int i2, .int 1]) (rest := [.int y5]) S (c_X5_factAt l D cI cJ cZ a_this a_this_left a_this_queue a_this_facts a_this_facts_cells a_this_places a_this_told v_this_size v_this_sizeBefore f_this_facts_cells i2 1 _ hc) (cwV 2 S.2.2.2.2 (gw_V gw_415 gw_417 gw_7 gw_54 gw_418) rfl rfl rfl hd_X5_factAt ⟨Nat.le_of_ble_eq_true rfl, Nat.le_of_ble_eq_true rfl⟩) hK hA hw [0, 1, 2] (by decide) rfl rfl [some 0, some 1, some 2] rfl (by decide) 0 rfl rfl hl.1 rfl rfl (lv_room (Nat.le_of_ble_eq_true rfl)) ⟨Nat.zero_le _, Nat.zero_le _⟩ dX5_isAhead_24 (fun H locs hw => ?_)
    replace hw : zW D A s H locs (wd_X5_isAhead cI cJ cZ a_this a_this_left a_this_queue a_this_facts a_this_facts_cells a_this_places a_this_told v_this_size v_this_sizeBefore f_this_facts_cells) := hw
    refine z_icmp_ge S (tgt := 34) h dX5_isAhead_27 (by decide) (fun h => ?_) (fun h => ?_)
    · refine lv_iconst (v := 0) S.1 S.2.1 dX5_isAhead_34 (by decide) ?_
      exact ret 0 h (z_nb (Or.inl rfl)) 35 ls _ _ dX5_isAhead_35 hw
    · refine lv_iconst (v := 1) S.1 S.2.1 dX5_isAhead_30 (by decide) ?_
      refine lv_goto (tgt := 35) S.1 S.2.1 dX5_isAhead_31 (by decide) ?_
      exact ret 1 h (z_nb (Or.inr rfl)) 35 ls _ _ dX5_isAhead_35 hw
theorem gw_127 : Cond.fieldLink RX5 30 "ScoreReader$Signs" "places" "LScoreReader$Row;" ∈ GW := GW_of 127 (by decide +kernel) (by decide +kernel)
theorem gw_429 : Cond.methodLink RX5 110 yX5_isAhead ∈ GW := GW_of 429 (by decide +kernel) (by decide +kernel)
theorem gw_432 : Cond.code yX5_isAhead cX5_isAhead 3 (some .boolean) ∈ GW := GW_of 432 (by decide +kernel) (by decide +kernel)
theorem gw_431 : Cond.instanceMethod yX5_isAhead ∈ GW := GW_of 431 (by decide +kernel) (by decide +kernel)
theorem gw_10 : Cond.selects RX5 yX5_isAhead yX5_isAhead ∈ GW := GW_of 10 (by decide +kernel) (by decide +kernel)
def gs_X5_order : List Cond := Cond.code yX5_order cX5_order 3 none :: GW
def wd_X5_order (cI cJ cZ : ClassId) (a_this a_this_left a_this_queue a_this_facts a_this_facts_cells a_this_places a_this_places_cells a_this_told : Nat) (v_this_size : Int32) (v_this_sizeBefore : Int32) (f_this_facts_cells : Nat → Int32) (f_this_places_cells : Nat → Int32) : va_W := [(a_this, .inr (5, [.ref a_this_left, .ref a_this_queue, .ref a_this_facts, .ref a_this_places, .ref a_this_told, .int v_this_size, .int v_this_sizeBefore])), (a_this_facts, .inr (3, [.ref a_this_facts_cells])), (a_this_facts_cells, .inl (cI, 240, .inl f_this_facts_cells)), (a_this_places, .inr (3, [.ref a_this_places_cells])), (a_this_places_cells, .inl (cI, 40, .inl f_this_places_cells))]
abbrev rm_X5_order : Room := { frames := 3, cells := 0, slots := 0, locals := 65 }
theorem hd_X5_order : yX5_order.cls = RX5 ∧ yX5_order.cls ≠ "java/lang/invoke/MethodHandle" ∧ yX5_order.cls ≠ "java/lang/invoke/VarHandle" ∧ (parseMethodDescriptor yX5_order.desc).map (fun d => d.parameters.length) = some 1 := by decide +kernel
set_option maxHeartbeats 4000000 in
set_option maxRecDepth 100000 in
theorem c_X5_order (l : Launch) (D : va_G) (cI cJ cZ : ClassId) (a_this a_this_left a_this_queue a_this_facts a_this_facts_cells a_this_places a_this_places_cells a_this_told : Nat) (v_this_size : Int32) (v_this_sizeBefore : Int32) (f_this_facts_cells : Nat → Int32) (f_this_places_cells : Nat → Int32) (K : Nat) (i1 : Int32) (o : (Nat → Int32)) (h : p_X5_order K f_this_facts_cells f_this_places_cells i1 = some o) : zMv l D (zT cI cJ cZ) yX5_order gs_X5_order rm_X5_order [.ref a_this, .int i1] (wd_X5_order cI cJ cZ a_this a_this_left a_this_queue a_this_facts a_this_facts_cells a_this_places a_this_places_cells a_this_told v_this_size v_this_sizeBefore f_this_facts_cells f_this_places_cells) (wd_X5_order cI cJ cZ a_this a_this_left a_this_queue a_this_facts a_this_facts_cells a_this_places a_this_places_cells a_this_told v_this_size v_this_sizeBefore f_this_facts_cells o) := by
  refine zMet_v (own := RX5) (fun u : (Nat → Int32) => (wd_X5_order cI cJ cZ a_this a_this_left a_this_queue a_this_facts a_this_facts_cells a_this_places a_this_places_cells a_this_told v_this_size v_this_sizeBefore f_this_facts_cells u)) (by decide) rfl rfl (Nat.le_of_ble_eq_true rfl) ?_
  intro p e s m args below meth c A Q S hK hA hw ret ls hl
  replace hl : lv_has ls 3 [(0, .ref a_this), (1, .int i1)] := hl
  refine lv_iload_n S.1 S.2.1 dX5_order_0 rfl (lv_at hl 1 rfl) ?_
  refine lv_istore_n (lv' := [(2, .int i1), (0, .ref a_this), (1, .int i1)]) S.1 S.2.1 dX5_order_1 rfl hl (by decide) rfl (fun ls hl => ?_)
  have J_48 : ∀ (f1 : Nat → Int32) (x2 : Int32) (h : (p_X5_order_j48 i1) f1 x2 = some o) (H : Heap) (locs : List Loc) (ls : Array Slot), zW D A s H locs (wd_X5_order cI cJ cZ a_this a_this_left a_this_queue a_this_facts a_this_facts_cells a_this_places a_this_places_cells a_this_told v_this_size v_this_sizeBefore f_this_facts_cells f1) → lv_has ls 3 [(0, .ref a_this), (1, .int i1), (2, .int x2)] → W p l e (headSpec gs_X5_order rm_X5_order).room s m args below meth c H locs 0 0 Q (F0 m 48 ls []) := by
    intro f1 x2 h H locs ls hw hl
    refine lv_aload_n S.1 S.2.1 dX5_order_48 rfl (lv_at hl 0 rfl) ?_
    refine z_get S (C := RX5) (T := TX5) (N := 7) (gi gu_X5) hK hw 0 rfl rfl 3 (Nat.le_of_ble_eq_true rfl) (List.mem_cons_of_mem _ gw_127) rfl dX5_order_49 ?_
    refine lv_iload_n S.1 S.2.1 dX5_order_52 rfl (lv_at hl 2 rfl) ?_
    refine lv_iload_n S.1 S.2.1 dX5_order_53 rfl (lv_at hl 1 rfl) ?_
    obtain ⟨f3, hc, h⟩ := z_b1_e h
    refine z_callVv (As := [.int x2, .int i1]) (rest := []) S (c_X3_put l D cI cJ cZ a_this_places a_this_places_cells 40 f1 x2 i1 _ hc) (cwV 2 S.2.2.2.2 (gw_V gw_405 gw_326 gw_327 gw_53 gw_328) rfl rfl rfl hd_X3_put ⟨Nat.le_of_ble_eq_true rfl, Nat.le_of_ble_eq_true rfl⟩) hK hA hw [3, 4] (by decide) rfl rfl [none, none, none, some 0, some 1] rfl (by decide) 3 rfl rfl hl.1 rfl rfl (lv_room (Nat.le_of_ble_eq_true rfl)) ⟨Nat.zero_le _, Nat.zero_le _⟩ dX5_order_54 (fun H locs hw => ?_)
    replace hw : zW D A s H locs (wd_X5_order cI cJ cZ a_this a_this_left a_this_queue a_this_facts a_this_facts_cells a_this_places a_this_places_cells a_this_told v_this_size v_this_sizeBefore f_this_facts_cells f3) := hw
    exact ret f3 h 57 ls _ _ dX5_order_57 hw
  have L_2 : ∀ (n2_5 : Nat) (f4 : Nat → Int32) (x5 : Int32) (h : z_lp2 (p_X5_order_l2 f_this_facts_cells i1 (p_X5_order_j48 i1)) n2_5 f4 x5 = some o) (H : Heap) (locs : List Loc) (ls : Array Slot), zW D A s H locs (wd_X5_order cI cJ cZ a_this a_this_left a_this_queue a_this_facts a_this_facts_cells a_this_places a_this_places_cells a_this_told v_this_size v_this_sizeBefore f_this_facts_cells f4) → lv_has ls 3 [(0, .ref a_this), (1, .int i1), (2, .int x5)] → W p l e (headSpec gs_X5_order rm_X5_order).room s m args below meth c H locs 0 0 Q (F0 m 2 ls []) := by
    intro n2_5
    induction n2_5 with
    | zero => intro f4 x5 h; exact z_no h
    | succ n2_5 ih_2 =>
      intro f4 x5 h H locs ls hw hl
      replace h : (p_X5_order_l2 f_this_facts_cells i1 (p_X5_order_j48 i1)) (z_lp2 (p_X5_order_l2 f_this_facts_cells i1 (p_X5_order_j48 i1)) n2_5) f4 x5 = some o := h
      refine lv_iload_n S.1 S.2.1 dX5_order_2 rfl (lv_at hl 2 rfl) ?_
      refine z_if_le S (tgt := 48) h dX5_order_3 (by decide) (fun h => ?_) (fun h => ?_)
      · exact J_48 f4 x5 h _ _ ls hw (lv_sub hl [0, 1, 2] rfl)
      · refine lv_aload_n S.1 S.2.1 dX5_order_6 rfl (lv_at hl 0 rfl) ?_
        refine lv_iload_n S.1 S.2.1 dX5_order_7 rfl (lv_at hl 1 rfl) ?_
        refine lv_aload_n S.1 S.2.1 dX5_order_8 rfl (lv_at hl 0 rfl) ?_
        refine z_get S (C := RX5) (T := TX5) (N := 7) (gi gu_X5) hK hw 0 rfl rfl 3 (Nat.le_of_ble_eq_true rfl) (List.mem_cons_of_mem _ gw_127) rfl dX5_order_9 ?_
        refine lv_iload_n S.1 S.2.1 dX5_order_12 rfl (lv_at hl 2 rfl) ?_
        refine lv_iconst (v := 1) S.1 S.2.1 dX5_order_13 (by decide) ?_
        refine lv_isub S.1 S.2.1 dX5_order_14 ?_
        obtain ⟨y6, hc, h⟩ := z_b1_e h
        refine z_callVi (As := [.int (x5 - 1)]) (rest := [.int i1, .ref a_this]) S (c_X3_get l D cI cJ cZ a_this_places a_this_places_cells 40 f4 (x5 - 1) _ hc) (cwV 1 S.2.2.2.2 (gw_V gw_410 gw_342 gw_343 gw_53 gw_344) rfl rfl rfl hd_X3_get ⟨Nat.le_of_ble_eq_true rfl, Nat.le_of_ble_eq_true rfl⟩) hK hA hw [3, 4] (by decide) rfl rfl [none, none, none, some 0, some 1] rfl (by decide) 3 rfl rfl hl.1 rfl rfl (lv_room (Nat.le_of_ble_eq_true rfl)) ⟨Nat.zero_le _, Nat.zero_le _⟩ dX5_order_15 (fun H locs hw => ?_)
        replace hw : zW D A s H locs (wd_X5_order cI cJ cZ a_this a_this_left a_this_queue a_this_facts a_this_facts_cells a_this_places a_this_places_cells a_this_told v_this_size v_this_sizeBefore f_this_facts_cells f4) := hw
        obtain ⟨y7, hc, h⟩ := z_b1_e h
        refine z_callVi (As := [.int i1, .int y6]) (rest := []) S (c_X5_isAhead l D cI cJ cZ a_this a_this_left a_this_queue a_this_facts a_this_facts_cells a_this_places a_this_told v_this_size v_this_sizeBefore f_this_facts_cells i1 y6 _ hc) (cwV 2 S.2.2.2.2 (gw_V gw_429 gw_431 gw_10 gw_54 gw_432) rfl rfl rfl hd_X5_isAhead ⟨Nat.le_of_ble_eq_true rfl, Nat.le_of_ble_eq_true rfl⟩) hK hA hw [0, 1, 2] (by decide) rfl rfl [some 0, some 1, some 2, none, none] rfl (by decide) 0 rfl rfl hl.1 rfl rfl (lv_room (Nat.le_of_ble_eq_true rfl)) ⟨Nat.zero_le _, Nat.zero_le _⟩ dX5_order_18 (fun H locs hw => ?_)
        replace hw : zW D A s H locs (wd_X5_order cI cJ cZ a_this a_this_left a_this_queue a_this_facts a_this_facts_cells a_this_places a_this_places_cells a_this_told v_this_size v_this_sizeBefore f_this_facts_cells f4) := hw
        refine z_if_eq S (tgt := 48) h dX5_order_21 (by decide) (fun h => ?_) (fun h => ?_)
        · exact J_48 f4 x5 h _ _ ls hw (lv_sub hl [0, 1, 2] rfl)
        · refine lv_aload_n S.1 S.2.1 dX5_order_24 rfl (lv_at hl 0 rfl) ?_
          refine z_get S (C := RX5) (T := TX5) (N := 7) (gi gu_X5) hK hw 0 rfl rfl 3 (Nat.le_of_ble_eq_true rfl) (List.mem_cons_of_mem _ gw_127) rfl dX5_order_25 ?_
          refine lv_iload_n S.1 S.2.1 dX5_order_28 rfl (lv_at hl 2 rfl) ?_
          refine lv_aload_n S.1 S.2.1 dX5_order_29 rfl (lv_at hl 0 rfl) ?_
          refine z_get S (C := RX5) (T := TX5) (N := 7) (gi gu_X5) hK hw 0 rfl rfl 3 (Nat.le_of_ble_eq_true rfl) (List.mem_cons_of_mem _ gw_127) rfl dX5_order_30 ?_
          refine lv_iload_n S.1 S.2.1 dX5_order_33 rfl (lv_at hl 2 rfl) ?_
          refine lv_iconst (v := 1) S.1 S.2.1 dX5_order_34 (by decide) ?_
          refine lv_isub S.1 S.2.1 dX5_order_35 ?_
          obtain ⟨y8, hc, h⟩ := z_b1_e h
          refine z_callVi (As := [.int (x5 - 1)]) (rest := [.int x5, .ref a_this_places]) S (c_X3_get l D cI cJ cZ a_this_places a_this_places_cells 40 f4 (x5 - 1) _ hc) (cwV 1 S.2.2.2.2 (gw_V gw_410 gw_342 gw_343 gw_53 gw_344) rfl rfl rfl hd_X3_get ⟨Nat.le_of_ble_eq_true rfl, Nat.le_of_ble_eq_true rfl⟩) hK hA hw [3, 4] (by decide) rfl rfl [none, none, none, some 0, some 1] rfl (by decide) 3 rfl rfl hl.1 rfl rfl (lv_room (Nat.le_of_ble_eq_true rfl)) ⟨Nat.zero_le _, Nat.zero_le _⟩ dX5_order_36 (fun H locs hw => ?_)
          replace hw : zW D A s H locs (wd_X5_order cI cJ cZ a_this a_this_left a_this_queue a_this_facts a_this_facts_cells a_this_places a_this_places_cells a_this_told v_this_size v_this_sizeBefore f_this_facts_cells f4) := hw
          obtain ⟨f9, hc, h⟩ := z_b1_e h
          refine z_callVv (As := [.int x5, .int y8]) (rest := []) S (c_X3_put l D cI cJ cZ a_this_places a_this_places_cells 40 f4 x5 y8 _ hc) (cwV 2 S.2.2.2.2 (gw_V gw_405 gw_326 gw_327 gw_53 gw_328) rfl rfl rfl hd_X3_put ⟨Nat.le_of_ble_eq_true rfl, Nat.le_of_ble_eq_true rfl⟩) hK hA hw [3, 4] (by decide) rfl rfl [none, none, none, some 0, some 1] rfl (by decide) 3 rfl rfl hl.1 rfl rfl (lv_room (Nat.le_of_ble_eq_true rfl)) ⟨Nat.zero_le _, Nat.zero_le _⟩ dX5_order_39 (fun H locs hw => ?_)
          replace hw : zW D A s H locs (wd_X5_order cI cJ cZ a_this a_this_left a_this_queue a_this_facts a_this_facts_cells a_this_places a_this_places_cells a_this_told v_this_size v_this_sizeBefore f_this_facts_cells f9) := hw
          refine z_iinc S (i := 2) (k := 2) (v := x5 + (-1)) hl rfl (by decide) (congrArg (fun w => x5 + w) (by decide : Int32.ofInt (-1) = (-1 : Int32))) (fun v => (2, .int v) :: [(0, .ref a_this), (1, .int i1)]) (fun _ => rfl) h dX5_order_42 (fun y10 ls hl h => ?_)
          replace hl : lv_has ls 3 [(2, .int y10), (0, .ref a_this), (1, .int i1)] := hl
          refine lv_goto (tgt := 2) S.1 S.2.1 dX5_order_45 (by decide) ?_
          exact ih_2 f9 y10 h _ _ ls hw (lv_sub hl [1, 2, 0] rfl)
  exact L_2 K f_this_places_cells i1 h _ _ ls hw (lv_sub hl [1, 2, 0] rfl)
theorem gw_129 : Cond.fieldLink RX5 36 "ScoreReader$Signs" "size" "I" ∈ GW := GW_of 129 (by decide +kernel) (by decide +kernel)
theorem gw_397 : Cond.methodLink RX5 70 yX5_flood ∈ GW := GW_of 397 (by decide +kernel) (by decide +kernel)
theorem gw_400 : Cond.code yX5_flood cX5_flood 8 none ∈ GW := GW_of 400 (by decide +kernel) (by decide +kernel)
theorem gw_399 : Cond.instanceMethod yX5_flood ∈ GW := GW_of 399 (by decide +kernel) (by decide +kernel)
theorem gw_4 : Cond.selects RX5 yX5_flood yX5_flood ∈ GW := GW_of 4 (by decide +kernel) (by decide +kernel)
theorem gw_425 : Cond.methodLink RX5 74 yX5_order ∈ GW := GW_of 425 (by decide +kernel) (by decide +kernel)
theorem gw_428 : Cond.code yX5_order cX5_order 3 none ∈ GW := GW_of 428 (by decide +kernel) (by decide +kernel)
theorem gw_427 : Cond.instanceMethod yX5_order ∈ GW := GW_of 427 (by decide +kernel) (by decide +kernel)
theorem gw_9 : Cond.selects RX5 yX5_order yX5_order ∈ GW := GW_of 9 (by decide +kernel) (by decide +kernel)
def gs_X5_add : List Cond := Cond.code yX5_add cX5_add 3 (some .boolean) :: GW
def wd_X5_add (cI cJ cZ : ClassId) (a_this a_this_left a_this_left_rows a_this_queue a_this_queue_cells a_this_facts a_this_facts_cells a_this_places a_this_places_cells a_this_told : Nat) (v_this_size : Int32) (v_this_sizeBefore : Int32) (f_this_left_rows : Nat → Int64) (f_this_queue_cells : Nat → Int32) (f_this_facts_cells : Nat → Int32) (f_this_places_cells : Nat → Int32) : va_W := [(a_this, .inr (5, [.ref a_this_left, .ref a_this_queue, .ref a_this_facts, .ref a_this_places, .ref a_this_told, .int v_this_size, .int v_this_sizeBefore])), (a_this_left, .inr (4, [.ref a_this_left_rows])), (a_this_left_rows, .inl (cJ, 32, .inr (.inl f_this_left_rows))), (a_this_queue, .inr (3, [.ref a_this_queue_cells])), (a_this_queue_cells, .inl (cI, 1920, .inl f_this_queue_cells)), (a_this_facts, .inr (3, [.ref a_this_facts_cells])), (a_this_facts_cells, .inl (cI, 240, .inl f_this_facts_cells)), (a_this_places, .inr (3, [.ref a_this_places_cells])), (a_this_places_cells, .inl (cI, 40, .inl f_this_places_cells))]
abbrev rm_X5_add : Room := { frames := 4, cells := 0, slots := 0, locals := 98 }
theorem hd_X5_add : yX5_add.cls = RX5 ∧ yX5_add.cls ≠ "java/lang/invoke/MethodHandle" ∧ yX5_add.cls ≠ "java/lang/invoke/VarHandle" ∧ (parseMethodDescriptor yX5_add.desc).map (fun d => d.parameters.length) = some 2 := by decide +kernel
set_option maxHeartbeats 4000000 in
set_option maxRecDepth 100000 in
theorem c_X5_add (l : Launch) (D : va_G) (cI cJ cZ : ClassId) (a_this a_this_left a_this_left_rows a_this_queue a_this_queue_cells a_this_facts a_this_facts_cells a_this_places a_this_places_cells a_this_told : Nat) (v_this_size : Int32) (v_this_sizeBefore : Int32) (f_this_left_rows : Nat → Int64) (f_this_queue_cells : Nat → Int32) (f_this_facts_cells : Nat → Int32) (f_this_places_cells : Nat → Int32) (K : Nat) (i1 : Int32) (i2 : Int32) (o : Int32 × Int32 × (Nat → Int64) × (Nat → Int32) × (Nat → Int32) × (Nat → Int32)) (h : p_X5_add K v_this_size f_this_left_rows f_this_queue_cells f_this_facts_cells f_this_places_cells i1 i2 = some o) : zMi l D (zT cI cJ cZ) yX5_add gs_X5_add rm_X5_add [.ref a_this, .int i1, .int i2] (wd_X5_add cI cJ cZ a_this a_this_left a_this_left_rows a_this_queue a_this_queue_cells a_this_facts a_this_facts_cells a_this_places a_this_places_cells a_this_told v_this_size v_this_sizeBefore f_this_left_rows f_this_queue_cells f_this_facts_cells f_this_places_cells) (wd_X5_add cI cJ cZ a_this a_this_left a_this_left_rows a_this_queue a_this_queue_cells a_this_facts a_this_facts_cells a_this_places a_this_places_cells a_this_told (o.2.1) v_this_sizeBefore (o.2.2.1) (o.2.2.2.1) (o.2.2.2.2.1) (o.2.2.2.2.2)) (o.1) := by
  refine zMet_z (own := RX5) (fun u : Int32 × Int32 × (Nat → Int64) × (Nat → Int32) × (Nat → Int32) × (Nat → Int32) => (wd_X5_add cI cJ cZ a_this a_this_left a_this_left_rows a_this_queue a_this_queue_cells a_this_facts a_this_facts_cells a_this_places a_this_places_cells a_this_told (u.2.1) v_this_sizeBefore (u.2.2.1) (u.2.2.2.1) (u.2.2.2.2.1) (u.2.2.2.2.2))) (fun u : Int32 × Int32 × (Nat → Int64) × (Nat → Int32) × (Nat → Int32) × (Nat → Int32) => u.1) (by decide) rfl rfl (Nat.le_of_ble_eq_true rfl) ?_
  intro p e s m args below meth c A Q S hK hA hw ret ls hl
  replace hl : lv_has ls 3 [(0, .ref a_this), (1, .int i1), (2, .int i2)] := hl
  refine lv_aload_n S.1 S.2.1 dX5_add_0 rfl (lv_at hl 0 rfl) ?_
  refine z_get S (C := RX5) (T := TX5) (N := 7) (gi gu_X5) hK hw 0 rfl rfl 5 (Nat.le_of_ble_eq_true rfl) (List.mem_cons_of_mem _ gw_129) rfl dX5_add_1 ?_
  refine lv_bipush (v := 40) S.1 S.2.1 dX5_add_4 (by decide) ?_
  refine z_icmp_lt S (tgt := 11) h dX5_add_6 (by decide) (fun h => ?_) (fun h => ?_)
  · refine lv_aload_n S.1 S.2.1 dX5_add_11 rfl (lv_at hl 0 rfl) ?_
    refine lv_aload_n S.1 S.2.1 dX5_add_12 rfl (lv_at hl 0 rfl) ?_
    refine z_get S (C := RX5) (T := TX5) (N := 7) (gi gu_X5) hK hw 0 rfl rfl 5 (Nat.le_of_ble_eq_true rfl) (List.mem_cons_of_mem _ gw_129) rfl dX5_add_13 ?_
    refine lv_iload_n S.1 S.2.1 dX5_add_16 rfl (lv_at hl 1 rfl) ?_
    refine lv_iload_n S.1 S.2.1 dX5_add_17 rfl (lv_at hl 2 rfl) ?_
    obtain ⟨f1, f2, f3, hc, h⟩ := z_b3_e h
    refine z_callVv (As := [.int v_this_size, .int i1, .int i2]) (rest := []) S (c_X5_flood l D cI cJ cZ a_this a_this_left a_this_left_rows a_this_queue a_this_queue_cells a_this_facts a_this_facts_cells a_this_places a_this_told v_this_size v_this_sizeBefore f_this_left_rows f_this_queue_cells f_this_facts_cells K v_this_size i1 i2 _ hc) (cwV 3 S.2.2.2.2 (gw_V gw_397 gw_399 gw_4 gw_54 gw_400) rfl rfl rfl hd_X5_flood ⟨Nat.le_of_ble_eq_true rfl, Nat.le_of_ble_eq_true rfl⟩) hK hA hw [0, 1, 2, 3, 4, 5, 6] (by decide) rfl rfl [some 0, some 1, some 2, some 3, some 4, some 5, some 6, none, none] rfl (by decide) 0 rfl rfl hl.1 rfl rfl (lv_room (Nat.le_of_ble_eq_true rfl)) ⟨Nat.zero_le _, Nat.zero_le _⟩ dX5_add_18 (fun H locs hw => ?_)
    replace hw : zW D A s H locs (wd_X5_add cI cJ cZ a_this a_this_left a_this_left_rows a_this_queue a_this_queue_cells a_this_facts a_this_facts_cells a_this_places a_this_places_cells a_this_told v_this_size v_this_sizeBefore f1 f2 f3 f_this_places_cells) := hw
    refine lv_aload_n S.1 S.2.1 dX5_add_21 rfl (lv_at hl 0 rfl) ?_
    refine lv_aload_n S.1 S.2.1 dX5_add_22 rfl (lv_at hl 0 rfl) ?_
    refine z_get S (C := RX5) (T := TX5) (N := 7) (gi gu_X5) hK hw 0 rfl rfl 5 (Nat.le_of_ble_eq_true rfl) (List.mem_cons_of_mem _ gw_129) rfl dX5_add_23 ?_
    obtain ⟨f4, hc, h⟩ := z_b1_e h
    refine z_callVv (As := [.int v_this_size]) (rest := []) S (c_X5_order l D cI cJ cZ a_this a_this_left a_this_queue a_this_facts a_this_facts_cells a_this_places a_this_places_cells a_this_told v_this_size v_this_sizeBefore f3 f_this_places_cells K v_this_size _ hc) (cwV 1 S.2.2.2.2 (gw_V gw_425 gw_427 gw_9 gw_54 gw_428) rfl rfl rfl hd_X5_order ⟨Nat.le_of_ble_eq_true rfl, Nat.le_of_ble_eq_true rfl⟩) hK hA hw [0, 5, 6, 7, 8] (by decide) rfl rfl [some 0, none, none, none, none, some 1, some 2, some 3, some 4] rfl (by decide) 0 rfl rfl hl.1 rfl rfl (lv_room (Nat.le_of_ble_eq_true rfl)) ⟨Nat.zero_le _, Nat.zero_le _⟩ dX5_add_26 (fun H locs hw => ?_)
    replace hw : zW D A s H locs (wd_X5_add cI cJ cZ a_this a_this_left a_this_left_rows a_this_queue a_this_queue_cells a_this_facts a_this_facts_cells a_this_places a_this_places_cells a_this_told v_this_size v_this_sizeBefore f1 f2 f3 f4) := hw
    refine lv_aload_n S.1 S.2.1 dX5_add_29 rfl (lv_at hl 0 rfl) ?_
    refine lv_dup S.1 S.2.1 dX5_add_30 rfl ?_
    refine z_get S (C := RX5) (T := TX5) (N := 7) (gi gu_X5) hK hw 0 rfl rfl 5 (Nat.le_of_ble_eq_true rfl) (List.mem_cons_of_mem _ gw_129) rfl dX5_add_31 ?_
    refine lv_iconst (v := 1) S.1 S.2.1 dX5_add_34 (by decide) ?_
    refine lv_iadd S.1 S.2.1 dX5_add_35 ?_
    refine z_leti h (fun y5 h => ?_)
    refine z_put S (C := RX5) (T := TX5) (N := 7) (gi gu_X5) tyX5 tyX5_ok nmX5 hK hw 0 rfl rfl 5 (Nat.le_of_ble_eq_true rfl) (List.mem_cons_of_mem _ gw_129) rfl rfl rfl (Nat.le_of_ble_eq_true rfl) dX5_add_36 (fun H locs hw => ?_)
    replace hw : zW D A s H locs (wd_X5_add cI cJ cZ a_this a_this_left a_this_left_rows a_this_queue a_this_queue_cells a_this_facts a_this_facts_cells a_this_places a_this_places_cells a_this_told y5 v_this_sizeBefore f1 f2 f3 f4) := hw
    refine lv_iconst (v := 1) S.1 S.2.1 dX5_add_39 (by decide) ?_
    exact ret (1, y5, f1, f2, f3, f4) h (z_nb (Or.inr rfl)) 40 ls _ _ dX5_add_40 hw
  · refine lv_iconst (v := 0) S.1 S.2.1 dX5_add_9 (by decide) ?_
    exact ret (0, v_this_size, f_this_left_rows, f_this_queue_cells, f_this_facts_cells, f_this_places_cells) h (z_nb (Or.inl rfl)) 10 ls _ _ dX5_add_10 hw
theorem gw_437 : Cond.methodLink RX5 113 yX1_stepAt ∈ GW := GW_of 437 (by decide +kernel) (by decide +kernel)
theorem gw_440 : Cond.code yX1_stepAt cX1_stepAt 3 (some .int) ∈ GW := GW_of 440 (by decide +kernel) (by decide +kernel)
theorem gw_438 : Cond.instanceMethod yX1_stepAt ∈ GW := GW_of 438 (by decide +kernel) (by decide +kernel)
theorem gw_439 : Cond.selects RX1 yX1_stepAt yX1_stepAt ∈ GW := GW_of 439 (by decide +kernel) (by decide +kernel)
def gs_X5_tellSteps : List Cond := Cond.code yX5_tellSteps cX5_tellSteps 3 none :: GW
def wd_X5_tellSteps (cI cJ cZ : ClassId) (a_this a_this_left a_this_queue a_this_facts a_this_facts_cells a_this_places a_this_told a_p1 a_p1_firsts a_p1_firsts_cells a_p1_lasts a_p1_lasts_cells : Nat) (v_this_size : Int32) (v_this_sizeBefore : Int32) (f_this_facts_cells : Nat → Int32) (v_p1_size : Int32) (v_p1_staffStart : Int32) (f_p1_firsts_cells : Nat → Int32) (f_p1_lasts_cells : Nat → Int32) : va_W := [(a_this, .inr (5, [.ref a_this_left, .ref a_this_queue, .ref a_this_facts, .ref a_this_places, .ref a_this_told, .int v_this_size, .int v_this_sizeBefore])), (a_this_facts, .inr (3, [.ref a_this_facts_cells])), (a_this_facts_cells, .inl (cI, 240, .inl f_this_facts_cells)), (a_p1, .inr (1, [.ref a_p1_firsts, .ref a_p1_lasts, .int v_p1_size, .int v_p1_staffStart])), (a_p1_firsts, .inr (3, [.ref a_p1_firsts_cells])), (a_p1_firsts_cells, .inl (cI, 32, .inl f_p1_firsts_cells)), (a_p1_lasts, .inr (3, [.ref a_p1_lasts_cells])), (a_p1_lasts_cells, .inl (cI, 32, .inl f_p1_lasts_cells))]
abbrev rm_X5_tellSteps : Room := { frames := 4, cells := 0, slots := 0, locals := 84 }
theorem hd_X5_tellSteps : yX5_tellSteps.cls = RX5 ∧ yX5_tellSteps.cls ≠ "java/lang/invoke/MethodHandle" ∧ yX5_tellSteps.cls ≠ "java/lang/invoke/VarHandle" ∧ (parseMethodDescriptor yX5_tellSteps.desc).map (fun d => d.parameters.length) = some 1 := by decide +kernel
set_option maxHeartbeats 4000000 in
set_option maxRecDepth 100000 in
theorem c_X5_tellSteps (l : Launch) (D : va_G) (cI cJ cZ : ClassId) (a_this a_this_left a_this_queue a_this_facts a_this_facts_cells a_this_places a_this_told a_p1 a_p1_firsts a_p1_firsts_cells a_p1_lasts a_p1_lasts_cells : Nat) (v_this_size : Int32) (v_this_sizeBefore : Int32) (f_this_facts_cells : Nat → Int32) (v_p1_size : Int32) (v_p1_staffStart : Int32) (f_p1_firsts_cells : Nat → Int32) (f_p1_lasts_cells : Nat → Int32) (K : Nat) (o : (Nat → Int32)) (h : p_X5_tellSteps K v_this_size f_this_facts_cells v_p1_staffStart f_p1_firsts_cells f_p1_lasts_cells = some o) : zMv l D (zT cI cJ cZ) yX5_tellSteps gs_X5_tellSteps rm_X5_tellSteps [.ref a_this, .ref a_p1] (wd_X5_tellSteps cI cJ cZ a_this a_this_left a_this_queue a_this_facts a_this_facts_cells a_this_places a_this_told a_p1 a_p1_firsts a_p1_firsts_cells a_p1_lasts a_p1_lasts_cells v_this_size v_this_sizeBefore f_this_facts_cells v_p1_size v_p1_staffStart f_p1_firsts_cells f_p1_lasts_cells) (wd_X5_tellSteps cI cJ cZ a_this a_this_left a_this_queue a_this_facts a_this_facts_cells a_this_places a_this_told a_p1 a_p1_firsts a_p1_firsts_cells a_p1_lasts a_p1_lasts_cells v_this_size v_this_sizeBefore o v_p1_size v_p1_staffStart f_p1_firsts_cells f_p1_lasts_cells) := by
  refine zMet_v (own := RX5) (fun u : (Nat → Int32) => (wd_X5_tellSteps cI cJ cZ a_this a_this_left a_this_queue a_this_facts a_this_facts_cells a_this_places a_this_told a_p1 a_p1_firsts a_p1_firsts_cells a_p1_lasts a_p1_lasts_cells v_this_size v_this_sizeBefore u v_p1_size v_p1_staffStart f_p1_firsts_cells f_p1_lasts_cells)) (by decide) rfl rfl (Nat.le_of_ble_eq_true rfl) ?_
  intro p e s m args below meth c A Q S hK hA hw ret ls hl
  replace hl : lv_has ls 3 [(0, .ref a_this), (1, .ref a_p1)] := hl
  refine lv_iconst (v := 0) S.1 S.2.1 dX5_tellSteps_0 (by decide) ?_
  refine lv_istore_n (lv' := [(2, .int 0), (0, .ref a_this), (1, .ref a_p1)]) S.1 S.2.1 dX5_tellSteps_1 rfl hl (by decide) rfl (fun ls hl => ?_)
  have L_2 : ∀ (n2_2 : Nat) (f1 : Nat → Int32) (x2 : Int32) (h : z_lp2 (p_X5_tellSteps_l2 v_this_size v_p1_staffStart f_p1_firsts_cells f_p1_lasts_cells) n2_2 f1 x2 = some o) (H : Heap) (locs : List Loc) (ls : Array Slot), zW D A s H locs (wd_X5_tellSteps cI cJ cZ a_this a_this_left a_this_queue a_this_facts a_this_facts_cells a_this_places a_this_told a_p1 a_p1_firsts a_p1_firsts_cells a_p1_lasts a_p1_lasts_cells v_this_size v_this_sizeBefore f1 v_p1_size v_p1_staffStart f_p1_firsts_cells f_p1_lasts_cells) → lv_has ls 3 [(0, .ref a_this), (1, .ref a_p1), (2, .int x2)] → W p l e (headSpec gs_X5_tellSteps rm_X5_tellSteps).room s m args below meth c H locs 0 0 Q (F0 m 2 ls []) := by
    intro n2_2
    induction n2_2 with
    | zero => intro f1 x2 h; exact z_no h
    | succ n2_2 ih_2 =>
      intro f1 x2 h H locs ls hw hl
      replace h : (p_X5_tellSteps_l2 v_this_size v_p1_staffStart f_p1_firsts_cells f_p1_lasts_cells) (z_lp2 (p_X5_tellSteps_l2 v_this_size v_p1_staffStart f_p1_firsts_cells f_p1_lasts_cells) n2_2) f1 x2 = some o := h
      refine lv_iload_n S.1 S.2.1 dX5_tellSteps_2 rfl (lv_at hl 2 rfl) ?_
      refine lv_aload_n S.1 S.2.1 dX5_tellSteps_3 rfl (lv_at hl 0 rfl) ?_
      refine z_get S (C := RX5) (T := TX5) (N := 7) (gi gu_X5) hK hw 0 rfl rfl 5 (Nat.le_of_ble_eq_true rfl) (List.mem_cons_of_mem _ gw_129) rfl dX5_tellSteps_4 ?_
      refine z_icmp_ge S (tgt := 41) h dX5_tellSteps_7 (by decide) (fun h => ?_) (fun h => ?_)
      · exact ret f1 h 41 ls _ _ dX5_tellSteps_41 hw
      · refine lv_aload_n S.1 S.2.1 dX5_tellSteps_10 rfl (lv_at hl 0 rfl) ?_
        refine lv_iload_n S.1 S.2.1 dX5_tellSteps_11 rfl (lv_at hl 2 rfl) ?_
        refine lv_iconst (v := 5) S.1 S.2.1 dX5_tellSteps_12 (by decide) ?_
        refine lv_aload_n S.1 S.2.1 dX5_tellSteps_13 rfl (lv_at hl 1 rfl) ?_
        refine lv_aload_n S.1 S.2.1 dX5_tellSteps_14 rfl (lv_at hl 0 rfl) ?_
        refine lv_iload_n S.1 S.2.1 dX5_tellSteps_15 rfl (lv_at hl 2 rfl) ?_
        refine lv_iconst (v := 2) S.1 S.2.1 dX5_tellSteps_16 (by decide) ?_
        obtain ⟨y3, hc, h⟩ := z_b1_e h
        refine z_callVi (As := [.int x2, .int 2]) (rest := [.ref a_p1, .int 5, .int x2, .ref a_this]) S (c_X5_factAt l D cI cJ cZ a_this a_this_left a_this_queue a_this_facts a_this_facts_cells a_this_places a_this_told v_this_size v_this_sizeBefore f1 x2 2 _ hc) (cwV 2 S.2.2.2.2 (gw_V gw_415 gw_417 gw_7 gw_54 gw_418) rfl rfl rfl hd_X5_factAt ⟨Nat.le_of_ble_eq_true rfl, Nat.le_of_ble_eq_true rfl⟩) hK hA hw [0, 1, 2] (by decide) rfl rfl [some 0, some 1, some 2, none, none, none, none, none] rfl (by decide) 0 rfl rfl hl.1 rfl rfl (lv_room (Nat.le_of_ble_eq_true rfl)) ⟨Nat.zero_le _, Nat.zero_le _⟩ dX5_tellSteps_17 (fun H locs hw => ?_)
        replace hw : zW D A s H locs (wd_X5_tellSteps cI cJ cZ a_this a_this_left a_this_queue a_this_facts a_this_facts_cells a_this_places a_this_told a_p1 a_p1_firsts a_p1_firsts_cells a_p1_lasts a_p1_lasts_cells v_this_size v_this_sizeBefore f1 v_p1_size v_p1_staffStart f_p1_firsts_cells f_p1_lasts_cells) := hw
        refine lv_aload_n S.1 S.2.1 dX5_tellSteps_20 rfl (lv_at hl 0 rfl) ?_
        refine lv_iload_n S.1 S.2.1 dX5_tellSteps_21 rfl (lv_at hl 2 rfl) ?_
        refine lv_iconst (v := 4) S.1 S.2.1 dX5_tellSteps_22 (by decide) ?_
        obtain ⟨y4, hc, h⟩ := z_b1_e h
        refine z_callVi (As := [.int x2, .int 4]) (rest := [.int y3, .ref a_p1, .int 5, .int x2, .ref a_this]) S (c_X5_factAt l D cI cJ cZ a_this a_this_left a_this_queue a_this_facts a_this_facts_cells a_this_places a_this_told v_this_size v_this_sizeBefore f1 x2 4 _ hc) (cwV 2 S.2.2.2.2 (gw_V gw_415 gw_417 gw_7 gw_54 gw_418) rfl rfl rfl hd_X5_factAt ⟨Nat.le_of_ble_eq_true rfl, Nat.le_of_ble_eq_true rfl⟩) hK hA hw [0, 1, 2] (by decide) rfl rfl [some 0, some 1, some 2, none, none, none, none, none] rfl (by decide) 0 rfl rfl hl.1 rfl rfl (lv_room (Nat.le_of_ble_eq_true rfl)) ⟨Nat.zero_le _, Nat.zero_le _⟩ dX5_tellSteps_23 (fun H locs hw => ?_)
        replace hw : zW D A s H locs (wd_X5_tellSteps cI cJ cZ a_this a_this_left a_this_queue a_this_facts a_this_facts_cells a_this_places a_this_told a_p1 a_p1_firsts a_p1_firsts_cells a_p1_lasts a_p1_lasts_cells v_this_size v_this_sizeBefore f1 v_p1_size v_p1_staffStart f_p1_firsts_cells f_p1_lasts_cells) := hw
        refine lv_iadd S.1 S.2.1 dX5_tellSteps_26 ?_
        refine lv_iconst (v := 2) S.1 S.2.1 dX5_tellSteps_27 (by decide) ?_
        refine z_idiv S h dX5_tellSteps_28 (fun y5 h => ?_)
        obtain ⟨y6, hc, h⟩ := z_b1_e h
        refine z_callVi (As := [.int y5]) (rest := [.int 5, .int x2, .ref a_this]) S (c_X1_stepAt l D cI cJ cZ a_p1 a_p1_firsts a_p1_firsts_cells a_p1_lasts a_p1_lasts_cells v_p1_size v_p1_staffStart f_p1_firsts_cells f_p1_lasts_cells y5 _ hc) (cwV 1 S.2.2.2.2 (gw_V gw_437 gw_438 gw_439 gw_52 gw_440) rfl rfl rfl hd_X1_stepAt ⟨Nat.le_of_ble_eq_true rfl, Nat.le_of_ble_eq_true rfl⟩) hK hA hw [3, 4, 5, 6, 7] (by decide) rfl rfl [none, none, none, some 0, some 1, some 2, some 3, some 4] rfl (by decide) 3 rfl rfl hl.1 rfl rfl (lv_room (Nat.le_of_ble_eq_true rfl)) ⟨Nat.zero_le _, Nat.zero_le _⟩ dX5_tellSteps_29 (fun H locs hw => ?_)
        replace hw : zW D A s H locs (wd_X5_tellSteps cI cJ cZ a_this a_this_left a_this_queue a_this_facts a_this_facts_cells a_this_places a_this_told a_p1 a_p1_firsts a_p1_firsts_cells a_p1_lasts a_p1_lasts_cells v_this_size v_this_sizeBefore f1 v_p1_size v_p1_staffStart f_p1_firsts_cells f_p1_lasts_cells) := hw
        obtain ⟨f7, hc, h⟩ := z_b1_e h
        refine z_callVv (As := [.int x2, .int 5, .int y6]) (rest := []) S (c_X5_putFact l D cI cJ cZ a_this a_this_left a_this_queue a_this_facts a_this_facts_cells a_this_places a_this_told v_this_size v_this_sizeBefore f1 x2 5 y6 _ hc) (cwV 3 S.2.2.2.2 (gw_V gw_406 gw_408 gw_5 gw_54 gw_409) rfl rfl rfl hd_X5_putFact ⟨Nat.le_of_ble_eq_true rfl, Nat.le_of_ble_eq_true rfl⟩) hK hA hw [0, 1, 2] (by decide) rfl rfl [some 0, some 1, some 2, none, none, none, none, none] rfl (by decide) 0 rfl rfl hl.1 rfl rfl (lv_room (Nat.le_of_ble_eq_true rfl)) ⟨Nat.zero_le _, Nat.zero_le _⟩ dX5_tellSteps_32 (fun H locs hw => ?_)
        replace hw : zW D A s H locs (wd_X5_tellSteps cI cJ cZ a_this a_this_left a_this_queue a_this_facts a_this_facts_cells a_this_places a_this_told a_p1 a_p1_firsts a_p1_firsts_cells a_p1_lasts a_p1_lasts_cells v_this_size v_this_sizeBefore f7 v_p1_size v_p1_staffStart f_p1_firsts_cells f_p1_lasts_cells) := hw
        refine z_iinc S (i := 2) (k := 2) (v := x2 + 1) hl rfl (by decide) rfl (fun v => (2, .int v) :: [(0, .ref a_this), (1, .ref a_p1)]) (fun _ => rfl) h dX5_tellSteps_35 (fun y8 ls hl h => ?_)
        replace hl : lv_has ls 3 [(2, .int y8), (0, .ref a_this), (1, .ref a_p1)] := hl
        refine lv_goto (tgt := 2) S.1 S.2.1 dX5_tellSteps_38 (by decide) ?_
        exact ih_2 f7 y8 h _ _ ls hw (lv_sub hl [1, 2, 0] rfl)
  exact L_2 K f_this_facts_cells 0 h _ _ ls hw (lv_sub hl [1, 2, 0] rfl)
theorem gw_130 : Cond.fieldLink RX5 40 "ScoreReader$Signs" "sizeBefore" "I" ∈ GW := GW_of 130 (by decide +kernel) (by decide +kernel)
theorem gw_128 : Cond.fieldLink RX5 33 "ScoreReader$Signs" "told" "LScoreReader$Row;" ∈ GW := GW_of 128 (by decide +kernel) (by decide +kernel)
theorem gw_452 : Cond.methodLink RX5 116 yX3_fill ∈ GW := GW_of 452 (by decide +kernel) (by decide +kernel)
theorem gw_95 : Cond.code yX3_fill cX3_fill 3 none ∈ GW := GW_of 95 (by decide +kernel) (by decide +kernel)
theorem gw_93 : Cond.instanceMethod yX3_fill ∈ GW := GW_of 93 (by decide +kernel) (by decide +kernel)
theorem gw_94 : Cond.selects RX3 yX3_fill yX3_fill ∈ GW := GW_of 94 (by decide +kernel) (by decide +kernel)
def gs_X5_forgetIfOthers : List Cond := Cond.code yX5_forgetIfOthers cX5_forgetIfOthers 1 none :: GW
def wd_X5_forgetIfOthers (cI cJ cZ : ClassId) (a_this a_this_left a_this_queue a_this_facts a_this_places a_this_told a_this_told_cells : Nat) (v_this_size : Int32) (v_this_sizeBefore : Int32) (f_this_told_cells : Nat → Int32) : va_W := [(a_this, .inr (5, [.ref a_this_left, .ref a_this_queue, .ref a_this_facts, .ref a_this_places, .ref a_this_told, .int v_this_size, .int v_this_sizeBefore])), (a_this_told, .inr (3, [.ref a_this_told_cells])), (a_this_told_cells, .inl (cI, 40, .inl f_this_told_cells))]
abbrev rm_X5_forgetIfOthers : Room := { frames := 1, cells := 0, slots := 0, locals := 22 }
theorem hd_X5_forgetIfOthers : yX5_forgetIfOthers.cls = RX5 ∧ yX5_forgetIfOthers.cls ≠ "java/lang/invoke/MethodHandle" ∧ yX5_forgetIfOthers.cls ≠ "java/lang/invoke/VarHandle" ∧ (parseMethodDescriptor yX5_forgetIfOthers.desc).map (fun d => d.parameters.length) = some 0 := by decide +kernel
set_option maxHeartbeats 4000000 in
set_option maxRecDepth 100000 in
theorem c_X5_forgetIfOthers (l : Launch) (D : va_G) (cI cJ cZ : ClassId) (a_this a_this_left a_this_queue a_this_facts a_this_places a_this_told a_this_told_cells : Nat) (v_this_size : Int32) (v_this_sizeBefore : Int32) (f_this_told_cells : Nat → Int32) (K : Nat) (o : Int32 × (Nat → Int32)) (h : p_X5_forgetIfOthers K v_this_size v_this_sizeBefore f_this_told_cells = some o) : zMv l D (zT cI cJ cZ) yX5_forgetIfOthers gs_X5_forgetIfOthers rm_X5_forgetIfOthers [.ref a_this] (wd_X5_forgetIfOthers cI cJ cZ a_this a_this_left a_this_queue a_this_facts a_this_places a_this_told a_this_told_cells v_this_size v_this_sizeBefore f_this_told_cells) (wd_X5_forgetIfOthers cI cJ cZ a_this a_this_left a_this_queue a_this_facts a_this_places a_this_told a_this_told_cells v_this_size (o.1) (o.2)) := by
  refine zMet_v (own := RX5) (fun u : Int32 × (Nat → Int32) => (wd_X5_forgetIfOthers cI cJ cZ a_this a_this_left a_this_queue a_this_facts a_this_places a_this_told a_this_told_cells v_this_size (u.1) (u.2))) (by decide) rfl rfl (Nat.le_of_ble_eq_true rfl) ?_
  intro p e s m args below meth c A Q S hK hA hw ret ls hl
  replace hl : lv_has ls 1 [(0, .ref a_this)] := hl
  refine lv_aload_n S.1 S.2.1 dX5_forgetIfOthers_0 rfl (lv_at hl 0 rfl) ?_
  refine z_get S (C := RX5) (T := TX5) (N := 7) (gi gu_X5) hK hw 0 rfl rfl 5 (Nat.le_of_ble_eq_true rfl) (List.mem_cons_of_mem _ gw_129) rfl dX5_forgetIfOthers_1 ?_
  refine lv_aload_n S.1 S.2.1 dX5_forgetIfOthers_4 rfl (lv_at hl 0 rfl) ?_
  refine z_get S (C := RX5) (T := TX5) (N := 7) (gi gu_X5) hK hw 0 rfl rfl 6 (Nat.le_of_ble_eq_true rfl) (List.mem_cons_of_mem _ gw_130) rfl dX5_forgetIfOthers_5 ?_
  have J_19 : ∀ (f1 : Nat → Int32) (h : (p_X5_forgetIfOthers_j19 v_this_size) f1 = some o) (H : Heap) (locs : List Loc) (ls : Array Slot), zW D A s H locs (wd_X5_forgetIfOthers cI cJ cZ a_this a_this_left a_this_queue a_this_facts a_this_places a_this_told a_this_told_cells v_this_size v_this_sizeBefore f1) → lv_has ls 1 [(0, .ref a_this)] → W p l e (headSpec gs_X5_forgetIfOthers rm_X5_forgetIfOthers).room s m args below meth c H locs 0 0 Q (F0 m 19 ls []) := by
    intro f1 h H locs ls hw hl
    refine lv_aload_n S.1 S.2.1 dX5_forgetIfOthers_19 rfl (lv_at hl 0 rfl) ?_
    refine lv_aload_n S.1 S.2.1 dX5_forgetIfOthers_20 rfl (lv_at hl 0 rfl) ?_
    refine z_get S (C := RX5) (T := TX5) (N := 7) (gi gu_X5) hK hw 0 rfl rfl 5 (Nat.le_of_ble_eq_true rfl) (List.mem_cons_of_mem _ gw_129) rfl dX5_forgetIfOthers_21 ?_
    refine z_put S (C := RX5) (T := TX5) (N := 7) (gi gu_X5) tyX5 tyX5_ok nmX5 hK hw 0 rfl rfl 6 (Nat.le_of_ble_eq_true rfl) (List.mem_cons_of_mem _ gw_130) rfl rfl rfl (Nat.le_of_ble_eq_true rfl) dX5_forgetIfOthers_24 (fun H locs hw => ?_)
    replace hw : zW D A s H locs (wd_X5_forgetIfOthers cI cJ cZ a_this a_this_left a_this_queue a_this_facts a_this_places a_this_told a_this_told_cells v_this_size v_this_size f1) := hw
    exact ret (v_this_size, f1) h 27 ls _ _ dX5_forgetIfOthers_27 hw
  refine z_icmp_eq S (tgt := 19) h dX5_forgetIfOthers_8 (by decide) (fun h => ?_) (fun h => ?_)
  · exact J_19 f_this_told_cells h _ _ ls hw (lv_sub hl [0] rfl)
  · refine lv_aload_n S.1 S.2.1 dX5_forgetIfOthers_11 rfl (lv_at hl 0 rfl) ?_
    refine z_get S (C := RX5) (T := TX5) (N := 7) (gi gu_X5) hK hw 0 rfl rfl 4 (Nat.le_of_ble_eq_true rfl) (List.mem_cons_of_mem _ gw_128) rfl dX5_forgetIfOthers_12 ?_
    refine lv_iconst (v := (-1)) S.1 S.2.1 dX5_forgetIfOthers_15 (by decide) ?_
    obtain ⟨f2, hc, h⟩ := z_b1_e h
    refine z_callVv (As := [.int (-1)]) (rest := []) S (c_X3_fill l D cI cJ cZ a_this_told a_this_told_cells 40 f_this_told_cells K (-1) _ hc) (cwV 1 S.2.2.2.2 (gw_V gw_452 gw_93 gw_94 gw_53 gw_95) rfl rfl rfl hd_X3_fill ⟨Nat.le_of_ble_eq_true rfl, Nat.le_of_ble_eq_true rfl⟩) hK hA hw [1, 2] (by decide) rfl rfl [none, some 0, some 1] rfl (by decide) 1 rfl rfl hl.1 rfl rfl (lv_room (Nat.le_of_ble_eq_true rfl)) ⟨Nat.zero_le _, Nat.zero_le _⟩ dX5_forgetIfOthers_16 (fun H locs hw => ?_)
    replace hw : zW D A s H locs (wd_X5_forgetIfOthers cI cJ cZ a_this a_this_left a_this_queue a_this_facts a_this_places a_this_told a_this_told_cells v_this_size v_this_sizeBefore f2) := hw
    exact J_19 f2 h _ _ ls hw (lv_sub hl [0] rfl)
theorem gw_379 : Cond.methodLink RX5 43 yX4_copy ∈ GW := GW_of 379 (by decide +kernel) (by decide +kernel)
theorem gw_382 : Cond.code yX4_copy cX4_copy 3 none ∈ GW := GW_of 382 (by decide +kernel) (by decide +kernel)
theorem gw_380 : Cond.instanceMethod yX4_copy ∈ GW := GW_of 380 (by decide +kernel) (by decide +kernel)
theorem gw_381 : Cond.selects RX4 yX4_copy yX4_copy ∈ GW := GW_of 381 (by decide +kernel) (by decide +kernel)
theorem gw_383 : Cond.methodLink RX5 47 yX1_takeOff ∈ GW := GW_of 383 (by decide +kernel) (by decide +kernel)
theorem gw_386 : Cond.code yX1_takeOff cX1_takeOff 6 none ∈ GW := GW_of 386 (by decide +kernel) (by decide +kernel)
theorem gw_384 : Cond.instanceMethod yX1_takeOff ∈ GW := GW_of 384 (by decide +kernel) (by decide +kernel)
theorem gw_385 : Cond.selects RX1 yX1_takeOff yX1_takeOff ∈ GW := GW_of 385 (by decide +kernel) (by decide +kernel)
theorem gw_433 : Cond.methodLink RX5 63 yX5_tellSteps ∈ GW := GW_of 433 (by decide +kernel) (by decide +kernel)
theorem gw_436 : Cond.code yX5_tellSteps cX5_tellSteps 3 none ∈ GW := GW_of 436 (by decide +kernel) (by decide +kernel)
theorem gw_435 : Cond.instanceMethod yX5_tellSteps ∈ GW := GW_of 435 (by decide +kernel) (by decide +kernel)
theorem gw_11 : Cond.selects RX5 yX5_tellSteps yX5_tellSteps ∈ GW := GW_of 11 (by decide +kernel) (by decide +kernel)
theorem gw_448 : Cond.methodLink RX5 67 yX5_forgetIfOthers ∈ GW := GW_of 448 (by decide +kernel) (by decide +kernel)
theorem gw_451 : Cond.code yX5_forgetIfOthers cX5_forgetIfOthers 1 none ∈ GW := GW_of 451 (by decide +kernel) (by decide +kernel)
theorem gw_450 : Cond.instanceMethod yX5_forgetIfOthers ∈ GW := GW_of 450 (by decide +kernel) (by decide +kernel)
theorem gw_12 : Cond.selects RX5 yX5_forgetIfOthers yX5_forgetIfOthers ∈ GW := GW_of 12 (by decide +kernel) (by decide +kernel)
theorem gw_391 : Cond.methodLink RX5 52 yX4_at ∈ GW := GW_of 391 (by decide +kernel) (by decide +kernel)
theorem gw_393 : Cond.methodLink RX5 60 yX5_add ∈ GW := GW_of 393 (by decide +kernel) (by decide +kernel)
theorem gw_396 : Cond.code yX5_add cX5_add 3 (some .boolean) ∈ GW := GW_of 396 (by decide +kernel) (by decide +kernel)
theorem gw_395 : Cond.instanceMethod yX5_add ∈ GW := GW_of 395 (by decide +kernel) (by decide +kernel)
theorem gw_3 : Cond.selects RX5 yX5_add yX5_add ∈ GW := GW_of 3 (by decide +kernel) (by decide +kernel)
def gs_X5_gather : List Cond := Cond.code yX5_gather cX5_gather 5 (some .boolean) :: GW
def wd_X5_gather (cI cJ cZ : ClassId) (a_this a_this_left a_this_left_rows a_this_queue a_this_queue_cells a_this_facts a_this_facts_cells a_this_places a_this_places_cells a_this_told a_this_told_cells a_p1 a_p1_rows a_p2 a_p2_firsts a_p2_firsts_cells a_p2_lasts a_p2_lasts_cells : Nat) (v_this_size : Int32) (v_this_sizeBefore : Int32) (f_this_left_rows : Nat → Int64) (f_this_queue_cells : Nat → Int32) (f_this_facts_cells : Nat → Int32) (f_this_places_cells : Nat → Int32) (f_this_told_cells : Nat → Int32) (f_p1_rows : Nat → Int64) (v_p2_size : Int32) (v_p2_staffStart : Int32) (f_p2_firsts_cells : Nat → Int32) (f_p2_lasts_cells : Nat → Int32) : va_W := ((a_this, .inr (5, [.ref a_this_left, .ref a_this_queue, .ref a_this_facts, .ref a_this_places, .ref a_this_told, .int v_this_size, .int v_this_sizeBefore])) :: (a_this_left, .inr (4, [.ref a_this_left_rows])) :: (a_this_left_rows, .inl (cJ, 32, .inr (.inl f_this_left_rows))) :: (a_this_queue, .inr (3, [.ref a_this_queue_cells])) :: (a_this_queue_cells, .inl (cI, 1920, .inl f_this_queue_cells)) :: (a_this_facts, .inr (3, [.ref a_this_facts_cells])) :: (a_this_facts_cells, .inl (cI, 240, .inl f_this_facts_cells)) :: (a_this_places, .inr (3, [.ref a_this_places_cells])) :: (a_this_places_cells, .inl (cI, 40, .inl f_this_places_cells)) :: (a_this_told, .inr (3, [.ref a_this_told_cells])) :: (a_this_told_cells, .inl (cI, 40, .inl f_this_told_cells)) :: (a_p1, .inr (4, [.ref a_p1_rows])) :: (a_p1_rows, .inl (cJ, 32, .inr (.inl f_p1_rows))) :: (a_p2, .inr (1, [.ref a_p2_firsts, .ref a_p2_lasts, .int v_p2_size, .int v_p2_staffStart])) :: (a_p2_firsts, .inr (3, [.ref a_p2_firsts_cells])) :: (a_p2_firsts_cells, .inl (cI, 32, .inl f_p2_firsts_cells)) :: (a_p2_lasts, .inr (3, [.ref a_p2_lasts_cells])) :: (a_p2_lasts_cells, .inl (cI, 32, .inl f_p2_lasts_cells)) :: [])
abbrev rm_X5_gather : Room := { frames := 5, cells := 0, slots := 0, locals := 120 }
theorem hd_X5_gather : yX5_gather.cls = RX5 ∧ yX5_gather.cls ≠ "java/lang/invoke/MethodHandle" ∧ yX5_gather.cls ≠ "java/lang/invoke/VarHandle" ∧ (parseMethodDescriptor yX5_gather.desc).map (fun d => d.parameters.length) = some 2 := by decide +kernel
set_option maxHeartbeats 4000000 in
set_option maxRecDepth 100000 in
theorem c_X5_gather (l : Launch) (D : va_G) (cI cJ cZ : ClassId) (a_this a_this_left a_this_left_rows a_this_queue a_this_queue_cells a_this_facts a_this_facts_cells a_this_places a_this_places_cells a_this_told a_this_told_cells a_p1 a_p1_rows a_p2 a_p2_firsts a_p2_firsts_cells a_p2_lasts a_p2_lasts_cells : Nat) (v_this_size : Int32) (v_this_sizeBefore : Int32) (f_this_left_rows : Nat → Int64) (f_this_queue_cells : Nat → Int32) (f_this_facts_cells : Nat → Int32) (f_this_places_cells : Nat → Int32) (f_this_told_cells : Nat → Int32) (f_p1_rows : Nat → Int64) (v_p2_size : Int32) (v_p2_staffStart : Int32) (f_p2_firsts_cells : Nat → Int32) (f_p2_lasts_cells : Nat → Int32) (K : Nat) (o : Int32 × Int32 × Int32 × (Nat → Int64) × (Nat → Int32) × (Nat → Int32) × (Nat → Int32) × (Nat → Int32)) (h : p_X5_gather K v_this_size v_this_sizeBefore f_this_left_rows f_this_queue_cells f_this_facts_cells f_this_places_cells f_this_told_cells f_p1_rows v_p2_staffStart f_p2_firsts_cells f_p2_lasts_cells = some o) : zMi l D (zT cI cJ cZ) yX5_gather gs_X5_gather rm_X5_gather [.ref a_this, .ref a_p1, .ref a_p2] (wd_X5_gather cI cJ cZ a_this a_this_left a_this_left_rows a_this_queue a_this_queue_cells a_this_facts a_this_facts_cells a_this_places a_this_places_cells a_this_told a_this_told_cells a_p1 a_p1_rows a_p2 a_p2_firsts a_p2_firsts_cells a_p2_lasts a_p2_lasts_cells v_this_size v_this_sizeBefore f_this_left_rows f_this_queue_cells f_this_facts_cells f_this_places_cells f_this_told_cells f_p1_rows v_p2_size v_p2_staffStart f_p2_firsts_cells f_p2_lasts_cells) (wd_X5_gather cI cJ cZ a_this a_this_left a_this_left_rows a_this_queue a_this_queue_cells a_this_facts a_this_facts_cells a_this_places a_this_places_cells a_this_told a_this_told_cells a_p1 a_p1_rows a_p2 a_p2_firsts a_p2_firsts_cells a_p2_lasts a_p2_lasts_cells (o.2.1) (o.2.2.1) (o.2.2.2.1) (o.2.2.2.2.1) (o.2.2.2.2.2.1) (o.2.2.2.2.2.2.1) (o.2.2.2.2.2.2.2) f_p1_rows v_p2_size v_p2_staffStart f_p2_firsts_cells f_p2_lasts_cells) (o.1) := by
  refine zMet_z (own := RX5) (fun u : Int32 × Int32 × Int32 × (Nat → Int64) × (Nat → Int32) × (Nat → Int32) × (Nat → Int32) × (Nat → Int32) => (wd_X5_gather cI cJ cZ a_this a_this_left a_this_left_rows a_this_queue a_this_queue_cells a_this_facts a_this_facts_cells a_this_places a_this_places_cells a_this_told a_this_told_cells a_p1 a_p1_rows a_p2 a_p2_firsts a_p2_firsts_cells a_p2_lasts a_p2_lasts_cells (u.2.1) (u.2.2.1) (u.2.2.2.1) (u.2.2.2.2.1) (u.2.2.2.2.2.1) (u.2.2.2.2.2.2.1) (u.2.2.2.2.2.2.2) f_p1_rows v_p2_size v_p2_staffStart f_p2_firsts_cells f_p2_lasts_cells)) (fun u : Int32 × Int32 × Int32 × (Nat → Int64) × (Nat → Int32) × (Nat → Int32) × (Nat → Int32) × (Nat → Int32) => u.1) (by decide) rfl rfl (Nat.le_of_ble_eq_true rfl) ?_
  intro p e s m args below meth c A Q S hK hA hw ret ls hl
  replace hl : lv_has ls 5 [(0, .ref a_this), (1, .ref a_p1), (2, .ref a_p2)] := hl
  refine lv_aload_n S.1 S.2.1 dX5_gather_0 rfl (lv_at hl 0 rfl) ?_
  refine z_get S (C := RX5) (T := TX5) (N := 7) (gi gu_X5) hK hw 0 rfl rfl 0 (Nat.le_of_ble_eq_true rfl) (List.mem_cons_of_mem _ gw_124) rfl dX5_gather_1 ?_
  refine lv_aload_n S.1 S.2.1 dX5_gather_4 rfl (lv_at hl 1 rfl) ?_
  obtain ⟨f1, hc, h⟩ := z_b1_e h
  refine z_callVv (As := [.ref a_p1]) (rest := []) S (c_X4_copy l D cI cJ cZ a_this_left a_this_left_rows a_p1 a_p1_rows f_this_left_rows f_p1_rows K _ hc) (cwV 1 S.2.2.2.2 (gw_V gw_379 gw_380 gw_381 gw_51 gw_382) rfl rfl rfl hd_X4_copy ⟨Nat.le_of_ble_eq_true rfl, Nat.le_of_ble_eq_true rfl⟩) hK hA hw [1, 2, 11, 12] (by decide) rfl rfl (none :: some 0 :: some 1 :: none :: none :: none :: none :: none :: none :: none :: none :: some 2 :: some 3 :: none :: none :: none :: none :: none :: []) rfl (by decide) 1 rfl rfl hl.1 rfl rfl (lv_room (Nat.le_of_ble_eq_true rfl)) ⟨Nat.zero_le _, Nat.zero_le _⟩ dX5_gather_5 (fun H locs hw => ?_)
  replace hw : zW D A s H locs (wd_X5_gather cI cJ cZ a_this a_this_left a_this_left_rows a_this_queue a_this_queue_cells a_this_facts a_this_facts_cells a_this_places a_this_places_cells a_this_told a_this_told_cells a_p1 a_p1_rows a_p2 a_p2_firsts a_p2_firsts_cells a_p2_lasts a_p2_lasts_cells v_this_size v_this_sizeBefore f1 f_this_queue_cells f_this_facts_cells f_this_places_cells f_this_told_cells f_p1_rows v_p2_size v_p2_staffStart f_p2_firsts_cells f_p2_lasts_cells) := hw
  refine lv_aload_n S.1 S.2.1 dX5_gather_8 rfl (lv_at hl 2 rfl) ?_
  refine lv_aload_n S.1 S.2.1 dX5_gather_9 rfl (lv_at hl 0 rfl) ?_
  refine z_get S (C := RX5) (T := TX5) (N := 7) (gi gu_X5) hK hw 0 rfl rfl 0 (Nat.le_of_ble_eq_true rfl) (List.mem_cons_of_mem _ gw_124) rfl dX5_gather_10 ?_
  obtain ⟨f2, hc, h⟩ := z_b1_e h
  refine z_callVv (As := [.ref a_this_left]) (rest := []) S (c_X1_takeOff l D cI cJ cZ a_p2 a_p2_firsts a_p2_firsts_cells a_p2_lasts a_p2_lasts_cells a_this_left a_this_left_rows v_p2_size v_p2_staffStart f_p2_firsts_cells f_p2_lasts_cells f1 K _ hc) (cwV 1 S.2.2.2.2 (gw_V gw_383 gw_384 gw_385 gw_52 gw_386) rfl rfl rfl hd_X1_takeOff ⟨Nat.le_of_ble_eq_true rfl, Nat.le_of_ble_eq_true rfl⟩) hK hA hw [13, 14, 15, 16, 17, 1, 2] (by decide) rfl rfl (none :: some 5 :: some 6 :: none :: none :: none :: none :: none :: none :: none :: none :: none :: none :: some 0 :: some 1 :: some 2 :: some 3 :: some 4 :: []) rfl (by decide) 13 rfl rfl hl.1 rfl rfl (lv_room (Nat.le_of_ble_eq_true rfl)) ⟨Nat.zero_le _, Nat.zero_le _⟩ dX5_gather_13 (fun H locs hw => ?_)
  replace hw : zW D A s H locs (wd_X5_gather cI cJ cZ a_this a_this_left a_this_left_rows a_this_queue a_this_queue_cells a_this_facts a_this_facts_cells a_this_places a_this_places_cells a_this_told a_this_told_cells a_p1 a_p1_rows a_p2 a_p2_firsts a_p2_firsts_cells a_p2_lasts a_p2_lasts_cells v_this_size v_this_sizeBefore f2 f_this_queue_cells f_this_facts_cells f_this_places_cells f_this_told_cells f_p1_rows v_p2_size v_p2_staffStart f_p2_firsts_cells f_p2_lasts_cells) := hw
  refine lv_aload_n S.1 S.2.1 dX5_gather_16 rfl (lv_at hl 0 rfl) ?_
  refine lv_iconst (v := 0) S.1 S.2.1 dX5_gather_17 (by decide) ?_
  refine z_put S (C := RX5) (T := TX5) (N := 7) (gi gu_X5) tyX5 tyX5_ok nmX5 hK hw 0 rfl rfl 5 (Nat.le_of_ble_eq_true rfl) (List.mem_cons_of_mem _ gw_129) rfl rfl rfl (Nat.le_of_ble_eq_true rfl) dX5_gather_18 (fun H locs hw => ?_)
  replace hw : zW D A s H locs (wd_X5_gather cI cJ cZ a_this a_this_left a_this_left_rows a_this_queue a_this_queue_cells a_this_facts a_this_facts_cells a_this_places a_this_places_cells a_this_told a_this_told_cells a_p1 a_p1_rows a_p2 a_p2_firsts a_p2_firsts_cells a_p2_lasts a_p2_lasts_cells 0 v_this_sizeBefore f2 f_this_queue_cells f_this_facts_cells f_this_places_cells f_this_told_cells f_p1_rows v_p2_size v_p2_staffStart f_p2_firsts_cells f_p2_lasts_cells) := hw
  refine lv_iconst (v := 0) S.1 S.2.1 dX5_gather_21 (by decide) ?_
  refine lv_istore_n (lv' := [(3, .int 0), (0, .ref a_this), (1, .ref a_p1), (2, .ref a_p2)]) S.1 S.2.1 dX5_gather_22 rfl hl (by decide) rfl (fun ls hl => ?_)
  have J_89 : ∀ (v3 : Int32) (f4 : Nat → Int64) (f5 : Nat → Int32) (f6 : Nat → Int32) (f7 : Nat → Int32) (h : (p_X5_gather_j89 K v_p2_staffStart f_p2_firsts_cells f_p2_lasts_cells v_this_sizeBefore f_this_told_cells) v3 f4 f5 f6 f7 = some o) (H : Heap) (locs : List Loc) (ls : Array Slot), zW D A s H locs (wd_X5_gather cI cJ cZ a_this a_this_left a_this_left_rows a_this_queue a_this_queue_cells a_this_facts a_this_facts_cells a_this_places a_this_places_cells a_this_told a_this_told_cells a_p1 a_p1_rows a_p2 a_p2_firsts a_p2_firsts_cells a_p2_lasts a_p2_lasts_cells v3 v_this_sizeBefore f4 f5 f6 f7 f_this_told_cells f_p1_rows v_p2_size v_p2_staffStart f_p2_firsts_cells f_p2_lasts_cells) → lv_has ls 5 [(0, .ref a_this), (2, .ref a_p2)] → W p l e (headSpec gs_X5_gather rm_X5_gather).room s m args below meth c H locs 0 0 Q (F0 m 89 ls []) := by
    intro v3 f4 f5 f6 f7 h H locs ls hw hl
    refine lv_aload_n S.1 S.2.1 dX5_gather_89 rfl (lv_at hl 0 rfl) ?_
    refine lv_aload_n S.1 S.2.1 dX5_gather_90 rfl (lv_at hl 1 rfl) ?_
    obtain ⟨f8, hc, h⟩ := z_b1_e h
    refine z_callVv (As := [.ref a_p2]) (rest := []) S (c_X5_tellSteps l D cI cJ cZ a_this a_this_left a_this_queue a_this_facts a_this_facts_cells a_this_places a_this_told a_p2 a_p2_firsts a_p2_firsts_cells a_p2_lasts a_p2_lasts_cells v3 v_this_sizeBefore f6 v_p2_size v_p2_staffStart f_p2_firsts_cells f_p2_lasts_cells K _ hc) (cwV 1 S.2.2.2.2 (gw_V gw_433 gw_435 gw_11 gw_54 gw_436) rfl rfl rfl hd_X5_tellSteps ⟨Nat.le_of_ble_eq_true rfl, Nat.le_of_ble_eq_true rfl⟩) hK hA hw [0, 5, 6, 13, 14, 15, 16, 17] (by decide) rfl rfl (some 0 :: none :: none :: none :: none :: some 1 :: some 2 :: none :: none :: none :: none :: none :: none :: some 3 :: some 4 :: some 5 :: some 6 :: some 7 :: []) rfl (by decide) 0 rfl rfl hl.1 rfl rfl (lv_room (Nat.le_of_ble_eq_true rfl)) ⟨Nat.zero_le _, Nat.zero_le _⟩ dX5_gather_91 (fun H locs hw => ?_)
    replace hw : zW D A s H locs (wd_X5_gather cI cJ cZ a_this a_this_left a_this_left_rows a_this_queue a_this_queue_cells a_this_facts a_this_facts_cells a_this_places a_this_places_cells a_this_told a_this_told_cells a_p1 a_p1_rows a_p2 a_p2_firsts a_p2_firsts_cells a_p2_lasts a_p2_lasts_cells v3 v_this_sizeBefore f4 f5 f8 f7 f_this_told_cells f_p1_rows v_p2_size v_p2_staffStart f_p2_firsts_cells f_p2_lasts_cells) := hw
    refine lv_aload_n S.1 S.2.1 dX5_gather_94 rfl (lv_at hl 0 rfl) ?_
    obtain ⟨v9, f10, hc, h⟩ := z_b2_e h
    refine z_callVv (As := []) (rest := []) S (c_X5_forgetIfOthers l D cI cJ cZ a_this a_this_left a_this_queue a_this_facts a_this_places a_this_told a_this_told_cells v3 v_this_sizeBefore f_this_told_cells K _ hc) (cwV 0 S.2.2.2.2 (gw_V gw_448 gw_450 gw_12 gw_54 gw_451) rfl rfl rfl hd_X5_forgetIfOthers ⟨Nat.le_of_ble_eq_true rfl, Nat.le_of_ble_eq_true rfl⟩) hK hA hw [0, 9, 10] (by decide) rfl rfl (some 0 :: none :: none :: none :: none :: none :: none :: none :: none :: some 1 :: some 2 :: none :: none :: none :: none :: none :: none :: none :: []) rfl (by decide) 0 rfl rfl hl.1 rfl rfl (lv_room (Nat.le_of_ble_eq_true rfl)) ⟨Nat.zero_le _, Nat.zero_le _⟩ dX5_gather_95 (fun H locs hw => ?_)
    replace hw : zW D A s H locs (wd_X5_gather cI cJ cZ a_this a_this_left a_this_left_rows a_this_queue a_this_queue_cells a_this_facts a_this_facts_cells a_this_places a_this_places_cells a_this_told a_this_told_cells a_p1 a_p1_rows a_p2 a_p2_firsts a_p2_firsts_cells a_p2_lasts a_p2_lasts_cells v3 v9 f4 f5 f8 f7 f10 f_p1_rows v_p2_size v_p2_staffStart f_p2_firsts_cells f_p2_lasts_cells) := hw
    refine lv_iconst (v := 1) S.1 S.2.1 dX5_gather_98 (by decide) ?_
    exact ret (1, v3, v9, f4, f5, f8, f7, f10) h (z_nb (Or.inr rfl)) 99 ls _ _ dX5_gather_99 hw
  have L_23 : ∀ (n23_16 : Nat) (v11 : Int32) (f12 : Nat → Int64) (f13 : Nat → Int32) (f14 : Nat → Int32) (f15 : Nat → Int32) (x16 : Int32) (h : z_lp6 (p_X5_gather_l23 K v_this_sizeBefore f_this_told_cells (p_X5_gather_j89 K v_p2_staffStart f_p2_firsts_cells f_p2_lasts_cells v_this_sizeBefore f_this_told_cells)) n23_16 v11 f12 f13 f14 f15 x16 = some o) (H : Heap) (locs : List Loc) (ls : Array Slot), zW D A s H locs (wd_X5_gather cI cJ cZ a_this a_this_left a_this_left_rows a_this_queue a_this_queue_cells a_this_facts a_this_facts_cells a_this_places a_this_places_cells a_this_told a_this_told_cells a_p1 a_p1_rows a_p2 a_p2_firsts a_p2_firsts_cells a_p2_lasts a_p2_lasts_cells v11 v_this_sizeBefore f12 f13 f14 f15 f_this_told_cells f_p1_rows v_p2_size v_p2_staffStart f_p2_firsts_cells f_p2_lasts_cells) → lv_has ls 5 [(0, .ref a_this), (2, .ref a_p2), (3, .int x16)] → W p l e (headSpec gs_X5_gather rm_X5_gather).room s m args below meth c H locs 0 0 Q (F0 m 23 ls []) := by
    intro n23_16
    induction n23_16 with
    | zero => intro v11 f12 f13 f14 f15 x16 h; exact z_no h
    | succ n23_16 ih_23 =>
      intro v11 f12 f13 f14 f15 x16 h H locs ls hw hl
      replace h : (p_X5_gather_l23 K v_this_sizeBefore f_this_told_cells (p_X5_gather_j89 K v_p2_staffStart f_p2_firsts_cells f_p2_lasts_cells v_this_sizeBefore f_this_told_cells)) (z_lp6 (p_X5_gather_l23 K v_this_sizeBefore f_this_told_cells (p_X5_gather_j89 K v_p2_staffStart f_p2_firsts_cells f_p2_lasts_cells v_this_sizeBefore f_this_told_cells)) n23_16) v11 f12 f13 f14 f15 x16 = some o := h
      refine lv_iload_n S.1 S.2.1 dX5_gather_23 rfl (lv_at hl 2 rfl) ?_
      refine lv_bipush (v := 32) S.1 S.2.1 dX5_gather_24 (by decide) ?_
      refine z_icmp_ge S (tgt := 89) h dX5_gather_26 (by decide) (fun h => ?_) (fun h => ?_)
      · exact J_89 v11 f12 f13 f14 f15 h _ _ ls hw (lv_sub hl [0, 1] rfl)
      · refine lv_iconst (v := 0) S.1 S.2.1 dX5_gather_29 (by decide) ?_
        refine lv_istore (lv' := [(4, .int 0), (0, .ref a_this), (2, .ref a_p2), (3, .int x16)]) S.1 S.2.1 dX5_gather_30 hl (by decide) rfl (fun ls hl => ?_)
        have L_32 : ∀ (n32_22 : Nat) (v17 : Int32) (f18 : Nat → Int64) (f19 : Nat → Int32) (f20 : Nat → Int32) (f21 : Nat → Int32) (x22 : Int32) (h : z_lp6 (p_X5_gather_l32 x16 K v_this_sizeBefore f_this_told_cells (z_lp6 (p_X5_gather_l23 K v_this_sizeBefore f_this_told_cells (p_X5_gather_j89 K v_p2_staffStart f_p2_firsts_cells f_p2_lasts_cells v_this_sizeBefore f_this_told_cells)) n23_16)) n32_22 v17 f18 f19 f20 f21 x22 = some o) (H : Heap) (locs : List Loc) (ls : Array Slot), zW D A s H locs (wd_X5_gather cI cJ cZ a_this a_this_left a_this_left_rows a_this_queue a_this_queue_cells a_this_facts a_this_facts_cells a_this_places a_this_places_cells a_this_told a_this_told_cells a_p1 a_p1_rows a_p2 a_p2_firsts a_p2_firsts_cells a_p2_lasts a_p2_lasts_cells v17 v_this_sizeBefore f18 f19 f20 f21 f_this_told_cells f_p1_rows v_p2_size v_p2_staffStart f_p2_firsts_cells f_p2_lasts_cells) → lv_has ls 5 [(0, .ref a_this), (2, .ref a_p2), (3, .int x16), (4, .int x22)] → W p l e (headSpec gs_X5_gather rm_X5_gather).room s m args below meth c H locs 0 0 Q (F0 m 32 ls []) := by
          intro n32_22
          induction n32_22 with
          | zero => intro v17 f18 f19 f20 f21 x22 h; exact z_no h
          | succ n32_22 ih_32 =>
            intro v17 f18 f19 f20 f21 x22 h H locs ls hw hl
            replace h : (p_X5_gather_l32 x16 K v_this_sizeBefore f_this_told_cells (z_lp6 (p_X5_gather_l23 K v_this_sizeBefore f_this_told_cells (p_X5_gather_j89 K v_p2_staffStart f_p2_firsts_cells f_p2_lasts_cells v_this_sizeBefore f_this_told_cells)) n23_16)) (z_lp6 (p_X5_gather_l32 x16 K v_this_sizeBefore f_this_told_cells (z_lp6 (p_X5_gather_l23 K v_this_sizeBefore f_this_told_cells (p_X5_gather_j89 K v_p2_staffStart f_p2_firsts_cells f_p2_lasts_cells v_this_sizeBefore f_this_told_cells)) n23_16)) n32_22) v17 f18 f19 f20 f21 x22 = some o := h
            refine lv_iload S.1 S.2.1 dX5_gather_32 (lv_at hl 3 rfl) ?_
            refine lv_bipush (v := 60) S.1 S.2.1 dX5_gather_34 (by decide) ?_
            refine z_icmp_ge S (tgt := 83) h dX5_gather_36 (by decide) (fun h => ?_) (fun h => ?_)
            · refine z_iinc S (i := 3) (k := 2) (v := x16 + 1) hl rfl (by decide) rfl (fun v => (3, .int v) :: [(0, .ref a_this), (2, .ref a_p2), (4, .int x22)]) (fun _ => rfl) h dX5_gather_83 (fun y23 ls hl h => ?_)
              replace hl : lv_has ls 5 [(3, .int y23), (0, .ref a_this), (2, .ref a_p2), (4, .int x22)] := hl
              refine lv_goto (tgt := 23) S.1 S.2.1 dX5_gather_86 (by decide) ?_
              exact ih_23 v17 f18 f19 f20 f21 y23 h _ _ ls hw (lv_sub hl [1, 2, 0] rfl)
            · refine lv_aload_n S.1 S.2.1 dX5_gather_39 rfl (lv_at hl 0 rfl) ?_
              refine z_get S (C := RX5) (T := TX5) (N := 7) (gi gu_X5) hK hw 0 rfl rfl 0 (Nat.le_of_ble_eq_true rfl) (List.mem_cons_of_mem _ gw_124) rfl dX5_gather_40 ?_
              refine lv_iload_n S.1 S.2.1 dX5_gather_43 rfl (lv_at hl 2 rfl) ?_
              obtain ⟨y24, hc, h⟩ := z_b1_e h
              refine z_callVl (As := [.int x16]) (rest := []) S (c_X4_at l D cI cJ cZ a_this_left a_this_left_rows f18 x16 _ hc) (cwV 1 S.2.2.2.2 (gw_V gw_391 gw_295 gw_296 gw_51 gw_297) rfl rfl rfl hd_X4_at ⟨Nat.le_of_ble_eq_true rfl, Nat.le_of_ble_eq_true rfl⟩) hK hA hw [1, 2] (by decide) rfl rfl (none :: some 0 :: some 1 :: none :: none :: none :: none :: none :: none :: none :: none :: none :: none :: none :: none :: none :: none :: none :: []) rfl (by decide) 1 rfl rfl hl.1 rfl rfl (lv_room (Nat.le_of_ble_eq_true rfl)) ⟨Nat.zero_le _, Nat.zero_le _⟩ dX5_gather_44 (fun H locs hw => ?_)
              replace hw : zW D A s H locs (wd_X5_gather cI cJ cZ a_this a_this_left a_this_left_rows a_this_queue a_this_queue_cells a_this_facts a_this_facts_cells a_this_places a_this_places_cells a_this_told a_this_told_cells a_p1 a_p1_rows a_p2 a_p2_firsts a_p2_firsts_cells a_p2_lasts a_p2_lasts_cells v17 v_this_sizeBefore f18 f19 f20 f21 f_this_told_cells f_p1_rows v_p2_size v_p2_staffStart f_p2_firsts_cells f_p2_lasts_cells) := hw
              refine lv_lconst (v := 0) S.1 S.2.1 dX5_gather_47 (by decide) ?_
              refine W.lcmp S.1 S.2.1 dX5_gather_48 ?_
              refine z_if_eq S (tgt := 83) h dX5_gather_49 (by decide) (fun h => ?_) (fun h => ?_)
              · refine z_iinc S (i := 3) (k := 2) (v := x16 + 1) hl rfl (by decide) rfl (fun v => (3, .int v) :: [(0, .ref a_this), (2, .ref a_p2), (4, .int x22)]) (fun _ => rfl) h dX5_gather_83 (fun y25 ls hl h => ?_)
                replace hl : lv_has ls 5 [(3, .int y25), (0, .ref a_this), (2, .ref a_p2), (4, .int x22)] := hl
                refine lv_goto (tgt := 23) S.1 S.2.1 dX5_gather_86 (by decide) ?_
                exact ih_23 v17 f18 f19 f20 f21 y25 h _ _ ls hw (lv_sub hl [1, 2, 0] rfl)
              · refine lv_aload_n S.1 S.2.1 dX5_gather_52 rfl (lv_at hl 0 rfl) ?_
                refine z_get S (C := RX5) (T := TX5) (N := 7) (gi gu_X5) hK hw 0 rfl rfl 0 (Nat.le_of_ble_eq_true rfl) (List.mem_cons_of_mem _ gw_124) rfl dX5_gather_53 ?_
                refine lv_iload S.1 S.2.1 dX5_gather_56 (lv_at hl 3 rfl) ?_
                refine lv_iload_n S.1 S.2.1 dX5_gather_58 rfl (lv_at hl 2 rfl) ?_
                obtain ⟨y26, hc, h⟩ := z_b1_e h
                refine z_callVi (As := [.int x22, .int x16]) (rest := []) S (c_X4_isBlack l D cI cJ cZ a_this_left a_this_left_rows f18 x22 x16 _ hc) (cwV 2 S.2.2.2.2 (gw_V gw_392 gw_310 gw_311 gw_51 gw_312) rfl rfl rfl hd_X4_isBlack ⟨Nat.le_of_ble_eq_true rfl, Nat.le_of_ble_eq_true rfl⟩) hK hA hw [1, 2] (by decide) rfl rfl (none :: some 0 :: some 1 :: none :: none :: none :: none :: none :: none :: none :: none :: none :: none :: none :: none :: none :: none :: none :: []) rfl (by decide) 1 rfl rfl hl.1 rfl rfl (lv_room (Nat.le_of_ble_eq_true rfl)) ⟨Nat.zero_le _, Nat.zero_le _⟩ dX5_gather_59 (fun H locs hw => ?_)
                replace hw : zW D A s H locs (wd_X5_gather cI cJ cZ a_this a_this_left a_this_left_rows a_this_queue a_this_queue_cells a_this_facts a_this_facts_cells a_this_places a_this_places_cells a_this_told a_this_told_cells a_p1 a_p1_rows a_p2 a_p2_firsts a_p2_firsts_cells a_p2_lasts a_p2_lasts_cells v17 v_this_sizeBefore f18 f19 f20 f21 f_this_told_cells f_p1_rows v_p2_size v_p2_staffStart f_p2_firsts_cells f_p2_lasts_cells) := hw
                refine z_if_eq S (tgt := 77) h dX5_gather_62 (by decide) (fun h => ?_) (fun h => ?_)
                · refine z_iinc S (i := 4) (k := 3) (v := x22 + 1) hl rfl (by decide) rfl (fun v => (4, .int v) :: [(0, .ref a_this), (2, .ref a_p2), (3, .int x16)]) (fun _ => rfl) h dX5_gather_77 (fun y27 ls hl h => ?_)
                  replace hl : lv_has ls 5 [(4, .int y27), (0, .ref a_this), (2, .ref a_p2), (3, .int x16)] := hl
                  refine lv_goto (tgt := 32) S.1 S.2.1 dX5_gather_80 (by decide) ?_
                  exact ih_32 v17 f18 f19 f20 f21 y27 h _ _ ls hw (lv_sub hl [1, 2, 3, 0] rfl)
                · refine lv_aload_n S.1 S.2.1 dX5_gather_65 rfl (lv_at hl 0 rfl) ?_
                  refine lv_iload S.1 S.2.1 dX5_gather_66 (lv_at hl 3 rfl) ?_
                  refine lv_iload_n S.1 S.2.1 dX5_gather_68 rfl (lv_at hl 2 rfl) ?_
                  obtain ⟨y28, v29, f30, f31, f32, f33, hc, h⟩ := z_b6_e h
                  refine z_callVi (As := [.int x22, .int x16]) (rest := []) S (c_X5_add l D cI cJ cZ a_this a_this_left a_this_left_rows a_this_queue a_this_queue_cells a_this_facts a_this_facts_cells a_this_places a_this_places_cells a_this_told v17 v_this_sizeBefore f18 f19 f20 f21 K x22 x16 _ hc) (cwV 2 S.2.2.2.2 (gw_V gw_393 gw_395 gw_3 gw_54 gw_396) rfl rfl rfl hd_X5_add ⟨Nat.le_of_ble_eq_true rfl, Nat.le_of_ble_eq_true rfl⟩) hK hA hw [0, 1, 2, 3, 4, 5, 6, 7, 8] (by decide) rfl rfl (some 0 :: some 1 :: some 2 :: some 3 :: some 4 :: some 5 :: some 6 :: some 7 :: some 8 :: none :: none :: none :: none :: none :: none :: none :: none :: none :: []) rfl (by decide) 0 rfl rfl hl.1 rfl rfl (lv_room (Nat.le_of_ble_eq_true rfl)) ⟨Nat.zero_le _, Nat.zero_le _⟩ dX5_gather_69 (fun H locs hw => ?_)
                  replace hw : zW D A s H locs (wd_X5_gather cI cJ cZ a_this a_this_left a_this_left_rows a_this_queue a_this_queue_cells a_this_facts a_this_facts_cells a_this_places a_this_places_cells a_this_told a_this_told_cells a_p1 a_p1_rows a_p2 a_p2_firsts a_p2_firsts_cells a_p2_lasts a_p2_lasts_cells v29 v_this_sizeBefore f30 f31 f32 f33 f_this_told_cells f_p1_rows v_p2_size v_p2_staffStart f_p2_firsts_cells f_p2_lasts_cells) := hw
                  refine z_if_ne S (tgt := 77) h dX5_gather_72 (by decide) (fun h => ?_) (fun h => ?_)
                  · refine z_iinc S (i := 4) (k := 3) (v := x22 + 1) hl rfl (by decide) rfl (fun v => (4, .int v) :: [(0, .ref a_this), (2, .ref a_p2), (3, .int x16)]) (fun _ => rfl) h dX5_gather_77 (fun y34 ls hl h => ?_)
                    replace hl : lv_has ls 5 [(4, .int y34), (0, .ref a_this), (2, .ref a_p2), (3, .int x16)] := hl
                    refine lv_goto (tgt := 32) S.1 S.2.1 dX5_gather_80 (by decide) ?_
                    exact ih_32 v29 f30 f31 f32 f33 y34 h _ _ ls hw (lv_sub hl [1, 2, 3, 0] rfl)
                  · refine lv_iconst (v := 0) S.1 S.2.1 dX5_gather_75 (by decide) ?_
                    exact ret (0, v29, v_this_sizeBefore, f30, f31, f32, f33, f_this_told_cells) h (z_nb (Or.inl rfl)) 76 ls _ _ dX5_gather_76 hw
        exact L_32 K v11 f12 f13 f14 f15 0 h _ _ ls hw (lv_sub hl [1, 2, 3, 0] rfl)
  exact L_23 K 0 f2 f_this_queue_cells f_this_facts_cells f_this_places_cells 0 h _ _ ls hw (lv_sub hl [1, 3, 0] rfl)
def gs_X5_size : List Cond := Cond.code yX5_size cX5_size 1 (some .int) :: GW
def wd_X5_size (cI cJ cZ : ClassId) (a_this a_this_left a_this_queue a_this_facts a_this_places a_this_told : Nat) (v_this_size : Int32) (v_this_sizeBefore : Int32) : va_W := [(a_this, .inr (5, [.ref a_this_left, .ref a_this_queue, .ref a_this_facts, .ref a_this_places, .ref a_this_told, .int v_this_size, .int v_this_sizeBefore]))]
abbrev rm_X5_size : Room := { frames := 0, cells := 0, slots := 0, locals := 0 }
theorem hd_X5_size : yX5_size.cls = RX5 ∧ yX5_size.cls ≠ "java/lang/invoke/MethodHandle" ∧ yX5_size.cls ≠ "java/lang/invoke/VarHandle" ∧ (parseMethodDescriptor yX5_size.desc).map (fun d => d.parameters.length) = some 0 := by decide +kernel
set_option maxHeartbeats 4000000 in
set_option maxRecDepth 100000 in
theorem c_X5_size (l : Launch) (D : va_G) (cI cJ cZ : ClassId) (a_this a_this_left a_this_queue a_this_facts a_this_places a_this_told : Nat) (v_this_size : Int32) (v_this_sizeBefore : Int32) (o : Int32) (h : p_X5_size v_this_size = some o) : zMi l D (zT cI cJ cZ) yX5_size gs_X5_size rm_X5_size [.ref a_this] (wd_X5_size cI cJ cZ a_this a_this_left a_this_queue a_this_facts a_this_places a_this_told v_this_size v_this_sizeBefore) (wd_X5_size cI cJ cZ a_this a_this_left a_this_queue a_this_facts a_this_places a_this_told v_this_size v_this_sizeBefore) (o) := by
  refine zMet_i (own := RX5) (fun u : Int32 => (wd_X5_size cI cJ cZ a_this a_this_left a_this_queue a_this_facts a_this_places a_this_told v_this_size v_this_sizeBefore)) (fun u : Int32 => u) (by decide) rfl rfl (Nat.le_of_ble_eq_true rfl) ?_
  intro p e s m args below meth c A Q S hK hA hw ret ls hl
  replace hl : lv_has ls 1 [(0, .ref a_this)] := hl
  refine lv_aload_n S.1 S.2.1 dX5_size_0 rfl (lv_at hl 0 rfl) ?_
  refine z_get S (C := RX5) (T := TX5) (N := 7) (gi gu_X5) hK hw 0 rfl rfl 5 (Nat.le_of_ble_eq_true rfl) (List.mem_cons_of_mem _ gw_129) rfl dX5_size_1 ?_
  exact ret v_this_size h 4 ls _ _ dX5_size_4 hw
def gs_X5_fact : List Cond := Cond.code yX5_fact cX5_fact 3 (some .int) :: GW
def wd_X5_fact (cI cJ cZ : ClassId) (a_this a_this_left a_this_queue a_this_facts a_this_facts_cells a_this_places a_this_places_cells a_this_told : Nat) (v_this_size : Int32) (v_this_sizeBefore : Int32) (f_this_facts_cells : Nat → Int32) (f_this_places_cells : Nat → Int32) : va_W := [(a_this, .inr (5, [.ref a_this_left, .ref a_this_queue, .ref a_this_facts, .ref a_this_places, .ref a_this_told, .int v_this_size, .int v_this_sizeBefore])), (a_this_facts, .inr (3, [.ref a_this_facts_cells])), (a_this_facts_cells, .inl (cI, 240, .inl f_this_facts_cells)), (a_this_places, .inr (3, [.ref a_this_places_cells])), (a_this_places_cells, .inl (cI, 40, .inl f_this_places_cells))]
abbrev rm_X5_fact : Room := { frames := 1, cells := 0, slots := 0, locals := 21 }
theorem hd_X5_fact : yX5_fact.cls = RX5 ∧ yX5_fact.cls ≠ "java/lang/invoke/MethodHandle" ∧ yX5_fact.cls ≠ "java/lang/invoke/VarHandle" ∧ (parseMethodDescriptor yX5_fact.desc).map (fun d => d.parameters.length) = some 2 := by decide +kernel
set_option maxHeartbeats 4000000 in
set_option maxRecDepth 100000 in
theorem c_X5_fact (l : Launch) (D : va_G) (cI cJ cZ : ClassId) (a_this a_this_left a_this_queue a_this_facts a_this_facts_cells a_this_places a_this_places_cells a_this_told : Nat) (v_this_size : Int32) (v_this_sizeBefore : Int32) (f_this_facts_cells : Nat → Int32) (f_this_places_cells : Nat → Int32) (i1 : Int32) (i2 : Int32) (o : Int32) (h : p_X5_fact f_this_facts_cells f_this_places_cells i1 i2 = some o) : zMi l D (zT cI cJ cZ) yX5_fact gs_X5_fact rm_X5_fact [.ref a_this, .int i1, .int i2] (wd_X5_fact cI cJ cZ a_this a_this_left a_this_queue a_this_facts a_this_facts_cells a_this_places a_this_places_cells a_this_told v_this_size v_this_sizeBefore f_this_facts_cells f_this_places_cells) (wd_X5_fact cI cJ cZ a_this a_this_left a_this_queue a_this_facts a_this_facts_cells a_this_places a_this_places_cells a_this_told v_this_size v_this_sizeBefore f_this_facts_cells f_this_places_cells) (o) := by
  refine zMet_i (own := RX5) (fun u : Int32 => (wd_X5_fact cI cJ cZ a_this a_this_left a_this_queue a_this_facts a_this_facts_cells a_this_places a_this_places_cells a_this_told v_this_size v_this_sizeBefore f_this_facts_cells f_this_places_cells)) (fun u : Int32 => u) (by decide) rfl rfl (Nat.le_of_ble_eq_true rfl) ?_
  intro p e s m args below meth c A Q S hK hA hw ret ls hl
  replace hl : lv_has ls 3 [(0, .ref a_this), (1, .int i1), (2, .int i2)] := hl
  refine lv_aload_n S.1 S.2.1 dX5_fact_0 rfl (lv_at hl 0 rfl) ?_
  refine z_get S (C := RX5) (T := TX5) (N := 7) (gi gu_X5) hK hw 0 rfl rfl 2 (Nat.le_of_ble_eq_true rfl) (List.mem_cons_of_mem _ gw_126) rfl dX5_fact_1 ?_
  refine lv_aload_n S.1 S.2.1 dX5_fact_4 rfl (lv_at hl 0 rfl) ?_
  refine z_get S (C := RX5) (T := TX5) (N := 7) (gi gu_X5) hK hw 0 rfl rfl 3 (Nat.le_of_ble_eq_true rfl) (List.mem_cons_of_mem _ gw_127) rfl dX5_fact_5 ?_
  refine lv_iload_n S.1 S.2.1 dX5_fact_8 rfl (lv_at hl 1 rfl) ?_
  obtain ⟨y1, hc, h⟩ := z_b1_e h
  refine z_callVi (As := [.int i1]) (rest := [.ref a_this_facts]) S (c_X3_get l D cI cJ cZ a_this_places a_this_places_cells 40 f_this_places_cells i1 _ hc) (cwV 1 S.2.2.2.2 (gw_V gw_410 gw_342 gw_343 gw_53 gw_344) rfl rfl rfl hd_X3_get ⟨Nat.le_of_ble_eq_true rfl, Nat.le_of_ble_eq_true rfl⟩) hK hA hw [3, 4] (by decide) rfl rfl [none, none, none, some 0, some 1] rfl (by decide) 3 rfl rfl hl.1 rfl rfl (lv_room (Nat.le_of_ble_eq_true rfl)) ⟨Nat.zero_le _, Nat.zero_le _⟩ dX5_fact_9 (fun H locs hw => ?_)
  replace hw : zW D A s H locs (wd_X5_fact cI cJ cZ a_this a_this_left a_this_queue a_this_facts a_this_facts_cells a_this_places a_this_places_cells a_this_told v_this_size v_this_sizeBefore f_this_facts_cells f_this_places_cells) := hw
  refine lv_bipush (v := 6) S.1 S.2.1 dX5_fact_12 (by decide) ?_
  refine lv_imul S.1 S.2.1 dX5_fact_14 ?_
  refine lv_iload_n S.1 S.2.1 dX5_fact_15 rfl (lv_at hl 2 rfl) ?_
  refine lv_iadd S.1 S.2.1 dX5_fact_16 ?_
  obtain ⟨y2, hc, h⟩ := z_b1_e h
  refine z_callVi (As := [.int ((y1 * 6) + i2)]) (rest := []) S (c_X3_get l D cI cJ cZ a_this_facts a_this_facts_cells 240 f_this_facts_cells ((y1 * 6) + i2) _ hc) (cwV 1 S.2.2.2.2 (gw_V gw_410 gw_342 gw_343 gw_53 gw_344) rfl rfl rfl hd_X3_get ⟨Nat.le_of_ble_eq_true rfl, Nat.le_of_ble_eq_true rfl⟩) hK hA hw [1, 2] (by decide) rfl rfl [none, some 0, some 1, none, none] rfl (by decide) 1 rfl rfl hl.1 rfl rfl (lv_room (Nat.le_of_ble_eq_true rfl)) ⟨Nat.zero_le _, Nat.zero_le _⟩ dX5_fact_17 (fun H locs hw => ?_)
  replace hw : zW D A s H locs (wd_X5_fact cI cJ cZ a_this a_this_left a_this_queue a_this_facts a_this_facts_cells a_this_places a_this_places_cells a_this_told v_this_size v_this_sizeBefore f_this_facts_cells f_this_places_cells) := hw
  exact ret y2 h 20 ls _ _ dX5_fact_20 hw
theorem gw_526 : Cond.methodLink RX5 119 yX5_fact ∈ GW := GW_of 526 (by decide +kernel) (by decide +kernel)
theorem gw_469 : Cond.code yX5_fact cX5_fact 3 (some .int) ∈ GW := GW_of 469 (by decide +kernel) (by decide +kernel)
theorem gw_467 : Cond.instanceMethod yX5_fact ∈ GW := GW_of 467 (by decide +kernel) (by decide +kernel)
theorem gw_468 : Cond.selects RX5 yX5_fact yX5_fact ∈ GW := GW_of 468 (by decide +kernel) (by decide +kernel)
def gs_X5_boxHeight : List Cond := Cond.code yX5_boxHeight cX5_boxHeight 2 (some .int) :: GW
def wd_X5_boxHeight (cI cJ cZ : ClassId) (a_this a_this_left a_this_queue a_this_facts a_this_facts_cells a_this_places a_this_places_cells a_this_told : Nat) (v_this_size : Int32) (v_this_sizeBefore : Int32) (f_this_facts_cells : Nat → Int32) (f_this_places_cells : Nat → Int32) : va_W := [(a_this, .inr (5, [.ref a_this_left, .ref a_this_queue, .ref a_this_facts, .ref a_this_places, .ref a_this_told, .int v_this_size, .int v_this_sizeBefore])), (a_this_facts, .inr (3, [.ref a_this_facts_cells])), (a_this_facts_cells, .inl (cI, 240, .inl f_this_facts_cells)), (a_this_places, .inr (3, [.ref a_this_places_cells])), (a_this_places_cells, .inl (cI, 40, .inl f_this_places_cells))]
abbrev rm_X5_boxHeight : Room := { frames := 2, cells := 0, slots := 0, locals := 43 }
theorem hd_X5_boxHeight : yX5_boxHeight.cls = RX5 ∧ yX5_boxHeight.cls ≠ "java/lang/invoke/MethodHandle" ∧ yX5_boxHeight.cls ≠ "java/lang/invoke/VarHandle" ∧ (parseMethodDescriptor yX5_boxHeight.desc).map (fun d => d.parameters.length) = some 1 := by decide +kernel
set_option maxHeartbeats 4000000 in
set_option maxRecDepth 100000 in
theorem c_X5_boxHeight (l : Launch) (D : va_G) (cI cJ cZ : ClassId) (a_this a_this_left a_this_queue a_this_facts a_this_facts_cells a_this_places a_this_places_cells a_this_told : Nat) (v_this_size : Int32) (v_this_sizeBefore : Int32) (f_this_facts_cells : Nat → Int32) (f_this_places_cells : Nat → Int32) (i1 : Int32) (o : Int32) (h : p_X5_boxHeight f_this_facts_cells f_this_places_cells i1 = some o) : zMi l D (zT cI cJ cZ) yX5_boxHeight gs_X5_boxHeight rm_X5_boxHeight [.ref a_this, .int i1] (wd_X5_boxHeight cI cJ cZ a_this a_this_left a_this_queue a_this_facts a_this_facts_cells a_this_places a_this_places_cells a_this_told v_this_size v_this_sizeBefore f_this_facts_cells f_this_places_cells) (wd_X5_boxHeight cI cJ cZ a_this a_this_left a_this_queue a_this_facts a_this_facts_cells a_this_places a_this_places_cells a_this_told v_this_size v_this_sizeBefore f_this_facts_cells f_this_places_cells) (o) := by
  refine zMet_i (own := RX5) (fun u : Int32 => (wd_X5_boxHeight cI cJ cZ a_this a_this_left a_this_queue a_this_facts a_this_facts_cells a_this_places a_this_places_cells a_this_told v_this_size v_this_sizeBefore f_this_facts_cells f_this_places_cells)) (fun u : Int32 => u) (by decide) rfl rfl (Nat.le_of_ble_eq_true rfl) ?_
  intro p e s m args below meth c A Q S hK hA hw ret ls hl
  replace hl : lv_has ls 2 [(0, .ref a_this), (1, .int i1)] := hl
  refine lv_aload_n S.1 S.2.1 dX5_boxHeight_0 rfl (lv_at hl 0 rfl) ?_
  refine lv_iload_n S.1 S.2.1 dX5_boxHeight_1 rfl (lv_at hl 1 rfl) ?_
  refine lv_iconst (v := 4) S.1 S.2.1 dX5_boxHeight_2 (by decide) ?_
  obtain ⟨y1, hc, h⟩ := z_b1_e h
  refine z_callVi (As := [.int i1, .int 4]) (rest := []) S (c_X5_fact l D cI cJ cZ a_this a_this_left a_this_queue a_this_facts a_this_facts_cells a_this_places a_this_places_cells a_this_told v_this_size v_this_sizeBefore f_this_facts_cells f_this_places_cells i1 4 _ hc) (cwV 2 S.2.2.2.2 (gw_V gw_526 gw_467 gw_468 gw_54 gw_469) rfl rfl rfl hd_X5_fact ⟨Nat.le_of_ble_eq_true rfl, Nat.le_of_ble_eq_true rfl⟩) hK hA hw [0, 1, 2, 3, 4] (by decide) rfl rfl [some 0, some 1, some 2, some 3, some 4] rfl (by decide) 0 rfl rfl hl.1 rfl rfl (lv_room (Nat.le_of_ble_eq_true rfl)) ⟨Nat.zero_le _, Nat.zero_le _⟩ dX5_boxHeight_3 (fun H locs hw => ?_)
  replace hw : zW D A s H locs (wd_X5_boxHeight cI cJ cZ a_this a_this_left a_this_queue a_this_facts a_this_facts_cells a_this_places a_this_places_cells a_this_told v_this_size v_this_sizeBefore f_this_facts_cells f_this_places_cells) := hw
  refine lv_aload_n S.1 S.2.1 dX5_boxHeight_6 rfl (lv_at hl 0 rfl) ?_
  refine lv_iload_n S.1 S.2.1 dX5_boxHeight_7 rfl (lv_at hl 1 rfl) ?_
  refine lv_iconst (v := 2) S.1 S.2.1 dX5_boxHeight_8 (by decide) ?_
  obtain ⟨y2, hc, h⟩ := z_b1_e h
  refine z_callVi (As := [.int i1, .int 2]) (rest := [.int y1]) S (c_X5_fact l D cI cJ cZ a_this a_this_left a_this_queue a_this_facts a_this_facts_cells a_this_places a_this_places_cells a_this_told v_this_size v_this_sizeBefore f_this_facts_cells f_this_places_cells i1 2 _ hc) (cwV 2 S.2.2.2.2 (gw_V gw_526 gw_467 gw_468 gw_54 gw_469) rfl rfl rfl hd_X5_fact ⟨Nat.le_of_ble_eq_true rfl, Nat.le_of_ble_eq_true rfl⟩) hK hA hw [0, 1, 2, 3, 4] (by decide) rfl rfl [some 0, some 1, some 2, some 3, some 4] rfl (by decide) 0 rfl rfl hl.1 rfl rfl (lv_room (Nat.le_of_ble_eq_true rfl)) ⟨Nat.zero_le _, Nat.zero_le _⟩ dX5_boxHeight_9 (fun H locs hw => ?_)
  replace hw : zW D A s H locs (wd_X5_boxHeight cI cJ cZ a_this a_this_left a_this_queue a_this_facts a_this_facts_cells a_this_places a_this_places_cells a_this_told v_this_size v_this_sizeBefore f_this_facts_cells f_this_places_cells) := hw
  refine lv_isub S.1 S.2.1 dX5_boxHeight_12 ?_
  refine lv_iconst (v := 1) S.1 S.2.1 dX5_boxHeight_13 (by decide) ?_
  refine lv_iadd S.1 S.2.1 dX5_boxHeight_14 ?_
  exact ret ((y1 - y2) + 1) h 15 ls _ _ dX5_boxHeight_15 hw
def gs_X5_said : List Cond := Cond.code yX5_said cX5_said 2 (some .int) :: GW
def wd_X5_said (cI cJ cZ : ClassId) (a_this a_this_left a_this_queue a_this_facts a_this_places a_this_told a_this_told_cells : Nat) (v_this_size : Int32) (v_this_sizeBefore : Int32) (f_this_told_cells : Nat → Int32) : va_W := [(a_this, .inr (5, [.ref a_this_left, .ref a_this_queue, .ref a_this_facts, .ref a_this_places, .ref a_this_told, .int v_this_size, .int v_this_sizeBefore])), (a_this_told, .inr (3, [.ref a_this_told_cells])), (a_this_told_cells, .inl (cI, 40, .inl f_this_told_cells))]
abbrev rm_X5_said : Room := { frames := 1, cells := 0, slots := 0, locals := 21 }
theorem hd_X5_said : yX5_said.cls = RX5 ∧ yX5_said.cls ≠ "java/lang/invoke/MethodHandle" ∧ yX5_said.cls ≠ "java/lang/invoke/VarHandle" ∧ (parseMethodDescriptor yX5_said.desc).map (fun d => d.parameters.length) = some 1 := by decide +kernel
set_option maxHeartbeats 4000000 in
set_option maxRecDepth 100000 in
theorem c_X5_said (l : Launch) (D : va_G) (cI cJ cZ : ClassId) (a_this a_this_left a_this_queue a_this_facts a_this_places a_this_told a_this_told_cells : Nat) (v_this_size : Int32) (v_this_sizeBefore : Int32) (f_this_told_cells : Nat → Int32) (i1 : Int32) (o : Int32) (h : p_X5_said f_this_told_cells i1 = some o) : zMi l D (zT cI cJ cZ) yX5_said gs_X5_said rm_X5_said [.ref a_this, .int i1] (wd_X5_said cI cJ cZ a_this a_this_left a_this_queue a_this_facts a_this_places a_this_told a_this_told_cells v_this_size v_this_sizeBefore f_this_told_cells) (wd_X5_said cI cJ cZ a_this a_this_left a_this_queue a_this_facts a_this_places a_this_told a_this_told_cells v_this_size v_this_sizeBefore f_this_told_cells) (o) := by
  refine zMet_i (own := RX5) (fun u : Int32 => (wd_X5_said cI cJ cZ a_this a_this_left a_this_queue a_this_facts a_this_places a_this_told a_this_told_cells v_this_size v_this_sizeBefore f_this_told_cells)) (fun u : Int32 => u) (by decide) rfl rfl (Nat.le_of_ble_eq_true rfl) ?_
  intro p e s m args below meth c A Q S hK hA hw ret ls hl
  replace hl : lv_has ls 2 [(0, .ref a_this), (1, .int i1)] := hl
  refine lv_aload_n S.1 S.2.1 dX5_said_0 rfl (lv_at hl 0 rfl) ?_
  refine z_get S (C := RX5) (T := TX5) (N := 7) (gi gu_X5) hK hw 0 rfl rfl 4 (Nat.le_of_ble_eq_true rfl) (List.mem_cons_of_mem _ gw_128) rfl dX5_said_1 ?_
  refine lv_iload_n S.1 S.2.1 dX5_said_4 rfl (lv_at hl 1 rfl) ?_
  obtain ⟨y1, hc, h⟩ := z_b1_e h
  refine z_callVi (As := [.int i1]) (rest := []) S (c_X3_get l D cI cJ cZ a_this_told a_this_told_cells 40 f_this_told_cells i1 _ hc) (cwV 1 S.2.2.2.2 (gw_V gw_410 gw_342 gw_343 gw_53 gw_344) rfl rfl rfl hd_X3_get ⟨Nat.le_of_ble_eq_true rfl, Nat.le_of_ble_eq_true rfl⟩) hK hA hw [1, 2] (by decide) rfl rfl [none, some 0, some 1] rfl (by decide) 1 rfl rfl hl.1 rfl rfl (lv_room (Nat.le_of_ble_eq_true rfl)) ⟨Nat.zero_le _, Nat.zero_le _⟩ dX5_said_5 (fun H locs hw => ?_)
  replace hw : zW D A s H locs (wd_X5_said cI cJ cZ a_this a_this_left a_this_queue a_this_facts a_this_places a_this_told a_this_told_cells v_this_size v_this_sizeBefore f_this_told_cells) := hw
  exact ret y1 h 8 ls _ _ dX5_said_8 hw
def gs_X5_say : List Cond := Cond.code yX5_say cX5_say 4 (some .int) :: GW
def wd_X5_say (cI cJ cZ : ClassId) (a_this a_this_left a_this_queue a_this_facts a_this_places a_this_told a_this_told_cells : Nat) (v_this_size : Int32) (v_this_sizeBefore : Int32) (f_this_told_cells : Nat → Int32) : va_W := [(a_this, .inr (5, [.ref a_this_left, .ref a_this_queue, .ref a_this_facts, .ref a_this_places, .ref a_this_told, .int v_this_size, .int v_this_sizeBefore])), (a_this_told, .inr (3, [.ref a_this_told_cells])), (a_this_told_cells, .inl (cI, 40, .inl f_this_told_cells))]
abbrev rm_X5_say : Room := { frames := 1, cells := 0, slots := 0, locals := 22 }
theorem hd_X5_say : yX5_say.cls = RX5 ∧ yX5_say.cls ≠ "java/lang/invoke/MethodHandle" ∧ yX5_say.cls ≠ "java/lang/invoke/VarHandle" ∧ (parseMethodDescriptor yX5_say.desc).map (fun d => d.parameters.length) = some 2 := by decide +kernel
set_option maxHeartbeats 4000000 in
set_option maxRecDepth 100000 in
theorem c_X5_say (l : Launch) (D : va_G) (cI cJ cZ : ClassId) (a_this a_this_left a_this_queue a_this_facts a_this_places a_this_told a_this_told_cells : Nat) (v_this_size : Int32) (v_this_sizeBefore : Int32) (f_this_told_cells : Nat → Int32) (i1 : Int32) (i2 : Int32) (o : Int32 × (Nat → Int32)) (h : p_X5_say f_this_told_cells i1 i2 = some o) : zMi l D (zT cI cJ cZ) yX5_say gs_X5_say rm_X5_say [.ref a_this, .int i1, .int i2] (wd_X5_say cI cJ cZ a_this a_this_left a_this_queue a_this_facts a_this_places a_this_told a_this_told_cells v_this_size v_this_sizeBefore f_this_told_cells) (wd_X5_say cI cJ cZ a_this a_this_left a_this_queue a_this_facts a_this_places a_this_told a_this_told_cells v_this_size v_this_sizeBefore (o.2)) (o.1) := by
  refine zMet_i (own := RX5) (fun u : Int32 × (Nat → Int32) => (wd_X5_say cI cJ cZ a_this a_this_left a_this_queue a_this_facts a_this_places a_this_told a_this_told_cells v_this_size v_this_sizeBefore (u.2))) (fun u : Int32 × (Nat → Int32) => u.1) (by decide) rfl rfl (Nat.le_of_ble_eq_true rfl) ?_
  intro p e s m args below meth c A Q S hK hA hw ret ls hl
  replace hl : lv_has ls 4 [(0, .ref a_this), (1, .int i1), (2, .int i2)] := hl
  refine lv_aload_n S.1 S.2.1 dX5_say_0 rfl (lv_at hl 0 rfl) ?_
  refine z_get S (C := RX5) (T := TX5) (N := 7) (gi gu_X5) hK hw 0 rfl rfl 4 (Nat.le_of_ble_eq_true rfl) (List.mem_cons_of_mem _ gw_128) rfl dX5_say_1 ?_
  refine lv_iload_n S.1 S.2.1 dX5_say_4 rfl (lv_at hl 1 rfl) ?_
  obtain ⟨y1, hc, h⟩ := z_b1_e h
  refine z_callVi (As := [.int i1]) (rest := []) S (c_X3_get l D cI cJ cZ a_this_told a_this_told_cells 40 f_this_told_cells i1 _ hc) (cwV 1 S.2.2.2.2 (gw_V gw_410 gw_342 gw_343 gw_53 gw_344) rfl rfl rfl hd_X3_get ⟨Nat.le_of_ble_eq_true rfl, Nat.le_of_ble_eq_true rfl⟩) hK hA hw [1, 2] (by decide) rfl rfl [none, some 0, some 1] rfl (by decide) 1 rfl rfl hl.1 rfl rfl (lv_room (Nat.le_of_ble_eq_true rfl)) ⟨Nat.zero_le _, Nat.zero_le _⟩ dX5_say_5 (fun H locs hw => ?_)
  replace hw : zW D A s H locs (wd_X5_say cI cJ cZ a_this a_this_left a_this_queue a_this_facts a_this_places a_this_told a_this_told_cells v_this_size v_this_sizeBefore f_this_told_cells) := hw
  refine lv_istore_n (lv' := [(3, .int y1), (0, .ref a_this), (1, .int i1), (2, .int i2)]) S.1 S.2.1 dX5_say_8 rfl hl (by decide) rfl (fun ls hl => ?_)
  refine lv_aload_n S.1 S.2.1 dX5_say_9 rfl (lv_at hl 1 rfl) ?_
  refine z_get S (C := RX5) (T := TX5) (N := 7) (gi gu_X5) hK hw 0 rfl rfl 4 (Nat.le_of_ble_eq_true rfl) (List.mem_cons_of_mem _ gw_128) rfl dX5_say_10 ?_
  refine lv_iload_n S.1 S.2.1 dX5_say_13 rfl (lv_at hl 2 rfl) ?_
  refine lv_iload_n S.1 S.2.1 dX5_say_14 rfl (lv_at hl 3 rfl) ?_
  obtain ⟨f2, hc, h⟩ := z_b1_e h
  refine z_callVv (As := [.int i1, .int i2]) (rest := []) S (c_X3_put l D cI cJ cZ a_this_told a_this_told_cells 40 f_this_told_cells i1 i2 _ hc) (cwV 2 S.2.2.2.2 (gw_V gw_405 gw_326 gw_327 gw_53 gw_328) rfl rfl rfl hd_X3_put ⟨Nat.le_of_ble_eq_true rfl, Nat.le_of_ble_eq_true rfl⟩) hK hA hw [1, 2] (by decide) rfl rfl [none, some 0, some 1] rfl (by decide) 1 rfl rfl hl.1 rfl rfl (lv_room (Nat.le_of_ble_eq_true rfl)) ⟨Nat.zero_le _, Nat.zero_le _⟩ dX5_say_15 (fun H locs hw => ?_)
  replace hw : zW D A s H locs (wd_X5_say cI cJ cZ a_this a_this_left a_this_queue a_this_facts a_this_places a_this_told a_this_told_cells v_this_size v_this_sizeBefore f2) := hw
  refine lv_iload_n S.1 S.2.1 dX5_say_18 rfl (lv_at hl 0 rfl) ?_
  exact ret (y1, f2) h 19 ls _ _ dX5_say_19 hw
def gs_X5_saidCount : List Cond := Cond.code yX5_saidCount cX5_saidCount 3 (some .int) :: GW
def wd_X5_saidCount (cI cJ cZ : ClassId) (a_this a_this_left a_this_queue a_this_facts a_this_places a_this_told a_this_told_cells : Nat) (v_this_size : Int32) (v_this_sizeBefore : Int32) (f_this_told_cells : Nat → Int32) : va_W := [(a_this, .inr (5, [.ref a_this_left, .ref a_this_queue, .ref a_this_facts, .ref a_this_places, .ref a_this_told, .int v_this_size, .int v_this_sizeBefore])), (a_this_told, .inr (3, [.ref a_this_told_cells])), (a_this_told_cells, .inl (cI, 40, .inl f_this_told_cells))]
abbrev rm_X5_saidCount : Room := { frames := 1, cells := 0, slots := 0, locals := 21 }
theorem hd_X5_saidCount : yX5_saidCount.cls = RX5 ∧ yX5_saidCount.cls ≠ "java/lang/invoke/MethodHandle" ∧ yX5_saidCount.cls ≠ "java/lang/invoke/VarHandle" ∧ (parseMethodDescriptor yX5_saidCount.desc).map (fun d => d.parameters.length) = some 0 := by decide +kernel
set_option maxHeartbeats 4000000 in
set_option maxRecDepth 100000 in
theorem c_X5_saidCount (l : Launch) (D : va_G) (cI cJ cZ : ClassId) (a_this a_this_left a_this_queue a_this_facts a_this_places a_this_told a_this_told_cells : Nat) (v_this_size : Int32) (v_this_sizeBefore : Int32) (f_this_told_cells : Nat → Int32) (K : Nat) (o : Int32) (h : p_X5_saidCount K f_this_told_cells = some o) : zMi l D (zT cI cJ cZ) yX5_saidCount gs_X5_saidCount rm_X5_saidCount [.ref a_this] (wd_X5_saidCount cI cJ cZ a_this a_this_left a_this_queue a_this_facts a_this_places a_this_told a_this_told_cells v_this_size v_this_sizeBefore f_this_told_cells) (wd_X5_saidCount cI cJ cZ a_this a_this_left a_this_queue a_this_facts a_this_places a_this_told a_this_told_cells v_this_size v_this_sizeBefore f_this_told_cells) (o) := by
  refine zMet_i (own := RX5) (fun u : Int32 => (wd_X5_saidCount cI cJ cZ a_this a_this_left a_this_queue a_this_facts a_this_places a_this_told a_this_told_cells v_this_size v_this_sizeBefore f_this_told_cells)) (fun u : Int32 => u) (by decide) rfl rfl (Nat.le_of_ble_eq_true rfl) ?_
  intro p e s m args below meth c A Q S hK hA hw ret ls hl
  replace hl : lv_has ls 3 [(0, .ref a_this)] := hl
  refine lv_iconst (v := 0) S.1 S.2.1 dX5_saidCount_0 (by decide) ?_
  refine lv_istore_n (lv' := [(1, .int 0), (0, .ref a_this)]) S.1 S.2.1 dX5_saidCount_1 rfl hl (by decide) rfl (fun ls hl => ?_)
  refine lv_iconst (v := 0) S.1 S.2.1 dX5_saidCount_2 (by decide) ?_
  refine lv_istore_n (lv' := [(2, .int 0), (1, .int 0), (0, .ref a_this)]) S.1 S.2.1 dX5_saidCount_3 rfl hl (by decide) rfl (fun ls hl => ?_)
  have L_4 : ∀ (n4_2 : Nat) (x1 : Int32) (x2 : Int32) (h : z_lp2 (p_X5_saidCount_l4 f_this_told_cells) n4_2 x1 x2 = some o) (H : Heap) (locs : List Loc) (ls : Array Slot), zW D A s H locs (wd_X5_saidCount cI cJ cZ a_this a_this_left a_this_queue a_this_facts a_this_places a_this_told a_this_told_cells v_this_size v_this_sizeBefore f_this_told_cells) → lv_has ls 3 [(0, .ref a_this), (1, .int x1), (2, .int x2)] → W p l e (headSpec gs_X5_saidCount rm_X5_saidCount).room s m args below meth c H locs 0 0 Q (F0 m 4 ls []) := by
    intro n4_2
    induction n4_2 with
    | zero => intro x1 x2 h; exact z_no h
    | succ n4_2 ih_4 =>
      intro x1 x2 h H locs ls hw hl
      replace h : (p_X5_saidCount_l4 f_this_told_cells) (z_lp2 (p_X5_saidCount_l4 f_this_told_cells) n4_2) x1 x2 = some o := h
      refine lv_iload_n S.1 S.2.1 dX5_saidCount_4 rfl (lv_at hl 2 rfl) ?_
      refine lv_bipush (v := 40) S.1 S.2.1 dX5_saidCount_5 (by decide) ?_
      refine z_icmp_ge S (tgt := 36) h dX5_saidCount_7 (by decide) (fun h => ?_) (fun h => ?_)
      · refine lv_iload_n S.1 S.2.1 dX5_saidCount_36 rfl (lv_at hl 1 rfl) ?_
        exact ret x1 h 37 ls _ _ dX5_saidCount_37 hw
      · refine lv_iload_n S.1 S.2.1 dX5_saidCount_10 rfl (lv_at hl 1 rfl) ?_
        refine lv_aload_n S.1 S.2.1 dX5_saidCount_11 rfl (lv_at hl 0 rfl) ?_
        refine z_get S (C := RX5) (T := TX5) (N := 7) (gi gu_X5) hK hw 0 rfl rfl 4 (Nat.le_of_ble_eq_true rfl) (List.mem_cons_of_mem _ gw_128) rfl dX5_saidCount_12 ?_
        refine lv_iload_n S.1 S.2.1 dX5_saidCount_15 rfl (lv_at hl 2 rfl) ?_
        obtain ⟨y3, hc, h⟩ := z_b1_e h
        refine z_callVi (As := [.int x2]) (rest := [.int x1]) S (c_X3_get l D cI cJ cZ a_this_told a_this_told_cells 40 f_this_told_cells x2 _ hc) (cwV 1 S.2.2.2.2 (gw_V gw_410 gw_342 gw_343 gw_53 gw_344) rfl rfl rfl hd_X3_get ⟨Nat.le_of_ble_eq_true rfl, Nat.le_of_ble_eq_true rfl⟩) hK hA hw [1, 2] (by decide) rfl rfl [none, some 0, some 1] rfl (by decide) 1 rfl rfl hl.1 rfl rfl (lv_room (Nat.le_of_ble_eq_true rfl)) ⟨Nat.zero_le _, Nat.zero_le _⟩ dX5_saidCount_16 (fun H locs hw => ?_)
        replace hw : zW D A s H locs (wd_X5_saidCount cI cJ cZ a_this a_this_left a_this_queue a_this_facts a_this_places a_this_told a_this_told_cells v_this_size v_this_sizeBefore f_this_told_cells) := hw
        refine lv_iconst (v := (-1)) S.1 S.2.1 dX5_saidCount_19 (by decide) ?_
        refine z_icmp_ne S (tgt := 27) h dX5_saidCount_20 (by decide) (fun h => ?_) (fun h => ?_)
        · refine lv_iconst (v := 1) S.1 S.2.1 dX5_saidCount_27 (by decide) ?_
          refine lv_iadd S.1 S.2.1 dX5_saidCount_28 ?_
          refine z_leti h (fun y4 h => ?_)
          refine lv_istore_n (lv' := [(1, .int y4), (0, .ref a_this), (2, .int x2)]) S.1 S.2.1 dX5_saidCount_29 rfl hl (by decide) rfl (fun ls hl => ?_)
          refine z_iinc S (i := 2) (k := 2) (v := x2 + 1) hl rfl (by decide) rfl (fun v => (2, .int v) :: [(1, .int y4), (0, .ref a_this)]) (fun _ => rfl) h dX5_saidCount_30 (fun y5 ls hl h => ?_)
          replace hl : lv_has ls 3 [(2, .int y5), (1, .int y4), (0, .ref a_this)] := hl
          refine lv_goto (tgt := 4) S.1 S.2.1 dX5_saidCount_33 (by decide) ?_
          exact ih_4 y4 y5 h _ _ ls hw (lv_sub hl [2, 1, 0] rfl)
        · refine lv_iconst (v := 0) S.1 S.2.1 dX5_saidCount_23 (by decide) ?_
          refine lv_goto (tgt := 28) S.1 S.2.1 dX5_saidCount_24 (by decide) ?_
          refine lv_iadd S.1 S.2.1 dX5_saidCount_28 ?_
          refine z_leti h (fun y6 h => ?_)
          refine lv_istore_n (lv' := [(1, .int y6), (0, .ref a_this), (2, .int x2)]) S.1 S.2.1 dX5_saidCount_29 rfl hl (by decide) rfl (fun ls hl => ?_)
          refine z_iinc S (i := 2) (k := 2) (v := x2 + 1) hl rfl (by decide) rfl (fun v => (2, .int v) :: [(1, .int y6), (0, .ref a_this)]) (fun _ => rfl) h dX5_saidCount_30 (fun y7 ls hl h => ?_)
          replace hl : lv_has ls 3 [(2, .int y7), (1, .int y6), (0, .ref a_this)] := hl
          refine lv_goto (tgt := 4) S.1 S.2.1 dX5_saidCount_33 (by decide) ?_
          exact ih_4 y6 y7 h _ _ ls hw (lv_sub hl [2, 1, 0] rfl)
  exact L_4 K 0 0 h _ _ ls hw (lv_sub hl [2, 1, 0] rfl)
