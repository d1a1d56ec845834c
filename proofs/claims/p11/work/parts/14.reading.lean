theorem gw_191 : Cond.fieldLink RX2 45 "ScoreReader$Reading" "size" "I" ∈ GW := GW_of 191 (by decide +kernel) (by decide +kernel)
theorem gw_520 : Cond.methodLink RX2 97 yX5_said ∈ GW := GW_of 520 (by decide +kernel) (by decide +kernel)
theorem gw_465 : Cond.code yX5_said cX5_said 2 (some .int) ∈ GW := GW_of 465 (by decide +kernel) (by decide +kernel)
theorem gw_463 : Cond.instanceMethod yX5_said ∈ GW := GW_of 463 (by decide +kernel) (by decide +kernel)
theorem gw_464 : Cond.selects RX5 yX5_said yX5_said ∈ GW := GW_of 464 (by decide +kernel) (by decide +kernel)
theorem gw_182 : Cond.fieldLink RX2 16 "ScoreReader$Reading" "costs" "LScoreReader$Row;" ∈ GW := GW_of 182 (by decide +kernel) (by decide +kernel)
theorem gw_533 : Cond.methodLink RX2 111 yX3_put ∈ GW := GW_of 533 (by decide +kernel) (by decide +kernel)
theorem gw_521 : Cond.methodLink RX2 100 yX5_fact ∈ GW := GW_of 521 (by decide +kernel) (by decide +kernel)
theorem gw_522 : Cond.methodLink RX2 104 yX5_boxHeight ∈ GW := GW_of 522 (by decide +kernel) (by decide +kernel)
theorem gw_525 : Cond.code yX5_boxHeight cX5_boxHeight 2 (some .int) ∈ GW := GW_of 525 (by decide +kernel) (by decide +kernel)
theorem gw_523 : Cond.instanceMethod yX5_boxHeight ∈ GW := GW_of 523 (by decide +kernel) (by decide +kernel)
theorem gw_524 : Cond.selects RX5 yX5_boxHeight yX5_boxHeight ∈ GW := GW_of 524 (by decide +kernel) (by decide +kernel)
theorem gw_527 : Cond.methodLink RX2 107 yX0_costAs ∈ GW := GW_of 527 (by decide +kernel) (by decide +kernel)
theorem gw_530 : Cond.code yX0_costAs cX0_costAs 7 (some .int) ∈ GW := GW_of 530 (by decide +kernel) (by decide +kernel)
theorem gw_55 : Cond.initialized RX0 ∈ GW := GW_of 55 (by decide +kernel) (by decide +kernel)
theorem gw_528 : Cond.instanceMethod yX0_costAs ∈ GW := GW_of 528 (by decide +kernel) (by decide +kernel)
theorem gw_529 : Cond.selects RX0 yX0_costAs yX0_costAs ∈ GW := GW_of 529 (by decide +kernel) (by decide +kernel)
theorem gw_181 : Cond.constant RX2 23 1000000 ∈ GW := GW_of 181 (by decide +kernel) (by decide +kernel)
def gs_X2_weigh : List Cond := Cond.code yX2_weigh cX2_weigh 7 none :: GW
def wd_X2_weigh (cI cJ cZ : ClassId) (a_this a_this_costs a_this_costs_cells a_this_nexts a_this_rests a_this_aheads a_this_coming a_this_meanings a_this_doubts a_this_measureOf a_this_times a_p1 a_p1_left a_p1_queue a_p1_facts a_p1_facts_cells a_p1_places a_p1_places_cells a_p1_told a_p1_told_cells a_p2 a_p2_lows a_p2_lows_cells a_p2_highs a_p2_highs_cells a_p2_heights a_p2_heights_cells a_p2_prices a_p2_prices_cells : Nat) (v_this_size : Int32) (v_this_states : Int32) (v_this_total : Int32) (v_this_measures : Int32) (v_this_doubtsAreOld : Int32) (f_this_costs_cells : Nat → Int32) (v_p1_size : Int32) (v_p1_sizeBefore : Int32) (f_p1_facts_cells : Nat → Int32) (f_p1_places_cells : Nat → Int32) (f_p1_told_cells : Nat → Int32) (v_p2_dirt : Int32) (v_p2_time : Int32) (f_p2_lows_cells : Nat → Int32) (f_p2_highs_cells : Nat → Int32) (f_p2_heights_cells : Nat → Int32) (f_p2_prices_cells : Nat → Int32) : va_W := ((a_this, .inr (2, [.ref a_this_costs, .ref a_this_nexts, .ref a_this_rests, .ref a_this_aheads, .ref a_this_coming, .ref a_this_meanings, .ref a_this_doubts, .ref a_this_measureOf, .ref a_this_times, .int v_this_size, .int v_this_states, .int v_this_total, .int v_this_measures, .int v_this_doubtsAreOld])) :: (a_this_costs, .inr (3, [.ref a_this_costs_cells])) :: (a_this_costs_cells, .inl (cI, 280, .inl f_this_costs_cells)) :: (a_p1, .inr (5, [.ref a_p1_left, .ref a_p1_queue, .ref a_p1_facts, .ref a_p1_places, .ref a_p1_told, .int v_p1_size, .int v_p1_sizeBefore])) :: (a_p1_facts, .inr (3, [.ref a_p1_facts_cells])) :: (a_p1_facts_cells, .inl (cI, 240, .inl f_p1_facts_cells)) :: (a_p1_places, .inr (3, [.ref a_p1_places_cells])) :: (a_p1_places_cells, .inl (cI, 40, .inl f_p1_places_cells)) :: (a_p1_told, .inr (3, [.ref a_p1_told_cells])) :: (a_p1_told_cells, .inl (cI, 40, .inl f_p1_told_cells)) :: (a_p2, .inr (0, [.ref a_p2_lows, .ref a_p2_highs, .ref a_p2_heights, .ref a_p2_prices, .int v_p2_dirt, .int v_p2_time])) :: (a_p2_lows, .inr (3, [.ref a_p2_lows_cells])) :: (a_p2_lows_cells, .inl (cI, 6, .inl f_p2_lows_cells)) :: (a_p2_highs, .inr (3, [.ref a_p2_highs_cells])) :: (a_p2_highs_cells, .inl (cI, 6, .inl f_p2_highs_cells)) :: (a_p2_heights, .inr (3, [.ref a_p2_heights_cells])) :: (a_p2_heights_cells, .inl (cI, 6, .inl f_p2_heights_cells)) :: (a_p2_prices, .inr (3, [.ref a_p2_prices_cells])) :: (a_p2_prices_cells, .inl (cI, 6, .inl f_p2_prices_cells)) :: [])
abbrev rm_X2_weigh : Room := { frames := 3, cells := 0, slots := 0, locals := 64 }
theorem hd_X2_weigh : yX2_weigh.cls = RX2 ∧ yX2_weigh.cls ≠ "java/lang/invoke/MethodHandle" ∧ yX2_weigh.cls ≠ "java/lang/invoke/VarHandle" ∧ (parseMethodDescriptor yX2_weigh.desc).map (fun d => d.parameters.length) = some 2 := by decide +kernel
set_option maxHeartbeats 4000000 in
set_option maxRecDepth 100000 in
theorem c_X2_weigh (l : Launch) (D : va_G) (cI cJ cZ : ClassId) (a_this a_this_costs a_this_costs_cells a_this_nexts a_this_rests a_this_aheads a_this_coming a_this_meanings a_this_doubts a_this_measureOf a_this_times a_p1 a_p1_left a_p1_queue a_p1_facts a_p1_facts_cells a_p1_places a_p1_places_cells a_p1_told a_p1_told_cells a_p2 a_p2_lows a_p2_lows_cells a_p2_highs a_p2_highs_cells a_p2_heights a_p2_heights_cells a_p2_prices a_p2_prices_cells : Nat) (v_this_size : Int32) (v_this_states : Int32) (v_this_total : Int32) (v_this_measures : Int32) (v_this_doubtsAreOld : Int32) (f_this_costs_cells : Nat → Int32) (v_p1_size : Int32) (v_p1_sizeBefore : Int32) (f_p1_facts_cells : Nat → Int32) (f_p1_places_cells : Nat → Int32) (f_p1_told_cells : Nat → Int32) (v_p2_dirt : Int32) (v_p2_time : Int32) (f_p2_lows_cells : Nat → Int32) (f_p2_highs_cells : Nat → Int32) (f_p2_heights_cells : Nat → Int32) (f_p2_prices_cells : Nat → Int32) (K : Nat) (o : (Nat → Int32)) (h : p_X2_weigh K v_this_size f_this_costs_cells f_p1_facts_cells f_p1_places_cells f_p1_told_cells v_p2_dirt f_p2_lows_cells f_p2_highs_cells f_p2_heights_cells f_p2_prices_cells = some o) : zMv l D (zT cI cJ cZ) yX2_weigh gs_X2_weigh rm_X2_weigh [.ref a_this, .ref a_p1, .ref a_p2] (wd_X2_weigh cI cJ cZ a_this a_this_costs a_this_costs_cells a_this_nexts a_this_rests a_this_aheads a_this_coming a_this_meanings a_this_doubts a_this_measureOf a_this_times a_p1 a_p1_left a_p1_queue a_p1_facts a_p1_facts_cells a_p1_places a_p1_places_cells a_p1_told a_p1_told_cells a_p2 a_p2_lows a_p2_lows_cells a_p2_highs a_p2_highs_cells a_p2_heights a_p2_heights_cells a_p2_prices a_p2_prices_cells v_this_size v_this_states v_this_total v_this_measures v_this_doubtsAreOld f_this_costs_cells v_p1_size v_p1_sizeBefore f_p1_facts_cells f_p1_places_cells f_p1_told_cells v_p2_dirt v_p2_time f_p2_lows_cells f_p2_highs_cells f_p2_heights_cells f_p2_prices_cells) (wd_X2_weigh cI cJ cZ a_this a_this_costs a_this_costs_cells a_this_nexts a_this_rests a_this_aheads a_this_coming a_this_meanings a_this_doubts a_this_measureOf a_this_times a_p1 a_p1_left a_p1_queue a_p1_facts a_p1_facts_cells a_p1_places a_p1_places_cells a_p1_told a_p1_told_cells a_p2 a_p2_lows a_p2_lows_cells a_p2_highs a_p2_highs_cells a_p2_heights a_p2_heights_cells a_p2_prices a_p2_prices_cells v_this_size v_this_states v_this_total v_this_measures v_this_doubtsAreOld o v_p1_size v_p1_sizeBefore f_p1_facts_cells f_p1_places_cells f_p1_told_cells v_p2_dirt v_p2_time f_p2_lows_cells f_p2_highs_cells f_p2_heights_cells f_p2_prices_cells) := by
  refine zMet_v (own := RX2) (fun u : (Nat → Int32) => (wd_X2_weigh cI cJ cZ a_this a_this_costs a_this_costs_cells a_this_nexts a_this_rests a_this_aheads a_this_coming a_this_meanings a_this_doubts a_this_measureOf a_this_times a_p1 a_p1_left a_p1_queue a_p1_facts a_p1_facts_cells a_p1_places a_p1_places_cells a_p1_told a_p1_told_cells a_p2 a_p2_lows a_p2_lows_cells a_p2_highs a_p2_highs_cells a_p2_heights a_p2_heights_cells a_p2_prices a_p2_prices_cells v_this_size v_this_states v_this_total v_this_measures v_this_doubtsAreOld u v_p1_size v_p1_sizeBefore f_p1_facts_cells f_p1_places_cells f_p1_told_cells v_p2_dirt v_p2_time f_p2_lows_cells f_p2_highs_cells f_p2_heights_cells f_p2_prices_cells)) (by decide) rfl rfl (Nat.le_of_ble_eq_true rfl) ?_
  intro p e s m args below meth c A Q S hK hA hw ret ls hl
  replace hl : lv_has ls 7 [(0, .ref a_this), (1, .ref a_p1), (2, .ref a_p2)] := hl
  refine lv_iconst (v := 0) S.1 S.2.1 dX2_weigh_0 (by decide) ?_
  refine lv_istore_n (lv' := [(3, .int 0), (0, .ref a_this), (1, .ref a_p1), (2, .ref a_p2)]) S.1 S.2.1 dX2_weigh_1 rfl hl (by decide) rfl (fun ls hl => ?_)
  have L_2 : ∀ (n2_2 : Nat) (f1 : Nat → Int32) (x2 : Int32) (h : z_lp2 (p_X2_weigh_l2 v_this_size f_p1_told_cells f_p1_facts_cells f_p1_places_cells v_p2_dirt f_p2_lows_cells f_p2_highs_cells f_p2_heights_cells f_p2_prices_cells K) n2_2 f1 x2 = some o) (H : Heap) (locs : List Loc) (ls : Array Slot), zW D A s H locs (wd_X2_weigh cI cJ cZ a_this a_this_costs a_this_costs_cells a_this_nexts a_this_rests a_this_aheads a_this_coming a_this_meanings a_this_doubts a_this_measureOf a_this_times a_p1 a_p1_left a_p1_queue a_p1_facts a_p1_facts_cells a_p1_places a_p1_places_cells a_p1_told a_p1_told_cells a_p2 a_p2_lows a_p2_lows_cells a_p2_highs a_p2_highs_cells a_p2_heights a_p2_heights_cells a_p2_prices a_p2_prices_cells v_this_size v_this_states v_this_total v_this_measures v_this_doubtsAreOld f1 v_p1_size v_p1_sizeBefore f_p1_facts_cells f_p1_places_cells f_p1_told_cells v_p2_dirt v_p2_time f_p2_lows_cells f_p2_highs_cells f_p2_heights_cells f_p2_prices_cells) → lv_has ls 7 [(0, .ref a_this), (1, .ref a_p1), (2, .ref a_p2), (3, .int x2)] → W p l e (headSpec gs_X2_weigh rm_X2_weigh).room s m args below meth c H locs 0 0 Q (F0 m 2 ls []) := by
    intro n2_2
    induction n2_2 with
    | zero => intro f1 x2 h; exact z_no h
    | succ n2_2 ih_2 =>
      intro f1 x2 h H locs ls hw hl
      replace h : (p_X2_weigh_l2 v_this_size f_p1_told_cells f_p1_facts_cells f_p1_places_cells v_p2_dirt f_p2_lows_cells f_p2_highs_cells f_p2_heights_cells f_p2_prices_cells K) (z_lp2 (p_X2_weigh_l2 v_this_size f_p1_told_cells f_p1_facts_cells f_p1_places_cells v_p2_dirt f_p2_lows_cells f_p2_highs_cells f_p2_heights_cells f_p2_prices_cells K) n2_2) f1 x2 = some o := h
      refine lv_iload_n S.1 S.2.1 dX2_weigh_2 rfl (lv_at hl 3 rfl) ?_
      refine lv_aload_n S.1 S.2.1 dX2_weigh_3 rfl (lv_at hl 0 rfl) ?_
      refine z_get S (C := RX2) (T := TX2) (N := 14) (gi gu_X2) hK hw 0 rfl rfl 9 (Nat.le_of_ble_eq_true rfl) (List.mem_cons_of_mem _ gw_191) rfl dX2_weigh_4 ?_
      refine z_icmp_ge S (tgt := 95) h dX2_weigh_7 (by decide) (fun h => ?_) (fun h => ?_)
      · exact ret f1 h 95 ls _ _ dX2_weigh_95 hw
      · refine lv_aload_n S.1 S.2.1 dX2_weigh_10 rfl (lv_at hl 1 rfl) ?_
        refine lv_iload_n S.1 S.2.1 dX2_weigh_11 rfl (lv_at hl 3 rfl) ?_
        obtain ⟨y3, hc, h⟩ := z_b1_e h
        refine z_callVi (As := [.int x2]) (rest := []) S (c_X5_said l D cI cJ cZ a_p1 a_p1_left a_p1_queue a_p1_facts a_p1_places a_p1_told a_p1_told_cells v_p1_size v_p1_sizeBefore f_p1_told_cells x2 _ hc) (cwV 1 S.2.2.2.2 (gw_V gw_520 gw_463 gw_464 gw_54 gw_465) rfl rfl rfl hd_X5_said ⟨Nat.le_of_ble_eq_true rfl, Nat.le_of_ble_eq_true rfl⟩) hK hA hw [3, 8, 9] (by decide) rfl rfl (none :: none :: none :: some 0 :: none :: none :: none :: none :: some 1 :: some 2 :: none :: none :: none :: none :: none :: none :: none :: none :: none :: []) rfl (by decide) 3 rfl rfl hl.1 rfl rfl (lv_room (Nat.le_of_ble_eq_true rfl)) ⟨Nat.zero_le _, Nat.zero_le _⟩ dX2_weigh_12 (fun H locs hw => ?_)
        replace hw : zW D A s H locs (wd_X2_weigh cI cJ cZ a_this a_this_costs a_this_costs_cells a_this_nexts a_this_rests a_this_aheads a_this_coming a_this_meanings a_this_doubts a_this_measureOf a_this_times a_p1 a_p1_left a_p1_queue a_p1_facts a_p1_facts_cells a_p1_places a_p1_places_cells a_p1_told a_p1_told_cells a_p2 a_p2_lows a_p2_lows_cells a_p2_highs a_p2_highs_cells a_p2_heights a_p2_heights_cells a_p2_prices a_p2_prices_cells v_this_size v_this_states v_this_total v_this_measures v_this_doubtsAreOld f1 v_p1_size v_p1_sizeBefore f_p1_facts_cells f_p1_places_cells f_p1_told_cells v_p2_dirt v_p2_time f_p2_lows_cells f_p2_highs_cells f_p2_heights_cells f_p2_prices_cells) := hw
        refine lv_istore (lv' := [(4, .int y3), (0, .ref a_this), (1, .ref a_p1), (2, .ref a_p2), (3, .int x2)]) S.1 S.2.1 dX2_weigh_15 hl (by decide) rfl (fun ls hl => ?_)
        refine lv_iconst (v := 0) S.1 S.2.1 dX2_weigh_17 (by decide) ?_
        refine lv_istore (lv' := [(5, .int 0), (4, .int y3), (0, .ref a_this), (1, .ref a_p1), (2, .ref a_p2), (3, .int x2)]) S.1 S.2.1 dX2_weigh_18 hl (by decide) rfl (fun ls hl => ?_)
        have L_20 : ∀ (n20_5 : Nat) (f4 : Nat → Int32) (x5 : Int32) (h : z_lp2 (p_X2_weigh_l20 x2 y3 f_p1_facts_cells f_p1_places_cells v_p2_dirt f_p2_lows_cells f_p2_highs_cells f_p2_heights_cells f_p2_prices_cells (z_lp2 (p_X2_weigh_l2 v_this_size f_p1_told_cells f_p1_facts_cells f_p1_places_cells v_p2_dirt f_p2_lows_cells f_p2_highs_cells f_p2_heights_cells f_p2_prices_cells K) n2_2)) n20_5 f4 x5 = some o) (H : Heap) (locs : List Loc) (ls : Array Slot), zW D A s H locs (wd_X2_weigh cI cJ cZ a_this a_this_costs a_this_costs_cells a_this_nexts a_this_rests a_this_aheads a_this_coming a_this_meanings a_this_doubts a_this_measureOf a_this_times a_p1 a_p1_left a_p1_queue a_p1_facts a_p1_facts_cells a_p1_places a_p1_places_cells a_p1_told a_p1_told_cells a_p2 a_p2_lows a_p2_lows_cells a_p2_highs a_p2_highs_cells a_p2_heights a_p2_heights_cells a_p2_prices a_p2_prices_cells v_this_size v_this_states v_this_total v_this_measures v_this_doubtsAreOld f4 v_p1_size v_p1_sizeBefore f_p1_facts_cells f_p1_places_cells f_p1_told_cells v_p2_dirt v_p2_time f_p2_lows_cells f_p2_highs_cells f_p2_heights_cells f_p2_prices_cells) → lv_has ls 7 [(0, .ref a_this), (1, .ref a_p1), (2, .ref a_p2), (3, .int x2), (4, .int y3), (5, .int x5)] → W p l e (headSpec gs_X2_weigh rm_X2_weigh).room s m args below meth c H locs 0 0 Q (F0 m 20 ls []) := by
          intro n20_5
          induction n20_5 with
          | zero => intro f4 x5 h; exact z_no h
          | succ n20_5 ih_20 =>
            intro f4 x5 h H locs ls hw hl
            replace h : (p_X2_weigh_l20 x2 y3 f_p1_facts_cells f_p1_places_cells v_p2_dirt f_p2_lows_cells f_p2_highs_cells f_p2_heights_cells f_p2_prices_cells (z_lp2 (p_X2_weigh_l2 v_this_size f_p1_told_cells f_p1_facts_cells f_p1_places_cells v_p2_dirt f_p2_lows_cells f_p2_highs_cells f_p2_heights_cells f_p2_prices_cells K) n2_2)) (z_lp2 (p_X2_weigh_l20 x2 y3 f_p1_facts_cells f_p1_places_cells v_p2_dirt f_p2_lows_cells f_p2_highs_cells f_p2_heights_cells f_p2_prices_cells (z_lp2 (p_X2_weigh_l2 v_this_size f_p1_told_cells f_p1_facts_cells f_p1_places_cells v_p2_dirt f_p2_lows_cells f_p2_highs_cells f_p2_heights_cells f_p2_prices_cells K) n2_2)) n20_5) f4 x5 = some o := h
            refine lv_iload S.1 S.2.1 dX2_weigh_20 (lv_at hl 5 rfl) ?_
            refine lv_bipush (v := 7) S.1 S.2.1 dX2_weigh_22 (by decide) ?_
            refine z_icmp_ge S (tgt := 89) h dX2_weigh_24 (by decide) (fun h => ?_) (fun h => ?_)
            · refine z_iinc S (i := 3) (k := 3) (v := x2 + 1) hl rfl (by decide) rfl (fun v => (3, .int v) :: [(0, .ref a_this), (1, .ref a_p1), (2, .ref a_p2), (4, .int y3), (5, .int x5)]) (fun _ => rfl) h dX2_weigh_89 (fun y6 ls hl h => ?_)
              replace hl : lv_has ls 7 [(3, .int y6), (0, .ref a_this), (1, .ref a_p1), (2, .ref a_p2), (4, .int y3), (5, .int x5)] := hl
              refine lv_goto (tgt := 2) S.1 S.2.1 dX2_weigh_92 (by decide) ?_
              exact ih_2 f4 y6 h _ _ ls hw (lv_sub hl [1, 2, 3, 0] rfl)
            · refine lv_iload S.1 S.2.1 dX2_weigh_27 (lv_at hl 4 rfl) ?_
              refine lv_iload S.1 S.2.1 dX2_weigh_29 (lv_at hl 5 rfl) ?_
              have J_40 : ∀ (z7 : Int32) (h : (p_X2_weigh_j40 y3 f_p1_facts_cells f_p1_places_cells x2 v_p2_dirt f_p2_lows_cells f_p2_highs_cells f_p2_heights_cells f_p2_prices_cells x5 f4 (z_lp2 (p_X2_weigh_l20 x2 y3 f_p1_facts_cells f_p1_places_cells v_p2_dirt f_p2_lows_cells f_p2_highs_cells f_p2_heights_cells f_p2_prices_cells (z_lp2 (p_X2_weigh_l2 v_this_size f_p1_told_cells f_p1_facts_cells f_p1_places_cells v_p2_dirt f_p2_lows_cells f_p2_highs_cells f_p2_heights_cells f_p2_prices_cells K) n2_2)) n20_5)) z7 = some o) (H : Heap) (locs : List Loc) (ls : Array Slot), zW D A s H locs (wd_X2_weigh cI cJ cZ a_this a_this_costs a_this_costs_cells a_this_nexts a_this_rests a_this_aheads a_this_coming a_this_meanings a_this_doubts a_this_measureOf a_this_times a_p1 a_p1_left a_p1_queue a_p1_facts a_p1_facts_cells a_p1_places a_p1_places_cells a_p1_told a_p1_told_cells a_p2 a_p2_lows a_p2_lows_cells a_p2_highs a_p2_highs_cells a_p2_heights a_p2_heights_cells a_p2_prices a_p2_prices_cells v_this_size v_this_states v_this_total v_this_measures v_this_doubtsAreOld f4 v_p1_size v_p1_sizeBefore f_p1_facts_cells f_p1_places_cells f_p1_told_cells v_p2_dirt v_p2_time f_p2_lows_cells f_p2_highs_cells f_p2_heights_cells f_p2_prices_cells) → lv_has ls 7 [(0, .ref a_this), (1, .ref a_p1), (2, .ref a_p2), (3, .int x2), (4, .int y3), (5, .int x5)] → W p l e (headSpec gs_X2_weigh rm_X2_weigh).room s m args below meth c H locs 0 0 Q (F0 m 40 ls [.int z7]) := by
                intro z7 h H locs ls hw hl
                refine lv_istore (lv' := [(6, .int z7), (0, .ref a_this), (1, .ref a_p1), (2, .ref a_p2), (3, .int x2), (4, .int y3), (5, .int x5)]) S.1 S.2.1 dX2_weigh_40 hl (by decide) rfl (fun ls hl => ?_)
                refine lv_iload S.1 S.2.1 dX2_weigh_42 (lv_at hl 5 rfl) ?_
                refine lv_iconst (v := (-1)) S.1 S.2.1 dX2_weigh_44 (by decide) ?_
                have J_67 : ∀ (x8 : Int32) (h : (p_X2_weigh_j67 f4 x2 x5 (z_lp2 (p_X2_weigh_l20 x2 y3 f_p1_facts_cells f_p1_places_cells v_p2_dirt f_p2_lows_cells f_p2_highs_cells f_p2_heights_cells f_p2_prices_cells (z_lp2 (p_X2_weigh_l2 v_this_size f_p1_told_cells f_p1_facts_cells f_p1_places_cells v_p2_dirt f_p2_lows_cells f_p2_highs_cells f_p2_heights_cells f_p2_prices_cells K) n2_2)) n20_5)) x8 = some o) (H : Heap) (locs : List Loc) (ls : Array Slot), zW D A s H locs (wd_X2_weigh cI cJ cZ a_this a_this_costs a_this_costs_cells a_this_nexts a_this_rests a_this_aheads a_this_coming a_this_meanings a_this_doubts a_this_measureOf a_this_times a_p1 a_p1_left a_p1_queue a_p1_facts a_p1_facts_cells a_p1_places a_p1_places_cells a_p1_told a_p1_told_cells a_p2 a_p2_lows a_p2_lows_cells a_p2_highs a_p2_highs_cells a_p2_heights a_p2_heights_cells a_p2_prices a_p2_prices_cells v_this_size v_this_states v_this_total v_this_measures v_this_doubtsAreOld f4 v_p1_size v_p1_sizeBefore f_p1_facts_cells f_p1_places_cells f_p1_told_cells v_p2_dirt v_p2_time f_p2_lows_cells f_p2_highs_cells f_p2_heights_cells f_p2_prices_cells) → lv_has ls 7 [(0, .ref a_this), (1, .ref a_p1), (2, .ref a_p2), (3, .int x2), (4, .int y3), (5, .int x5), (6, .int x8)] → W p l e (headSpec gs_X2_weigh rm_X2_weigh).room s m args below meth c H locs 0 0 Q (F0 m 67 ls []) := by
                  intro x8 h H locs ls hw hl
                  refine lv_aload_n S.1 S.2.1 dX2_weigh_67 rfl (lv_at hl 0 rfl) ?_
                  refine z_get S (C := RX2) (T := TX2) (N := 14) (gi gu_X2) hK hw 0 rfl rfl 0 (Nat.le_of_ble_eq_true rfl) (List.mem_cons_of_mem _ gw_182) rfl dX2_weigh_68 ?_
                  refine lv_iload_n S.1 S.2.1 dX2_weigh_71 rfl (lv_at hl 3 rfl) ?_
                  refine lv_bipush (v := 7) S.1 S.2.1 dX2_weigh_72 (by decide) ?_
                  refine lv_imul S.1 S.2.1 dX2_weigh_74 ?_
                  refine lv_iload S.1 S.2.1 dX2_weigh_75 (lv_at hl 5 rfl) ?_
                  refine lv_iadd S.1 S.2.1 dX2_weigh_77 ?_
                  refine lv_iload S.1 S.2.1 dX2_weigh_78 (lv_at hl 6 rfl) ?_
                  obtain ⟨f9, hc, h⟩ := z_b1_e h
                  refine z_callVv (As := [.int ((x2 * 7) + x5), .int x8]) (rest := []) S (c_X3_put l D cI cJ cZ a_this_costs a_this_costs_cells 280 f4 ((x2 * 7) + x5) x8 _ hc) (cwV 2 S.2.2.2.2 (gw_V gw_533 gw_326 gw_327 gw_53 gw_328) rfl rfl rfl hd_X3_put ⟨Nat.le_of_ble_eq_true rfl, Nat.le_of_ble_eq_true rfl⟩) hK hA hw [1, 2] (by decide) rfl rfl (none :: some 0 :: some 1 :: none :: none :: none :: none :: none :: none :: none :: none :: none :: none :: none :: none :: none :: none :: none :: none :: []) rfl (by decide) 1 rfl rfl hl.1 rfl rfl (lv_room (Nat.le_of_ble_eq_true rfl)) ⟨Nat.zero_le _, Nat.zero_le _⟩ dX2_weigh_80 (fun H locs hw => ?_)
                  replace hw : zW D A s H locs (wd_X2_weigh cI cJ cZ a_this a_this_costs a_this_costs_cells a_this_nexts a_this_rests a_this_aheads a_this_coming a_this_meanings a_this_doubts a_this_measureOf a_this_times a_p1 a_p1_left a_p1_queue a_p1_facts a_p1_facts_cells a_p1_places a_p1_places_cells a_p1_told a_p1_told_cells a_p2 a_p2_lows a_p2_lows_cells a_p2_highs a_p2_highs_cells a_p2_heights a_p2_heights_cells a_p2_prices a_p2_prices_cells v_this_size v_this_states v_this_total v_this_measures v_this_doubtsAreOld f9 v_p1_size v_p1_sizeBefore f_p1_facts_cells f_p1_places_cells f_p1_told_cells v_p2_dirt v_p2_time f_p2_lows_cells f_p2_highs_cells f_p2_heights_cells f_p2_prices_cells) := hw
                  refine z_iinc S (i := 5) (k := 5) (v := x5 + 1) hl rfl (by decide) rfl (fun v => (5, .int v) :: [(0, .ref a_this), (1, .ref a_p1), (2, .ref a_p2), (3, .int x2), (4, .int y3), (6, .int x8)]) (fun _ => rfl) h dX2_weigh_83 (fun y10 ls hl h => ?_)
                  replace hl : lv_has ls 7 [(5, .int y10), (0, .ref a_this), (1, .ref a_p1), (2, .ref a_p2), (3, .int x2), (4, .int y3), (6, .int x8)] := hl
                  refine lv_goto (tgt := 20) S.1 S.2.1 dX2_weigh_86 (by decide) ?_
                  exact ih_20 f9 y10 h _ _ ls hw (lv_sub hl [1, 2, 3, 4, 5, 0] rfl)
                refine z_icmp_ne S (tgt := 67) h dX2_weigh_45 (by decide) (fun h => ?_) (fun h => ?_)
                · exact J_67 z7 h _ _ ls hw (lv_sub hl [1, 2, 3, 4, 5, 6, 0] rfl)
                · refine lv_aload_n S.1 S.2.1 dX2_weigh_48 rfl (lv_at hl 3 rfl) ?_
                  refine lv_iload S.1 S.2.1 dX2_weigh_49 (lv_at hl 6 rfl) ?_
                  refine lv_aload_n S.1 S.2.1 dX2_weigh_51 rfl (lv_at hl 2 rfl) ?_
                  refine lv_iload_n S.1 S.2.1 dX2_weigh_52 rfl (lv_at hl 4 rfl) ?_
                  refine lv_iconst (v := 0) S.1 S.2.1 dX2_weigh_53 (by decide) ?_
                  obtain ⟨y11, hc, h⟩ := z_b1_e h
                  refine z_callVi (As := [.int x2, .int 0]) (rest := [.int x5, .ref a_p2]) S (c_X5_fact l D cI cJ cZ a_p1 a_p1_left a_p1_queue a_p1_facts a_p1_facts_cells a_p1_places a_p1_places_cells a_p1_told v_p1_size v_p1_sizeBefore f_p1_facts_cells f_p1_places_cells x2 0 _ hc) (cwV 2 S.2.2.2.2 (gw_V gw_521 gw_467 gw_468 gw_54 gw_469) rfl rfl rfl hd_X5_fact ⟨Nat.le_of_ble_eq_true rfl, Nat.le_of_ble_eq_true rfl⟩) hK hA hw [3, 4, 5, 6, 7] (by decide) rfl rfl (none :: none :: none :: some 0 :: some 1 :: some 2 :: some 3 :: some 4 :: none :: none :: none :: none :: none :: none :: none :: none :: none :: none :: none :: []) rfl (by decide) 3 rfl rfl hl.1 rfl rfl (lv_room (Nat.le_of_ble_eq_true rfl)) ⟨Nat.zero_le _, Nat.zero_le _⟩ dX2_weigh_54 (fun H locs hw => ?_)
                  replace hw : zW D A s H locs (wd_X2_weigh cI cJ cZ a_this a_this_costs a_this_costs_cells a_this_nexts a_this_rests a_this_aheads a_this_coming a_this_meanings a_this_doubts a_this_measureOf a_this_times a_p1 a_p1_left a_p1_queue a_p1_facts a_p1_facts_cells a_p1_places a_p1_places_cells a_p1_told a_p1_told_cells a_p2 a_p2_lows a_p2_lows_cells a_p2_highs a_p2_highs_cells a_p2_heights a_p2_heights_cells a_p2_prices a_p2_prices_cells v_this_size v_this_states v_this_total v_this_measures v_this_doubtsAreOld f4 v_p1_size v_p1_sizeBefore f_p1_facts_cells f_p1_places_cells f_p1_told_cells v_p2_dirt v_p2_time f_p2_lows_cells f_p2_highs_cells f_p2_heights_cells f_p2_prices_cells) := hw
                  refine lv_aload_n S.1 S.2.1 dX2_weigh_57 rfl (lv_at hl 2 rfl) ?_
                  refine lv_iload_n S.1 S.2.1 dX2_weigh_58 rfl (lv_at hl 4 rfl) ?_
                  obtain ⟨y12, hc, h⟩ := z_b1_e h
                  refine z_callVi (As := [.int x2]) (rest := [.int y11, .int x5, .ref a_p2]) S (c_X5_boxHeight l D cI cJ cZ a_p1 a_p1_left a_p1_queue a_p1_facts a_p1_facts_cells a_p1_places a_p1_places_cells a_p1_told v_p1_size v_p1_sizeBefore f_p1_facts_cells f_p1_places_cells x2 _ hc) (cwV 1 S.2.2.2.2 (gw_V gw_522 gw_523 gw_524 gw_54 gw_525) rfl rfl rfl hd_X5_boxHeight ⟨Nat.le_of_ble_eq_true rfl, Nat.le_of_ble_eq_true rfl⟩) hK hA hw [3, 4, 5, 6, 7] (by decide) rfl rfl (none :: none :: none :: some 0 :: some 1 :: some 2 :: some 3 :: some 4 :: none :: none :: none :: none :: none :: none :: none :: none :: none :: none :: none :: []) rfl (by decide) 3 rfl rfl hl.1 rfl rfl (lv_room (Nat.le_of_ble_eq_true rfl)) ⟨Nat.zero_le _, Nat.zero_le _⟩ dX2_weigh_59 (fun H locs hw => ?_)
                  replace hw : zW D A s H locs (wd_X2_weigh cI cJ cZ a_this a_this_costs a_this_costs_cells a_this_nexts a_this_rests a_this_aheads a_this_coming a_this_meanings a_this_doubts a_this_measureOf a_this_times a_p1 a_p1_left a_p1_queue a_p1_facts a_p1_facts_cells a_p1_places a_p1_places_cells a_p1_told a_p1_told_cells a_p2 a_p2_lows a_p2_lows_cells a_p2_highs a_p2_highs_cells a_p2_heights a_p2_heights_cells a_p2_prices a_p2_prices_cells v_this_size v_this_states v_this_total v_this_measures v_this_doubtsAreOld f4 v_p1_size v_p1_sizeBefore f_p1_facts_cells f_p1_places_cells f_p1_told_cells v_p2_dirt v_p2_time f_p2_lows_cells f_p2_highs_cells f_p2_heights_cells f_p2_prices_cells) := hw
                  obtain ⟨y13, hc, h⟩ := z_b1_e h
                  refine z_callVi (As := [.int x5, .int y11, .int y12]) (rest := []) S (c_X0_costAs l D cI cJ cZ a_p2 a_p2_lows a_p2_lows_cells a_p2_highs a_p2_highs_cells a_p2_heights a_p2_heights_cells a_p2_prices a_p2_prices_cells v_p2_dirt v_p2_time f_p2_lows_cells f_p2_highs_cells f_p2_heights_cells f_p2_prices_cells x5 y11 y12 _ hc) (cwV 3 S.2.2.2.2 (gw_V gw_527 gw_528 gw_529 gw_55 gw_530) rfl rfl rfl hd_X0_costAs ⟨Nat.le_of_ble_eq_true rfl, Nat.le_of_ble_eq_true rfl⟩) hK hA hw [10, 11, 12, 13, 14, 15, 16, 17, 18] (by decide) rfl rfl (none :: none :: none :: none :: none :: none :: none :: none :: none :: none :: some 0 :: some 1 :: some 2 :: some 3 :: some 4 :: some 5 :: some 6 :: some 7 :: some 8 :: []) rfl (by decide) 10 rfl rfl hl.1 rfl rfl (lv_room (Nat.le_of_ble_eq_true rfl)) ⟨Nat.zero_le _, Nat.zero_le _⟩ dX2_weigh_62 (fun H locs hw => ?_)
                  replace hw : zW D A s H locs (wd_X2_weigh cI cJ cZ a_this a_this_costs a_this_costs_cells a_this_nexts a_this_rests a_this_aheads a_this_coming a_this_meanings a_this_doubts a_this_measureOf a_this_times a_p1 a_p1_left a_p1_queue a_p1_facts a_p1_facts_cells a_p1_places a_p1_places_cells a_p1_told a_p1_told_cells a_p2 a_p2_lows a_p2_lows_cells a_p2_highs a_p2_highs_cells a_p2_heights a_p2_heights_cells a_p2_prices a_p2_prices_cells v_this_size v_this_states v_this_total v_this_measures v_this_doubtsAreOld f4 v_p1_size v_p1_sizeBefore f_p1_facts_cells f_p1_places_cells f_p1_told_cells v_p2_dirt v_p2_time f_p2_lows_cells f_p2_highs_cells f_p2_heights_cells f_p2_prices_cells) := hw
                  refine lv_istore (lv' := [(6, .int y13), (0, .ref a_this), (1, .ref a_p1), (2, .ref a_p2), (3, .int x2), (4, .int y3), (5, .int x5)]) S.1 S.2.1 dX2_weigh_65 hl (by decide) rfl (fun ls hl => ?_)
                  exact J_67 y13 h _ _ ls hw (lv_sub hl [1, 2, 3, 4, 5, 6, 0] rfl)
              refine z_icmp_ne S (tgt := 38) h dX2_weigh_31 (by decide) (fun h => ?_) (fun h => ?_)
              · refine lv_ldc (v := 1000000) S.1 S.2.1 S.2.2.2.1 (S.2.2.2.2 _ (List.mem_cons_of_mem _ gw_181)) dX2_weigh_38 ?_
                exact J_40 1000000 h _ _ ls hw (lv_sub hl [0, 1, 2, 3, 4, 5] rfl)
              · refine lv_iconst (v := 0) S.1 S.2.1 dX2_weigh_34 (by decide) ?_
                refine lv_goto (tgt := 40) S.1 S.2.1 dX2_weigh_35 (by decide) ?_
                exact J_40 0 h _ _ ls hw (lv_sub hl [0, 1, 2, 3, 4, 5] rfl)
        exact L_20 K f1 0 h _ _ ls hw (lv_sub hl [2, 3, 4, 5, 1, 0] rfl)
  exact L_2 K f_this_costs_cells 0 h _ _ ls hw (lv_sub hl [1, 2, 3, 0] rfl)
def gs_X2_timeOf : List Cond := Cond.code yX2_timeOf cX2_timeOf 1 (some .int) :: GW
def wd_X2_timeOf (cI cJ cZ : ClassId) : va_W := []
abbrev rm_X2_timeOf : Room := { frames := 0, cells := 0, slots := 0, locals := 0 }
theorem hd_X2_timeOf : yX2_timeOf.cls ≠ "java/lang/invoke/MethodHandle" ∧ yX2_timeOf.cls ≠ "java/lang/invoke/VarHandle" ∧ (parseMethodDescriptor yX2_timeOf.desc).map (fun d => d.parameters.length) = some 1 := by decide +kernel
set_option maxHeartbeats 4000000 in
set_option maxRecDepth 100000 in
theorem c_X2_timeOf (l : Launch) (D : va_G) (cI cJ cZ : ClassId) (i0 : Int32) (o : Int32) (h : p_X2_timeOf i0 = some o) : zMi l D (zT cI cJ cZ) yX2_timeOf gs_X2_timeOf rm_X2_timeOf [.int i0] (wd_X2_timeOf cI cJ cZ) (wd_X2_timeOf cI cJ cZ) (o) := by
  refine zMet_i (own := RX2) (fun u : Int32 => (wd_X2_timeOf cI cJ cZ)) (fun u : Int32 => u) (by decide) rfl rfl (Nat.le_of_ble_eq_true rfl) ?_
  intro p e s m args below meth c A Q S hK hA hw ret ls hl
  replace hl : lv_has ls 1 [(0, .int i0)] := hl
  refine lv_iload_n S.1 S.2.1 dX2_timeOf_0 rfl (lv_at hl 0 rfl) ?_
  refine lv_iconst (v := 3) S.1 S.2.1 dX2_timeOf_1 (by decide) ?_
  refine z_idiv S h dX2_timeOf_2 (fun y1 h => ?_)
  refine lv_iconst (v := 2) S.1 S.2.1 dX2_timeOf_3 (by decide) ?_
  refine lv_imul S.1 S.2.1 dX2_timeOf_4 ?_
  exact ret (y1 * 2) h 5 ls _ _ dX2_timeOf_5 hw
def gs_X2_signTime : List Cond := Cond.code yX2_signTime cX2_signTime 1 (some .int) :: GW
def wd_X2_signTime (cI cJ cZ : ClassId) : va_W := []
abbrev rm_X2_signTime : Room := { frames := 0, cells := 0, slots := 0, locals := 0 }
theorem hd_X2_signTime : yX2_signTime.cls ≠ "java/lang/invoke/MethodHandle" ∧ yX2_signTime.cls ≠ "java/lang/invoke/VarHandle" ∧ (parseMethodDescriptor yX2_signTime.desc).map (fun d => d.parameters.length) = some 1 := by decide +kernel
set_option maxHeartbeats 4000000 in
set_option maxRecDepth 100000 in
theorem c_X2_signTime (l : Launch) (D : va_G) (cI cJ cZ : ClassId) (i0 : Int32) (o : Int32) (h : p_X2_signTime i0 = some o) : zMi l D (zT cI cJ cZ) yX2_signTime gs_X2_signTime rm_X2_signTime [.int i0] (wd_X2_signTime cI cJ cZ) (wd_X2_signTime cI cJ cZ) (o) := by
  refine zMet_i (own := RX2) (fun u : Int32 => (wd_X2_signTime cI cJ cZ)) (fun u : Int32 => u) (by decide) rfl rfl (Nat.le_of_ble_eq_true rfl) ?_
  intro p e s m args below meth c A Q S hK hA hw ret ls hl
  replace hl : lv_has ls 1 [(0, .int i0)] := hl
  refine lv_iload_n S.1 S.2.1 dX2_signTime_0 rfl (lv_at hl 0 rfl) ?_
  refine z_ife h (fun e1_0 h => ?_) (fun ne1_0 h => ?_)
  · refine lv_tableIn (tgt := 32) S.1 S.2.1 dX2_signTime_1 (by rw [e1_0]; decide) (by rw [e1_0]; decide) (by rw [e1_0]; rfl) (by decide) ?_
    refine lv_iconst (v := 4) S.1 S.2.1 dX2_signTime_32 (by decide) ?_
    exact ret 4 h 33 ls _ _ dX2_signTime_33 hw
  refine z_ife h (fun e1_1 h => ?_) (fun ne1_1 h => ?_)
  · refine lv_tableIn (tgt := 34) S.1 S.2.1 dX2_signTime_1 (by rw [e1_1]; decide) (by rw [e1_1]; decide) (by rw [e1_1]; rfl) (by decide) ?_
    refine lv_bipush (v := 8) S.1 S.2.1 dX2_signTime_34 (by decide) ?_
    exact ret 8 h 36 ls _ _ dX2_signTime_36 hw
  refine z_ife h (fun e1_2 h => ?_) (fun ne1_2 h => ?_)
  · refine lv_tableIn (tgt := 37) S.1 S.2.1 dX2_signTime_1 (by rw [e1_2]; decide) (by rw [e1_2]; decide) (by rw [e1_2]; rfl) (by decide) ?_
    refine lv_bipush (v := 16) S.1 S.2.1 dX2_signTime_37 (by decide) ?_
    exact ret 16 h 39 ls _ _ dX2_signTime_39 hw
  refine z_ife h (fun e1_3 h => ?_) (fun ne1_3 h => ?_)
  · refine lv_tableIn (tgt := 32) S.1 S.2.1 dX2_signTime_1 (by rw [e1_3]; decide) (by rw [e1_3]; decide) (by rw [e1_3]; rfl) (by decide) ?_
    refine lv_iconst (v := 4) S.1 S.2.1 dX2_signTime_32 (by decide) ?_
    exact ret 4 h 33 ls _ _ dX2_signTime_33 hw
  have ho_1 : (i0 : Int32).toInt < 0 ∨ 3 < (i0 : Int32).toInt := by
    have q_ne1_0 := lv_neT ne1_0 (a := 0) (by decide)
    have q_ne1_1 := lv_neT ne1_1 (a := 1) (by decide)
    have q_ne1_2 := lv_neT ne1_2 (a := 2) (by decide)
    have q_ne1_3 := lv_neT ne1_3 (a := 3) (by decide)
    omega
  refine lv_tableOut (tgt := 40) S.1 S.2.1 dX2_signTime_1 ho_1 (by decide) ?_
  refine lv_iconst (v := 0) S.1 S.2.1 dX2_signTime_40 (by decide) ?_
  exact ret 0 h 41 ls _ _ dX2_signTime_41 hw
def gs_X2_stateAt : List Cond := Cond.code yX2_stateAt cX2_stateAt 3 (some .int) :: GW
def wd_X2_stateAt (cI cJ cZ : ClassId) : va_W := []
abbrev rm_X2_stateAt : Room := { frames := 0, cells := 0, slots := 0, locals := 0 }
theorem hd_X2_stateAt : yX2_stateAt.cls ≠ "java/lang/invoke/MethodHandle" ∧ yX2_stateAt.cls ≠ "java/lang/invoke/VarHandle" ∧ (parseMethodDescriptor yX2_stateAt.desc).map (fun d => d.parameters.length) = some 3 := by decide +kernel
set_option maxHeartbeats 4000000 in
set_option maxRecDepth 100000 in
theorem c_X2_stateAt (l : Launch) (D : va_G) (cI cJ cZ : ClassId) (i0 : Int32) (i1 : Int32) (i2 : Int32) (o : Int32) (h : p_X2_stateAt i0 i1 i2 = some o) : zMi l D (zT cI cJ cZ) yX2_stateAt gs_X2_stateAt rm_X2_stateAt [.int i0, .int i1, .int i2] (wd_X2_stateAt cI cJ cZ) (wd_X2_stateAt cI cJ cZ) (o) := by
  refine zMet_i (own := RX2) (fun u : Int32 => (wd_X2_stateAt cI cJ cZ)) (fun u : Int32 => u) (by decide) rfl rfl (Nat.le_of_ble_eq_true rfl) ?_
  intro p e s m args below meth c A Q S hK hA hw ret ls hl
  replace hl : lv_has ls 3 [(0, .int i0), (1, .int i1), (2, .int i2)] := hl
  refine lv_iload_n S.1 S.2.1 dX2_stateAt_0 rfl (lv_at hl 0 rfl) ?_
  refine lv_iload_n S.1 S.2.1 dX2_stateAt_1 rfl (lv_at hl 2 rfl) ?_
  refine z_icmp_le S (tgt := 9) h dX2_stateAt_2 (by decide) (fun h => ?_) (fun h => ?_)
  · refine lv_iload_n S.1 S.2.1 dX2_stateAt_9 rfl (lv_at hl 0 rfl) ?_
    refine lv_iconst (v := 2) S.1 S.2.1 dX2_stateAt_10 (by decide) ?_
    refine z_idiv S h dX2_stateAt_11 (fun y1 h => ?_)
    refine lv_iconst (v := 3) S.1 S.2.1 dX2_stateAt_12 (by decide) ?_
    refine lv_imul S.1 S.2.1 dX2_stateAt_13 ?_
    refine lv_iload_n S.1 S.2.1 dX2_stateAt_14 rfl (lv_at hl 1 rfl) ?_
    refine lv_iadd S.1 S.2.1 dX2_stateAt_15 ?_
    exact ret ((y1 * 3) + i1) h 16 ls _ _ dX2_stateAt_16 hw
  · refine lv_iconst (v := (-1)) S.1 S.2.1 dX2_stateAt_5 (by decide) ?_
    refine lv_goto (tgt := 16) S.1 S.2.1 dX2_stateAt_6 (by decide) ?_
    exact ret (-1) h 16 ls _ _ dX2_stateAt_16 hw
theorem gw_548 : Cond.methodLink RX2 120 yX2_signTime ∈ GW := GW_of 548 (by decide +kernel) (by decide +kernel)
theorem gw_550 : Cond.code yX2_signTime cX2_signTime 1 (some .int) ∈ GW := GW_of 550 (by decide +kernel) (by decide +kernel)
theorem gw_56 : Cond.initialized RX2 ∈ GW := GW_of 56 (by decide +kernel) (by decide +kernel)
theorem gw_549 : Cond.static yX2_signTime ∈ GW := GW_of 549 (by decide +kernel) (by decide +kernel)
def gs_X2_dotTime : List Cond := Cond.code yX2_dotTime cX2_dotTime 1 (some .int) :: GW
def wd_X2_dotTime (cI cJ cZ : ClassId) : va_W := []
abbrev rm_X2_dotTime : Room := { frames := 1, cells := 0, slots := 0, locals := 20 }
theorem hd_X2_dotTime : yX2_dotTime.cls ≠ "java/lang/invoke/MethodHandle" ∧ yX2_dotTime.cls ≠ "java/lang/invoke/VarHandle" ∧ (parseMethodDescriptor yX2_dotTime.desc).map (fun d => d.parameters.length) = some 1 := by decide +kernel
set_option maxHeartbeats 4000000 in
set_option maxRecDepth 100000 in
theorem c_X2_dotTime (l : Launch) (D : va_G) (cI cJ cZ : ClassId) (i0 : Int32) (o : Int32) (h : p_X2_dotTime i0 = some o) : zMi l D (zT cI cJ cZ) yX2_dotTime gs_X2_dotTime rm_X2_dotTime [.int i0] (wd_X2_dotTime cI cJ cZ) (wd_X2_dotTime cI cJ cZ) (o) := by
  refine zMet_i (own := RX2) (fun u : Int32 => (wd_X2_dotTime cI cJ cZ)) (fun u : Int32 => u) (by decide) rfl rfl (Nat.le_of_ble_eq_true rfl) ?_
  intro p e s m args below meth c A Q S hK hA hw ret ls hl
  replace hl : lv_has ls 1 [(0, .int i0)] := hl
  refine lv_iload_n S.1 S.2.1 dX2_dotTime_0 rfl (lv_at hl 0 rfl) ?_
  refine lv_iconst (v := 2) S.1 S.2.1 dX2_dotTime_1 (by decide) ?_
  have J_10 : ∀ (z1 : Int32) (h : p_X2_dotTime_j10 z1 = some o) (H : Heap) (locs : List Loc) (ls : Array Slot), zW D A s H locs (wd_X2_dotTime cI cJ cZ) → lv_has ls 1 [] → W p l e (headSpec gs_X2_dotTime rm_X2_dotTime).room s m args below meth c H locs 0 0 Q (F0 m 10 ls [.int z1]) := by
    intro z1 h H locs ls hw hl
    obtain ⟨y2, hc, h⟩ := z_b1_e h
    refine z_callSi (As := [.int z1]) (rest := []) S (c_X2_signTime l D cI cJ cZ z1 _ hc) (va_cwS 1 S.2.2.2.2 (gw_S gw_548 gw_549 gw_56 gw_550) rfl rfl rfl hd_X2_signTime ⟨Nat.le_of_ble_eq_true rfl, Nat.le_of_ble_eq_true rfl⟩) hK hA hw [] (by decide) rfl rfl [] rfl (by decide) hl.1 rfl rfl (lv_room (Nat.le_of_ble_eq_true rfl)) ⟨Nat.zero_le _, Nat.zero_le _⟩ dX2_dotTime_10 (fun H locs hw => ?_)
    replace hw : zW D A s H locs (wd_X2_dotTime cI cJ cZ) := hw
    refine lv_iconst (v := 2) S.1 S.2.1 dX2_dotTime_13 (by decide) ?_
    refine z_idiv S h dX2_dotTime_14 (fun y3 h => ?_)
    exact ret y3 h 15 ls _ _ dX2_dotTime_15 hw
  refine z_icmp_ne S (tgt := 9) h dX2_dotTime_2 (by decide) (fun h => ?_) (fun h => ?_)
  · refine lv_iconst (v := 0) S.1 S.2.1 dX2_dotTime_9 (by decide) ?_
    exact J_10 0 h _ _ ls hw (lv_sub hl [] rfl)
  · refine lv_iconst (v := 1) S.1 S.2.1 dX2_dotTime_5 (by decide) ?_
    refine lv_goto (tgt := 10) S.1 S.2.1 dX2_dotTime_6 (by decide) ?_
    exact J_10 1 h _ _ ls hw (lv_sub hl [] rfl)
def gs_X2_mayEnd : List Cond := Cond.code yX2_mayEnd cX2_mayEnd 2 (some .boolean) :: GW
def wd_X2_mayEnd (cI cJ cZ : ClassId) : va_W := []
abbrev rm_X2_mayEnd : Room := { frames := 0, cells := 0, slots := 0, locals := 0 }
theorem hd_X2_mayEnd : yX2_mayEnd.cls ≠ "java/lang/invoke/MethodHandle" ∧ yX2_mayEnd.cls ≠ "java/lang/invoke/VarHandle" ∧ (parseMethodDescriptor yX2_mayEnd.desc).map (fun d => d.parameters.length) = some 2 := by decide +kernel
set_option maxHeartbeats 4000000 in
set_option maxRecDepth 100000 in
theorem c_X2_mayEnd (l : Launch) (D : va_G) (cI cJ cZ : ClassId) (i0 : Int32) (i1 : Int32) (o : Int32) (h : p_X2_mayEnd i0 i1 = some o) : zMi l D (zT cI cJ cZ) yX2_mayEnd gs_X2_mayEnd rm_X2_mayEnd [.int i0, .int i1] (wd_X2_mayEnd cI cJ cZ) (wd_X2_mayEnd cI cJ cZ) (o) := by
  refine zMet_z (own := RX2) (fun u : Int32 => (wd_X2_mayEnd cI cJ cZ)) (fun u : Int32 => u) (by decide) rfl rfl (Nat.le_of_ble_eq_true rfl) ?_
  intro p e s m args below meth c A Q S hK hA hw ret ls hl
  replace hl : lv_has ls 2 [(0, .int i0), (1, .int i1)] := hl
  refine lv_iload_n S.1 S.2.1 dX2_mayEnd_0 rfl (lv_at hl 0 rfl) ?_
  refine z_if_eq S (tgt := 9) h dX2_mayEnd_1 (by decide) (fun h => ?_) (fun h => ?_)
  · refine lv_iconst (v := 1) S.1 S.2.1 dX2_mayEnd_9 (by decide) ?_
    refine lv_goto (tgt := 14) S.1 S.2.1 dX2_mayEnd_10 (by decide) ?_
    exact ret 1 h (z_nb (Or.inr rfl)) 14 ls _ _ dX2_mayEnd_14 hw
  · refine lv_iload_n S.1 S.2.1 dX2_mayEnd_4 rfl (lv_at hl 0 rfl) ?_
    refine lv_iload_n S.1 S.2.1 dX2_mayEnd_5 rfl (lv_at hl 1 rfl) ?_
    refine z_icmp_ne S (tgt := 13) h dX2_mayEnd_6 (by decide) (fun h => ?_) (fun h => ?_)
    · refine lv_iconst (v := 0) S.1 S.2.1 dX2_mayEnd_13 (by decide) ?_
      exact ret 0 h (z_nb (Or.inl rfl)) 14 ls _ _ dX2_mayEnd_14 hw
    · refine lv_iconst (v := 1) S.1 S.2.1 dX2_mayEnd_9 (by decide) ?_
      refine lv_goto (tgt := 14) S.1 S.2.1 dX2_mayEnd_10 (by decide) ?_
      exact ret 1 h (z_nb (Or.inr rfl)) 14 ls _ _ dX2_mayEnd_14 hw
theorem gw_545 : Cond.methodLink RX2 117 yX2_timeOf ∈ GW := GW_of 545 (by decide +kernel) (by decide +kernel)
theorem gw_547 : Cond.code yX2_timeOf cX2_timeOf 1 (some .int) ∈ GW := GW_of 547 (by decide +kernel) (by decide +kernel)
theorem gw_546 : Cond.static yX2_timeOf ∈ GW := GW_of 546 (by decide +kernel) (by decide +kernel)
theorem gw_551 : Cond.methodLink RX2 123 yX2_stateAt ∈ GW := GW_of 551 (by decide +kernel) (by decide +kernel)
theorem gw_553 : Cond.code yX2_stateAt cX2_stateAt 3 (some .int) ∈ GW := GW_of 553 (by decide +kernel) (by decide +kernel)
theorem gw_552 : Cond.static yX2_stateAt ∈ GW := GW_of 552 (by decide +kernel) (by decide +kernel)
theorem gw_554 : Cond.methodLink RX2 126 yX2_dotTime ∈ GW := GW_of 554 (by decide +kernel) (by decide +kernel)
theorem gw_556 : Cond.code yX2_dotTime cX2_dotTime 1 (some .int) ∈ GW := GW_of 556 (by decide +kernel) (by decide +kernel)
theorem gw_555 : Cond.static yX2_dotTime ∈ GW := GW_of 555 (by decide +kernel) (by decide +kernel)
theorem gw_557 : Cond.methodLink RX2 129 yX2_mayEnd ∈ GW := GW_of 557 (by decide +kernel) (by decide +kernel)
theorem gw_559 : Cond.code yX2_mayEnd cX2_mayEnd 2 (some .boolean) ∈ GW := GW_of 559 (by decide +kernel) (by decide +kernel)
theorem gw_558 : Cond.static yX2_mayEnd ∈ GW := GW_of 558 (by decide +kernel) (by decide +kernel)
def gs_X2_stateBehind : List Cond := Cond.code yX2_stateBehind cX2_stateBehind 5 (some .int) :: GW
def wd_X2_stateBehind (cI cJ cZ : ClassId) : va_W := []
abbrev rm_X2_stateBehind : Room := { frames := 2, cells := 0, slots := 0, locals := 40 }
theorem hd_X2_stateBehind : yX2_stateBehind.cls ≠ "java/lang/invoke/MethodHandle" ∧ yX2_stateBehind.cls ≠ "java/lang/invoke/VarHandle" ∧ (parseMethodDescriptor yX2_stateBehind.desc).map (fun d => d.parameters.length) = some 3 := by decide +kernel
set_option maxHeartbeats 4000000 in
set_option maxRecDepth 100000 in
theorem c_X2_stateBehind (l : Launch) (D : va_G) (cI cJ cZ : ClassId) (i0 : Int32) (i1 : Int32) (i2 : Int32) (o : Int32) (h : p_X2_stateBehind i0 i1 i2 = some o) : zMi l D (zT cI cJ cZ) yX2_stateBehind gs_X2_stateBehind rm_X2_stateBehind [.int i0, .int i1, .int i2] (wd_X2_stateBehind cI cJ cZ) (wd_X2_stateBehind cI cJ cZ) (o) := by
  refine zMet_i (own := RX2) (fun u : Int32 => (wd_X2_stateBehind cI cJ cZ)) (fun u : Int32 => u) (by decide) rfl rfl (Nat.le_of_ble_eq_true rfl) ?_
  intro p e s m args below meth c A Q S hK hA hw ret ls hl
  replace hl : lv_has ls 5 [(0, .int i0), (1, .int i1), (2, .int i2)] := hl
  refine lv_iload_n S.1 S.2.1 dX2_stateBehind_0 rfl (lv_at hl 0 rfl) ?_
  obtain ⟨y1, hc, h⟩ := z_b1_e h
  refine z_callSi (As := [.int i0]) (rest := []) S (c_X2_timeOf l D cI cJ cZ i0 _ hc) (va_cwS 1 S.2.2.2.2 (gw_S gw_545 gw_546 gw_56 gw_547) rfl rfl rfl hd_X2_timeOf ⟨Nat.le_of_ble_eq_true rfl, Nat.le_of_ble_eq_true rfl⟩) hK hA hw [] (by decide) rfl rfl [] rfl (by decide) hl.1 rfl rfl (lv_room (Nat.le_of_ble_eq_true rfl)) ⟨Nat.zero_le _, Nat.zero_le _⟩ dX2_stateBehind_1 (fun H locs hw => ?_)
  replace hw : zW D A s H locs (wd_X2_stateBehind cI cJ cZ) := hw
  refine lv_istore_n (lv' := [(3, .int y1), (0, .int i0), (1, .int i1), (2, .int i2)]) S.1 S.2.1 dX2_stateBehind_4 rfl hl (by decide) rfl (fun ls hl => ?_)
  refine lv_iload_n S.1 S.2.1 dX2_stateBehind_5 rfl (lv_at hl 1 rfl) ?_
  refine lv_iconst (v := 3) S.1 S.2.1 dX2_stateBehind_6 (by decide) ?_
  refine z_irem S h dX2_stateBehind_7 (fun y2 h => ?_)
  refine lv_istore (lv' := [(4, .int y2), (3, .int y1), (0, .int i0), (1, .int i1), (2, .int i2)]) S.1 S.2.1 dX2_stateBehind_8 hl (by decide) rfl (fun ls hl => ?_)
  refine lv_iload_n S.1 S.2.1 dX2_stateBehind_10 rfl (lv_at hl 3 rfl) ?_
  refine z_ife h (fun e11_0 h => ?_) (fun ne11_0 h => ?_)
  · refine lv_tableIn (tgt := 48) S.1 S.2.1 dX2_stateBehind_11 (by rw [e11_0]; decide) (by rw [e11_0]; decide) (by rw [e11_0]; rfl) (by decide) ?_
    refine lv_iload_n S.1 S.2.1 dX2_stateBehind_48 rfl (lv_at hl 1 rfl) ?_
    refine lv_iload_n S.1 S.2.1 dX2_stateBehind_49 rfl (lv_at hl 3 rfl) ?_
    obtain ⟨y3, hc, h⟩ := z_b1_e h
    refine z_callSi (As := [.int i1]) (rest := [.int y1]) S (c_X2_signTime l D cI cJ cZ i1 _ hc) (va_cwS 1 S.2.2.2.2 (gw_S gw_548 gw_549 gw_56 gw_550) rfl rfl rfl hd_X2_signTime ⟨Nat.le_of_ble_eq_true rfl, Nat.le_of_ble_eq_true rfl⟩) hK hA hw [] (by decide) rfl rfl [] rfl (by decide) hl.1 rfl rfl (lv_room (Nat.le_of_ble_eq_true rfl)) ⟨Nat.zero_le _, Nat.zero_le _⟩ dX2_stateBehind_50 (fun H locs hw => ?_)
    replace hw : zW D A s H locs (wd_X2_stateBehind cI cJ cZ) := hw
    refine lv_iadd S.1 S.2.1 dX2_stateBehind_53 ?_
    refine lv_iconst (v := 1) S.1 S.2.1 dX2_stateBehind_54 (by decide) ?_
    refine lv_iload_n S.1 S.2.1 dX2_stateBehind_55 rfl (lv_at hl 4 rfl) ?_
    obtain ⟨y4, hc, h⟩ := z_b1_e h
    refine z_callSi (As := [.int (y1 + y3), .int 1, .int i2]) (rest := []) S (c_X2_stateAt l D cI cJ cZ (y1 + y3) 1 i2 _ hc) (va_cwS 3 S.2.2.2.2 (gw_S gw_551 gw_552 gw_56 gw_553) rfl rfl rfl hd_X2_stateAt ⟨Nat.le_of_ble_eq_true rfl, Nat.le_of_ble_eq_true rfl⟩) hK hA hw [] (by decide) rfl rfl [] rfl (by decide) hl.1 rfl rfl (lv_room (Nat.le_of_ble_eq_true rfl)) ⟨Nat.zero_le _, Nat.zero_le _⟩ dX2_stateBehind_56 (fun H locs hw => ?_)
    replace hw : zW D A s H locs (wd_X2_stateBehind cI cJ cZ) := hw
    exact ret y4 h 59 ls _ _ dX2_stateBehind_59 hw
  refine z_ife h (fun e11_1 h => ?_) (fun ne11_1 h => ?_)
  · refine lv_tableIn (tgt := 60) S.1 S.2.1 dX2_stateBehind_11 (by rw [e11_1]; decide) (by rw [e11_1]; decide) (by rw [e11_1]; rfl) (by decide) ?_
    refine lv_iload_n S.1 S.2.1 dX2_stateBehind_60 rfl (lv_at hl 1 rfl) ?_
    refine lv_iload_n S.1 S.2.1 dX2_stateBehind_61 rfl (lv_at hl 3 rfl) ?_
    obtain ⟨y5, hc, h⟩ := z_b1_e h
    refine z_callSi (As := [.int i1]) (rest := [.int y1]) S (c_X2_signTime l D cI cJ cZ i1 _ hc) (va_cwS 1 S.2.2.2.2 (gw_S gw_548 gw_549 gw_56 gw_550) rfl rfl rfl hd_X2_signTime ⟨Nat.le_of_ble_eq_true rfl, Nat.le_of_ble_eq_true rfl⟩) hK hA hw [] (by decide) rfl rfl [] rfl (by decide) hl.1 rfl rfl (lv_room (Nat.le_of_ble_eq_true rfl)) ⟨Nat.zero_le _, Nat.zero_le _⟩ dX2_stateBehind_62 (fun H locs hw => ?_)
    replace hw : zW D A s H locs (wd_X2_stateBehind cI cJ cZ) := hw
    refine lv_iadd S.1 S.2.1 dX2_stateBehind_65 ?_
    refine lv_iconst (v := 2) S.1 S.2.1 dX2_stateBehind_66 (by decide) ?_
    refine lv_iload_n S.1 S.2.1 dX2_stateBehind_67 rfl (lv_at hl 4 rfl) ?_
    obtain ⟨y6, hc, h⟩ := z_b1_e h
    refine z_callSi (As := [.int (y1 + y5), .int 2, .int i2]) (rest := []) S (c_X2_stateAt l D cI cJ cZ (y1 + y5) 2 i2 _ hc) (va_cwS 3 S.2.2.2.2 (gw_S gw_551 gw_552 gw_56 gw_553) rfl rfl rfl hd_X2_stateAt ⟨Nat.le_of_ble_eq_true rfl, Nat.le_of_ble_eq_true rfl⟩) hK hA hw [] (by decide) rfl rfl [] rfl (by decide) hl.1 rfl rfl (lv_room (Nat.le_of_ble_eq_true rfl)) ⟨Nat.zero_le _, Nat.zero_le _⟩ dX2_stateBehind_68 (fun H locs hw => ?_)
    replace hw : zW D A s H locs (wd_X2_stateBehind cI cJ cZ) := hw
    exact ret y6 h 71 ls _ _ dX2_stateBehind_71 hw
  refine z_ife h (fun e11_2 h => ?_) (fun ne11_2 h => ?_)
  · refine lv_tableIn (tgt := 72) S.1 S.2.1 dX2_stateBehind_11 (by rw [e11_2]; decide) (by rw [e11_2]; decide) (by rw [e11_2]; rfl) (by decide) ?_
    refine lv_iload_n S.1 S.2.1 dX2_stateBehind_72 rfl (lv_at hl 1 rfl) ?_
    refine lv_iload_n S.1 S.2.1 dX2_stateBehind_73 rfl (lv_at hl 3 rfl) ?_
    obtain ⟨y7, hc, h⟩ := z_b1_e h
    refine z_callSi (As := [.int i1]) (rest := [.int y1]) S (c_X2_signTime l D cI cJ cZ i1 _ hc) (va_cwS 1 S.2.2.2.2 (gw_S gw_548 gw_549 gw_56 gw_550) rfl rfl rfl hd_X2_signTime ⟨Nat.le_of_ble_eq_true rfl, Nat.le_of_ble_eq_true rfl⟩) hK hA hw [] (by decide) rfl rfl [] rfl (by decide) hl.1 rfl rfl (lv_room (Nat.le_of_ble_eq_true rfl)) ⟨Nat.zero_le _, Nat.zero_le _⟩ dX2_stateBehind_74 (fun H locs hw => ?_)
    replace hw : zW D A s H locs (wd_X2_stateBehind cI cJ cZ) := hw
    refine lv_iadd S.1 S.2.1 dX2_stateBehind_77 ?_
    refine lv_iconst (v := 0) S.1 S.2.1 dX2_stateBehind_78 (by decide) ?_
    refine lv_iload_n S.1 S.2.1 dX2_stateBehind_79 rfl (lv_at hl 4 rfl) ?_
    obtain ⟨y8, hc, h⟩ := z_b1_e h
    refine z_callSi (As := [.int (y1 + y7), .int 0, .int i2]) (rest := []) S (c_X2_stateAt l D cI cJ cZ (y1 + y7) 0 i2 _ hc) (va_cwS 3 S.2.2.2.2 (gw_S gw_551 gw_552 gw_56 gw_553) rfl rfl rfl hd_X2_stateAt ⟨Nat.le_of_ble_eq_true rfl, Nat.le_of_ble_eq_true rfl⟩) hK hA hw [] (by decide) rfl rfl [] rfl (by decide) hl.1 rfl rfl (lv_room (Nat.le_of_ble_eq_true rfl)) ⟨Nat.zero_le _, Nat.zero_le _⟩ dX2_stateBehind_80 (fun H locs hw => ?_)
    replace hw : zW D A s H locs (wd_X2_stateBehind cI cJ cZ) := hw
    exact ret y8 h 83 ls _ _ dX2_stateBehind_83 hw
  refine z_ife h (fun e11_3 h => ?_) (fun ne11_3 h => ?_)
  · refine lv_tableIn (tgt := 72) S.1 S.2.1 dX2_stateBehind_11 (by rw [e11_3]; decide) (by rw [e11_3]; decide) (by rw [e11_3]; rfl) (by decide) ?_
    refine lv_iload_n S.1 S.2.1 dX2_stateBehind_72 rfl (lv_at hl 1 rfl) ?_
    refine lv_iload_n S.1 S.2.1 dX2_stateBehind_73 rfl (lv_at hl 3 rfl) ?_
    obtain ⟨y9, hc, h⟩ := z_b1_e h
    refine z_callSi (As := [.int i1]) (rest := [.int y1]) S (c_X2_signTime l D cI cJ cZ i1 _ hc) (va_cwS 1 S.2.2.2.2 (gw_S gw_548 gw_549 gw_56 gw_550) rfl rfl rfl hd_X2_signTime ⟨Nat.le_of_ble_eq_true rfl, Nat.le_of_ble_eq_true rfl⟩) hK hA hw [] (by decide) rfl rfl [] rfl (by decide) hl.1 rfl rfl (lv_room (Nat.le_of_ble_eq_true rfl)) ⟨Nat.zero_le _, Nat.zero_le _⟩ dX2_stateBehind_74 (fun H locs hw => ?_)
    replace hw : zW D A s H locs (wd_X2_stateBehind cI cJ cZ) := hw
    refine lv_iadd S.1 S.2.1 dX2_stateBehind_77 ?_
    refine lv_iconst (v := 0) S.1 S.2.1 dX2_stateBehind_78 (by decide) ?_
    refine lv_iload_n S.1 S.2.1 dX2_stateBehind_79 rfl (lv_at hl 4 rfl) ?_
    obtain ⟨y10, hc, h⟩ := z_b1_e h
    refine z_callSi (As := [.int (y1 + y9), .int 0, .int i2]) (rest := []) S (c_X2_stateAt l D cI cJ cZ (y1 + y9) 0 i2 _ hc) (va_cwS 3 S.2.2.2.2 (gw_S gw_551 gw_552 gw_56 gw_553) rfl rfl rfl hd_X2_stateAt ⟨Nat.le_of_ble_eq_true rfl, Nat.le_of_ble_eq_true rfl⟩) hK hA hw [] (by decide) rfl rfl [] rfl (by decide) hl.1 rfl rfl (lv_room (Nat.le_of_ble_eq_true rfl)) ⟨Nat.zero_le _, Nat.zero_le _⟩ dX2_stateBehind_80 (fun H locs hw => ?_)
    replace hw : zW D A s H locs (wd_X2_stateBehind cI cJ cZ) := hw
    exact ret y10 h 83 ls _ _ dX2_stateBehind_83 hw
  refine z_ife h (fun e11_4 h => ?_) (fun ne11_4 h => ?_)
  · refine lv_tableIn (tgt := 84) S.1 S.2.1 dX2_stateBehind_11 (by rw [e11_4]; decide) (by rw [e11_4]; decide) (by rw [e11_4]; rfl) (by decide) ?_
    refine lv_iload S.1 S.2.1 dX2_stateBehind_84 (lv_at hl 0 rfl) ?_
    refine z_if_ne S (tgt := 93) h dX2_stateBehind_86 (by decide) (fun h => ?_) (fun h => ?_)
    · refine lv_iload_n S.1 S.2.1 dX2_stateBehind_93 rfl (lv_at hl 1 rfl) ?_
      refine lv_iload S.1 S.2.1 dX2_stateBehind_94 (lv_at hl 0 rfl) ?_
      obtain ⟨y11, hc, h⟩ := z_b1_e h
      refine z_callSi (As := [.int y2]) (rest := [.int y1]) S (c_X2_dotTime l D cI cJ cZ y2 _ hc) (va_cwS 1 S.2.2.2.2 (gw_S gw_554 gw_555 gw_56 gw_556) rfl rfl rfl hd_X2_dotTime ⟨Nat.le_of_ble_eq_true rfl, Nat.le_of_ble_eq_true rfl⟩) hK hA hw [] (by decide) rfl rfl [] rfl (by decide) hl.1 rfl rfl (lv_room (Nat.le_of_ble_eq_true rfl)) ⟨Nat.zero_le _, Nat.zero_le _⟩ dX2_stateBehind_96 (fun H locs hw => ?_)
      replace hw : zW D A s H locs (wd_X2_stateBehind cI cJ cZ) := hw
      refine lv_iadd S.1 S.2.1 dX2_stateBehind_99 ?_
      refine lv_iconst (v := 0) S.1 S.2.1 dX2_stateBehind_100 (by decide) ?_
      refine lv_iload_n S.1 S.2.1 dX2_stateBehind_101 rfl (lv_at hl 4 rfl) ?_
      obtain ⟨y12, hc, h⟩ := z_b1_e h
      refine z_callSi (As := [.int (y1 + y11), .int 0, .int i2]) (rest := []) S (c_X2_stateAt l D cI cJ cZ (y1 + y11) 0 i2 _ hc) (va_cwS 3 S.2.2.2.2 (gw_S gw_551 gw_552 gw_56 gw_553) rfl rfl rfl hd_X2_stateAt ⟨Nat.le_of_ble_eq_true rfl, Nat.le_of_ble_eq_true rfl⟩) hK hA hw [] (by decide) rfl rfl [] rfl (by decide) hl.1 rfl rfl (lv_room (Nat.le_of_ble_eq_true rfl)) ⟨Nat.zero_le _, Nat.zero_le _⟩ dX2_stateBehind_102 (fun H locs hw => ?_)
      replace hw : zW D A s H locs (wd_X2_stateBehind cI cJ cZ) := hw
      exact ret y12 h 105 ls _ _ dX2_stateBehind_105 hw
    · refine lv_iconst (v := (-1)) S.1 S.2.1 dX2_stateBehind_89 (by decide) ?_
      refine lv_goto (tgt := 105) S.1 S.2.1 dX2_stateBehind_90 (by decide) ?_
      exact ret (-1) h 105 ls _ _ dX2_stateBehind_105 hw
  refine z_ife h (fun e11_5 h => ?_) (fun ne11_5 h => ?_)
  · refine lv_tableIn (tgt := 106) S.1 S.2.1 dX2_stateBehind_11 (by rw [e11_5]; decide) (by rw [e11_5]; decide) (by rw [e11_5]; rfl) (by decide) ?_
    refine lv_iload_n S.1 S.2.1 dX2_stateBehind_106 rfl (lv_at hl 1 rfl) ?_
    refine lv_iload_n S.1 S.2.1 dX2_stateBehind_107 rfl (lv_at hl 4 rfl) ?_
    obtain ⟨y13, hc, h⟩ := z_b1_e h
    refine z_callSi (As := [.int y1, .int i2]) (rest := []) S (c_X2_mayEnd l D cI cJ cZ y1 i2 _ hc) (va_cwS 2 S.2.2.2.2 (gw_S gw_557 gw_558 gw_56 gw_559) rfl rfl rfl hd_X2_mayEnd ⟨Nat.le_of_ble_eq_true rfl, Nat.le_of_ble_eq_true rfl⟩) hK hA hw [] (by decide) rfl rfl [] rfl (by decide) hl.1 rfl rfl (lv_room (Nat.le_of_ble_eq_true rfl)) ⟨Nat.zero_le _, Nat.zero_le _⟩ dX2_stateBehind_108 (fun H locs hw => ?_)
    replace hw : zW D A s H locs (wd_X2_stateBehind cI cJ cZ) := hw
    refine z_if_eq S (tgt := 118) h dX2_stateBehind_111 (by decide) (fun h => ?_) (fun h => ?_)
    · refine lv_iconst (v := (-1)) S.1 S.2.1 dX2_stateBehind_118 (by decide) ?_
      exact ret (-1) h 119 ls _ _ dX2_stateBehind_119 hw
    · refine lv_iconst (v := 0) S.1 S.2.1 dX2_stateBehind_114 (by decide) ?_
      refine lv_goto (tgt := 119) S.1 S.2.1 dX2_stateBehind_115 (by decide) ?_
      exact ret 0 h 119 ls _ _ dX2_stateBehind_119 hw
  have ho_11 : (i1 : Int32).toInt < 0 ∨ 5 < (i1 : Int32).toInt := by
    have q_ne11_0 := lv_neT ne11_0 (a := 0) (by decide)
    have q_ne11_1 := lv_neT ne11_1 (a := 1) (by decide)
    have q_ne11_2 := lv_neT ne11_2 (a := 2) (by decide)
    have q_ne11_3 := lv_neT ne11_3 (a := 3) (by decide)
    have q_ne11_4 := lv_neT ne11_4 (a := 4) (by decide)
    have q_ne11_5 := lv_neT ne11_5 (a := 5) (by decide)
    omega
  refine lv_tableOut (tgt := 120) S.1 S.2.1 dX2_stateBehind_11 ho_11 (by decide) ?_
  refine lv_iload_n S.1 S.2.1 dX2_stateBehind_120 rfl (lv_at hl 2 rfl) ?_
  exact ret i0 h 121 ls _ _ dX2_stateBehind_121 hw
theorem gw_192 : Cond.fieldLink RX2 49 "ScoreReader$Reading" "states" "I" ∈ GW := GW_of 192 (by decide +kernel) (by decide +kernel)
theorem gw_183 : Cond.fieldLink RX2 20 "ScoreReader$Reading" "nexts" "LScoreReader$Row;" ∈ GW := GW_of 183 (by decide +kernel) (by decide +kernel)
theorem gw_542 : Cond.methodLink RX2 114 yX2_stateBehind ∈ GW := GW_of 542 (by decide +kernel) (by decide +kernel)
theorem gw_544 : Cond.code yX2_stateBehind cX2_stateBehind 5 (some .int) ∈ GW := GW_of 544 (by decide +kernel) (by decide +kernel)
theorem gw_543 : Cond.static yX2_stateBehind ∈ GW := GW_of 543 (by decide +kernel) (by decide +kernel)
def gs_X2_planStates : List Cond := Cond.code yX2_planStates cX2_planStates 4 none :: GW
def wd_X2_planStates (cI cJ cZ : ClassId) (a_this a_this_costs a_this_nexts a_this_nexts_cells a_this_rests a_this_aheads a_this_coming a_this_meanings a_this_doubts a_this_measureOf a_this_times : Nat) (v_this_size : Int32) (v_this_states : Int32) (v_this_total : Int32) (v_this_measures : Int32) (v_this_doubtsAreOld : Int32) (f_this_nexts_cells : Nat → Int32) : va_W := [(a_this, .inr (2, [.ref a_this_costs, .ref a_this_nexts, .ref a_this_rests, .ref a_this_aheads, .ref a_this_coming, .ref a_this_meanings, .ref a_this_doubts, .ref a_this_measureOf, .ref a_this_times, .int v_this_size, .int v_this_states, .int v_this_total, .int v_this_measures, .int v_this_doubtsAreOld])), (a_this_nexts, .inr (3, [.ref a_this_nexts_cells])), (a_this_nexts_cells, .inl (cI, 525, .inl f_this_nexts_cells))]
abbrev rm_X2_planStates : Room := { frames := 3, cells := 0, slots := 0, locals := 64 }
theorem hd_X2_planStates : yX2_planStates.cls = RX2 ∧ yX2_planStates.cls ≠ "java/lang/invoke/MethodHandle" ∧ yX2_planStates.cls ≠ "java/lang/invoke/VarHandle" ∧ (parseMethodDescriptor yX2_planStates.desc).map (fun d => d.parameters.length) = some 1 := by decide +kernel
set_option maxHeartbeats 4000000 in
set_option maxRecDepth 100000 in
theorem c_X2_planStates (l : Launch) (D : va_G) (cI cJ cZ : ClassId) (a_this a_this_costs a_this_nexts a_this_nexts_cells a_this_rests a_this_aheads a_this_coming a_this_meanings a_this_doubts a_this_measureOf a_this_times : Nat) (v_this_size : Int32) (v_this_states : Int32) (v_this_total : Int32) (v_this_measures : Int32) (v_this_doubtsAreOld : Int32) (f_this_nexts_cells : Nat → Int32) (K : Nat) (i1 : Int32) (o : Int32 × (Nat → Int32)) (h : p_X2_planStates K v_this_states f_this_nexts_cells i1 = some o) : zMv l D (zT cI cJ cZ) yX2_planStates gs_X2_planStates rm_X2_planStates [.ref a_this, .int i1] (wd_X2_planStates cI cJ cZ a_this a_this_costs a_this_nexts a_this_nexts_cells a_this_rests a_this_aheads a_this_coming a_this_meanings a_this_doubts a_this_measureOf a_this_times v_this_size v_this_states v_this_total v_this_measures v_this_doubtsAreOld f_this_nexts_cells) (wd_X2_planStates cI cJ cZ a_this a_this_costs a_this_nexts a_this_nexts_cells a_this_rests a_this_aheads a_this_coming a_this_meanings a_this_doubts a_this_measureOf a_this_times v_this_size (o.1) v_this_total v_this_measures v_this_doubtsAreOld (o.2)) := by
  refine zMet_v (own := RX2) (fun u : Int32 × (Nat → Int32) => (wd_X2_planStates cI cJ cZ a_this a_this_costs a_this_nexts a_this_nexts_cells a_this_rests a_this_aheads a_this_coming a_this_meanings a_this_doubts a_this_measureOf a_this_times v_this_size (u.1) v_this_total v_this_measures v_this_doubtsAreOld (u.2))) (by decide) rfl rfl (Nat.le_of_ble_eq_true rfl) ?_
  intro p e s m args below meth c A Q S hK hA hw ret ls hl
  replace hl : lv_has ls 4 [(0, .ref a_this), (1, .int i1)] := hl
  refine lv_aload_n S.1 S.2.1 dX2_planStates_0 rfl (lv_at hl 0 rfl) ?_
  refine lv_iload_n S.1 S.2.1 dX2_planStates_1 rfl (lv_at hl 1 rfl) ?_
  refine lv_iconst (v := 2) S.1 S.2.1 dX2_planStates_2 (by decide) ?_
  refine z_idiv S h dX2_planStates_3 (fun y1 h => ?_)
  refine lv_iconst (v := 1) S.1 S.2.1 dX2_planStates_4 (by decide) ?_
  refine lv_iadd S.1 S.2.1 dX2_planStates_5 ?_
  refine lv_iconst (v := 3) S.1 S.2.1 dX2_planStates_6 (by decide) ?_
  refine lv_imul S.1 S.2.1 dX2_planStates_7 ?_
  refine z_leti h (fun y2 h => ?_)
  refine z_put S (C := RX2) (T := TX2) (N := 14) (gi gu_X2) tyX2 tyX2_ok nmX2 hK hw 0 rfl rfl 10 (Nat.le_of_ble_eq_true rfl) (List.mem_cons_of_mem _ gw_192) rfl rfl rfl (Nat.le_of_ble_eq_true rfl) dX2_planStates_8 (fun H locs hw => ?_)
  replace hw : zW D A s H locs (wd_X2_planStates cI cJ cZ a_this a_this_costs a_this_nexts a_this_nexts_cells a_this_rests a_this_aheads a_this_coming a_this_meanings a_this_doubts a_this_measureOf a_this_times v_this_size y2 v_this_total v_this_measures v_this_doubtsAreOld f_this_nexts_cells) := hw
  refine lv_iconst (v := 0) S.1 S.2.1 dX2_planStates_11 (by decide) ?_
  refine lv_istore_n (lv' := [(2, .int 0), (0, .ref a_this), (1, .int i1)]) S.1 S.2.1 dX2_planStates_12 rfl hl (by decide) rfl (fun ls hl => ?_)
  have L_13 : ∀ (n13_4 : Nat) (f3 : Nat → Int32) (x4 : Int32) (h : z_lp2 (p_X2_planStates_l13 y2 i1 K) n13_4 f3 x4 = some o) (H : Heap) (locs : List Loc) (ls : Array Slot), zW D A s H locs (wd_X2_planStates cI cJ cZ a_this a_this_costs a_this_nexts a_this_nexts_cells a_this_rests a_this_aheads a_this_coming a_this_meanings a_this_doubts a_this_measureOf a_this_times v_this_size y2 v_this_total v_this_measures v_this_doubtsAreOld f3) → lv_has ls 4 [(0, .ref a_this), (1, .int i1), (2, .int x4)] → W p l e (headSpec gs_X2_planStates rm_X2_planStates).room s m args below meth c H locs 0 0 Q (F0 m 13 ls []) := by
    intro n13_4
    induction n13_4 with
    | zero => intro f3 x4 h; exact z_no h
    | succ n13_4 ih_13 =>
      intro f3 x4 h H locs ls hw hl
      replace h : (p_X2_planStates_l13 y2 i1 K) (z_lp2 (p_X2_planStates_l13 y2 i1 K) n13_4) f3 x4 = some o := h
      refine lv_iload_n S.1 S.2.1 dX2_planStates_13 rfl (lv_at hl 2 rfl) ?_
      refine lv_aload_n S.1 S.2.1 dX2_planStates_14 rfl (lv_at hl 0 rfl) ?_
      refine z_get S (C := RX2) (T := TX2) (N := 14) (gi gu_X2) hK hw 0 rfl rfl 10 (Nat.le_of_ble_eq_true rfl) (List.mem_cons_of_mem _ gw_192) rfl dX2_planStates_15 ?_
      refine z_icmp_ge S (tgt := 60) h dX2_planStates_18 (by decide) (fun h => ?_) (fun h => ?_)
      · exact ret (y2, f3) h 60 ls _ _ dX2_planStates_60 hw
      · refine lv_iconst (v := 0) S.1 S.2.1 dX2_planStates_21 (by decide) ?_
        refine lv_istore_n (lv' := [(3, .int 0), (0, .ref a_this), (1, .int i1), (2, .int x4)]) S.1 S.2.1 dX2_planStates_22 rfl hl (by decide) rfl (fun ls hl => ?_)
        have L_23 : ∀ (n23_6 : Nat) (f5 : Nat → Int32) (x6 : Int32) (h : z_lp2 (p_X2_planStates_l23 x4 i1 (z_lp2 (p_X2_planStates_l13 y2 i1 K) n13_4)) n23_6 f5 x6 = some o) (H : Heap) (locs : List Loc) (ls : Array Slot), zW D A s H locs (wd_X2_planStates cI cJ cZ a_this a_this_costs a_this_nexts a_this_nexts_cells a_this_rests a_this_aheads a_this_coming a_this_meanings a_this_doubts a_this_measureOf a_this_times v_this_size y2 v_this_total v_this_measures v_this_doubtsAreOld f5) → lv_has ls 4 [(0, .ref a_this), (1, .int i1), (2, .int x4), (3, .int x6)] → W p l e (headSpec gs_X2_planStates rm_X2_planStates).room s m args below meth c H locs 0 0 Q (F0 m 23 ls []) := by
          intro n23_6
          induction n23_6 with
          | zero => intro f5 x6 h; exact z_no h
          | succ n23_6 ih_23 =>
            intro f5 x6 h H locs ls hw hl
            replace h : (p_X2_planStates_l23 x4 i1 (z_lp2 (p_X2_planStates_l13 y2 i1 K) n13_4)) (z_lp2 (p_X2_planStates_l23 x4 i1 (z_lp2 (p_X2_planStates_l13 y2 i1 K) n13_4)) n23_6) f5 x6 = some o := h
            refine lv_iload_n S.1 S.2.1 dX2_planStates_23 rfl (lv_at hl 3 rfl) ?_
            refine lv_bipush (v := 7) S.1 S.2.1 dX2_planStates_24 (by decide) ?_
            refine z_icmp_ge S (tgt := 54) h dX2_planStates_26 (by decide) (fun h => ?_) (fun h => ?_)
            · refine z_iinc S (i := 2) (k := 2) (v := x4 + 1) hl rfl (by decide) rfl (fun v => (2, .int v) :: [(0, .ref a_this), (1, .int i1), (3, .int x6)]) (fun _ => rfl) h dX2_planStates_54 (fun y7 ls hl h => ?_)
              replace hl : lv_has ls 4 [(2, .int y7), (0, .ref a_this), (1, .int i1), (3, .int x6)] := hl
              refine lv_goto (tgt := 13) S.1 S.2.1 dX2_planStates_57 (by decide) ?_
              exact ih_13 f5 y7 h _ _ ls hw (lv_sub hl [1, 2, 0] rfl)
            · refine lv_aload_n S.1 S.2.1 dX2_planStates_29 rfl (lv_at hl 0 rfl) ?_
              refine z_get S (C := RX2) (T := TX2) (N := 14) (gi gu_X2) hK hw 0 rfl rfl 1 (Nat.le_of_ble_eq_true rfl) (List.mem_cons_of_mem _ gw_183) rfl dX2_planStates_30 ?_
              refine lv_iload_n S.1 S.2.1 dX2_planStates_33 rfl (lv_at hl 2 rfl) ?_
              refine lv_bipush (v := 7) S.1 S.2.1 dX2_planStates_34 (by decide) ?_
              refine lv_imul S.1 S.2.1 dX2_planStates_36 ?_
              refine lv_iload_n S.1 S.2.1 dX2_planStates_37 rfl (lv_at hl 3 rfl) ?_
              refine lv_iadd S.1 S.2.1 dX2_planStates_38 ?_
              refine lv_iload_n S.1 S.2.1 dX2_planStates_39 rfl (lv_at hl 2 rfl) ?_
              refine lv_iload_n S.1 S.2.1 dX2_planStates_40 rfl (lv_at hl 3 rfl) ?_
              refine lv_iload_n S.1 S.2.1 dX2_planStates_41 rfl (lv_at hl 1 rfl) ?_
              obtain ⟨y8, hc, h⟩ := z_b1_e h
              refine z_callSi (As := [.int x4, .int x6, .int i1]) (rest := [.int ((x4 * 7) + x6), .ref a_this_nexts]) S (c_X2_stateBehind l D cI cJ cZ x4 x6 i1 _ hc) (va_cwS 3 S.2.2.2.2 (gw_S gw_542 gw_543 gw_56 gw_544) rfl rfl rfl hd_X2_stateBehind ⟨Nat.le_of_ble_eq_true rfl, Nat.le_of_ble_eq_true rfl⟩) hK hA hw [] (by decide) rfl rfl [none, none, none] rfl (by decide) hl.1 rfl rfl (lv_room (Nat.le_of_ble_eq_true rfl)) ⟨Nat.zero_le _, Nat.zero_le _⟩ dX2_planStates_42 (fun H locs hw => ?_)
              replace hw : zW D A s H locs (wd_X2_planStates cI cJ cZ a_this a_this_costs a_this_nexts a_this_nexts_cells a_this_rests a_this_aheads a_this_coming a_this_meanings a_this_doubts a_this_measureOf a_this_times v_this_size y2 v_this_total v_this_measures v_this_doubtsAreOld f5) := hw
              obtain ⟨f9, hc, h⟩ := z_b1_e h
              refine z_callVv (As := [.int ((x4 * 7) + x6), .int y8]) (rest := []) S (c_X3_put l D cI cJ cZ a_this_nexts a_this_nexts_cells 525 f5 ((x4 * 7) + x6) y8 _ hc) (cwV 2 S.2.2.2.2 (gw_V gw_533 gw_326 gw_327 gw_53 gw_328) rfl rfl rfl hd_X3_put ⟨Nat.le_of_ble_eq_true rfl, Nat.le_of_ble_eq_true rfl⟩) hK hA hw [1, 2] (by decide) rfl rfl [none, some 0, some 1] rfl (by decide) 1 rfl rfl hl.1 rfl rfl (lv_room (Nat.le_of_ble_eq_true rfl)) ⟨Nat.zero_le _, Nat.zero_le _⟩ dX2_planStates_45 (fun H locs hw => ?_)
              replace hw : zW D A s H locs (wd_X2_planStates cI cJ cZ a_this a_this_costs a_this_nexts a_this_nexts_cells a_this_rests a_this_aheads a_this_coming a_this_meanings a_this_doubts a_this_measureOf a_this_times v_this_size y2 v_this_total v_this_measures v_this_doubtsAreOld f9) := hw
              refine z_iinc S (i := 3) (k := 3) (v := x6 + 1) hl rfl (by decide) rfl (fun v => (3, .int v) :: [(0, .ref a_this), (1, .int i1), (2, .int x4)]) (fun _ => rfl) h dX2_planStates_48 (fun y10 ls hl h => ?_)
              replace hl : lv_has ls 4 [(3, .int y10), (0, .ref a_this), (1, .int i1), (2, .int x4)] := hl
              refine lv_goto (tgt := 23) S.1 S.2.1 dX2_planStates_51 (by decide) ?_
              exact ih_23 f9 y10 h _ _ ls hw (lv_sub hl [1, 2, 3, 0] rfl)
        exact L_23 K f3 0 h _ _ ls hw (lv_sub hl [1, 2, 3, 0] rfl)
  exact L_13 K f_this_nexts_cells 0 h _ _ ls hw (lv_sub hl [1, 2, 0] rfl)
theorem gw_572 : Cond.methodLink RX2 83 yX3_get ∈ GW := GW_of 572 (by decide +kernel) (by decide +kernel)
theorem gw_184 : Cond.fieldLink RX2 24 "ScoreReader$Reading" "rests" "LScoreReader$Row;" ∈ GW := GW_of 184 (by decide +kernel) (by decide +kernel)
def gs_X2_costFrom : List Cond := Cond.code yX2_costFrom cX2_costFrom 5 (some .int) :: GW
def wd_X2_costFrom (cI cJ cZ : ClassId) (a_this a_this_costs a_this_costs_cells a_this_nexts a_this_nexts_cells a_this_rests a_this_rests_cells a_this_aheads a_this_coming a_this_meanings a_this_doubts a_this_measureOf a_this_times : Nat) (v_this_size : Int32) (v_this_states : Int32) (v_this_total : Int32) (v_this_measures : Int32) (v_this_doubtsAreOld : Int32) (f_this_costs_cells : Nat → Int32) (f_this_nexts_cells : Nat → Int32) (f_this_rests_cells : Nat → Int32) : va_W := [(a_this, .inr (2, [.ref a_this_costs, .ref a_this_nexts, .ref a_this_rests, .ref a_this_aheads, .ref a_this_coming, .ref a_this_meanings, .ref a_this_doubts, .ref a_this_measureOf, .ref a_this_times, .int v_this_size, .int v_this_states, .int v_this_total, .int v_this_measures, .int v_this_doubtsAreOld])), (a_this_costs, .inr (3, [.ref a_this_costs_cells])), (a_this_costs_cells, .inl (cI, 280, .inl f_this_costs_cells)), (a_this_nexts, .inr (3, [.ref a_this_nexts_cells])), (a_this_nexts_cells, .inl (cI, 525, .inl f_this_nexts_cells)), (a_this_rests, .inr (3, [.ref a_this_rests_cells])), (a_this_rests_cells, .inl (cI, 3075, .inl f_this_rests_cells))]
abbrev rm_X2_costFrom : Room := { frames := 1, cells := 0, slots := 0, locals := 21 }
theorem hd_X2_costFrom : yX2_costFrom.cls = RX2 ∧ yX2_costFrom.cls ≠ "java/lang/invoke/MethodHandle" ∧ yX2_costFrom.cls ≠ "java/lang/invoke/VarHandle" ∧ (parseMethodDescriptor yX2_costFrom.desc).map (fun d => d.parameters.length) = some 3 := by decide +kernel
set_option maxHeartbeats 4000000 in
set_option maxRecDepth 100000 in
theorem c_X2_costFrom (l : Launch) (D : va_G) (cI cJ cZ : ClassId) (a_this a_this_costs a_this_costs_cells a_this_nexts a_this_nexts_cells a_this_rests a_this_rests_cells a_this_aheads a_this_coming a_this_meanings a_this_doubts a_this_measureOf a_this_times : Nat) (v_this_size : Int32) (v_this_states : Int32) (v_this_total : Int32) (v_this_measures : Int32) (v_this_doubtsAreOld : Int32) (f_this_costs_cells : Nat → Int32) (f_this_nexts_cells : Nat → Int32) (f_this_rests_cells : Nat → Int32) (i1 : Int32) (i2 : Int32) (i3 : Int32) (o : Int32) (h : p_X2_costFrom f_this_costs_cells f_this_nexts_cells f_this_rests_cells i1 i2 i3 = some o) : zMi l D (zT cI cJ cZ) yX2_costFrom gs_X2_costFrom rm_X2_costFrom [.ref a_this, .int i1, .int i2, .int i3] (wd_X2_costFrom cI cJ cZ a_this a_this_costs a_this_costs_cells a_this_nexts a_this_nexts_cells a_this_rests a_this_rests_cells a_this_aheads a_this_coming a_this_meanings a_this_doubts a_this_measureOf a_this_times v_this_size v_this_states v_this_total v_this_measures v_this_doubtsAreOld f_this_costs_cells f_this_nexts_cells f_this_rests_cells) (wd_X2_costFrom cI cJ cZ a_this a_this_costs a_this_costs_cells a_this_nexts a_this_nexts_cells a_this_rests a_this_rests_cells a_this_aheads a_this_coming a_this_meanings a_this_doubts a_this_measureOf a_this_times v_this_size v_this_states v_this_total v_this_measures v_this_doubtsAreOld f_this_costs_cells f_this_nexts_cells f_this_rests_cells) (o) := by
  refine zMet_i (own := RX2) (fun u : Int32 => (wd_X2_costFrom cI cJ cZ a_this a_this_costs a_this_costs_cells a_this_nexts a_this_nexts_cells a_this_rests a_this_rests_cells a_this_aheads a_this_coming a_this_meanings a_this_doubts a_this_measureOf a_this_times v_this_size v_this_states v_this_total v_this_measures v_this_doubtsAreOld f_this_costs_cells f_this_nexts_cells f_this_rests_cells)) (fun u : Int32 => u) (by decide) rfl rfl (Nat.le_of_ble_eq_true rfl) ?_
  intro p e s m args below meth c A Q S hK hA hw ret ls hl
  replace hl : lv_has ls 5 [(0, .ref a_this), (1, .int i1), (2, .int i2), (3, .int i3)] := hl
  refine lv_aload_n S.1 S.2.1 dX2_costFrom_0 rfl (lv_at hl 0 rfl) ?_
  refine z_get S (C := RX2) (T := TX2) (N := 14) (gi gu_X2) hK hw 0 rfl rfl 1 (Nat.le_of_ble_eq_true rfl) (List.mem_cons_of_mem _ gw_183) rfl dX2_costFrom_1 ?_
  refine lv_iload_n S.1 S.2.1 dX2_costFrom_4 rfl (lv_at hl 2 rfl) ?_
  refine lv_bipush (v := 7) S.1 S.2.1 dX2_costFrom_5 (by decide) ?_
  refine lv_imul S.1 S.2.1 dX2_costFrom_7 ?_
  refine lv_iload_n S.1 S.2.1 dX2_costFrom_8 rfl (lv_at hl 3 rfl) ?_
  refine lv_iadd S.1 S.2.1 dX2_costFrom_9 ?_
  obtain ⟨y1, hc, h⟩ := z_b1_e h
  refine z_callVi (As := [.int ((i2 * 7) + i3)]) (rest := []) S (c_X3_get l D cI cJ cZ a_this_nexts a_this_nexts_cells 525 f_this_nexts_cells ((i2 * 7) + i3) _ hc) (cwV 1 S.2.2.2.2 (gw_V gw_572 gw_342 gw_343 gw_53 gw_344) rfl rfl rfl hd_X3_get ⟨Nat.le_of_ble_eq_true rfl, Nat.le_of_ble_eq_true rfl⟩) hK hA hw [3, 4] (by decide) rfl rfl [none, none, none, some 0, some 1, none, none] rfl (by decide) 3 rfl rfl hl.1 rfl rfl (lv_room (Nat.le_of_ble_eq_true rfl)) ⟨Nat.zero_le _, Nat.zero_le _⟩ dX2_costFrom_10 (fun H locs hw => ?_)
  replace hw : zW D A s H locs (wd_X2_costFrom cI cJ cZ a_this a_this_costs a_this_costs_cells a_this_nexts a_this_nexts_cells a_this_rests a_this_rests_cells a_this_aheads a_this_coming a_this_meanings a_this_doubts a_this_measureOf a_this_times v_this_size v_this_states v_this_total v_this_measures v_this_doubtsAreOld f_this_costs_cells f_this_nexts_cells f_this_rests_cells) := hw
  refine lv_istore (lv' := [(4, .int y1), (0, .ref a_this), (1, .int i1), (2, .int i2), (3, .int i3)]) S.1 S.2.1 dX2_costFrom_13 hl (by decide) rfl (fun ls hl => ?_)
  refine lv_iload S.1 S.2.1 dX2_costFrom_15 (lv_at hl 0 rfl) ?_
  refine lv_iconst (v := (-1)) S.1 S.2.1 dX2_costFrom_17 (by decide) ?_
  refine z_icmp_ne S (tgt := 24) h dX2_costFrom_18 (by decide) (fun h => ?_) (fun h => ?_)
  · refine lv_aload_n S.1 S.2.1 dX2_costFrom_24 rfl (lv_at hl 1 rfl) ?_
    refine z_get S (C := RX2) (T := TX2) (N := 14) (gi gu_X2) hK hw 0 rfl rfl 0 (Nat.le_of_ble_eq_true rfl) (List.mem_cons_of_mem _ gw_182) rfl dX2_costFrom_25 ?_
    refine lv_iload_n S.1 S.2.1 dX2_costFrom_28 rfl (lv_at hl 2 rfl) ?_
    refine lv_bipush (v := 7) S.1 S.2.1 dX2_costFrom_29 (by decide) ?_
    refine lv_imul S.1 S.2.1 dX2_costFrom_31 ?_
    refine lv_iload_n S.1 S.2.1 dX2_costFrom_32 rfl (lv_at hl 4 rfl) ?_
    refine lv_iadd S.1 S.2.1 dX2_costFrom_33 ?_
    obtain ⟨y2, hc, h⟩ := z_b1_e h
    refine z_callVi (As := [.int ((i1 * 7) + i3)]) (rest := []) S (c_X3_get l D cI cJ cZ a_this_costs a_this_costs_cells 280 f_this_costs_cells ((i1 * 7) + i3) _ hc) (cwV 1 S.2.2.2.2 (gw_V gw_572 gw_342 gw_343 gw_53 gw_344) rfl rfl rfl hd_X3_get ⟨Nat.le_of_ble_eq_true rfl, Nat.le_of_ble_eq_true rfl⟩) hK hA hw [1, 2] (by decide) rfl rfl [none, some 0, some 1, none, none, none, none] rfl (by decide) 1 rfl rfl hl.1 rfl rfl (lv_room (Nat.le_of_ble_eq_true rfl)) ⟨Nat.zero_le _, Nat.zero_le _⟩ dX2_costFrom_34 (fun H locs hw => ?_)
    replace hw : zW D A s H locs (wd_X2_costFrom cI cJ cZ a_this a_this_costs a_this_costs_cells a_this_nexts a_this_nexts_cells a_this_rests a_this_rests_cells a_this_aheads a_this_coming a_this_meanings a_this_doubts a_this_measureOf a_this_times v_this_size v_this_states v_this_total v_this_measures v_this_doubtsAreOld f_this_costs_cells f_this_nexts_cells f_this_rests_cells) := hw
    refine lv_aload_n S.1 S.2.1 dX2_costFrom_37 rfl (lv_at hl 1 rfl) ?_
    refine z_get S (C := RX2) (T := TX2) (N := 14) (gi gu_X2) hK hw 0 rfl rfl 2 (Nat.le_of_ble_eq_true rfl) (List.mem_cons_of_mem _ gw_184) rfl dX2_costFrom_38 ?_
    refine lv_iload_n S.1 S.2.1 dX2_costFrom_41 rfl (lv_at hl 2 rfl) ?_
    refine lv_iconst (v := 1) S.1 S.2.1 dX2_costFrom_42 (by decide) ?_
    refine lv_iadd S.1 S.2.1 dX2_costFrom_43 ?_
    refine lv_bipush (v := 75) S.1 S.2.1 dX2_costFrom_44 (by decide) ?_
    refine lv_imul S.1 S.2.1 dX2_costFrom_46 ?_
    refine lv_iload S.1 S.2.1 dX2_costFrom_47 (lv_at hl 0 rfl) ?_
    refine lv_iadd S.1 S.2.1 dX2_costFrom_49 ?_
    obtain ⟨y3, hc, h⟩ := z_b1_e h
    refine z_callVi (As := [.int (((i1 + 1) * 75) + y1)]) (rest := [.int y2]) S (c_X3_get l D cI cJ cZ a_this_rests a_this_rests_cells 3075 f_this_rests_cells (((i1 + 1) * 75) + y1) _ hc) (cwV 1 S.2.2.2.2 (gw_V gw_572 gw_342 gw_343 gw_53 gw_344) rfl rfl rfl hd_X3_get ⟨Nat.le_of_ble_eq_true rfl, Nat.le_of_ble_eq_true rfl⟩) hK hA hw [5, 6] (by decide) rfl rfl [none, none, none, none, none, some 0, some 1] rfl (by decide) 5 rfl rfl hl.1 rfl rfl (lv_room (Nat.le_of_ble_eq_true rfl)) ⟨Nat.zero_le _, Nat.zero_le _⟩ dX2_costFrom_50 (fun H locs hw => ?_)
    replace hw : zW D A s H locs (wd_X2_costFrom cI cJ cZ a_this a_this_costs a_this_costs_cells a_this_nexts a_this_nexts_cells a_this_rests a_this_rests_cells a_this_aheads a_this_coming a_this_meanings a_this_doubts a_this_measureOf a_this_times v_this_size v_this_states v_this_total v_this_measures v_this_doubtsAreOld f_this_costs_cells f_this_nexts_cells f_this_rests_cells) := hw
    refine lv_iadd S.1 S.2.1 dX2_costFrom_53 ?_
    exact ret (y2 + y3) h 54 ls _ _ dX2_costFrom_54 hw
  · refine lv_ldc (v := 1000000) S.1 S.2.1 S.2.2.2.1 (S.2.2.2.2 _ (List.mem_cons_of_mem _ gw_181)) dX2_costFrom_21 ?_
    exact ret 1000000 h 23 ls _ _ dX2_costFrom_23 hw
theorem gw_568 : Cond.methodLink RX2 136 yX2_costFrom ∈ GW := GW_of 568 (by decide +kernel) (by decide +kernel)
theorem gw_571 : Cond.code yX2_costFrom cX2_costFrom 5 (some .int) ∈ GW := GW_of 571 (by decide +kernel) (by decide +kernel)
theorem gw_570 : Cond.instanceMethod yX2_costFrom ∈ GW := GW_of 570 (by decide +kernel) (by decide +kernel)
theorem gw_19 : Cond.selects RX2 yX2_costFrom yX2_costFrom ∈ GW := GW_of 19 (by decide +kernel) (by decide +kernel)
theorem gw_573 : Cond.methodLink RX2 139 yJ9_min_7cf53 ∈ GW := GW_of 573 (by decide +kernel) (by decide +kernel)
def gs_X2_leastFrom : List Cond := Cond.code yX2_leastFrom cX2_leastFrom 6 (some .int) :: GW
def wd_X2_leastFrom (cI cJ cZ : ClassId) (a_this a_this_costs a_this_costs_cells a_this_nexts a_this_nexts_cells a_this_rests a_this_rests_cells a_this_aheads a_this_coming a_this_meanings a_this_doubts a_this_measureOf a_this_times : Nat) (v_this_size : Int32) (v_this_states : Int32) (v_this_total : Int32) (v_this_measures : Int32) (v_this_doubtsAreOld : Int32) (f_this_costs_cells : Nat → Int32) (f_this_nexts_cells : Nat → Int32) (f_this_rests_cells : Nat → Int32) : va_W := [(a_this, .inr (2, [.ref a_this_costs, .ref a_this_nexts, .ref a_this_rests, .ref a_this_aheads, .ref a_this_coming, .ref a_this_meanings, .ref a_this_doubts, .ref a_this_measureOf, .ref a_this_times, .int v_this_size, .int v_this_states, .int v_this_total, .int v_this_measures, .int v_this_doubtsAreOld])), (a_this_costs, .inr (3, [.ref a_this_costs_cells])), (a_this_costs_cells, .inl (cI, 280, .inl f_this_costs_cells)), (a_this_nexts, .inr (3, [.ref a_this_nexts_cells])), (a_this_nexts_cells, .inl (cI, 525, .inl f_this_nexts_cells)), (a_this_rests, .inr (3, [.ref a_this_rests_cells])), (a_this_rests_cells, .inl (cI, 3075, .inl f_this_rests_cells))]
abbrev rm_X2_leastFrom : Room := { frames := 2, cells := 0, slots := 0, locals := 45 }
theorem hd_X2_leastFrom : yX2_leastFrom.cls = RX2 ∧ yX2_leastFrom.cls ≠ "java/lang/invoke/MethodHandle" ∧ yX2_leastFrom.cls ≠ "java/lang/invoke/VarHandle" ∧ (parseMethodDescriptor yX2_leastFrom.desc).map (fun d => d.parameters.length) = some 3 := by decide +kernel
set_option maxHeartbeats 4000000 in
set_option maxRecDepth 100000 in
theorem c_X2_leastFrom (l : Launch) (D : va_G) (cI cJ cZ : ClassId) (a_this a_this_costs a_this_costs_cells a_this_nexts a_this_nexts_cells a_this_rests a_this_rests_cells a_this_aheads a_this_coming a_this_meanings a_this_doubts a_this_measureOf a_this_times : Nat) (v_this_size : Int32) (v_this_states : Int32) (v_this_total : Int32) (v_this_measures : Int32) (v_this_doubtsAreOld : Int32) (f_this_costs_cells : Nat → Int32) (f_this_nexts_cells : Nat → Int32) (f_this_rests_cells : Nat → Int32) (K : Nat) (i1 : Int32) (i2 : Int32) (i3 : Int32) (o : Int32) (h : p_X2_leastFrom K f_this_costs_cells f_this_nexts_cells f_this_rests_cells i1 i2 i3 = some o) : zMi l D (zT cI cJ cZ) yX2_leastFrom gs_X2_leastFrom rm_X2_leastFrom [.ref a_this, .int i1, .int i2, .int i3] (wd_X2_leastFrom cI cJ cZ a_this a_this_costs a_this_costs_cells a_this_nexts a_this_nexts_cells a_this_rests a_this_rests_cells a_this_aheads a_this_coming a_this_meanings a_this_doubts a_this_measureOf a_this_times v_this_size v_this_states v_this_total v_this_measures v_this_doubtsAreOld f_this_costs_cells f_this_nexts_cells f_this_rests_cells) (wd_X2_leastFrom cI cJ cZ a_this a_this_costs a_this_costs_cells a_this_nexts a_this_nexts_cells a_this_rests a_this_rests_cells a_this_aheads a_this_coming a_this_meanings a_this_doubts a_this_measureOf a_this_times v_this_size v_this_states v_this_total v_this_measures v_this_doubtsAreOld f_this_costs_cells f_this_nexts_cells f_this_rests_cells) (o) := by
  refine zMet_i (own := RX2) (fun u : Int32 => (wd_X2_leastFrom cI cJ cZ a_this a_this_costs a_this_costs_cells a_this_nexts a_this_nexts_cells a_this_rests a_this_rests_cells a_this_aheads a_this_coming a_this_meanings a_this_doubts a_this_measureOf a_this_times v_this_size v_this_states v_this_total v_this_measures v_this_doubtsAreOld f_this_costs_cells f_this_nexts_cells f_this_rests_cells)) (fun u : Int32 => u) (by decide) rfl rfl (Nat.le_of_ble_eq_true rfl) ?_
  intro p e s m args below meth c A Q S hK hA hw ret ls hl
  replace hl : lv_has ls 6 [(0, .ref a_this), (1, .int i1), (2, .int i2), (3, .int i3)] := hl
  refine lv_ldc (v := 1000000) S.1 S.2.1 S.2.2.2.1 (S.2.2.2.2 _ (List.mem_cons_of_mem _ gw_181)) dX2_leastFrom_0 ?_
  refine lv_istore (lv' := [(4, .int 1000000), (0, .ref a_this), (1, .int i1), (2, .int i2), (3, .int i3)]) S.1 S.2.1 dX2_leastFrom_2 hl (by decide) rfl (fun ls hl => ?_)
  refine lv_iconst (v := 0) S.1 S.2.1 dX2_leastFrom_4 (by decide) ?_
  refine lv_istore (lv' := [(5, .int 0), (4, .int 1000000), (0, .ref a_this), (1, .int i1), (2, .int i2), (3, .int i3)]) S.1 S.2.1 dX2_leastFrom_5 hl (by decide) rfl (fun ls hl => ?_)
  have L_7 : ∀ (n7_2 : Nat) (x1 : Int32) (x2 : Int32) (h : z_lp2 (p_X2_leastFrom_l7 i3 f_this_costs_cells f_this_nexts_cells f_this_rests_cells i1 i2) n7_2 x1 x2 = some o) (H : Heap) (locs : List Loc) (ls : Array Slot), zW D A s H locs (wd_X2_leastFrom cI cJ cZ a_this a_this_costs a_this_costs_cells a_this_nexts a_this_nexts_cells a_this_rests a_this_rests_cells a_this_aheads a_this_coming a_this_meanings a_this_doubts a_this_measureOf a_this_times v_this_size v_this_states v_this_total v_this_measures v_this_doubtsAreOld f_this_costs_cells f_this_nexts_cells f_this_rests_cells) → lv_has ls 6 [(0, .ref a_this), (1, .int i1), (2, .int i2), (3, .int i3), (4, .int x1), (5, .int x2)] → W p l e (headSpec gs_X2_leastFrom rm_X2_leastFrom).room s m args below meth c H locs 0 0 Q (F0 m 7 ls []) := by
    intro n7_2
    induction n7_2 with
    | zero => intro x1 x2 h; exact z_no h
    | succ n7_2 ih_7 =>
      intro x1 x2 h H locs ls hw hl
      replace h : (p_X2_leastFrom_l7 i3 f_this_costs_cells f_this_nexts_cells f_this_rests_cells i1 i2) (z_lp2 (p_X2_leastFrom_l7 i3 f_this_costs_cells f_this_nexts_cells f_this_rests_cells i1 i2) n7_2) x1 x2 = some o := h
      refine lv_iload S.1 S.2.1 dX2_leastFrom_7 (lv_at hl 5 rfl) ?_
      refine lv_bipush (v := 7) S.1 S.2.1 dX2_leastFrom_9 (by decide) ?_
      refine z_icmp_ge S (tgt := 41) h dX2_leastFrom_11 (by decide) (fun h => ?_) (fun h => ?_)
      · refine lv_iload S.1 S.2.1 dX2_leastFrom_41 (lv_at hl 4 rfl) ?_
        exact ret x1 h 43 ls _ _ dX2_leastFrom_43 hw
      · refine lv_iload S.1 S.2.1 dX2_leastFrom_14 (lv_at hl 5 rfl) ?_
        refine lv_iload_n S.1 S.2.1 dX2_leastFrom_16 rfl (lv_at hl 3 rfl) ?_
        refine z_icmp_eq S (tgt := 35) h dX2_leastFrom_17 (by decide) (fun h => ?_) (fun h => ?_)
        · refine z_iinc S (i := 5) (k := 5) (v := x2 + 1) hl rfl (by decide) rfl (fun v => (5, .int v) :: [(0, .ref a_this), (1, .int i1), (2, .int i2), (3, .int i3), (4, .int x1)]) (fun _ => rfl) h dX2_leastFrom_35 (fun y3 ls hl h => ?_)
          replace hl : lv_has ls 6 [(5, .int y3), (0, .ref a_this), (1, .int i1), (2, .int i2), (3, .int i3), (4, .int x1)] := hl
          refine lv_goto (tgt := 7) S.1 S.2.1 dX2_leastFrom_38 (by decide) ?_
          exact ih_7 x1 y3 h _ _ ls hw (lv_sub hl [1, 2, 3, 4, 5, 0] rfl)
        · refine lv_iload S.1 S.2.1 dX2_leastFrom_20 (lv_at hl 4 rfl) ?_
          refine lv_aload_n S.1 S.2.1 dX2_leastFrom_22 rfl (lv_at hl 0 rfl) ?_
          refine lv_iload_n S.1 S.2.1 dX2_leastFrom_23 rfl (lv_at hl 1 rfl) ?_
          refine lv_iload_n S.1 S.2.1 dX2_leastFrom_24 rfl (lv_at hl 2 rfl) ?_
          refine lv_iload S.1 S.2.1 dX2_leastFrom_25 (lv_at hl 5 rfl) ?_
          obtain ⟨y4, hc, h⟩ := z_b1_e h
          refine z_callVi (As := [.int i1, .int i2, .int x2]) (rest := [.int x1]) S (c_X2_costFrom l D cI cJ cZ a_this a_this_costs a_this_costs_cells a_this_nexts a_this_nexts_cells a_this_rests a_this_rests_cells a_this_aheads a_this_coming a_this_meanings a_this_doubts a_this_measureOf a_this_times v_this_size v_this_states v_this_total v_this_measures v_this_doubtsAreOld f_this_costs_cells f_this_nexts_cells f_this_rests_cells i1 i2 x2 _ hc) (cwV 3 S.2.2.2.2 (gw_V gw_568 gw_570 gw_19 gw_56 gw_571) rfl rfl rfl hd_X2_costFrom ⟨Nat.le_of_ble_eq_true rfl, Nat.le_of_ble_eq_true rfl⟩) hK hA hw [0, 1, 2, 3, 4, 5, 6] (by decide) rfl rfl [some 0, some 1, some 2, some 3, some 4, some 5, some 6] rfl (by decide) 0 rfl rfl hl.1 rfl rfl (lv_room (Nat.le_of_ble_eq_true rfl)) ⟨Nat.zero_le _, Nat.zero_le _⟩ dX2_leastFrom_27 (fun H locs hw => ?_)
          replace hw : zW D A s H locs (wd_X2_leastFrom cI cJ cZ a_this a_this_costs a_this_costs_cells a_this_nexts a_this_nexts_cells a_this_rests a_this_rests_cells a_this_aheads a_this_coming a_this_meanings a_this_doubts a_this_measureOf a_this_times v_this_size v_this_states v_this_total v_this_measures v_this_doubtsAreOld f_this_costs_cells f_this_nexts_cells f_this_rests_cells) := hw
          obtain ⟨y5, hc, h⟩ := z_b1_e h
          refine z_callSi (As := [.int x1, .int y4]) (rest := []) S (c_J9_min_7cf53 l D cI cJ cZ x1 y4 _ hc) (va_cwS 2 S.2.2.2.2 (gw_S gw_573 gw_346 gw_60 gw_347) rfl rfl rfl hd_J9_min_7cf53 ⟨Nat.le_of_ble_eq_true rfl, Nat.le_of_ble_eq_true rfl⟩) hK hA hw [] (by decide) rfl rfl [none, none, none, none, none, none, none] rfl (by decide) hl.1 rfl rfl (lv_room (Nat.le_of_ble_eq_true rfl)) ⟨Nat.zero_le _, Nat.zero_le _⟩ dX2_leastFrom_30 (fun H locs hw => ?_)
          replace hw : zW D A s H locs (wd_X2_leastFrom cI cJ cZ a_this a_this_costs a_this_costs_cells a_this_nexts a_this_nexts_cells a_this_rests a_this_rests_cells a_this_aheads a_this_coming a_this_meanings a_this_doubts a_this_measureOf a_this_times v_this_size v_this_states v_this_total v_this_measures v_this_doubtsAreOld f_this_costs_cells f_this_nexts_cells f_this_rests_cells) := hw
          refine lv_istore (lv' := [(4, .int y5), (0, .ref a_this), (1, .int i1), (2, .int i2), (3, .int i3), (5, .int x2)]) S.1 S.2.1 dX2_leastFrom_33 hl (by decide) rfl (fun ls hl => ?_)
          refine z_iinc S (i := 5) (k := 5) (v := x2 + 1) hl rfl (by decide) rfl (fun v => (5, .int v) :: [(4, .int y5), (0, .ref a_this), (1, .int i1), (2, .int i2), (3, .int i3)]) (fun _ => rfl) h dX2_leastFrom_35 (fun y6 ls hl h => ?_)
          replace hl : lv_has ls 6 [(5, .int y6), (4, .int y5), (0, .ref a_this), (1, .int i1), (2, .int i2), (3, .int i3)] := hl
          refine lv_goto (tgt := 7) S.1 S.2.1 dX2_leastFrom_38 (by decide) ?_
          exact ih_7 y5 y6 h _ _ ls hw (lv_sub hl [2, 3, 4, 5, 1, 0] rfl)
  exact L_7 K 1000000 0 h _ _ ls hw (lv_sub hl [2, 3, 4, 5, 1, 0] rfl)
theorem gw_564 : Cond.methodLink RX2 133 yX2_leastFrom ∈ GW := GW_of 564 (by decide +kernel) (by decide +kernel)
theorem gw_567 : Cond.code yX2_leastFrom cX2_leastFrom 6 (some .int) ∈ GW := GW_of 567 (by decide +kernel) (by decide +kernel)
theorem gw_566 : Cond.instanceMethod yX2_leastFrom ∈ GW := GW_of 566 (by decide +kernel) (by decide +kernel)
theorem gw_18 : Cond.selects RX2 yX2_leastFrom yX2_leastFrom ∈ GW := GW_of 18 (by decide +kernel) (by decide +kernel)
def gs_X2_workRests : List Cond := Cond.code yX2_workRests cX2_workRests 4 none :: GW
def wd_X2_workRests (cI cJ cZ : ClassId) (a_this a_this_costs a_this_costs_cells a_this_nexts a_this_nexts_cells a_this_rests a_this_rests_cells a_this_aheads a_this_coming a_this_meanings a_this_doubts a_this_measureOf a_this_times : Nat) (v_this_size : Int32) (v_this_states : Int32) (v_this_total : Int32) (v_this_measures : Int32) (v_this_doubtsAreOld : Int32) (f_this_costs_cells : Nat → Int32) (f_this_nexts_cells : Nat → Int32) (f_this_rests_cells : Nat → Int32) : va_W := [(a_this, .inr (2, [.ref a_this_costs, .ref a_this_nexts, .ref a_this_rests, .ref a_this_aheads, .ref a_this_coming, .ref a_this_meanings, .ref a_this_doubts, .ref a_this_measureOf, .ref a_this_times, .int v_this_size, .int v_this_states, .int v_this_total, .int v_this_measures, .int v_this_doubtsAreOld])), (a_this_costs, .inr (3, [.ref a_this_costs_cells])), (a_this_costs_cells, .inl (cI, 280, .inl f_this_costs_cells)), (a_this_nexts, .inr (3, [.ref a_this_nexts_cells])), (a_this_nexts_cells, .inl (cI, 525, .inl f_this_nexts_cells)), (a_this_rests, .inr (3, [.ref a_this_rests_cells])), (a_this_rests_cells, .inl (cI, 3075, .inl f_this_rests_cells))]
abbrev rm_X2_workRests : Room := { frames := 3, cells := 0, slots := 0, locals := 70 }
theorem hd_X2_workRests : yX2_workRests.cls = RX2 ∧ yX2_workRests.cls ≠ "java/lang/invoke/MethodHandle" ∧ yX2_workRests.cls ≠ "java/lang/invoke/VarHandle" ∧ (parseMethodDescriptor yX2_workRests.desc).map (fun d => d.parameters.length) = some 1 := by decide +kernel
set_option maxHeartbeats 4000000 in
set_option maxRecDepth 100000 in
theorem c_X2_workRests (l : Launch) (D : va_G) (cI cJ cZ : ClassId) (a_this a_this_costs a_this_costs_cells a_this_nexts a_this_nexts_cells a_this_rests a_this_rests_cells a_this_aheads a_this_coming a_this_meanings a_this_doubts a_this_measureOf a_this_times : Nat) (v_this_size : Int32) (v_this_states : Int32) (v_this_total : Int32) (v_this_measures : Int32) (v_this_doubtsAreOld : Int32) (f_this_costs_cells : Nat → Int32) (f_this_nexts_cells : Nat → Int32) (f_this_rests_cells : Nat → Int32) (K : Nat) (i1 : Int32) (o : (Nat → Int32)) (h : p_X2_workRests K v_this_size v_this_states f_this_costs_cells f_this_nexts_cells f_this_rests_cells i1 = some o) : zMv l D (zT cI cJ cZ) yX2_workRests gs_X2_workRests rm_X2_workRests [.ref a_this, .int i1] (wd_X2_workRests cI cJ cZ a_this a_this_costs a_this_costs_cells a_this_nexts a_this_nexts_cells a_this_rests a_this_rests_cells a_this_aheads a_this_coming a_this_meanings a_this_doubts a_this_measureOf a_this_times v_this_size v_this_states v_this_total v_this_measures v_this_doubtsAreOld f_this_costs_cells f_this_nexts_cells f_this_rests_cells) (wd_X2_workRests cI cJ cZ a_this a_this_costs a_this_costs_cells a_this_nexts a_this_nexts_cells a_this_rests a_this_rests_cells a_this_aheads a_this_coming a_this_meanings a_this_doubts a_this_measureOf a_this_times v_this_size v_this_states v_this_total v_this_measures v_this_doubtsAreOld f_this_costs_cells f_this_nexts_cells o) := by
  refine zMet_v (own := RX2) (fun u : (Nat → Int32) => (wd_X2_workRests cI cJ cZ a_this a_this_costs a_this_costs_cells a_this_nexts a_this_nexts_cells a_this_rests a_this_rests_cells a_this_aheads a_this_coming a_this_meanings a_this_doubts a_this_measureOf a_this_times v_this_size v_this_states v_this_total v_this_measures v_this_doubtsAreOld f_this_costs_cells f_this_nexts_cells u)) (by decide) rfl rfl (Nat.le_of_ble_eq_true rfl) ?_
  intro p e s m args below meth c A Q S hK hA hw ret ls hl
  replace hl : lv_has ls 4 [(0, .ref a_this), (1, .int i1)] := hl
  refine lv_iconst (v := 0) S.1 S.2.1 dX2_workRests_0 (by decide) ?_
  refine lv_istore_n (lv' := [(2, .int 0), (0, .ref a_this), (1, .int i1)]) S.1 S.2.1 dX2_workRests_1 rfl hl (by decide) rfl (fun ls hl => ?_)
  have J_49 : ∀ (f1 : Nat → Int32) (h : (p_X2_workRests_j49 v_this_size v_this_states K f_this_costs_cells f_this_nexts_cells) f1 = some o) (H : Heap) (locs : List Loc) (ls : Array Slot), zW D A s H locs (wd_X2_workRests cI cJ cZ a_this a_this_costs a_this_costs_cells a_this_nexts a_this_nexts_cells a_this_rests a_this_rests_cells a_this_aheads a_this_coming a_this_meanings a_this_doubts a_this_measureOf a_this_times v_this_size v_this_states v_this_total v_this_measures v_this_doubtsAreOld f_this_costs_cells f_this_nexts_cells f1) → lv_has ls 4 [(0, .ref a_this)] → W p l e (headSpec gs_X2_workRests rm_X2_workRests).room s m args below meth c H locs 0 0 Q (F0 m 49 ls []) := by
    intro f1 h H locs ls hw hl
    refine lv_aload_n S.1 S.2.1 dX2_workRests_49 rfl (lv_at hl 0 rfl) ?_
    refine z_get S (C := RX2) (T := TX2) (N := 14) (gi gu_X2) hK hw 0 rfl rfl 9 (Nat.le_of_ble_eq_true rfl) (List.mem_cons_of_mem _ gw_191) rfl dX2_workRests_50 ?_
    refine lv_iconst (v := 1) S.1 S.2.1 dX2_workRests_53 (by decide) ?_
    refine lv_isub S.1 S.2.1 dX2_workRests_54 ?_
    refine z_leti h (fun y2 h => ?_)
    refine lv_istore_n (lv' := [(2, .int y2), (0, .ref a_this)]) S.1 S.2.1 dX2_workRests_55 rfl hl (by decide) rfl (fun ls hl => ?_)
    have L_56 : ∀ (n56_4 : Nat) (f3 : Nat → Int32) (x4 : Int32) (h : z_lp2 (p_X2_workRests_l56 v_this_states K f_this_costs_cells f_this_nexts_cells) n56_4 f3 x4 = some o) (H : Heap) (locs : List Loc) (ls : Array Slot), zW D A s H locs (wd_X2_workRests cI cJ cZ a_this a_this_costs a_this_costs_cells a_this_nexts a_this_nexts_cells a_this_rests a_this_rests_cells a_this_aheads a_this_coming a_this_meanings a_this_doubts a_this_measureOf a_this_times v_this_size v_this_states v_this_total v_this_measures v_this_doubtsAreOld f_this_costs_cells f_this_nexts_cells f3) → lv_has ls 4 [(0, .ref a_this), (2, .int x4)] → W p l e (headSpec gs_X2_workRests rm_X2_workRests).room s m args below meth c H locs 0 0 Q (F0 m 56 ls []) := by
      intro n56_4
      induction n56_4 with
      | zero => intro f3 x4 h; exact z_no h
      | succ n56_4 ih_56 =>
        intro f3 x4 h H locs ls hw hl
        replace h : (p_X2_workRests_l56 v_this_states K f_this_costs_cells f_this_nexts_cells) (z_lp2 (p_X2_workRests_l56 v_this_states K f_this_costs_cells f_this_nexts_cells) n56_4) f3 x4 = some o := h
        refine lv_iload_n S.1 S.2.1 dX2_workRests_56 rfl (lv_at hl 1 rfl) ?_
        refine z_if_lt S (tgt := 102) h dX2_workRests_57 (by decide) (fun h => ?_) (fun h => ?_)
        · exact ret f3 h 102 ls _ _ dX2_workRests_102 hw
        · refine lv_iconst (v := 0) S.1 S.2.1 dX2_workRests_60 (by decide) ?_
          refine lv_istore_n (lv' := [(3, .int 0), (0, .ref a_this), (2, .int x4)]) S.1 S.2.1 dX2_workRests_61 rfl hl (by decide) rfl (fun ls hl => ?_)
          have L_62 : ∀ (n62_6 : Nat) (f5 : Nat → Int32) (x6 : Int32) (h : z_lp2 (p_X2_workRests_l62 v_this_states x4 K f_this_costs_cells f_this_nexts_cells (z_lp2 (p_X2_workRests_l56 v_this_states K f_this_costs_cells f_this_nexts_cells) n56_4)) n62_6 f5 x6 = some o) (H : Heap) (locs : List Loc) (ls : Array Slot), zW D A s H locs (wd_X2_workRests cI cJ cZ a_this a_this_costs a_this_costs_cells a_this_nexts a_this_nexts_cells a_this_rests a_this_rests_cells a_this_aheads a_this_coming a_this_meanings a_this_doubts a_this_measureOf a_this_times v_this_size v_this_states v_this_total v_this_measures v_this_doubtsAreOld f_this_costs_cells f_this_nexts_cells f5) → lv_has ls 4 [(0, .ref a_this), (2, .int x4), (3, .int x6)] → W p l e (headSpec gs_X2_workRests rm_X2_workRests).room s m args below meth c H locs 0 0 Q (F0 m 62 ls []) := by
            intro n62_6
            induction n62_6 with
            | zero => intro f5 x6 h; exact z_no h
            | succ n62_6 ih_62 =>
              intro f5 x6 h H locs ls hw hl
              replace h : (p_X2_workRests_l62 v_this_states x4 K f_this_costs_cells f_this_nexts_cells (z_lp2 (p_X2_workRests_l56 v_this_states K f_this_costs_cells f_this_nexts_cells) n56_4)) (z_lp2 (p_X2_workRests_l62 v_this_states x4 K f_this_costs_cells f_this_nexts_cells (z_lp2 (p_X2_workRests_l56 v_this_states K f_this_costs_cells f_this_nexts_cells) n56_4)) n62_6) f5 x6 = some o := h
              refine lv_iload_n S.1 S.2.1 dX2_workRests_62 rfl (lv_at hl 2 rfl) ?_
              refine lv_aload_n S.1 S.2.1 dX2_workRests_63 rfl (lv_at hl 0 rfl) ?_
              refine z_get S (C := RX2) (T := TX2) (N := 14) (gi gu_X2) hK hw 0 rfl rfl 10 (Nat.le_of_ble_eq_true rfl) (List.mem_cons_of_mem _ gw_192) rfl dX2_workRests_64 ?_
              refine z_icmp_ge S (tgt := 96) h dX2_workRests_67 (by decide) (fun h => ?_) (fun h => ?_)
              · refine z_iinc S (i := 2) (k := 1) (v := x4 + (-1)) hl rfl (by decide) (congrArg (fun w => x4 + w) (by decide : Int32.ofInt (-1) = (-1 : Int32))) (fun v => (2, .int v) :: [(0, .ref a_this), (3, .int x6)]) (fun _ => rfl) h dX2_workRests_96 (fun y7 ls hl h => ?_)
                replace hl : lv_has ls 4 [(2, .int y7), (0, .ref a_this), (3, .int x6)] := hl
                refine lv_goto (tgt := 56) S.1 S.2.1 dX2_workRests_99 (by decide) ?_
                exact ih_56 f5 y7 h _ _ ls hw (lv_sub hl [1, 0] rfl)
              · refine lv_aload_n S.1 S.2.1 dX2_workRests_70 rfl (lv_at hl 0 rfl) ?_
                refine z_get S (C := RX2) (T := TX2) (N := 14) (gi gu_X2) hK hw 0 rfl rfl 2 (Nat.le_of_ble_eq_true rfl) (List.mem_cons_of_mem _ gw_184) rfl dX2_workRests_71 ?_
                refine lv_iload_n S.1 S.2.1 dX2_workRests_74 rfl (lv_at hl 1 rfl) ?_
                refine lv_bipush (v := 75) S.1 S.2.1 dX2_workRests_75 (by decide) ?_
                refine lv_imul S.1 S.2.1 dX2_workRests_77 ?_
                refine lv_iload_n S.1 S.2.1 dX2_workRests_78 rfl (lv_at hl 2 rfl) ?_
                refine lv_iadd S.1 S.2.1 dX2_workRests_79 ?_
                refine lv_aload_n S.1 S.2.1 dX2_workRests_80 rfl (lv_at hl 0 rfl) ?_
                refine lv_iload_n S.1 S.2.1 dX2_workRests_81 rfl (lv_at hl 1 rfl) ?_
                refine lv_iload_n S.1 S.2.1 dX2_workRests_82 rfl (lv_at hl 2 rfl) ?_
                refine lv_iconst (v := (-1)) S.1 S.2.1 dX2_workRests_83 (by decide) ?_
                obtain ⟨y8, hc, h⟩ := z_b1_e h
                refine z_callVi (As := [.int x4, .int x6, .int (-1)]) (rest := [.int ((x4 * 75) + x6), .ref a_this_rests]) S (c_X2_leastFrom l D cI cJ cZ a_this a_this_costs a_this_costs_cells a_this_nexts a_this_nexts_cells a_this_rests a_this_rests_cells a_this_aheads a_this_coming a_this_meanings a_this_doubts a_this_measureOf a_this_times v_this_size v_this_states v_this_total v_this_measures v_this_doubtsAreOld f_this_costs_cells f_this_nexts_cells f5 K x4 x6 (-1) _ hc) (cwV 3 S.2.2.2.2 (gw_V gw_564 gw_566 gw_18 gw_56 gw_567) rfl rfl rfl hd_X2_leastFrom ⟨Nat.le_of_ble_eq_true rfl, Nat.le_of_ble_eq_true rfl⟩) hK hA hw [0, 1, 2, 3, 4, 5, 6] (by decide) rfl rfl [some 0, some 1, some 2, some 3, some 4, some 5, some 6] rfl (by decide) 0 rfl rfl hl.1 rfl rfl (lv_room (Nat.le_of_ble_eq_true rfl)) ⟨Nat.zero_le _, Nat.zero_le _⟩ dX2_workRests_84 (fun H locs hw => ?_)
                replace hw : zW D A s H locs (wd_X2_workRests cI cJ cZ a_this a_this_costs a_this_costs_cells a_this_nexts a_this_nexts_cells a_this_rests a_this_rests_cells a_this_aheads a_this_coming a_this_meanings a_this_doubts a_this_measureOf a_this_times v_this_size v_this_states v_this_total v_this_measures v_this_doubtsAreOld f_this_costs_cells f_this_nexts_cells f5) := hw
                obtain ⟨f9, hc, h⟩ := z_b1_e h
                refine z_callVv (As := [.int ((x4 * 75) + x6), .int y8]) (rest := []) S (c_X3_put l D cI cJ cZ a_this_rests a_this_rests_cells 3075 f5 ((x4 * 75) + x6) y8 _ hc) (cwV 2 S.2.2.2.2 (gw_V gw_533 gw_326 gw_327 gw_53 gw_328) rfl rfl rfl hd_X3_put ⟨Nat.le_of_ble_eq_true rfl, Nat.le_of_ble_eq_true rfl⟩) hK hA hw [5, 6] (by decide) rfl rfl [none, none, none, none, none, some 0, some 1] rfl (by decide) 5 rfl rfl hl.1 rfl rfl (lv_room (Nat.le_of_ble_eq_true rfl)) ⟨Nat.zero_le _, Nat.zero_le _⟩ dX2_workRests_87 (fun H locs hw => ?_)
                replace hw : zW D A s H locs (wd_X2_workRests cI cJ cZ a_this a_this_costs a_this_costs_cells a_this_nexts a_this_nexts_cells a_this_rests a_this_rests_cells a_this_aheads a_this_coming a_this_meanings a_this_doubts a_this_measureOf a_this_times v_this_size v_this_states v_this_total v_this_measures v_this_doubtsAreOld f_this_costs_cells f_this_nexts_cells f9) := hw
                refine z_iinc S (i := 3) (k := 2) (v := x6 + 1) hl rfl (by decide) rfl (fun v => (3, .int v) :: [(0, .ref a_this), (2, .int x4)]) (fun _ => rfl) h dX2_workRests_90 (fun y10 ls hl h => ?_)
                replace hl : lv_has ls 4 [(3, .int y10), (0, .ref a_this), (2, .int x4)] := hl
                refine lv_goto (tgt := 62) S.1 S.2.1 dX2_workRests_93 (by decide) ?_
                exact ih_62 f9 y10 h _ _ ls hw (lv_sub hl [1, 2, 0] rfl)
          exact L_62 K f3 0 h _ _ ls hw (lv_sub hl [1, 2, 0] rfl)
    exact L_56 K f1 y2 h _ _ ls hw (lv_sub hl [1, 0] rfl)
  have L_2 : ∀ (n2_12 : Nat) (f11 : Nat → Int32) (x12 : Int32) (h : z_lp2 (p_X2_workRests_l2 v_this_states i1 v_this_size (p_X2_workRests_j49 v_this_size v_this_states K f_this_costs_cells f_this_nexts_cells)) n2_12 f11 x12 = some o) (H : Heap) (locs : List Loc) (ls : Array Slot), zW D A s H locs (wd_X2_workRests cI cJ cZ a_this a_this_costs a_this_costs_cells a_this_nexts a_this_nexts_cells a_this_rests a_this_rests_cells a_this_aheads a_this_coming a_this_meanings a_this_doubts a_this_measureOf a_this_times v_this_size v_this_states v_this_total v_this_measures v_this_doubtsAreOld f_this_costs_cells f_this_nexts_cells f11) → lv_has ls 4 [(0, .ref a_this), (1, .int i1), (2, .int x12)] → W p l e (headSpec gs_X2_workRests rm_X2_workRests).room s m args below meth c H locs 0 0 Q (F0 m 2 ls []) := by
    intro n2_12
    induction n2_12 with
    | zero => intro f11 x12 h; exact z_no h
    | succ n2_12 ih_2 =>
      intro f11 x12 h H locs ls hw hl
      replace h : (p_X2_workRests_l2 v_this_states i1 v_this_size (p_X2_workRests_j49 v_this_size v_this_states K f_this_costs_cells f_this_nexts_cells)) (z_lp2 (p_X2_workRests_l2 v_this_states i1 v_this_size (p_X2_workRests_j49 v_this_size v_this_states K f_this_costs_cells f_this_nexts_cells)) n2_12) f11 x12 = some o := h
      refine lv_iload_n S.1 S.2.1 dX2_workRests_2 rfl (lv_at hl 2 rfl) ?_
      refine lv_aload_n S.1 S.2.1 dX2_workRests_3 rfl (lv_at hl 0 rfl) ?_
      refine z_get S (C := RX2) (T := TX2) (N := 14) (gi gu_X2) hK hw 0 rfl rfl 10 (Nat.le_of_ble_eq_true rfl) (List.mem_cons_of_mem _ gw_192) rfl dX2_workRests_4 ?_
      refine z_icmp_ge S (tgt := 49) h dX2_workRests_7 (by decide) (fun h => ?_) (fun h => ?_)
      · exact J_49 f11 h _ _ ls hw (lv_sub hl [0] rfl)
      · refine lv_aload_n S.1 S.2.1 dX2_workRests_10 rfl (lv_at hl 0 rfl) ?_
        refine z_get S (C := RX2) (T := TX2) (N := 14) (gi gu_X2) hK hw 0 rfl rfl 2 (Nat.le_of_ble_eq_true rfl) (List.mem_cons_of_mem _ gw_184) rfl dX2_workRests_11 ?_
        refine lv_aload_n S.1 S.2.1 dX2_workRests_14 rfl (lv_at hl 0 rfl) ?_
        refine z_get S (C := RX2) (T := TX2) (N := 14) (gi gu_X2) hK hw 0 rfl rfl 9 (Nat.le_of_ble_eq_true rfl) (List.mem_cons_of_mem _ gw_191) rfl dX2_workRests_15 ?_
        refine lv_bipush (v := 75) S.1 S.2.1 dX2_workRests_18 (by decide) ?_
        refine lv_imul S.1 S.2.1 dX2_workRests_20 ?_
        refine lv_iload_n S.1 S.2.1 dX2_workRests_21 rfl (lv_at hl 2 rfl) ?_
        refine lv_iadd S.1 S.2.1 dX2_workRests_22 ?_
        refine lv_iload_n S.1 S.2.1 dX2_workRests_23 rfl (lv_at hl 2 rfl) ?_
        obtain ⟨y13, hc, h⟩ := z_b1_e h
        refine z_callSi (As := [.int x12]) (rest := [.int ((v_this_size * 75) + x12), .ref a_this_rests]) S (c_X2_timeOf l D cI cJ cZ x12 _ hc) (va_cwS 1 S.2.2.2.2 (gw_S gw_545 gw_546 gw_56 gw_547) rfl rfl rfl hd_X2_timeOf ⟨Nat.le_of_ble_eq_true rfl, Nat.le_of_ble_eq_true rfl⟩) hK hA hw [] (by decide) rfl rfl [none, none, none, none, none, none, none] rfl (by decide) hl.1 rfl rfl (lv_room (Nat.le_of_ble_eq_true rfl)) ⟨Nat.zero_le _, Nat.zero_le _⟩ dX2_workRests_24 (fun H locs hw => ?_)
        replace hw : zW D A s H locs (wd_X2_workRests cI cJ cZ a_this a_this_costs a_this_costs_cells a_this_nexts a_this_nexts_cells a_this_rests a_this_rests_cells a_this_aheads a_this_coming a_this_meanings a_this_doubts a_this_measureOf a_this_times v_this_size v_this_states v_this_total v_this_measures v_this_doubtsAreOld f_this_costs_cells f_this_nexts_cells f11) := hw
        refine lv_iload_n S.1 S.2.1 dX2_workRests_27 rfl (lv_at hl 1 rfl) ?_
        obtain ⟨y14, hc, h⟩ := z_b1_e h
        refine z_callSi (As := [.int y13, .int i1]) (rest := [.int ((v_this_size * 75) + x12), .ref a_this_rests]) S (c_X2_mayEnd l D cI cJ cZ y13 i1 _ hc) (va_cwS 2 S.2.2.2.2 (gw_S gw_557 gw_558 gw_56 gw_559) rfl rfl rfl hd_X2_mayEnd ⟨Nat.le_of_ble_eq_true rfl, Nat.le_of_ble_eq_true rfl⟩) hK hA hw [] (by decide) rfl rfl [none, none, none, none, none, none, none] rfl (by decide) hl.1 rfl rfl (lv_room (Nat.le_of_ble_eq_true rfl)) ⟨Nat.zero_le _, Nat.zero_le _⟩ dX2_workRests_28 (fun H locs hw => ?_)
        replace hw : zW D A s H locs (wd_X2_workRests cI cJ cZ a_this a_this_costs a_this_costs_cells a_this_nexts a_this_nexts_cells a_this_rests a_this_rests_cells a_this_aheads a_this_coming a_this_meanings a_this_doubts a_this_measureOf a_this_times v_this_size v_this_states v_this_total v_this_measures v_this_doubtsAreOld f_this_costs_cells f_this_nexts_cells f11) := hw
        have J_40 : ∀ (z15 : Int32) (h : (p_X2_workRests_j40 f11 v_this_size x12 (z_lp2 (p_X2_workRests_l2 v_this_states i1 v_this_size (p_X2_workRests_j49 v_this_size v_this_states K f_this_costs_cells f_this_nexts_cells)) n2_12)) z15 = some o) (H : Heap) (locs : List Loc) (ls : Array Slot), zW D A s H locs (wd_X2_workRests cI cJ cZ a_this a_this_costs a_this_costs_cells a_this_nexts a_this_nexts_cells a_this_rests a_this_rests_cells a_this_aheads a_this_coming a_this_meanings a_this_doubts a_this_measureOf a_this_times v_this_size v_this_states v_this_total v_this_measures v_this_doubtsAreOld f_this_costs_cells f_this_nexts_cells f11) → lv_has ls 4 [(0, .ref a_this), (1, .int i1), (2, .int x12)] → W p l e (headSpec gs_X2_workRests rm_X2_workRests).room s m args below meth c H locs 0 0 Q (F0 m 40 ls [.int z15, .int ((v_this_size * 75) + x12), .ref a_this_rests]) := by
          intro z15 h H locs ls hw hl
          obtain ⟨f16, hc, h⟩ := z_b1_e h
          refine z_callVv (As := [.int ((v_this_size * 75) + x12), .int z15]) (rest := []) S (c_X3_put l D cI cJ cZ a_this_rests a_this_rests_cells 3075 f11 ((v_this_size * 75) + x12) z15 _ hc) (cwV 2 S.2.2.2.2 (gw_V gw_533 gw_326 gw_327 gw_53 gw_328) rfl rfl rfl hd_X3_put ⟨Nat.le_of_ble_eq_true rfl, Nat.le_of_ble_eq_true rfl⟩) hK hA hw [5, 6] (by decide) rfl rfl [none, none, none, none, none, some 0, some 1] rfl (by decide) 5 rfl rfl hl.1 rfl rfl (lv_room (Nat.le_of_ble_eq_true rfl)) ⟨Nat.zero_le _, Nat.zero_le _⟩ dX2_workRests_40 (fun H locs hw => ?_)
          replace hw : zW D A s H locs (wd_X2_workRests cI cJ cZ a_this a_this_costs a_this_costs_cells a_this_nexts a_this_nexts_cells a_this_rests a_this_rests_cells a_this_aheads a_this_coming a_this_meanings a_this_doubts a_this_measureOf a_this_times v_this_size v_this_states v_this_total v_this_measures v_this_doubtsAreOld f_this_costs_cells f_this_nexts_cells f16) := hw
          refine z_iinc S (i := 2) (k := 2) (v := x12 + 1) hl rfl (by decide) rfl (fun v => (2, .int v) :: [(0, .ref a_this), (1, .int i1)]) (fun _ => rfl) h dX2_workRests_43 (fun y17 ls hl h => ?_)
          replace hl : lv_has ls 4 [(2, .int y17), (0, .ref a_this), (1, .int i1)] := hl
          refine lv_goto (tgt := 2) S.1 S.2.1 dX2_workRests_46 (by decide) ?_
          exact ih_2 f16 y17 h _ _ ls hw (lv_sub hl [1, 2, 0] rfl)
        refine z_if_eq S (tgt := 38) h dX2_workRests_31 (by decide) (fun h => ?_) (fun h => ?_)
        · refine lv_ldc (v := 1000000) S.1 S.2.1 S.2.2.2.1 (S.2.2.2.2 _ (List.mem_cons_of_mem _ gw_181)) dX2_workRests_38 ?_
          exact J_40 1000000 h _ _ ls hw (lv_sub hl [0, 1, 2] rfl)
        · refine lv_iconst (v := 0) S.1 S.2.1 dX2_workRests_34 (by decide) ?_
          refine lv_goto (tgt := 40) S.1 S.2.1 dX2_workRests_35 (by decide) ?_
          exact J_40 0 h _ _ ls hw (lv_sub hl [0, 1, 2] rfl)
  exact L_2 K f_this_rests_cells 0 h _ _ ls hw (lv_sub hl [1, 2, 0] rfl)
theorem gw_193 : Cond.fieldLink RX2 52 "ScoreReader$Reading" "total" "I" ∈ GW := GW_of 193 (by decide +kernel) (by decide +kernel)
def gs_X2_stands : List Cond := Cond.code yX2_stands cX2_stands 1 (some .boolean) :: GW
def wd_X2_stands (cI cJ cZ : ClassId) (a_this a_this_costs a_this_nexts a_this_rests a_this_aheads a_this_coming a_this_meanings a_this_doubts a_this_measureOf a_this_times : Nat) (v_this_size : Int32) (v_this_states : Int32) (v_this_total : Int32) (v_this_measures : Int32) (v_this_doubtsAreOld : Int32) : va_W := [(a_this, .inr (2, [.ref a_this_costs, .ref a_this_nexts, .ref a_this_rests, .ref a_this_aheads, .ref a_this_coming, .ref a_this_meanings, .ref a_this_doubts, .ref a_this_measureOf, .ref a_this_times, .int v_this_size, .int v_this_states, .int v_this_total, .int v_this_measures, .int v_this_doubtsAreOld]))]
abbrev rm_X2_stands : Room := { frames := 0, cells := 0, slots := 0, locals := 0 }
theorem hd_X2_stands : yX2_stands.cls = RX2 ∧ yX2_stands.cls ≠ "java/lang/invoke/MethodHandle" ∧ yX2_stands.cls ≠ "java/lang/invoke/VarHandle" ∧ (parseMethodDescriptor yX2_stands.desc).map (fun d => d.parameters.length) = some 0 := by decide +kernel
set_option maxHeartbeats 4000000 in
set_option maxRecDepth 100000 in
theorem c_X2_stands (l : Launch) (D : va_G) (cI cJ cZ : ClassId) (a_this a_this_costs a_this_nexts a_this_rests a_this_aheads a_this_coming a_this_meanings a_this_doubts a_this_measureOf a_this_times : Nat) (v_this_size : Int32) (v_this_states : Int32) (v_this_total : Int32) (v_this_measures : Int32) (v_this_doubtsAreOld : Int32) (o : Int32) (h : p_X2_stands v_this_total = some o) : zMi l D (zT cI cJ cZ) yX2_stands gs_X2_stands rm_X2_stands [.ref a_this] (wd_X2_stands cI cJ cZ a_this a_this_costs a_this_nexts a_this_rests a_this_aheads a_this_coming a_this_meanings a_this_doubts a_this_measureOf a_this_times v_this_size v_this_states v_this_total v_this_measures v_this_doubtsAreOld) (wd_X2_stands cI cJ cZ a_this a_this_costs a_this_nexts a_this_rests a_this_aheads a_this_coming a_this_meanings a_this_doubts a_this_measureOf a_this_times v_this_size v_this_states v_this_total v_this_measures v_this_doubtsAreOld) (o) := by
  refine zMet_z (own := RX2) (fun u : Int32 => (wd_X2_stands cI cJ cZ a_this a_this_costs a_this_nexts a_this_rests a_this_aheads a_this_coming a_this_meanings a_this_doubts a_this_measureOf a_this_times v_this_size v_this_states v_this_total v_this_measures v_this_doubtsAreOld)) (fun u : Int32 => u) (by decide) rfl rfl (Nat.le_of_ble_eq_true rfl) ?_
  intro p e s m args below meth c A Q S hK hA hw ret ls hl
  replace hl : lv_has ls 1 [(0, .ref a_this)] := hl
  refine lv_aload_n S.1 S.2.1 dX2_stands_0 rfl (lv_at hl 0 rfl) ?_
  refine z_get S (C := RX2) (T := TX2) (N := 14) (gi gu_X2) hK hw 0 rfl rfl 11 (Nat.le_of_ble_eq_true rfl) (List.mem_cons_of_mem _ gw_193) rfl dX2_stands_1 ?_
  refine lv_ldc (v := 1000000) S.1 S.2.1 S.2.2.2.1 (S.2.2.2.2 _ (List.mem_cons_of_mem _ gw_181)) dX2_stands_4 ?_
  refine z_icmp_ge S (tgt := 13) h dX2_stands_6 (by decide) (fun h => ?_) (fun h => ?_)
  · refine lv_iconst (v := 0) S.1 S.2.1 dX2_stands_13 (by decide) ?_
    exact ret 0 h (z_nb (Or.inl rfl)) 14 ls _ _ dX2_stands_14 hw
  · refine lv_iconst (v := 1) S.1 S.2.1 dX2_stands_9 (by decide) ?_
    refine lv_goto (tgt := 14) S.1 S.2.1 dX2_stands_10 (by decide) ?_
    exact ret 1 h (z_nb (Or.inr rfl)) 14 ls _ _ dX2_stands_14 hw
def gs_X2_firstBest : List Cond := Cond.code yX2_firstBest cX2_firstBest 4 (some .int) :: GW
def wd_X2_firstBest (cI cJ cZ : ClassId) (a_this a_this_costs a_this_costs_cells a_this_nexts a_this_nexts_cells a_this_rests a_this_rests_cells a_this_aheads a_this_coming a_this_meanings a_this_doubts a_this_measureOf a_this_times : Nat) (v_this_size : Int32) (v_this_states : Int32) (v_this_total : Int32) (v_this_measures : Int32) (v_this_doubtsAreOld : Int32) (f_this_costs_cells : Nat → Int32) (f_this_nexts_cells : Nat → Int32) (f_this_rests_cells : Nat → Int32) : va_W := [(a_this, .inr (2, [.ref a_this_costs, .ref a_this_nexts, .ref a_this_rests, .ref a_this_aheads, .ref a_this_coming, .ref a_this_meanings, .ref a_this_doubts, .ref a_this_measureOf, .ref a_this_times, .int v_this_size, .int v_this_states, .int v_this_total, .int v_this_measures, .int v_this_doubtsAreOld])), (a_this_costs, .inr (3, [.ref a_this_costs_cells])), (a_this_costs_cells, .inl (cI, 280, .inl f_this_costs_cells)), (a_this_nexts, .inr (3, [.ref a_this_nexts_cells])), (a_this_nexts_cells, .inl (cI, 525, .inl f_this_nexts_cells)), (a_this_rests, .inr (3, [.ref a_this_rests_cells])), (a_this_rests_cells, .inl (cI, 3075, .inl f_this_rests_cells))]
abbrev rm_X2_firstBest : Room := { frames := 2, cells := 0, slots := 0, locals := 45 }
theorem hd_X2_firstBest : yX2_firstBest.cls = RX2 ∧ yX2_firstBest.cls ≠ "java/lang/invoke/MethodHandle" ∧ yX2_firstBest.cls ≠ "java/lang/invoke/VarHandle" ∧ (parseMethodDescriptor yX2_firstBest.desc).map (fun d => d.parameters.length) = some 2 := by decide +kernel
set_option maxHeartbeats 4000000 in
set_option maxRecDepth 100000 in
theorem c_X2_firstBest (l : Launch) (D : va_G) (cI cJ cZ : ClassId) (a_this a_this_costs a_this_costs_cells a_this_nexts a_this_nexts_cells a_this_rests a_this_rests_cells a_this_aheads a_this_coming a_this_meanings a_this_doubts a_this_measureOf a_this_times : Nat) (v_this_size : Int32) (v_this_states : Int32) (v_this_total : Int32) (v_this_measures : Int32) (v_this_doubtsAreOld : Int32) (f_this_costs_cells : Nat → Int32) (f_this_nexts_cells : Nat → Int32) (f_this_rests_cells : Nat → Int32) (K : Nat) (i1 : Int32) (i2 : Int32) (o : Int32) (h : p_X2_firstBest K f_this_costs_cells f_this_nexts_cells f_this_rests_cells i1 i2 = some o) : zMi l D (zT cI cJ cZ) yX2_firstBest gs_X2_firstBest rm_X2_firstBest [.ref a_this, .int i1, .int i2] (wd_X2_firstBest cI cJ cZ a_this a_this_costs a_this_costs_cells a_this_nexts a_this_nexts_cells a_this_rests a_this_rests_cells a_this_aheads a_this_coming a_this_meanings a_this_doubts a_this_measureOf a_this_times v_this_size v_this_states v_this_total v_this_measures v_this_doubtsAreOld f_this_costs_cells f_this_nexts_cells f_this_rests_cells) (wd_X2_firstBest cI cJ cZ a_this a_this_costs a_this_costs_cells a_this_nexts a_this_nexts_cells a_this_rests a_this_rests_cells a_this_aheads a_this_coming a_this_meanings a_this_doubts a_this_measureOf a_this_times v_this_size v_this_states v_this_total v_this_measures v_this_doubtsAreOld f_this_costs_cells f_this_nexts_cells f_this_rests_cells) (o) := by
  refine zMet_i (own := RX2) (fun u : Int32 => (wd_X2_firstBest cI cJ cZ a_this a_this_costs a_this_costs_cells a_this_nexts a_this_nexts_cells a_this_rests a_this_rests_cells a_this_aheads a_this_coming a_this_meanings a_this_doubts a_this_measureOf a_this_times v_this_size v_this_states v_this_total v_this_measures v_this_doubtsAreOld f_this_costs_cells f_this_nexts_cells f_this_rests_cells)) (fun u : Int32 => u) (by decide) rfl rfl (Nat.le_of_ble_eq_true rfl) ?_
  intro p e s m args below meth c A Q S hK hA hw ret ls hl
  replace hl : lv_has ls 4 [(0, .ref a_this), (1, .int i1), (2, .int i2)] := hl
  refine lv_iconst (v := 0) S.1 S.2.1 dX2_firstBest_0 (by decide) ?_
  refine lv_istore_n (lv' := [(3, .int 0), (0, .ref a_this), (1, .int i1), (2, .int i2)]) S.1 S.2.1 dX2_firstBest_1 rfl hl (by decide) rfl (fun ls hl => ?_)
  have L_2 : ∀ (n2_1 : Nat) (x1 : Int32) (h : z_lp1 (p_X2_firstBest_l2 f_this_costs_cells f_this_nexts_cells f_this_rests_cells i1 i2) n2_1 x1 = some o) (H : Heap) (locs : List Loc) (ls : Array Slot), zW D A s H locs (wd_X2_firstBest cI cJ cZ a_this a_this_costs a_this_costs_cells a_this_nexts a_this_nexts_cells a_this_rests a_this_rests_cells a_this_aheads a_this_coming a_this_meanings a_this_doubts a_this_measureOf a_this_times v_this_size v_this_states v_this_total v_this_measures v_this_doubtsAreOld f_this_costs_cells f_this_nexts_cells f_this_rests_cells) → lv_has ls 4 [(0, .ref a_this), (1, .int i1), (2, .int i2), (3, .int x1)] → W p l e (headSpec gs_X2_firstBest rm_X2_firstBest).room s m args below meth c H locs 0 0 Q (F0 m 2 ls []) := by
    intro n2_1
    induction n2_1 with
    | zero => intro x1 h; exact z_no h
    | succ n2_1 ih_2 =>
      intro x1 h H locs ls hw hl
      replace h : (p_X2_firstBest_l2 f_this_costs_cells f_this_nexts_cells f_this_rests_cells i1 i2) (z_lp1 (p_X2_firstBest_l2 f_this_costs_cells f_this_nexts_cells f_this_rests_cells i1 i2) n2_1) x1 = some o := h
      refine lv_iload_n S.1 S.2.1 dX2_firstBest_2 rfl (lv_at hl 3 rfl) ?_
      refine lv_bipush (v := 6) S.1 S.2.1 dX2_firstBest_3 (by decide) ?_
      refine z_icmp_ge S (tgt := 39) h dX2_firstBest_5 (by decide) (fun h => ?_) (fun h => ?_)
      · refine lv_bipush (v := 6) S.1 S.2.1 dX2_firstBest_39 (by decide) ?_
        exact ret 6 h 41 ls _ _ dX2_firstBest_41 hw
      · refine lv_aload_n S.1 S.2.1 dX2_firstBest_8 rfl (lv_at hl 0 rfl) ?_
        refine lv_iload_n S.1 S.2.1 dX2_firstBest_9 rfl (lv_at hl 1 rfl) ?_
        refine lv_iload_n S.1 S.2.1 dX2_firstBest_10 rfl (lv_at hl 2 rfl) ?_
        refine lv_iload_n S.1 S.2.1 dX2_firstBest_11 rfl (lv_at hl 3 rfl) ?_
        obtain ⟨y2, hc, h⟩ := z_b1_e h
        refine z_callVi (As := [.int i1, .int i2, .int x1]) (rest := []) S (c_X2_costFrom l D cI cJ cZ a_this a_this_costs a_this_costs_cells a_this_nexts a_this_nexts_cells a_this_rests a_this_rests_cells a_this_aheads a_this_coming a_this_meanings a_this_doubts a_this_measureOf a_this_times v_this_size v_this_states v_this_total v_this_measures v_this_doubtsAreOld f_this_costs_cells f_this_nexts_cells f_this_rests_cells i1 i2 x1 _ hc) (cwV 3 S.2.2.2.2 (gw_V gw_568 gw_570 gw_19 gw_56 gw_571) rfl rfl rfl hd_X2_costFrom ⟨Nat.le_of_ble_eq_true rfl, Nat.le_of_ble_eq_true rfl⟩) hK hA hw [0, 1, 2, 3, 4, 5, 6] (by decide) rfl rfl [some 0, some 1, some 2, some 3, some 4, some 5, some 6] rfl (by decide) 0 rfl rfl hl.1 rfl rfl (lv_room (Nat.le_of_ble_eq_true rfl)) ⟨Nat.zero_le _, Nat.zero_le _⟩ dX2_firstBest_12 (fun H locs hw => ?_)
        replace hw : zW D A s H locs (wd_X2_firstBest cI cJ cZ a_this a_this_costs a_this_costs_cells a_this_nexts a_this_nexts_cells a_this_rests a_this_rests_cells a_this_aheads a_this_coming a_this_meanings a_this_doubts a_this_measureOf a_this_times v_this_size v_this_states v_this_total v_this_measures v_this_doubtsAreOld f_this_costs_cells f_this_nexts_cells f_this_rests_cells) := hw
        refine lv_aload_n S.1 S.2.1 dX2_firstBest_15 rfl (lv_at hl 0 rfl) ?_
        refine z_get S (C := RX2) (T := TX2) (N := 14) (gi gu_X2) hK hw 0 rfl rfl 2 (Nat.le_of_ble_eq_true rfl) (List.mem_cons_of_mem _ gw_184) rfl dX2_firstBest_16 ?_
        refine lv_iload_n S.1 S.2.1 dX2_firstBest_19 rfl (lv_at hl 1 rfl) ?_
        refine lv_bipush (v := 75) S.1 S.2.1 dX2_firstBest_20 (by decide) ?_
        refine lv_imul S.1 S.2.1 dX2_firstBest_22 ?_
        refine lv_iload_n S.1 S.2.1 dX2_firstBest_23 rfl (lv_at hl 2 rfl) ?_
        refine lv_iadd S.1 S.2.1 dX2_firstBest_24 ?_
        obtain ⟨y3, hc, h⟩ := z_b1_e h
        refine z_callVi (As := [.int ((i1 * 75) + i2)]) (rest := [.int y2]) S (c_X3_get l D cI cJ cZ a_this_rests a_this_rests_cells 3075 f_this_rests_cells ((i1 * 75) + i2) _ hc) (cwV 1 S.2.2.2.2 (gw_V gw_572 gw_342 gw_343 gw_53 gw_344) rfl rfl rfl hd_X3_get ⟨Nat.le_of_ble_eq_true rfl, Nat.le_of_ble_eq_true rfl⟩) hK hA hw [5, 6] (by decide) rfl rfl [none, none, none, none, none, some 0, some 1] rfl (by decide) 5 rfl rfl hl.1 rfl rfl (lv_room (Nat.le_of_ble_eq_true rfl)) ⟨Nat.zero_le _, Nat.zero_le _⟩ dX2_firstBest_25 (fun H locs hw => ?_)
        replace hw : zW D A s H locs (wd_X2_firstBest cI cJ cZ a_this a_this_costs a_this_costs_cells a_this_nexts a_this_nexts_cells a_this_rests a_this_rests_cells a_this_aheads a_this_coming a_this_meanings a_this_doubts a_this_measureOf a_this_times v_this_size v_this_states v_this_total v_this_measures v_this_doubtsAreOld f_this_costs_cells f_this_nexts_cells f_this_rests_cells) := hw
        refine z_icmp_ne S (tgt := 33) h dX2_firstBest_28 (by decide) (fun h => ?_) (fun h => ?_)
        · refine z_iinc S (i := 3) (k := 3) (v := x1 + 1) hl rfl (by decide) rfl (fun v => (3, .int v) :: [(0, .ref a_this), (1, .int i1), (2, .int i2)]) (fun _ => rfl) h dX2_firstBest_33 (fun y4 ls hl h => ?_)
          replace hl : lv_has ls 4 [(3, .int y4), (0, .ref a_this), (1, .int i1), (2, .int i2)] := hl
          refine lv_goto (tgt := 2) S.1 S.2.1 dX2_firstBest_36 (by decide) ?_
          exact ih_2 y4 h _ _ ls hw (lv_sub hl [1, 2, 3, 0] rfl)
        · refine lv_iload_n S.1 S.2.1 dX2_firstBest_31 rfl (lv_at hl 3 rfl) ?_
          exact ret x1 h 32 ls _ _ dX2_firstBest_32 hw
  exact L_2 K 0 h _ _ ls hw (lv_sub hl [1, 2, 3, 0] rfl)
theorem gw_582 : Cond.methodLink RX2 144 yX2_firstBest ∈ GW := GW_of 582 (by decide +kernel) (by decide +kernel)
theorem gw_585 : Cond.code yX2_firstBest cX2_firstBest 4 (some .int) ∈ GW := GW_of 585 (by decide +kernel) (by decide +kernel)
theorem gw_584 : Cond.instanceMethod yX2_firstBest ∈ GW := GW_of 584 (by decide +kernel) (by decide +kernel)
theorem gw_21 : Cond.selects RX2 yX2_firstBest yX2_firstBest ∈ GW := GW_of 21 (by decide +kernel) (by decide +kernel)
theorem gw_187 : Cond.fieldLink RX2 33 "ScoreReader$Reading" "meanings" "LScoreReader$Row;" ∈ GW := GW_of 187 (by decide +kernel) (by decide +kernel)
def gs_X2_choose : List Cond := Cond.code yX2_choose cX2_choose 4 none :: GW
def wd_X2_choose (cI cJ cZ : ClassId) (a_this a_this_costs a_this_costs_cells a_this_nexts a_this_nexts_cells a_this_rests a_this_rests_cells a_this_aheads a_this_coming a_this_meanings a_this_meanings_cells a_this_doubts a_this_measureOf a_this_times : Nat) (v_this_size : Int32) (v_this_states : Int32) (v_this_total : Int32) (v_this_measures : Int32) (v_this_doubtsAreOld : Int32) (f_this_costs_cells : Nat → Int32) (f_this_nexts_cells : Nat → Int32) (f_this_rests_cells : Nat → Int32) (f_this_meanings_cells : Nat → Int32) : va_W := [(a_this, .inr (2, [.ref a_this_costs, .ref a_this_nexts, .ref a_this_rests, .ref a_this_aheads, .ref a_this_coming, .ref a_this_meanings, .ref a_this_doubts, .ref a_this_measureOf, .ref a_this_times, .int v_this_size, .int v_this_states, .int v_this_total, .int v_this_measures, .int v_this_doubtsAreOld])), (a_this_costs, .inr (3, [.ref a_this_costs_cells])), (a_this_costs_cells, .inl (cI, 280, .inl f_this_costs_cells)), (a_this_nexts, .inr (3, [.ref a_this_nexts_cells])), (a_this_nexts_cells, .inl (cI, 525, .inl f_this_nexts_cells)), (a_this_rests, .inr (3, [.ref a_this_rests_cells])), (a_this_rests_cells, .inl (cI, 3075, .inl f_this_rests_cells)), (a_this_meanings, .inr (3, [.ref a_this_meanings_cells])), (a_this_meanings_cells, .inl (cI, 40, .inl f_this_meanings_cells))]
abbrev rm_X2_choose : Room := { frames := 3, cells := 0, slots := 0, locals := 68 }
theorem hd_X2_choose : yX2_choose.cls = RX2 ∧ yX2_choose.cls ≠ "java/lang/invoke/MethodHandle" ∧ yX2_choose.cls ≠ "java/lang/invoke/VarHandle" ∧ (parseMethodDescriptor yX2_choose.desc).map (fun d => d.parameters.length) = some 0 := by decide +kernel
set_option maxHeartbeats 4000000 in
set_option maxRecDepth 100000 in
theorem c_X2_choose (l : Launch) (D : va_G) (cI cJ cZ : ClassId) (a_this a_this_costs a_this_costs_cells a_this_nexts a_this_nexts_cells a_this_rests a_this_rests_cells a_this_aheads a_this_coming a_this_meanings a_this_meanings_cells a_this_doubts a_this_measureOf a_this_times : Nat) (v_this_size : Int32) (v_this_states : Int32) (v_this_total : Int32) (v_this_measures : Int32) (v_this_doubtsAreOld : Int32) (f_this_costs_cells : Nat → Int32) (f_this_nexts_cells : Nat → Int32) (f_this_rests_cells : Nat → Int32) (f_this_meanings_cells : Nat → Int32) (K : Nat) (o : (Nat → Int32)) (h : p_X2_choose K v_this_size f_this_costs_cells f_this_nexts_cells f_this_rests_cells f_this_meanings_cells = some o) : zMv l D (zT cI cJ cZ) yX2_choose gs_X2_choose rm_X2_choose [.ref a_this] (wd_X2_choose cI cJ cZ a_this a_this_costs a_this_costs_cells a_this_nexts a_this_nexts_cells a_this_rests a_this_rests_cells a_this_aheads a_this_coming a_this_meanings a_this_meanings_cells a_this_doubts a_this_measureOf a_this_times v_this_size v_this_states v_this_total v_this_measures v_this_doubtsAreOld f_this_costs_cells f_this_nexts_cells f_this_rests_cells f_this_meanings_cells) (wd_X2_choose cI cJ cZ a_this a_this_costs a_this_costs_cells a_this_nexts a_this_nexts_cells a_this_rests a_this_rests_cells a_this_aheads a_this_coming a_this_meanings a_this_meanings_cells a_this_doubts a_this_measureOf a_this_times v_this_size v_this_states v_this_total v_this_measures v_this_doubtsAreOld f_this_costs_cells f_this_nexts_cells f_this_rests_cells o) := by
  refine zMet_v (own := RX2) (fun u : (Nat → Int32) => (wd_X2_choose cI cJ cZ a_this a_this_costs a_this_costs_cells a_this_nexts a_this_nexts_cells a_this_rests a_this_rests_cells a_this_aheads a_this_coming a_this_meanings a_this_meanings_cells a_this_doubts a_this_measureOf a_this_times v_this_size v_this_states v_this_total v_this_measures v_this_doubtsAreOld f_this_costs_cells f_this_nexts_cells f_this_rests_cells u)) (by decide) rfl rfl (Nat.le_of_ble_eq_true rfl) ?_
  intro p e s m args below meth c A Q S hK hA hw ret ls hl
  replace hl : lv_has ls 4 [(0, .ref a_this)] := hl
  refine lv_iconst (v := 0) S.1 S.2.1 dX2_choose_0 (by decide) ?_
  refine lv_istore_n (lv' := [(1, .int 0), (0, .ref a_this)]) S.1 S.2.1 dX2_choose_1 rfl hl (by decide) rfl (fun ls hl => ?_)
  refine lv_iconst (v := 0) S.1 S.2.1 dX2_choose_2 (by decide) ?_
  refine lv_istore_n (lv' := [(2, .int 0), (1, .int 0), (0, .ref a_this)]) S.1 S.2.1 dX2_choose_3 rfl hl (by decide) rfl (fun ls hl => ?_)
  have L_4 : ∀ (n4_3 : Nat) (f1 : Nat → Int32) (x2 : Int32) (x3 : Int32) (h : z_lp3 (p_X2_choose_l4 v_this_size K f_this_costs_cells f_this_nexts_cells f_this_rests_cells) n4_3 f1 x2 x3 = some o) (H : Heap) (locs : List Loc) (ls : Array Slot), zW D A s H locs (wd_X2_choose cI cJ cZ a_this a_this_costs a_this_costs_cells a_this_nexts a_this_nexts_cells a_this_rests a_this_rests_cells a_this_aheads a_this_coming a_this_meanings a_this_meanings_cells a_this_doubts a_this_measureOf a_this_times v_this_size v_this_states v_this_total v_this_measures v_this_doubtsAreOld f_this_costs_cells f_this_nexts_cells f_this_rests_cells f1) → lv_has ls 4 [(0, .ref a_this), (1, .int x2), (2, .int x3)] → W p l e (headSpec gs_X2_choose rm_X2_choose).room s m args below meth c H locs 0 0 Q (F0 m 4 ls []) := by
    intro n4_3
    induction n4_3 with
    | zero => intro f1 x2 x3 h; exact z_no h
    | succ n4_3 ih_4 =>
      intro f1 x2 x3 h H locs ls hw hl
      replace h : (p_X2_choose_l4 v_this_size K f_this_costs_cells f_this_nexts_cells f_this_rests_cells) (z_lp3 (p_X2_choose_l4 v_this_size K f_this_costs_cells f_this_nexts_cells f_this_rests_cells) n4_3) f1 x2 x3 = some o := h
      refine lv_iload_n S.1 S.2.1 dX2_choose_4 rfl (lv_at hl 2 rfl) ?_
      refine lv_aload_n S.1 S.2.1 dX2_choose_5 rfl (lv_at hl 0 rfl) ?_
      refine z_get S (C := RX2) (T := TX2) (N := 14) (gi gu_X2) hK hw 0 rfl rfl 9 (Nat.le_of_ble_eq_true rfl) (List.mem_cons_of_mem _ gw_191) rfl dX2_choose_6 ?_
      refine z_icmp_ge S (tgt := 48) h dX2_choose_9 (by decide) (fun h => ?_) (fun h => ?_)
      · exact ret f1 h 48 ls _ _ dX2_choose_48 hw
      · refine lv_aload_n S.1 S.2.1 dX2_choose_12 rfl (lv_at hl 0 rfl) ?_
        refine lv_iload_n S.1 S.2.1 dX2_choose_13 rfl (lv_at hl 2 rfl) ?_
        refine lv_iload_n S.1 S.2.1 dX2_choose_14 rfl (lv_at hl 1 rfl) ?_
        obtain ⟨y4, hc, h⟩ := z_b1_e h
        refine z_callVi (As := [.int x3, .int x2]) (rest := []) S (c_X2_firstBest l D cI cJ cZ a_this a_this_costs a_this_costs_cells a_this_nexts a_this_nexts_cells a_this_rests a_this_rests_cells a_this_aheads a_this_coming a_this_meanings a_this_doubts a_this_measureOf a_this_times v_this_size v_this_states v_this_total v_this_measures v_this_doubtsAreOld f_this_costs_cells f_this_nexts_cells f_this_rests_cells K x3 x2 _ hc) (cwV 2 S.2.2.2.2 (gw_V gw_582 gw_584 gw_21 gw_56 gw_585) rfl rfl rfl hd_X2_firstBest ⟨Nat.le_of_ble_eq_true rfl, Nat.le_of_ble_eq_true rfl⟩) hK hA hw [0, 1, 2, 3, 4, 5, 6] (by decide) rfl rfl [some 0, some 1, some 2, some 3, some 4, some 5, some 6, none, none] rfl (by decide) 0 rfl rfl hl.1 rfl rfl (lv_room (Nat.le_of_ble_eq_true rfl)) ⟨Nat.zero_le _, Nat.zero_le _⟩ dX2_choose_15 (fun H locs hw => ?_)
        replace hw : zW D A s H locs (wd_X2_choose cI cJ cZ a_this a_this_costs a_this_costs_cells a_this_nexts a_this_nexts_cells a_this_rests a_this_rests_cells a_this_aheads a_this_coming a_this_meanings a_this_meanings_cells a_this_doubts a_this_measureOf a_this_times v_this_size v_this_states v_this_total v_this_measures v_this_doubtsAreOld f_this_costs_cells f_this_nexts_cells f_this_rests_cells f1) := hw
        refine lv_istore_n (lv' := [(3, .int y4), (0, .ref a_this), (1, .int x2), (2, .int x3)]) S.1 S.2.1 dX2_choose_18 rfl hl (by decide) rfl (fun ls hl => ?_)
        refine lv_aload_n S.1 S.2.1 dX2_choose_19 rfl (lv_at hl 1 rfl) ?_
        refine z_get S (C := RX2) (T := TX2) (N := 14) (gi gu_X2) hK hw 0 rfl rfl 5 (Nat.le_of_ble_eq_true rfl) (List.mem_cons_of_mem _ gw_187) rfl dX2_choose_20 ?_
        refine lv_iload_n S.1 S.2.1 dX2_choose_23 rfl (lv_at hl 3 rfl) ?_
        refine lv_iload_n S.1 S.2.1 dX2_choose_24 rfl (lv_at hl 0 rfl) ?_
        obtain ⟨f5, hc, h⟩ := z_b1_e h
        refine z_callVv (As := [.int x3, .int y4]) (rest := []) S (c_X3_put l D cI cJ cZ a_this_meanings a_this_meanings_cells 40 f1 x3 y4 _ hc) (cwV 2 S.2.2.2.2 (gw_V gw_533 gw_326 gw_327 gw_53 gw_328) rfl rfl rfl hd_X3_put ⟨Nat.le_of_ble_eq_true rfl, Nat.le_of_ble_eq_true rfl⟩) hK hA hw [7, 8] (by decide) rfl rfl [none, none, none, none, none, none, none, some 0, some 1] rfl (by decide) 7 rfl rfl hl.1 rfl rfl (lv_room (Nat.le_of_ble_eq_true rfl)) ⟨Nat.zero_le _, Nat.zero_le _⟩ dX2_choose_25 (fun H locs hw => ?_)
        replace hw : zW D A s H locs (wd_X2_choose cI cJ cZ a_this a_this_costs a_this_costs_cells a_this_nexts a_this_nexts_cells a_this_rests a_this_rests_cells a_this_aheads a_this_coming a_this_meanings a_this_meanings_cells a_this_doubts a_this_measureOf a_this_times v_this_size v_this_states v_this_total v_this_measures v_this_doubtsAreOld f_this_costs_cells f_this_nexts_cells f_this_rests_cells f5) := hw
        refine lv_aload_n S.1 S.2.1 dX2_choose_28 rfl (lv_at hl 1 rfl) ?_
        refine z_get S (C := RX2) (T := TX2) (N := 14) (gi gu_X2) hK hw 0 rfl rfl 1 (Nat.le_of_ble_eq_true rfl) (List.mem_cons_of_mem _ gw_183) rfl dX2_choose_29 ?_
        refine lv_iload_n S.1 S.2.1 dX2_choose_32 rfl (lv_at hl 2 rfl) ?_
        refine lv_bipush (v := 7) S.1 S.2.1 dX2_choose_33 (by decide) ?_
        refine lv_imul S.1 S.2.1 dX2_choose_35 ?_
        refine lv_iload_n S.1 S.2.1 dX2_choose_36 rfl (lv_at hl 0 rfl) ?_
        refine lv_iadd S.1 S.2.1 dX2_choose_37 ?_
        obtain ⟨y6, hc, h⟩ := z_b1_e h
        refine z_callVi (As := [.int ((x2 * 7) + y4)]) (rest := []) S (c_X3_get l D cI cJ cZ a_this_nexts a_this_nexts_cells 525 f_this_nexts_cells ((x2 * 7) + y4) _ hc) (cwV 1 S.2.2.2.2 (gw_V gw_572 gw_342 gw_343 gw_53 gw_344) rfl rfl rfl hd_X3_get ⟨Nat.le_of_ble_eq_true rfl, Nat.le_of_ble_eq_true rfl⟩) hK hA hw [3, 4] (by decide) rfl rfl [none, none, none, some 0, some 1, none, none, none, none] rfl (by decide) 3 rfl rfl hl.1 rfl rfl (lv_room (Nat.le_of_ble_eq_true rfl)) ⟨Nat.zero_le _, Nat.zero_le _⟩ dX2_choose_38 (fun H locs hw => ?_)
        replace hw : zW D A s H locs (wd_X2_choose cI cJ cZ a_this a_this_costs a_this_costs_cells a_this_nexts a_this_nexts_cells a_this_rests a_this_rests_cells a_this_aheads a_this_coming a_this_meanings a_this_meanings_cells a_this_doubts a_this_measureOf a_this_times v_this_size v_this_states v_this_total v_this_measures v_this_doubtsAreOld f_this_costs_cells f_this_nexts_cells f_this_rests_cells f5) := hw
        refine lv_istore_n (lv' := [(1, .int y6), (3, .int y4), (0, .ref a_this), (2, .int x3)]) S.1 S.2.1 dX2_choose_41 rfl hl (by decide) rfl (fun ls hl => ?_)
        refine z_iinc S (i := 2) (k := 3) (v := x3 + 1) hl rfl (by decide) rfl (fun v => (2, .int v) :: [(1, .int y6), (3, .int y4), (0, .ref a_this)]) (fun _ => rfl) h dX2_choose_42 (fun y7 ls hl h => ?_)
        replace hl : lv_has ls 4 [(2, .int y7), (1, .int y6), (3, .int y4), (0, .ref a_this)] := hl
        refine lv_goto (tgt := 4) S.1 S.2.1 dX2_choose_45 (by decide) ?_
        exact ih_4 f5 y6 y7 h _ _ ls hw (lv_sub hl [3, 1, 0] rfl)
  exact L_4 K f_this_meanings_cells 0 0 h _ _ ls hw (lv_sub hl [2, 1, 0] rfl)
theorem gw_194 : Cond.fieldLink RX2 55 "ScoreReader$Reading" "measures" "I" ∈ GW := GW_of 194 (by decide +kernel) (by decide +kernel)
theorem gw_189 : Cond.fieldLink RX2 39 "ScoreReader$Reading" "measureOf" "LScoreReader$Row;" ∈ GW := GW_of 189 (by decide +kernel) (by decide +kernel)
theorem gw_190 : Cond.fieldLink RX2 42 "ScoreReader$Reading" "times" "LScoreReader$Row;" ∈ GW := GW_of 190 (by decide +kernel) (by decide +kernel)
def gs_X2_workMeasures : List Cond := Cond.code yX2_workMeasures cX2_workMeasures 5 none :: GW
def wd_X2_workMeasures (cI cJ cZ : ClassId) (a_this a_this_costs a_this_nexts a_this_rests a_this_aheads a_this_coming a_this_meanings a_this_meanings_cells a_this_doubts a_this_measureOf a_this_measureOf_cells a_this_times a_this_times_cells : Nat) (v_this_size : Int32) (v_this_states : Int32) (v_this_total : Int32) (v_this_measures : Int32) (v_this_doubtsAreOld : Int32) (f_this_meanings_cells : Nat → Int32) (f_this_measureOf_cells : Nat → Int32) (f_this_times_cells : Nat → Int32) : va_W := [(a_this, .inr (2, [.ref a_this_costs, .ref a_this_nexts, .ref a_this_rests, .ref a_this_aheads, .ref a_this_coming, .ref a_this_meanings, .ref a_this_doubts, .ref a_this_measureOf, .ref a_this_times, .int v_this_size, .int v_this_states, .int v_this_total, .int v_this_measures, .int v_this_doubtsAreOld])), (a_this_meanings, .inr (3, [.ref a_this_meanings_cells])), (a_this_meanings_cells, .inl (cI, 40, .inl f_this_meanings_cells)), (a_this_measureOf, .inr (3, [.ref a_this_measureOf_cells])), (a_this_measureOf_cells, .inl (cI, 40, .inl f_this_measureOf_cells)), (a_this_times, .inr (3, [.ref a_this_times_cells])), (a_this_times_cells, .inl (cI, 40, .inl f_this_times_cells))]
abbrev rm_X2_workMeasures : Room := { frames := 1, cells := 0, slots := 0, locals := 22 }
theorem hd_X2_workMeasures : yX2_workMeasures.cls = RX2 ∧ yX2_workMeasures.cls ≠ "java/lang/invoke/MethodHandle" ∧ yX2_workMeasures.cls ≠ "java/lang/invoke/VarHandle" ∧ (parseMethodDescriptor yX2_workMeasures.desc).map (fun d => d.parameters.length) = some 0 := by decide +kernel
set_option maxHeartbeats 4000000 in
set_option maxRecDepth 100000 in
theorem c_X2_workMeasures (l : Launch) (D : va_G) (cI cJ cZ : ClassId) (a_this a_this_costs a_this_nexts a_this_rests a_this_aheads a_this_coming a_this_meanings a_this_meanings_cells a_this_doubts a_this_measureOf a_this_measureOf_cells a_this_times a_this_times_cells : Nat) (v_this_size : Int32) (v_this_states : Int32) (v_this_total : Int32) (v_this_measures : Int32) (v_this_doubtsAreOld : Int32) (f_this_meanings_cells : Nat → Int32) (f_this_measureOf_cells : Nat → Int32) (f_this_times_cells : Nat → Int32) (K : Nat) (o : Int32 × (Nat → Int32) × (Nat → Int32)) (h : p_X2_workMeasures K v_this_size v_this_measures f_this_meanings_cells f_this_measureOf_cells f_this_times_cells = some o) : zMv l D (zT cI cJ cZ) yX2_workMeasures gs_X2_workMeasures rm_X2_workMeasures [.ref a_this] (wd_X2_workMeasures cI cJ cZ a_this a_this_costs a_this_nexts a_this_rests a_this_aheads a_this_coming a_this_meanings a_this_meanings_cells a_this_doubts a_this_measureOf a_this_measureOf_cells a_this_times a_this_times_cells v_this_size v_this_states v_this_total v_this_measures v_this_doubtsAreOld f_this_meanings_cells f_this_measureOf_cells f_this_times_cells) (wd_X2_workMeasures cI cJ cZ a_this a_this_costs a_this_nexts a_this_rests a_this_aheads a_this_coming a_this_meanings a_this_meanings_cells a_this_doubts a_this_measureOf a_this_measureOf_cells a_this_times a_this_times_cells v_this_size v_this_states v_this_total (o.1) v_this_doubtsAreOld f_this_meanings_cells (o.2.1) (o.2.2)) := by
  refine zMet_v (own := RX2) (fun u : Int32 × (Nat → Int32) × (Nat → Int32) => (wd_X2_workMeasures cI cJ cZ a_this a_this_costs a_this_nexts a_this_rests a_this_aheads a_this_coming a_this_meanings a_this_meanings_cells a_this_doubts a_this_measureOf a_this_measureOf_cells a_this_times a_this_times_cells v_this_size v_this_states v_this_total (u.1) v_this_doubtsAreOld f_this_meanings_cells (u.2.1) (u.2.2))) (by decide) rfl rfl (Nat.le_of_ble_eq_true rfl) ?_
  intro p e s m args below meth c A Q S hK hA hw ret ls hl
  replace hl : lv_has ls 5 [(0, .ref a_this)] := hl
  refine lv_aload_n S.1 S.2.1 dX2_workMeasures_0 rfl (lv_at hl 0 rfl) ?_
  refine lv_iconst (v := 0) S.1 S.2.1 dX2_workMeasures_1 (by decide) ?_
  refine z_put S (C := RX2) (T := TX2) (N := 14) (gi gu_X2) tyX2 tyX2_ok nmX2 hK hw 0 rfl rfl 12 (Nat.le_of_ble_eq_true rfl) (List.mem_cons_of_mem _ gw_194) rfl rfl rfl (Nat.le_of_ble_eq_true rfl) dX2_workMeasures_2 (fun H locs hw => ?_)
  replace hw : zW D A s H locs (wd_X2_workMeasures cI cJ cZ a_this a_this_costs a_this_nexts a_this_rests a_this_aheads a_this_coming a_this_meanings a_this_meanings_cells a_this_doubts a_this_measureOf a_this_measureOf_cells a_this_times a_this_times_cells v_this_size v_this_states v_this_total 0 v_this_doubtsAreOld f_this_meanings_cells f_this_measureOf_cells f_this_times_cells) := hw
  refine lv_iconst (v := 0) S.1 S.2.1 dX2_workMeasures_5 (by decide) ?_
  refine lv_istore_n (lv' := [(1, .int 0), (0, .ref a_this)]) S.1 S.2.1 dX2_workMeasures_6 rfl hl (by decide) rfl (fun ls hl => ?_)
  refine lv_iconst (v := (-1)) S.1 S.2.1 dX2_workMeasures_7 (by decide) ?_
  refine lv_istore_n (lv' := [(2, .int (-1)), (1, .int 0), (0, .ref a_this)]) S.1 S.2.1 dX2_workMeasures_8 rfl hl (by decide) rfl (fun ls hl => ?_)
  refine lv_iconst (v := 0) S.1 S.2.1 dX2_workMeasures_9 (by decide) ?_
  refine lv_istore_n (lv' := [(3, .int 0), (2, .int (-1)), (1, .int 0), (0, .ref a_this)]) S.1 S.2.1 dX2_workMeasures_10 rfl hl (by decide) rfl (fun ls hl => ?_)
  have L_11 : ∀ (n11_6 : Nat) (v1 : Int32) (f2 : Nat → Int32) (f3 : Nat → Int32) (x4 : Int32) (x5 : Int32) (x6 : Int32) (h : z_lp6 (p_X2_workMeasures_l11 v_this_size f_this_meanings_cells) n11_6 v1 f2 f3 x4 x5 x6 = some o) (H : Heap) (locs : List Loc) (ls : Array Slot), zW D A s H locs (wd_X2_workMeasures cI cJ cZ a_this a_this_costs a_this_nexts a_this_rests a_this_aheads a_this_coming a_this_meanings a_this_meanings_cells a_this_doubts a_this_measureOf a_this_measureOf_cells a_this_times a_this_times_cells v_this_size v_this_states v_this_total v1 v_this_doubtsAreOld f_this_meanings_cells f2 f3) → lv_has ls 5 [(0, .ref a_this), (1, .int x4), (2, .int x5), (3, .int x6)] → W p l e (headSpec gs_X2_workMeasures rm_X2_workMeasures).room s m args below meth c H locs 0 0 Q (F0 m 11 ls []) := by
    intro n11_6
    induction n11_6 with
    | zero => intro v1 f2 f3 x4 x5 x6 h; exact z_no h
    | succ n11_6 ih_11 =>
      intro v1 f2 f3 x4 x5 x6 h H locs ls hw hl
      replace h : (p_X2_workMeasures_l11 v_this_size f_this_meanings_cells) (z_lp6 (p_X2_workMeasures_l11 v_this_size f_this_meanings_cells) n11_6) v1 f2 f3 x4 x5 x6 = some o := h
      refine lv_iload_n S.1 S.2.1 dX2_workMeasures_11 rfl (lv_at hl 3 rfl) ?_
      refine lv_aload_n S.1 S.2.1 dX2_workMeasures_12 rfl (lv_at hl 0 rfl) ?_
      refine z_get S (C := RX2) (T := TX2) (N := 14) (gi gu_X2) hK hw 0 rfl rfl 9 (Nat.le_of_ble_eq_true rfl) (List.mem_cons_of_mem _ gw_191) rfl dX2_workMeasures_13 ?_
      refine z_icmp_ge S (tgt := 138) h dX2_workMeasures_16 (by decide) (fun h => ?_) (fun h => ?_)
      · exact ret (v1, f2, f3) h 138 ls _ _ dX2_workMeasures_138 hw
      · refine lv_aload_n S.1 S.2.1 dX2_workMeasures_19 rfl (lv_at hl 0 rfl) ?_
        refine z_get S (C := RX2) (T := TX2) (N := 14) (gi gu_X2) hK hw 0 rfl rfl 5 (Nat.le_of_ble_eq_true rfl) (List.mem_cons_of_mem _ gw_187) rfl dX2_workMeasures_20 ?_
        refine lv_iload_n S.1 S.2.1 dX2_workMeasures_23 rfl (lv_at hl 3 rfl) ?_
        obtain ⟨y7, hc, h⟩ := z_b1_e h
        refine z_callVi (As := [.int x6]) (rest := []) S (c_X3_get l D cI cJ cZ a_this_meanings a_this_meanings_cells 40 f_this_meanings_cells x6 _ hc) (cwV 1 S.2.2.2.2 (gw_V gw_572 gw_342 gw_343 gw_53 gw_344) rfl rfl rfl hd_X3_get ⟨Nat.le_of_ble_eq_true rfl, Nat.le_of_ble_eq_true rfl⟩) hK hA hw [1, 2] (by decide) rfl rfl [none, some 0, some 1, none, none, none, none] rfl (by decide) 1 rfl rfl hl.1 rfl rfl (lv_room (Nat.le_of_ble_eq_true rfl)) ⟨Nat.zero_le _, Nat.zero_le _⟩ dX2_workMeasures_24 (fun H locs hw => ?_)
        replace hw : zW D A s H locs (wd_X2_workMeasures cI cJ cZ a_this a_this_costs a_this_nexts a_this_rests a_this_aheads a_this_coming a_this_meanings a_this_meanings_cells a_this_doubts a_this_measureOf a_this_measureOf_cells a_this_times a_this_times_cells v_this_size v_this_states v_this_total v1 v_this_doubtsAreOld f_this_meanings_cells f2 f3) := hw
        refine lv_istore (lv' := [(4, .int y7), (0, .ref a_this), (1, .int x4), (2, .int x5), (3, .int x6)]) S.1 S.2.1 dX2_workMeasures_27 hl (by decide) rfl (fun ls hl => ?_)
        refine lv_iload S.1 S.2.1 dX2_workMeasures_29 (lv_at hl 0 rfl) ?_
        refine lv_iconst (v := 5) S.1 S.2.1 dX2_workMeasures_31 (by decide) ?_
        refine z_icmp_ne S (tgt := 40) h dX2_workMeasures_32 (by decide) (fun h => ?_) (fun h => ?_)
        · refine lv_iload S.1 S.2.1 dX2_workMeasures_40 (lv_at hl 0 rfl) ?_
          refine lv_iconst (v := 4) S.1 S.2.1 dX2_workMeasures_42 (by decide) ?_
          refine z_icmp_ne S (tgt := 76) h dX2_workMeasures_43 (by decide) (fun h => ?_) (fun h => ?_)
          · refine lv_iload S.1 S.2.1 dX2_workMeasures_76 (lv_at hl 0 rfl) ?_
            refine lv_bipush (v := 6) S.1 S.2.1 dX2_workMeasures_78 (by decide) ?_
            refine z_icmp_eq S (tgt := 132) h dX2_workMeasures_80 (by decide) (fun h => ?_) (fun h => ?_)
            · refine z_iinc S (i := 3) (k := 4) (v := x6 + 1) hl rfl (by decide) rfl (fun v => (3, .int v) :: [(4, .int y7), (0, .ref a_this), (1, .int x4), (2, .int x5)]) (fun _ => rfl) h dX2_workMeasures_132 (fun y8 ls hl h => ?_)
              replace hl : lv_has ls 5 [(3, .int y8), (4, .int y7), (0, .ref a_this), (1, .int x4), (2, .int x5)] := hl
              refine lv_goto (tgt := 11) S.1 S.2.1 dX2_workMeasures_135 (by decide) ?_
              exact ih_11 v1 f2 f3 x4 x5 y8 h _ _ ls hw (lv_sub hl [2, 3, 4, 0] rfl)
            · refine lv_aload_n S.1 S.2.1 dX2_workMeasures_83 rfl (lv_at hl 1 rfl) ?_
              refine lv_dup S.1 S.2.1 dX2_workMeasures_84 rfl ?_
              refine z_get S (C := RX2) (T := TX2) (N := 14) (gi gu_X2) hK hw 0 rfl rfl 12 (Nat.le_of_ble_eq_true rfl) (List.mem_cons_of_mem _ gw_194) rfl dX2_workMeasures_85 ?_
              refine lv_iload_n S.1 S.2.1 dX2_workMeasures_88 rfl (lv_at hl 2 rfl) ?_
              have J_97 : ∀ (z9 : Int32) (h : (p_X2_workMeasures_j97 v1 f2 x6 y7 f3 (z_lp6 (p_X2_workMeasures_l11 v_this_size f_this_meanings_cells) n11_6)) z9 = some o) (H : Heap) (locs : List Loc) (ls : Array Slot), zW D A s H locs (wd_X2_workMeasures cI cJ cZ a_this a_this_costs a_this_nexts a_this_rests a_this_aheads a_this_coming a_this_meanings a_this_meanings_cells a_this_doubts a_this_measureOf a_this_measureOf_cells a_this_times a_this_times_cells v_this_size v_this_states v_this_total v1 v_this_doubtsAreOld f_this_meanings_cells f2 f3) → lv_has ls 5 [(0, .ref a_this), (3, .int x6), (4, .int y7)] → W p l e (headSpec gs_X2_workMeasures rm_X2_workMeasures).room s m args below meth c H locs 0 0 Q (F0 m 97 ls [.int z9, .int v1, .ref a_this]) := by
                intro z9 h H locs ls hw hl
                refine lv_iadd S.1 S.2.1 dX2_workMeasures_97 ?_
                refine z_leti h (fun y10 h => ?_)
                refine z_put S (C := RX2) (T := TX2) (N := 14) (gi gu_X2) tyX2 tyX2_ok nmX2 hK hw 0 rfl rfl 12 (Nat.le_of_ble_eq_true rfl) (List.mem_cons_of_mem _ gw_194) rfl rfl rfl (Nat.le_of_ble_eq_true rfl) dX2_workMeasures_98 (fun H locs hw => ?_)
                replace hw : zW D A s H locs (wd_X2_workMeasures cI cJ cZ a_this a_this_costs a_this_nexts a_this_rests a_this_aheads a_this_coming a_this_meanings a_this_meanings_cells a_this_doubts a_this_measureOf a_this_measureOf_cells a_this_times a_this_times_cells v_this_size v_this_states v_this_total y10 v_this_doubtsAreOld f_this_meanings_cells f2 f3) := hw
                refine lv_iconst (v := 1) S.1 S.2.1 dX2_workMeasures_101 (by decide) ?_
                refine lv_istore_n (lv' := [(1, .int 1), (0, .ref a_this), (3, .int x6), (4, .int y7)]) S.1 S.2.1 dX2_workMeasures_102 rfl hl (by decide) rfl (fun ls hl => ?_)
                refine lv_iload_n S.1 S.2.1 dX2_workMeasures_103 rfl (lv_at hl 2 rfl) ?_
                refine lv_istore_n (lv' := [(2, .int x6), (1, .int 1), (0, .ref a_this), (3, .int x6), (4, .int y7)]) S.1 S.2.1 dX2_workMeasures_104 rfl hl (by decide) rfl (fun ls hl => ?_)
                refine lv_aload_n S.1 S.2.1 dX2_workMeasures_105 rfl (lv_at hl 2 rfl) ?_
                refine z_get S (C := RX2) (T := TX2) (N := 14) (gi gu_X2) hK hw 0 rfl rfl 7 (Nat.le_of_ble_eq_true rfl) (List.mem_cons_of_mem _ gw_189) rfl dX2_workMeasures_106 ?_
                refine lv_iload_n S.1 S.2.1 dX2_workMeasures_109 rfl (lv_at hl 3 rfl) ?_
                refine lv_aload_n S.1 S.2.1 dX2_workMeasures_110 rfl (lv_at hl 2 rfl) ?_
                refine z_get S (C := RX2) (T := TX2) (N := 14) (gi gu_X2) hK hw 0 rfl rfl 12 (Nat.le_of_ble_eq_true rfl) (List.mem_cons_of_mem _ gw_194) rfl dX2_workMeasures_111 ?_
                refine lv_iconst (v := 1) S.1 S.2.1 dX2_workMeasures_114 (by decide) ?_
                refine lv_isub S.1 S.2.1 dX2_workMeasures_115 ?_
                obtain ⟨f11, hc, h⟩ := z_b1_e h
                refine z_callVv (As := [.int x6, .int (y10 - 1)]) (rest := []) S (c_X3_put l D cI cJ cZ a_this_measureOf a_this_measureOf_cells 40 f2 x6 (y10 - 1) _ hc) (cwV 2 S.2.2.2.2 (gw_V gw_533 gw_326 gw_327 gw_53 gw_328) rfl rfl rfl hd_X3_put ⟨Nat.le_of_ble_eq_true rfl, Nat.le_of_ble_eq_true rfl⟩) hK hA hw [3, 4] (by decide) rfl rfl [none, none, none, some 0, some 1, none, none] rfl (by decide) 3 rfl rfl hl.1 rfl rfl (lv_room (Nat.le_of_ble_eq_true rfl)) ⟨Nat.zero_le _, Nat.zero_le _⟩ dX2_workMeasures_116 (fun H locs hw => ?_)
                replace hw : zW D A s H locs (wd_X2_workMeasures cI cJ cZ a_this a_this_costs a_this_nexts a_this_rests a_this_aheads a_this_coming a_this_meanings a_this_meanings_cells a_this_doubts a_this_measureOf a_this_measureOf_cells a_this_times a_this_times_cells v_this_size v_this_states v_this_total y10 v_this_doubtsAreOld f_this_meanings_cells f11 f3) := hw
                refine lv_aload_n S.1 S.2.1 dX2_workMeasures_119 rfl (lv_at hl 2 rfl) ?_
                refine z_get S (C := RX2) (T := TX2) (N := 14) (gi gu_X2) hK hw 0 rfl rfl 8 (Nat.le_of_ble_eq_true rfl) (List.mem_cons_of_mem _ gw_190) rfl dX2_workMeasures_120 ?_
                refine lv_iload_n S.1 S.2.1 dX2_workMeasures_123 rfl (lv_at hl 3 rfl) ?_
                refine lv_iload S.1 S.2.1 dX2_workMeasures_124 (lv_at hl 4 rfl) ?_
                obtain ⟨y12, hc, h⟩ := z_b1_e h
                refine z_callSi (As := [.int y7]) (rest := [.int x6, .ref a_this_times]) S (c_X2_signTime l D cI cJ cZ y7 _ hc) (va_cwS 1 S.2.2.2.2 (gw_S gw_548 gw_549 gw_56 gw_550) rfl rfl rfl hd_X2_signTime ⟨Nat.le_of_ble_eq_true rfl, Nat.le_of_ble_eq_true rfl⟩) hK hA hw [] (by decide) rfl rfl [none, none, none, none, none, none, none] rfl (by decide) hl.1 rfl rfl (lv_room (Nat.le_of_ble_eq_true rfl)) ⟨Nat.zero_le _, Nat.zero_le _⟩ dX2_workMeasures_126 (fun H locs hw => ?_)
                replace hw : zW D A s H locs (wd_X2_workMeasures cI cJ cZ a_this a_this_costs a_this_nexts a_this_rests a_this_aheads a_this_coming a_this_meanings a_this_meanings_cells a_this_doubts a_this_measureOf a_this_measureOf_cells a_this_times a_this_times_cells v_this_size v_this_states v_this_total y10 v_this_doubtsAreOld f_this_meanings_cells f11 f3) := hw
                obtain ⟨f13, hc, h⟩ := z_b1_e h
                refine z_callVv (As := [.int x6, .int y12]) (rest := []) S (c_X3_put l D cI cJ cZ a_this_times a_this_times_cells 40 f3 x6 y12 _ hc) (cwV 2 S.2.2.2.2 (gw_V gw_533 gw_326 gw_327 gw_53 gw_328) rfl rfl rfl hd_X3_put ⟨Nat.le_of_ble_eq_true rfl, Nat.le_of_ble_eq_true rfl⟩) hK hA hw [5, 6] (by decide) rfl rfl [none, none, none, none, none, some 0, some 1] rfl (by decide) 5 rfl rfl hl.1 rfl rfl (lv_room (Nat.le_of_ble_eq_true rfl)) ⟨Nat.zero_le _, Nat.zero_le _⟩ dX2_workMeasures_129 (fun H locs hw => ?_)
                replace hw : zW D A s H locs (wd_X2_workMeasures cI cJ cZ a_this a_this_costs a_this_nexts a_this_rests a_this_aheads a_this_coming a_this_meanings a_this_meanings_cells a_this_doubts a_this_measureOf a_this_measureOf_cells a_this_times a_this_times_cells v_this_size v_this_states v_this_total y10 v_this_doubtsAreOld f_this_meanings_cells f11 f13) := hw
                refine z_iinc S (i := 3) (k := 3) (v := x6 + 1) hl rfl (by decide) rfl (fun v => (3, .int v) :: [(2, .int x6), (1, .int 1), (0, .ref a_this), (4, .int y7)]) (fun _ => rfl) h dX2_workMeasures_132 (fun y14 ls hl h => ?_)
                replace hl : lv_has ls 5 [(3, .int y14), (2, .int x6), (1, .int 1), (0, .ref a_this), (4, .int y7)] := hl
                refine lv_goto (tgt := 11) S.1 S.2.1 dX2_workMeasures_135 (by decide) ?_
                exact ih_11 y10 f11 f13 1 x6 y14 h _ _ ls hw (lv_sub hl [3, 2, 1, 0] rfl)
              refine z_if_eq S (tgt := 96) h dX2_workMeasures_89 (by decide) (fun h => ?_) (fun h => ?_)
              · refine lv_iconst (v := 1) S.1 S.2.1 dX2_workMeasures_96 (by decide) ?_
                exact J_97 1 h _ _ ls hw (lv_sub hl [1, 4, 0] rfl)
              · refine lv_iconst (v := 0) S.1 S.2.1 dX2_workMeasures_92 (by decide) ?_
                refine lv_goto (tgt := 97) S.1 S.2.1 dX2_workMeasures_93 (by decide) ?_
                exact J_97 0 h _ _ ls hw (lv_sub hl [1, 4, 0] rfl)
          · refine lv_aload_n S.1 S.2.1 dX2_workMeasures_46 rfl (lv_at hl 1 rfl) ?_
            refine z_get S (C := RX2) (T := TX2) (N := 14) (gi gu_X2) hK hw 0 rfl rfl 8 (Nat.le_of_ble_eq_true rfl) (List.mem_cons_of_mem _ gw_190) rfl dX2_workMeasures_47 ?_
            refine lv_iload_n S.1 S.2.1 dX2_workMeasures_50 rfl (lv_at hl 3 rfl) ?_
            refine lv_aload_n S.1 S.2.1 dX2_workMeasures_51 rfl (lv_at hl 1 rfl) ?_
            refine z_get S (C := RX2) (T := TX2) (N := 14) (gi gu_X2) hK hw 0 rfl rfl 8 (Nat.le_of_ble_eq_true rfl) (List.mem_cons_of_mem _ gw_190) rfl dX2_workMeasures_52 ?_
            refine lv_iload_n S.1 S.2.1 dX2_workMeasures_55 rfl (lv_at hl 3 rfl) ?_
            obtain ⟨y15, hc, h⟩ := z_b1_e h
            refine z_callVi (As := [.int x5]) (rest := [.int x5, .ref a_this_times]) S (c_X3_get l D cI cJ cZ a_this_times a_this_times_cells 40 f3 x5 _ hc) (cwV 1 S.2.2.2.2 (gw_V gw_572 gw_342 gw_343 gw_53 gw_344) rfl rfl rfl hd_X3_get ⟨Nat.le_of_ble_eq_true rfl, Nat.le_of_ble_eq_true rfl⟩) hK hA hw [5, 6] (by decide) rfl rfl [none, none, none, none, none, some 0, some 1] rfl (by decide) 5 rfl rfl hl.1 rfl rfl (lv_room (Nat.le_of_ble_eq_true rfl)) ⟨Nat.zero_le _, Nat.zero_le _⟩ dX2_workMeasures_56 (fun H locs hw => ?_)
            replace hw : zW D A s H locs (wd_X2_workMeasures cI cJ cZ a_this a_this_costs a_this_nexts a_this_rests a_this_aheads a_this_coming a_this_meanings a_this_meanings_cells a_this_doubts a_this_measureOf a_this_measureOf_cells a_this_times a_this_times_cells v_this_size v_this_states v_this_total v1 v_this_doubtsAreOld f_this_meanings_cells f2 f3) := hw
            refine lv_aload_n S.1 S.2.1 dX2_workMeasures_59 rfl (lv_at hl 1 rfl) ?_
            refine z_get S (C := RX2) (T := TX2) (N := 14) (gi gu_X2) hK hw 0 rfl rfl 8 (Nat.le_of_ble_eq_true rfl) (List.mem_cons_of_mem _ gw_190) rfl dX2_workMeasures_60 ?_
            refine lv_iload_n S.1 S.2.1 dX2_workMeasures_63 rfl (lv_at hl 3 rfl) ?_
            obtain ⟨y16, hc, h⟩ := z_b1_e h
            refine z_callVi (As := [.int x5]) (rest := [.int y15, .int x5, .ref a_this_times]) S (c_X3_get l D cI cJ cZ a_this_times a_this_times_cells 40 f3 x5 _ hc) (cwV 1 S.2.2.2.2 (gw_V gw_572 gw_342 gw_343 gw_53 gw_344) rfl rfl rfl hd_X3_get ⟨Nat.le_of_ble_eq_true rfl, Nat.le_of_ble_eq_true rfl⟩) hK hA hw [5, 6] (by decide) rfl rfl [none, none, none, none, none, some 0, some 1] rfl (by decide) 5 rfl rfl hl.1 rfl rfl (lv_room (Nat.le_of_ble_eq_true rfl)) ⟨Nat.zero_le _, Nat.zero_le _⟩ dX2_workMeasures_64 (fun H locs hw => ?_)
            replace hw : zW D A s H locs (wd_X2_workMeasures cI cJ cZ a_this a_this_costs a_this_nexts a_this_rests a_this_aheads a_this_coming a_this_meanings a_this_meanings_cells a_this_doubts a_this_measureOf a_this_measureOf_cells a_this_times a_this_times_cells v_this_size v_this_states v_this_total v1 v_this_doubtsAreOld f_this_meanings_cells f2 f3) := hw
            refine lv_iconst (v := 2) S.1 S.2.1 dX2_workMeasures_67 (by decide) ?_
            refine z_idiv S h dX2_workMeasures_68 (fun y17 h => ?_)
            refine lv_iadd S.1 S.2.1 dX2_workMeasures_69 ?_
            obtain ⟨f18, hc, h⟩ := z_b1_e h
            refine z_callVv (As := [.int x5, .int (y15 + y17)]) (rest := []) S (c_X3_put l D cI cJ cZ a_this_times a_this_times_cells 40 f3 x5 (y15 + y17) _ hc) (cwV 2 S.2.2.2.2 (gw_V gw_533 gw_326 gw_327 gw_53 gw_328) rfl rfl rfl hd_X3_put ⟨Nat.le_of_ble_eq_true rfl, Nat.le_of_ble_eq_true rfl⟩) hK hA hw [5, 6] (by decide) rfl rfl [none, none, none, none, none, some 0, some 1] rfl (by decide) 5 rfl rfl hl.1 rfl rfl (lv_room (Nat.le_of_ble_eq_true rfl)) ⟨Nat.zero_le _, Nat.zero_le _⟩ dX2_workMeasures_70 (fun H locs hw => ?_)
            replace hw : zW D A s H locs (wd_X2_workMeasures cI cJ cZ a_this a_this_costs a_this_nexts a_this_rests a_this_aheads a_this_coming a_this_meanings a_this_meanings_cells a_this_doubts a_this_measureOf a_this_measureOf_cells a_this_times a_this_times_cells v_this_size v_this_states v_this_total v1 v_this_doubtsAreOld f_this_meanings_cells f2 f18) := hw
            refine lv_goto (tgt := 132) S.1 S.2.1 dX2_workMeasures_73 (by decide) ?_
            refine z_iinc S (i := 3) (k := 4) (v := x6 + 1) hl rfl (by decide) rfl (fun v => (3, .int v) :: [(4, .int y7), (0, .ref a_this), (1, .int x4), (2, .int x5)]) (fun _ => rfl) h dX2_workMeasures_132 (fun y19 ls hl h => ?_)
            replace hl : lv_has ls 5 [(3, .int y19), (4, .int y7), (0, .ref a_this), (1, .int x4), (2, .int x5)] := hl
            refine lv_goto (tgt := 11) S.1 S.2.1 dX2_workMeasures_135 (by decide) ?_
            exact ih_11 v1 f2 f18 x4 x5 y19 h _ _ ls hw (lv_sub hl [2, 3, 4, 0] rfl)
        · refine lv_iconst (v := 0) S.1 S.2.1 dX2_workMeasures_35 (by decide) ?_
          refine lv_istore_n (lv' := [(1, .int 0), (4, .int y7), (0, .ref a_this), (2, .int x5), (3, .int x6)]) S.1 S.2.1 dX2_workMeasures_36 rfl hl (by decide) rfl (fun ls hl => ?_)
          refine lv_goto (tgt := 132) S.1 S.2.1 dX2_workMeasures_37 (by decide) ?_
          refine z_iinc S (i := 3) (k := 4) (v := x6 + 1) hl rfl (by decide) rfl (fun v => (3, .int v) :: [(1, .int 0), (4, .int y7), (0, .ref a_this), (2, .int x5)]) (fun _ => rfl) h dX2_workMeasures_132 (fun y20 ls hl h => ?_)
          replace hl : lv_has ls 5 [(3, .int y20), (1, .int 0), (4, .int y7), (0, .ref a_this), (2, .int x5)] := hl
          refine lv_goto (tgt := 11) S.1 S.2.1 dX2_workMeasures_135 (by decide) ?_
          exact ih_11 v1 f2 f3 0 x5 y20 h _ _ ls hw (lv_sub hl [3, 1, 4, 0] rfl)
  exact L_11 K 0 f_this_measureOf_cells f_this_times_cells 0 (-1) 0 h _ _ ls hw (lv_sub hl [3, 2, 1, 0] rfl)
theorem gw_515 : Cond.methodLink RX2 62 yX5_size ∈ GW := GW_of 515 (by decide +kernel) (by decide +kernel)
theorem gw_456 : Cond.code yX5_size cX5_size 1 (some .int) ∈ GW := GW_of 456 (by decide +kernel) (by decide +kernel)
theorem gw_454 : Cond.instanceMethod yX5_size ∈ GW := GW_of 454 (by decide +kernel) (by decide +kernel)
theorem gw_455 : Cond.selects RX5 yX5_size yX5_size ∈ GW := GW_of 455 (by decide +kernel) (by decide +kernel)
theorem gw_516 : Cond.methodLink RX2 67 yX2_weigh ∈ GW := GW_of 516 (by decide +kernel) (by decide +kernel)
theorem gw_519 : Cond.code yX2_weigh cX2_weigh 7 none ∈ GW := GW_of 519 (by decide +kernel) (by decide +kernel)
theorem gw_518 : Cond.instanceMethod yX2_weigh ∈ GW := GW_of 518 (by decide +kernel) (by decide +kernel)
theorem gw_15 : Cond.selects RX2 yX2_weigh yX2_weigh ∈ GW := GW_of 15 (by decide +kernel) (by decide +kernel)
theorem gw_534 : Cond.methodLink RX2 71 yX0_time ∈ GW := GW_of 534 (by decide +kernel) (by decide +kernel)
theorem gw_537 : Cond.code yX0_time cX0_time 1 (some .int) ∈ GW := GW_of 537 (by decide +kernel) (by decide +kernel)
theorem gw_535 : Cond.instanceMethod yX0_time ∈ GW := GW_of 535 (by decide +kernel) (by decide +kernel)
theorem gw_536 : Cond.selects RX0 yX0_time yX0_time ∈ GW := GW_of 536 (by decide +kernel) (by decide +kernel)
theorem gw_538 : Cond.methodLink RX2 76 yX2_planStates ∈ GW := GW_of 538 (by decide +kernel) (by decide +kernel)
theorem gw_541 : Cond.code yX2_planStates cX2_planStates 4 none ∈ GW := GW_of 541 (by decide +kernel) (by decide +kernel)
theorem gw_540 : Cond.instanceMethod yX2_planStates ∈ GW := GW_of 540 (by decide +kernel) (by decide +kernel)
theorem gw_16 : Cond.selects RX2 yX2_planStates yX2_planStates ∈ GW := GW_of 16 (by decide +kernel) (by decide +kernel)
theorem gw_560 : Cond.methodLink RX2 80 yX2_workRests ∈ GW := GW_of 560 (by decide +kernel) (by decide +kernel)
theorem gw_563 : Cond.code yX2_workRests cX2_workRests 4 none ∈ GW := GW_of 563 (by decide +kernel) (by decide +kernel)
theorem gw_562 : Cond.instanceMethod yX2_workRests ∈ GW := GW_of 562 (by decide +kernel) (by decide +kernel)
theorem gw_17 : Cond.selects RX2 yX2_workRests yX2_workRests ∈ GW := GW_of 17 (by decide +kernel) (by decide +kernel)
theorem gw_195 : Cond.fieldLink RX2 58 "ScoreReader$Reading" "doubtsAreOld" "Z" ∈ GW := GW_of 195 (by decide +kernel) (by decide +kernel)
theorem gw_574 : Cond.methodLink RX2 87 yX2_stands ∈ GW := GW_of 574 (by decide +kernel) (by decide +kernel)
theorem gw_577 : Cond.code yX2_stands cX2_stands 1 (some .boolean) ∈ GW := GW_of 577 (by decide +kernel) (by decide +kernel)
theorem gw_575 : Cond.instanceMethod yX2_stands ∈ GW := GW_of 575 (by decide +kernel) (by decide +kernel)
theorem gw_576 : Cond.selects RX2 yX2_stands yX2_stands ∈ GW := GW_of 576 (by decide +kernel) (by decide +kernel)
theorem gw_578 : Cond.methodLink RX2 91 yX2_choose ∈ GW := GW_of 578 (by decide +kernel) (by decide +kernel)
theorem gw_581 : Cond.code yX2_choose cX2_choose 4 none ∈ GW := GW_of 581 (by decide +kernel) (by decide +kernel)
theorem gw_580 : Cond.instanceMethod yX2_choose ∈ GW := GW_of 580 (by decide +kernel) (by decide +kernel)
theorem gw_20 : Cond.selects RX2 yX2_choose yX2_choose ∈ GW := GW_of 20 (by decide +kernel) (by decide +kernel)
theorem gw_586 : Cond.methodLink RX2 94 yX2_workMeasures ∈ GW := GW_of 586 (by decide +kernel) (by decide +kernel)
theorem gw_589 : Cond.code yX2_workMeasures cX2_workMeasures 5 none ∈ GW := GW_of 589 (by decide +kernel) (by decide +kernel)
theorem gw_588 : Cond.instanceMethod yX2_workMeasures ∈ GW := GW_of 588 (by decide +kernel) (by decide +kernel)
theorem gw_22 : Cond.selects RX2 yX2_workMeasures yX2_workMeasures ∈ GW := GW_of 22 (by decide +kernel) (by decide +kernel)
def gs_X2_work : List Cond := Cond.code yX2_work cX2_work 3 none :: GW
def wd_X2_work (cI cJ cZ : ClassId) (a_this a_this_costs a_this_costs_cells a_this_nexts a_this_nexts_cells a_this_rests a_this_rests_cells a_this_aheads a_this_coming a_this_meanings a_this_meanings_cells a_this_doubts a_this_measureOf a_this_measureOf_cells a_this_times a_this_times_cells a_p1 a_p1_left a_p1_queue a_p1_facts a_p1_facts_cells a_p1_places a_p1_places_cells a_p1_told a_p1_told_cells a_p2 a_p2_lows a_p2_lows_cells a_p2_highs a_p2_highs_cells a_p2_heights a_p2_heights_cells a_p2_prices a_p2_prices_cells : Nat) (v_this_size : Int32) (v_this_states : Int32) (v_this_total : Int32) (v_this_measures : Int32) (v_this_doubtsAreOld : Int32) (f_this_costs_cells : Nat → Int32) (f_this_nexts_cells : Nat → Int32) (f_this_rests_cells : Nat → Int32) (f_this_meanings_cells : Nat → Int32) (f_this_measureOf_cells : Nat → Int32) (f_this_times_cells : Nat → Int32) (v_p1_size : Int32) (v_p1_sizeBefore : Int32) (f_p1_facts_cells : Nat → Int32) (f_p1_places_cells : Nat → Int32) (f_p1_told_cells : Nat → Int32) (v_p2_dirt : Int32) (v_p2_time : Int32) (f_p2_lows_cells : Nat → Int32) (f_p2_highs_cells : Nat → Int32) (f_p2_heights_cells : Nat → Int32) (f_p2_prices_cells : Nat → Int32) : va_W := ((a_this, .inr (2, [.ref a_this_costs, .ref a_this_nexts, .ref a_this_rests, .ref a_this_aheads, .ref a_this_coming, .ref a_this_meanings, .ref a_this_doubts, .ref a_this_measureOf, .ref a_this_times, .int v_this_size, .int v_this_states, .int v_this_total, .int v_this_measures, .int v_this_doubtsAreOld])) :: (a_this_costs, .inr (3, [.ref a_this_costs_cells])) :: (a_this_costs_cells, .inl (cI, 280, .inl f_this_costs_cells)) :: (a_this_nexts, .inr (3, [.ref a_this_nexts_cells])) :: (a_this_nexts_cells, .inl (cI, 525, .inl f_this_nexts_cells)) :: (a_this_rests, .inr (3, [.ref a_this_rests_cells])) :: (a_this_rests_cells, .inl (cI, 3075, .inl f_this_rests_cells)) :: (a_this_meanings, .inr (3, [.ref a_this_meanings_cells])) :: (a_this_meanings_cells, .inl (cI, 40, .inl f_this_meanings_cells)) :: (a_this_measureOf, .inr (3, [.ref a_this_measureOf_cells])) :: (a_this_measureOf_cells, .inl (cI, 40, .inl f_this_measureOf_cells)) :: (a_this_times, .inr (3, [.ref a_this_times_cells])) :: (a_this_times_cells, .inl (cI, 40, .inl f_this_times_cells)) :: (a_p1, .inr (5, [.ref a_p1_left, .ref a_p1_queue, .ref a_p1_facts, .ref a_p1_places, .ref a_p1_told, .int v_p1_size, .int v_p1_sizeBefore])) :: (a_p1_facts, .inr (3, [.ref a_p1_facts_cells])) :: (a_p1_facts_cells, .inl (cI, 240, .inl f_p1_facts_cells)) :: (a_p1_places, .inr (3, [.ref a_p1_places_cells])) :: (a_p1_places_cells, .inl (cI, 40, .inl f_p1_places_cells)) :: (a_p1_told, .inr (3, [.ref a_p1_told_cells])) :: (a_p1_told_cells, .inl (cI, 40, .inl f_p1_told_cells)) :: (a_p2, .inr (0, [.ref a_p2_lows, .ref a_p2_highs, .ref a_p2_heights, .ref a_p2_prices, .int v_p2_dirt, .int v_p2_time])) :: (a_p2_lows, .inr (3, [.ref a_p2_lows_cells])) :: (a_p2_lows_cells, .inl (cI, 6, .inl f_p2_lows_cells)) :: (a_p2_highs, .inr (3, [.ref a_p2_highs_cells])) :: (a_p2_highs_cells, .inl (cI, 6, .inl f_p2_highs_cells)) :: (a_p2_heights, .inr (3, [.ref a_p2_heights_cells])) :: (a_p2_heights_cells, .inl (cI, 6, .inl f_p2_heights_cells)) :: (a_p2_prices, .inr (3, [.ref a_p2_prices_cells])) :: (a_p2_prices_cells, .inl (cI, 6, .inl f_p2_prices_cells)) :: [])
abbrev rm_X2_work : Room := { frames := 4, cells := 0, slots := 0, locals := 93 }
theorem hd_X2_work : yX2_work.cls = RX2 ∧ yX2_work.cls ≠ "java/lang/invoke/MethodHandle" ∧ yX2_work.cls ≠ "java/lang/invoke/VarHandle" ∧ (parseMethodDescriptor yX2_work.desc).map (fun d => d.parameters.length) = some 2 := by decide +kernel
set_option maxHeartbeats 4000000 in
set_option maxRecDepth 100000 in
theorem c_X2_work (l : Launch) (D : va_G) (cI cJ cZ : ClassId) (a_this a_this_costs a_this_costs_cells a_this_nexts a_this_nexts_cells a_this_rests a_this_rests_cells a_this_aheads a_this_coming a_this_meanings a_this_meanings_cells a_this_doubts a_this_measureOf a_this_measureOf_cells a_this_times a_this_times_cells a_p1 a_p1_left a_p1_queue a_p1_facts a_p1_facts_cells a_p1_places a_p1_places_cells a_p1_told a_p1_told_cells a_p2 a_p2_lows a_p2_lows_cells a_p2_highs a_p2_highs_cells a_p2_heights a_p2_heights_cells a_p2_prices a_p2_prices_cells : Nat) (v_this_size : Int32) (v_this_states : Int32) (v_this_total : Int32) (v_this_measures : Int32) (v_this_doubtsAreOld : Int32) (f_this_costs_cells : Nat → Int32) (f_this_nexts_cells : Nat → Int32) (f_this_rests_cells : Nat → Int32) (f_this_meanings_cells : Nat → Int32) (f_this_measureOf_cells : Nat → Int32) (f_this_times_cells : Nat → Int32) (v_p1_size : Int32) (v_p1_sizeBefore : Int32) (f_p1_facts_cells : Nat → Int32) (f_p1_places_cells : Nat → Int32) (f_p1_told_cells : Nat → Int32) (v_p2_dirt : Int32) (v_p2_time : Int32) (f_p2_lows_cells : Nat → Int32) (f_p2_highs_cells : Nat → Int32) (f_p2_heights_cells : Nat → Int32) (f_p2_prices_cells : Nat → Int32) (K : Nat) (o : Int32 × Int32 × Int32 × Int32 × Int32 × (Nat → Int32) × (Nat → Int32) × (Nat → Int32) × (Nat → Int32) × (Nat → Int32) × (Nat → Int32)) (h : p_X2_work K v_this_size v_this_states v_this_total v_this_measures v_this_doubtsAreOld f_this_costs_cells f_this_nexts_cells f_this_rests_cells f_this_meanings_cells f_this_measureOf_cells f_this_times_cells v_p1_size f_p1_facts_cells f_p1_places_cells f_p1_told_cells v_p2_dirt v_p2_time f_p2_lows_cells f_p2_highs_cells f_p2_heights_cells f_p2_prices_cells = some o) : zMv l D (zT cI cJ cZ) yX2_work gs_X2_work rm_X2_work [.ref a_this, .ref a_p1, .ref a_p2] (wd_X2_work cI cJ cZ a_this a_this_costs a_this_costs_cells a_this_nexts a_this_nexts_cells a_this_rests a_this_rests_cells a_this_aheads a_this_coming a_this_meanings a_this_meanings_cells a_this_doubts a_this_measureOf a_this_measureOf_cells a_this_times a_this_times_cells a_p1 a_p1_left a_p1_queue a_p1_facts a_p1_facts_cells a_p1_places a_p1_places_cells a_p1_told a_p1_told_cells a_p2 a_p2_lows a_p2_lows_cells a_p2_highs a_p2_highs_cells a_p2_heights a_p2_heights_cells a_p2_prices a_p2_prices_cells v_this_size v_this_states v_this_total v_this_measures v_this_doubtsAreOld f_this_costs_cells f_this_nexts_cells f_this_rests_cells f_this_meanings_cells f_this_measureOf_cells f_this_times_cells v_p1_size v_p1_sizeBefore f_p1_facts_cells f_p1_places_cells f_p1_told_cells v_p2_dirt v_p2_time f_p2_lows_cells f_p2_highs_cells f_p2_heights_cells f_p2_prices_cells) (wd_X2_work cI cJ cZ a_this a_this_costs a_this_costs_cells a_this_nexts a_this_nexts_cells a_this_rests a_this_rests_cells a_this_aheads a_this_coming a_this_meanings a_this_meanings_cells a_this_doubts a_this_measureOf a_this_measureOf_cells a_this_times a_this_times_cells a_p1 a_p1_left a_p1_queue a_p1_facts a_p1_facts_cells a_p1_places a_p1_places_cells a_p1_told a_p1_told_cells a_p2 a_p2_lows a_p2_lows_cells a_p2_highs a_p2_highs_cells a_p2_heights a_p2_heights_cells a_p2_prices a_p2_prices_cells (o.1) (o.2.1) (o.2.2.1) (o.2.2.2.1) (o.2.2.2.2.1) (o.2.2.2.2.2.1) (o.2.2.2.2.2.2.1) (o.2.2.2.2.2.2.2.1) (o.2.2.2.2.2.2.2.2.1) (o.2.2.2.2.2.2.2.2.2.1) (o.2.2.2.2.2.2.2.2.2.2) v_p1_size v_p1_sizeBefore f_p1_facts_cells f_p1_places_cells f_p1_told_cells v_p2_dirt v_p2_time f_p2_lows_cells f_p2_highs_cells f_p2_heights_cells f_p2_prices_cells) := by
  refine zMet_v (own := RX2) (fun u : Int32 × Int32 × Int32 × Int32 × Int32 × (Nat → Int32) × (Nat → Int32) × (Nat → Int32) × (Nat → Int32) × (Nat → Int32) × (Nat → Int32) => (wd_X2_work cI cJ cZ a_this a_this_costs a_this_costs_cells a_this_nexts a_this_nexts_cells a_this_rests a_this_rests_cells a_this_aheads a_this_coming a_this_meanings a_this_meanings_cells a_this_doubts a_this_measureOf a_this_measureOf_cells a_this_times a_this_times_cells a_p1 a_p1_left a_p1_queue a_p1_facts a_p1_facts_cells a_p1_places a_p1_places_cells a_p1_told a_p1_told_cells a_p2 a_p2_lows a_p2_lows_cells a_p2_highs a_p2_highs_cells a_p2_heights a_p2_heights_cells a_p2_prices a_p2_prices_cells (u.1) (u.2.1) (u.2.2.1) (u.2.2.2.1) (u.2.2.2.2.1) (u.2.2.2.2.2.1) (u.2.2.2.2.2.2.1) (u.2.2.2.2.2.2.2.1) (u.2.2.2.2.2.2.2.2.1) (u.2.2.2.2.2.2.2.2.2.1) (u.2.2.2.2.2.2.2.2.2.2) v_p1_size v_p1_sizeBefore f_p1_facts_cells f_p1_places_cells f_p1_told_cells v_p2_dirt v_p2_time f_p2_lows_cells f_p2_highs_cells f_p2_heights_cells f_p2_prices_cells)) (by decide) rfl rfl (Nat.le_of_ble_eq_true rfl) ?_
  intro p e s m args below meth c A Q S hK hA hw ret ls hl
  replace hl : lv_has ls 3 [(0, .ref a_this), (1, .ref a_p1), (2, .ref a_p2)] := hl
  refine lv_aload_n S.1 S.2.1 dX2_work_0 rfl (lv_at hl 0 rfl) ?_
  refine lv_aload_n S.1 S.2.1 dX2_work_1 rfl (lv_at hl 1 rfl) ?_
  obtain ⟨y1, hc, h⟩ := z_b1_e h
  refine z_callVi (As := []) (rest := [.ref a_this]) S (c_X5_size l D cI cJ cZ a_p1 a_p1_left a_p1_queue a_p1_facts a_p1_places a_p1_told v_p1_size v_p1_sizeBefore _ hc) (cwV 0 S.2.2.2.2 (gw_V gw_515 gw_454 gw_455 gw_54 gw_456) rfl rfl rfl hd_X5_size ⟨Nat.le_of_ble_eq_true rfl, Nat.le_of_ble_eq_true rfl⟩) hK hA hw [13] (by decide) rfl rfl (none :: none :: none :: none :: none :: none :: none :: none :: none :: none :: none :: none :: none :: some 0 :: none :: none :: none :: none :: none :: none :: none :: none :: none :: none :: none :: none :: none :: none :: none :: []) rfl (by decide) 13 rfl rfl hl.1 rfl rfl (lv_room (Nat.le_of_ble_eq_true rfl)) ⟨Nat.zero_le _, Nat.zero_le _⟩ dX2_work_2 (fun H locs hw => ?_)
  replace hw : zW D A s H locs (wd_X2_work cI cJ cZ a_this a_this_costs a_this_costs_cells a_this_nexts a_this_nexts_cells a_this_rests a_this_rests_cells a_this_aheads a_this_coming a_this_meanings a_this_meanings_cells a_this_doubts a_this_measureOf a_this_measureOf_cells a_this_times a_this_times_cells a_p1 a_p1_left a_p1_queue a_p1_facts a_p1_facts_cells a_p1_places a_p1_places_cells a_p1_told a_p1_told_cells a_p2 a_p2_lows a_p2_lows_cells a_p2_highs a_p2_highs_cells a_p2_heights a_p2_heights_cells a_p2_prices a_p2_prices_cells v_this_size v_this_states v_this_total v_this_measures v_this_doubtsAreOld f_this_costs_cells f_this_nexts_cells f_this_rests_cells f_this_meanings_cells f_this_measureOf_cells f_this_times_cells v_p1_size v_p1_sizeBefore f_p1_facts_cells f_p1_places_cells f_p1_told_cells v_p2_dirt v_p2_time f_p2_lows_cells f_p2_highs_cells f_p2_heights_cells f_p2_prices_cells) := hw
  refine z_put S (C := RX2) (T := TX2) (N := 14) (gi gu_X2) tyX2 tyX2_ok nmX2 hK hw 0 rfl rfl 9 (Nat.le_of_ble_eq_true rfl) (List.mem_cons_of_mem _ gw_191) rfl rfl rfl (Nat.le_of_ble_eq_true rfl) dX2_work_5 (fun H locs hw => ?_)
  replace hw : zW D A s H locs (wd_X2_work cI cJ cZ a_this a_this_costs a_this_costs_cells a_this_nexts a_this_nexts_cells a_this_rests a_this_rests_cells a_this_aheads a_this_coming a_this_meanings a_this_meanings_cells a_this_doubts a_this_measureOf a_this_measureOf_cells a_this_times a_this_times_cells a_p1 a_p1_left a_p1_queue a_p1_facts a_p1_facts_cells a_p1_places a_p1_places_cells a_p1_told a_p1_told_cells a_p2 a_p2_lows a_p2_lows_cells a_p2_highs a_p2_highs_cells a_p2_heights a_p2_heights_cells a_p2_prices a_p2_prices_cells y1 v_this_states v_this_total v_this_measures v_this_doubtsAreOld f_this_costs_cells f_this_nexts_cells f_this_rests_cells f_this_meanings_cells f_this_measureOf_cells f_this_times_cells v_p1_size v_p1_sizeBefore f_p1_facts_cells f_p1_places_cells f_p1_told_cells v_p2_dirt v_p2_time f_p2_lows_cells f_p2_highs_cells f_p2_heights_cells f_p2_prices_cells) := hw
  refine lv_aload_n S.1 S.2.1 dX2_work_8 rfl (lv_at hl 0 rfl) ?_
  refine lv_aload_n S.1 S.2.1 dX2_work_9 rfl (lv_at hl 1 rfl) ?_
  refine lv_aload_n S.1 S.2.1 dX2_work_10 rfl (lv_at hl 2 rfl) ?_
  obtain ⟨f2, hc, h⟩ := z_b1_e h
  refine z_callVv (As := [.ref a_p1, .ref a_p2]) (rest := []) S (c_X2_weigh l D cI cJ cZ a_this a_this_costs a_this_costs_cells a_this_nexts a_this_rests a_this_aheads a_this_coming a_this_meanings a_this_doubts a_this_measureOf a_this_times a_p1 a_p1_left a_p1_queue a_p1_facts a_p1_facts_cells a_p1_places a_p1_places_cells a_p1_told a_p1_told_cells a_p2 a_p2_lows a_p2_lows_cells a_p2_highs a_p2_highs_cells a_p2_heights a_p2_heights_cells a_p2_prices a_p2_prices_cells y1 v_this_states v_this_total v_this_measures v_this_doubtsAreOld f_this_costs_cells v_p1_size v_p1_sizeBefore f_p1_facts_cells f_p1_places_cells f_p1_told_cells v_p2_dirt v_p2_time f_p2_lows_cells f_p2_highs_cells f_p2_heights_cells f_p2_prices_cells K _ hc) (cwV 2 S.2.2.2.2 (gw_V gw_516 gw_518 gw_15 gw_56 gw_519) rfl rfl rfl hd_X2_weigh ⟨Nat.le_of_ble_eq_true rfl, Nat.le_of_ble_eq_true rfl⟩) hK hA hw (0 :: 1 :: 2 :: 13 :: 14 :: 15 :: 16 :: 17 :: 18 :: 19 :: 20 :: 21 :: 22 :: 23 :: 24 :: 25 :: 26 :: 27 :: 28 :: []) (by decide) rfl rfl (some 0 :: some 1 :: some 2 :: none :: none :: none :: none :: none :: none :: none :: none :: none :: none :: some 3 :: some 4 :: some 5 :: some 6 :: some 7 :: some 8 :: some 9 :: some 10 :: some 11 :: some 12 :: some 13 :: some 14 :: some 15 :: some 16 :: some 17 :: some 18 :: []) rfl (by decide) 0 rfl rfl hl.1 rfl rfl (lv_room (Nat.le_of_ble_eq_true rfl)) ⟨Nat.zero_le _, Nat.zero_le _⟩ dX2_work_11 (fun H locs hw => ?_)
  replace hw : zW D A s H locs (wd_X2_work cI cJ cZ a_this a_this_costs a_this_costs_cells a_this_nexts a_this_nexts_cells a_this_rests a_this_rests_cells a_this_aheads a_this_coming a_this_meanings a_this_meanings_cells a_this_doubts a_this_measureOf a_this_measureOf_cells a_this_times a_this_times_cells a_p1 a_p1_left a_p1_queue a_p1_facts a_p1_facts_cells a_p1_places a_p1_places_cells a_p1_told a_p1_told_cells a_p2 a_p2_lows a_p2_lows_cells a_p2_highs a_p2_highs_cells a_p2_heights a_p2_heights_cells a_p2_prices a_p2_prices_cells y1 v_this_states v_this_total v_this_measures v_this_doubtsAreOld f2 f_this_nexts_cells f_this_rests_cells f_this_meanings_cells f_this_measureOf_cells f_this_times_cells v_p1_size v_p1_sizeBefore f_p1_facts_cells f_p1_places_cells f_p1_told_cells v_p2_dirt v_p2_time f_p2_lows_cells f_p2_highs_cells f_p2_heights_cells f_p2_prices_cells) := hw
  refine lv_aload_n S.1 S.2.1 dX2_work_14 rfl (lv_at hl 0 rfl) ?_
  refine lv_aload_n S.1 S.2.1 dX2_work_15 rfl (lv_at hl 2 rfl) ?_
  obtain ⟨y3, hc, h⟩ := z_b1_e h
  refine z_callVi (As := []) (rest := [.ref a_this]) S (c_X0_time l D cI cJ cZ a_p2 a_p2_lows a_p2_highs a_p2_heights a_p2_prices v_p2_dirt v_p2_time _ hc) (cwV 0 S.2.2.2.2 (gw_V gw_534 gw_535 gw_536 gw_55 gw_537) rfl rfl rfl hd_X0_time ⟨Nat.le_of_ble_eq_true rfl, Nat.le_of_ble_eq_true rfl⟩) hK hA hw [20] (by decide) rfl rfl (none :: none :: none :: none :: none :: none :: none :: none :: none :: none :: none :: none :: none :: none :: none :: none :: none :: none :: none :: none :: some 0 :: none :: none :: none :: none :: none :: none :: none :: none :: []) rfl (by decide) 20 rfl rfl hl.1 rfl rfl (lv_room (Nat.le_of_ble_eq_true rfl)) ⟨Nat.zero_le _, Nat.zero_le _⟩ dX2_work_16 (fun H locs hw => ?_)
  replace hw : zW D A s H locs (wd_X2_work cI cJ cZ a_this a_this_costs a_this_costs_cells a_this_nexts a_this_nexts_cells a_this_rests a_this_rests_cells a_this_aheads a_this_coming a_this_meanings a_this_meanings_cells a_this_doubts a_this_measureOf a_this_measureOf_cells a_this_times a_this_times_cells a_p1 a_p1_left a_p1_queue a_p1_facts a_p1_facts_cells a_p1_places a_p1_places_cells a_p1_told a_p1_told_cells a_p2 a_p2_lows a_p2_lows_cells a_p2_highs a_p2_highs_cells a_p2_heights a_p2_heights_cells a_p2_prices a_p2_prices_cells y1 v_this_states v_this_total v_this_measures v_this_doubtsAreOld f2 f_this_nexts_cells f_this_rests_cells f_this_meanings_cells f_this_measureOf_cells f_this_times_cells v_p1_size v_p1_sizeBefore f_p1_facts_cells f_p1_places_cells f_p1_told_cells v_p2_dirt v_p2_time f_p2_lows_cells f_p2_highs_cells f_p2_heights_cells f_p2_prices_cells) := hw
  obtain ⟨v4, f5, hc, h⟩ := z_b2_e h
  refine z_callVv (As := [.int y3]) (rest := []) S (c_X2_planStates l D cI cJ cZ a_this a_this_costs a_this_nexts a_this_nexts_cells a_this_rests a_this_aheads a_this_coming a_this_meanings a_this_doubts a_this_measureOf a_this_times y1 v_this_states v_this_total v_this_measures v_this_doubtsAreOld f_this_nexts_cells K y3 _ hc) (cwV 1 S.2.2.2.2 (gw_V gw_538 gw_540 gw_16 gw_56 gw_541) rfl rfl rfl hd_X2_planStates ⟨Nat.le_of_ble_eq_true rfl, Nat.le_of_ble_eq_true rfl⟩) hK hA hw [0, 3, 4] (by decide) rfl rfl (some 0 :: none :: none :: some 1 :: some 2 :: none :: none :: none :: none :: none :: none :: none :: none :: none :: none :: none :: none :: none :: none :: none :: none :: none :: none :: none :: none :: none :: none :: none :: none :: []) rfl (by decide) 0 rfl rfl hl.1 rfl rfl (lv_room (Nat.le_of_ble_eq_true rfl)) ⟨Nat.zero_le _, Nat.zero_le _⟩ dX2_work_19 (fun H locs hw => ?_)
  replace hw : zW D A s H locs (wd_X2_work cI cJ cZ a_this a_this_costs a_this_costs_cells a_this_nexts a_this_nexts_cells a_this_rests a_this_rests_cells a_this_aheads a_this_coming a_this_meanings a_this_meanings_cells a_this_doubts a_this_measureOf a_this_measureOf_cells a_this_times a_this_times_cells a_p1 a_p1_left a_p1_queue a_p1_facts a_p1_facts_cells a_p1_places a_p1_places_cells a_p1_told a_p1_told_cells a_p2 a_p2_lows a_p2_lows_cells a_p2_highs a_p2_highs_cells a_p2_heights a_p2_heights_cells a_p2_prices a_p2_prices_cells y1 v4 v_this_total v_this_measures v_this_doubtsAreOld f2 f5 f_this_rests_cells f_this_meanings_cells f_this_measureOf_cells f_this_times_cells v_p1_size v_p1_sizeBefore f_p1_facts_cells f_p1_places_cells f_p1_told_cells v_p2_dirt v_p2_time f_p2_lows_cells f_p2_highs_cells f_p2_heights_cells f_p2_prices_cells) := hw
  refine lv_aload_n S.1 S.2.1 dX2_work_22 rfl (lv_at hl 0 rfl) ?_
  refine lv_aload_n S.1 S.2.1 dX2_work_23 rfl (lv_at hl 2 rfl) ?_
  obtain ⟨y6, hc, h⟩ := z_b1_e h
  refine z_callVi (As := []) (rest := [.ref a_this]) S (c_X0_time l D cI cJ cZ a_p2 a_p2_lows a_p2_highs a_p2_heights a_p2_prices v_p2_dirt v_p2_time _ hc) (cwV 0 S.2.2.2.2 (gw_V gw_534 gw_535 gw_536 gw_55 gw_537) rfl rfl rfl hd_X0_time ⟨Nat.le_of_ble_eq_true rfl, Nat.le_of_ble_eq_true rfl⟩) hK hA hw [20] (by decide) rfl rfl (none :: none :: none :: none :: none :: none :: none :: none :: none :: none :: none :: none :: none :: none :: none :: none :: none :: none :: none :: none :: some 0 :: none :: none :: none :: none :: none :: none :: none :: none :: []) rfl (by decide) 20 rfl rfl hl.1 rfl rfl (lv_room (Nat.le_of_ble_eq_true rfl)) ⟨Nat.zero_le _, Nat.zero_le _⟩ dX2_work_24 (fun H locs hw => ?_)
  replace hw : zW D A s H locs (wd_X2_work cI cJ cZ a_this a_this_costs a_this_costs_cells a_this_nexts a_this_nexts_cells a_this_rests a_this_rests_cells a_this_aheads a_this_coming a_this_meanings a_this_meanings_cells a_this_doubts a_this_measureOf a_this_measureOf_cells a_this_times a_this_times_cells a_p1 a_p1_left a_p1_queue a_p1_facts a_p1_facts_cells a_p1_places a_p1_places_cells a_p1_told a_p1_told_cells a_p2 a_p2_lows a_p2_lows_cells a_p2_highs a_p2_highs_cells a_p2_heights a_p2_heights_cells a_p2_prices a_p2_prices_cells y1 v4 v_this_total v_this_measures v_this_doubtsAreOld f2 f5 f_this_rests_cells f_this_meanings_cells f_this_measureOf_cells f_this_times_cells v_p1_size v_p1_sizeBefore f_p1_facts_cells f_p1_places_cells f_p1_told_cells v_p2_dirt v_p2_time f_p2_lows_cells f_p2_highs_cells f_p2_heights_cells f_p2_prices_cells) := hw
  obtain ⟨f7, hc, h⟩ := z_b1_e h
  refine z_callVv (As := [.int y6]) (rest := []) S (c_X2_workRests l D cI cJ cZ a_this a_this_costs a_this_costs_cells a_this_nexts a_this_nexts_cells a_this_rests a_this_rests_cells a_this_aheads a_this_coming a_this_meanings a_this_doubts a_this_measureOf a_this_times y1 v4 v_this_total v_this_measures v_this_doubtsAreOld f2 f5 f_this_rests_cells K y6 _ hc) (cwV 1 S.2.2.2.2 (gw_V gw_560 gw_562 gw_17 gw_56 gw_563) rfl rfl rfl hd_X2_workRests ⟨Nat.le_of_ble_eq_true rfl, Nat.le_of_ble_eq_true rfl⟩) hK hA hw [0, 1, 2, 3, 4, 5, 6] (by decide) rfl rfl (some 0 :: some 1 :: some 2 :: some 3 :: some 4 :: some 5 :: some 6 :: none :: none :: none :: none :: none :: none :: none :: none :: none :: none :: none :: none :: none :: none :: none :: none :: none :: none :: none :: none :: none :: none :: []) rfl (by decide) 0 rfl rfl hl.1 rfl rfl (lv_room (Nat.le_of_ble_eq_true rfl)) ⟨Nat.zero_le _, Nat.zero_le _⟩ dX2_work_27 (fun H locs hw => ?_)
  replace hw : zW D A s H locs (wd_X2_work cI cJ cZ a_this a_this_costs a_this_costs_cells a_this_nexts a_this_nexts_cells a_this_rests a_this_rests_cells a_this_aheads a_this_coming a_this_meanings a_this_meanings_cells a_this_doubts a_this_measureOf a_this_measureOf_cells a_this_times a_this_times_cells a_p1 a_p1_left a_p1_queue a_p1_facts a_p1_facts_cells a_p1_places a_p1_places_cells a_p1_told a_p1_told_cells a_p2 a_p2_lows a_p2_lows_cells a_p2_highs a_p2_highs_cells a_p2_heights a_p2_heights_cells a_p2_prices a_p2_prices_cells y1 v4 v_this_total v_this_measures v_this_doubtsAreOld f2 f5 f7 f_this_meanings_cells f_this_measureOf_cells f_this_times_cells v_p1_size v_p1_sizeBefore f_p1_facts_cells f_p1_places_cells f_p1_told_cells v_p2_dirt v_p2_time f_p2_lows_cells f_p2_highs_cells f_p2_heights_cells f_p2_prices_cells) := hw
  refine lv_aload_n S.1 S.2.1 dX2_work_30 rfl (lv_at hl 0 rfl) ?_
  refine lv_aload_n S.1 S.2.1 dX2_work_31 rfl (lv_at hl 0 rfl) ?_
  refine z_get S (C := RX2) (T := TX2) (N := 14) (gi gu_X2) hK hw 0 rfl rfl 2 (Nat.le_of_ble_eq_true rfl) (List.mem_cons_of_mem _ gw_184) rfl dX2_work_32 ?_
  refine lv_iconst (v := 0) S.1 S.2.1 dX2_work_35 (by decide) ?_
  obtain ⟨y8, hc, h⟩ := z_b1_e h
  refine z_callVi (As := [.int 0]) (rest := [.ref a_this]) S (c_X3_get l D cI cJ cZ a_this_rests a_this_rests_cells 3075 f7 0 _ hc) (cwV 1 S.2.2.2.2 (gw_V gw_572 gw_342 gw_343 gw_53 gw_344) rfl rfl rfl hd_X3_get ⟨Nat.le_of_ble_eq_true rfl, Nat.le_of_ble_eq_true rfl⟩) hK hA hw [5, 6] (by decide) rfl rfl (none :: none :: none :: none :: none :: some 0 :: some 1 :: none :: none :: none :: none :: none :: none :: none :: none :: none :: none :: none :: none :: none :: none :: none :: none :: none :: none :: none :: none :: none :: none :: []) rfl (by decide) 5 rfl rfl hl.1 rfl rfl (lv_room (Nat.le_of_ble_eq_true rfl)) ⟨Nat.zero_le _, Nat.zero_le _⟩ dX2_work_36 (fun H locs hw => ?_)
  replace hw : zW D A s H locs (wd_X2_work cI cJ cZ a_this a_this_costs a_this_costs_cells a_this_nexts a_this_nexts_cells a_this_rests a_this_rests_cells a_this_aheads a_this_coming a_this_meanings a_this_meanings_cells a_this_doubts a_this_measureOf a_this_measureOf_cells a_this_times a_this_times_cells a_p1 a_p1_left a_p1_queue a_p1_facts a_p1_facts_cells a_p1_places a_p1_places_cells a_p1_told a_p1_told_cells a_p2 a_p2_lows a_p2_lows_cells a_p2_highs a_p2_highs_cells a_p2_heights a_p2_heights_cells a_p2_prices a_p2_prices_cells y1 v4 v_this_total v_this_measures v_this_doubtsAreOld f2 f5 f7 f_this_meanings_cells f_this_measureOf_cells f_this_times_cells v_p1_size v_p1_sizeBefore f_p1_facts_cells f_p1_places_cells f_p1_told_cells v_p2_dirt v_p2_time f_p2_lows_cells f_p2_highs_cells f_p2_heights_cells f_p2_prices_cells) := hw
  refine z_put S (C := RX2) (T := TX2) (N := 14) (gi gu_X2) tyX2 tyX2_ok nmX2 hK hw 0 rfl rfl 11 (Nat.le_of_ble_eq_true rfl) (List.mem_cons_of_mem _ gw_193) rfl rfl rfl (Nat.le_of_ble_eq_true rfl) dX2_work_39 (fun H locs hw => ?_)
  replace hw : zW D A s H locs (wd_X2_work cI cJ cZ a_this a_this_costs a_this_costs_cells a_this_nexts a_this_nexts_cells a_this_rests a_this_rests_cells a_this_aheads a_this_coming a_this_meanings a_this_meanings_cells a_this_doubts a_this_measureOf a_this_measureOf_cells a_this_times a_this_times_cells a_p1 a_p1_left a_p1_queue a_p1_facts a_p1_facts_cells a_p1_places a_p1_places_cells a_p1_told a_p1_told_cells a_p2 a_p2_lows a_p2_lows_cells a_p2_highs a_p2_highs_cells a_p2_heights a_p2_heights_cells a_p2_prices a_p2_prices_cells y1 v4 y8 v_this_measures v_this_doubtsAreOld f2 f5 f7 f_this_meanings_cells f_this_measureOf_cells f_this_times_cells v_p1_size v_p1_sizeBefore f_p1_facts_cells f_p1_places_cells f_p1_told_cells v_p2_dirt v_p2_time f_p2_lows_cells f_p2_highs_cells f_p2_heights_cells f_p2_prices_cells) := hw
  refine lv_aload_n S.1 S.2.1 dX2_work_42 rfl (lv_at hl 0 rfl) ?_
  refine lv_iconst (v := 1) S.1 S.2.1 dX2_work_43 (by decide) ?_
  refine z_put S (C := RX2) (T := TX2) (N := 14) (gi gu_X2) tyX2 tyX2_ok nmX2 hK hw 0 rfl rfl 13 (Nat.le_of_ble_eq_true rfl) (List.mem_cons_of_mem _ gw_195) rfl rfl rfl (Nat.le_of_ble_eq_true rfl) dX2_work_44 (fun H locs hw => ?_)
  replace hw : zW D A s H locs (wd_X2_work cI cJ cZ a_this a_this_costs a_this_costs_cells a_this_nexts a_this_nexts_cells a_this_rests a_this_rests_cells a_this_aheads a_this_coming a_this_meanings a_this_meanings_cells a_this_doubts a_this_measureOf a_this_measureOf_cells a_this_times a_this_times_cells a_p1 a_p1_left a_p1_queue a_p1_facts a_p1_facts_cells a_p1_places a_p1_places_cells a_p1_told a_p1_told_cells a_p2 a_p2_lows a_p2_lows_cells a_p2_highs a_p2_highs_cells a_p2_heights a_p2_heights_cells a_p2_prices a_p2_prices_cells y1 v4 y8 v_this_measures 1 f2 f5 f7 f_this_meanings_cells f_this_measureOf_cells f_this_times_cells v_p1_size v_p1_sizeBefore f_p1_facts_cells f_p1_places_cells f_p1_told_cells v_p2_dirt v_p2_time f_p2_lows_cells f_p2_highs_cells f_p2_heights_cells f_p2_prices_cells) := hw
  refine lv_aload_n S.1 S.2.1 dX2_work_47 rfl (lv_at hl 0 rfl) ?_
  obtain ⟨y9, hc, h⟩ := z_b1_e h
  refine z_callVi (As := []) (rest := []) S (c_X2_stands l D cI cJ cZ a_this a_this_costs a_this_nexts a_this_rests a_this_aheads a_this_coming a_this_meanings a_this_doubts a_this_measureOf a_this_times y1 v4 y8 v_this_measures 1 _ hc) (cwV 0 S.2.2.2.2 (gw_V gw_574 gw_575 gw_576 gw_56 gw_577) rfl rfl rfl hd_X2_stands ⟨Nat.le_of_ble_eq_true rfl, Nat.le_of_ble_eq_true rfl⟩) hK hA hw [0] (by decide) rfl rfl (some 0 :: none :: none :: none :: none :: none :: none :: none :: none :: none :: none :: none :: none :: none :: none :: none :: none :: none :: none :: none :: none :: none :: none :: none :: none :: none :: none :: none :: none :: []) rfl (by decide) 0 rfl rfl hl.1 rfl rfl (lv_room (Nat.le_of_ble_eq_true rfl)) ⟨Nat.zero_le _, Nat.zero_le _⟩ dX2_work_48 (fun H locs hw => ?_)
  replace hw : zW D A s H locs (wd_X2_work cI cJ cZ a_this a_this_costs a_this_costs_cells a_this_nexts a_this_nexts_cells a_this_rests a_this_rests_cells a_this_aheads a_this_coming a_this_meanings a_this_meanings_cells a_this_doubts a_this_measureOf a_this_measureOf_cells a_this_times a_this_times_cells a_p1 a_p1_left a_p1_queue a_p1_facts a_p1_facts_cells a_p1_places a_p1_places_cells a_p1_told a_p1_told_cells a_p2 a_p2_lows a_p2_lows_cells a_p2_highs a_p2_highs_cells a_p2_heights a_p2_heights_cells a_p2_prices a_p2_prices_cells y1 v4 y8 v_this_measures 1 f2 f5 f7 f_this_meanings_cells f_this_measureOf_cells f_this_times_cells v_p1_size v_p1_sizeBefore f_p1_facts_cells f_p1_places_cells f_p1_told_cells v_p2_dirt v_p2_time f_p2_lows_cells f_p2_highs_cells f_p2_heights_cells f_p2_prices_cells) := hw
  refine z_if_eq S (tgt := 62) h dX2_work_51 (by decide) (fun h => ?_) (fun h => ?_)
  · exact ret (y1, v4, y8, v_this_measures, 1, f2, f5, f7, f_this_meanings_cells, f_this_measureOf_cells, f_this_times_cells) h 62 ls _ _ dX2_work_62 hw
  · refine lv_aload_n S.1 S.2.1 dX2_work_54 rfl (lv_at hl 0 rfl) ?_
    obtain ⟨f10, hc, h⟩ := z_b1_e h
    refine z_callVv (As := []) (rest := []) S (c_X2_choose l D cI cJ cZ a_this a_this_costs a_this_costs_cells a_this_nexts a_this_nexts_cells a_this_rests a_this_rests_cells a_this_aheads a_this_coming a_this_meanings a_this_meanings_cells a_this_doubts a_this_measureOf a_this_times y1 v4 y8 v_this_measures 1 f2 f5 f7 f_this_meanings_cells K _ hc) (cwV 0 S.2.2.2.2 (gw_V gw_578 gw_580 gw_20 gw_56 gw_581) rfl rfl rfl hd_X2_choose ⟨Nat.le_of_ble_eq_true rfl, Nat.le_of_ble_eq_true rfl⟩) hK hA hw [0, 1, 2, 3, 4, 5, 6, 7, 8] (by decide) rfl rfl (some 0 :: some 1 :: some 2 :: some 3 :: some 4 :: some 5 :: some 6 :: some 7 :: some 8 :: none :: none :: none :: none :: none :: none :: none :: none :: none :: none :: none :: none :: none :: none :: none :: none :: none :: none :: none :: none :: []) rfl (by decide) 0 rfl rfl hl.1 rfl rfl (lv_room (Nat.le_of_ble_eq_true rfl)) ⟨Nat.zero_le _, Nat.zero_le _⟩ dX2_work_55 (fun H locs hw => ?_)
    replace hw : zW D A s H locs (wd_X2_work cI cJ cZ a_this a_this_costs a_this_costs_cells a_this_nexts a_this_nexts_cells a_this_rests a_this_rests_cells a_this_aheads a_this_coming a_this_meanings a_this_meanings_cells a_this_doubts a_this_measureOf a_this_measureOf_cells a_this_times a_this_times_cells a_p1 a_p1_left a_p1_queue a_p1_facts a_p1_facts_cells a_p1_places a_p1_places_cells a_p1_told a_p1_told_cells a_p2 a_p2_lows a_p2_lows_cells a_p2_highs a_p2_highs_cells a_p2_heights a_p2_heights_cells a_p2_prices a_p2_prices_cells y1 v4 y8 v_this_measures 1 f2 f5 f7 f10 f_this_measureOf_cells f_this_times_cells v_p1_size v_p1_sizeBefore f_p1_facts_cells f_p1_places_cells f_p1_told_cells v_p2_dirt v_p2_time f_p2_lows_cells f_p2_highs_cells f_p2_heights_cells f_p2_prices_cells) := hw
    refine lv_aload_n S.1 S.2.1 dX2_work_58 rfl (lv_at hl 0 rfl) ?_
    obtain ⟨v11, f12, f13, hc, h⟩ := z_b3_e h
    refine z_callVv (As := []) (rest := []) S (c_X2_workMeasures l D cI cJ cZ a_this a_this_costs a_this_nexts a_this_rests a_this_aheads a_this_coming a_this_meanings a_this_meanings_cells a_this_doubts a_this_measureOf a_this_measureOf_cells a_this_times a_this_times_cells y1 v4 y8 v_this_measures 1 f10 f_this_measureOf_cells f_this_times_cells K _ hc) (cwV 0 S.2.2.2.2 (gw_V gw_586 gw_588 gw_22 gw_56 gw_589) rfl rfl rfl hd_X2_workMeasures ⟨Nat.le_of_ble_eq_true rfl, Nat.le_of_ble_eq_true rfl⟩) hK hA hw [0, 7, 8, 9, 10, 11, 12] (by decide) rfl rfl (some 0 :: none :: none :: none :: none :: none :: none :: some 1 :: some 2 :: some 3 :: some 4 :: some 5 :: some 6 :: none :: none :: none :: none :: none :: none :: none :: none :: none :: none :: none :: none :: none :: none :: none :: none :: []) rfl (by decide) 0 rfl rfl hl.1 rfl rfl (lv_room (Nat.le_of_ble_eq_true rfl)) ⟨Nat.zero_le _, Nat.zero_le _⟩ dX2_work_59 (fun H locs hw => ?_)
    replace hw : zW D A s H locs (wd_X2_work cI cJ cZ a_this a_this_costs a_this_costs_cells a_this_nexts a_this_nexts_cells a_this_rests a_this_rests_cells a_this_aheads a_this_coming a_this_meanings a_this_meanings_cells a_this_doubts a_this_measureOf a_this_measureOf_cells a_this_times a_this_times_cells a_p1 a_p1_left a_p1_queue a_p1_facts a_p1_facts_cells a_p1_places a_p1_places_cells a_p1_told a_p1_told_cells a_p2 a_p2_lows a_p2_lows_cells a_p2_highs a_p2_highs_cells a_p2_heights a_p2_heights_cells a_p2_prices a_p2_prices_cells y1 v4 y8 v11 1 f2 f5 f7 f10 f12 f13 v_p1_size v_p1_sizeBefore f_p1_facts_cells f_p1_places_cells f_p1_told_cells v_p2_dirt v_p2_time f_p2_lows_cells f_p2_highs_cells f_p2_heights_cells f_p2_prices_cells) := hw
    exact ret (y1, v4, y8, v11, 1, f2, f5, f7, f10, f12, f13) h 62 ls _ _ dX2_work_62 hw
theorem gw_185 : Cond.fieldLink RX2 27 "ScoreReader$Reading" "aheads" "LScoreReader$Row;" ∈ GW := GW_of 185 (by decide +kernel) (by decide +kernel)
def gs_X2_leastOther : List Cond := Cond.code yX2_leastOther cX2_leastOther 4 (some .int) :: GW
def wd_X2_leastOther (cI cJ cZ : ClassId) (a_this a_this_costs a_this_costs_cells a_this_nexts a_this_nexts_cells a_this_rests a_this_rests_cells a_this_aheads a_this_aheads_cells a_this_coming a_this_meanings a_this_meanings_cells a_this_doubts a_this_measureOf a_this_times : Nat) (v_this_size : Int32) (v_this_states : Int32) (v_this_total : Int32) (v_this_measures : Int32) (v_this_doubtsAreOld : Int32) (f_this_costs_cells : Nat → Int32) (f_this_nexts_cells : Nat → Int32) (f_this_rests_cells : Nat → Int32) (f_this_aheads_cells : Nat → Int32) (f_this_meanings_cells : Nat → Int32) : va_W := [(a_this, .inr (2, [.ref a_this_costs, .ref a_this_nexts, .ref a_this_rests, .ref a_this_aheads, .ref a_this_coming, .ref a_this_meanings, .ref a_this_doubts, .ref a_this_measureOf, .ref a_this_times, .int v_this_size, .int v_this_states, .int v_this_total, .int v_this_measures, .int v_this_doubtsAreOld])), (a_this_costs, .inr (3, [.ref a_this_costs_cells])), (a_this_costs_cells, .inl (cI, 280, .inl f_this_costs_cells)), (a_this_nexts, .inr (3, [.ref a_this_nexts_cells])), (a_this_nexts_cells, .inl (cI, 525, .inl f_this_nexts_cells)), (a_this_rests, .inr (3, [.ref a_this_rests_cells])), (a_this_rests_cells, .inl (cI, 3075, .inl f_this_rests_cells)), (a_this_aheads, .inr (3, [.ref a_this_aheads_cells])), (a_this_aheads_cells, .inl (cI, 75, .inl f_this_aheads_cells)), (a_this_meanings, .inr (3, [.ref a_this_meanings_cells])), (a_this_meanings_cells, .inl (cI, 40, .inl f_this_meanings_cells))]
abbrev rm_X2_leastOther : Room := { frames := 3, cells := 0, slots := 0, locals := 70 }
theorem hd_X2_leastOther : yX2_leastOther.cls = RX2 ∧ yX2_leastOther.cls ≠ "java/lang/invoke/MethodHandle" ∧ yX2_leastOther.cls ≠ "java/lang/invoke/VarHandle" ∧ (parseMethodDescriptor yX2_leastOther.desc).map (fun d => d.parameters.length) = some 1 := by decide +kernel
set_option maxHeartbeats 4000000 in
set_option maxRecDepth 100000 in
theorem c_X2_leastOther (l : Launch) (D : va_G) (cI cJ cZ : ClassId) (a_this a_this_costs a_this_costs_cells a_this_nexts a_this_nexts_cells a_this_rests a_this_rests_cells a_this_aheads a_this_aheads_cells a_this_coming a_this_meanings a_this_meanings_cells a_this_doubts a_this_measureOf a_this_times : Nat) (v_this_size : Int32) (v_this_states : Int32) (v_this_total : Int32) (v_this_measures : Int32) (v_this_doubtsAreOld : Int32) (f_this_costs_cells : Nat → Int32) (f_this_nexts_cells : Nat → Int32) (f_this_rests_cells : Nat → Int32) (f_this_aheads_cells : Nat → Int32) (f_this_meanings_cells : Nat → Int32) (K : Nat) (i1 : Int32) (o : Int32) (h : p_X2_leastOther K v_this_states f_this_costs_cells f_this_nexts_cells f_this_rests_cells f_this_aheads_cells f_this_meanings_cells i1 = some o) : zMi l D (zT cI cJ cZ) yX2_leastOther gs_X2_leastOther rm_X2_leastOther [.ref a_this, .int i1] (wd_X2_leastOther cI cJ cZ a_this a_this_costs a_this_costs_cells a_this_nexts a_this_nexts_cells a_this_rests a_this_rests_cells a_this_aheads a_this_aheads_cells a_this_coming a_this_meanings a_this_meanings_cells a_this_doubts a_this_measureOf a_this_times v_this_size v_this_states v_this_total v_this_measures v_this_doubtsAreOld f_this_costs_cells f_this_nexts_cells f_this_rests_cells f_this_aheads_cells f_this_meanings_cells) (wd_X2_leastOther cI cJ cZ a_this a_this_costs a_this_costs_cells a_this_nexts a_this_nexts_cells a_this_rests a_this_rests_cells a_this_aheads a_this_aheads_cells a_this_coming a_this_meanings a_this_meanings_cells a_this_doubts a_this_measureOf a_this_times v_this_size v_this_states v_this_total v_this_measures v_this_doubtsAreOld f_this_costs_cells f_this_nexts_cells f_this_rests_cells f_this_aheads_cells f_this_meanings_cells) (o) := by
  refine zMet_i (own := RX2) (fun u : Int32 => (wd_X2_leastOther cI cJ cZ a_this a_this_costs a_this_costs_cells a_this_nexts a_this_nexts_cells a_this_rests a_this_rests_cells a_this_aheads a_this_aheads_cells a_this_coming a_this_meanings a_this_meanings_cells a_this_doubts a_this_measureOf a_this_times v_this_size v_this_states v_this_total v_this_measures v_this_doubtsAreOld f_this_costs_cells f_this_nexts_cells f_this_rests_cells f_this_aheads_cells f_this_meanings_cells)) (fun u : Int32 => u) (by decide) rfl rfl (Nat.le_of_ble_eq_true rfl) ?_
  intro p e s m args below meth c A Q S hK hA hw ret ls hl
  replace hl : lv_has ls 4 [(0, .ref a_this), (1, .int i1)] := hl
  refine lv_ldc (v := 1000000) S.1 S.2.1 S.2.2.2.1 (S.2.2.2.2 _ (List.mem_cons_of_mem _ gw_181)) dX2_leastOther_0 ?_
  refine lv_istore_n (lv' := [(2, .int 1000000), (0, .ref a_this), (1, .int i1)]) S.1 S.2.1 dX2_leastOther_2 rfl hl (by decide) rfl (fun ls hl => ?_)
  refine lv_iconst (v := 0) S.1 S.2.1 dX2_leastOther_3 (by decide) ?_
  refine lv_istore_n (lv' := [(3, .int 0), (2, .int 1000000), (0, .ref a_this), (1, .int i1)]) S.1 S.2.1 dX2_leastOther_4 rfl hl (by decide) rfl (fun ls hl => ?_)
  have L_5 : ∀ (n5_2 : Nat) (x1 : Int32) (x2 : Int32) (h : z_lp2 (p_X2_leastOther_l5 v_this_states f_this_aheads_cells f_this_meanings_cells i1 K f_this_costs_cells f_this_nexts_cells f_this_rests_cells) n5_2 x1 x2 = some o) (H : Heap) (locs : List Loc) (ls : Array Slot), zW D A s H locs (wd_X2_leastOther cI cJ cZ a_this a_this_costs a_this_costs_cells a_this_nexts a_this_nexts_cells a_this_rests a_this_rests_cells a_this_aheads a_this_aheads_cells a_this_coming a_this_meanings a_this_meanings_cells a_this_doubts a_this_measureOf a_this_times v_this_size v_this_states v_this_total v_this_measures v_this_doubtsAreOld f_this_costs_cells f_this_nexts_cells f_this_rests_cells f_this_aheads_cells f_this_meanings_cells) → lv_has ls 4 [(0, .ref a_this), (1, .int i1), (2, .int x1), (3, .int x2)] → W p l e (headSpec gs_X2_leastOther rm_X2_leastOther).room s m args below meth c H locs 0 0 Q (F0 m 5 ls []) := by
    intro n5_2
    induction n5_2 with
    | zero => intro x1 x2 h; exact z_no h
    | succ n5_2 ih_5 =>
      intro x1 x2 h H locs ls hw hl
      replace h : (p_X2_leastOther_l5 v_this_states f_this_aheads_cells f_this_meanings_cells i1 K f_this_costs_cells f_this_nexts_cells f_this_rests_cells) (z_lp2 (p_X2_leastOther_l5 v_this_states f_this_aheads_cells f_this_meanings_cells i1 K f_this_costs_cells f_this_nexts_cells f_this_rests_cells) n5_2) x1 x2 = some o := h
      refine lv_iload_n S.1 S.2.1 dX2_leastOther_5 rfl (lv_at hl 3 rfl) ?_
      refine lv_aload_n S.1 S.2.1 dX2_leastOther_6 rfl (lv_at hl 0 rfl) ?_
      refine z_get S (C := RX2) (T := TX2) (N := 14) (gi gu_X2) hK hw 0 rfl rfl 10 (Nat.le_of_ble_eq_true rfl) (List.mem_cons_of_mem _ gw_192) rfl dX2_leastOther_7 ?_
      refine z_icmp_ge S (tgt := 60) h dX2_leastOther_10 (by decide) (fun h => ?_) (fun h => ?_)
      · refine lv_iload_n S.1 S.2.1 dX2_leastOther_60 rfl (lv_at hl 2 rfl) ?_
        exact ret x1 h 61 ls _ _ dX2_leastOther_61 hw
      · refine lv_aload_n S.1 S.2.1 dX2_leastOther_13 rfl (lv_at hl 0 rfl) ?_
        refine z_get S (C := RX2) (T := TX2) (N := 14) (gi gu_X2) hK hw 0 rfl rfl 3 (Nat.le_of_ble_eq_true rfl) (List.mem_cons_of_mem _ gw_185) rfl dX2_leastOther_14 ?_
        refine lv_iload_n S.1 S.2.1 dX2_leastOther_17 rfl (lv_at hl 3 rfl) ?_
        obtain ⟨y3, hc, h⟩ := z_b1_e h
        refine z_callVi (As := [.int x2]) (rest := []) S (c_X3_get l D cI cJ cZ a_this_aheads a_this_aheads_cells 75 f_this_aheads_cells x2 _ hc) (cwV 1 S.2.2.2.2 (gw_V gw_572 gw_342 gw_343 gw_53 gw_344) rfl rfl rfl hd_X3_get ⟨Nat.le_of_ble_eq_true rfl, Nat.le_of_ble_eq_true rfl⟩) hK hA hw [7, 8] (by decide) rfl rfl [none, none, none, none, none, none, none, some 0, some 1, none, none] rfl (by decide) 7 rfl rfl hl.1 rfl rfl (lv_room (Nat.le_of_ble_eq_true rfl)) ⟨Nat.zero_le _, Nat.zero_le _⟩ dX2_leastOther_18 (fun H locs hw => ?_)
        replace hw : zW D A s H locs (wd_X2_leastOther cI cJ cZ a_this a_this_costs a_this_costs_cells a_this_nexts a_this_nexts_cells a_this_rests a_this_rests_cells a_this_aheads a_this_aheads_cells a_this_coming a_this_meanings a_this_meanings_cells a_this_doubts a_this_measureOf a_this_times v_this_size v_this_states v_this_total v_this_measures v_this_doubtsAreOld f_this_costs_cells f_this_nexts_cells f_this_rests_cells f_this_aheads_cells f_this_meanings_cells) := hw
        refine lv_ldc (v := 1000000) S.1 S.2.1 S.2.2.2.1 (S.2.2.2.2 _ (List.mem_cons_of_mem _ gw_181)) dX2_leastOther_21 ?_
        refine z_icmp_ge S (tgt := 54) h dX2_leastOther_23 (by decide) (fun h => ?_) (fun h => ?_)
        · refine z_iinc S (i := 3) (k := 3) (v := x2 + 1) hl rfl (by decide) rfl (fun v => (3, .int v) :: [(0, .ref a_this), (1, .int i1), (2, .int x1)]) (fun _ => rfl) h dX2_leastOther_54 (fun y4 ls hl h => ?_)
          replace hl : lv_has ls 4 [(3, .int y4), (0, .ref a_this), (1, .int i1), (2, .int x1)] := hl
          refine lv_goto (tgt := 5) S.1 S.2.1 dX2_leastOther_57 (by decide) ?_
          exact ih_5 x1 y4 h _ _ ls hw (lv_sub hl [1, 2, 3, 0] rfl)
        · refine lv_iload_n S.1 S.2.1 dX2_leastOther_26 rfl (lv_at hl 2 rfl) ?_
          refine lv_aload_n S.1 S.2.1 dX2_leastOther_27 rfl (lv_at hl 0 rfl) ?_
          refine z_get S (C := RX2) (T := TX2) (N := 14) (gi gu_X2) hK hw 0 rfl rfl 3 (Nat.le_of_ble_eq_true rfl) (List.mem_cons_of_mem _ gw_185) rfl dX2_leastOther_28 ?_
          refine lv_iload_n S.1 S.2.1 dX2_leastOther_31 rfl (lv_at hl 3 rfl) ?_
          obtain ⟨y5, hc, h⟩ := z_b1_e h
          refine z_callVi (As := [.int x2]) (rest := [.int x1]) S (c_X3_get l D cI cJ cZ a_this_aheads a_this_aheads_cells 75 f_this_aheads_cells x2 _ hc) (cwV 1 S.2.2.2.2 (gw_V gw_572 gw_342 gw_343 gw_53 gw_344) rfl rfl rfl hd_X3_get ⟨Nat.le_of_ble_eq_true rfl, Nat.le_of_ble_eq_true rfl⟩) hK hA hw [7, 8] (by decide) rfl rfl [none, none, none, none, none, none, none, some 0, some 1, none, none] rfl (by decide) 7 rfl rfl hl.1 rfl rfl (lv_room (Nat.le_of_ble_eq_true rfl)) ⟨Nat.zero_le _, Nat.zero_le _⟩ dX2_leastOther_32 (fun H locs hw => ?_)
          replace hw : zW D A s H locs (wd_X2_leastOther cI cJ cZ a_this a_this_costs a_this_costs_cells a_this_nexts a_this_nexts_cells a_this_rests a_this_rests_cells a_this_aheads a_this_aheads_cells a_this_coming a_this_meanings a_this_meanings_cells a_this_doubts a_this_measureOf a_this_times v_this_size v_this_states v_this_total v_this_measures v_this_doubtsAreOld f_this_costs_cells f_this_nexts_cells f_this_rests_cells f_this_aheads_cells f_this_meanings_cells) := hw
          refine lv_aload_n S.1 S.2.1 dX2_leastOther_35 rfl (lv_at hl 0 rfl) ?_
          refine lv_iload_n S.1 S.2.1 dX2_leastOther_36 rfl (lv_at hl 1 rfl) ?_
          refine lv_iload_n S.1 S.2.1 dX2_leastOther_37 rfl (lv_at hl 3 rfl) ?_
          refine lv_aload_n S.1 S.2.1 dX2_leastOther_38 rfl (lv_at hl 0 rfl) ?_
          refine z_get S (C := RX2) (T := TX2) (N := 14) (gi gu_X2) hK hw 0 rfl rfl 5 (Nat.le_of_ble_eq_true rfl) (List.mem_cons_of_mem _ gw_187) rfl dX2_leastOther_39 ?_
          refine lv_iload_n S.1 S.2.1 dX2_leastOther_42 rfl (lv_at hl 1 rfl) ?_
          obtain ⟨y6, hc, h⟩ := z_b1_e h
          refine z_callVi (As := [.int i1]) (rest := [.int x2, .int i1, .ref a_this, .int y5, .int x1]) S (c_X3_get l D cI cJ cZ a_this_meanings a_this_meanings_cells 40 f_this_meanings_cells i1 _ hc) (cwV 1 S.2.2.2.2 (gw_V gw_572 gw_342 gw_343 gw_53 gw_344) rfl rfl rfl hd_X3_get ⟨Nat.le_of_ble_eq_true rfl, Nat.le_of_ble_eq_true rfl⟩) hK hA hw [9, 10] (by decide) rfl rfl [none, none, none, none, none, none, none, none, none, some 0, some 1] rfl (by decide) 9 rfl rfl hl.1 rfl rfl (lv_room (Nat.le_of_ble_eq_true rfl)) ⟨Nat.zero_le _, Nat.zero_le _⟩ dX2_leastOther_43 (fun H locs hw => ?_)
          replace hw : zW D A s H locs (wd_X2_leastOther cI cJ cZ a_this a_this_costs a_this_costs_cells a_this_nexts a_this_nexts_cells a_this_rests a_this_rests_cells a_this_aheads a_this_aheads_cells a_this_coming a_this_meanings a_this_meanings_cells a_this_doubts a_this_measureOf a_this_times v_this_size v_this_states v_this_total v_this_measures v_this_doubtsAreOld f_this_costs_cells f_this_nexts_cells f_this_rests_cells f_this_aheads_cells f_this_meanings_cells) := hw
          obtain ⟨y7, hc, h⟩ := z_b1_e h
          refine z_callVi (As := [.int i1, .int x2, .int y6]) (rest := [.int y5, .int x1]) S (c_X2_leastFrom l D cI cJ cZ a_this a_this_costs a_this_costs_cells a_this_nexts a_this_nexts_cells a_this_rests a_this_rests_cells a_this_aheads a_this_coming a_this_meanings a_this_doubts a_this_measureOf a_this_times v_this_size v_this_states v_this_total v_this_measures v_this_doubtsAreOld f_this_costs_cells f_this_nexts_cells f_this_rests_cells K i1 x2 y6 _ hc) (cwV 3 S.2.2.2.2 (gw_V gw_564 gw_566 gw_18 gw_56 gw_567) rfl rfl rfl hd_X2_leastFrom ⟨Nat.le_of_ble_eq_true rfl, Nat.le_of_ble_eq_true rfl⟩) hK hA hw [0, 1, 2, 3, 4, 5, 6] (by decide) rfl rfl [some 0, some 1, some 2, some 3, some 4, some 5, some 6, none, none, none, none] rfl (by decide) 0 rfl rfl hl.1 rfl rfl (lv_room (Nat.le_of_ble_eq_true rfl)) ⟨Nat.zero_le _, Nat.zero_le _⟩ dX2_leastOther_46 (fun H locs hw => ?_)
          replace hw : zW D A s H locs (wd_X2_leastOther cI cJ cZ a_this a_this_costs a_this_costs_cells a_this_nexts a_this_nexts_cells a_this_rests a_this_rests_cells a_this_aheads a_this_aheads_cells a_this_coming a_this_meanings a_this_meanings_cells a_this_doubts a_this_measureOf a_this_times v_this_size v_this_states v_this_total v_this_measures v_this_doubtsAreOld f_this_costs_cells f_this_nexts_cells f_this_rests_cells f_this_aheads_cells f_this_meanings_cells) := hw
          refine lv_iadd S.1 S.2.1 dX2_leastOther_49 ?_
          obtain ⟨y8, hc, h⟩ := z_b1_e h
          refine z_callSi (As := [.int x1, .int (y5 + y7)]) (rest := []) S (c_J9_min_7cf53 l D cI cJ cZ x1 (y5 + y7) _ hc) (va_cwS 2 S.2.2.2.2 (gw_S gw_573 gw_346 gw_60 gw_347) rfl rfl rfl hd_J9_min_7cf53 ⟨Nat.le_of_ble_eq_true rfl, Nat.le_of_ble_eq_true rfl⟩) hK hA hw [] (by decide) rfl rfl [none, none, none, none, none, none, none, none, none, none, none] rfl (by decide) hl.1 rfl rfl (lv_room (Nat.le_of_ble_eq_true rfl)) ⟨Nat.zero_le _, Nat.zero_le _⟩ dX2_leastOther_50 (fun H locs hw => ?_)
          replace hw : zW D A s H locs (wd_X2_leastOther cI cJ cZ a_this a_this_costs a_this_costs_cells a_this_nexts a_this_nexts_cells a_this_rests a_this_rests_cells a_this_aheads a_this_aheads_cells a_this_coming a_this_meanings a_this_meanings_cells a_this_doubts a_this_measureOf a_this_times v_this_size v_this_states v_this_total v_this_measures v_this_doubtsAreOld f_this_costs_cells f_this_nexts_cells f_this_rests_cells f_this_aheads_cells f_this_meanings_cells) := hw
          refine lv_istore_n (lv' := [(2, .int y8), (0, .ref a_this), (1, .int i1), (3, .int x2)]) S.1 S.2.1 dX2_leastOther_53 rfl hl (by decide) rfl (fun ls hl => ?_)
          refine z_iinc S (i := 3) (k := 3) (v := x2 + 1) hl rfl (by decide) rfl (fun v => (3, .int v) :: [(2, .int y8), (0, .ref a_this), (1, .int i1)]) (fun _ => rfl) h dX2_leastOther_54 (fun y9 ls hl h => ?_)
          replace hl : lv_has ls 4 [(3, .int y9), (2, .int y8), (0, .ref a_this), (1, .int i1)] := hl
          refine lv_goto (tgt := 5) S.1 S.2.1 dX2_leastOther_57 (by decide) ?_
          exact ih_5 y8 y9 h _ _ ls hw (lv_sub hl [2, 3, 1, 0] rfl)
  exact L_5 K 1000000 0 h _ _ ls hw (lv_sub hl [2, 3, 1, 0] rfl)
theorem gw_186 : Cond.fieldLink RX2 30 "ScoreReader$Reading" "coming" "LScoreReader$Row;" ∈ GW := GW_of 186 (by decide +kernel) (by decide +kernel)
theorem gw_615 : Cond.methodLink RX2 147 yX3_fill ∈ GW := GW_of 615 (by decide +kernel) (by decide +kernel)
theorem gw_624 : Cond.methodLink RX2 156 yX3_copy ∈ GW := GW_of 624 (by decide +kernel) (by decide +kernel)
theorem gw_627 : Cond.code yX3_copy cX3_copy 3 none ∈ GW := GW_of 627 (by decide +kernel) (by decide +kernel)
theorem gw_625 : Cond.instanceMethod yX3_copy ∈ GW := GW_of 625 (by decide +kernel) (by decide +kernel)
theorem gw_626 : Cond.selects RX3 yX3_copy yX3_copy ∈ GW := GW_of 626 (by decide +kernel) (by decide +kernel)
def gs_X2_stepAhead : List Cond := Cond.code yX2_stepAhead cX2_stepAhead 6 none :: GW
def wd_X2_stepAhead (cI cJ cZ : ClassId) (a_this a_this_costs a_this_costs_cells a_this_nexts a_this_nexts_cells a_this_rests a_this_aheads a_this_aheads_cells a_this_coming a_this_coming_cells a_this_meanings a_this_doubts a_this_measureOf a_this_times : Nat) (v_this_size : Int32) (v_this_states : Int32) (v_this_total : Int32) (v_this_measures : Int32) (v_this_doubtsAreOld : Int32) (f_this_costs_cells : Nat → Int32) (f_this_nexts_cells : Nat → Int32) (f_this_aheads_cells : Nat → Int32) (f_this_coming_cells : Nat → Int32) : va_W := [(a_this, .inr (2, [.ref a_this_costs, .ref a_this_nexts, .ref a_this_rests, .ref a_this_aheads, .ref a_this_coming, .ref a_this_meanings, .ref a_this_doubts, .ref a_this_measureOf, .ref a_this_times, .int v_this_size, .int v_this_states, .int v_this_total, .int v_this_measures, .int v_this_doubtsAreOld])), (a_this_costs, .inr (3, [.ref a_this_costs_cells])), (a_this_costs_cells, .inl (cI, 280, .inl f_this_costs_cells)), (a_this_nexts, .inr (3, [.ref a_this_nexts_cells])), (a_this_nexts_cells, .inl (cI, 525, .inl f_this_nexts_cells)), (a_this_aheads, .inr (3, [.ref a_this_aheads_cells])), (a_this_aheads_cells, .inl (cI, 75, .inl f_this_aheads_cells)), (a_this_coming, .inr (3, [.ref a_this_coming_cells])), (a_this_coming_cells, .inl (cI, 75, .inl f_this_coming_cells))]
abbrev rm_X2_stepAhead : Room := { frames := 2, cells := 0, slots := 0, locals := 43 }
theorem hd_X2_stepAhead : yX2_stepAhead.cls = RX2 ∧ yX2_stepAhead.cls ≠ "java/lang/invoke/MethodHandle" ∧ yX2_stepAhead.cls ≠ "java/lang/invoke/VarHandle" ∧ (parseMethodDescriptor yX2_stepAhead.desc).map (fun d => d.parameters.length) = some 1 := by decide +kernel
set_option maxHeartbeats 4000000 in
set_option maxRecDepth 100000 in
theorem c_X2_stepAhead (l : Launch) (D : va_G) (cI cJ cZ : ClassId) (a_this a_this_costs a_this_costs_cells a_this_nexts a_this_nexts_cells a_this_rests a_this_aheads a_this_aheads_cells a_this_coming a_this_coming_cells a_this_meanings a_this_doubts a_this_measureOf a_this_times : Nat) (v_this_size : Int32) (v_this_states : Int32) (v_this_total : Int32) (v_this_measures : Int32) (v_this_doubtsAreOld : Int32) (f_this_costs_cells : Nat → Int32) (f_this_nexts_cells : Nat → Int32) (f_this_aheads_cells : Nat → Int32) (f_this_coming_cells : Nat → Int32) (K : Nat) (i1 : Int32) (o : (Nat → Int32) × (Nat → Int32)) (h : p_X2_stepAhead K v_this_states f_this_costs_cells f_this_nexts_cells f_this_aheads_cells f_this_coming_cells i1 = some o) : zMv l D (zT cI cJ cZ) yX2_stepAhead gs_X2_stepAhead rm_X2_stepAhead [.ref a_this, .int i1] (wd_X2_stepAhead cI cJ cZ a_this a_this_costs a_this_costs_cells a_this_nexts a_this_nexts_cells a_this_rests a_this_aheads a_this_aheads_cells a_this_coming a_this_coming_cells a_this_meanings a_this_doubts a_this_measureOf a_this_times v_this_size v_this_states v_this_total v_this_measures v_this_doubtsAreOld f_this_costs_cells f_this_nexts_cells f_this_aheads_cells f_this_coming_cells) (wd_X2_stepAhead cI cJ cZ a_this a_this_costs a_this_costs_cells a_this_nexts a_this_nexts_cells a_this_rests a_this_aheads a_this_aheads_cells a_this_coming a_this_coming_cells a_this_meanings a_this_doubts a_this_measureOf a_this_times v_this_size v_this_states v_this_total v_this_measures v_this_doubtsAreOld f_this_costs_cells f_this_nexts_cells (o.1) (o.2)) := by
  refine zMet_v (own := RX2) (fun u : (Nat → Int32) × (Nat → Int32) => (wd_X2_stepAhead cI cJ cZ a_this a_this_costs a_this_costs_cells a_this_nexts a_this_nexts_cells a_this_rests a_this_aheads a_this_aheads_cells a_this_coming a_this_coming_cells a_this_meanings a_this_doubts a_this_measureOf a_this_times v_this_size v_this_states v_this_total v_this_measures v_this_doubtsAreOld f_this_costs_cells f_this_nexts_cells (u.1) (u.2))) (by decide) rfl rfl (Nat.le_of_ble_eq_true rfl) ?_
  intro p e s m args below meth c A Q S hK hA hw ret ls hl
  replace hl : lv_has ls 6 [(0, .ref a_this), (1, .int i1)] := hl
  refine lv_aload_n S.1 S.2.1 dX2_stepAhead_0 rfl (lv_at hl 0 rfl) ?_
  refine z_get S (C := RX2) (T := TX2) (N := 14) (gi gu_X2) hK hw 0 rfl rfl 4 (Nat.le_of_ble_eq_true rfl) (List.mem_cons_of_mem _ gw_186) rfl dX2_stepAhead_1 ?_
  refine lv_ldc (v := 1000000) S.1 S.2.1 S.2.2.2.1 (S.2.2.2.2 _ (List.mem_cons_of_mem _ gw_181)) dX2_stepAhead_4 ?_
  obtain ⟨f1, hc, h⟩ := z_b1_e h
  refine z_callVv (As := [.int 1000000]) (rest := []) S (c_X3_fill l D cI cJ cZ a_this_coming a_this_coming_cells 75 f_this_coming_cells K 1000000 _ hc) (cwV 1 S.2.2.2.2 (gw_V gw_615 gw_93 gw_94 gw_53 gw_95) rfl rfl rfl hd_X3_fill ⟨Nat.le_of_ble_eq_true rfl, Nat.le_of_ble_eq_true rfl⟩) hK hA hw [7, 8] (by decide) rfl rfl [none, none, none, none, none, none, none, some 0, some 1] rfl (by decide) 7 rfl rfl hl.1 rfl rfl (lv_room (Nat.le_of_ble_eq_true rfl)) ⟨Nat.zero_le _, Nat.zero_le _⟩ dX2_stepAhead_6 (fun H locs hw => ?_)
  replace hw : zW D A s H locs (wd_X2_stepAhead cI cJ cZ a_this a_this_costs a_this_costs_cells a_this_nexts a_this_nexts_cells a_this_rests a_this_aheads a_this_aheads_cells a_this_coming a_this_coming_cells a_this_meanings a_this_doubts a_this_measureOf a_this_times v_this_size v_this_states v_this_total v_this_measures v_this_doubtsAreOld f_this_costs_cells f_this_nexts_cells f_this_aheads_cells f1) := hw
  refine lv_iconst (v := 0) S.1 S.2.1 dX2_stepAhead_9 (by decide) ?_
  refine lv_istore_n (lv' := [(2, .int 0), (0, .ref a_this), (1, .int i1)]) S.1 S.2.1 dX2_stepAhead_10 rfl hl (by decide) rfl (fun ls hl => ?_)
  have J_122 : ∀ (f2 : Nat → Int32) (h : (p_X2_stepAhead_j122 K f_this_aheads_cells) f2 = some o) (H : Heap) (locs : List Loc) (ls : Array Slot), zW D A s H locs (wd_X2_stepAhead cI cJ cZ a_this a_this_costs a_this_costs_cells a_this_nexts a_this_nexts_cells a_this_rests a_this_aheads a_this_aheads_cells a_this_coming a_this_coming_cells a_this_meanings a_this_doubts a_this_measureOf a_this_times v_this_size v_this_states v_this_total v_this_measures v_this_doubtsAreOld f_this_costs_cells f_this_nexts_cells f_this_aheads_cells f2) → lv_has ls 6 [(0, .ref a_this)] → W p l e (headSpec gs_X2_stepAhead rm_X2_stepAhead).room s m args below meth c H locs 0 0 Q (F0 m 122 ls []) := by
    intro f2 h H locs ls hw hl
    refine lv_aload_n S.1 S.2.1 dX2_stepAhead_122 rfl (lv_at hl 0 rfl) ?_
    refine z_get S (C := RX2) (T := TX2) (N := 14) (gi gu_X2) hK hw 0 rfl rfl 3 (Nat.le_of_ble_eq_true rfl) (List.mem_cons_of_mem _ gw_185) rfl dX2_stepAhead_123 ?_
    refine lv_aload_n S.1 S.2.1 dX2_stepAhead_126 rfl (lv_at hl 0 rfl) ?_
    refine z_get S (C := RX2) (T := TX2) (N := 14) (gi gu_X2) hK hw 0 rfl rfl 4 (Nat.le_of_ble_eq_true rfl) (List.mem_cons_of_mem _ gw_186) rfl dX2_stepAhead_127 ?_
    obtain ⟨f3, hc, h⟩ := z_b1_e h
    refine z_callVv (As := [.ref a_this_coming]) (rest := []) S (c_X3_copy l D cI cJ cZ a_this_aheads a_this_aheads_cells a_this_coming a_this_coming_cells 75 75 f_this_aheads_cells f2 K _ hc) (cwV 1 S.2.2.2.2 (gw_V gw_624 gw_625 gw_626 gw_53 gw_627) rfl rfl rfl hd_X3_copy ⟨Nat.le_of_ble_eq_true rfl, Nat.le_of_ble_eq_true rfl⟩) hK hA hw [5, 6, 7, 8] (by decide) rfl rfl [none, none, none, none, none, some 0, some 1, some 2, some 3] rfl (by decide) 5 rfl rfl hl.1 rfl rfl (lv_room (Nat.le_of_ble_eq_true rfl)) ⟨Nat.zero_le _, Nat.zero_le _⟩ dX2_stepAhead_130 (fun H locs hw => ?_)
    replace hw : zW D A s H locs (wd_X2_stepAhead cI cJ cZ a_this a_this_costs a_this_costs_cells a_this_nexts a_this_nexts_cells a_this_rests a_this_aheads a_this_aheads_cells a_this_coming a_this_coming_cells a_this_meanings a_this_doubts a_this_measureOf a_this_times v_this_size v_this_states v_this_total v_this_measures v_this_doubtsAreOld f_this_costs_cells f_this_nexts_cells f3 f2) := hw
    exact ret (f3, f2) h 133 ls _ _ dX2_stepAhead_133 hw
  have L_11 : ∀ (n11_5 : Nat) (f4 : Nat → Int32) (x5 : Int32) (h : z_lp2 (p_X2_stepAhead_l11 v_this_states f_this_aheads_cells f_this_nexts_cells f_this_costs_cells i1 K (p_X2_stepAhead_j122 K f_this_aheads_cells)) n11_5 f4 x5 = some o) (H : Heap) (locs : List Loc) (ls : Array Slot), zW D A s H locs (wd_X2_stepAhead cI cJ cZ a_this a_this_costs a_this_costs_cells a_this_nexts a_this_nexts_cells a_this_rests a_this_aheads a_this_aheads_cells a_this_coming a_this_coming_cells a_this_meanings a_this_doubts a_this_measureOf a_this_times v_this_size v_this_states v_this_total v_this_measures v_this_doubtsAreOld f_this_costs_cells f_this_nexts_cells f_this_aheads_cells f4) → lv_has ls 6 [(0, .ref a_this), (1, .int i1), (2, .int x5)] → W p l e (headSpec gs_X2_stepAhead rm_X2_stepAhead).room s m args below meth c H locs 0 0 Q (F0 m 11 ls []) := by
    intro n11_5
    induction n11_5 with
    | zero => intro f4 x5 h; exact z_no h
    | succ n11_5 ih_11 =>
      intro f4 x5 h H locs ls hw hl
      replace h : (p_X2_stepAhead_l11 v_this_states f_this_aheads_cells f_this_nexts_cells f_this_costs_cells i1 K (p_X2_stepAhead_j122 K f_this_aheads_cells)) (z_lp2 (p_X2_stepAhead_l11 v_this_states f_this_aheads_cells f_this_nexts_cells f_this_costs_cells i1 K (p_X2_stepAhead_j122 K f_this_aheads_cells)) n11_5) f4 x5 = some o := h
      refine lv_iload_n S.1 S.2.1 dX2_stepAhead_11 rfl (lv_at hl 2 rfl) ?_
      refine lv_aload_n S.1 S.2.1 dX2_stepAhead_12 rfl (lv_at hl 0 rfl) ?_
      refine z_get S (C := RX2) (T := TX2) (N := 14) (gi gu_X2) hK hw 0 rfl rfl 10 (Nat.le_of_ble_eq_true rfl) (List.mem_cons_of_mem _ gw_192) rfl dX2_stepAhead_13 ?_
      refine z_icmp_ge S (tgt := 122) h dX2_stepAhead_16 (by decide) (fun h => ?_) (fun h => ?_)
      · exact J_122 f4 h _ _ ls hw (lv_sub hl [0] rfl)
      · refine lv_iconst (v := 0) S.1 S.2.1 dX2_stepAhead_19 (by decide) ?_
        refine lv_istore_n (lv' := [(3, .int 0), (0, .ref a_this), (1, .int i1), (2, .int x5)]) S.1 S.2.1 dX2_stepAhead_20 rfl hl (by decide) rfl (fun ls hl => ?_)
        have L_21 : ∀ (n21_7 : Nat) (f6 : Nat → Int32) (x7 : Int32) (h : z_lp2 (p_X2_stepAhead_l21 x5 f_this_aheads_cells f_this_nexts_cells f_this_costs_cells i1 (z_lp2 (p_X2_stepAhead_l11 v_this_states f_this_aheads_cells f_this_nexts_cells f_this_costs_cells i1 K (p_X2_stepAhead_j122 K f_this_aheads_cells)) n11_5)) n21_7 f6 x7 = some o) (H : Heap) (locs : List Loc) (ls : Array Slot), zW D A s H locs (wd_X2_stepAhead cI cJ cZ a_this a_this_costs a_this_costs_cells a_this_nexts a_this_nexts_cells a_this_rests a_this_aheads a_this_aheads_cells a_this_coming a_this_coming_cells a_this_meanings a_this_doubts a_this_measureOf a_this_times v_this_size v_this_states v_this_total v_this_measures v_this_doubtsAreOld f_this_costs_cells f_this_nexts_cells f_this_aheads_cells f6) → lv_has ls 6 [(0, .ref a_this), (1, .int i1), (2, .int x5), (3, .int x7)] → W p l e (headSpec gs_X2_stepAhead rm_X2_stepAhead).room s m args below meth c H locs 0 0 Q (F0 m 21 ls []) := by
          intro n21_7
          induction n21_7 with
          | zero => intro f6 x7 h; exact z_no h
          | succ n21_7 ih_21 =>
            intro f6 x7 h H locs ls hw hl
            replace h : (p_X2_stepAhead_l21 x5 f_this_aheads_cells f_this_nexts_cells f_this_costs_cells i1 (z_lp2 (p_X2_stepAhead_l11 v_this_states f_this_aheads_cells f_this_nexts_cells f_this_costs_cells i1 K (p_X2_stepAhead_j122 K f_this_aheads_cells)) n11_5)) (z_lp2 (p_X2_stepAhead_l21 x5 f_this_aheads_cells f_this_nexts_cells f_this_costs_cells i1 (z_lp2 (p_X2_stepAhead_l11 v_this_states f_this_aheads_cells f_this_nexts_cells f_this_costs_cells i1 K (p_X2_stepAhead_j122 K f_this_aheads_cells)) n11_5)) n21_7) f6 x7 = some o := h
            refine lv_iload_n S.1 S.2.1 dX2_stepAhead_21 rfl (lv_at hl 3 rfl) ?_
            refine lv_bipush (v := 7) S.1 S.2.1 dX2_stepAhead_22 (by decide) ?_
            refine z_icmp_ge S (tgt := 116) h dX2_stepAhead_24 (by decide) (fun h => ?_) (fun h => ?_)
            · refine z_iinc S (i := 2) (k := 2) (v := x5 + 1) hl rfl (by decide) rfl (fun v => (2, .int v) :: [(0, .ref a_this), (1, .int i1), (3, .int x7)]) (fun _ => rfl) h dX2_stepAhead_116 (fun y8 ls hl h => ?_)
              replace hl : lv_has ls 6 [(2, .int y8), (0, .ref a_this), (1, .int i1), (3, .int x7)] := hl
              refine lv_goto (tgt := 11) S.1 S.2.1 dX2_stepAhead_119 (by decide) ?_
              exact ih_11 f6 y8 h _ _ ls hw (lv_sub hl [1, 2, 0] rfl)
            · refine lv_aload_n S.1 S.2.1 dX2_stepAhead_27 rfl (lv_at hl 0 rfl) ?_
              refine z_get S (C := RX2) (T := TX2) (N := 14) (gi gu_X2) hK hw 0 rfl rfl 3 (Nat.le_of_ble_eq_true rfl) (List.mem_cons_of_mem _ gw_185) rfl dX2_stepAhead_28 ?_
              refine lv_iload_n S.1 S.2.1 dX2_stepAhead_31 rfl (lv_at hl 2 rfl) ?_
              obtain ⟨y9, hc, h⟩ := z_b1_e h
              refine z_callVi (As := [.int x5]) (rest := []) S (c_X3_get l D cI cJ cZ a_this_aheads a_this_aheads_cells 75 f_this_aheads_cells x5 _ hc) (cwV 1 S.2.2.2.2 (gw_V gw_572 gw_342 gw_343 gw_53 gw_344) rfl rfl rfl hd_X3_get ⟨Nat.le_of_ble_eq_true rfl, Nat.le_of_ble_eq_true rfl⟩) hK hA hw [5, 6] (by decide) rfl rfl [none, none, none, none, none, some 0, some 1, none, none] rfl (by decide) 5 rfl rfl hl.1 rfl rfl (lv_room (Nat.le_of_ble_eq_true rfl)) ⟨Nat.zero_le _, Nat.zero_le _⟩ dX2_stepAhead_32 (fun H locs hw => ?_)
              replace hw : zW D A s H locs (wd_X2_stepAhead cI cJ cZ a_this a_this_costs a_this_costs_cells a_this_nexts a_this_nexts_cells a_this_rests a_this_aheads a_this_aheads_cells a_this_coming a_this_coming_cells a_this_meanings a_this_doubts a_this_measureOf a_this_times v_this_size v_this_states v_this_total v_this_measures v_this_doubtsAreOld f_this_costs_cells f_this_nexts_cells f_this_aheads_cells f6) := hw
              refine lv_ldc (v := 1000000) S.1 S.2.1 S.2.2.2.1 (S.2.2.2.2 _ (List.mem_cons_of_mem _ gw_181)) dX2_stepAhead_35 ?_
              refine z_icmp_ge S (tgt := 116) h dX2_stepAhead_37 (by decide) (fun h => ?_) (fun h => ?_)
              · refine z_iinc S (i := 2) (k := 2) (v := x5 + 1) hl rfl (by decide) rfl (fun v => (2, .int v) :: [(0, .ref a_this), (1, .int i1), (3, .int x7)]) (fun _ => rfl) h dX2_stepAhead_116 (fun y10 ls hl h => ?_)
                replace hl : lv_has ls 6 [(2, .int y10), (0, .ref a_this), (1, .int i1), (3, .int x7)] := hl
                refine lv_goto (tgt := 11) S.1 S.2.1 dX2_stepAhead_119 (by decide) ?_
                exact ih_11 f6 y10 h _ _ ls hw (lv_sub hl [1, 2, 0] rfl)
              · refine lv_aload_n S.1 S.2.1 dX2_stepAhead_40 rfl (lv_at hl 0 rfl) ?_
                refine z_get S (C := RX2) (T := TX2) (N := 14) (gi gu_X2) hK hw 0 rfl rfl 1 (Nat.le_of_ble_eq_true rfl) (List.mem_cons_of_mem _ gw_183) rfl dX2_stepAhead_41 ?_
                refine lv_iload_n S.1 S.2.1 dX2_stepAhead_44 rfl (lv_at hl 2 rfl) ?_
                refine lv_bipush (v := 7) S.1 S.2.1 dX2_stepAhead_45 (by decide) ?_
                refine lv_imul S.1 S.2.1 dX2_stepAhead_47 ?_
                refine lv_iload_n S.1 S.2.1 dX2_stepAhead_48 rfl (lv_at hl 3 rfl) ?_
                refine lv_iadd S.1 S.2.1 dX2_stepAhead_49 ?_
                obtain ⟨y11, hc, h⟩ := z_b1_e h
                refine z_callVi (As := [.int ((x5 * 7) + x7)]) (rest := []) S (c_X3_get l D cI cJ cZ a_this_nexts a_this_nexts_cells 525 f_this_nexts_cells ((x5 * 7) + x7) _ hc) (cwV 1 S.2.2.2.2 (gw_V gw_572 gw_342 gw_343 gw_53 gw_344) rfl rfl rfl hd_X3_get ⟨Nat.le_of_ble_eq_true rfl, Nat.le_of_ble_eq_true rfl⟩) hK hA hw [3, 4] (by decide) rfl rfl [none, none, none, some 0, some 1, none, none, none, none] rfl (by decide) 3 rfl rfl hl.1 rfl rfl (lv_room (Nat.le_of_ble_eq_true rfl)) ⟨Nat.zero_le _, Nat.zero_le _⟩ dX2_stepAhead_50 (fun H locs hw => ?_)
                replace hw : zW D A s H locs (wd_X2_stepAhead cI cJ cZ a_this a_this_costs a_this_costs_cells a_this_nexts a_this_nexts_cells a_this_rests a_this_aheads a_this_aheads_cells a_this_coming a_this_coming_cells a_this_meanings a_this_doubts a_this_measureOf a_this_times v_this_size v_this_states v_this_total v_this_measures v_this_doubtsAreOld f_this_costs_cells f_this_nexts_cells f_this_aheads_cells f6) := hw
                refine lv_istore (lv' := [(4, .int y11), (0, .ref a_this), (1, .int i1), (2, .int x5), (3, .int x7)]) S.1 S.2.1 dX2_stepAhead_53 hl (by decide) rfl (fun ls hl => ?_)
                refine lv_aload_n S.1 S.2.1 dX2_stepAhead_55 rfl (lv_at hl 1 rfl) ?_
                refine z_get S (C := RX2) (T := TX2) (N := 14) (gi gu_X2) hK hw 0 rfl rfl 3 (Nat.le_of_ble_eq_true rfl) (List.mem_cons_of_mem _ gw_185) rfl dX2_stepAhead_56 ?_
                refine lv_iload_n S.1 S.2.1 dX2_stepAhead_59 rfl (lv_at hl 3 rfl) ?_
                obtain ⟨y12, hc, h⟩ := z_b1_e h
                refine z_callVi (As := [.int x5]) (rest := []) S (c_X3_get l D cI cJ cZ a_this_aheads a_this_aheads_cells 75 f_this_aheads_cells x5 _ hc) (cwV 1 S.2.2.2.2 (gw_V gw_572 gw_342 gw_343 gw_53 gw_344) rfl rfl rfl hd_X3_get ⟨Nat.le_of_ble_eq_true rfl, Nat.le_of_ble_eq_true rfl⟩) hK hA hw [5, 6] (by decide) rfl rfl [none, none, none, none, none, some 0, some 1, none, none] rfl (by decide) 5 rfl rfl hl.1 rfl rfl (lv_room (Nat.le_of_ble_eq_true rfl)) ⟨Nat.zero_le _, Nat.zero_le _⟩ dX2_stepAhead_60 (fun H locs hw => ?_)
                replace hw : zW D A s H locs (wd_X2_stepAhead cI cJ cZ a_this a_this_costs a_this_costs_cells a_this_nexts a_this_nexts_cells a_this_rests a_this_aheads a_this_aheads_cells a_this_coming a_this_coming_cells a_this_meanings a_this_doubts a_this_measureOf a_this_times v_this_size v_this_states v_this_total v_this_measures v_this_doubtsAreOld f_this_costs_cells f_this_nexts_cells f_this_aheads_cells f6) := hw
                refine lv_aload_n S.1 S.2.1 dX2_stepAhead_63 rfl (lv_at hl 1 rfl) ?_
                refine z_get S (C := RX2) (T := TX2) (N := 14) (gi gu_X2) hK hw 0 rfl rfl 0 (Nat.le_of_ble_eq_true rfl) (List.mem_cons_of_mem _ gw_182) rfl dX2_stepAhead_64 ?_
                refine lv_iload_n S.1 S.2.1 dX2_stepAhead_67 rfl (lv_at hl 2 rfl) ?_
                refine lv_bipush (v := 7) S.1 S.2.1 dX2_stepAhead_68 (by decide) ?_
                refine lv_imul S.1 S.2.1 dX2_stepAhead_70 ?_
                refine lv_iload_n S.1 S.2.1 dX2_stepAhead_71 rfl (lv_at hl 4 rfl) ?_
                refine lv_iadd S.1 S.2.1 dX2_stepAhead_72 ?_
                obtain ⟨y13, hc, h⟩ := z_b1_e h
                refine z_callVi (As := [.int ((i1 * 7) + x7)]) (rest := [.int y12]) S (c_X3_get l D cI cJ cZ a_this_costs a_this_costs_cells 280 f_this_costs_cells ((i1 * 7) + x7) _ hc) (cwV 1 S.2.2.2.2 (gw_V gw_572 gw_342 gw_343 gw_53 gw_344) rfl rfl rfl hd_X3_get ⟨Nat.le_of_ble_eq_true rfl, Nat.le_of_ble_eq_true rfl⟩) hK hA hw [1, 2] (by decide) rfl rfl [none, some 0, some 1, none, none, none, none, none, none] rfl (by decide) 1 rfl rfl hl.1 rfl rfl (lv_room (Nat.le_of_ble_eq_true rfl)) ⟨Nat.zero_le _, Nat.zero_le _⟩ dX2_stepAhead_73 (fun H locs hw => ?_)
                replace hw : zW D A s H locs (wd_X2_stepAhead cI cJ cZ a_this a_this_costs a_this_costs_cells a_this_nexts a_this_nexts_cells a_this_rests a_this_aheads a_this_aheads_cells a_this_coming a_this_coming_cells a_this_meanings a_this_doubts a_this_measureOf a_this_times v_this_size v_this_states v_this_total v_this_measures v_this_doubtsAreOld f_this_costs_cells f_this_nexts_cells f_this_aheads_cells f6) := hw
                refine lv_iadd S.1 S.2.1 dX2_stepAhead_76 ?_
                refine z_leti h (fun y14 h => ?_)
                refine lv_istore (lv' := [(5, .int y14), (4, .int y11), (0, .ref a_this), (1, .int i1), (2, .int x5), (3, .int x7)]) S.1 S.2.1 dX2_stepAhead_77 hl (by decide) rfl (fun ls hl => ?_)
                refine lv_iload S.1 S.2.1 dX2_stepAhead_79 (lv_at hl 1 rfl) ?_
                refine lv_iconst (v := (-1)) S.1 S.2.1 dX2_stepAhead_81 (by decide) ?_
                refine z_icmp_eq S (tgt := 110) h dX2_stepAhead_82 (by decide) (fun h => ?_) (fun h => ?_)
                · refine z_iinc S (i := 3) (k := 5) (v := x7 + 1) hl rfl (by decide) rfl (fun v => (3, .int v) :: [(5, .int y14), (4, .int y11), (0, .ref a_this), (1, .int i1), (2, .int x5)]) (fun _ => rfl) h dX2_stepAhead_110 (fun y15 ls hl h => ?_)
                  replace hl : lv_has ls 6 [(3, .int y15), (5, .int y14), (4, .int y11), (0, .ref a_this), (1, .int i1), (2, .int x5)] := hl
                  refine lv_goto (tgt := 21) S.1 S.2.1 dX2_stepAhead_113 (by decide) ?_
                  exact ih_21 f6 y15 h _ _ ls hw (lv_sub hl [3, 4, 5, 0] rfl)
                · refine lv_iload S.1 S.2.1 dX2_stepAhead_85 (lv_at hl 0 rfl) ?_
                  refine lv_aload_n S.1 S.2.1 dX2_stepAhead_87 rfl (lv_at hl 2 rfl) ?_
                  refine z_get S (C := RX2) (T := TX2) (N := 14) (gi gu_X2) hK hw 0 rfl rfl 4 (Nat.le_of_ble_eq_true rfl) (List.mem_cons_of_mem _ gw_186) rfl dX2_stepAhead_88 ?_
                  refine lv_iload S.1 S.2.1 dX2_stepAhead_91 (lv_at hl 1 rfl) ?_
                  obtain ⟨y16, hc, h⟩ := z_b1_e h
                  refine z_callVi (As := [.int y11]) (rest := [.int y14]) S (c_X3_get l D cI cJ cZ a_this_coming a_this_coming_cells 75 f6 y11 _ hc) (cwV 1 S.2.2.2.2 (gw_V gw_572 gw_342 gw_343 gw_53 gw_344) rfl rfl rfl hd_X3_get ⟨Nat.le_of_ble_eq_true rfl, Nat.le_of_ble_eq_true rfl⟩) hK hA hw [7, 8] (by decide) rfl rfl [none, none, none, none, none, none, none, some 0, some 1] rfl (by decide) 7 rfl rfl hl.1 rfl rfl (lv_room (Nat.le_of_ble_eq_true rfl)) ⟨Nat.zero_le _, Nat.zero_le _⟩ dX2_stepAhead_93 (fun H locs hw => ?_)
                  replace hw : zW D A s H locs (wd_X2_stepAhead cI cJ cZ a_this a_this_costs a_this_costs_cells a_this_nexts a_this_nexts_cells a_this_rests a_this_aheads a_this_aheads_cells a_this_coming a_this_coming_cells a_this_meanings a_this_doubts a_this_measureOf a_this_times v_this_size v_this_states v_this_total v_this_measures v_this_doubtsAreOld f_this_costs_cells f_this_nexts_cells f_this_aheads_cells f6) := hw
                  refine z_icmp_ge S (tgt := 110) h dX2_stepAhead_96 (by decide) (fun h => ?_) (fun h => ?_)
                  · refine z_iinc S (i := 3) (k := 5) (v := x7 + 1) hl rfl (by decide) rfl (fun v => (3, .int v) :: [(5, .int y14), (4, .int y11), (0, .ref a_this), (1, .int i1), (2, .int x5)]) (fun _ => rfl) h dX2_stepAhead_110 (fun y17 ls hl h => ?_)
                    replace hl : lv_has ls 6 [(3, .int y17), (5, .int y14), (4, .int y11), (0, .ref a_this), (1, .int i1), (2, .int x5)] := hl
                    refine lv_goto (tgt := 21) S.1 S.2.1 dX2_stepAhead_113 (by decide) ?_
                    exact ih_21 f6 y17 h _ _ ls hw (lv_sub hl [3, 4, 5, 0] rfl)
                  · refine lv_aload_n S.1 S.2.1 dX2_stepAhead_99 rfl (lv_at hl 2 rfl) ?_
                    refine z_get S (C := RX2) (T := TX2) (N := 14) (gi gu_X2) hK hw 0 rfl rfl 4 (Nat.le_of_ble_eq_true rfl) (List.mem_cons_of_mem _ gw_186) rfl dX2_stepAhead_100 ?_
                    refine lv_iload S.1 S.2.1 dX2_stepAhead_103 (lv_at hl 1 rfl) ?_
                    refine lv_iload S.1 S.2.1 dX2_stepAhead_105 (lv_at hl 0 rfl) ?_
                    obtain ⟨f18, hc, h⟩ := z_b1_e h
                    refine z_callVv (As := [.int y11, .int y14]) (rest := []) S (c_X3_put l D cI cJ cZ a_this_coming a_this_coming_cells 75 f6 y11 y14 _ hc) (cwV 2 S.2.2.2.2 (gw_V gw_533 gw_326 gw_327 gw_53 gw_328) rfl rfl rfl hd_X3_put ⟨Nat.le_of_ble_eq_true rfl, Nat.le_of_ble_eq_true rfl⟩) hK hA hw [7, 8] (by decide) rfl rfl [none, none, none, none, none, none, none, some 0, some 1] rfl (by decide) 7 rfl rfl hl.1 rfl rfl (lv_room (Nat.le_of_ble_eq_true rfl)) ⟨Nat.zero_le _, Nat.zero_le _⟩ dX2_stepAhead_107 (fun H locs hw => ?_)
                    replace hw : zW D A s H locs (wd_X2_stepAhead cI cJ cZ a_this a_this_costs a_this_costs_cells a_this_nexts a_this_nexts_cells a_this_rests a_this_aheads a_this_aheads_cells a_this_coming a_this_coming_cells a_this_meanings a_this_doubts a_this_measureOf a_this_times v_this_size v_this_states v_this_total v_this_measures v_this_doubtsAreOld f_this_costs_cells f_this_nexts_cells f_this_aheads_cells f18) := hw
                    refine z_iinc S (i := 3) (k := 5) (v := x7 + 1) hl rfl (by decide) rfl (fun v => (3, .int v) :: [(5, .int y14), (4, .int y11), (0, .ref a_this), (1, .int i1), (2, .int x5)]) (fun _ => rfl) h dX2_stepAhead_110 (fun y19 ls hl h => ?_)
                    replace hl : lv_has ls 6 [(3, .int y19), (5, .int y14), (4, .int y11), (0, .ref a_this), (1, .int i1), (2, .int x5)] := hl
                    refine lv_goto (tgt := 21) S.1 S.2.1 dX2_stepAhead_113 (by decide) ?_
                    exact ih_21 f18 y19 h _ _ ls hw (lv_sub hl [3, 4, 5, 0] rfl)
        exact L_21 K f4 0 h _ _ ls hw (lv_sub hl [1, 2, 3, 0] rfl)
  exact L_11 K f1 0 h _ _ ls hw (lv_sub hl [1, 2, 0] rfl)
theorem gw_616 : Cond.methodLink RX2 150 yX2_leastOther ∈ GW := GW_of 616 (by decide +kernel) (by decide +kernel)
theorem gw_619 : Cond.code yX2_leastOther cX2_leastOther 4 (some .int) ∈ GW := GW_of 619 (by decide +kernel) (by decide +kernel)
theorem gw_618 : Cond.instanceMethod yX2_leastOther ∈ GW := GW_of 618 (by decide +kernel) (by decide +kernel)
theorem gw_24 : Cond.selects RX2 yX2_leastOther yX2_leastOther ∈ GW := GW_of 24 (by decide +kernel) (by decide +kernel)
theorem gw_188 : Cond.fieldLink RX2 36 "ScoreReader$Reading" "doubts" "LScoreReader$Row;" ∈ GW := GW_of 188 (by decide +kernel) (by decide +kernel)
theorem gw_620 : Cond.methodLink RX2 153 yX2_stepAhead ∈ GW := GW_of 620 (by decide +kernel) (by decide +kernel)
theorem gw_623 : Cond.code yX2_stepAhead cX2_stepAhead 6 none ∈ GW := GW_of 623 (by decide +kernel) (by decide +kernel)
theorem gw_622 : Cond.instanceMethod yX2_stepAhead ∈ GW := GW_of 622 (by decide +kernel) (by decide +kernel)
theorem gw_25 : Cond.selects RX2 yX2_stepAhead yX2_stepAhead ∈ GW := GW_of 25 (by decide +kernel) (by decide +kernel)
def gs_X2_workDoubts : List Cond := Cond.code yX2_workDoubts cX2_workDoubts 3 none :: GW
def wd_X2_workDoubts (cI cJ cZ : ClassId) (a_this a_this_costs a_this_costs_cells a_this_nexts a_this_nexts_cells a_this_rests a_this_rests_cells a_this_aheads a_this_aheads_cells a_this_coming a_this_coming_cells a_this_meanings a_this_meanings_cells a_this_doubts a_this_doubts_cells a_this_measureOf a_this_times : Nat) (v_this_size : Int32) (v_this_states : Int32) (v_this_total : Int32) (v_this_measures : Int32) (v_this_doubtsAreOld : Int32) (f_this_costs_cells : Nat → Int32) (f_this_nexts_cells : Nat → Int32) (f_this_rests_cells : Nat → Int32) (f_this_aheads_cells : Nat → Int32) (f_this_coming_cells : Nat → Int32) (f_this_meanings_cells : Nat → Int32) (f_this_doubts_cells : Nat → Int32) : va_W := ((a_this, .inr (2, [.ref a_this_costs, .ref a_this_nexts, .ref a_this_rests, .ref a_this_aheads, .ref a_this_coming, .ref a_this_meanings, .ref a_this_doubts, .ref a_this_measureOf, .ref a_this_times, .int v_this_size, .int v_this_states, .int v_this_total, .int v_this_measures, .int v_this_doubtsAreOld])) :: (a_this_costs, .inr (3, [.ref a_this_costs_cells])) :: (a_this_costs_cells, .inl (cI, 280, .inl f_this_costs_cells)) :: (a_this_nexts, .inr (3, [.ref a_this_nexts_cells])) :: (a_this_nexts_cells, .inl (cI, 525, .inl f_this_nexts_cells)) :: (a_this_rests, .inr (3, [.ref a_this_rests_cells])) :: (a_this_rests_cells, .inl (cI, 3075, .inl f_this_rests_cells)) :: (a_this_aheads, .inr (3, [.ref a_this_aheads_cells])) :: (a_this_aheads_cells, .inl (cI, 75, .inl f_this_aheads_cells)) :: (a_this_coming, .inr (3, [.ref a_this_coming_cells])) :: (a_this_coming_cells, .inl (cI, 75, .inl f_this_coming_cells)) :: (a_this_meanings, .inr (3, [.ref a_this_meanings_cells])) :: (a_this_meanings_cells, .inl (cI, 40, .inl f_this_meanings_cells)) :: (a_this_doubts, .inr (3, [.ref a_this_doubts_cells])) :: (a_this_doubts_cells, .inl (cI, 40, .inl f_this_doubts_cells)) :: [])
abbrev rm_X2_workDoubts : Room := { frames := 4, cells := 0, slots := 0, locals := 93 }
theorem hd_X2_workDoubts : yX2_workDoubts.cls = RX2 ∧ yX2_workDoubts.cls ≠ "java/lang/invoke/MethodHandle" ∧ yX2_workDoubts.cls ≠ "java/lang/invoke/VarHandle" ∧ (parseMethodDescriptor yX2_workDoubts.desc).map (fun d => d.parameters.length) = some 0 := by decide +kernel
set_option maxHeartbeats 4000000 in
set_option maxRecDepth 100000 in
theorem c_X2_workDoubts (l : Launch) (D : va_G) (cI cJ cZ : ClassId) (a_this a_this_costs a_this_costs_cells a_this_nexts a_this_nexts_cells a_this_rests a_this_rests_cells a_this_aheads a_this_aheads_cells a_this_coming a_this_coming_cells a_this_meanings a_this_meanings_cells a_this_doubts a_this_doubts_cells a_this_measureOf a_this_times : Nat) (v_this_size : Int32) (v_this_states : Int32) (v_this_total : Int32) (v_this_measures : Int32) (v_this_doubtsAreOld : Int32) (f_this_costs_cells : Nat → Int32) (f_this_nexts_cells : Nat → Int32) (f_this_rests_cells : Nat → Int32) (f_this_aheads_cells : Nat → Int32) (f_this_coming_cells : Nat → Int32) (f_this_meanings_cells : Nat → Int32) (f_this_doubts_cells : Nat → Int32) (K : Nat) (o : Int32 × (Nat → Int32) × (Nat → Int32) × (Nat → Int32)) (h : p_X2_workDoubts K v_this_size v_this_states v_this_total v_this_doubtsAreOld f_this_costs_cells f_this_nexts_cells f_this_rests_cells f_this_aheads_cells f_this_coming_cells f_this_meanings_cells f_this_doubts_cells = some o) : zMv l D (zT cI cJ cZ) yX2_workDoubts gs_X2_workDoubts rm_X2_workDoubts [.ref a_this] (wd_X2_workDoubts cI cJ cZ a_this a_this_costs a_this_costs_cells a_this_nexts a_this_nexts_cells a_this_rests a_this_rests_cells a_this_aheads a_this_aheads_cells a_this_coming a_this_coming_cells a_this_meanings a_this_meanings_cells a_this_doubts a_this_doubts_cells a_this_measureOf a_this_times v_this_size v_this_states v_this_total v_this_measures v_this_doubtsAreOld f_this_costs_cells f_this_nexts_cells f_this_rests_cells f_this_aheads_cells f_this_coming_cells f_this_meanings_cells f_this_doubts_cells) (wd_X2_workDoubts cI cJ cZ a_this a_this_costs a_this_costs_cells a_this_nexts a_this_nexts_cells a_this_rests a_this_rests_cells a_this_aheads a_this_aheads_cells a_this_coming a_this_coming_cells a_this_meanings a_this_meanings_cells a_this_doubts a_this_doubts_cells a_this_measureOf a_this_times v_this_size v_this_states v_this_total v_this_measures (o.1) f_this_costs_cells f_this_nexts_cells f_this_rests_cells (o.2.1) (o.2.2.1) f_this_meanings_cells (o.2.2.2)) := by
  refine zMet_v (own := RX2) (fun u : Int32 × (Nat → Int32) × (Nat → Int32) × (Nat → Int32) => (wd_X2_workDoubts cI cJ cZ a_this a_this_costs a_this_costs_cells a_this_nexts a_this_nexts_cells a_this_rests a_this_rests_cells a_this_aheads a_this_aheads_cells a_this_coming a_this_coming_cells a_this_meanings a_this_meanings_cells a_this_doubts a_this_doubts_cells a_this_measureOf a_this_times v_this_size v_this_states v_this_total v_this_measures (u.1) f_this_costs_cells f_this_nexts_cells f_this_rests_cells (u.2.1) (u.2.2.1) f_this_meanings_cells (u.2.2.2))) (by decide) rfl rfl (Nat.le_of_ble_eq_true rfl) ?_
  intro p e s m args below meth c A Q S hK hA hw ret ls hl
  replace hl : lv_has ls 3 [(0, .ref a_this)] := hl
  refine lv_aload_n S.1 S.2.1 dX2_workDoubts_0 rfl (lv_at hl 0 rfl) ?_
  refine z_get S (C := RX2) (T := TX2) (N := 14) (gi gu_X2) hK hw 0 rfl rfl 13 (Nat.le_of_ble_eq_true rfl) (List.mem_cons_of_mem _ gw_195) rfl dX2_workDoubts_1 ?_
  refine z_if_ne S (tgt := 8) h dX2_workDoubts_4 (by decide) (fun h => ?_) (fun h => ?_)
  · refine lv_aload_n S.1 S.2.1 dX2_workDoubts_8 rfl (lv_at hl 0 rfl) ?_
    refine lv_iconst (v := 0) S.1 S.2.1 dX2_workDoubts_9 (by decide) ?_
    refine z_put S (C := RX2) (T := TX2) (N := 14) (gi gu_X2) tyX2 tyX2_ok nmX2 hK hw 0 rfl rfl 13 (Nat.le_of_ble_eq_true rfl) (List.mem_cons_of_mem _ gw_195) rfl rfl rfl (Nat.le_of_ble_eq_true rfl) dX2_workDoubts_10 (fun H locs hw => ?_)
    replace hw : zW D A s H locs (wd_X2_workDoubts cI cJ cZ a_this a_this_costs a_this_costs_cells a_this_nexts a_this_nexts_cells a_this_rests a_this_rests_cells a_this_aheads a_this_aheads_cells a_this_coming a_this_coming_cells a_this_meanings a_this_meanings_cells a_this_doubts a_this_doubts_cells a_this_measureOf a_this_times v_this_size v_this_states v_this_total v_this_measures 0 f_this_costs_cells f_this_nexts_cells f_this_rests_cells f_this_aheads_cells f_this_coming_cells f_this_meanings_cells f_this_doubts_cells) := hw
    refine lv_aload_n S.1 S.2.1 dX2_workDoubts_13 rfl (lv_at hl 0 rfl) ?_
    refine z_get S (C := RX2) (T := TX2) (N := 14) (gi gu_X2) hK hw 0 rfl rfl 3 (Nat.le_of_ble_eq_true rfl) (List.mem_cons_of_mem _ gw_185) rfl dX2_workDoubts_14 ?_
    refine lv_ldc (v := 1000000) S.1 S.2.1 S.2.2.2.1 (S.2.2.2.2 _ (List.mem_cons_of_mem _ gw_181)) dX2_workDoubts_17 ?_
    obtain ⟨f1, hc, h⟩ := z_b1_e h
    refine z_callVv (As := [.int 1000000]) (rest := []) S (c_X3_fill l D cI cJ cZ a_this_aheads a_this_aheads_cells 75 f_this_aheads_cells K 1000000 _ hc) (cwV 1 S.2.2.2.2 (gw_V gw_615 gw_93 gw_94 gw_53 gw_95) rfl rfl rfl hd_X3_fill ⟨Nat.le_of_ble_eq_true rfl, Nat.le_of_ble_eq_true rfl⟩) hK hA hw [7, 8] (by decide) rfl rfl (none :: none :: none :: none :: none :: none :: none :: some 0 :: some 1 :: none :: none :: none :: none :: none :: none :: []) rfl (by decide) 7 rfl rfl hl.1 rfl rfl (lv_room (Nat.le_of_ble_eq_true rfl)) ⟨Nat.zero_le _, Nat.zero_le _⟩ dX2_workDoubts_19 (fun H locs hw => ?_)
    replace hw : zW D A s H locs (wd_X2_workDoubts cI cJ cZ a_this a_this_costs a_this_costs_cells a_this_nexts a_this_nexts_cells a_this_rests a_this_rests_cells a_this_aheads a_this_aheads_cells a_this_coming a_this_coming_cells a_this_meanings a_this_meanings_cells a_this_doubts a_this_doubts_cells a_this_measureOf a_this_times v_this_size v_this_states v_this_total v_this_measures 0 f_this_costs_cells f_this_nexts_cells f_this_rests_cells f1 f_this_coming_cells f_this_meanings_cells f_this_doubts_cells) := hw
    refine lv_aload_n S.1 S.2.1 dX2_workDoubts_22 rfl (lv_at hl 0 rfl) ?_
    refine z_get S (C := RX2) (T := TX2) (N := 14) (gi gu_X2) hK hw 0 rfl rfl 3 (Nat.le_of_ble_eq_true rfl) (List.mem_cons_of_mem _ gw_185) rfl dX2_workDoubts_23 ?_
    refine lv_iconst (v := 0) S.1 S.2.1 dX2_workDoubts_26 (by decide) ?_
    refine lv_iconst (v := 0) S.1 S.2.1 dX2_workDoubts_27 (by decide) ?_
    obtain ⟨f2, hc, h⟩ := z_b1_e h
    refine z_callVv (As := [.int 0, .int 0]) (rest := []) S (c_X3_put l D cI cJ cZ a_this_aheads a_this_aheads_cells 75 f1 0 0 _ hc) (cwV 2 S.2.2.2.2 (gw_V gw_533 gw_326 gw_327 gw_53 gw_328) rfl rfl rfl hd_X3_put ⟨Nat.le_of_ble_eq_true rfl, Nat.le_of_ble_eq_true rfl⟩) hK hA hw [7, 8] (by decide) rfl rfl (none :: none :: none :: none :: none :: none :: none :: some 0 :: some 1 :: none :: none :: none :: none :: none :: none :: []) rfl (by decide) 7 rfl rfl hl.1 rfl rfl (lv_room (Nat.le_of_ble_eq_true rfl)) ⟨Nat.zero_le _, Nat.zero_le _⟩ dX2_workDoubts_28 (fun H locs hw => ?_)
    replace hw : zW D A s H locs (wd_X2_workDoubts cI cJ cZ a_this a_this_costs a_this_costs_cells a_this_nexts a_this_nexts_cells a_this_rests a_this_rests_cells a_this_aheads a_this_aheads_cells a_this_coming a_this_coming_cells a_this_meanings a_this_meanings_cells a_this_doubts a_this_doubts_cells a_this_measureOf a_this_times v_this_size v_this_states v_this_total v_this_measures 0 f_this_costs_cells f_this_nexts_cells f_this_rests_cells f2 f_this_coming_cells f_this_meanings_cells f_this_doubts_cells) := hw
    refine lv_iconst (v := 0) S.1 S.2.1 dX2_workDoubts_31 (by decide) ?_
    refine lv_istore_n (lv' := [(1, .int 0), (0, .ref a_this)]) S.1 S.2.1 dX2_workDoubts_32 rfl hl (by decide) rfl (fun ls hl => ?_)
    have L_33 : ∀ (n33_6 : Nat) (f3 : Nat → Int32) (f4 : Nat → Int32) (f5 : Nat → Int32) (x6 : Int32) (h : z_lp4 (p_X2_workDoubts_l33 v_this_size K v_this_states f_this_costs_cells f_this_nexts_cells f_this_rests_cells f_this_meanings_cells v_this_total) n33_6 f3 f4 f5 x6 = some o) (H : Heap) (locs : List Loc) (ls : Array Slot), zW D A s H locs (wd_X2_workDoubts cI cJ cZ a_this a_this_costs a_this_costs_cells a_this_nexts a_this_nexts_cells a_this_rests a_this_rests_cells a_this_aheads a_this_aheads_cells a_this_coming a_this_coming_cells a_this_meanings a_this_meanings_cells a_this_doubts a_this_doubts_cells a_this_measureOf a_this_times v_this_size v_this_states v_this_total v_this_measures 0 f_this_costs_cells f_this_nexts_cells f_this_rests_cells f3 f4 f_this_meanings_cells f5) → lv_has ls 3 [(0, .ref a_this), (1, .int x6)] → W p l e (headSpec gs_X2_workDoubts rm_X2_workDoubts).room s m args below meth c H locs 0 0 Q (F0 m 33 ls []) := by
      intro n33_6
      induction n33_6 with
      | zero => intro f3 f4 f5 x6 h; exact z_no h
      | succ n33_6 ih_33 =>
        intro f3 f4 f5 x6 h H locs ls hw hl
        replace h : (p_X2_workDoubts_l33 v_this_size K v_this_states f_this_costs_cells f_this_nexts_cells f_this_rests_cells f_this_meanings_cells v_this_total) (z_lp4 (p_X2_workDoubts_l33 v_this_size K v_this_states f_this_costs_cells f_this_nexts_cells f_this_rests_cells f_this_meanings_cells v_this_total) n33_6) f3 f4 f5 x6 = some o := h
        refine lv_iload_n S.1 S.2.1 dX2_workDoubts_33 rfl (lv_at hl 1 rfl) ?_
        refine lv_aload_n S.1 S.2.1 dX2_workDoubts_34 rfl (lv_at hl 0 rfl) ?_
        refine z_get S (C := RX2) (T := TX2) (N := 14) (gi gu_X2) hK hw 0 rfl rfl 9 (Nat.le_of_ble_eq_true rfl) (List.mem_cons_of_mem _ gw_191) rfl dX2_workDoubts_35 ?_
        refine z_icmp_ge S (tgt := 82) h dX2_workDoubts_38 (by decide) (fun h => ?_) (fun h => ?_)
        · exact ret (0, f3, f4, f5) h 82 ls _ _ dX2_workDoubts_82 hw
        · refine lv_aload_n S.1 S.2.1 dX2_workDoubts_41 rfl (lv_at hl 0 rfl) ?_
          refine lv_iload_n S.1 S.2.1 dX2_workDoubts_42 rfl (lv_at hl 1 rfl) ?_
          obtain ⟨y7, hc, h⟩ := z_b1_e h
          refine z_callVi (As := [.int x6]) (rest := []) S (c_X2_leastOther l D cI cJ cZ a_this a_this_costs a_this_costs_cells a_this_nexts a_this_nexts_cells a_this_rests a_this_rests_cells a_this_aheads a_this_aheads_cells a_this_coming a_this_meanings a_this_meanings_cells a_this_doubts a_this_measureOf a_this_times v_this_size v_this_states v_this_total v_this_measures 0 f_this_costs_cells f_this_nexts_cells f_this_rests_cells f3 f_this_meanings_cells K x6 _ hc) (cwV 1 S.2.2.2.2 (gw_V gw_616 gw_618 gw_24 gw_56 gw_619) rfl rfl rfl hd_X2_leastOther ⟨Nat.le_of_ble_eq_true rfl, Nat.le_of_ble_eq_true rfl⟩) hK hA hw [0, 1, 2, 3, 4, 5, 6, 7, 8, 11, 12] (by decide) rfl rfl (some 0 :: some 1 :: some 2 :: some 3 :: some 4 :: some 5 :: some 6 :: some 7 :: some 8 :: none :: none :: some 9 :: some 10 :: none :: none :: []) rfl (by decide) 0 rfl rfl hl.1 rfl rfl (lv_room (Nat.le_of_ble_eq_true rfl)) ⟨Nat.zero_le _, Nat.zero_le _⟩ dX2_workDoubts_43 (fun H locs hw => ?_)
          replace hw : zW D A s H locs (wd_X2_workDoubts cI cJ cZ a_this a_this_costs a_this_costs_cells a_this_nexts a_this_nexts_cells a_this_rests a_this_rests_cells a_this_aheads a_this_aheads_cells a_this_coming a_this_coming_cells a_this_meanings a_this_meanings_cells a_this_doubts a_this_doubts_cells a_this_measureOf a_this_times v_this_size v_this_states v_this_total v_this_measures 0 f_this_costs_cells f_this_nexts_cells f_this_rests_cells f3 f4 f_this_meanings_cells f5) := hw
          refine lv_istore_n (lv' := [(2, .int y7), (0, .ref a_this), (1, .int x6)]) S.1 S.2.1 dX2_workDoubts_46 rfl hl (by decide) rfl (fun ls hl => ?_)
          refine lv_aload_n S.1 S.2.1 dX2_workDoubts_47 rfl (lv_at hl 1 rfl) ?_
          refine z_get S (C := RX2) (T := TX2) (N := 14) (gi gu_X2) hK hw 0 rfl rfl 6 (Nat.le_of_ble_eq_true rfl) (List.mem_cons_of_mem _ gw_188) rfl dX2_workDoubts_48 ?_
          refine lv_iload_n S.1 S.2.1 dX2_workDoubts_51 rfl (lv_at hl 2 rfl) ?_
          refine lv_iload_n S.1 S.2.1 dX2_workDoubts_52 rfl (lv_at hl 0 rfl) ?_
          refine lv_ldc (v := 1000000) S.1 S.2.1 S.2.2.2.1 (S.2.2.2.2 _ (List.mem_cons_of_mem _ gw_181)) dX2_workDoubts_53 ?_
          have J_68 : ∀ (z8 : Int32) (h : (p_X2_workDoubts_j68 f5 x6 K v_this_states f_this_costs_cells f_this_nexts_cells f3 f4 (z_lp4 (p_X2_workDoubts_l33 v_this_size K v_this_states f_this_costs_cells f_this_nexts_cells f_this_rests_cells f_this_meanings_cells v_this_total) n33_6)) z8 = some o) (H : Heap) (locs : List Loc) (ls : Array Slot), zW D A s H locs (wd_X2_workDoubts cI cJ cZ a_this a_this_costs a_this_costs_cells a_this_nexts a_this_nexts_cells a_this_rests a_this_rests_cells a_this_aheads a_this_aheads_cells a_this_coming a_this_coming_cells a_this_meanings a_this_meanings_cells a_this_doubts a_this_doubts_cells a_this_measureOf a_this_times v_this_size v_this_states v_this_total v_this_measures 0 f_this_costs_cells f_this_nexts_cells f_this_rests_cells f3 f4 f_this_meanings_cells f5) → lv_has ls 3 [(0, .ref a_this), (1, .int x6)] → W p l e (headSpec gs_X2_workDoubts rm_X2_workDoubts).room s m args below meth c H locs 0 0 Q (F0 m 68 ls [.int z8, .int x6, .ref a_this_doubts]) := by
            intro z8 h H locs ls hw hl
            obtain ⟨f9, hc, h⟩ := z_b1_e h
            refine z_callVv (As := [.int x6, .int z8]) (rest := []) S (c_X3_put l D cI cJ cZ a_this_doubts a_this_doubts_cells 40 f5 x6 z8 _ hc) (cwV 2 S.2.2.2.2 (gw_V gw_533 gw_326 gw_327 gw_53 gw_328) rfl rfl rfl hd_X3_put ⟨Nat.le_of_ble_eq_true rfl, Nat.le_of_ble_eq_true rfl⟩) hK hA hw [13, 14] (by decide) rfl rfl (none :: none :: none :: none :: none :: none :: none :: none :: none :: none :: none :: none :: none :: some 0 :: some 1 :: []) rfl (by decide) 13 rfl rfl hl.1 rfl rfl (lv_room (Nat.le_of_ble_eq_true rfl)) ⟨Nat.zero_le _, Nat.zero_le _⟩ dX2_workDoubts_68 (fun H locs hw => ?_)
            replace hw : zW D A s H locs (wd_X2_workDoubts cI cJ cZ a_this a_this_costs a_this_costs_cells a_this_nexts a_this_nexts_cells a_this_rests a_this_rests_cells a_this_aheads a_this_aheads_cells a_this_coming a_this_coming_cells a_this_meanings a_this_meanings_cells a_this_doubts a_this_doubts_cells a_this_measureOf a_this_times v_this_size v_this_states v_this_total v_this_measures 0 f_this_costs_cells f_this_nexts_cells f_this_rests_cells f3 f4 f_this_meanings_cells f9) := hw
            refine lv_aload_n S.1 S.2.1 dX2_workDoubts_71 rfl (lv_at hl 0 rfl) ?_
            refine lv_iload_n S.1 S.2.1 dX2_workDoubts_72 rfl (lv_at hl 1 rfl) ?_
            obtain ⟨f10, f11, hc, h⟩ := z_b2_e h
            refine z_callVv (As := [.int x6]) (rest := []) S (c_X2_stepAhead l D cI cJ cZ a_this a_this_costs a_this_costs_cells a_this_nexts a_this_nexts_cells a_this_rests a_this_aheads a_this_aheads_cells a_this_coming a_this_coming_cells a_this_meanings a_this_doubts a_this_measureOf a_this_times v_this_size v_this_states v_this_total v_this_measures 0 f_this_costs_cells f_this_nexts_cells f3 f4 K x6 _ hc) (cwV 1 S.2.2.2.2 (gw_V gw_620 gw_622 gw_25 gw_56 gw_623) rfl rfl rfl hd_X2_stepAhead ⟨Nat.le_of_ble_eq_true rfl, Nat.le_of_ble_eq_true rfl⟩) hK hA hw [0, 1, 2, 3, 4, 7, 8, 9, 10] (by decide) rfl rfl (some 0 :: some 1 :: some 2 :: some 3 :: some 4 :: none :: none :: some 5 :: some 6 :: some 7 :: some 8 :: none :: none :: none :: none :: []) rfl (by decide) 0 rfl rfl hl.1 rfl rfl (lv_room (Nat.le_of_ble_eq_true rfl)) ⟨Nat.zero_le _, Nat.zero_le _⟩ dX2_workDoubts_73 (fun H locs hw => ?_)
            replace hw : zW D A s H locs (wd_X2_workDoubts cI cJ cZ a_this a_this_costs a_this_costs_cells a_this_nexts a_this_nexts_cells a_this_rests a_this_rests_cells a_this_aheads a_this_aheads_cells a_this_coming a_this_coming_cells a_this_meanings a_this_meanings_cells a_this_doubts a_this_doubts_cells a_this_measureOf a_this_times v_this_size v_this_states v_this_total v_this_measures 0 f_this_costs_cells f_this_nexts_cells f_this_rests_cells f10 f11 f_this_meanings_cells f9) := hw
            refine z_iinc S (i := 1) (k := 1) (v := x6 + 1) hl rfl (by decide) rfl (fun v => (1, .int v) :: [(0, .ref a_this)]) (fun _ => rfl) h dX2_workDoubts_76 (fun y12 ls hl h => ?_)
            replace hl : lv_has ls 3 [(1, .int y12), (0, .ref a_this)] := hl
            refine lv_goto (tgt := 33) S.1 S.2.1 dX2_workDoubts_79 (by decide) ?_
            exact ih_33 f10 f11 f9 y12 h _ _ ls hw (lv_sub hl [1, 0] rfl)
          refine z_icmp_ge S (tgt := 67) h dX2_workDoubts_55 (by decide) (fun h => ?_) (fun h => ?_)
          · refine lv_iconst (v := (-1)) S.1 S.2.1 dX2_workDoubts_67 (by decide) ?_
            exact J_68 (-1) h _ _ ls hw (lv_sub hl [1, 2] rfl)
          · refine lv_iload_n S.1 S.2.1 dX2_workDoubts_58 rfl (lv_at hl 0 rfl) ?_
            refine lv_aload_n S.1 S.2.1 dX2_workDoubts_59 rfl (lv_at hl 1 rfl) ?_
            refine z_get S (C := RX2) (T := TX2) (N := 14) (gi gu_X2) hK hw 0 rfl rfl 11 (Nat.le_of_ble_eq_true rfl) (List.mem_cons_of_mem _ gw_193) rfl dX2_workDoubts_60 ?_
            refine lv_isub S.1 S.2.1 dX2_workDoubts_63 ?_
            refine lv_goto (tgt := 68) S.1 S.2.1 dX2_workDoubts_64 (by decide) ?_
            exact J_68 (y7 - v_this_total) h _ _ ls hw (lv_sub hl [1, 2] rfl)
    exact L_33 K f2 f_this_coming_cells f_this_doubts_cells 0 h _ _ ls hw (lv_sub hl [1, 0] rfl)
  · exact ret (v_this_doubtsAreOld, f_this_aheads_cells, f_this_coming_cells, f_this_doubts_cells) h 7 ls _ _ dX2_workDoubts_7 hw
def gs_X2_cost : List Cond := Cond.code yX2_cost cX2_cost 1 (some .int) :: GW
def wd_X2_cost (cI cJ cZ : ClassId) (a_this a_this_costs a_this_nexts a_this_rests a_this_aheads a_this_coming a_this_meanings a_this_doubts a_this_measureOf a_this_times : Nat) (v_this_size : Int32) (v_this_states : Int32) (v_this_total : Int32) (v_this_measures : Int32) (v_this_doubtsAreOld : Int32) : va_W := [(a_this, .inr (2, [.ref a_this_costs, .ref a_this_nexts, .ref a_this_rests, .ref a_this_aheads, .ref a_this_coming, .ref a_this_meanings, .ref a_this_doubts, .ref a_this_measureOf, .ref a_this_times, .int v_this_size, .int v_this_states, .int v_this_total, .int v_this_measures, .int v_this_doubtsAreOld]))]
abbrev rm_X2_cost : Room := { frames := 0, cells := 0, slots := 0, locals := 0 }
theorem hd_X2_cost : yX2_cost.cls = RX2 ∧ yX2_cost.cls ≠ "java/lang/invoke/MethodHandle" ∧ yX2_cost.cls ≠ "java/lang/invoke/VarHandle" ∧ (parseMethodDescriptor yX2_cost.desc).map (fun d => d.parameters.length) = some 0 := by decide +kernel
set_option maxHeartbeats 4000000 in
set_option maxRecDepth 100000 in
theorem c_X2_cost (l : Launch) (D : va_G) (cI cJ cZ : ClassId) (a_this a_this_costs a_this_nexts a_this_rests a_this_aheads a_this_coming a_this_meanings a_this_doubts a_this_measureOf a_this_times : Nat) (v_this_size : Int32) (v_this_states : Int32) (v_this_total : Int32) (v_this_measures : Int32) (v_this_doubtsAreOld : Int32) (o : Int32) (h : p_X2_cost v_this_total = some o) : zMi l D (zT cI cJ cZ) yX2_cost gs_X2_cost rm_X2_cost [.ref a_this] (wd_X2_cost cI cJ cZ a_this a_this_costs a_this_nexts a_this_rests a_this_aheads a_this_coming a_this_meanings a_this_doubts a_this_measureOf a_this_times v_this_size v_this_states v_this_total v_this_measures v_this_doubtsAreOld) (wd_X2_cost cI cJ cZ a_this a_this_costs a_this_nexts a_this_rests a_this_aheads a_this_coming a_this_meanings a_this_doubts a_this_measureOf a_this_times v_this_size v_this_states v_this_total v_this_measures v_this_doubtsAreOld) (o) := by
  refine zMet_i (own := RX2) (fun u : Int32 => (wd_X2_cost cI cJ cZ a_this a_this_costs a_this_nexts a_this_rests a_this_aheads a_this_coming a_this_meanings a_this_doubts a_this_measureOf a_this_times v_this_size v_this_states v_this_total v_this_measures v_this_doubtsAreOld)) (fun u : Int32 => u) (by decide) rfl rfl (Nat.le_of_ble_eq_true rfl) ?_
  intro p e s m args below meth c A Q S hK hA hw ret ls hl
  replace hl : lv_has ls 1 [(0, .ref a_this)] := hl
  refine lv_aload_n S.1 S.2.1 dX2_cost_0 rfl (lv_at hl 0 rfl) ?_
  refine z_get S (C := RX2) (T := TX2) (N := 14) (gi gu_X2) hK hw 0 rfl rfl 11 (Nat.le_of_ble_eq_true rfl) (List.mem_cons_of_mem _ gw_193) rfl dX2_cost_1 ?_
  exact ret v_this_total h 4 ls _ _ dX2_cost_4 hw
def gs_X2_meaning : List Cond := Cond.code yX2_meaning cX2_meaning 2 (some .int) :: GW
def wd_X2_meaning (cI cJ cZ : ClassId) (a_this a_this_costs a_this_nexts a_this_rests a_this_aheads a_this_coming a_this_meanings a_this_meanings_cells a_this_doubts a_this_measureOf a_this_times : Nat) (v_this_size : Int32) (v_this_states : Int32) (v_this_total : Int32) (v_this_measures : Int32) (v_this_doubtsAreOld : Int32) (f_this_meanings_cells : Nat → Int32) : va_W := [(a_this, .inr (2, [.ref a_this_costs, .ref a_this_nexts, .ref a_this_rests, .ref a_this_aheads, .ref a_this_coming, .ref a_this_meanings, .ref a_this_doubts, .ref a_this_measureOf, .ref a_this_times, .int v_this_size, .int v_this_states, .int v_this_total, .int v_this_measures, .int v_this_doubtsAreOld])), (a_this_meanings, .inr (3, [.ref a_this_meanings_cells])), (a_this_meanings_cells, .inl (cI, 40, .inl f_this_meanings_cells))]
abbrev rm_X2_meaning : Room := { frames := 1, cells := 0, slots := 0, locals := 21 }
theorem hd_X2_meaning : yX2_meaning.cls = RX2 ∧ yX2_meaning.cls ≠ "java/lang/invoke/MethodHandle" ∧ yX2_meaning.cls ≠ "java/lang/invoke/VarHandle" ∧ (parseMethodDescriptor yX2_meaning.desc).map (fun d => d.parameters.length) = some 1 := by decide +kernel
set_option maxHeartbeats 4000000 in
set_option maxRecDepth 100000 in
theorem c_X2_meaning (l : Launch) (D : va_G) (cI cJ cZ : ClassId) (a_this a_this_costs a_this_nexts a_this_rests a_this_aheads a_this_coming a_this_meanings a_this_meanings_cells a_this_doubts a_this_measureOf a_this_times : Nat) (v_this_size : Int32) (v_this_states : Int32) (v_this_total : Int32) (v_this_measures : Int32) (v_this_doubtsAreOld : Int32) (f_this_meanings_cells : Nat → Int32) (i1 : Int32) (o : Int32) (h : p_X2_meaning f_this_meanings_cells i1 = some o) : zMi l D (zT cI cJ cZ) yX2_meaning gs_X2_meaning rm_X2_meaning [.ref a_this, .int i1] (wd_X2_meaning cI cJ cZ a_this a_this_costs a_this_nexts a_this_rests a_this_aheads a_this_coming a_this_meanings a_this_meanings_cells a_this_doubts a_this_measureOf a_this_times v_this_size v_this_states v_this_total v_this_measures v_this_doubtsAreOld f_this_meanings_cells) (wd_X2_meaning cI cJ cZ a_this a_this_costs a_this_nexts a_this_rests a_this_aheads a_this_coming a_this_meanings a_this_meanings_cells a_this_doubts a_this_measureOf a_this_times v_this_size v_this_states v_this_total v_this_measures v_this_doubtsAreOld f_this_meanings_cells) (o) := by
  refine zMet_i (own := RX2) (fun u : Int32 => (wd_X2_meaning cI cJ cZ a_this a_this_costs a_this_nexts a_this_rests a_this_aheads a_this_coming a_this_meanings a_this_meanings_cells a_this_doubts a_this_measureOf a_this_times v_this_size v_this_states v_this_total v_this_measures v_this_doubtsAreOld f_this_meanings_cells)) (fun u : Int32 => u) (by decide) rfl rfl (Nat.le_of_ble_eq_true rfl) ?_
  intro p e s m args below meth c A Q S hK hA hw ret ls hl
  replace hl : lv_has ls 2 [(0, .ref a_this), (1, .int i1)] := hl
  refine lv_aload_n S.1 S.2.1 dX2_meaning_0 rfl (lv_at hl 0 rfl) ?_
  refine z_get S (C := RX2) (T := TX2) (N := 14) (gi gu_X2) hK hw 0 rfl rfl 5 (Nat.le_of_ble_eq_true rfl) (List.mem_cons_of_mem _ gw_187) rfl dX2_meaning_1 ?_
  refine lv_iload_n S.1 S.2.1 dX2_meaning_4 rfl (lv_at hl 1 rfl) ?_
  obtain ⟨y1, hc, h⟩ := z_b1_e h
  refine z_callVi (As := [.int i1]) (rest := []) S (c_X3_get l D cI cJ cZ a_this_meanings a_this_meanings_cells 40 f_this_meanings_cells i1 _ hc) (cwV 1 S.2.2.2.2 (gw_V gw_572 gw_342 gw_343 gw_53 gw_344) rfl rfl rfl hd_X3_get ⟨Nat.le_of_ble_eq_true rfl, Nat.le_of_ble_eq_true rfl⟩) hK hA hw [1, 2] (by decide) rfl rfl [none, some 0, some 1] rfl (by decide) 1 rfl rfl hl.1 rfl rfl (lv_room (Nat.le_of_ble_eq_true rfl)) ⟨Nat.zero_le _, Nat.zero_le _⟩ dX2_meaning_5 (fun H locs hw => ?_)
  replace hw : zW D A s H locs (wd_X2_meaning cI cJ cZ a_this a_this_costs a_this_nexts a_this_rests a_this_aheads a_this_coming a_this_meanings a_this_meanings_cells a_this_doubts a_this_measureOf a_this_times v_this_size v_this_states v_this_total v_this_measures v_this_doubtsAreOld f_this_meanings_cells) := hw
  exact ret y1 h 8 ls _ _ dX2_meaning_8 hw
theorem gw_611 : Cond.methodLink RX2 160 yX2_workDoubts ∈ GW := GW_of 611 (by decide +kernel) (by decide +kernel)
theorem gw_614 : Cond.code yX2_workDoubts cX2_workDoubts 3 none ∈ GW := GW_of 614 (by decide +kernel) (by decide +kernel)
theorem gw_613 : Cond.instanceMethod yX2_workDoubts ∈ GW := GW_of 613 (by decide +kernel) (by decide +kernel)
theorem gw_23 : Cond.selects RX2 yX2_workDoubts yX2_workDoubts ∈ GW := GW_of 23 (by decide +kernel) (by decide +kernel)
def gs_X2_doubtOf : List Cond := Cond.code yX2_doubtOf cX2_doubtOf 2 (some .int) :: GW
def wd_X2_doubtOf (cI cJ cZ : ClassId) (a_this a_this_costs a_this_costs_cells a_this_nexts a_this_nexts_cells a_this_rests a_this_rests_cells a_this_aheads a_this_aheads_cells a_this_coming a_this_coming_cells a_this_meanings a_this_meanings_cells a_this_doubts a_this_doubts_cells a_this_measureOf a_this_times : Nat) (v_this_size : Int32) (v_this_states : Int32) (v_this_total : Int32) (v_this_measures : Int32) (v_this_doubtsAreOld : Int32) (f_this_costs_cells : Nat → Int32) (f_this_nexts_cells : Nat → Int32) (f_this_rests_cells : Nat → Int32) (f_this_aheads_cells : Nat → Int32) (f_this_coming_cells : Nat → Int32) (f_this_meanings_cells : Nat → Int32) (f_this_doubts_cells : Nat → Int32) : va_W := ((a_this, .inr (2, [.ref a_this_costs, .ref a_this_nexts, .ref a_this_rests, .ref a_this_aheads, .ref a_this_coming, .ref a_this_meanings, .ref a_this_doubts, .ref a_this_measureOf, .ref a_this_times, .int v_this_size, .int v_this_states, .int v_this_total, .int v_this_measures, .int v_this_doubtsAreOld])) :: (a_this_costs, .inr (3, [.ref a_this_costs_cells])) :: (a_this_costs_cells, .inl (cI, 280, .inl f_this_costs_cells)) :: (a_this_nexts, .inr (3, [.ref a_this_nexts_cells])) :: (a_this_nexts_cells, .inl (cI, 525, .inl f_this_nexts_cells)) :: (a_this_rests, .inr (3, [.ref a_this_rests_cells])) :: (a_this_rests_cells, .inl (cI, 3075, .inl f_this_rests_cells)) :: (a_this_aheads, .inr (3, [.ref a_this_aheads_cells])) :: (a_this_aheads_cells, .inl (cI, 75, .inl f_this_aheads_cells)) :: (a_this_coming, .inr (3, [.ref a_this_coming_cells])) :: (a_this_coming_cells, .inl (cI, 75, .inl f_this_coming_cells)) :: (a_this_meanings, .inr (3, [.ref a_this_meanings_cells])) :: (a_this_meanings_cells, .inl (cI, 40, .inl f_this_meanings_cells)) :: (a_this_doubts, .inr (3, [.ref a_this_doubts_cells])) :: (a_this_doubts_cells, .inl (cI, 40, .inl f_this_doubts_cells)) :: [])
abbrev rm_X2_doubtOf : Room := { frames := 5, cells := 0, slots := 0, locals := 115 }
theorem hd_X2_doubtOf : yX2_doubtOf.cls = RX2 ∧ yX2_doubtOf.cls ≠ "java/lang/invoke/MethodHandle" ∧ yX2_doubtOf.cls ≠ "java/lang/invoke/VarHandle" ∧ (parseMethodDescriptor yX2_doubtOf.desc).map (fun d => d.parameters.length) = some 1 := by decide +kernel
set_option maxHeartbeats 4000000 in
set_option maxRecDepth 100000 in
theorem c_X2_doubtOf (l : Launch) (D : va_G) (cI cJ cZ : ClassId) (a_this a_this_costs a_this_costs_cells a_this_nexts a_this_nexts_cells a_this_rests a_this_rests_cells a_this_aheads a_this_aheads_cells a_this_coming a_this_coming_cells a_this_meanings a_this_meanings_cells a_this_doubts a_this_doubts_cells a_this_measureOf a_this_times : Nat) (v_this_size : Int32) (v_this_states : Int32) (v_this_total : Int32) (v_this_measures : Int32) (v_this_doubtsAreOld : Int32) (f_this_costs_cells : Nat → Int32) (f_this_nexts_cells : Nat → Int32) (f_this_rests_cells : Nat → Int32) (f_this_aheads_cells : Nat → Int32) (f_this_coming_cells : Nat → Int32) (f_this_meanings_cells : Nat → Int32) (f_this_doubts_cells : Nat → Int32) (K : Nat) (i1 : Int32) (o : Int32 × Int32 × (Nat → Int32) × (Nat → Int32) × (Nat → Int32)) (h : p_X2_doubtOf K v_this_size v_this_states v_this_total v_this_doubtsAreOld f_this_costs_cells f_this_nexts_cells f_this_rests_cells f_this_aheads_cells f_this_coming_cells f_this_meanings_cells f_this_doubts_cells i1 = some o) : zMi l D (zT cI cJ cZ) yX2_doubtOf gs_X2_doubtOf rm_X2_doubtOf [.ref a_this, .int i1] (wd_X2_doubtOf cI cJ cZ a_this a_this_costs a_this_costs_cells a_this_nexts a_this_nexts_cells a_this_rests a_this_rests_cells a_this_aheads a_this_aheads_cells a_this_coming a_this_coming_cells a_this_meanings a_this_meanings_cells a_this_doubts a_this_doubts_cells a_this_measureOf a_this_times v_this_size v_this_states v_this_total v_this_measures v_this_doubtsAreOld f_this_costs_cells f_this_nexts_cells f_this_rests_cells f_this_aheads_cells f_this_coming_cells f_this_meanings_cells f_this_doubts_cells) (wd_X2_doubtOf cI cJ cZ a_this a_this_costs a_this_costs_cells a_this_nexts a_this_nexts_cells a_this_rests a_this_rests_cells a_this_aheads a_this_aheads_cells a_this_coming a_this_coming_cells a_this_meanings a_this_meanings_cells a_this_doubts a_this_doubts_cells a_this_measureOf a_this_times v_this_size v_this_states v_this_total v_this_measures (o.2.1) f_this_costs_cells f_this_nexts_cells f_this_rests_cells (o.2.2.1) (o.2.2.2.1) f_this_meanings_cells (o.2.2.2.2)) (o.1) := by
  refine zMet_i (own := RX2) (fun u : Int32 × Int32 × (Nat → Int32) × (Nat → Int32) × (Nat → Int32) => (wd_X2_doubtOf cI cJ cZ a_this a_this_costs a_this_costs_cells a_this_nexts a_this_nexts_cells a_this_rests a_this_rests_cells a_this_aheads a_this_aheads_cells a_this_coming a_this_coming_cells a_this_meanings a_this_meanings_cells a_this_doubts a_this_doubts_cells a_this_measureOf a_this_times v_this_size v_this_states v_this_total v_this_measures (u.2.1) f_this_costs_cells f_this_nexts_cells f_this_rests_cells (u.2.2.1) (u.2.2.2.1) f_this_meanings_cells (u.2.2.2.2))) (fun u : Int32 × Int32 × (Nat → Int32) × (Nat → Int32) × (Nat → Int32) => u.1) (by decide) rfl rfl (Nat.le_of_ble_eq_true rfl) ?_
  intro p e s m args below meth c A Q S hK hA hw ret ls hl
  replace hl : lv_has ls 2 [(0, .ref a_this), (1, .int i1)] := hl
  refine lv_aload_n S.1 S.2.1 dX2_doubtOf_0 rfl (lv_at hl 0 rfl) ?_
  obtain ⟨v1, f2, f3, f4, hc, h⟩ := z_b4_e h
  refine z_callVv (As := []) (rest := []) S (c_X2_workDoubts l D cI cJ cZ a_this a_this_costs a_this_costs_cells a_this_nexts a_this_nexts_cells a_this_rests a_this_rests_cells a_this_aheads a_this_aheads_cells a_this_coming a_this_coming_cells a_this_meanings a_this_meanings_cells a_this_doubts a_this_doubts_cells a_this_measureOf a_this_times v_this_size v_this_states v_this_total v_this_measures v_this_doubtsAreOld f_this_costs_cells f_this_nexts_cells f_this_rests_cells f_this_aheads_cells f_this_coming_cells f_this_meanings_cells f_this_doubts_cells K _ hc) (cwV 0 S.2.2.2.2 (gw_V gw_611 gw_613 gw_23 gw_56 gw_614) rfl rfl rfl hd_X2_workDoubts ⟨Nat.le_of_ble_eq_true rfl, Nat.le_of_ble_eq_true rfl⟩) hK hA hw (0 :: 1 :: 2 :: 3 :: 4 :: 5 :: 6 :: 7 :: 8 :: 9 :: 10 :: 11 :: 12 :: 13 :: 14 :: []) (by decide) rfl rfl (some 0 :: some 1 :: some 2 :: some 3 :: some 4 :: some 5 :: some 6 :: some 7 :: some 8 :: some 9 :: some 10 :: some 11 :: some 12 :: some 13 :: some 14 :: []) rfl (by decide) 0 rfl rfl hl.1 rfl rfl (lv_room (Nat.le_of_ble_eq_true rfl)) ⟨Nat.zero_le _, Nat.zero_le _⟩ dX2_doubtOf_1 (fun H locs hw => ?_)
  replace hw : zW D A s H locs (wd_X2_doubtOf cI cJ cZ a_this a_this_costs a_this_costs_cells a_this_nexts a_this_nexts_cells a_this_rests a_this_rests_cells a_this_aheads a_this_aheads_cells a_this_coming a_this_coming_cells a_this_meanings a_this_meanings_cells a_this_doubts a_this_doubts_cells a_this_measureOf a_this_times v_this_size v_this_states v_this_total v_this_measures v1 f_this_costs_cells f_this_nexts_cells f_this_rests_cells f2 f3 f_this_meanings_cells f4) := hw
  refine lv_aload_n S.1 S.2.1 dX2_doubtOf_4 rfl (lv_at hl 0 rfl) ?_
  refine z_get S (C := RX2) (T := TX2) (N := 14) (gi gu_X2) hK hw 0 rfl rfl 6 (Nat.le_of_ble_eq_true rfl) (List.mem_cons_of_mem _ gw_188) rfl dX2_doubtOf_5 ?_
  refine lv_iload_n S.1 S.2.1 dX2_doubtOf_8 rfl (lv_at hl 1 rfl) ?_
  obtain ⟨y5, hc, h⟩ := z_b1_e h
  refine z_callVi (As := [.int i1]) (rest := []) S (c_X3_get l D cI cJ cZ a_this_doubts a_this_doubts_cells 40 f4 i1 _ hc) (cwV 1 S.2.2.2.2 (gw_V gw_572 gw_342 gw_343 gw_53 gw_344) rfl rfl rfl hd_X3_get ⟨Nat.le_of_ble_eq_true rfl, Nat.le_of_ble_eq_true rfl⟩) hK hA hw [13, 14] (by decide) rfl rfl (none :: none :: none :: none :: none :: none :: none :: none :: none :: none :: none :: none :: none :: some 0 :: some 1 :: []) rfl (by decide) 13 rfl rfl hl.1 rfl rfl (lv_room (Nat.le_of_ble_eq_true rfl)) ⟨Nat.zero_le _, Nat.zero_le _⟩ dX2_doubtOf_9 (fun H locs hw => ?_)
  replace hw : zW D A s H locs (wd_X2_doubtOf cI cJ cZ a_this a_this_costs a_this_costs_cells a_this_nexts a_this_nexts_cells a_this_rests a_this_rests_cells a_this_aheads a_this_aheads_cells a_this_coming a_this_coming_cells a_this_meanings a_this_meanings_cells a_this_doubts a_this_doubts_cells a_this_measureOf a_this_times v_this_size v_this_states v_this_total v_this_measures v1 f_this_costs_cells f_this_nexts_cells f_this_rests_cells f2 f3 f_this_meanings_cells f4) := hw
  exact ret (y5, v1, f2, f3, f4) h 12 ls _ _ dX2_doubtOf_12 hw
def gs_X2_mostDoubtful : List Cond := Cond.code yX2_mostDoubtful cX2_mostDoubtful 3 (some .int) :: GW
def wd_X2_mostDoubtful (cI cJ cZ : ClassId) (a_this a_this_costs a_this_costs_cells a_this_nexts a_this_nexts_cells a_this_rests a_this_rests_cells a_this_aheads a_this_aheads_cells a_this_coming a_this_coming_cells a_this_meanings a_this_meanings_cells a_this_doubts a_this_doubts_cells a_this_measureOf a_this_times : Nat) (v_this_size : Int32) (v_this_states : Int32) (v_this_total : Int32) (v_this_measures : Int32) (v_this_doubtsAreOld : Int32) (f_this_costs_cells : Nat → Int32) (f_this_nexts_cells : Nat → Int32) (f_this_rests_cells : Nat → Int32) (f_this_aheads_cells : Nat → Int32) (f_this_coming_cells : Nat → Int32) (f_this_meanings_cells : Nat → Int32) (f_this_doubts_cells : Nat → Int32) : va_W := ((a_this, .inr (2, [.ref a_this_costs, .ref a_this_nexts, .ref a_this_rests, .ref a_this_aheads, .ref a_this_coming, .ref a_this_meanings, .ref a_this_doubts, .ref a_this_measureOf, .ref a_this_times, .int v_this_size, .int v_this_states, .int v_this_total, .int v_this_measures, .int v_this_doubtsAreOld])) :: (a_this_costs, .inr (3, [.ref a_this_costs_cells])) :: (a_this_costs_cells, .inl (cI, 280, .inl f_this_costs_cells)) :: (a_this_nexts, .inr (3, [.ref a_this_nexts_cells])) :: (a_this_nexts_cells, .inl (cI, 525, .inl f_this_nexts_cells)) :: (a_this_rests, .inr (3, [.ref a_this_rests_cells])) :: (a_this_rests_cells, .inl (cI, 3075, .inl f_this_rests_cells)) :: (a_this_aheads, .inr (3, [.ref a_this_aheads_cells])) :: (a_this_aheads_cells, .inl (cI, 75, .inl f_this_aheads_cells)) :: (a_this_coming, .inr (3, [.ref a_this_coming_cells])) :: (a_this_coming_cells, .inl (cI, 75, .inl f_this_coming_cells)) :: (a_this_meanings, .inr (3, [.ref a_this_meanings_cells])) :: (a_this_meanings_cells, .inl (cI, 40, .inl f_this_meanings_cells)) :: (a_this_doubts, .inr (3, [.ref a_this_doubts_cells])) :: (a_this_doubts_cells, .inl (cI, 40, .inl f_this_doubts_cells)) :: [])
abbrev rm_X2_mostDoubtful : Room := { frames := 5, cells := 0, slots := 0, locals := 115 }
theorem hd_X2_mostDoubtful : yX2_mostDoubtful.cls = RX2 ∧ yX2_mostDoubtful.cls ≠ "java/lang/invoke/MethodHandle" ∧ yX2_mostDoubtful.cls ≠ "java/lang/invoke/VarHandle" ∧ (parseMethodDescriptor yX2_mostDoubtful.desc).map (fun d => d.parameters.length) = some 0 := by decide +kernel
set_option maxHeartbeats 4000000 in
set_option maxRecDepth 100000 in
theorem c_X2_mostDoubtful (l : Launch) (D : va_G) (cI cJ cZ : ClassId) (a_this a_this_costs a_this_costs_cells a_this_nexts a_this_nexts_cells a_this_rests a_this_rests_cells a_this_aheads a_this_aheads_cells a_this_coming a_this_coming_cells a_this_meanings a_this_meanings_cells a_this_doubts a_this_doubts_cells a_this_measureOf a_this_times : Nat) (v_this_size : Int32) (v_this_states : Int32) (v_this_total : Int32) (v_this_measures : Int32) (v_this_doubtsAreOld : Int32) (f_this_costs_cells : Nat → Int32) (f_this_nexts_cells : Nat → Int32) (f_this_rests_cells : Nat → Int32) (f_this_aheads_cells : Nat → Int32) (f_this_coming_cells : Nat → Int32) (f_this_meanings_cells : Nat → Int32) (f_this_doubts_cells : Nat → Int32) (K : Nat) (o : Int32 × Int32 × (Nat → Int32) × (Nat → Int32) × (Nat → Int32)) (h : p_X2_mostDoubtful K v_this_size v_this_states v_this_total v_this_doubtsAreOld f_this_costs_cells f_this_nexts_cells f_this_rests_cells f_this_aheads_cells f_this_coming_cells f_this_meanings_cells f_this_doubts_cells = some o) : zMi l D (zT cI cJ cZ) yX2_mostDoubtful gs_X2_mostDoubtful rm_X2_mostDoubtful [.ref a_this] (wd_X2_mostDoubtful cI cJ cZ a_this a_this_costs a_this_costs_cells a_this_nexts a_this_nexts_cells a_this_rests a_this_rests_cells a_this_aheads a_this_aheads_cells a_this_coming a_this_coming_cells a_this_meanings a_this_meanings_cells a_this_doubts a_this_doubts_cells a_this_measureOf a_this_times v_this_size v_this_states v_this_total v_this_measures v_this_doubtsAreOld f_this_costs_cells f_this_nexts_cells f_this_rests_cells f_this_aheads_cells f_this_coming_cells f_this_meanings_cells f_this_doubts_cells) (wd_X2_mostDoubtful cI cJ cZ a_this a_this_costs a_this_costs_cells a_this_nexts a_this_nexts_cells a_this_rests a_this_rests_cells a_this_aheads a_this_aheads_cells a_this_coming a_this_coming_cells a_this_meanings a_this_meanings_cells a_this_doubts a_this_doubts_cells a_this_measureOf a_this_times v_this_size v_this_states v_this_total v_this_measures (o.2.1) f_this_costs_cells f_this_nexts_cells f_this_rests_cells (o.2.2.1) (o.2.2.2.1) f_this_meanings_cells (o.2.2.2.2)) (o.1) := by
  refine zMet_i (own := RX2) (fun u : Int32 × Int32 × (Nat → Int32) × (Nat → Int32) × (Nat → Int32) => (wd_X2_mostDoubtful cI cJ cZ a_this a_this_costs a_this_costs_cells a_this_nexts a_this_nexts_cells a_this_rests a_this_rests_cells a_this_aheads a_this_aheads_cells a_this_coming a_this_coming_cells a_this_meanings a_this_meanings_cells a_this_doubts a_this_doubts_cells a_this_measureOf a_this_times v_this_size v_this_states v_this_total v_this_measures (u.2.1) f_this_costs_cells f_this_nexts_cells f_this_rests_cells (u.2.2.1) (u.2.2.2.1) f_this_meanings_cells (u.2.2.2.2))) (fun u : Int32 × Int32 × (Nat → Int32) × (Nat → Int32) × (Nat → Int32) => u.1) (by decide) rfl rfl (Nat.le_of_ble_eq_true rfl) ?_
  intro p e s m args below meth c A Q S hK hA hw ret ls hl
  replace hl : lv_has ls 3 [(0, .ref a_this)] := hl
  refine lv_aload_n S.1 S.2.1 dX2_mostDoubtful_0 rfl (lv_at hl 0 rfl) ?_
  obtain ⟨v1, f2, f3, f4, hc, h⟩ := z_b4_e h
  refine z_callVv (As := []) (rest := []) S (c_X2_workDoubts l D cI cJ cZ a_this a_this_costs a_this_costs_cells a_this_nexts a_this_nexts_cells a_this_rests a_this_rests_cells a_this_aheads a_this_aheads_cells a_this_coming a_this_coming_cells a_this_meanings a_this_meanings_cells a_this_doubts a_this_doubts_cells a_this_measureOf a_this_times v_this_size v_this_states v_this_total v_this_measures v_this_doubtsAreOld f_this_costs_cells f_this_nexts_cells f_this_rests_cells f_this_aheads_cells f_this_coming_cells f_this_meanings_cells f_this_doubts_cells K _ hc) (cwV 0 S.2.2.2.2 (gw_V gw_611 gw_613 gw_23 gw_56 gw_614) rfl rfl rfl hd_X2_workDoubts ⟨Nat.le_of_ble_eq_true rfl, Nat.le_of_ble_eq_true rfl⟩) hK hA hw (0 :: 1 :: 2 :: 3 :: 4 :: 5 :: 6 :: 7 :: 8 :: 9 :: 10 :: 11 :: 12 :: 13 :: 14 :: []) (by decide) rfl rfl (some 0 :: some 1 :: some 2 :: some 3 :: some 4 :: some 5 :: some 6 :: some 7 :: some 8 :: some 9 :: some 10 :: some 11 :: some 12 :: some 13 :: some 14 :: []) rfl (by decide) 0 rfl rfl hl.1 rfl rfl (lv_room (Nat.le_of_ble_eq_true rfl)) ⟨Nat.zero_le _, Nat.zero_le _⟩ dX2_mostDoubtful_1 (fun H locs hw => ?_)
  replace hw : zW D A s H locs (wd_X2_mostDoubtful cI cJ cZ a_this a_this_costs a_this_costs_cells a_this_nexts a_this_nexts_cells a_this_rests a_this_rests_cells a_this_aheads a_this_aheads_cells a_this_coming a_this_coming_cells a_this_meanings a_this_meanings_cells a_this_doubts a_this_doubts_cells a_this_measureOf a_this_times v_this_size v_this_states v_this_total v_this_measures v1 f_this_costs_cells f_this_nexts_cells f_this_rests_cells f2 f3 f_this_meanings_cells f4) := hw
  refine lv_iconst (v := (-1)) S.1 S.2.1 dX2_mostDoubtful_4 (by decide) ?_
  refine lv_istore_n (lv' := [(1, .int (-1)), (0, .ref a_this)]) S.1 S.2.1 dX2_mostDoubtful_5 rfl hl (by decide) rfl (fun ls hl => ?_)
  refine lv_iconst (v := 0) S.1 S.2.1 dX2_mostDoubtful_6 (by decide) ?_
  refine lv_istore_n (lv' := [(2, .int 0), (1, .int (-1)), (0, .ref a_this)]) S.1 S.2.1 dX2_mostDoubtful_7 rfl hl (by decide) rfl (fun ls hl => ?_)
  have L_8 : ∀ (n8_6 : Nat) (x5 : Int32) (x6 : Int32) (h : z_lp2 (p_X2_mostDoubtful_l8 v_this_size v1 f2 f3 f4) n8_6 x5 x6 = some o) (H : Heap) (locs : List Loc) (ls : Array Slot), zW D A s H locs (wd_X2_mostDoubtful cI cJ cZ a_this a_this_costs a_this_costs_cells a_this_nexts a_this_nexts_cells a_this_rests a_this_rests_cells a_this_aheads a_this_aheads_cells a_this_coming a_this_coming_cells a_this_meanings a_this_meanings_cells a_this_doubts a_this_doubts_cells a_this_measureOf a_this_times v_this_size v_this_states v_this_total v_this_measures v1 f_this_costs_cells f_this_nexts_cells f_this_rests_cells f2 f3 f_this_meanings_cells f4) → lv_has ls 3 [(0, .ref a_this), (1, .int x5), (2, .int x6)] → W p l e (headSpec gs_X2_mostDoubtful rm_X2_mostDoubtful).room s m args below meth c H locs 0 0 Q (F0 m 8 ls []) := by
    intro n8_6
    induction n8_6 with
    | zero => intro x5 x6 h; exact z_no h
    | succ n8_6 ih_8 =>
      intro x5 x6 h H locs ls hw hl
      replace h : (p_X2_mostDoubtful_l8 v_this_size v1 f2 f3 f4) (z_lp2 (p_X2_mostDoubtful_l8 v_this_size v1 f2 f3 f4) n8_6) x5 x6 = some o := h
      refine lv_iload_n S.1 S.2.1 dX2_mostDoubtful_8 rfl (lv_at hl 2 rfl) ?_
      refine lv_aload_n S.1 S.2.1 dX2_mostDoubtful_9 rfl (lv_at hl 0 rfl) ?_
      refine z_get S (C := RX2) (T := TX2) (N := 14) (gi gu_X2) hK hw 0 rfl rfl 9 (Nat.le_of_ble_eq_true rfl) (List.mem_cons_of_mem _ gw_191) rfl dX2_mostDoubtful_10 ?_
      refine z_icmp_ge S (tgt := 60) h dX2_mostDoubtful_13 (by decide) (fun h => ?_) (fun h => ?_)
      · refine lv_iload_n S.1 S.2.1 dX2_mostDoubtful_60 rfl (lv_at hl 1 rfl) ?_
        exact ret (x5, v1, f2, f3, f4) h 61 ls _ _ dX2_mostDoubtful_61 hw
      · refine lv_aload_n S.1 S.2.1 dX2_mostDoubtful_16 rfl (lv_at hl 0 rfl) ?_
        refine z_get S (C := RX2) (T := TX2) (N := 14) (gi gu_X2) hK hw 0 rfl rfl 6 (Nat.le_of_ble_eq_true rfl) (List.mem_cons_of_mem _ gw_188) rfl dX2_mostDoubtful_17 ?_
        refine lv_iload_n S.1 S.2.1 dX2_mostDoubtful_20 rfl (lv_at hl 2 rfl) ?_
        obtain ⟨y7, hc, h⟩ := z_b1_e h
        refine z_callVi (As := [.int x6]) (rest := []) S (c_X3_get l D cI cJ cZ a_this_doubts a_this_doubts_cells 40 f4 x6 _ hc) (cwV 1 S.2.2.2.2 (gw_V gw_572 gw_342 gw_343 gw_53 gw_344) rfl rfl rfl hd_X3_get ⟨Nat.le_of_ble_eq_true rfl, Nat.le_of_ble_eq_true rfl⟩) hK hA hw [13, 14] (by decide) rfl rfl (none :: none :: none :: none :: none :: none :: none :: none :: none :: none :: none :: none :: none :: some 0 :: some 1 :: []) rfl (by decide) 13 rfl rfl hl.1 rfl rfl (lv_room (Nat.le_of_ble_eq_true rfl)) ⟨Nat.zero_le _, Nat.zero_le _⟩ dX2_mostDoubtful_21 (fun H locs hw => ?_)
        replace hw : zW D A s H locs (wd_X2_mostDoubtful cI cJ cZ a_this a_this_costs a_this_costs_cells a_this_nexts a_this_nexts_cells a_this_rests a_this_rests_cells a_this_aheads a_this_aheads_cells a_this_coming a_this_coming_cells a_this_meanings a_this_meanings_cells a_this_doubts a_this_doubts_cells a_this_measureOf a_this_times v_this_size v_this_states v_this_total v_this_measures v1 f_this_costs_cells f_this_nexts_cells f_this_rests_cells f2 f3 f_this_meanings_cells f4) := hw
        refine lv_iconst (v := (-1)) S.1 S.2.1 dX2_mostDoubtful_24 (by decide) ?_
        refine z_icmp_eq S (tgt := 54) h dX2_mostDoubtful_25 (by decide) (fun h => ?_) (fun h => ?_)
        · refine z_iinc S (i := 2) (k := 2) (v := x6 + 1) hl rfl (by decide) rfl (fun v => (2, .int v) :: [(0, .ref a_this), (1, .int x5)]) (fun _ => rfl) h dX2_mostDoubtful_54 (fun y8 ls hl h => ?_)
          replace hl : lv_has ls 3 [(2, .int y8), (0, .ref a_this), (1, .int x5)] := hl
          refine lv_goto (tgt := 8) S.1 S.2.1 dX2_mostDoubtful_57 (by decide) ?_
          exact ih_8 x5 y8 h _ _ ls hw (lv_sub hl [1, 2, 0] rfl)
        · refine lv_iload_n S.1 S.2.1 dX2_mostDoubtful_28 rfl (lv_at hl 1 rfl) ?_
          refine lv_iconst (v := (-1)) S.1 S.2.1 dX2_mostDoubtful_29 (by decide) ?_
          refine z_icmp_eq S (tgt := 52) h dX2_mostDoubtful_30 (by decide) (fun h => ?_) (fun h => ?_)
          · refine lv_iload_n S.1 S.2.1 dX2_mostDoubtful_52 rfl (lv_at hl 2 rfl) ?_
            refine lv_istore_n (lv' := [(1, .int x6), (0, .ref a_this), (2, .int x6)]) S.1 S.2.1 dX2_mostDoubtful_53 rfl hl (by decide) rfl (fun ls hl => ?_)
            refine z_iinc S (i := 2) (k := 2) (v := x6 + 1) hl rfl (by decide) rfl (fun v => (2, .int v) :: [(1, .int x6), (0, .ref a_this)]) (fun _ => rfl) h dX2_mostDoubtful_54 (fun y9 ls hl h => ?_)
            replace hl : lv_has ls 3 [(2, .int y9), (1, .int x6), (0, .ref a_this)] := hl
            refine lv_goto (tgt := 8) S.1 S.2.1 dX2_mostDoubtful_57 (by decide) ?_
            exact ih_8 x6 y9 h _ _ ls hw (lv_sub hl [2, 1, 0] rfl)
          · refine lv_aload_n S.1 S.2.1 dX2_mostDoubtful_33 rfl (lv_at hl 0 rfl) ?_
            refine z_get S (C := RX2) (T := TX2) (N := 14) (gi gu_X2) hK hw 0 rfl rfl 6 (Nat.le_of_ble_eq_true rfl) (List.mem_cons_of_mem _ gw_188) rfl dX2_mostDoubtful_34 ?_
            refine lv_iload_n S.1 S.2.1 dX2_mostDoubtful_37 rfl (lv_at hl 2 rfl) ?_
            obtain ⟨y10, hc, h⟩ := z_b1_e h
            refine z_callVi (As := [.int x6]) (rest := []) S (c_X3_get l D cI cJ cZ a_this_doubts a_this_doubts_cells 40 f4 x6 _ hc) (cwV 1 S.2.2.2.2 (gw_V gw_572 gw_342 gw_343 gw_53 gw_344) rfl rfl rfl hd_X3_get ⟨Nat.le_of_ble_eq_true rfl, Nat.le_of_ble_eq_true rfl⟩) hK hA hw [13, 14] (by decide) rfl rfl (none :: none :: none :: none :: none :: none :: none :: none :: none :: none :: none :: none :: none :: some 0 :: some 1 :: []) rfl (by decide) 13 rfl rfl hl.1 rfl rfl (lv_room (Nat.le_of_ble_eq_true rfl)) ⟨Nat.zero_le _, Nat.zero_le _⟩ dX2_mostDoubtful_38 (fun H locs hw => ?_)
            replace hw : zW D A s H locs (wd_X2_mostDoubtful cI cJ cZ a_this a_this_costs a_this_costs_cells a_this_nexts a_this_nexts_cells a_this_rests a_this_rests_cells a_this_aheads a_this_aheads_cells a_this_coming a_this_coming_cells a_this_meanings a_this_meanings_cells a_this_doubts a_this_doubts_cells a_this_measureOf a_this_times v_this_size v_this_states v_this_total v_this_measures v1 f_this_costs_cells f_this_nexts_cells f_this_rests_cells f2 f3 f_this_meanings_cells f4) := hw
            refine lv_aload_n S.1 S.2.1 dX2_mostDoubtful_41 rfl (lv_at hl 0 rfl) ?_
            refine z_get S (C := RX2) (T := TX2) (N := 14) (gi gu_X2) hK hw 0 rfl rfl 6 (Nat.le_of_ble_eq_true rfl) (List.mem_cons_of_mem _ gw_188) rfl dX2_mostDoubtful_42 ?_
            refine lv_iload_n S.1 S.2.1 dX2_mostDoubtful_45 rfl (lv_at hl 1 rfl) ?_
            obtain ⟨y11, hc, h⟩ := z_b1_e h
            refine z_callVi (As := [.int x5]) (rest := [.int y10]) S (c_X3_get l D cI cJ cZ a_this_doubts a_this_doubts_cells 40 f4 x5 _ hc) (cwV 1 S.2.2.2.2 (gw_V gw_572 gw_342 gw_343 gw_53 gw_344) rfl rfl rfl hd_X3_get ⟨Nat.le_of_ble_eq_true rfl, Nat.le_of_ble_eq_true rfl⟩) hK hA hw [13, 14] (by decide) rfl rfl (none :: none :: none :: none :: none :: none :: none :: none :: none :: none :: none :: none :: none :: some 0 :: some 1 :: []) rfl (by decide) 13 rfl rfl hl.1 rfl rfl (lv_room (Nat.le_of_ble_eq_true rfl)) ⟨Nat.zero_le _, Nat.zero_le _⟩ dX2_mostDoubtful_46 (fun H locs hw => ?_)
            replace hw : zW D A s H locs (wd_X2_mostDoubtful cI cJ cZ a_this a_this_costs a_this_costs_cells a_this_nexts a_this_nexts_cells a_this_rests a_this_rests_cells a_this_aheads a_this_aheads_cells a_this_coming a_this_coming_cells a_this_meanings a_this_meanings_cells a_this_doubts a_this_doubts_cells a_this_measureOf a_this_times v_this_size v_this_states v_this_total v_this_measures v1 f_this_costs_cells f_this_nexts_cells f_this_rests_cells f2 f3 f_this_meanings_cells f4) := hw
            refine z_icmp_ge S (tgt := 54) h dX2_mostDoubtful_49 (by decide) (fun h => ?_) (fun h => ?_)
            · refine z_iinc S (i := 2) (k := 2) (v := x6 + 1) hl rfl (by decide) rfl (fun v => (2, .int v) :: [(0, .ref a_this), (1, .int x5)]) (fun _ => rfl) h dX2_mostDoubtful_54 (fun y12 ls hl h => ?_)
              replace hl : lv_has ls 3 [(2, .int y12), (0, .ref a_this), (1, .int x5)] := hl
              refine lv_goto (tgt := 8) S.1 S.2.1 dX2_mostDoubtful_57 (by decide) ?_
              exact ih_8 x5 y12 h _ _ ls hw (lv_sub hl [1, 2, 0] rfl)
            · refine lv_iload_n S.1 S.2.1 dX2_mostDoubtful_52 rfl (lv_at hl 2 rfl) ?_
              refine lv_istore_n (lv' := [(1, .int x6), (0, .ref a_this), (2, .int x6)]) S.1 S.2.1 dX2_mostDoubtful_53 rfl hl (by decide) rfl (fun ls hl => ?_)
              refine z_iinc S (i := 2) (k := 2) (v := x6 + 1) hl rfl (by decide) rfl (fun v => (2, .int v) :: [(1, .int x6), (0, .ref a_this)]) (fun _ => rfl) h dX2_mostDoubtful_54 (fun y13 ls hl h => ?_)
              replace hl : lv_has ls 3 [(2, .int y13), (1, .int x6), (0, .ref a_this)] := hl
              refine lv_goto (tgt := 8) S.1 S.2.1 dX2_mostDoubtful_57 (by decide) ?_
              exact ih_8 x6 y13 h _ _ ls hw (lv_sub hl [2, 1, 0] rfl)
  exact L_8 K (-1) 0 h _ _ ls hw (lv_sub hl [2, 1, 0] rfl)
def gs_X2_measureCount : List Cond := Cond.code yX2_measureCount cX2_measureCount 1 (some .int) :: GW
def wd_X2_measureCount (cI cJ cZ : ClassId) (a_this a_this_costs a_this_nexts a_this_rests a_this_aheads a_this_coming a_this_meanings a_this_doubts a_this_measureOf a_this_times : Nat) (v_this_size : Int32) (v_this_states : Int32) (v_this_total : Int32) (v_this_measures : Int32) (v_this_doubtsAreOld : Int32) : va_W := [(a_this, .inr (2, [.ref a_this_costs, .ref a_this_nexts, .ref a_this_rests, .ref a_this_aheads, .ref a_this_coming, .ref a_this_meanings, .ref a_this_doubts, .ref a_this_measureOf, .ref a_this_times, .int v_this_size, .int v_this_states, .int v_this_total, .int v_this_measures, .int v_this_doubtsAreOld]))]
abbrev rm_X2_measureCount : Room := { frames := 0, cells := 0, slots := 0, locals := 0 }
theorem hd_X2_measureCount : yX2_measureCount.cls = RX2 ∧ yX2_measureCount.cls ≠ "java/lang/invoke/MethodHandle" ∧ yX2_measureCount.cls ≠ "java/lang/invoke/VarHandle" ∧ (parseMethodDescriptor yX2_measureCount.desc).map (fun d => d.parameters.length) = some 0 := by decide +kernel
set_option maxHeartbeats 4000000 in
set_option maxRecDepth 100000 in
theorem c_X2_measureCount (l : Launch) (D : va_G) (cI cJ cZ : ClassId) (a_this a_this_costs a_this_nexts a_this_rests a_this_aheads a_this_coming a_this_meanings a_this_doubts a_this_measureOf a_this_times : Nat) (v_this_size : Int32) (v_this_states : Int32) (v_this_total : Int32) (v_this_measures : Int32) (v_this_doubtsAreOld : Int32) (o : Int32) (h : p_X2_measureCount v_this_measures = some o) : zMi l D (zT cI cJ cZ) yX2_measureCount gs_X2_measureCount rm_X2_measureCount [.ref a_this] (wd_X2_measureCount cI cJ cZ a_this a_this_costs a_this_nexts a_this_rests a_this_aheads a_this_coming a_this_meanings a_this_doubts a_this_measureOf a_this_times v_this_size v_this_states v_this_total v_this_measures v_this_doubtsAreOld) (wd_X2_measureCount cI cJ cZ a_this a_this_costs a_this_nexts a_this_rests a_this_aheads a_this_coming a_this_meanings a_this_doubts a_this_measureOf a_this_times v_this_size v_this_states v_this_total v_this_measures v_this_doubtsAreOld) (o) := by
  refine zMet_i (own := RX2) (fun u : Int32 => (wd_X2_measureCount cI cJ cZ a_this a_this_costs a_this_nexts a_this_rests a_this_aheads a_this_coming a_this_meanings a_this_doubts a_this_measureOf a_this_times v_this_size v_this_states v_this_total v_this_measures v_this_doubtsAreOld)) (fun u : Int32 => u) (by decide) rfl rfl (Nat.le_of_ble_eq_true rfl) ?_
  intro p e s m args below meth c A Q S hK hA hw ret ls hl
  replace hl : lv_has ls 1 [(0, .ref a_this)] := hl
  refine lv_aload_n S.1 S.2.1 dX2_measureCount_0 rfl (lv_at hl 0 rfl) ?_
  refine z_get S (C := RX2) (T := TX2) (N := 14) (gi gu_X2) hK hw 0 rfl rfl 12 (Nat.le_of_ble_eq_true rfl) (List.mem_cons_of_mem _ gw_194) rfl dX2_measureCount_1 ?_
  exact ret v_this_measures h 4 ls _ _ dX2_measureCount_4 hw
def gs_X2_noteSign : List Cond := Cond.code yX2_noteSign cX2_noteSign 5 (some .int) :: GW
def wd_X2_noteSign (cI cJ cZ : ClassId) (a_this a_this_costs a_this_nexts a_this_rests a_this_aheads a_this_coming a_this_meanings a_this_meanings_cells a_this_doubts a_this_measureOf a_this_measureOf_cells a_this_times : Nat) (v_this_size : Int32) (v_this_states : Int32) (v_this_total : Int32) (v_this_measures : Int32) (v_this_doubtsAreOld : Int32) (f_this_meanings_cells : Nat → Int32) (f_this_measureOf_cells : Nat → Int32) : va_W := [(a_this, .inr (2, [.ref a_this_costs, .ref a_this_nexts, .ref a_this_rests, .ref a_this_aheads, .ref a_this_coming, .ref a_this_meanings, .ref a_this_doubts, .ref a_this_measureOf, .ref a_this_times, .int v_this_size, .int v_this_states, .int v_this_total, .int v_this_measures, .int v_this_doubtsAreOld])), (a_this_meanings, .inr (3, [.ref a_this_meanings_cells])), (a_this_meanings_cells, .inl (cI, 40, .inl f_this_meanings_cells)), (a_this_measureOf, .inr (3, [.ref a_this_measureOf_cells])), (a_this_measureOf_cells, .inl (cI, 40, .inl f_this_measureOf_cells))]
abbrev rm_X2_noteSign : Room := { frames := 1, cells := 0, slots := 0, locals := 21 }
theorem hd_X2_noteSign : yX2_noteSign.cls = RX2 ∧ yX2_noteSign.cls ≠ "java/lang/invoke/MethodHandle" ∧ yX2_noteSign.cls ≠ "java/lang/invoke/VarHandle" ∧ (parseMethodDescriptor yX2_noteSign.desc).map (fun d => d.parameters.length) = some 2 := by decide +kernel
set_option maxHeartbeats 4000000 in
set_option maxRecDepth 100000 in
theorem c_X2_noteSign (l : Launch) (D : va_G) (cI cJ cZ : ClassId) (a_this a_this_costs a_this_nexts a_this_rests a_this_aheads a_this_coming a_this_meanings a_this_meanings_cells a_this_doubts a_this_measureOf a_this_measureOf_cells a_this_times : Nat) (v_this_size : Int32) (v_this_states : Int32) (v_this_total : Int32) (v_this_measures : Int32) (v_this_doubtsAreOld : Int32) (f_this_meanings_cells : Nat → Int32) (f_this_measureOf_cells : Nat → Int32) (K : Nat) (i1 : Int32) (i2 : Int32) (o : Int32) (h : p_X2_noteSign K v_this_size f_this_meanings_cells f_this_measureOf_cells i1 i2 = some o) : zMi l D (zT cI cJ cZ) yX2_noteSign gs_X2_noteSign rm_X2_noteSign [.ref a_this, .int i1, .int i2] (wd_X2_noteSign cI cJ cZ a_this a_this_costs a_this_nexts a_this_rests a_this_aheads a_this_coming a_this_meanings a_this_meanings_cells a_this_doubts a_this_measureOf a_this_measureOf_cells a_this_times v_this_size v_this_states v_this_total v_this_measures v_this_doubtsAreOld f_this_meanings_cells f_this_measureOf_cells) (wd_X2_noteSign cI cJ cZ a_this a_this_costs a_this_nexts a_this_rests a_this_aheads a_this_coming a_this_meanings a_this_meanings_cells a_this_doubts a_this_measureOf a_this_measureOf_cells a_this_times v_this_size v_this_states v_this_total v_this_measures v_this_doubtsAreOld f_this_meanings_cells f_this_measureOf_cells) (o) := by
  refine zMet_i (own := RX2) (fun u : Int32 => (wd_X2_noteSign cI cJ cZ a_this a_this_costs a_this_nexts a_this_rests a_this_aheads a_this_coming a_this_meanings a_this_meanings_cells a_this_doubts a_this_measureOf a_this_measureOf_cells a_this_times v_this_size v_this_states v_this_total v_this_measures v_this_doubtsAreOld f_this_meanings_cells f_this_measureOf_cells)) (fun u : Int32 => u) (by decide) rfl rfl (Nat.le_of_ble_eq_true rfl) ?_
  intro p e s m args below meth c A Q S hK hA hw ret ls hl
  replace hl : lv_has ls 5 [(0, .ref a_this), (1, .int i1), (2, .int i2)] := hl
  refine lv_iconst (v := 0) S.1 S.2.1 dX2_noteSign_0 (by decide) ?_
  refine lv_istore_n (lv' := [(3, .int 0), (0, .ref a_this), (1, .int i1), (2, .int i2)]) S.1 S.2.1 dX2_noteSign_1 rfl hl (by decide) rfl (fun ls hl => ?_)
  refine lv_iconst (v := 0) S.1 S.2.1 dX2_noteSign_2 (by decide) ?_
  refine lv_istore (lv' := [(4, .int 0), (3, .int 0), (0, .ref a_this), (1, .int i1), (2, .int i2)]) S.1 S.2.1 dX2_noteSign_3 hl (by decide) rfl (fun ls hl => ?_)
  have L_5 : ∀ (n5_2 : Nat) (x1 : Int32) (x2 : Int32) (h : z_lp2 (p_X2_noteSign_l5 v_this_size f_this_meanings_cells f_this_measureOf_cells i1 i2) n5_2 x1 x2 = some o) (H : Heap) (locs : List Loc) (ls : Array Slot), zW D A s H locs (wd_X2_noteSign cI cJ cZ a_this a_this_costs a_this_nexts a_this_rests a_this_aheads a_this_coming a_this_meanings a_this_meanings_cells a_this_doubts a_this_measureOf a_this_measureOf_cells a_this_times v_this_size v_this_states v_this_total v_this_measures v_this_doubtsAreOld f_this_meanings_cells f_this_measureOf_cells) → lv_has ls 5 [(0, .ref a_this), (1, .int i1), (2, .int i2), (3, .int x1), (4, .int x2)] → W p l e (headSpec gs_X2_noteSign rm_X2_noteSign).room s m args below meth c H locs 0 0 Q (F0 m 5 ls []) := by
    intro n5_2
    induction n5_2 with
    | zero => intro x1 x2 h; exact z_no h
    | succ n5_2 ih_5 =>
      intro x1 x2 h H locs ls hw hl
      replace h : (p_X2_noteSign_l5 v_this_size f_this_meanings_cells f_this_measureOf_cells i1 i2) (z_lp2 (p_X2_noteSign_l5 v_this_size f_this_meanings_cells f_this_measureOf_cells i1 i2) n5_2) x1 x2 = some o := h
      refine lv_iload S.1 S.2.1 dX2_noteSign_5 (lv_at hl 4 rfl) ?_
      refine lv_aload_n S.1 S.2.1 dX2_noteSign_7 rfl (lv_at hl 0 rfl) ?_
      refine z_get S (C := RX2) (T := TX2) (N := 14) (gi gu_X2) hK hw 0 rfl rfl 9 (Nat.le_of_ble_eq_true rfl) (List.mem_cons_of_mem _ gw_191) rfl dX2_noteSign_8 ?_
      refine z_icmp_ge S (tgt := 57) h dX2_noteSign_11 (by decide) (fun h => ?_) (fun h => ?_)
      · refine lv_iconst (v := (-1)) S.1 S.2.1 dX2_noteSign_57 (by decide) ?_
        exact ret (-1) h 58 ls _ _ dX2_noteSign_58 hw
      · refine lv_aload_n S.1 S.2.1 dX2_noteSign_14 rfl (lv_at hl 0 rfl) ?_
        refine z_get S (C := RX2) (T := TX2) (N := 14) (gi gu_X2) hK hw 0 rfl rfl 5 (Nat.le_of_ble_eq_true rfl) (List.mem_cons_of_mem _ gw_187) rfl dX2_noteSign_15 ?_
        refine lv_iload S.1 S.2.1 dX2_noteSign_18 (lv_at hl 4 rfl) ?_
        obtain ⟨y3, hc, h⟩ := z_b1_e h
        refine z_callVi (As := [.int x2]) (rest := []) S (c_X3_get l D cI cJ cZ a_this_meanings a_this_meanings_cells 40 f_this_meanings_cells x2 _ hc) (cwV 1 S.2.2.2.2 (gw_V gw_572 gw_342 gw_343 gw_53 gw_344) rfl rfl rfl hd_X3_get ⟨Nat.le_of_ble_eq_true rfl, Nat.le_of_ble_eq_true rfl⟩) hK hA hw [1, 2] (by decide) rfl rfl [none, some 0, some 1, none, none] rfl (by decide) 1 rfl rfl hl.1 rfl rfl (lv_room (Nat.le_of_ble_eq_true rfl)) ⟨Nat.zero_le _, Nat.zero_le _⟩ dX2_noteSign_20 (fun H locs hw => ?_)
        replace hw : zW D A s H locs (wd_X2_noteSign cI cJ cZ a_this a_this_costs a_this_nexts a_this_rests a_this_aheads a_this_coming a_this_meanings a_this_meanings_cells a_this_doubts a_this_measureOf a_this_measureOf_cells a_this_times v_this_size v_this_states v_this_total v_this_measures v_this_doubtsAreOld f_this_meanings_cells f_this_measureOf_cells) := hw
        refine lv_iconst (v := 2) S.1 S.2.1 dX2_noteSign_23 (by decide) ?_
        refine z_icmp_gt S (tgt := 51) h dX2_noteSign_24 (by decide) (fun h => ?_) (fun h => ?_)
        · refine z_iinc S (i := 4) (k := 4) (v := x2 + 1) hl rfl (by decide) rfl (fun v => (4, .int v) :: [(0, .ref a_this), (1, .int i1), (2, .int i2), (3, .int x1)]) (fun _ => rfl) h dX2_noteSign_51 (fun y4 ls hl h => ?_)
          replace hl : lv_has ls 5 [(4, .int y4), (0, .ref a_this), (1, .int i1), (2, .int i2), (3, .int x1)] := hl
          refine lv_goto (tgt := 5) S.1 S.2.1 dX2_noteSign_54 (by decide) ?_
          exact ih_5 x1 y4 h _ _ ls hw (lv_sub hl [1, 2, 3, 4, 0] rfl)
        · refine lv_aload_n S.1 S.2.1 dX2_noteSign_27 rfl (lv_at hl 0 rfl) ?_
          refine z_get S (C := RX2) (T := TX2) (N := 14) (gi gu_X2) hK hw 0 rfl rfl 7 (Nat.le_of_ble_eq_true rfl) (List.mem_cons_of_mem _ gw_189) rfl dX2_noteSign_28 ?_
          refine lv_iload S.1 S.2.1 dX2_noteSign_31 (lv_at hl 4 rfl) ?_
          obtain ⟨y5, hc, h⟩ := z_b1_e h
          refine z_callVi (As := [.int x2]) (rest := []) S (c_X3_get l D cI cJ cZ a_this_measureOf a_this_measureOf_cells 40 f_this_measureOf_cells x2 _ hc) (cwV 1 S.2.2.2.2 (gw_V gw_572 gw_342 gw_343 gw_53 gw_344) rfl rfl rfl hd_X3_get ⟨Nat.le_of_ble_eq_true rfl, Nat.le_of_ble_eq_true rfl⟩) hK hA hw [3, 4] (by decide) rfl rfl [none, none, none, some 0, some 1] rfl (by decide) 3 rfl rfl hl.1 rfl rfl (lv_room (Nat.le_of_ble_eq_true rfl)) ⟨Nat.zero_le _, Nat.zero_le _⟩ dX2_noteSign_33 (fun H locs hw => ?_)
          replace hw : zW D A s H locs (wd_X2_noteSign cI cJ cZ a_this a_this_costs a_this_nexts a_this_rests a_this_aheads a_this_coming a_this_meanings a_this_meanings_cells a_this_doubts a_this_measureOf a_this_measureOf_cells a_this_times v_this_size v_this_states v_this_total v_this_measures v_this_doubtsAreOld f_this_meanings_cells f_this_measureOf_cells) := hw
          refine lv_iload_n S.1 S.2.1 dX2_noteSign_36 rfl (lv_at hl 1 rfl) ?_
          refine z_icmp_ne S (tgt := 51) h dX2_noteSign_37 (by decide) (fun h => ?_) (fun h => ?_)
          · refine z_iinc S (i := 4) (k := 4) (v := x2 + 1) hl rfl (by decide) rfl (fun v => (4, .int v) :: [(0, .ref a_this), (1, .int i1), (2, .int i2), (3, .int x1)]) (fun _ => rfl) h dX2_noteSign_51 (fun y6 ls hl h => ?_)
            replace hl : lv_has ls 5 [(4, .int y6), (0, .ref a_this), (1, .int i1), (2, .int i2), (3, .int x1)] := hl
            refine lv_goto (tgt := 5) S.1 S.2.1 dX2_noteSign_54 (by decide) ?_
            exact ih_5 x1 y6 h _ _ ls hw (lv_sub hl [1, 2, 3, 4, 0] rfl)
          · refine lv_iload_n S.1 S.2.1 dX2_noteSign_40 rfl (lv_at hl 3 rfl) ?_
            refine lv_iload_n S.1 S.2.1 dX2_noteSign_41 rfl (lv_at hl 2 rfl) ?_
            refine z_icmp_ne S (tgt := 48) h dX2_noteSign_42 (by decide) (fun h => ?_) (fun h => ?_)
            · refine z_iinc S (i := 3) (k := 3) (v := x1 + 1) hl rfl (by decide) rfl (fun v => (3, .int v) :: [(0, .ref a_this), (1, .int i1), (2, .int i2), (4, .int x2)]) (fun _ => rfl) h dX2_noteSign_48 (fun y7 ls hl h => ?_)
              replace hl : lv_has ls 5 [(3, .int y7), (0, .ref a_this), (1, .int i1), (2, .int i2), (4, .int x2)] := hl
              refine z_iinc S (i := 4) (k := 4) (v := x2 + 1) hl rfl (by decide) rfl (fun v => (4, .int v) :: [(3, .int y7), (0, .ref a_this), (1, .int i1), (2, .int i2)]) (fun _ => rfl) h dX2_noteSign_51 (fun y8 ls hl h => ?_)
              replace hl : lv_has ls 5 [(4, .int y8), (3, .int y7), (0, .ref a_this), (1, .int i1), (2, .int i2)] := hl
              refine lv_goto (tgt := 5) S.1 S.2.1 dX2_noteSign_54 (by decide) ?_
              exact ih_5 y7 y8 h _ _ ls hw (lv_sub hl [2, 3, 4, 1, 0] rfl)
            · refine lv_iload S.1 S.2.1 dX2_noteSign_45 (lv_at hl 4 rfl) ?_
              exact ret x2 h 47 ls _ _ dX2_noteSign_47 hw
  exact L_5 K 0 0 h _ _ ls hw (lv_sub hl [2, 3, 4, 1, 0] rfl)
def gs_X2_noteTime : List Cond := Cond.code yX2_noteTime cX2_noteTime 2 (some .int) :: GW
def wd_X2_noteTime (cI cJ cZ : ClassId) (a_this a_this_costs a_this_nexts a_this_rests a_this_aheads a_this_coming a_this_meanings a_this_doubts a_this_measureOf a_this_times a_this_times_cells : Nat) (v_this_size : Int32) (v_this_states : Int32) (v_this_total : Int32) (v_this_measures : Int32) (v_this_doubtsAreOld : Int32) (f_this_times_cells : Nat → Int32) : va_W := [(a_this, .inr (2, [.ref a_this_costs, .ref a_this_nexts, .ref a_this_rests, .ref a_this_aheads, .ref a_this_coming, .ref a_this_meanings, .ref a_this_doubts, .ref a_this_measureOf, .ref a_this_times, .int v_this_size, .int v_this_states, .int v_this_total, .int v_this_measures, .int v_this_doubtsAreOld])), (a_this_times, .inr (3, [.ref a_this_times_cells])), (a_this_times_cells, .inl (cI, 40, .inl f_this_times_cells))]
abbrev rm_X2_noteTime : Room := { frames := 1, cells := 0, slots := 0, locals := 21 }
theorem hd_X2_noteTime : yX2_noteTime.cls = RX2 ∧ yX2_noteTime.cls ≠ "java/lang/invoke/MethodHandle" ∧ yX2_noteTime.cls ≠ "java/lang/invoke/VarHandle" ∧ (parseMethodDescriptor yX2_noteTime.desc).map (fun d => d.parameters.length) = some 1 := by decide +kernel
set_option maxHeartbeats 4000000 in
set_option maxRecDepth 100000 in
theorem c_X2_noteTime (l : Launch) (D : va_G) (cI cJ cZ : ClassId) (a_this a_this_costs a_this_nexts a_this_rests a_this_aheads a_this_coming a_this_meanings a_this_doubts a_this_measureOf a_this_times a_this_times_cells : Nat) (v_this_size : Int32) (v_this_states : Int32) (v_this_total : Int32) (v_this_measures : Int32) (v_this_doubtsAreOld : Int32) (f_this_times_cells : Nat → Int32) (i1 : Int32) (o : Int32) (h : p_X2_noteTime f_this_times_cells i1 = some o) : zMi l D (zT cI cJ cZ) yX2_noteTime gs_X2_noteTime rm_X2_noteTime [.ref a_this, .int i1] (wd_X2_noteTime cI cJ cZ a_this a_this_costs a_this_nexts a_this_rests a_this_aheads a_this_coming a_this_meanings a_this_doubts a_this_measureOf a_this_times a_this_times_cells v_this_size v_this_states v_this_total v_this_measures v_this_doubtsAreOld f_this_times_cells) (wd_X2_noteTime cI cJ cZ a_this a_this_costs a_this_nexts a_this_rests a_this_aheads a_this_coming a_this_meanings a_this_doubts a_this_measureOf a_this_times a_this_times_cells v_this_size v_this_states v_this_total v_this_measures v_this_doubtsAreOld f_this_times_cells) (o) := by
  refine zMet_i (own := RX2) (fun u : Int32 => (wd_X2_noteTime cI cJ cZ a_this a_this_costs a_this_nexts a_this_rests a_this_aheads a_this_coming a_this_meanings a_this_doubts a_this_measureOf a_this_times a_this_times_cells v_this_size v_this_states v_this_total v_this_measures v_this_doubtsAreOld f_this_times_cells)) (fun u : Int32 => u) (by decide) rfl rfl (Nat.le_of_ble_eq_true rfl) ?_
  intro p e s m args below meth c A Q S hK hA hw ret ls hl
  replace hl : lv_has ls 2 [(0, .ref a_this), (1, .int i1)] := hl
  refine lv_aload_n S.1 S.2.1 dX2_noteTime_0 rfl (lv_at hl 0 rfl) ?_
  refine z_get S (C := RX2) (T := TX2) (N := 14) (gi gu_X2) hK hw 0 rfl rfl 8 (Nat.le_of_ble_eq_true rfl) (List.mem_cons_of_mem _ gw_190) rfl dX2_noteTime_1 ?_
  refine lv_iload_n S.1 S.2.1 dX2_noteTime_4 rfl (lv_at hl 1 rfl) ?_
  obtain ⟨y1, hc, h⟩ := z_b1_e h
  refine z_callVi (As := [.int i1]) (rest := []) S (c_X3_get l D cI cJ cZ a_this_times a_this_times_cells 40 f_this_times_cells i1 _ hc) (cwV 1 S.2.2.2.2 (gw_V gw_572 gw_342 gw_343 gw_53 gw_344) rfl rfl rfl hd_X3_get ⟨Nat.le_of_ble_eq_true rfl, Nat.le_of_ble_eq_true rfl⟩) hK hA hw [1, 2] (by decide) rfl rfl [none, some 0, some 1] rfl (by decide) 1 rfl rfl hl.1 rfl rfl (lv_room (Nat.le_of_ble_eq_true rfl)) ⟨Nat.zero_le _, Nat.zero_le _⟩ dX2_noteTime_5 (fun H locs hw => ?_)
  replace hw : zW D A s H locs (wd_X2_noteTime cI cJ cZ a_this a_this_costs a_this_nexts a_this_rests a_this_aheads a_this_coming a_this_meanings a_this_doubts a_this_measureOf a_this_times a_this_times_cells v_this_size v_this_states v_this_total v_this_measures v_this_doubtsAreOld f_this_times_cells) := hw
  exact ret y1 h 8 ls _ _ dX2_noteTime_8 hw
