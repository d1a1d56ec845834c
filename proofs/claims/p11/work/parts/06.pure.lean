def p_X3_get (n_this : Nat) (f_this_cells : Nat → Int32) (i1 : Int32) : Option (Int32) :=
  if i1 < 0 then (some 0)
  else (if (nI n_this) ≤ i1 then (some 0)
  else (z_ald n_this f_this_cells i1 (fun y1 => some y1)))
def p_X3_put (n_this : Nat) (f_this_cells : Nat → Int32) (i1 : Int32) (i2 : Int32) : Option ((Nat → Int32)) :=
  if i1 < 0 then (some f_this_cells)
  else (if (nI n_this) ≤ i1 then (some f_this_cells)
  else (z_ast n_this f_this_cells i1 i2 (fun f1 => some f1)))
def p_X3_fill_l2 (n_this : Nat) (i1 : Int32) (kb_2 : (Nat → Int32) → Int32 → Option ((Nat → Int32))) (f1 : Nat → Int32) (x2 : Int32) : Option ((Nat → Int32)) :=
  if (nI n_this) ≤ x2 then (some f1)
  else (z_ast n_this f1 x2 i1 (fun f3 => z_let (x2 + 1) (fun y4 => kb_2 f3 y4)))
def p_X3_fill (K : Nat) (n_this : Nat) (f_this_cells : Nat → Int32) (i1 : Int32) : Option ((Nat → Int32)) :=
  z_lp2 (p_X3_fill_l2 n_this i1) K f_this_cells 0
def p_X3_copy_l2 (n_this : Nat) (n_p1 : Nat) (f_p1_cells : Nat → Int32) (kb_2 : (Nat → Int32) → Int32 → Option ((Nat → Int32))) (f1 : Nat → Int32) (x2 : Int32) : Option ((Nat → Int32)) :=
  if (nI n_this) ≤ x2 then (some f1)
  else (z_b1 (p_X3_get n_p1 f_p1_cells x2) (fun y3 => z_ast n_this f1 x2 y3 (fun f4 => z_let (x2 + 1) (fun y5 => kb_2 f4 y5))))
def p_X3_copy (K : Nat) (n_this : Nat) (n_p1 : Nat) (f_this_cells : Nat → Int32) (f_p1_cells : Nat → Int32) : Option ((Nat → Int32)) :=
  z_lp2 (p_X3_copy_l2 n_this n_p1 f_p1_cells) K f_this_cells 0
def p_X4_at (f_this_rows : Nat → Int64) (i1 : Int32) : Option (Int64) :=
  if i1 < 0 then (some 0)
  else (if 32 ≤ i1 then (some 0)
  else (z_ald 32 f_this_rows i1 (fun y1 => some y1)))
def p_X4_put (f_this_rows : Nat → Int64) (i1 : Int32) (i2 : Int64) : Option ((Nat → Int64)) :=
  if i1 < 0 then (some f_this_rows)
  else (if 32 ≤ i1 then (some f_this_rows)
  else (z_astL 32 f_this_rows i1 i2 (fun f1 => some f1)))
def p_X4_isBlack (f_this_rows : Nat → Int64) (i1 : Int32) (i2 : Int32) : Option (Int32) :=
  if i1 < 0 then (some 0)
  else (if 60 ≤ i1 then (some 0)
  else (z_b1 (p_X4_at f_this_rows i2) (fun y1 => if (lg_cmp (((y1.toUInt64 >>> (i1.toInt64.toUInt64 &&& Int64.toUInt64 63)).toInt64) &&& 1) 1) = 0 then (some 1)
  else (some 0))))
def p_X4_wipe (f_this_rows : Nat → Int64) (i1 : Int32) (i2 : Int32) : Option ((Nat → Int64)) :=
  if i1 < 0 then (some f_this_rows)
  else (if 60 ≤ i1 then (some f_this_rows)
  else (z_b1 (p_X4_at f_this_rows i2) (fun y1 => z_b1 (p_X4_put f_this_rows i2 (y1 &&& ((((1 : Int64) <<< (i1.toInt64 &&& 63))) ^^^ (-1)))) (fun f2 => some f2))))
def p_X4_copy_l2 (f_p1_rows : Nat → Int64) (kb_2 : (Nat → Int64) → Int32 → Option ((Nat → Int64))) (f1 : Nat → Int64) (x2 : Int32) : Option ((Nat → Int64)) :=
  if 32 ≤ x2 then (some f1)
  else (z_b1 (p_X4_at f_p1_rows x2) (fun y3 => z_astL 32 f1 x2 y3 (fun f4 => z_let (x2 + 1) (fun y5 => kb_2 f4 y5))))
def p_X4_copy (K : Nat) (f_this_rows : Nat → Int64) (f_p1_rows : Nat → Int64) : Option ((Nat → Int64)) :=
  z_lp2 (p_X4_copy_l2 f_p1_rows) K f_this_rows 0
def p_J13_bitCount_95d88 (i0 : Int64) : Option (Int32) :=
  z_let ((i0 - (((i0.toUInt64 >>> ((1 : Int32).toInt64.toUInt64 &&& Int64.toUInt64 63)).toInt64) &&& 6148914691236517205))) (fun y1 => z_let (((y1 &&& 3689348814741910323) + (((y1.toUInt64 >>> ((2 : Int32).toInt64.toUInt64 &&& Int64.toUInt64 63)).toInt64) &&& 3689348814741910323))) (fun y2 => z_let (((y2 + ((y2.toUInt64 >>> ((4 : Int32).toInt64.toUInt64 &&& Int64.toUInt64 63)).toInt64)) &&& 1085102592571150095)) (fun y3 => z_let ((y3 + ((y3.toUInt64 >>> ((8 : Int32).toInt64.toUInt64 &&& Int64.toUInt64 63)).toInt64))) (fun y4 => z_let ((y4 + ((y4.toUInt64 >>> ((16 : Int32).toInt64.toUInt64 &&& Int64.toUInt64 63)).toInt64))) (fun y5 => z_let ((y5 + ((y5.toUInt64 >>> ((32 : Int32).toInt64.toUInt64 &&& Int64.toUInt64 63)).toInt64))) (fun y6 => some ((y6.toInt32) &&& 127)))))))
def p_X4_paint_j42 (y4 : Int64) (x2 : Int32) (f1 : Nat → Int64) (i1 : Int32) (x3 : Int32) (kb_6 : (Nat → Int64) → Int32 → Int32 → Option (Int32 × (Nat → Int64))) (z5 : Int64) : Option (Int32 × (Nat → Int64)) :=
  z_b1 (p_J13_bitCount_95d88 (y4 ^^^ z5)) (fun y6 => z_let ((x2 + y6)) (fun y7 => z_b1 (p_X4_put f1 (i1 + x3) z5) (fun f8 => z_let (x3 + 1) (fun y9 => kb_6 f8 y7 y9))))
def p_X4_paint_l6 (i2 : Int32) (i1 : Int32) (i5 : Int32) (i3 : Int64) (kb_6 : (Nat → Int64) → Int32 → Int32 → Option (Int32 × (Nat → Int64))) (f1 : Nat → Int64) (x2 : Int32) (x3 : Int32) : Option (Int32 × (Nat → Int64)) :=
  if i2 ≤ x3 then (some (x2, f1))
  else (z_b1 (p_X4_at f1 (i1 + x3)) (fun y4 => if i5 = 0 then ((p_X4_paint_j42 y4 x2 f1 i1 x3 kb_6) (y4 &&& (i3 ^^^ (-1))))
  else ((p_X4_paint_j42 y4 x2 f1 i1 x3 kb_6) (y4 ||| i3))))
def p_X4_paint (K : Nat) (f_this_rows : Nat → Int64) (i1 : Int32) (i2 : Int32) (i3 : Int64) (i5 : Int32) : Option (Int32 × (Nat → Int64)) :=
  z_lp3 (p_X4_paint_l6 i2 i1 i5 i3) K f_this_rows 0 0
def p_X4_blackDots_l4 (f_this_rows : Nat → Int64) (kb_4 : Int32 → Int32 → Option (Int32)) (x1 : Int32) (x2 : Int32) : Option (Int32) :=
  if 32 ≤ x2 then (some x1)
  else (z_ald 32 f_this_rows x2 (fun y3 => z_b1 (p_J13_bitCount_95d88 y3) (fun y4 => z_let ((x1 + y4)) (fun y5 => z_let (x2 + 1) (fun y6 => kb_4 y5 y6)))))
def p_X4_blackDots (K : Nat) (f_this_rows : Nat → Int64) : Option (Int32) :=
  z_lp2 (p_X4_blackDots_l4 f_this_rows) K 0 0
def p_J9_floorDiv_7cf53 (i0 : Int32) (i1 : Int32) : Option (Int32) :=
  z_div i0 i1 (fun y1 => if 0 ≤ (i0 ^^^ i1) then (some y1)
  else (if (y1 * i1) = i0 then (some y1)
  else (some (y1 - 1))))
def p_J9_max_7cf53 (i0 : Int32) (i1 : Int32) : Option (Int32) :=
  if i0 < i1 then (some i1)
  else (some i0)
def p_J9_min_7cf53 (i0 : Int32) (i1 : Int32) : Option (Int32) :=
  if i1 < i0 then (some i1)
  else (some i0)
def p_X1_hasRun_j29 (x1 : Int64) : Option (Int32) :=
  if (lg_cmp x1 0) = 0 then (some 0)
  else (some 1)
def p_X1_hasRun_l5 (i2 : Int32) (kj_29 : Int64 → Option (Int32)) (kb_5 : Int64 → Int32 → Option (Int32)) (x2 : Int64) (x3 : Int32) : Option (Int32) :=
  if i2 ≤ x3 then (kj_29 x2)
  else (if (lg_cmp x2 0) = 0 then (kj_29 x2)
  else (z_let ((x2 &&& ((x2.toUInt64 >>> ((1 : Int32).toInt64.toUInt64 &&& Int64.toUInt64 63)).toInt64))) (fun y4 => z_let (x3 + 1) (fun y5 => kb_5 y4 y5))))
def p_X1_hasRun (K : Nat) (i0 : Int64) (i2 : Int32) : Option (Int32) :=
  z_lp2 (p_X1_hasRun_l5 i2 p_X1_hasRun_j29) K i0 1
def p_X1_gapBehind (f_this_firsts_cells : Nat → Int32) (i1 : Int32) : Option (Int32) :=
  z_b1 (p_X3_get 32 f_this_firsts_cells (i1 + 1)) (fun y1 => z_b1 (p_X3_get 32 f_this_firsts_cells i1) (fun y2 => some (y1 - y2)))
def p_X1_isEven_j46 (x1 : Int32) (x2 : Int32) : Option (Int32) :=
  if 1 < (x2 - x1) then (some 0)
  else (some 1)
def p_X1_isEven_l8 (i1 : Int32) (f_this_firsts_cells : Nat → Int32) (kj_46 : Int32 → Int32 → Option (Int32)) (kb_8 : Int32 → Int32 → Int32 → Option (Int32)) (x3 : Int32) (x4 : Int32) (x5 : Int32) : Option (Int32) :=
  if ((i1 + 5) - 1) ≤ x5 then (kj_46 x3 x4)
  else (z_b1 (p_X1_gapBehind f_this_firsts_cells x5) (fun y6 => z_b1 (p_J9_min_7cf53 x3 y6) (fun y7 => z_b1 (p_X1_gapBehind f_this_firsts_cells x5) (fun y8 => z_b1 (p_J9_max_7cf53 x4 y8) (fun y9 => z_let (x5 + 1) (fun y10 => kb_8 y7 y9 y10))))))
def p_X1_isEven (K : Nat) (f_this_firsts_cells : Nat → Int32) (i1 : Int32) : Option (Int32) :=
  z_lp3 (p_X1_isEven_l8 i1 f_this_firsts_cells p_X1_isEven_j46) K 32 0 i1
def p_X1_firstStaff_l2 (v_this_size : Int32) (K : Nat) (f_this_firsts_cells : Nat → Int32) (kb_2 : Int32 → Option (Int32)) (x1 : Int32) : Option (Int32) :=
  if v_this_size < (x1 + 5) then (some (-1))
  else (z_b1 (p_X1_isEven K f_this_firsts_cells x1) (fun y2 => if y2 = 0 then (z_let (x1 + 1) (fun y3 => kb_2 y3))
  else (some x1)))
def p_X1_firstStaff (K : Nat) (v_this_size : Int32) (f_this_firsts_cells : Nat → Int32) : Option (Int32) :=
  z_lp1 (p_X1_firstStaff_l2 v_this_size K f_this_firsts_cells) K 0
def p_X1_look_j90 (K : Nat) (v1 : Int32) (f2 : Nat → Int32) (f3 : Nat → Int32) : Option (Int32 × Int32 × (Nat → Int32) × (Nat → Int32)) :=
  z_b1 (p_X1_firstStaff K v1 f2) (fun y4 => some (v1, y4, f2, f3))
def p_X1_look_j61 (y11 : Int32) (x9 : Int32) (f7 : Nat → Int32) (kb_10 : Int32 → (Nat → Int32) → (Nat → Int32) → Int32 → Int32 → Option (Int32 × Int32 × (Nat → Int32) × (Nat → Int32))) (v12 : Int32) (f13 : Nat → Int32) : Option (Int32 × Int32 × (Nat → Int32) × (Nat → Int32)) :=
  if y11 = 0 then (z_let (x9 + 1) (fun y14 => kb_10 v12 f13 f7 y11 y14))
  else (z_b1 (p_X3_put 32 f7 (v12 - 1) x9) (fun f15 => z_let (x9 + 1) (fun y16 => kb_10 v12 f13 f15 y11 y16)))
def p_X1_look_l10 (f_p1_rows : Nat → Int64) (K : Nat) (i2 : Int32) (kj_90 : Int32 → (Nat → Int32) → (Nat → Int32) → Option (Int32 × Int32 × (Nat → Int32) × (Nat → Int32))) (kb_10 : Int32 → (Nat → Int32) → (Nat → Int32) → Int32 → Int32 → Option (Int32 × Int32 × (Nat → Int32) × (Nat → Int32))) (v5 : Int32) (f6 : Nat → Int32) (f7 : Nat → Int32) (x8 : Int32) (x9 : Int32) : Option (Int32 × Int32 × (Nat → Int32) × (Nat → Int32)) :=
  if 32 ≤ x9 then (kj_90 v5 f6 f7)
  else (z_b1 (p_X4_at f_p1_rows x9) (fun y10 => z_b1 (p_X1_hasRun K y10 i2) (fun y11 => if y11 = 0 then ((p_X1_look_j61 y11 x9 f7 kb_10) v5 f6)
  else (if x8 = 0 then (z_b1 (p_X3_put 32 f6 v5 x9) (fun f17 => z_let ((v5 + 1)) (fun y18 => (p_X1_look_j61 y11 x9 f7 kb_10) y18 f17)))
  else ((p_X1_look_j61 y11 x9 f7 kb_10) v5 f6)))))
def p_X1_look (K : Nat) (v_this_size : Int32) (v_this_staffStart : Int32) (f_this_firsts_cells : Nat → Int32) (f_this_lasts_cells : Nat → Int32) (f_p1_rows : Nat → Int64) (i2 : Int32) : Option (Int32 × Int32 × (Nat → Int32) × (Nat → Int32)) :=
  z_lp5 (p_X1_look_l10 f_p1_rows K i2 (p_X1_look_j90 K)) K 0 f_this_firsts_cells f_this_lasts_cells 0 0
def p_X1_size (v_this_size : Int32) : Option (Int32) :=
  some v_this_size
def p_X1_hasStaff (v_this_staffStart : Int32) : Option (Int32) :=
  if v_this_staffStart = (-1) then (some 0)
  else (some 1)
def p_X1_gap (v_this_staffStart : Int32) (f_this_firsts_cells : Nat → Int32) : Option (Int32) :=
  z_b1 (p_X1_hasStaff v_this_staffStart) (fun y1 => if y1 = 0 then (some (-1))
  else (z_b1 (p_X1_gapBehind f_this_firsts_cells v_this_staffStart) (fun y2 => some y2)))
def p_X1_firstRow (v_this_staffStart : Int32) (f_this_firsts_cells : Nat → Int32) (i1 : Int32) : Option (Int32) :=
  z_b1 (p_X3_get 32 f_this_firsts_cells (v_this_staffStart + i1)) (fun y1 => some y1)
def p_X1_lastRow (v_this_staffStart : Int32) (f_this_lasts_cells : Nat → Int32) (i1 : Int32) : Option (Int32) :=
  z_b1 (p_X3_get 32 f_this_lasts_cells (v_this_staffStart + i1)) (fun y1 => some y1)
def p_X1_stepAt (v_this_staffStart : Int32) (f_this_firsts_cells : Nat → Int32) (f_this_lasts_cells : Nat → Int32) (i1 : Int32) : Option (Int32) :=
  z_b1 (p_X1_gap v_this_staffStart f_this_firsts_cells) (fun y1 => if 1 ≤ y1 then (z_b1 (p_X1_lastRow v_this_staffStart f_this_lasts_cells 4) (fun y2 => z_b1 (p_J9_floorDiv_7cf53 (2 * (y2 - i1)) y1) (fun y3 => some y3)))
  else (some (-1001)))
def p_X1_takeOff_l46 (v_this_staffStart : Int32) (f_this_lasts_cells : Nat → Int32) (x3 : Int32) (y8 : Int64) (kb_10 : (Nat → Int64) → Int32 → Option ((Nat → Int64))) (kb_46 : (Nat → Int64) → Int32 → Option ((Nat → Int64))) (f10 : Nat → Int64) (x11 : Int32) : Option ((Nat → Int64)) :=
  z_b1 (p_X1_lastRow v_this_staffStart f_this_lasts_cells x3) (fun y12 => if y12 < x11 then (z_let (x3 + 1) (fun y13 => kb_10 f10 y13))
  else (if 32 ≤ x11 then (z_let (x3 + 1) (fun y14 => kb_10 f10 y14))
  else (z_b1 (p_X4_at f10 x11) (fun y15 => z_b1 (p_X4_put f10 x11 (y15 &&& y8)) (fun f16 => z_let (x11 + 1) (fun y17 => kb_46 f16 y17))))))
def p_X1_takeOff_l10 (v_this_staffStart : Int32) (f_this_firsts_cells : Nat → Int32) (f_this_lasts_cells : Nat → Int32) (K : Nat) (kb_10 : (Nat → Int64) → Int32 → Option ((Nat → Int64))) (f2 : Nat → Int64) (x3 : Int32) : Option ((Nat → Int64)) :=
  if 5 ≤ x3 then (some f2)
  else (z_b1 (p_X1_firstRow v_this_staffStart f_this_firsts_cells x3) (fun y4 => z_b1 (p_X4_at f2 (y4 - 1)) (fun y5 => z_b1 (p_X1_lastRow v_this_staffStart f_this_lasts_cells x3) (fun y6 => z_b1 (p_X4_at f2 (y6 + 1)) (fun y7 => z_let ((y5 ||| y7)) (fun y8 => z_b1 (p_X1_firstRow v_this_staffStart f_this_firsts_cells x3) (fun y9 => z_lp2 (p_X1_takeOff_l46 v_this_staffStart f_this_lasts_cells x3 y8 kb_10) K f2 y9)))))))
def p_X1_takeOff (K : Nat) (v_this_staffStart : Int32) (f_this_firsts_cells : Nat → Int32) (f_this_lasts_cells : Nat → Int32) (f_p1_rows : Nat → Int64) : Option ((Nat → Int64)) :=
  z_b1 (p_X1_hasStaff v_this_staffStart) (fun y1 => if y1 = 0 then (some f_p1_rows)
  else (z_lp2 (p_X1_takeOff_l10 v_this_staffStart f_this_firsts_cells f_this_lasts_cells K) K f_p1_rows 0))
def p_X5_putFact (f_this_facts_cells : Nat → Int32) (i1 : Int32) (i2 : Int32) (i3 : Int32) : Option ((Nat → Int32)) :=
  z_b1 (p_X3_put 240 f_this_facts_cells ((i1 * 6) + i2) i3) (fun f1 => some f1)
def p_X5_factAt (f_this_facts_cells : Nat → Int32) (i1 : Int32) (i2 : Int32) : Option (Int32) :=
  z_b1 (p_X3_get 240 f_this_facts_cells ((i1 * 6) + i2)) (fun y1 => some y1)
def p_X5_include (f_this_facts_cells : Nat → Int32) (i1 : Int32) (i2 : Int32) (i3 : Int32) : Option ((Nat → Int32)) :=
  z_b1 (p_X5_factAt f_this_facts_cells i1 0) (fun y1 => z_b1 (p_X5_putFact f_this_facts_cells i1 0 (y1 + 1)) (fun f2 => z_b1 (p_X5_factAt f2 i1 1) (fun y3 => z_b1 (p_J9_min_7cf53 y3 i2) (fun y4 => z_b1 (p_X5_putFact f2 i1 1 y4) (fun f5 => z_b1 (p_X5_factAt f5 i1 2) (fun y6 => z_b1 (p_J9_min_7cf53 y6 i3) (fun y7 => z_b1 (p_X5_putFact f5 i1 2 y7) (fun f8 => z_b1 (p_X5_factAt f8 i1 3) (fun y9 => z_b1 (p_J9_max_7cf53 y9 i2) (fun y10 => z_b1 (p_X5_putFact f8 i1 3 y10) (fun f11 => z_b1 (p_X5_factAt f11 i1 4) (fun y12 => z_b1 (p_J9_max_7cf53 y12 i3) (fun y13 => z_b1 (p_X5_putFact f11 i1 4 y13) (fun f14 => some f14))))))))))))))
def p_X5_queueNeighbours_l21 (i1 : Int32) (x5 : Int32) (kb_8 : (Nat → Int64) → (Nat → Int32) → Int32 → Int32 → Option (Int32 × (Nat → Int64) × (Nat → Int32))) (kb_21 : (Nat → Int64) → (Nat → Int32) → Int32 → Int32 → Option (Int32 × (Nat → Int64) × (Nat → Int32))) (f7 : Nat → Int64) (f8 : Nat → Int32) (x9 : Int32) (x10 : Int32) : Option (Int32 × (Nat → Int64) × (Nat → Int32)) :=
  if (i1 + 1) < x10 then (z_let (x5 + 1) (fun y11 => kb_8 f7 f8 x9 y11))
  else (z_b1 (p_X4_isBlack f7 x10 x5) (fun y12 => if y12 = 0 then (z_let (x10 + 1) (fun y13 => kb_21 f7 f8 x9 y13))
  else (z_b1 (p_X4_wipe f7 x10 x5) (fun f14 => z_b1 (p_X3_put 1920 f8 x9 ((x5 * 60) + x10)) (fun f15 => z_let (x9 + 1) (fun y16 => z_let (x10 + 1) (fun y17 => kb_21 f14 f15 y16 y17)))))))
def p_X5_queueNeighbours_l8 (i2 : Int32) (i1 : Int32) (K : Nat) (kb_8 : (Nat → Int64) → (Nat → Int32) → Int32 → Int32 → Option (Int32 × (Nat → Int64) × (Nat → Int32))) (f2 : Nat → Int64) (f3 : Nat → Int32) (x4 : Int32) (x5 : Int32) : Option (Int32 × (Nat → Int64) × (Nat → Int32)) :=
  if (i2 + 1) < x5 then (some (x4, f2, f3))
  else (z_let ((i1 - 1)) (fun y6 => z_lp4 (p_X5_queueNeighbours_l21 i1 x5 kb_8) K f2 f3 x4 y6))
def p_X5_queueNeighbours (K : Nat) (f_this_left_rows : Nat → Int64) (f_this_queue_cells : Nat → Int32) (i1 : Int32) (i2 : Int32) (i3 : Int32) : Option (Int32 × (Nat → Int64) × (Nat → Int32)) :=
  z_let ((i2 - 1)) (fun y1 => z_lp4 (p_X5_queueNeighbours_l8 i2 i1 K) K f_this_left_rows f_this_queue_cells i3 y1)
def p_X5_flood_l68 (i1 : Int32) (K : Nat) (kb_68 : (Nat → Int64) → (Nat → Int32) → (Nat → Int32) → Int32 → Int32 → Option ((Nat → Int64) × (Nat → Int32) × (Nat → Int32))) (f9 : Nat → Int64) (f10 : Nat → Int32) (f11 : Nat → Int32) (x12 : Int32) (x13 : Int32) : Option ((Nat → Int64) × (Nat → Int32) × (Nat → Int32)) :=
  if x12 ≤ x13 then (some (f9, f10, f11))
  else (if 1920 ≤ x13 then (some (f9, f10, f11))
  else (z_b1 (p_X3_get 1920 f10 x13) (fun y14 => z_rem y14 60 (fun y15 => z_b1 (p_X3_get 1920 f10 x13) (fun y16 => z_div y16 60 (fun y17 => z_b1 (p_X5_include f11 i1 y15 y17) (fun f18 => z_b3 (p_X5_queueNeighbours K f9 f10 y15 y17 x12) (fun y19 f20 f21 => z_let (x13 + 1) (fun y22 => kb_68 f20 f21 f18 y19 y22)))))))))
def p_X5_flood (K : Nat) (f_this_left_rows : Nat → Int64) (f_this_queue_cells : Nat → Int32) (f_this_facts_cells : Nat → Int32) (i1 : Int32) (i2 : Int32) (i3 : Int32) : Option ((Nat → Int64) × (Nat → Int32) × (Nat → Int32)) :=
  z_b1 (p_X4_wipe f_this_left_rows i2 i3) (fun f1 => z_b1 (p_X3_put 1920 f_this_queue_cells 0 ((i3 * 60) + i2)) (fun f2 => z_let (0 + 1) (fun y3 => z_b1 (p_X5_putFact f_this_facts_cells i1 0 0) (fun f4 => z_b1 (p_X5_putFact f4 i1 1 i2) (fun f5 => z_b1 (p_X5_putFact f5 i1 2 i3) (fun f6 => z_b1 (p_X5_putFact f6 i1 3 i2) (fun f7 => z_b1 (p_X5_putFact f7 i1 4 i3) (fun f8 => z_lp5 (p_X5_flood_l68 i1 K) K f1 f2 f8 y3 0))))))))
def p_X5_isAhead (f_this_facts_cells : Nat → Int32) (i1 : Int32) (i2 : Int32) : Option (Int32) :=
  z_b1 (p_X5_factAt f_this_facts_cells i1 1) (fun y1 => z_b1 (p_X5_factAt f_this_facts_cells i2 1) (fun y2 => if y1 = y2 then (z_b1 (p_X5_factAt f_this_facts_cells i1 2) (fun y3 => z_b1 (p_X5_factAt f_this_facts_cells i2 2) (fun y4 => if y4 ≤ y3 then (some 0)
  else (some 1))))
  else (z_b1 (p_X5_factAt f_this_facts_cells i1 1) (fun y5 => z_b1 (p_X5_factAt f_this_facts_cells i2 1) (fun y6 => if y6 ≤ y5 then (some 0)
  else (some 1))))))
def p_X5_order_j48 (i1 : Int32) (f1 : Nat → Int32) (x2 : Int32) : Option ((Nat → Int32)) :=
  z_b1 (p_X3_put 40 f1 x2 i1) (fun f3 => some f3)
def p_X5_order_l2 (f_this_facts_cells : Nat → Int32) (i1 : Int32) (kj_48 : (Nat → Int32) → Int32 → Option ((Nat → Int32))) (kb_2 : (Nat → Int32) → Int32 → Option ((Nat → Int32))) (f4 : Nat → Int32) (x5 : Int32) : Option ((Nat → Int32)) :=
  if x5 ≤ 0 then (kj_48 f4 x5)
  else (z_b1 (p_X3_get 40 f4 (x5 - 1)) (fun y6 => z_b1 (p_X5_isAhead f_this_facts_cells i1 y6) (fun y7 => if y7 = 0 then (kj_48 f4 x5)
  else (z_b1 (p_X3_get 40 f4 (x5 - 1)) (fun y8 => z_b1 (p_X3_put 40 f4 x5 y8) (fun f9 => z_let (x5 + (-1)) (fun y10 => kb_2 f9 y10)))))))
def p_X5_order (K : Nat) (f_this_facts_cells : Nat → Int32) (f_this_places_cells : Nat → Int32) (i1 : Int32) : Option ((Nat → Int32)) :=
  z_lp2 (p_X5_order_l2 f_this_facts_cells i1 (p_X5_order_j48 i1)) K f_this_places_cells i1
def p_X5_add (K : Nat) (v_this_size : Int32) (f_this_left_rows : Nat → Int64) (f_this_queue_cells : Nat → Int32) (f_this_facts_cells : Nat → Int32) (f_this_places_cells : Nat → Int32) (i1 : Int32) (i2 : Int32) : Option (Int32 × Int32 × (Nat → Int64) × (Nat → Int32) × (Nat → Int32) × (Nat → Int32)) :=
  if v_this_size < 40 then (z_b3 (p_X5_flood K f_this_left_rows f_this_queue_cells f_this_facts_cells v_this_size i1 i2) (fun f1 f2 f3 => z_b1 (p_X5_order K f3 f_this_places_cells v_this_size) (fun f4 => z_let ((v_this_size + 1)) (fun y5 => some (1, y5, f1, f2, f3, f4)))))
  else (some (0, v_this_size, f_this_left_rows, f_this_queue_cells, f_this_facts_cells, f_this_places_cells))
def p_X5_tellSteps_l2 (v_this_size : Int32) (v_p1_staffStart : Int32) (f_p1_firsts_cells : Nat → Int32) (f_p1_lasts_cells : Nat → Int32) (kb_2 : (Nat → Int32) → Int32 → Option ((Nat → Int32))) (f1 : Nat → Int32) (x2 : Int32) : Option ((Nat → Int32)) :=
  if v_this_size ≤ x2 then (some f1)
  else (z_b1 (p_X5_factAt f1 x2 2) (fun y3 => z_b1 (p_X5_factAt f1 x2 4) (fun y4 => z_div (y3 + y4) 2 (fun y5 => z_b1 (p_X1_stepAt v_p1_staffStart f_p1_firsts_cells f_p1_lasts_cells y5) (fun y6 => z_b1 (p_X5_putFact f1 x2 5 y6) (fun f7 => z_let (x2 + 1) (fun y8 => kb_2 f7 y8)))))))
def p_X5_tellSteps (K : Nat) (v_this_size : Int32) (f_this_facts_cells : Nat → Int32) (v_p1_staffStart : Int32) (f_p1_firsts_cells : Nat → Int32) (f_p1_lasts_cells : Nat → Int32) : Option ((Nat → Int32)) :=
  z_lp2 (p_X5_tellSteps_l2 v_this_size v_p1_staffStart f_p1_firsts_cells f_p1_lasts_cells) K f_this_facts_cells 0
def p_X5_forgetIfOthers_j19 (v_this_size : Int32) (f1 : Nat → Int32) : Option (Int32 × (Nat → Int32)) :=
  some (v_this_size, f1)
def p_X5_forgetIfOthers (K : Nat) (v_this_size : Int32) (v_this_sizeBefore : Int32) (f_this_told_cells : Nat → Int32) : Option (Int32 × (Nat → Int32)) :=
  if v_this_size = v_this_sizeBefore then ((p_X5_forgetIfOthers_j19 v_this_size) f_this_told_cells)
  else (z_b1 (p_X3_fill K 40 f_this_told_cells (-1)) (fun f2 => (p_X5_forgetIfOthers_j19 v_this_size) f2))
def p_X5_gather_j89 (K : Nat) (v_p2_staffStart : Int32) (f_p2_firsts_cells : Nat → Int32) (f_p2_lasts_cells : Nat → Int32) (v_this_sizeBefore : Int32) (f_this_told_cells : Nat → Int32) (v3 : Int32) (f4 : Nat → Int64) (f5 : Nat → Int32) (f6 : Nat → Int32) (f7 : Nat → Int32) : Option (Int32 × Int32 × Int32 × (Nat → Int64) × (Nat → Int32) × (Nat → Int32) × (Nat → Int32) × (Nat → Int32)) :=
  z_b1 (p_X5_tellSteps K v3 f6 v_p2_staffStart f_p2_firsts_cells f_p2_lasts_cells) (fun f8 => z_b2 (p_X5_forgetIfOthers K v3 v_this_sizeBefore f_this_told_cells) (fun v9 f10 => some (1, v3, v9, f4, f5, f8, f7, f10)))
def p_X5_gather_l32 (x16 : Int32) (K : Nat) (v_this_sizeBefore : Int32) (f_this_told_cells : Nat → Int32) (kb_23 : Int32 → (Nat → Int64) → (Nat → Int32) → (Nat → Int32) → (Nat → Int32) → Int32 → Option (Int32 × Int32 × Int32 × (Nat → Int64) × (Nat → Int32) × (Nat → Int32) × (Nat → Int32) × (Nat → Int32))) (kb_32 : Int32 → (Nat → Int64) → (Nat → Int32) → (Nat → Int32) → (Nat → Int32) → Int32 → Option (Int32 × Int32 × Int32 × (Nat → Int64) × (Nat → Int32) × (Nat → Int32) × (Nat → Int32) × (Nat → Int32))) (v17 : Int32) (f18 : Nat → Int64) (f19 : Nat → Int32) (f20 : Nat → Int32) (f21 : Nat → Int32) (x22 : Int32) : Option (Int32 × Int32 × Int32 × (Nat → Int64) × (Nat → Int32) × (Nat → Int32) × (Nat → Int32) × (Nat → Int32)) :=
  if 60 ≤ x22 then (z_let (x16 + 1) (fun y23 => kb_23 v17 f18 f19 f20 f21 y23))
  else (z_b1 (p_X4_at f18 x16) (fun y24 => if (lg_cmp y24 0) = 0 then (z_let (x16 + 1) (fun y25 => kb_23 v17 f18 f19 f20 f21 y25))
  else (z_b1 (p_X4_isBlack f18 x22 x16) (fun y26 => if y26 = 0 then (z_let (x22 + 1) (fun y27 => kb_32 v17 f18 f19 f20 f21 y27))
  else (z_b6 (p_X5_add K v17 f18 f19 f20 f21 x22 x16) (fun y28 v29 f30 f31 f32 f33 => if y28 = 0 then (some (0, v29, v_this_sizeBefore, f30, f31, f32, f33, f_this_told_cells))
  else (z_let (x22 + 1) (fun y34 => kb_32 v29 f30 f31 f32 f33 y34))))))))
def p_X5_gather_l23 (K : Nat) (v_this_sizeBefore : Int32) (f_this_told_cells : Nat → Int32) (kj_89 : Int32 → (Nat → Int64) → (Nat → Int32) → (Nat → Int32) → (Nat → Int32) → Option (Int32 × Int32 × Int32 × (Nat → Int64) × (Nat → Int32) × (Nat → Int32) × (Nat → Int32) × (Nat → Int32))) (kb_23 : Int32 → (Nat → Int64) → (Nat → Int32) → (Nat → Int32) → (Nat → Int32) → Int32 → Option (Int32 × Int32 × Int32 × (Nat → Int64) × (Nat → Int32) × (Nat → Int32) × (Nat → Int32) × (Nat → Int32))) (v11 : Int32) (f12 : Nat → Int64) (f13 : Nat → Int32) (f14 : Nat → Int32) (f15 : Nat → Int32) (x16 : Int32) : Option (Int32 × Int32 × Int32 × (Nat → Int64) × (Nat → Int32) × (Nat → Int32) × (Nat → Int32) × (Nat → Int32)) :=
  if 32 ≤ x16 then (kj_89 v11 f12 f13 f14 f15)
  else (z_lp6 (p_X5_gather_l32 x16 K v_this_sizeBefore f_this_told_cells kb_23) K v11 f12 f13 f14 f15 0)
def p_X5_gather (K : Nat) (v_this_size : Int32) (v_this_sizeBefore : Int32) (f_this_left_rows : Nat → Int64) (f_this_queue_cells : Nat → Int32) (f_this_facts_cells : Nat → Int32) (f_this_places_cells : Nat → Int32) (f_this_told_cells : Nat → Int32) (f_p1_rows : Nat → Int64) (v_p2_staffStart : Int32) (f_p2_firsts_cells : Nat → Int32) (f_p2_lasts_cells : Nat → Int32) : Option (Int32 × Int32 × Int32 × (Nat → Int64) × (Nat → Int32) × (Nat → Int32) × (Nat → Int32) × (Nat → Int32)) :=
  z_b1 (p_X4_copy K f_this_left_rows f_p1_rows) (fun f1 => z_b1 (p_X1_takeOff K v_p2_staffStart f_p2_firsts_cells f_p2_lasts_cells f1) (fun f2 => z_lp6 (p_X5_gather_l23 K v_this_sizeBefore f_this_told_cells (p_X5_gather_j89 K v_p2_staffStart f_p2_firsts_cells f_p2_lasts_cells v_this_sizeBefore f_this_told_cells)) K 0 f2 f_this_queue_cells f_this_facts_cells f_this_places_cells 0))
def p_X5_size (v_this_size : Int32) : Option (Int32) :=
  some v_this_size
def p_X5_fact (f_this_facts_cells : Nat → Int32) (f_this_places_cells : Nat → Int32) (i1 : Int32) (i2 : Int32) : Option (Int32) :=
  z_b1 (p_X3_get 40 f_this_places_cells i1) (fun y1 => z_b1 (p_X3_get 240 f_this_facts_cells ((y1 * 6) + i2)) (fun y2 => some y2))
def p_X5_boxHeight (f_this_facts_cells : Nat → Int32) (f_this_places_cells : Nat → Int32) (i1 : Int32) : Option (Int32) :=
  z_b1 (p_X5_fact f_this_facts_cells f_this_places_cells i1 4) (fun y1 => z_b1 (p_X5_fact f_this_facts_cells f_this_places_cells i1 2) (fun y2 => some ((y1 - y2) + 1)))
def p_X5_said (f_this_told_cells : Nat → Int32) (i1 : Int32) : Option (Int32) :=
  z_b1 (p_X3_get 40 f_this_told_cells i1) (fun y1 => some y1)
def p_X5_say (f_this_told_cells : Nat → Int32) (i1 : Int32) (i2 : Int32) : Option (Int32 × (Nat → Int32)) :=
  z_b1 (p_X3_get 40 f_this_told_cells i1) (fun y1 => z_b1 (p_X3_put 40 f_this_told_cells i1 i2) (fun f2 => some (y1, f2)))
def p_X5_saidCount_l4 (f_this_told_cells : Nat → Int32) (kb_4 : Int32 → Int32 → Option (Int32)) (x1 : Int32) (x2 : Int32) : Option (Int32) :=
  if 40 ≤ x2 then (some x1)
  else (z_b1 (p_X3_get 40 f_this_told_cells x2) (fun y3 => if y3 = (-1) then (z_let ((x1 + 0)) (fun y6 => z_let (x2 + 1) (fun y7 => kb_4 y6 y7)))
  else (z_let ((x1 + 1)) (fun y4 => z_let (x2 + 1) (fun y5 => kb_4 y4 y5)))))
def p_X5_saidCount (K : Nat) (f_this_told_cells : Nat → Int32) : Option (Int32) :=
  z_lp2 (p_X5_saidCount_l4 f_this_told_cells) K 0 0
def p_X0_describe (f_this_lows_cells : Nat → Int32) (f_this_highs_cells : Nat → Int32) (f_this_heights_cells : Nat → Int32) (f_this_prices_cells : Nat → Int32) (i1 : Int32) (i2 : Int32) (i3 : Int32) (i4 : Int32) (i5 : Int32) : Option ((Nat → Int32) × (Nat → Int32) × (Nat → Int32) × (Nat → Int32)) :=
  z_b1 (p_X3_put 6 f_this_lows_cells i1 i2) (fun f1 => z_b1 (p_X3_put 6 f_this_highs_cells i1 i3) (fun f2 => z_b1 (p_X3_put 6 f_this_heights_cells i1 i4) (fun f3 => z_b1 (p_X3_put 6 f_this_prices_cells i1 i5) (fun f4 => some (f1, f2, f3, f4)))))
def p_X0_changeDirt (v_this_dirt : Int32) (i1 : Int32) : Option (Int32 × Int32) :=
  some (v_this_dirt, i1)
def p_X0_changeTime (v_this_time : Int32) (i1 : Int32) : Option (Int32 × Int32) :=
  some (v_this_time, i1)
def p_X0_time (v_this_time : Int32) : Option (Int32) :=
  some v_this_time
def p_X0_costAs (v_this_dirt : Int32) (f_this_lows_cells : Nat → Int32) (f_this_highs_cells : Nat → Int32) (f_this_heights_cells : Nat → Int32) (f_this_prices_cells : Nat → Int32) (i1 : Int32) (i2 : Int32) (i3 : Int32) : Option (Int32) :=
  if i1 = 6 then (some v_this_dirt)
  else (z_b1 (p_X3_get 6 f_this_lows_cells i1) (fun y1 => z_b1 (p_J9_max_7cf53 0 (y1 - i2)) (fun y2 => z_b1 (p_X3_get 6 f_this_highs_cells i1) (fun y3 => z_b1 (p_J9_max_7cf53 0 (i2 - y3)) (fun y4 => z_b1 (p_X3_get 6 f_this_heights_cells i1) (fun y5 => z_b1 (p_J9_max_7cf53 0 (y5 - i3)) (fun y6 => z_b1 (p_X3_get 6 f_this_prices_cells i1) (fun y7 => some (((y7 + y2) + y4) + (5 * y6))))))))))
def p_X6_change (f_this_signs_cells : Nat → Int32) (i1 : Int32) (i2 : Int32) : Option (Int32 × (Nat → Int32)) :=
  z_b1 (p_X3_get 40 f_this_signs_cells i1) (fun y1 => z_b1 (p_X3_put 40 f_this_signs_cells i1 i2) (fun f2 => some (y1, f2)))
def p_X6_isLeftOut (f_this_signs_cells : Nat → Int32) (f_this_gone_cells : Nat → Int32) (i1 : Int32) : Option (Int32) :=
  z_b1 (p_X3_get 40 f_this_signs_cells i1) (fun y1 => if y1 = 3 then (z_b1 (p_X3_get 40 f_this_gone_cells i1) (fun y2 => if y2 = 1 then (some 1)
  else (some 0)))
  else (some 0))
def p_X6_latestBegin_l2 (f_this_signs_cells : Nat → Int32) (kb_2 : Int32 → Option (Int32)) (x1 : Int32) : Option (Int32) :=
  if x1 ≤ 0 then (some 0)
  else (z_b1 (p_X3_get 40 f_this_signs_cells x1) (fun y2 => if y2 = 1 then (some x1)
  else (z_let (x1 + (-1)) (fun y3 => kb_2 y3))))
def p_X6_latestBegin (K : Nat) (f_this_signs_cells : Nat → Int32) (i1 : Int32) : Option (Int32) :=
  z_lp1 (p_X6_latestBegin_l2 f_this_signs_cells) K i1
def p_X6_goOn (K : Nat) (f_this_signs_cells : Nat → Int32) (f_this_gone_cells : Nat → Int32) (i1 : Int32) : Option (Int32 × (Nat → Int32)) :=
  z_b1 (p_X3_get 40 f_this_signs_cells i1) (fun y1 => if y1 < 2 then (some ((i1 + 1), f_this_gone_cells))
  else (z_b1 (p_X3_get 40 f_this_gone_cells i1) (fun y2 => if y2 = 1 then (some ((i1 + 1), f_this_gone_cells))
  else (z_b1 (p_X3_put 40 f_this_gone_cells i1 1) (fun f3 => if y1 = 4 then (some (0, f3))
  else (z_b1 (p_X6_latestBegin K f_this_signs_cells i1) (fun y4 => some (y4, f3))))))))
def p_X6_measurePlayed_l16 (i2 : Int32) (f_this_signs_cells : Nat → Int32) (i1 : Int32) (K : Nat) (kb_16 : (Nat → Int32) → Int32 → Int32 → Int32 → Option (Int32 × (Nat → Int32))) (f2 : Nat → Int32) (x3 : Int32) (x4 : Int32) (x5 : Int32) : Option (Int32 × (Nat → Int32)) :=
  if 1640 ≤ x5 then (some ((-1), f2))
  else (if i2 ≤ x3 then (some ((-1), f2))
  else (z_b1 (p_X6_isLeftOut f_this_signs_cells f2 x3) (fun y6 => if y6 = 0 then (if x4 = i1 then (some (x3, f2))
  else (z_let (x4 + 1) (fun y7 => z_b2 (p_X6_goOn K f_this_signs_cells f2 x3) (fun y8 f9 => z_let (x5 + 1) (fun y10 => kb_16 f9 y8 y7 y10)))))
  else (z_let (x3 + 1) (fun y11 => z_let (x5 + 1) (fun y12 => kb_16 f2 y11 x4 y12))))))
def p_X6_measurePlayed (K : Nat) (f_this_signs_cells : Nat → Int32) (f_this_gone_cells : Nat → Int32) (i1 : Int32) (i2 : Int32) : Option (Int32 × (Nat → Int32)) :=
  z_b1 (p_X3_fill K 40 f_this_gone_cells 0) (fun f1 => z_lp4 (p_X6_measurePlayed_l16 i2 f_this_signs_cells i1 K) K f1 0 0 0)
def p_X2_weigh_j67 (f4 : Nat → Int32) (x2 : Int32) (x5 : Int32) (kb_20 : (Nat → Int32) → Int32 → Option ((Nat → Int32))) (x8 : Int32) : Option ((Nat → Int32)) :=
  z_b1 (p_X3_put 280 f4 ((x2 * 7) + x5) x8) (fun f9 => z_let (x5 + 1) (fun y10 => kb_20 f9 y10))
def p_X2_weigh_j40 (y3 : Int32) (f_p1_facts_cells : Nat → Int32) (f_p1_places_cells : Nat → Int32) (x2 : Int32) (v_p2_dirt : Int32) (f_p2_lows_cells : Nat → Int32) (f_p2_highs_cells : Nat → Int32) (f_p2_heights_cells : Nat → Int32) (f_p2_prices_cells : Nat → Int32) (x5 : Int32) (f4 : Nat → Int32) (kb_20 : (Nat → Int32) → Int32 → Option ((Nat → Int32))) (z7 : Int32) : Option ((Nat → Int32)) :=
  if y3 = (-1) then (z_b1 (p_X5_fact f_p1_facts_cells f_p1_places_cells x2 0) (fun y11 => z_b1 (p_X5_boxHeight f_p1_facts_cells f_p1_places_cells x2) (fun y12 => z_b1 (p_X0_costAs v_p2_dirt f_p2_lows_cells f_p2_highs_cells f_p2_heights_cells f_p2_prices_cells x5 y11 y12) (fun y13 => (p_X2_weigh_j67 f4 x2 x5 kb_20) y13))))
  else ((p_X2_weigh_j67 f4 x2 x5 kb_20) z7)
def p_X2_weigh_l20 (x2 : Int32) (y3 : Int32) (f_p1_facts_cells : Nat → Int32) (f_p1_places_cells : Nat → Int32) (v_p2_dirt : Int32) (f_p2_lows_cells : Nat → Int32) (f_p2_highs_cells : Nat → Int32) (f_p2_heights_cells : Nat → Int32) (f_p2_prices_cells : Nat → Int32) (kb_2 : (Nat → Int32) → Int32 → Option ((Nat → Int32))) (kb_20 : (Nat → Int32) → Int32 → Option ((Nat → Int32))) (f4 : Nat → Int32) (x5 : Int32) : Option ((Nat → Int32)) :=
  if 7 ≤ x5 then (z_let (x2 + 1) (fun y6 => kb_2 f4 y6))
  else (if y3 = x5 then ((p_X2_weigh_j40 y3 f_p1_facts_cells f_p1_places_cells x2 v_p2_dirt f_p2_lows_cells f_p2_highs_cells f_p2_heights_cells f_p2_prices_cells x5 f4 kb_20) 0)
  else ((p_X2_weigh_j40 y3 f_p1_facts_cells f_p1_places_cells x2 v_p2_dirt f_p2_lows_cells f_p2_highs_cells f_p2_heights_cells f_p2_prices_cells x5 f4 kb_20) 1000000))
def p_X2_weigh_l2 (v_this_size : Int32) (f_p1_told_cells : Nat → Int32) (f_p1_facts_cells : Nat → Int32) (f_p1_places_cells : Nat → Int32) (v_p2_dirt : Int32) (f_p2_lows_cells : Nat → Int32) (f_p2_highs_cells : Nat → Int32) (f_p2_heights_cells : Nat → Int32) (f_p2_prices_cells : Nat → Int32) (K : Nat) (kb_2 : (Nat → Int32) → Int32 → Option ((Nat → Int32))) (f1 : Nat → Int32) (x2 : Int32) : Option ((Nat → Int32)) :=
  if v_this_size ≤ x2 then (some f1)
  else (z_b1 (p_X5_said f_p1_told_cells x2) (fun y3 => z_lp2 (p_X2_weigh_l20 x2 y3 f_p1_facts_cells f_p1_places_cells v_p2_dirt f_p2_lows_cells f_p2_highs_cells f_p2_heights_cells f_p2_prices_cells kb_2) K f1 0))
def p_X2_weigh (K : Nat) (v_this_size : Int32) (f_this_costs_cells : Nat → Int32) (f_p1_facts_cells : Nat → Int32) (f_p1_places_cells : Nat → Int32) (f_p1_told_cells : Nat → Int32) (v_p2_dirt : Int32) (f_p2_lows_cells : Nat → Int32) (f_p2_highs_cells : Nat → Int32) (f_p2_heights_cells : Nat → Int32) (f_p2_prices_cells : Nat → Int32) : Option ((Nat → Int32)) :=
  z_lp2 (p_X2_weigh_l2 v_this_size f_p1_told_cells f_p1_facts_cells f_p1_places_cells v_p2_dirt f_p2_lows_cells f_p2_highs_cells f_p2_heights_cells f_p2_prices_cells K) K f_this_costs_cells 0
def p_X2_timeOf (i0 : Int32) : Option (Int32) :=
  z_div i0 3 (fun y1 => some (y1 * 2))
def p_X2_signTime (i0 : Int32) : Option (Int32) :=
  if i0 = 0 then (some 4)
  else if i0 = 1 then (some 8)
  else if i0 = 2 then (some 16)
  else if i0 = 3 then (some 4)
  else (some 0)
def p_X2_stateAt (i0 : Int32) (i1 : Int32) (i2 : Int32) : Option (Int32) :=
  if i0 ≤ i2 then (z_div i0 2 (fun y1 => some ((y1 * 3) + i1)))
  else (some (-1))
def p_X2_dotTime_j10 (z1 : Int32) : Option (Int32) :=
  z_b1 (p_X2_signTime z1) (fun y2 => z_div y2 2 (fun y3 => some y3))
def p_X2_dotTime (i0 : Int32) : Option (Int32) :=
  if i0 = 2 then (p_X2_dotTime_j10 1)
  else (p_X2_dotTime_j10 0)
def p_X2_mayEnd (i0 : Int32) (i1 : Int32) : Option (Int32) :=
  if i0 = 0 then (some 1)
  else (if i0 = i1 then (some 1)
  else (some 0))
def p_X2_stateBehind (i0 : Int32) (i1 : Int32) (i2 : Int32) : Option (Int32) :=
  z_b1 (p_X2_timeOf i0) (fun y1 => z_rem i0 3 (fun y2 => if i1 = 0 then (z_b1 (p_X2_signTime i1) (fun y3 => z_b1 (p_X2_stateAt (y1 + y3) 1 i2) (fun y4 => some y4)))
  else if i1 = 1 then (z_b1 (p_X2_signTime i1) (fun y5 => z_b1 (p_X2_stateAt (y1 + y5) 2 i2) (fun y6 => some y6)))
  else if i1 = 2 then (z_b1 (p_X2_signTime i1) (fun y7 => z_b1 (p_X2_stateAt (y1 + y7) 0 i2) (fun y8 => some y8)))
  else if i1 = 3 then (z_b1 (p_X2_signTime i1) (fun y9 => z_b1 (p_X2_stateAt (y1 + y9) 0 i2) (fun y10 => some y10)))
  else if i1 = 4 then (if y2 = 0 then (some (-1))
  else (z_b1 (p_X2_dotTime y2) (fun y11 => z_b1 (p_X2_stateAt (y1 + y11) 0 i2) (fun y12 => some y12))))
  else if i1 = 5 then (z_b1 (p_X2_mayEnd y1 i2) (fun y13 => if y13 = 0 then (some (-1))
  else (some 0)))
  else (some i0)))
def p_X2_planStates_l23 (x4 : Int32) (i1 : Int32) (kb_13 : (Nat → Int32) → Int32 → Option (Int32 × (Nat → Int32))) (kb_23 : (Nat → Int32) → Int32 → Option (Int32 × (Nat → Int32))) (f5 : Nat → Int32) (x6 : Int32) : Option (Int32 × (Nat → Int32)) :=
  if 7 ≤ x6 then (z_let (x4 + 1) (fun y7 => kb_13 f5 y7))
  else (z_b1 (p_X2_stateBehind x4 x6 i1) (fun y8 => z_b1 (p_X3_put 525 f5 ((x4 * 7) + x6) y8) (fun f9 => z_let (x6 + 1) (fun y10 => kb_23 f9 y10))))
def p_X2_planStates_l13 (y2 : Int32) (i1 : Int32) (K : Nat) (kb_13 : (Nat → Int32) → Int32 → Option (Int32 × (Nat → Int32))) (f3 : Nat → Int32) (x4 : Int32) : Option (Int32 × (Nat → Int32)) :=
  if y2 ≤ x4 then (some (y2, f3))
  else (z_lp2 (p_X2_planStates_l23 x4 i1 kb_13) K f3 0)
def p_X2_planStates (K : Nat) (v_this_states : Int32) (f_this_nexts_cells : Nat → Int32) (i1 : Int32) : Option (Int32 × (Nat → Int32)) :=
  z_div i1 2 (fun y1 => z_let (((y1 + 1) * 3)) (fun y2 => z_lp2 (p_X2_planStates_l13 y2 i1 K) K f_this_nexts_cells 0))
def p_X2_costFrom (f_this_costs_cells : Nat → Int32) (f_this_nexts_cells : Nat → Int32) (f_this_rests_cells : Nat → Int32) (i1 : Int32) (i2 : Int32) (i3 : Int32) : Option (Int32) :=
  z_b1 (p_X3_get 525 f_this_nexts_cells ((i2 * 7) + i3)) (fun y1 => if y1 = (-1) then (some 1000000)
  else (z_b1 (p_X3_get 280 f_this_costs_cells ((i1 * 7) + i3)) (fun y2 => z_b1 (p_X3_get 3075 f_this_rests_cells (((i1 + 1) * 75) + y1)) (fun y3 => some (y2 + y3)))))
def p_X2_leastFrom_l7 (i3 : Int32) (f_this_costs_cells : Nat → Int32) (f_this_nexts_cells : Nat → Int32) (f_this_rests_cells : Nat → Int32) (i1 : Int32) (i2 : Int32) (kb_7 : Int32 → Int32 → Option (Int32)) (x1 : Int32) (x2 : Int32) : Option (Int32) :=
  if 7 ≤ x2 then (some x1)
  else (if x2 = i3 then (z_let (x2 + 1) (fun y3 => kb_7 x1 y3))
  else (z_b1 (p_X2_costFrom f_this_costs_cells f_this_nexts_cells f_this_rests_cells i1 i2 x2) (fun y4 => z_b1 (p_J9_min_7cf53 x1 y4) (fun y5 => z_let (x2 + 1) (fun y6 => kb_7 y5 y6)))))
def p_X2_leastFrom (K : Nat) (f_this_costs_cells : Nat → Int32) (f_this_nexts_cells : Nat → Int32) (f_this_rests_cells : Nat → Int32) (i1 : Int32) (i2 : Int32) (i3 : Int32) : Option (Int32) :=
  z_lp2 (p_X2_leastFrom_l7 i3 f_this_costs_cells f_this_nexts_cells f_this_rests_cells i1 i2) K 1000000 0
def p_X2_workRests_l62 (v_this_states : Int32) (x4 : Int32) (K : Nat) (f_this_costs_cells : Nat → Int32) (f_this_nexts_cells : Nat → Int32) (kb_56 : (Nat → Int32) → Int32 → Option ((Nat → Int32))) (kb_62 : (Nat → Int32) → Int32 → Option ((Nat → Int32))) (f5 : Nat → Int32) (x6 : Int32) : Option ((Nat → Int32)) :=
  if v_this_states ≤ x6 then (z_let (x4 + (-1)) (fun y7 => kb_56 f5 y7))
  else (z_b1 (p_X2_leastFrom K f_this_costs_cells f_this_nexts_cells f5 x4 x6 (-1)) (fun y8 => z_b1 (p_X3_put 3075 f5 ((x4 * 75) + x6) y8) (fun f9 => z_let (x6 + 1) (fun y10 => kb_62 f9 y10))))
def p_X2_workRests_l56 (v_this_states : Int32) (K : Nat) (f_this_costs_cells : Nat → Int32) (f_this_nexts_cells : Nat → Int32) (kb_56 : (Nat → Int32) → Int32 → Option ((Nat → Int32))) (f3 : Nat → Int32) (x4 : Int32) : Option ((Nat → Int32)) :=
  if x4 < 0 then (some f3)
  else (z_lp2 (p_X2_workRests_l62 v_this_states x4 K f_this_costs_cells f_this_nexts_cells kb_56) K f3 0)
def p_X2_workRests_j49 (v_this_size : Int32) (v_this_states : Int32) (K : Nat) (f_this_costs_cells : Nat → Int32) (f_this_nexts_cells : Nat → Int32) (f1 : Nat → Int32) : Option ((Nat → Int32)) :=
  z_let ((v_this_size - 1)) (fun y2 => z_lp2 (p_X2_workRests_l56 v_this_states K f_this_costs_cells f_this_nexts_cells) K f1 y2)
def p_X2_workRests_j40 (f11 : Nat → Int32) (v_this_size : Int32) (x12 : Int32) (kb_2 : (Nat → Int32) → Int32 → Option ((Nat → Int32))) (z15 : Int32) : Option ((Nat → Int32)) :=
  z_b1 (p_X3_put 3075 f11 ((v_this_size * 75) + x12) z15) (fun f16 => z_let (x12 + 1) (fun y17 => kb_2 f16 y17))
def p_X2_workRests_l2 (v_this_states : Int32) (i1 : Int32) (v_this_size : Int32) (kj_49 : (Nat → Int32) → Option ((Nat → Int32))) (kb_2 : (Nat → Int32) → Int32 → Option ((Nat → Int32))) (f11 : Nat → Int32) (x12 : Int32) : Option ((Nat → Int32)) :=
  if v_this_states ≤ x12 then (kj_49 f11)
  else (z_b1 (p_X2_timeOf x12) (fun y13 => z_b1 (p_X2_mayEnd y13 i1) (fun y14 => if y14 = 0 then ((p_X2_workRests_j40 f11 v_this_size x12 kb_2) 1000000)
  else ((p_X2_workRests_j40 f11 v_this_size x12 kb_2) 0))))
def p_X2_workRests (K : Nat) (v_this_size : Int32) (v_this_states : Int32) (f_this_costs_cells : Nat → Int32) (f_this_nexts_cells : Nat → Int32) (f_this_rests_cells : Nat → Int32) (i1 : Int32) : Option ((Nat → Int32)) :=
  z_lp2 (p_X2_workRests_l2 v_this_states i1 v_this_size (p_X2_workRests_j49 v_this_size v_this_states K f_this_costs_cells f_this_nexts_cells)) K f_this_rests_cells 0
def p_X2_stands (v_this_total : Int32) : Option (Int32) :=
  if 1000000 ≤ v_this_total then (some 0)
  else (some 1)
def p_X2_firstBest_l2 (f_this_costs_cells : Nat → Int32) (f_this_nexts_cells : Nat → Int32) (f_this_rests_cells : Nat → Int32) (i1 : Int32) (i2 : Int32) (kb_2 : Int32 → Option (Int32)) (x1 : Int32) : Option (Int32) :=
  if 6 ≤ x1 then (some 6)
  else (z_b1 (p_X2_costFrom f_this_costs_cells f_this_nexts_cells f_this_rests_cells i1 i2 x1) (fun y2 => z_b1 (p_X3_get 3075 f_this_rests_cells ((i1 * 75) + i2)) (fun y3 => if y2 = y3 then (some x1)
  else (z_let (x1 + 1) (fun y4 => kb_2 y4)))))
def p_X2_firstBest (K : Nat) (f_this_costs_cells : Nat → Int32) (f_this_nexts_cells : Nat → Int32) (f_this_rests_cells : Nat → Int32) (i1 : Int32) (i2 : Int32) : Option (Int32) :=
  z_lp1 (p_X2_firstBest_l2 f_this_costs_cells f_this_nexts_cells f_this_rests_cells i1 i2) K 0
def p_X2_choose_l4 (v_this_size : Int32) (K : Nat) (f_this_costs_cells : Nat → Int32) (f_this_nexts_cells : Nat → Int32) (f_this_rests_cells : Nat → Int32) (kb_4 : (Nat → Int32) → Int32 → Int32 → Option ((Nat → Int32))) (f1 : Nat → Int32) (x2 : Int32) (x3 : Int32) : Option ((Nat → Int32)) :=
  if v_this_size ≤ x3 then (some f1)
  else (z_b1 (p_X2_firstBest K f_this_costs_cells f_this_nexts_cells f_this_rests_cells x3 x2) (fun y4 => z_b1 (p_X3_put 40 f1 x3 y4) (fun f5 => z_b1 (p_X3_get 525 f_this_nexts_cells ((x2 * 7) + y4)) (fun y6 => z_let (x3 + 1) (fun y7 => kb_4 f5 y6 y7)))))
def p_X2_choose (K : Nat) (v_this_size : Int32) (f_this_costs_cells : Nat → Int32) (f_this_nexts_cells : Nat → Int32) (f_this_rests_cells : Nat → Int32) (f_this_meanings_cells : Nat → Int32) : Option ((Nat → Int32)) :=
  z_lp3 (p_X2_choose_l4 v_this_size K f_this_costs_cells f_this_nexts_cells f_this_rests_cells) K f_this_meanings_cells 0 0
def p_X2_workMeasures_j97 (v1 : Int32) (f2 : Nat → Int32) (x6 : Int32) (y7 : Int32) (f3 : Nat → Int32) (kb_11 : Int32 → (Nat → Int32) → (Nat → Int32) → Int32 → Int32 → Int32 → Option (Int32 × (Nat → Int32) × (Nat → Int32))) (z9 : Int32) : Option (Int32 × (Nat → Int32) × (Nat → Int32)) :=
  z_let ((v1 + z9)) (fun y10 => z_b1 (p_X3_put 40 f2 x6 (y10 - 1)) (fun f11 => z_b1 (p_X2_signTime y7) (fun y12 => z_b1 (p_X3_put 40 f3 x6 y12) (fun f13 => z_let (x6 + 1) (fun y14 => kb_11 y10 f11 f13 1 x6 y14)))))
def p_X2_workMeasures_l11 (v_this_size : Int32) (f_this_meanings_cells : Nat → Int32) (kb_11 : Int32 → (Nat → Int32) → (Nat → Int32) → Int32 → Int32 → Int32 → Option (Int32 × (Nat → Int32) × (Nat → Int32))) (v1 : Int32) (f2 : Nat → Int32) (f3 : Nat → Int32) (x4 : Int32) (x5 : Int32) (x6 : Int32) : Option (Int32 × (Nat → Int32) × (Nat → Int32)) :=
  if v_this_size ≤ x6 then (some (v1, f2, f3))
  else (z_b1 (p_X3_get 40 f_this_meanings_cells x6) (fun y7 => if y7 = 5 then (z_let (x6 + 1) (fun y20 => kb_11 v1 f2 f3 0 x5 y20))
  else (if y7 = 4 then (z_b1 (p_X3_get 40 f3 x5) (fun y15 => z_b1 (p_X3_get 40 f3 x5) (fun y16 => z_div y16 2 (fun y17 => z_b1 (p_X3_put 40 f3 x5 (y15 + y17)) (fun f18 => z_let (x6 + 1) (fun y19 => kb_11 v1 f2 f18 x4 x5 y19))))))
  else (if y7 = 6 then (z_let (x6 + 1) (fun y8 => kb_11 v1 f2 f3 x4 x5 y8))
  else (if x4 = 0 then ((p_X2_workMeasures_j97 v1 f2 x6 y7 f3 kb_11) 1)
  else ((p_X2_workMeasures_j97 v1 f2 x6 y7 f3 kb_11) 0))))))
def p_X2_workMeasures (K : Nat) (v_this_size : Int32) (v_this_measures : Int32) (f_this_meanings_cells : Nat → Int32) (f_this_measureOf_cells : Nat → Int32) (f_this_times_cells : Nat → Int32) : Option (Int32 × (Nat → Int32) × (Nat → Int32)) :=
  z_lp6 (p_X2_workMeasures_l11 v_this_size f_this_meanings_cells) K 0 f_this_measureOf_cells f_this_times_cells 0 (-1) 0
def p_X2_work (K : Nat) (v_this_size : Int32) (v_this_states : Int32) (v_this_total : Int32) (v_this_measures : Int32) (v_this_doubtsAreOld : Int32) (f_this_costs_cells : Nat → Int32) (f_this_nexts_cells : Nat → Int32) (f_this_rests_cells : Nat → Int32) (f_this_meanings_cells : Nat → Int32) (f_this_measureOf_cells : Nat → Int32) (f_this_times_cells : Nat → Int32) (v_p1_size : Int32) (f_p1_facts_cells : Nat → Int32) (f_p1_places_cells : Nat → Int32) (f_p1_told_cells : Nat → Int32) (v_p2_dirt : Int32) (v_p2_time : Int32) (f_p2_lows_cells : Nat → Int32) (f_p2_highs_cells : Nat → Int32) (f_p2_heights_cells : Nat → Int32) (f_p2_prices_cells : Nat → Int32) : Option (Int32 × Int32 × Int32 × Int32 × Int32 × (Nat → Int32) × (Nat → Int32) × (Nat → Int32) × (Nat → Int32) × (Nat → Int32) × (Nat → Int32)) :=
  z_b1 (p_X5_size v_p1_size) (fun y1 => z_b1 (p_X2_weigh K y1 f_this_costs_cells f_p1_facts_cells f_p1_places_cells f_p1_told_cells v_p2_dirt f_p2_lows_cells f_p2_highs_cells f_p2_heights_cells f_p2_prices_cells) (fun f2 => z_b1 (p_X0_time v_p2_time) (fun y3 => z_b2 (p_X2_planStates K v_this_states f_this_nexts_cells y3) (fun v4 f5 => z_b1 (p_X0_time v_p2_time) (fun y6 => z_b1 (p_X2_workRests K y1 v4 f2 f5 f_this_rests_cells y6) (fun f7 => z_b1 (p_X3_get 3075 f7 0) (fun y8 => z_b1 (p_X2_stands y8) (fun y9 => if y9 = 0 then (some (y1, v4, y8, v_this_measures, 1, f2, f5, f7, f_this_meanings_cells, f_this_measureOf_cells, f_this_times_cells))
  else (z_b1 (p_X2_choose K y1 f2 f5 f7 f_this_meanings_cells) (fun f10 => z_b3 (p_X2_workMeasures K y1 v_this_measures f10 f_this_measureOf_cells f_this_times_cells) (fun v11 f12 f13 => some (y1, v4, y8, v11, 1, f2, f5, f7, f10, f12, f13))))))))))))
def p_X2_leastOther_l5 (v_this_states : Int32) (f_this_aheads_cells : Nat → Int32) (f_this_meanings_cells : Nat → Int32) (i1 : Int32) (K : Nat) (f_this_costs_cells : Nat → Int32) (f_this_nexts_cells : Nat → Int32) (f_this_rests_cells : Nat → Int32) (kb_5 : Int32 → Int32 → Option (Int32)) (x1 : Int32) (x2 : Int32) : Option (Int32) :=
  if v_this_states ≤ x2 then (some x1)
  else (z_b1 (p_X3_get 75 f_this_aheads_cells x2) (fun y3 => if 1000000 ≤ y3 then (z_let (x2 + 1) (fun y4 => kb_5 x1 y4))
  else (z_b1 (p_X3_get 75 f_this_aheads_cells x2) (fun y5 => z_b1 (p_X3_get 40 f_this_meanings_cells i1) (fun y6 => z_b1 (p_X2_leastFrom K f_this_costs_cells f_this_nexts_cells f_this_rests_cells i1 x2 y6) (fun y7 => z_b1 (p_J9_min_7cf53 x1 (y5 + y7)) (fun y8 => z_let (x2 + 1) (fun y9 => kb_5 y8 y9))))))))
def p_X2_leastOther (K : Nat) (v_this_states : Int32) (f_this_costs_cells : Nat → Int32) (f_this_nexts_cells : Nat → Int32) (f_this_rests_cells : Nat → Int32) (f_this_aheads_cells : Nat → Int32) (f_this_meanings_cells : Nat → Int32) (i1 : Int32) : Option (Int32) :=
  z_lp2 (p_X2_leastOther_l5 v_this_states f_this_aheads_cells f_this_meanings_cells i1 K f_this_costs_cells f_this_nexts_cells f_this_rests_cells) K 1000000 0
def p_X2_stepAhead_j122 (K : Nat) (f_this_aheads_cells : Nat → Int32) (f2 : Nat → Int32) : Option ((Nat → Int32) × (Nat → Int32)) :=
  z_b1 (p_X3_copy K 75 75 f_this_aheads_cells f2) (fun f3 => some (f3, f2))
def p_X2_stepAhead_l21 (x5 : Int32) (f_this_aheads_cells : Nat → Int32) (f_this_nexts_cells : Nat → Int32) (f_this_costs_cells : Nat → Int32) (i1 : Int32) (kb_11 : (Nat → Int32) → Int32 → Option ((Nat → Int32) × (Nat → Int32))) (kb_21 : (Nat → Int32) → Int32 → Option ((Nat → Int32) × (Nat → Int32))) (f6 : Nat → Int32) (x7 : Int32) : Option ((Nat → Int32) × (Nat → Int32)) :=
  if 7 ≤ x7 then (z_let (x5 + 1) (fun y8 => kb_11 f6 y8))
  else (z_b1 (p_X3_get 75 f_this_aheads_cells x5) (fun y9 => if 1000000 ≤ y9 then (z_let (x5 + 1) (fun y10 => kb_11 f6 y10))
  else (z_b1 (p_X3_get 525 f_this_nexts_cells ((x5 * 7) + x7)) (fun y11 => z_b1 (p_X3_get 75 f_this_aheads_cells x5) (fun y12 => z_b1 (p_X3_get 280 f_this_costs_cells ((i1 * 7) + x7)) (fun y13 => z_let ((y12 + y13)) (fun y14 => if y11 = (-1) then (z_let (x7 + 1) (fun y15 => kb_21 f6 y15))
  else (z_b1 (p_X3_get 75 f6 y11) (fun y16 => if y16 ≤ y14 then (z_let (x7 + 1) (fun y17 => kb_21 f6 y17))
  else (z_b1 (p_X3_put 75 f6 y11 y14) (fun f18 => z_let (x7 + 1) (fun y19 => kb_21 f18 y19))))))))))))
def p_X2_stepAhead_l11 (v_this_states : Int32) (f_this_aheads_cells : Nat → Int32) (f_this_nexts_cells : Nat → Int32) (f_this_costs_cells : Nat → Int32) (i1 : Int32) (K : Nat) (kj_122 : (Nat → Int32) → Option ((Nat → Int32) × (Nat → Int32))) (kb_11 : (Nat → Int32) → Int32 → Option ((Nat → Int32) × (Nat → Int32))) (f4 : Nat → Int32) (x5 : Int32) : Option ((Nat → Int32) × (Nat → Int32)) :=
  if v_this_states ≤ x5 then (kj_122 f4)
  else (z_lp2 (p_X2_stepAhead_l21 x5 f_this_aheads_cells f_this_nexts_cells f_this_costs_cells i1 kb_11) K f4 0)
def p_X2_stepAhead (K : Nat) (v_this_states : Int32) (f_this_costs_cells : Nat → Int32) (f_this_nexts_cells : Nat → Int32) (f_this_aheads_cells : Nat → Int32) (f_this_coming_cells : Nat → Int32) (i1 : Int32) : Option ((Nat → Int32) × (Nat → Int32)) :=
  z_b1 (p_X3_fill K 75 f_this_coming_cells 1000000) (fun f1 => z_lp2 (p_X2_stepAhead_l11 v_this_states f_this_aheads_cells f_this_nexts_cells f_this_costs_cells i1 K (p_X2_stepAhead_j122 K f_this_aheads_cells)) K f1 0)
def p_X2_workDoubts_j68 (f5 : Nat → Int32) (x6 : Int32) (K : Nat) (v_this_states : Int32) (f_this_costs_cells : Nat → Int32) (f_this_nexts_cells : Nat → Int32) (f3 : Nat → Int32) (f4 : Nat → Int32) (kb_33 : (Nat → Int32) → (Nat → Int32) → (Nat → Int32) → Int32 → Option (Int32 × (Nat → Int32) × (Nat → Int32) × (Nat → Int32))) (z8 : Int32) : Option (Int32 × (Nat → Int32) × (Nat → Int32) × (Nat → Int32)) :=
  z_b1 (p_X3_put 40 f5 x6 z8) (fun f9 => z_b2 (p_X2_stepAhead K v_this_states f_this_costs_cells f_this_nexts_cells f3 f4 x6) (fun f10 f11 => z_let (x6 + 1) (fun y12 => kb_33 f10 f11 f9 y12)))
def p_X2_workDoubts_l33 (v_this_size : Int32) (K : Nat) (v_this_states : Int32) (f_this_costs_cells : Nat → Int32) (f_this_nexts_cells : Nat → Int32) (f_this_rests_cells : Nat → Int32) (f_this_meanings_cells : Nat → Int32) (v_this_total : Int32) (kb_33 : (Nat → Int32) → (Nat → Int32) → (Nat → Int32) → Int32 → Option (Int32 × (Nat → Int32) × (Nat → Int32) × (Nat → Int32))) (f3 : Nat → Int32) (f4 : Nat → Int32) (f5 : Nat → Int32) (x6 : Int32) : Option (Int32 × (Nat → Int32) × (Nat → Int32) × (Nat → Int32)) :=
  if v_this_size ≤ x6 then (some (0, f3, f4, f5))
  else (z_b1 (p_X2_leastOther K v_this_states f_this_costs_cells f_this_nexts_cells f_this_rests_cells f3 f_this_meanings_cells x6) (fun y7 => if 1000000 ≤ y7 then ((p_X2_workDoubts_j68 f5 x6 K v_this_states f_this_costs_cells f_this_nexts_cells f3 f4 kb_33) (-1))
  else ((p_X2_workDoubts_j68 f5 x6 K v_this_states f_this_costs_cells f_this_nexts_cells f3 f4 kb_33) (y7 - v_this_total))))
def p_X2_workDoubts (K : Nat) (v_this_size : Int32) (v_this_states : Int32) (v_this_total : Int32) (v_this_doubtsAreOld : Int32) (f_this_costs_cells : Nat → Int32) (f_this_nexts_cells : Nat → Int32) (f_this_rests_cells : Nat → Int32) (f_this_aheads_cells : Nat → Int32) (f_this_coming_cells : Nat → Int32) (f_this_meanings_cells : Nat → Int32) (f_this_doubts_cells : Nat → Int32) : Option (Int32 × (Nat → Int32) × (Nat → Int32) × (Nat → Int32)) :=
  if v_this_doubtsAreOld = 0 then (some (v_this_doubtsAreOld, f_this_aheads_cells, f_this_coming_cells, f_this_doubts_cells))
  else (z_b1 (p_X3_fill K 75 f_this_aheads_cells 1000000) (fun f1 => z_b1 (p_X3_put 75 f1 0 0) (fun f2 => z_lp4 (p_X2_workDoubts_l33 v_this_size K v_this_states f_this_costs_cells f_this_nexts_cells f_this_rests_cells f_this_meanings_cells v_this_total) K f2 f_this_coming_cells f_this_doubts_cells 0)))
def p_X2_cost (v_this_total : Int32) : Option (Int32) :=
  some v_this_total
def p_X2_meaning (f_this_meanings_cells : Nat → Int32) (i1 : Int32) : Option (Int32) :=
  z_b1 (p_X3_get 40 f_this_meanings_cells i1) (fun y1 => some y1)
def p_X2_doubtOf (K : Nat) (v_this_size : Int32) (v_this_states : Int32) (v_this_total : Int32) (v_this_doubtsAreOld : Int32) (f_this_costs_cells : Nat → Int32) (f_this_nexts_cells : Nat → Int32) (f_this_rests_cells : Nat → Int32) (f_this_aheads_cells : Nat → Int32) (f_this_coming_cells : Nat → Int32) (f_this_meanings_cells : Nat → Int32) (f_this_doubts_cells : Nat → Int32) (i1 : Int32) : Option (Int32 × Int32 × (Nat → Int32) × (Nat → Int32) × (Nat → Int32)) :=
  z_b4 (p_X2_workDoubts K v_this_size v_this_states v_this_total v_this_doubtsAreOld f_this_costs_cells f_this_nexts_cells f_this_rests_cells f_this_aheads_cells f_this_coming_cells f_this_meanings_cells f_this_doubts_cells) (fun v1 f2 f3 f4 => z_b1 (p_X3_get 40 f4 i1) (fun y5 => some (y5, v1, f2, f3, f4)))
def p_X2_mostDoubtful_l8 (v_this_size : Int32) (v1 : Int32) (f2 : Nat → Int32) (f3 : Nat → Int32) (f4 : Nat → Int32) (kb_8 : Int32 → Int32 → Option (Int32 × Int32 × (Nat → Int32) × (Nat → Int32) × (Nat → Int32))) (x5 : Int32) (x6 : Int32) : Option (Int32 × Int32 × (Nat → Int32) × (Nat → Int32) × (Nat → Int32)) :=
  if v_this_size ≤ x6 then (some (x5, v1, f2, f3, f4))
  else (z_b1 (p_X3_get 40 f4 x6) (fun y7 => if y7 = (-1) then (z_let (x6 + 1) (fun y8 => kb_8 x5 y8))
  else (if x5 = (-1) then (z_let (x6 + 1) (fun y9 => kb_8 x6 y9))
  else (z_b1 (p_X3_get 40 f4 x6) (fun y10 => z_b1 (p_X3_get 40 f4 x5) (fun y11 => if y11 ≤ y10 then (z_let (x6 + 1) (fun y12 => kb_8 x5 y12))
  else (z_let (x6 + 1) (fun y13 => kb_8 x6 y13))))))))
def p_X2_mostDoubtful (K : Nat) (v_this_size : Int32) (v_this_states : Int32) (v_this_total : Int32) (v_this_doubtsAreOld : Int32) (f_this_costs_cells : Nat → Int32) (f_this_nexts_cells : Nat → Int32) (f_this_rests_cells : Nat → Int32) (f_this_aheads_cells : Nat → Int32) (f_this_coming_cells : Nat → Int32) (f_this_meanings_cells : Nat → Int32) (f_this_doubts_cells : Nat → Int32) : Option (Int32 × Int32 × (Nat → Int32) × (Nat → Int32) × (Nat → Int32)) :=
  z_b4 (p_X2_workDoubts K v_this_size v_this_states v_this_total v_this_doubtsAreOld f_this_costs_cells f_this_nexts_cells f_this_rests_cells f_this_aheads_cells f_this_coming_cells f_this_meanings_cells f_this_doubts_cells) (fun v1 f2 f3 f4 => z_lp2 (p_X2_mostDoubtful_l8 v_this_size v1 f2 f3 f4) K (-1) 0)
def p_X2_measureCount (v_this_measures : Int32) : Option (Int32) :=
  some v_this_measures
def p_X2_noteSign_l5 (v_this_size : Int32) (f_this_meanings_cells : Nat → Int32) (f_this_measureOf_cells : Nat → Int32) (i1 : Int32) (i2 : Int32) (kb_5 : Int32 → Int32 → Option (Int32)) (x1 : Int32) (x2 : Int32) : Option (Int32) :=
  if v_this_size ≤ x2 then (some (-1))
  else (z_b1 (p_X3_get 40 f_this_meanings_cells x2) (fun y3 => if 2 < y3 then (z_let (x2 + 1) (fun y4 => kb_5 x1 y4))
  else (z_b1 (p_X3_get 40 f_this_measureOf_cells x2) (fun y5 => if y5 = i1 then (if x1 = i2 then (some x2)
  else (z_let (x1 + 1) (fun y7 => z_let (x2 + 1) (fun y8 => kb_5 y7 y8))))
  else (z_let (x2 + 1) (fun y6 => kb_5 x1 y6))))))
def p_X2_noteSign (K : Nat) (v_this_size : Int32) (f_this_meanings_cells : Nat → Int32) (f_this_measureOf_cells : Nat → Int32) (i1 : Int32) (i2 : Int32) : Option (Int32) :=
  z_lp2 (p_X2_noteSign_l5 v_this_size f_this_meanings_cells f_this_measureOf_cells i1 i2) K 0 0
def p_X2_noteTime (f_this_times_cells : Nat → Int32) (i1 : Int32) : Option (Int32) :=
  z_b1 (p_X3_get 40 f_this_times_cells i1) (fun y1 => some y1)
def p_X7_within (i0 : Int32) (i1 : Int32) (i2 : Int32) : Option (Int32) :=
  if i0 < i1 then (some 0)
  else (if i2 < i0 then (some 0)
  else (some 1))
def p_X7_row (v_this_found : Int32) (f_this_board_rows : Nat → Int64) (i1 : Int32) (i2 : Int64) : Option (Int32 × Int32 × (Nat → Int64)) :=
  z_b1 (p_X7_within i1 0 31) (fun y1 => if y1 = 0 then (some ((-2), v_this_found, f_this_board_rows))
  else (if (lg_cmp i2 0) < 0 then (some ((-2), v_this_found, f_this_board_rows))
  else (if (lg_cmp i2 1152921504606846975) ≤ 0 then (z_b1 (p_X4_put f_this_board_rows i1 i2) (fun f2 => z_b1 (p_J13_bitCount_95d88 i2) (fun y3 => some (y3, 0, f2))))
  else (some ((-2), v_this_found, f_this_board_rows)))))
def p_X7_ink (K : Nat) (v_this_found : Int32) (f_this_board_rows : Nat → Int64) (i1 : Int32) (i2 : Int32) (i3 : Int32) (i4 : Int32) (i5 : Int32) : Option (Int32 × Int32 × (Nat → Int64)) :=
  z_b1 (p_X7_within i3 1 60) (fun y1 => if y1 = 0 then (some ((-2), v_this_found, f_this_board_rows))
  else (z_b1 (p_X7_within i4 1 32) (fun y2 => if y2 = 0 then (some ((-2), v_this_found, f_this_board_rows))
  else (z_b1 (p_X7_within i1 0 (60 - i3)) (fun y3 => if y3 = 0 then (some ((-2), v_this_found, f_this_board_rows))
  else (z_b1 (p_X7_within i2 0 (32 - i4)) (fun y4 => if y4 = 0 then (some ((-2), v_this_found, f_this_board_rows))
  else (z_b2 (p_X4_paint K f_this_board_rows i2 i4 (((((1152921504606846975 : Int64).toUInt64 >>> ((60 - i3).toInt64.toUInt64 &&& Int64.toUInt64 63)).toInt64) <<< (i1.toInt64 &&& 63))) i5) (fun y5 f6 => some (y5, 0, f6))))))))))
def p_X7_run (v_this_leastRun : Int32) (v_this_found : Int32) (i1 : Int32) : Option (Int32 × Int32 × Int32) :=
  z_b1 (p_X7_within i1 10 60) (fun y1 => if y1 = 0 then (some ((-2), v_this_leastRun, v_this_found))
  else (some (v_this_leastRun, i1, 0)))
def p_X7_dot (f_this_board_rows : Nat → Int64) (i1 : Int32) (i2 : Int32) : Option (Int32) :=
  z_b1 (p_X7_within i1 0 59) (fun y1 => if y1 = 0 then (some (-2))
  else (z_b1 (p_X7_within i2 0 31) (fun y2 => if y2 = 0 then (some (-2))
  else (z_b1 (p_X4_isBlack f_this_board_rows i1 i2) (fun y3 => if y3 = 0 then (some 0)
  else (some 1))))))
def p_X7_lines (K : Nat) (v_this_leastRun : Int32) (f_this_board_rows : Nat → Int64) (v_this_ruled_size : Int32) (v_this_ruled_staffStart : Int32) (f_this_ruled_firsts_cells : Nat → Int32) (f_this_ruled_lasts_cells : Nat → Int32) : Option (Int32 × Int32 × Int32 × (Nat → Int32) × (Nat → Int32)) :=
  z_b4 (p_X1_look K v_this_ruled_size v_this_ruled_staffStart f_this_ruled_firsts_cells f_this_ruled_lasts_cells f_this_board_rows v_this_leastRun) (fun v1 v2 f3 f4 => z_b1 (p_X1_size v1) (fun y5 => some (y5, v1, v2, f3, f4)))
def p_X7_staff (K : Nat) (v_this_leastRun : Int32) (f_this_board_rows : Nat → Int64) (v_this_ruled_size : Int32) (v_this_ruled_staffStart : Int32) (f_this_ruled_firsts_cells : Nat → Int32) (f_this_ruled_lasts_cells : Nat → Int32) (i1 : Int32) (i2 : Int32) : Option (Int32 × Int32 × Int32 × (Nat → Int32) × (Nat → Int32)) :=
  z_b1 (p_X7_within i1 0 4) (fun y1 => if y1 = 0 then (some ((-2), v_this_ruled_size, v_this_ruled_staffStart, f_this_ruled_firsts_cells, f_this_ruled_lasts_cells))
  else (z_b1 (p_X7_within i2 0 1) (fun y2 => if y2 = 0 then (some ((-2), v_this_ruled_size, v_this_ruled_staffStart, f_this_ruled_firsts_cells, f_this_ruled_lasts_cells))
  else (z_b4 (p_X1_look K v_this_ruled_size v_this_ruled_staffStart f_this_ruled_firsts_cells f_this_ruled_lasts_cells f_this_board_rows v_this_leastRun) (fun v3 v4 f5 f6 => z_b1 (p_X1_hasStaff v4) (fun y7 => if y7 = 0 then (some ((-3), v3, v4, f5, f6))
  else (if i2 = 0 then (z_b1 (p_X1_firstRow v4 f5 i1) (fun y9 => some (y9, v3, v4, f5, f6)))
  else (z_b1 (p_X1_lastRow v4 f6 i1) (fun y8 => some (y8, v3, v4, f5, f6))))))))))
def p_X7_find (K : Nat) (v_this_leastRun : Int32) (v_this_found : Int32) (v_this_readingIsOld : Int32) (f_this_board_rows : Nat → Int64) (v_this_ruled_size : Int32) (v_this_ruled_staffStart : Int32) (f_this_ruled_firsts_cells : Nat → Int32) (f_this_ruled_lasts_cells : Nat → Int32) (v_this_signs_size : Int32) (v_this_signs_sizeBefore : Int32) (f_this_signs_left_rows : Nat → Int64) (f_this_signs_queue_cells : Nat → Int32) (f_this_signs_facts_cells : Nat → Int32) (f_this_signs_places_cells : Nat → Int32) (f_this_signs_told_cells : Nat → Int32) : Option (Int32 × Int32 × Int32 × Int32 × Int32 × (Nat → Int32) × (Nat → Int32) × Int32 × Int32 × (Nat → Int64) × (Nat → Int32) × (Nat → Int32) × (Nat → Int32) × (Nat → Int32)) :=
  z_b4 (p_X1_look K v_this_ruled_size v_this_ruled_staffStart f_this_ruled_firsts_cells f_this_ruled_lasts_cells f_this_board_rows v_this_leastRun) (fun v1 v2 f3 f4 => z_b8 (p_X5_gather K v_this_signs_size v_this_signs_sizeBefore f_this_signs_left_rows f_this_signs_queue_cells f_this_signs_facts_cells f_this_signs_places_cells f_this_signs_told_cells f_this_board_rows v2 f3 f4) (fun y5 v6 v7 f8 f9 f10 f11 f12 => z_bool y5 (if y5 = 0 then (some ((-4), y5, 1, v1, v2, f3, f4, v6, v7, f8, f9, f10, f11, f12))
  else (z_b1 (p_X5_size v6) (fun y13 => some (y13, y5, 1, v1, v2, f3, f4, v6, v7, f8, f9, f10, f11, f12))))))
def p_X7_sign (v_this_found : Int32) (v_this_signs_size : Int32) (f_this_signs_facts_cells : Nat → Int32) (f_this_signs_places_cells : Nat → Int32) (f_this_signs_told_cells : Nat → Int32) (i1 : Int32) (i2 : Int32) : Option (Int32) :=
  z_b1 (p_X7_within i2 0 6) (fun y1 => if y1 = 0 then (some (-2147483648))
  else (if v_this_found = 0 then (some (-2147483648))
  else (z_b1 (p_X5_size v_this_signs_size) (fun y2 => z_b1 (p_X7_within i1 0 (y2 - 1)) (fun y3 => if y3 = 0 then (some (-2147483648))
  else (if i2 = 6 then (z_b1 (p_X5_said f_this_signs_told_cells i1) (fun y5 => some y5))
  else (z_b1 (p_X5_fact f_this_signs_facts_cells f_this_signs_places_cells i1 i2) (fun y4 => some y4))))))))
def p_X7_kind (v_this_readingIsOld : Int32) (f_this_kinds_lows_cells : Nat → Int32) (f_this_kinds_highs_cells : Nat → Int32) (f_this_kinds_heights_cells : Nat → Int32) (f_this_kinds_prices_cells : Nat → Int32) (i1 : Int32) (i2 : Int32) (i3 : Int32) (i4 : Int32) (i5 : Int32) : Option (Int32 × Int32 × (Nat → Int32) × (Nat → Int32) × (Nat → Int32) × (Nat → Int32)) :=
  z_b1 (p_X7_within i1 0 5) (fun y1 => if y1 = 0 then (some ((-2), v_this_readingIsOld, f_this_kinds_lows_cells, f_this_kinds_highs_cells, f_this_kinds_heights_cells, f_this_kinds_prices_cells))
  else (z_b1 (p_X7_within i2 0 2000) (fun y2 => if y2 = 0 then (some ((-2), v_this_readingIsOld, f_this_kinds_lows_cells, f_this_kinds_highs_cells, f_this_kinds_heights_cells, f_this_kinds_prices_cells))
  else (z_b1 (p_X7_within i3 i2 2000) (fun y3 => if y3 = 0 then (some ((-2), v_this_readingIsOld, f_this_kinds_lows_cells, f_this_kinds_highs_cells, f_this_kinds_heights_cells, f_this_kinds_prices_cells))
  else (z_b1 (p_X7_within i4 1 32) (fun y4 => if y4 = 0 then (some ((-2), v_this_readingIsOld, f_this_kinds_lows_cells, f_this_kinds_highs_cells, f_this_kinds_heights_cells, f_this_kinds_prices_cells))
  else (z_b1 (p_X7_within i5 0 100) (fun y5 => if y5 = 0 then (some ((-2), v_this_readingIsOld, f_this_kinds_lows_cells, f_this_kinds_highs_cells, f_this_kinds_heights_cells, f_this_kinds_prices_cells))
  else (z_b4 (p_X0_describe f_this_kinds_lows_cells f_this_kinds_highs_cells f_this_kinds_heights_cells f_this_kinds_prices_cells i1 i2 i3 i4 i5) (fun f6 f7 f8 f9 => some (1, 1, f6, f7, f8, f9))))))))))))
def p_X7_set_j29 (i1 : Int32) (i2 : Int32) (v_this_readingIsOld : Int32) (v_this_kinds_dirt : Int32) (v_this_kinds_time : Int32) : Option (Int32 × Int32 × Int32 × Int32) :=
  if i1 = 1 then (z_b1 (p_X7_within i2 2 48) (fun y1 => if y1 = 0 then (some ((-2), v_this_readingIsOld, v_this_kinds_dirt, v_this_kinds_time))
  else (z_b2 (p_X0_changeTime v_this_kinds_time i2) (fun y2 v3 => some (y2, 1, v_this_kinds_dirt, v3)))))
  else (some ((-2), v_this_readingIsOld, v_this_kinds_dirt, v_this_kinds_time))
def p_X7_set (v_this_readingIsOld : Int32) (v_this_kinds_dirt : Int32) (v_this_kinds_time : Int32) (i1 : Int32) (i2 : Int32) : Option (Int32 × Int32 × Int32 × Int32) :=
  if i1 = 0 then (z_b1 (p_X7_within i2 0 1000) (fun y4 => if y4 = 0 then ((p_X7_set_j29 i1 i2 v_this_readingIsOld v_this_kinds_dirt v_this_kinds_time))
  else (z_b2 (p_X0_changeDirt v_this_kinds_dirt i2) (fun y5 v6 => some (y5, 1, v6, v_this_kinds_time)))))
  else ((p_X7_set_j29 i1 i2 v_this_readingIsOld v_this_kinds_dirt v_this_kinds_time))
def p_X7_againstSign (v_this_found : Int32) (v_this_signs_size : Int32) (i1 : Int32) : Option (Int32) :=
  z_b1 (p_X7_within i1 0 39) (fun y1 => if y1 = 0 then (some (-2))
  else (if v_this_found = 0 then (some (-3))
  else (z_b1 (p_X5_size v_this_signs_size) (fun y2 => if y2 ≤ i1 then (some (-2))
  else (some 0)))))
def p_X7_correct (v_this_found : Int32) (v_this_readingIsOld : Int32) (v_this_signs_size : Int32) (f_this_signs_told_cells : Nat → Int32) (i1 : Int32) (i2 : Int32) : Option (Int32 × Int32 × (Nat → Int32)) :=
  z_b1 (p_X7_within i2 (-1) 6) (fun y1 => if y1 = 0 then (some ((-2), v_this_readingIsOld, f_this_signs_told_cells))
  else (z_b1 (p_X7_againstSign v_this_found v_this_signs_size i1) (fun y2 => if y2 = 0 then (z_b2 (p_X5_say f_this_signs_told_cells i1 i2) (fun y3 f4 => some (y3, 1, f4)))
  else (some (y2, v_this_readingIsOld, f_this_signs_told_cells)))))
def p_X7_hasReading_j36 (v1 : Int32) (v2 : Int32) (v3 : Int32) (v4 : Int32) (v5 : Int32) (v6 : Int32) (f7 : Nat → Int32) (f8 : Nat → Int32) (f9 : Nat → Int32) (f10 : Nat → Int32) (f11 : Nat → Int32) (f12 : Nat → Int32) : Option (Int32 × Int32 × Int32 × Int32 × Int32 × Int32 × Int32 × (Nat → Int32) × (Nat → Int32) × (Nat → Int32) × (Nat → Int32) × (Nat → Int32) × (Nat → Int32)) :=
  z_b1 (p_X2_stands v4) (fun y13 => z_bool y13 (some (y13, v1, v2, v3, v4, v5, v6, f7, f8, f9, f10, f11, f12)))
def p_X7_hasReading (K : Nat) (v_this_found : Int32) (v_this_readingIsOld : Int32) (v_this_signs_size : Int32) (f_this_signs_facts_cells : Nat → Int32) (f_this_signs_places_cells : Nat → Int32) (f_this_signs_told_cells : Nat → Int32) (v_this_kinds_dirt : Int32) (v_this_kinds_time : Int32) (f_this_kinds_lows_cells : Nat → Int32) (f_this_kinds_highs_cells : Nat → Int32) (f_this_kinds_heights_cells : Nat → Int32) (f_this_kinds_prices_cells : Nat → Int32) (v_this_reading_size : Int32) (v_this_reading_states : Int32) (v_this_reading_total : Int32) (v_this_reading_measures : Int32) (v_this_reading_doubtsAreOld : Int32) (f_this_reading_costs_cells : Nat → Int32) (f_this_reading_nexts_cells : Nat → Int32) (f_this_reading_rests_cells : Nat → Int32) (f_this_reading_meanings_cells : Nat → Int32) (f_this_reading_measureOf_cells : Nat → Int32) (f_this_reading_times_cells : Nat → Int32) : Option (Int32 × Int32 × Int32 × Int32 × Int32 × Int32 × Int32 × (Nat → Int32) × (Nat → Int32) × (Nat → Int32) × (Nat → Int32) × (Nat → Int32) × (Nat → Int32)) :=
  if v_this_found = 0 then (some (0, v_this_readingIsOld, v_this_reading_size, v_this_reading_states, v_this_reading_total, v_this_reading_measures, v_this_reading_doubtsAreOld, f_this_reading_costs_cells, f_this_reading_nexts_cells, f_this_reading_rests_cells, f_this_reading_meanings_cells, f_this_reading_measureOf_cells, f_this_reading_times_cells))
  else (if v_this_readingIsOld = 0 then (p_X7_hasReading_j36 v_this_readingIsOld v_this_reading_size v_this_reading_states v_this_reading_total v_this_reading_measures v_this_reading_doubtsAreOld f_this_reading_costs_cells f_this_reading_nexts_cells f_this_reading_rests_cells f_this_reading_meanings_cells f_this_reading_measureOf_cells f_this_reading_times_cells)
  else (z_b11 (p_X2_work K v_this_reading_size v_this_reading_states v_this_reading_total v_this_reading_measures v_this_reading_doubtsAreOld f_this_reading_costs_cells f_this_reading_nexts_cells f_this_reading_rests_cells f_this_reading_meanings_cells f_this_reading_measureOf_cells f_this_reading_times_cells v_this_signs_size f_this_signs_facts_cells f_this_signs_places_cells f_this_signs_told_cells v_this_kinds_dirt v_this_kinds_time f_this_kinds_lows_cells f_this_kinds_highs_cells f_this_kinds_heights_cells f_this_kinds_prices_cells) (fun v14 v15 v16 v17 v18 f19 f20 f21 f22 f23 f24 => p_X7_hasReading_j36 0 v14 v15 v16 v17 v18 f19 f20 f21 f22 f23 f24)))
def p_X7_best (K : Nat) (v_this_found : Int32) (v_this_readingIsOld : Int32) (v_this_signs_size : Int32) (f_this_signs_facts_cells : Nat → Int32) (f_this_signs_places_cells : Nat → Int32) (f_this_signs_told_cells : Nat → Int32) (v_this_kinds_dirt : Int32) (v_this_kinds_time : Int32) (f_this_kinds_lows_cells : Nat → Int32) (f_this_kinds_highs_cells : Nat → Int32) (f_this_kinds_heights_cells : Nat → Int32) (f_this_kinds_prices_cells : Nat → Int32) (v_this_reading_size : Int32) (v_this_reading_states : Int32) (v_this_reading_total : Int32) (v_this_reading_measures : Int32) (v_this_reading_doubtsAreOld : Int32) (f_this_reading_costs_cells : Nat → Int32) (f_this_reading_nexts_cells : Nat → Int32) (f_this_reading_rests_cells : Nat → Int32) (f_this_reading_meanings_cells : Nat → Int32) (f_this_reading_measureOf_cells : Nat → Int32) (f_this_reading_times_cells : Nat → Int32) : Option (Int32 × Int32 × Int32 × Int32 × Int32 × Int32 × Int32 × (Nat → Int32) × (Nat → Int32) × (Nat → Int32) × (Nat → Int32) × (Nat → Int32) × (Nat → Int32)) :=
  z_b13 (p_X7_hasReading K v_this_found v_this_readingIsOld v_this_signs_size f_this_signs_facts_cells f_this_signs_places_cells f_this_signs_told_cells v_this_kinds_dirt v_this_kinds_time f_this_kinds_lows_cells f_this_kinds_highs_cells f_this_kinds_heights_cells f_this_kinds_prices_cells v_this_reading_size v_this_reading_states v_this_reading_total v_this_reading_measures v_this_reading_doubtsAreOld f_this_reading_costs_cells f_this_reading_nexts_cells f_this_reading_rests_cells f_this_reading_meanings_cells f_this_reading_measureOf_cells f_this_reading_times_cells) (fun y1 v2 v3 v4 v5 v6 v7 f8 f9 f10 f11 f12 f13 => if y1 = 0 then (some ((-3), v2, v3, v4, v5, v6, v7, f8, f9, f10, f11, f12, f13))
  else (z_b1 (p_X2_cost v5) (fun y14 => some (y14, v2, v3, v4, v5, v6, v7, f8, f9, f10, f11, f12, f13))))
def p_X7_read (K : Nat) (v_this_found : Int32) (v_this_readingIsOld : Int32) (v_this_signs_size : Int32) (f_this_signs_facts_cells : Nat → Int32) (f_this_signs_places_cells : Nat → Int32) (f_this_signs_told_cells : Nat → Int32) (v_this_kinds_dirt : Int32) (v_this_kinds_time : Int32) (f_this_kinds_lows_cells : Nat → Int32) (f_this_kinds_highs_cells : Nat → Int32) (f_this_kinds_heights_cells : Nat → Int32) (f_this_kinds_prices_cells : Nat → Int32) (v_this_reading_size : Int32) (v_this_reading_states : Int32) (v_this_reading_total : Int32) (v_this_reading_measures : Int32) (v_this_reading_doubtsAreOld : Int32) (f_this_reading_costs_cells : Nat → Int32) (f_this_reading_nexts_cells : Nat → Int32) (f_this_reading_rests_cells : Nat → Int32) (f_this_reading_meanings_cells : Nat → Int32) (f_this_reading_measureOf_cells : Nat → Int32) (f_this_reading_times_cells : Nat → Int32) (i1 : Int32) : Option (Int32 × Int32 × Int32 × Int32 × Int32 × Int32 × Int32 × (Nat → Int32) × (Nat → Int32) × (Nat → Int32) × (Nat → Int32) × (Nat → Int32) × (Nat → Int32)) :=
  z_b1 (p_X7_againstSign v_this_found v_this_signs_size i1) (fun y1 => if y1 = 0 then (z_b13 (p_X7_hasReading K v_this_found v_this_readingIsOld v_this_signs_size f_this_signs_facts_cells f_this_signs_places_cells f_this_signs_told_cells v_this_kinds_dirt v_this_kinds_time f_this_kinds_lows_cells f_this_kinds_highs_cells f_this_kinds_heights_cells f_this_kinds_prices_cells v_this_reading_size v_this_reading_states v_this_reading_total v_this_reading_measures v_this_reading_doubtsAreOld f_this_reading_costs_cells f_this_reading_nexts_cells f_this_reading_rests_cells f_this_reading_meanings_cells f_this_reading_measureOf_cells f_this_reading_times_cells) (fun y2 v3 v4 v5 v6 v7 v8 f9 f10 f11 f12 f13 f14 => if y2 = 0 then (some ((-3), v3, v4, v5, v6, v7, v8, f9, f10, f11, f12, f13, f14))
  else (z_b1 (p_X2_meaning f12 i1) (fun y15 => some (y15, v3, v4, v5, v6, v7, v8, f9, f10, f11, f12, f13, f14)))))
  else (some (y1, v_this_readingIsOld, v_this_reading_size, v_this_reading_states, v_this_reading_total, v_this_reading_measures, v_this_reading_doubtsAreOld, f_this_reading_costs_cells, f_this_reading_nexts_cells, f_this_reading_rests_cells, f_this_reading_meanings_cells, f_this_reading_measureOf_cells, f_this_reading_times_cells)))
def p_X7_doubt (K : Nat) (v_this_found : Int32) (v_this_readingIsOld : Int32) (v_this_signs_size : Int32) (f_this_signs_facts_cells : Nat → Int32) (f_this_signs_places_cells : Nat → Int32) (f_this_signs_told_cells : Nat → Int32) (v_this_kinds_dirt : Int32) (v_this_kinds_time : Int32) (f_this_kinds_lows_cells : Nat → Int32) (f_this_kinds_highs_cells : Nat → Int32) (f_this_kinds_heights_cells : Nat → Int32) (f_this_kinds_prices_cells : Nat → Int32) (v_this_reading_size : Int32) (v_this_reading_states : Int32) (v_this_reading_total : Int32) (v_this_reading_measures : Int32) (v_this_reading_doubtsAreOld : Int32) (f_this_reading_costs_cells : Nat → Int32) (f_this_reading_nexts_cells : Nat → Int32) (f_this_reading_rests_cells : Nat → Int32) (f_this_reading_aheads_cells : Nat → Int32) (f_this_reading_coming_cells : Nat → Int32) (f_this_reading_meanings_cells : Nat → Int32) (f_this_reading_doubts_cells : Nat → Int32) (f_this_reading_measureOf_cells : Nat → Int32) (f_this_reading_times_cells : Nat → Int32) (i1 : Int32) : Option (Int32 × Int32 × Int32 × Int32 × Int32 × Int32 × Int32 × (Nat → Int32) × (Nat → Int32) × (Nat → Int32) × (Nat → Int32) × (Nat → Int32) × (Nat → Int32) × (Nat → Int32) × (Nat → Int32) × (Nat → Int32)) :=
  z_b1 (p_X7_againstSign v_this_found v_this_signs_size i1) (fun y1 => if y1 = 0 then (z_b13 (p_X7_hasReading K v_this_found v_this_readingIsOld v_this_signs_size f_this_signs_facts_cells f_this_signs_places_cells f_this_signs_told_cells v_this_kinds_dirt v_this_kinds_time f_this_kinds_lows_cells f_this_kinds_highs_cells f_this_kinds_heights_cells f_this_kinds_prices_cells v_this_reading_size v_this_reading_states v_this_reading_total v_this_reading_measures v_this_reading_doubtsAreOld f_this_reading_costs_cells f_this_reading_nexts_cells f_this_reading_rests_cells f_this_reading_meanings_cells f_this_reading_measureOf_cells f_this_reading_times_cells) (fun y2 v3 v4 v5 v6 v7 v8 f9 f10 f11 f12 f13 f14 => if y2 = 0 then (some ((-3), v3, v4, v5, v6, v7, v8, f9, f10, f11, f_this_reading_aheads_cells, f_this_reading_coming_cells, f12, f_this_reading_doubts_cells, f13, f14))
  else (z_b5 (p_X2_doubtOf K v4 v5 v6 v8 f9 f10 f11 f_this_reading_aheads_cells f_this_reading_coming_cells f12 f_this_reading_doubts_cells i1) (fun y15 v16 f17 f18 f19 => some (y15, v3, v4, v5, v6, v7, v16, f9, f10, f11, f17, f18, f12, f19, f13, f14)))))
  else (some (y1, v_this_readingIsOld, v_this_reading_size, v_this_reading_states, v_this_reading_total, v_this_reading_measures, v_this_reading_doubtsAreOld, f_this_reading_costs_cells, f_this_reading_nexts_cells, f_this_reading_rests_cells, f_this_reading_aheads_cells, f_this_reading_coming_cells, f_this_reading_meanings_cells, f_this_reading_doubts_cells, f_this_reading_measureOf_cells, f_this_reading_times_cells)))
def p_X7_question (K : Nat) (v_this_found : Int32) (v_this_readingIsOld : Int32) (v_this_signs_size : Int32) (f_this_signs_facts_cells : Nat → Int32) (f_this_signs_places_cells : Nat → Int32) (f_this_signs_told_cells : Nat → Int32) (v_this_kinds_dirt : Int32) (v_this_kinds_time : Int32) (f_this_kinds_lows_cells : Nat → Int32) (f_this_kinds_highs_cells : Nat → Int32) (f_this_kinds_heights_cells : Nat → Int32) (f_this_kinds_prices_cells : Nat → Int32) (v_this_reading_size : Int32) (v_this_reading_states : Int32) (v_this_reading_total : Int32) (v_this_reading_measures : Int32) (v_this_reading_doubtsAreOld : Int32) (f_this_reading_costs_cells : Nat → Int32) (f_this_reading_nexts_cells : Nat → Int32) (f_this_reading_rests_cells : Nat → Int32) (f_this_reading_aheads_cells : Nat → Int32) (f_this_reading_coming_cells : Nat → Int32) (f_this_reading_meanings_cells : Nat → Int32) (f_this_reading_doubts_cells : Nat → Int32) (f_this_reading_measureOf_cells : Nat → Int32) (f_this_reading_times_cells : Nat → Int32) : Option (Int32 × Int32 × Int32 × Int32 × Int32 × Int32 × Int32 × (Nat → Int32) × (Nat → Int32) × (Nat → Int32) × (Nat → Int32) × (Nat → Int32) × (Nat → Int32) × (Nat → Int32) × (Nat → Int32) × (Nat → Int32)) :=
  z_b13 (p_X7_hasReading K v_this_found v_this_readingIsOld v_this_signs_size f_this_signs_facts_cells f_this_signs_places_cells f_this_signs_told_cells v_this_kinds_dirt v_this_kinds_time f_this_kinds_lows_cells f_this_kinds_highs_cells f_this_kinds_heights_cells f_this_kinds_prices_cells v_this_reading_size v_this_reading_states v_this_reading_total v_this_reading_measures v_this_reading_doubtsAreOld f_this_reading_costs_cells f_this_reading_nexts_cells f_this_reading_rests_cells f_this_reading_meanings_cells f_this_reading_measureOf_cells f_this_reading_times_cells) (fun y1 v2 v3 v4 v5 v6 v7 f8 f9 f10 f11 f12 f13 => if y1 = 0 then (some ((-3), v2, v3, v4, v5, v6, v7, f8, f9, f10, f_this_reading_aheads_cells, f_this_reading_coming_cells, f11, f_this_reading_doubts_cells, f12, f13))
  else (z_b5 (p_X2_mostDoubtful K v3 v4 v5 v7 f8 f9 f10 f_this_reading_aheads_cells f_this_reading_coming_cells f11 f_this_reading_doubts_cells) (fun y14 v15 f16 f17 f18 => some (y14, v2, v3, v4, v5, v6, v15, f8, f9, f10, f16, f17, f11, f18, f12, f13))))
def p_X7_measures (K : Nat) (v_this_found : Int32) (v_this_readingIsOld : Int32) (v_this_signs_size : Int32) (f_this_signs_facts_cells : Nat → Int32) (f_this_signs_places_cells : Nat → Int32) (f_this_signs_told_cells : Nat → Int32) (v_this_kinds_dirt : Int32) (v_this_kinds_time : Int32) (f_this_kinds_lows_cells : Nat → Int32) (f_this_kinds_highs_cells : Nat → Int32) (f_this_kinds_heights_cells : Nat → Int32) (f_this_kinds_prices_cells : Nat → Int32) (v_this_reading_size : Int32) (v_this_reading_states : Int32) (v_this_reading_total : Int32) (v_this_reading_measures : Int32) (v_this_reading_doubtsAreOld : Int32) (f_this_reading_costs_cells : Nat → Int32) (f_this_reading_nexts_cells : Nat → Int32) (f_this_reading_rests_cells : Nat → Int32) (f_this_reading_meanings_cells : Nat → Int32) (f_this_reading_measureOf_cells : Nat → Int32) (f_this_reading_times_cells : Nat → Int32) : Option (Int32 × Int32 × Int32 × Int32 × Int32 × Int32 × Int32 × (Nat → Int32) × (Nat → Int32) × (Nat → Int32) × (Nat → Int32) × (Nat → Int32) × (Nat → Int32)) :=
  z_b13 (p_X7_hasReading K v_this_found v_this_readingIsOld v_this_signs_size f_this_signs_facts_cells f_this_signs_places_cells f_this_signs_told_cells v_this_kinds_dirt v_this_kinds_time f_this_kinds_lows_cells f_this_kinds_highs_cells f_this_kinds_heights_cells f_this_kinds_prices_cells v_this_reading_size v_this_reading_states v_this_reading_total v_this_reading_measures v_this_reading_doubtsAreOld f_this_reading_costs_cells f_this_reading_nexts_cells f_this_reading_rests_cells f_this_reading_meanings_cells f_this_reading_measureOf_cells f_this_reading_times_cells) (fun y1 v2 v3 v4 v5 v6 v7 f8 f9 f10 f11 f12 f13 => if y1 = 0 then (some ((-3), v2, v3, v4, v5, v6, v7, f8, f9, f10, f11, f12, f13))
  else (z_b1 (p_X2_measureCount v6) (fun y14 => some (y14, v2, v3, v4, v5, v6, v7, f8, f9, f10, f11, f12, f13))))
def p_X7_note (K : Nat) (v_this_found : Int32) (v_this_readingIsOld : Int32) (v_this_signs_size : Int32) (f_this_signs_facts_cells : Nat → Int32) (f_this_signs_places_cells : Nat → Int32) (f_this_signs_told_cells : Nat → Int32) (v_this_kinds_dirt : Int32) (v_this_kinds_time : Int32) (f_this_kinds_lows_cells : Nat → Int32) (f_this_kinds_highs_cells : Nat → Int32) (f_this_kinds_heights_cells : Nat → Int32) (f_this_kinds_prices_cells : Nat → Int32) (v_this_reading_size : Int32) (v_this_reading_states : Int32) (v_this_reading_total : Int32) (v_this_reading_measures : Int32) (v_this_reading_doubtsAreOld : Int32) (f_this_reading_costs_cells : Nat → Int32) (f_this_reading_nexts_cells : Nat → Int32) (f_this_reading_rests_cells : Nat → Int32) (f_this_reading_meanings_cells : Nat → Int32) (f_this_reading_measureOf_cells : Nat → Int32) (f_this_reading_times_cells : Nat → Int32) (i1 : Int32) (i2 : Int32) (i3 : Int32) : Option (Int32 × Int32 × Int32 × Int32 × Int32 × Int32 × Int32 × (Nat → Int32) × (Nat → Int32) × (Nat → Int32) × (Nat → Int32) × (Nat → Int32) × (Nat → Int32)) :=
  z_b1 (p_X7_within i3 0 2) (fun y1 => if y1 = 0 then (some ((-2147483648), v_this_readingIsOld, v_this_reading_size, v_this_reading_states, v_this_reading_total, v_this_reading_measures, v_this_reading_doubtsAreOld, f_this_reading_costs_cells, f_this_reading_nexts_cells, f_this_reading_rests_cells, f_this_reading_meanings_cells, f_this_reading_measureOf_cells, f_this_reading_times_cells))
  else (z_b13 (p_X7_hasReading K v_this_found v_this_readingIsOld v_this_signs_size f_this_signs_facts_cells f_this_signs_places_cells f_this_signs_told_cells v_this_kinds_dirt v_this_kinds_time f_this_kinds_lows_cells f_this_kinds_highs_cells f_this_kinds_heights_cells f_this_kinds_prices_cells v_this_reading_size v_this_reading_states v_this_reading_total v_this_reading_measures v_this_reading_doubtsAreOld f_this_reading_costs_cells f_this_reading_nexts_cells f_this_reading_rests_cells f_this_reading_meanings_cells f_this_reading_measureOf_cells f_this_reading_times_cells) (fun y2 v3 v4 v5 v6 v7 v8 f9 f10 f11 f12 f13 f14 => if y2 = 0 then (some ((-2147483648), v3, v4, v5, v6, v7, v8, f9, f10, f11, f12, f13, f14))
  else (z_b1 (p_X2_noteSign K v4 f12 f13 i1 i2) (fun y15 => if y15 = (-1) then (some ((-2147483648), v3, v4, v5, v6, v7, v8, f9, f10, f11, f12, f13, f14))
  else (if i3 = 0 then (some (y15, v3, v4, v5, v6, v7, v8, f9, f10, f11, f12, f13, f14))
  else (if i3 = 1 then (z_b1 (p_X5_fact f_this_signs_facts_cells f_this_signs_places_cells y15 5) (fun y17 => some (y17, v3, v4, v5, v6, v7, v8, f9, f10, f11, f12, f13, f14)))
  else (z_b1 (p_X2_noteTime f14 y15) (fun y16 => some (y16, v3, v4, v5, v6, v7, v8, f9, f10, f11, f12, f13, f14))))))))))
def p_X7_sway (f_this_ways_signs_cells : Nat → Int32) (i1 : Int32) (i2 : Int32) : Option (Int32 × (Nat → Int32)) :=
  z_b1 (p_X7_within i1 0 39) (fun y1 => if y1 = 0 then (some ((-2), f_this_ways_signs_cells))
  else (z_b1 (p_X7_within i2 0 4) (fun y2 => if y2 = 0 then (some ((-2), f_this_ways_signs_cells))
  else (z_b2 (p_X6_change f_this_ways_signs_cells i1 i2) (fun y3 f4 => some (y3, f4))))))
def p_X7_played (K : Nat) (v_this_found : Int32) (v_this_readingIsOld : Int32) (v_this_signs_size : Int32) (f_this_signs_facts_cells : Nat → Int32) (f_this_signs_places_cells : Nat → Int32) (f_this_signs_told_cells : Nat → Int32) (v_this_kinds_dirt : Int32) (v_this_kinds_time : Int32) (f_this_kinds_lows_cells : Nat → Int32) (f_this_kinds_highs_cells : Nat → Int32) (f_this_kinds_heights_cells : Nat → Int32) (f_this_kinds_prices_cells : Nat → Int32) (v_this_reading_size : Int32) (v_this_reading_states : Int32) (v_this_reading_total : Int32) (v_this_reading_measures : Int32) (v_this_reading_doubtsAreOld : Int32) (f_this_reading_costs_cells : Nat → Int32) (f_this_reading_nexts_cells : Nat → Int32) (f_this_reading_rests_cells : Nat → Int32) (f_this_reading_meanings_cells : Nat → Int32) (f_this_reading_measureOf_cells : Nat → Int32) (f_this_reading_times_cells : Nat → Int32) (f_this_ways_signs_cells : Nat → Int32) (f_this_ways_gone_cells : Nat → Int32) (i1 : Int32) : Option (Int32 × Int32 × Int32 × Int32 × Int32 × Int32 × Int32 × (Nat → Int32) × (Nat → Int32) × (Nat → Int32) × (Nat → Int32) × (Nat → Int32) × (Nat → Int32) × (Nat → Int32)) :=
  z_b1 (p_X7_within i1 0 199) (fun y1 => if y1 = 0 then (some ((-2), v_this_readingIsOld, v_this_reading_size, v_this_reading_states, v_this_reading_total, v_this_reading_measures, v_this_reading_doubtsAreOld, f_this_reading_costs_cells, f_this_reading_nexts_cells, f_this_reading_rests_cells, f_this_reading_meanings_cells, f_this_reading_measureOf_cells, f_this_reading_times_cells, f_this_ways_gone_cells))
  else (z_b13 (p_X7_hasReading K v_this_found v_this_readingIsOld v_this_signs_size f_this_signs_facts_cells f_this_signs_places_cells f_this_signs_told_cells v_this_kinds_dirt v_this_kinds_time f_this_kinds_lows_cells f_this_kinds_highs_cells f_this_kinds_heights_cells f_this_kinds_prices_cells v_this_reading_size v_this_reading_states v_this_reading_total v_this_reading_measures v_this_reading_doubtsAreOld f_this_reading_costs_cells f_this_reading_nexts_cells f_this_reading_rests_cells f_this_reading_meanings_cells f_this_reading_measureOf_cells f_this_reading_times_cells) (fun y2 v3 v4 v5 v6 v7 v8 f9 f10 f11 f12 f13 f14 => if y2 = 0 then (some ((-3), v3, v4, v5, v6, v7, v8, f9, f10, f11, f12, f13, f14, f_this_ways_gone_cells))
  else (z_b1 (p_X2_measureCount v7) (fun y15 => z_b2 (p_X6_measurePlayed K f_this_ways_signs_cells f_this_ways_gone_cells i1 y15) (fun y16 f17 => some (y16, v3, v4, v5, v6, v7, v8, f9, f10, f11, f12, f13, f14, f17)))))))
def p_X7_count (K : Nat) (v_this_leastRun : Int32) (v_this_found : Int32) (f_this_board_rows : Nat → Int64) (v_this_ruled_size : Int32) (v_this_ruled_staffStart : Int32) (f_this_ruled_firsts_cells : Nat → Int32) (f_this_ruled_lasts_cells : Nat → Int32) (v_this_signs_size : Int32) (f_this_signs_told_cells : Nat → Int32) (i1 : Int32) : Option (Int32 × Int32 × Int32 × (Nat → Int32) × (Nat → Int32)) :=
  z_b1 (p_X7_within i1 0 4) (fun y1 => if y1 = 0 then (some ((-2), v_this_ruled_size, v_this_ruled_staffStart, f_this_ruled_firsts_cells, f_this_ruled_lasts_cells))
  else (if i1 = 0 then (if v_this_found = 0 then (some ((-1), v_this_ruled_size, v_this_ruled_staffStart, f_this_ruled_firsts_cells, f_this_ruled_lasts_cells))
  else (z_b1 (p_X5_size v_this_signs_size) (fun y10 => some (y10, v_this_ruled_size, v_this_ruled_staffStart, f_this_ruled_firsts_cells, f_this_ruled_lasts_cells))))
  else (if i1 = 3 then (z_b1 (p_X5_saidCount K f_this_signs_told_cells) (fun y9 => some (y9, v_this_ruled_size, v_this_ruled_staffStart, f_this_ruled_firsts_cells, f_this_ruled_lasts_cells)))
  else (if i1 = 4 then (z_b1 (p_X4_blackDots K f_this_board_rows) (fun y8 => some (y8, v_this_ruled_size, v_this_ruled_staffStart, f_this_ruled_firsts_cells, f_this_ruled_lasts_cells)))
  else (z_b4 (p_X1_look K v_this_ruled_size v_this_ruled_staffStart f_this_ruled_firsts_cells f_this_ruled_lasts_cells f_this_board_rows v_this_leastRun) (fun v2 v3 f4 f5 => if i1 = 1 then (z_b1 (p_X1_hasStaff v3) (fun y7 => if y7 = 0 then (some (0, v2, v3, f4, f5))
  else (some (1, v2, v3, f4, f5))))
  else (z_b1 (p_X1_gap v3 f4) (fun y6 => some (y6, v2, v3, f4, f5)))))))))
def p_X8_forget_l2 (kb_2 : (Nat → Int32) → Int32 → Option ((Nat → Int32))) (f1 : Nat → Int32) (x2 : Int32) : Option ((Nat → Int32)) :=
  if 40 ≤ x2 then (some f1)
  else (z_ast 40 f1 x2 (-1) (fun f3 => z_let (x2 + 1) (fun y4 => kb_2 f3 y4)))
def p_X8_forget (K : Nat) (f_this_said : Nat → Int32) : Option ((Nat → Int32)) :=
  z_lp2 p_X8_forget_l2 K f_this_said 0
def p_X8_in (i0 : Int32) (i1 : Int32) (i2 : Int32) : Option (Int32) :=
  if i0 < i1 then (some 0)
  else (if i2 < i0 then (some 0)
  else (some 1))
def p_X8_isBlack (f_this_board : Nat → Int64) (i1 : Int32) (i2 : Int32) : Option (Int32) :=
  z_b1 (p_X8_in i1 0 59) (fun y1 => if y1 = 0 then (some 0)
  else (z_b1 (p_X8_in i2 0 31) (fun y2 => if y2 = 0 then (some 0)
  else (z_ald 32 f_this_board i2 (fun y3 => if (lg_cmp (((y3 >>> (i1.toInt64 &&& 63))) &&& 1) 1) = 0 then (some 1)
  else (some 0))))))
def p_X8_ones_l4 (i0 : Int64) (kb_4 : Int32 → Int32 → Option (Int32)) (x1 : Int32) (x2 : Int32) : Option (Int32) :=
  if 60 ≤ x2 then (some x1)
  else (z_let ((x1 + ((((i0 >>> (x2.toInt64 &&& 63))) &&& 1).toInt32))) (fun y3 => z_let (x2 + 1) (fun y4 => kb_4 y3 y4)))
def p_X8_ones (K : Nat) (i0 : Int64) : Option (Int32) :=
  z_lp2 (p_X8_ones_l4 i0) K 0 0
def p_X8_row (K : Nat) (v_this_signs : Int32) (f_this_board : Nat → Int64) (i1 : Int32) (i2 : Int64) : Option (Int32 × Int32 × (Nat → Int64)) :=
  z_b1 (p_X8_in i1 0 31) (fun y1 => if y1 = 0 then (some ((-2), v_this_signs, f_this_board))
  else (if (lg_cmp ((i2 >>> ((60 : Int32).toInt64 &&& 63))) 0) = 0 then (z_astL 32 f_this_board i1 i2 (fun f2 => z_b1 (p_X8_ones K i2) (fun y3 => some (y3, (-1), f2))))
  else (some ((-2), v_this_signs, f_this_board))))
def p_X8_ink_l67 (i1 : Int32) (i3 : Int32) (x7 : Int32) (i5 : Int32) (kb_55 : (Nat → Int64) → Int32 → Int32 → Option (Int32 × Int32 × (Nat → Int64))) (kb_67 : (Nat → Int64) → Int32 → Int32 → Option (Int32 × Int32 × (Nat → Int64))) (f8 : Nat → Int64) (x9 : Int32) (x10 : Int32) : Option (Int32 × Int32 × (Nat → Int64)) :=
  if (i1 + i3) ≤ x10 then (z_let (x7 + 1) (fun y11 => kb_55 f8 x9 y11))
  else (z_b1 (p_X8_isBlack f8 x10 x7) (fun y12 => if y12 = i5 then (z_let (x10 + 1) (fun y13 => kb_67 f8 x9 y13))
  else (z_ald 32 f8 x7 (fun y14 => z_astL 32 f8 x7 (y14 ^^^ (((1 : Int64) <<< (x10.toInt64 &&& 63)))) (fun f15 => z_let (x9 + 1) (fun y16 => z_let (x10 + 1) (fun y17 => kb_67 f15 y16 y17)))))))
def p_X8_ink_l55 (i2 : Int32) (i4 : Int32) (i1 : Int32) (i3 : Int32) (i5 : Int32) (K : Nat) (kb_55 : (Nat → Int64) → Int32 → Int32 → Option (Int32 × Int32 × (Nat → Int64))) (f5 : Nat → Int64) (x6 : Int32) (x7 : Int32) : Option (Int32 × Int32 × (Nat → Int64)) :=
  if (i2 + i4) ≤ x7 then (some (x6, (-1), f5))
  else (z_lp3 (p_X8_ink_l67 i1 i3 x7 i5 kb_55) K f5 x6 i1)
def p_X8_ink (K : Nat) (v_this_signs : Int32) (f_this_board : Nat → Int64) (i1 : Int32) (i2 : Int32) (i3 : Int32) (i4 : Int32) (i5 : Int32) : Option (Int32 × Int32 × (Nat → Int64)) :=
  z_b1 (p_X8_in i3 1 60) (fun y1 => if y1 = 0 then (some ((-2), v_this_signs, f_this_board))
  else (z_b1 (p_X8_in i4 1 32) (fun y2 => if y2 = 0 then (some ((-2), v_this_signs, f_this_board))
  else (z_b1 (p_X8_in i1 0 (60 - i3)) (fun y3 => if y3 = 0 then (some ((-2), v_this_signs, f_this_board))
  else (z_b1 (p_X8_in i2 0 (32 - i4)) (fun y4 => if y4 = 0 then (some ((-2), v_this_signs, f_this_board))
  else (z_lp3 (p_X8_ink_l55 i2 i4 i1 i3 i5 K) K f_this_board 0 i2))))))))
def p_X8_run (v_this_run : Int32) (v_this_signs : Int32) (i1 : Int32) : Option (Int32 × Int32 × Int32) :=
  z_b1 (p_X8_in i1 10 60) (fun y1 => if y1 = 0 then (some ((-2), v_this_run, v_this_signs))
  else (some (v_this_run, i1, (-1))))
def p_X8_dot (f_this_board : Nat → Int64) (i1 : Int32) (i2 : Int32) : Option (Int32) :=
  z_b1 (p_X8_in i1 0 59) (fun y1 => if y1 = 0 then (some (-2))
  else (z_b1 (p_X8_in i2 0 31) (fun y2 => if y2 = 0 then (some (-2))
  else (z_b1 (p_X8_isBlack f_this_board i1 i2) (fun y3 => if y3 = 0 then (some 0)
  else (some 1))))))
def p_X8_isRule_j44 (x3 : Int32) (z5 : Int32) (kb_7 : Int32 → Int32 → Int32 → Option (Int32)) : Option (Int32) :=
  z_let (x3 + 1) (fun y6 => kb_7 z5 1 y6)
def p_X8_isRule_j31 (x2 : Int32) (v_this_run : Int32) (x3 : Int32) (kb_7 : Int32 → Int32 → Int32 → Option (Int32)) (z5 : Int32) : Option (Int32) :=
  if x2 = 0 then (if z5 < v_this_run then (z_let (x3 + 1) (fun y7 => kb_7 z5 0 y7))
  else ((p_X8_isRule_j44 x3 z5 kb_7)))
  else ((p_X8_isRule_j44 x3 z5 kb_7))
def p_X8_isRule_l7 (f_this_board : Nat → Int64) (i1 : Int32) (v_this_run : Int32) (kb_7 : Int32 → Int32 → Int32 → Option (Int32)) (x1 : Int32) (x2 : Int32) (x3 : Int32) : Option (Int32) :=
  if 60 ≤ x3 then (z_bool x2 (some x2))
  else (z_b1 (p_X8_isBlack f_this_board x3 i1) (fun y4 => if y4 = 0 then ((p_X8_isRule_j31 x2 v_this_run x3 kb_7) 0)
  else ((p_X8_isRule_j31 x2 v_this_run x3 kb_7) (x1 + 1))))
def p_X8_isRule (K : Nat) (v_this_run : Int32) (f_this_board : Nat → Int64) (i1 : Int32) : Option (Int32) :=
  z_lp3 (p_X8_isRule_l7 f_this_board i1 v_this_run) K 0 0 0
def p_X8_findLines_j69 (f3 : Nat → Int32) (x4 : Int32) (kb_7 : Int32 → (Nat → Int32) → (Nat → Int32) → Int32 → Option (Int32 × (Nat → Int32) × (Nat → Int32))) (v7 : Int32) (f8 : Nat → Int32) : Option (Int32 × (Nat → Int32) × (Nat → Int32)) :=
  z_ast 32 f3 (v7 - 1) x4 (fun f9 => z_let (x4 + 1) (fun y10 => kb_7 v7 f8 f9 y10))
def p_X8_findLines_j49 (f2 : Nat → Int32) (v1 : Int32) (x4 : Int32) (kj_69 : Int32 → (Nat → Int32) → Option (Int32 × (Nat → Int32) × (Nat → Int32))) : Option (Int32 × (Nat → Int32) × (Nat → Int32)) :=
  z_ast 32 f2 v1 x4 (fun f11 => z_let ((v1 + 1)) (fun y12 => kj_69 y12 f11))
def p_X8_findLines_l7 (K : Nat) (v_this_run : Int32) (f_this_board : Nat → Int64) (kb_7 : Int32 → (Nat → Int32) → (Nat → Int32) → Int32 → Option (Int32 × (Nat → Int32) × (Nat → Int32))) (v1 : Int32) (f2 : Nat → Int32) (f3 : Nat → Int32) (x4 : Int32) : Option (Int32 × (Nat → Int32) × (Nat → Int32)) :=
  if 32 ≤ x4 then (some (v1, f2, f3))
  else (z_b1 (p_X8_isRule K v_this_run f_this_board x4) (fun y5 => if y5 = 0 then (z_let (x4 + 1) (fun y6 => kb_7 v1 f2 f3 y6))
  else (if x4 = 0 then ((p_X8_findLines_j49 f2 v1 x4 (p_X8_findLines_j69 f3 x4 kb_7)))
  else (if v1 = 0 then ((p_X8_findLines_j49 f2 v1 x4 (p_X8_findLines_j69 f3 x4 kb_7)))
  else (z_ald 32 f3 (v1 - 1) (fun y13 => if y13 = (x4 - 1) then ((p_X8_findLines_j69 f3 x4 kb_7) v1 f2)
  else ((p_X8_findLines_j49 f2 v1 x4 (p_X8_findLines_j69 f3 x4 kb_7)))))))))
def p_X8_findLines (K : Nat) (v_this_run : Int32) (v_this_lineMany : Int32) (f_this_board : Nat → Int64) (f_this_lineFirst : Nat → Int32) (f_this_lineLast : Nat → Int32) : Option (Int32 × (Nat → Int32) × (Nat → Int32)) :=
  z_lp4 (p_X8_findLines_l7 K v_this_run f_this_board) K 0 f_this_lineFirst f_this_lineLast 0
def p_X8_lines (K : Nat) (v_this_run : Int32) (v_this_lineMany : Int32) (f_this_board : Nat → Int64) (f_this_lineFirst : Nat → Int32) (f_this_lineLast : Nat → Int32) : Option (Int32 × Int32 × (Nat → Int32) × (Nat → Int32)) :=
  z_b3 (p_X8_findLines K v_this_run v_this_lineMany f_this_board f_this_lineFirst f_this_lineLast) (fun v1 f2 f3 => some (v1, v1, f2, f3))
def p_X8_findStaff_j83 (x4 : Int32) (v1 : Int32) (f2 : Nat → Int32) (f3 : Nat → Int32) (kb_6 : Int32 → Option (Int32 × Int32 × (Nat → Int32) × (Nat → Int32))) (x5 : Int32) (x6 : Int32) : Option (Int32 × Int32 × (Nat → Int32) × (Nat → Int32)) :=
  if 1 < (x6 - x5) then (z_let (x4 + 1) (fun y7 => kb_6 y7))
  else (some (x4, v1, f2, f3))
def p_X8_findStaff_j63 (y13 : Int32) (x9 : Int32) (x10 : Int32) (kb_24 : Int32 → Int32 → Int32 → Option (Int32 × Int32 × (Nat → Int32) × (Nat → Int32))) (z14 : Int32) : Option (Int32 × Int32 × (Nat → Int32) × (Nat → Int32)) :=
  if y13 ≤ x9 then (z_let (x10 + 1) (fun y15 => kb_24 z14 x9 y15))
  else (z_let (x10 + 1) (fun y16 => kb_24 z14 y13 y16))
def p_X8_findStaff_l24 (x4 : Int32) (f2 : Nat → Int32) (kj_83 : Int32 → Int32 → Option (Int32 × Int32 × (Nat → Int32) × (Nat → Int32))) (kb_24 : Int32 → Int32 → Int32 → Option (Int32 × Int32 × (Nat → Int32) × (Nat → Int32))) (x8 : Int32) (x9 : Int32) (x10 : Int32) : Option (Int32 × Int32 × (Nat → Int32) × (Nat → Int32)) :=
  if (x4 + 4) ≤ x10 then (kj_83 x8 x9)
  else (z_ald 32 f2 (x10 + 1) (fun y11 => z_ald 32 f2 x10 (fun y12 => z_let ((y11 - y12)) (fun y13 => if x8 ≤ y13 then ((p_X8_findStaff_j63 y13 x9 x10 kb_24) x8)
  else ((p_X8_findStaff_j63 y13 x9 x10 kb_24) y13)))))
def p_X8_findStaff_l6 (v1 : Int32) (f2 : Nat → Int32) (f3 : Nat → Int32) (K : Nat) (kb_6 : Int32 → Option (Int32 × Int32 × (Nat → Int32) × (Nat → Int32))) (x4 : Int32) : Option (Int32 × Int32 × (Nat → Int32) × (Nat → Int32)) :=
  if v1 ≤ (x4 + 4) then (some ((-1), v1, f2, f3))
  else (z_lp3 (p_X8_findStaff_l24 x4 f2 (p_X8_findStaff_j83 x4 v1 f2 f3 kb_6)) K 100 0 x4)
def p_X8_findStaff (K : Nat) (v_this_run : Int32) (v_this_lineMany : Int32) (f_this_board : Nat → Int64) (f_this_lineFirst : Nat → Int32) (f_this_lineLast : Nat → Int32) : Option (Int32 × Int32 × (Nat → Int32) × (Nat → Int32)) :=
  z_b3 (p_X8_findLines K v_this_run v_this_lineMany f_this_board f_this_lineFirst f_this_lineLast) (fun v1 f2 f3 => z_lp1 (p_X8_findStaff_l6 v1 f2 f3 K) K 0)
def p_X8_staff (K : Nat) (v_this_run : Int32) (v_this_lineMany : Int32) (f_this_board : Nat → Int64) (f_this_lineFirst : Nat → Int32) (f_this_lineLast : Nat → Int32) (i1 : Int32) (i2 : Int32) : Option (Int32 × Int32 × (Nat → Int32) × (Nat → Int32)) :=
  z_b1 (p_X8_in i1 0 4) (fun y1 => if y1 = 0 then (some ((-2), v_this_lineMany, f_this_lineFirst, f_this_lineLast))
  else (z_b1 (p_X8_in i2 0 1) (fun y2 => if y2 = 0 then (some ((-2), v_this_lineMany, f_this_lineFirst, f_this_lineLast))
  else (z_b4 (p_X8_findStaff K v_this_run v_this_lineMany f_this_board f_this_lineFirst f_this_lineLast) (fun y3 v4 f5 f6 => if y3 = (-1) then (some ((-3), v4, f5, f6))
  else (if i2 = 0 then (z_ald 32 f5 (y3 + i1) (fun y8 => some (y8, v4, f5, f6)))
  else (z_ald 32 f6 (y3 + i1) (fun y7 => some (y7, v4, f5, f6)))))))))
def p_X8_takeOff_l65 (x10 : Int32) (f4 : Nat → Int32) (x7 : Int32) (f_this_board : Nat → Int64) (f5 : Nat → Int32) (kb_52 : (Nat → Int64) → Int32 → Option (Int32 × (Nat → Int32) × (Nat → Int32) × (Nat → Int64))) (kb_65 : (Nat → Int64) → Int32 → Option (Int32 × (Nat → Int32) × (Nat → Int32) × (Nat → Int64))) (f13 : Nat → Int64) (x14 : Int32) : Option (Int32 × (Nat → Int32) × (Nat → Int32) × (Nat → Int64)) :=
  if 60 ≤ x14 then (z_let (x10 + 1) (fun y15 => kb_52 f13 y15))
  else (z_ald 32 f4 x7 (fun y16 => z_b1 (p_X8_isBlack f_this_board x14 (y16 - 1)) (fun y17 => if y17 = 0 then (z_ald 32 f5 x7 (fun y19 => z_b1 (p_X8_isBlack f_this_board x14 (y19 + 1)) (fun y20 => if y20 = 0 then (z_ald 32 f13 x10 (fun y22 => z_astL 32 f13 x10 (y22 &&& ((((1 : Int64) <<< (x14.toInt64 &&& 63))) ^^^ (-1))) (fun f23 => z_let (x14 + 1) (fun y24 => kb_65 f23 y24))))
  else (z_let (x14 + 1) (fun y21 => kb_65 f13 y21)))))
  else (z_let (x14 + 1) (fun y18 => kb_65 f13 y18)))))
def p_X8_takeOff_l52 (f5 : Nat → Int32) (x7 : Int32) (f4 : Nat → Int32) (f_this_board : Nat → Int64) (K : Nat) (kb_33 : (Nat → Int64) → Int32 → Option (Int32 × (Nat → Int32) × (Nat → Int32) × (Nat → Int64))) (kb_52 : (Nat → Int64) → Int32 → Option (Int32 × (Nat → Int32) × (Nat → Int32) × (Nat → Int64))) (f9 : Nat → Int64) (x10 : Int32) : Option (Int32 × (Nat → Int32) × (Nat → Int32) × (Nat → Int64)) :=
  z_ald 32 f5 x7 (fun y11 => if y11 < x10 then (z_let (x7 + 1) (fun y12 => kb_33 f9 y12))
  else (z_lp2 (p_X8_takeOff_l65 x10 f4 x7 f_this_board f5 kb_52) K f9 0))
def p_X8_takeOff_l33 (y2 : Int32) (v3 : Int32) (f4 : Nat → Int32) (f5 : Nat → Int32) (f_this_board : Nat → Int64) (K : Nat) (kb_33 : (Nat → Int64) → Int32 → Option (Int32 × (Nat → Int32) × (Nat → Int32) × (Nat → Int64))) (f6 : Nat → Int64) (x7 : Int32) : Option (Int32 × (Nat → Int32) × (Nat → Int32) × (Nat → Int64)) :=
  if y2 = (-1) then (some (v3, f4, f5, f6))
  else (if (y2 + 5) ≤ x7 then (some (v3, f4, f5, f6))
  else (z_ald 32 f4 x7 (fun y8 => z_lp2 (p_X8_takeOff_l52 f5 x7 f4 f_this_board K kb_33) K f6 y8)))
def p_X8_takeOff_j26 (K : Nat) (v_this_run : Int32) (v_this_lineMany : Int32) (f_this_board : Nat → Int64) (f_this_lineFirst : Nat → Int32) (f_this_lineLast : Nat → Int32) (f1 : Nat → Int64) : Option (Int32 × (Nat → Int32) × (Nat → Int32) × (Nat → Int64)) :=
  z_b4 (p_X8_findStaff K v_this_run v_this_lineMany f_this_board f_this_lineFirst f_this_lineLast) (fun y2 v3 f4 f5 => z_lp2 (p_X8_takeOff_l33 y2 v3 f4 f5 f_this_board K) K f1 y2)
def p_X8_takeOff_l2 (f_this_board : Nat → Int64) (kj_26 : (Nat → Int64) → Option (Int32 × (Nat → Int32) × (Nat → Int32) × (Nat → Int64))) (kb_2 : (Nat → Int64) → Int32 → Option (Int32 × (Nat → Int32) × (Nat → Int32) × (Nat → Int64))) (f25 : Nat → Int64) (x26 : Int32) : Option (Int32 × (Nat → Int32) × (Nat → Int32) × (Nat → Int64)) :=
  if 32 ≤ x26 then (kj_26 f25)
  else (z_ald 32 f_this_board x26 (fun y27 => z_astL 32 f25 x26 y27 (fun f28 => z_let (x26 + 1) (fun y29 => kb_2 f28 y29))))
def p_X8_takeOff (K : Nat) (v_this_run : Int32) (v_this_lineMany : Int32) (f_this_board : Nat → Int64) (f_this_lineFirst : Nat → Int32) (f_this_lineLast : Nat → Int32) (f_this_left : Nat → Int64) : Option (Int32 × (Nat → Int32) × (Nat → Int32) × (Nat → Int64)) :=
  z_lp2 (p_X8_takeOff_l2 f_this_board (p_X8_takeOff_j26 K v_this_run v_this_lineMany f_this_board f_this_lineFirst f_this_lineLast)) K f_this_left 0
def p_X8_swap (n_p1 : Nat) (f_p1 : Nat → Int32) (i2 : Int32) (i3 : Int32) : Option ((Nat → Int32)) :=
  z_ald n_p1 f_p1 i2 (fun y1 => z_ald n_p1 f_p1 i3 (fun y2 => z_ast n_p1 f_p1 i2 y2 (fun f3 => z_ast n_p1 f3 i3 y1 (fun f4 => some f4))))
def p_X8_isAhead (f_this_x0 : Nat → Int32) (f_this_y0 : Nat → Int32) (f_this_head : Nat → Int32) (i1 : Int32) (i2 : Int32) : Option (Int32) :=
  z_ald 40 f_this_x0 i1 (fun y1 => z_ald 40 f_this_x0 i2 (fun y2 => if y1 = y2 then (z_ald 40 f_this_y0 i1 (fun y3 => z_ald 40 f_this_y0 i2 (fun y4 => if y3 < y4 then (some 1)
  else (z_ald 40 f_this_y0 i1 (fun y5 => z_ald 40 f_this_y0 i2 (fun y6 => if y5 = y6 then (z_ald 40 f_this_head i1 (fun y7 => z_ald 40 f_this_head i2 (fun y8 => if y8 ≤ y7 then (some 0)
  else (some 1))))
  else (some 0)))))))
  else (some 0)))
def p_X8_isSign (v_this_signs : Int32) (i1 : Int32) : Option (Int32) :=
  z_b1 (p_X8_in i1 0 (v_this_signs - 1)) (fun y1 => z_bool y1 (some y1))
def p_X8_kind (f_this_low : Nat → Int32) (f_this_high : Nat → Int32) (f_this_least : Nat → Int32) (f_this_price : Nat → Int32) (i1 : Int32) (i2 : Int32) (i3 : Int32) (i4 : Int32) (i5 : Int32) : Option (Int32 × (Nat → Int32) × (Nat → Int32) × (Nat → Int32) × (Nat → Int32)) :=
  z_b1 (p_X8_in i1 0 5) (fun y1 => if y1 = 0 then (some ((-2), f_this_low, f_this_high, f_this_least, f_this_price))
  else (z_b1 (p_X8_in i2 0 2000) (fun y2 => if y2 = 0 then (some ((-2), f_this_low, f_this_high, f_this_least, f_this_price))
  else (z_b1 (p_X8_in i3 i2 2000) (fun y3 => if y3 = 0 then (some ((-2), f_this_low, f_this_high, f_this_least, f_this_price))
  else (z_b1 (p_X8_in i4 1 32) (fun y4 => if y4 = 0 then (some ((-2), f_this_low, f_this_high, f_this_least, f_this_price))
  else (z_b1 (p_X8_in i5 0 100) (fun y5 => if y5 = 0 then (some ((-2), f_this_low, f_this_high, f_this_least, f_this_price))
  else (z_ast 6 f_this_low i1 i2 (fun f6 => z_ast 6 f_this_high i1 i3 (fun f7 => z_ast 6 f_this_least i1 i4 (fun f8 => z_ast 6 f_this_price i1 i5 (fun f9 => some (1, f6, f7, f8, f9)))))))))))))))
def p_X8_set_j69 (i1 : Int32) (z2 : Int32) (i2 : Int32) (v_this_time : Int32) (z3 : Int32) : Option (Int32 × Int32 × Int32) :=
  if i1 = 1 then (some (z2, z3, i2))
  else (some (z2, z3, v_this_time))
def p_X8_set_j55 (i1 : Int32) (i2 : Int32) (v_this_time : Int32) (v_this_dirt : Int32) (z2 : Int32) : Option (Int32 × Int32 × Int32) :=
  if i1 = 0 then ((p_X8_set_j69 i1 z2 i2 v_this_time) i2)
  else ((p_X8_set_j69 i1 z2 i2 v_this_time) v_this_dirt)
def p_X8_set_j40 (i1 : Int32) (i2 : Int32) (v_this_time : Int32) (v_this_dirt : Int32) : Option (Int32 × Int32 × Int32) :=
  if i1 = 0 then ((p_X8_set_j55 i1 i2 v_this_time v_this_dirt) v_this_dirt)
  else ((p_X8_set_j55 i1 i2 v_this_time v_this_dirt) v_this_time)
def p_X8_set (v_this_dirt : Int32) (v_this_time : Int32) (i1 : Int32) (i2 : Int32) : Option (Int32 × Int32 × Int32) :=
  z_b1 (p_X8_in i1 0 1) (fun y1 => if y1 = 0 then (some ((-2), v_this_dirt, v_this_time))
  else (if i1 = 0 then (z_b1 (p_X8_in i2 0 1000) (fun y5 => if y5 = 0 then (some ((-2), v_this_dirt, v_this_time))
  else ((p_X8_set_j40 i1 i2 v_this_time v_this_dirt))))
  else (z_b1 (p_X8_in i2 2 48) (fun y4 => if y4 = 0 then (some ((-2), v_this_dirt, v_this_time))
  else ((p_X8_set_j40 i1 i2 v_this_time v_this_dirt))))))
def p_X8_correct (v_this_signs : Int32) (f_this_said : Nat → Int32) (i1 : Int32) (i2 : Int32) : Option (Int32 × (Nat → Int32)) :=
  z_b1 (p_X8_in i2 (-1) 6) (fun y1 => if y1 = 0 then (some ((-2), f_this_said))
  else (if v_this_signs = (-1) then (some ((-3), f_this_said))
  else (z_b1 (p_X8_isSign v_this_signs i1) (fun y2 => if y2 = 0 then (some ((-2), f_this_said))
  else (z_ald 40 f_this_said i1 (fun y3 => z_ast 40 f_this_said i1 i2 (fun f4 => some (y3, f4))))))))
def p_X8_restAt (i0 : Int32) (i1 : Int32) (i2 : Int32) : Option (Int32) :=
  some ((((49 * i0) + i1) * 3) + i2)
def p_X8_timeOf (i0 : Int32) : Option (Int32) :=
  if i0 = 1 then (some 8)
  else (if i0 = 2 then (some 16)
  else (some 4))
def p_X8_sway (f_this_way : Nat → Int32) (i1 : Int32) (i2 : Int32) : Option (Int32 × (Nat → Int32)) :=
  z_b1 (p_X8_in i1 0 39) (fun y1 => if y1 = 0 then (some ((-2), f_this_way))
  else (z_b1 (p_X8_in i2 0 4) (fun y2 => if y2 = 0 then (some ((-2), f_this_way))
  else (z_ald 40 f_this_way i1 (fun y3 => z_ast 40 f_this_way i1 i2 (fun f4 => some (y3, f4)))))))
def p_X8_spread_l280 (f25 : Nat → Int32) (f31 : Nat → Int32) (f34 : Nat → Int32) (f37 : Nat → Int32) (f40 : Nat → Int32) (f28 : Nat → Int32) (y21 : Int32) (y23 : Int32) (kb_73 : (Nat → Int32) → (Nat → Int32) → (Nat → Int32) → (Nat → Int32) → (Nat → Int32) → (Nat → Int32) → (Nat → Int64) → (Nat → Int32) → Int32 → Option ((Nat → Int32) × (Nat → Int32) × (Nat → Int32) × (Nat → Int32) × (Nat → Int32) × (Nat → Int32) × (Nat → Int64) × (Nat → Int32))) (kb_280 : (Nat → Int64) → (Nat → Int32) → Int32 → Int32 → Option ((Nat → Int32) × (Nat → Int32) × (Nat → Int32) × (Nat → Int32) × (Nat → Int32) × (Nat → Int32) × (Nat → Int64) × (Nat → Int32))) (f41 : Nat → Int64) (f42 : Nat → Int32) (x43 : Int32) (x44 : Int32) : Option ((Nat → Int32) × (Nat → Int32) × (Nat → Int32) × (Nat → Int32) × (Nat → Int32) × (Nat → Int32) × (Nat → Int64) × (Nat → Int32)) :=
  if 9 ≤ x44 then (kb_73 f25 f31 f34 f37 f40 f28 f41 f42 x43)
  else (z_rem x44 3 (fun y45 => z_let (((y21 + y45) - 1)) (fun y46 => z_div x44 3 (fun y47 => z_let (((y23 + y47) - 1)) (fun y48 => z_b1 (p_X8_in y46 0 59) (fun y49 => if y49 = 0 then (z_let (x44 + 1) (fun y50 => kb_280 f41 f42 x43 y50))
  else (z_b1 (p_X8_in y48 0 31) (fun y51 => if y51 = 0 then (z_let (x44 + 1) (fun y52 => kb_280 f41 f42 x43 y52))
  else (z_ald 32 f41 y48 (fun y53 => if (lg_cmp (((y53 >>> (y46.toInt64 &&& 63))) &&& 1) 1) = 0 then (z_ald 32 f41 y48 (fun y55 => z_astL 32 f41 y48 (y55 &&& ((((1 : Int64) <<< (y46.toInt64 &&& 63))) ^^^ (-1))) (fun f56 => z_ast 1920 f42 x43 ((60 * y48) + y46) (fun f57 => z_let (x43 + 1) (fun y58 => z_let (x44 + 1) (fun y59 => kb_280 f56 f57 y58 y59))))))
  else (z_let (x44 + 1) (fun y54 => kb_280 f41 f42 x43 y54))))))))))))
def p_X8_spread_j276 (f14 : Nat → Int32) (i3 : Int32) (f25 : Nat → Int32) (f31 : Nat → Int32) (f34 : Nat → Int32) (f37 : Nat → Int32) (f28 : Nat → Int32) (y21 : Int32) (y23 : Int32) (K : Nat) (f16 : Nat → Int64) (f17 : Nat → Int32) (y19 : Int32) (kb_73 : (Nat → Int32) → (Nat → Int32) → (Nat → Int32) → (Nat → Int32) → (Nat → Int32) → (Nat → Int32) → (Nat → Int64) → (Nat → Int32) → Int32 → Option ((Nat → Int32) × (Nat → Int32) × (Nat → Int32) × (Nat → Int32) × (Nat → Int32) × (Nat → Int32) × (Nat → Int64) × (Nat → Int32))) (z39 : Int32) : Option ((Nat → Int32) × (Nat → Int32) × (Nat → Int32) × (Nat → Int32) × (Nat → Int32) × (Nat → Int32) × (Nat → Int64) × (Nat → Int32)) :=
  z_ast 40 f14 i3 z39 (fun f40 => z_lp4 (p_X8_spread_l280 f25 f31 f34 f37 f40 f28 y21 y23 kb_73) K f16 f17 y19 0)
def p_X8_spread_j248 (f13 : Nat → Int32) (i3 : Int32) (f14 : Nat → Int32) (y23 : Int32) (f25 : Nat → Int32) (f31 : Nat → Int32) (f34 : Nat → Int32) (f28 : Nat → Int32) (y21 : Int32) (K : Nat) (f16 : Nat → Int64) (f17 : Nat → Int32) (y19 : Int32) (kb_73 : (Nat → Int32) → (Nat → Int32) → (Nat → Int32) → (Nat → Int32) → (Nat → Int32) → (Nat → Int32) → (Nat → Int64) → (Nat → Int32) → Int32 → Option ((Nat → Int32) × (Nat → Int32) × (Nat → Int32) × (Nat → Int32) × (Nat → Int32) × (Nat → Int32) × (Nat → Int64) × (Nat → Int32))) (z36 : Int32) : Option ((Nat → Int32) × (Nat → Int32) × (Nat → Int32) × (Nat → Int32) × (Nat → Int32) × (Nat → Int32) × (Nat → Int64) × (Nat → Int32)) :=
  z_ast 40 f13 i3 z36 (fun f37 => z_ald 40 f14 i3 (fun y38 => if y23 ≤ y38 then (z_ald 40 f14 i3 (fun y60 => (p_X8_spread_j276 f14 i3 f25 f31 f34 f37 f28 y21 y23 K f16 f17 y19 kb_73) y60))
  else ((p_X8_spread_j276 f14 i3 f25 f31 f34 f37 f28 y21 y23 K f16 f17 y19 kb_73) y23)))
def p_X8_spread_j220 (f12 : Nat → Int32) (i3 : Int32) (f13 : Nat → Int32) (y21 : Int32) (f14 : Nat → Int32) (y23 : Int32) (f25 : Nat → Int32) (f31 : Nat → Int32) (f28 : Nat → Int32) (K : Nat) (f16 : Nat → Int64) (f17 : Nat → Int32) (y19 : Int32) (kb_73 : (Nat → Int32) → (Nat → Int32) → (Nat → Int32) → (Nat → Int32) → (Nat → Int32) → (Nat → Int32) → (Nat → Int64) → (Nat → Int32) → Int32 → Option ((Nat → Int32) × (Nat → Int32) × (Nat → Int32) × (Nat → Int32) × (Nat → Int32) × (Nat → Int32) × (Nat → Int64) × (Nat → Int32))) (z33 : Int32) : Option ((Nat → Int32) × (Nat → Int32) × (Nat → Int32) × (Nat → Int32) × (Nat → Int32) × (Nat → Int32) × (Nat → Int64) × (Nat → Int32)) :=
  z_ast 40 f12 i3 z33 (fun f34 => z_ald 40 f13 i3 (fun y35 => if y21 ≤ y35 then (z_ald 40 f13 i3 (fun y61 => (p_X8_spread_j248 f13 i3 f14 y23 f25 f31 f34 f28 y21 K f16 f17 y19 kb_73) y61))
  else ((p_X8_spread_j248 f13 i3 f14 y23 f25 f31 f34 f28 y21 K f16 f17 y19 kb_73) y21)))
def p_X8_spread_j192 (f11 : Nat → Int32) (i3 : Int32) (f12 : Nat → Int32) (y23 : Int32) (f13 : Nat → Int32) (y21 : Int32) (f14 : Nat → Int32) (f25 : Nat → Int32) (f28 : Nat → Int32) (K : Nat) (f16 : Nat → Int64) (f17 : Nat → Int32) (y19 : Int32) (kb_73 : (Nat → Int32) → (Nat → Int32) → (Nat → Int32) → (Nat → Int32) → (Nat → Int32) → (Nat → Int32) → (Nat → Int64) → (Nat → Int32) → Int32 → Option ((Nat → Int32) × (Nat → Int32) × (Nat → Int32) × (Nat → Int32) × (Nat → Int32) × (Nat → Int32) × (Nat → Int64) × (Nat → Int32))) (z30 : Int32) : Option ((Nat → Int32) × (Nat → Int32) × (Nat → Int32) × (Nat → Int32) × (Nat → Int32) × (Nat → Int32) × (Nat → Int64) × (Nat → Int32)) :=
  z_ast 40 f11 i3 z30 (fun f31 => z_ald 40 f12 i3 (fun y32 => if y32 ≤ y23 then (z_ald 40 f12 i3 (fun y62 => (p_X8_spread_j220 f12 i3 f13 y21 f14 y23 f25 f31 f28 K f16 f17 y19 kb_73) y62))
  else ((p_X8_spread_j220 f12 i3 f13 y21 f14 y23 f25 f31 f28 K f16 f17 y19 kb_73) y23)))
def p_X8_spread_j164 (f15 : Nat → Int32) (i3 : Int32) (f11 : Nat → Int32) (y21 : Int32) (f12 : Nat → Int32) (y23 : Int32) (f13 : Nat → Int32) (f14 : Nat → Int32) (f25 : Nat → Int32) (K : Nat) (f16 : Nat → Int64) (f17 : Nat → Int32) (y19 : Int32) (kb_73 : (Nat → Int32) → (Nat → Int32) → (Nat → Int32) → (Nat → Int32) → (Nat → Int32) → (Nat → Int32) → (Nat → Int64) → (Nat → Int32) → Int32 → Option ((Nat → Int32) × (Nat → Int32) × (Nat → Int32) × (Nat → Int32) × (Nat → Int32) × (Nat → Int32) × (Nat → Int64) × (Nat → Int32))) (z27 : Int32) : Option ((Nat → Int32) × (Nat → Int32) × (Nat → Int32) × (Nat → Int32) × (Nat → Int32) × (Nat → Int32) × (Nat → Int64) × (Nat → Int32)) :=
  z_ast 40 f15 i3 z27 (fun f28 => z_ald 40 f11 i3 (fun y29 => if y29 ≤ y21 then (z_ald 40 f11 i3 (fun y63 => (p_X8_spread_j192 f11 i3 f12 y23 f13 y21 f14 f25 f28 K f16 f17 y19 kb_73) y63))
  else ((p_X8_spread_j192 f11 i3 f12 y23 f13 y21 f14 f25 f28 K f16 f17 y19 kb_73) y21)))
def p_X8_spread_j153 (y21 : Int32) (kj_164 : Int32 → Option ((Nat → Int32) × (Nat → Int32) × (Nat → Int32) × (Nat → Int32) × (Nat → Int32) × (Nat → Int32) × (Nat → Int64) × (Nat → Int32))) : Option ((Nat → Int32) × (Nat → Int32) × (Nat → Int32) × (Nat → Int32) × (Nat → Int32) × (Nat → Int32) × (Nat → Int64) × (Nat → Int32)) :=
  kj_164 y21
def p_X8_spread_j158 (f15 : Nat → Int32) (i3 : Int32) (kj_164 : Int32 → Option ((Nat → Int32) × (Nat → Int32) × (Nat → Int32) × (Nat → Int32) × (Nat → Int32) × (Nat → Int32) × (Nat → Int64) × (Nat → Int32))) : Option ((Nat → Int32) × (Nat → Int32) × (Nat → Int32) × (Nat → Int32) × (Nat → Int32) × (Nat → Int32) × (Nat → Int64) × (Nat → Int32)) :=
  z_ald 40 f15 i3 (fun y65 => kj_164 y65)
def p_X8_spread_l73 (i3 : Int32) (K : Nat) (kb_73 : (Nat → Int32) → (Nat → Int32) → (Nat → Int32) → (Nat → Int32) → (Nat → Int32) → (Nat → Int32) → (Nat → Int64) → (Nat → Int32) → Int32 → Option ((Nat → Int32) × (Nat → Int32) × (Nat → Int32) × (Nat → Int32) × (Nat → Int32) × (Nat → Int32) × (Nat → Int64) × (Nat → Int32))) (f10 : Nat → Int32) (f11 : Nat → Int32) (f12 : Nat → Int32) (f13 : Nat → Int32) (f14 : Nat → Int32) (f15 : Nat → Int32) (f16 : Nat → Int64) (f17 : Nat → Int32) (x18 : Int32) : Option ((Nat → Int32) × (Nat → Int32) × (Nat → Int32) × (Nat → Int32) × (Nat → Int32) × (Nat → Int32) × (Nat → Int64) × (Nat → Int32)) :=
  if x18 ≤ 0 then (some (f10, f11, f12, f13, f14, f15, f16, f17))
  else (z_let (x18 + (-1)) (fun y19 => z_ald 1920 f17 y19 (fun y20 => z_rem y20 60 (fun y21 => z_ald 1920 f17 y19 (fun y22 => z_div y22 60 (fun y23 => z_ald 40 f10 i3 (fun y24 => z_ast 40 f10 i3 (y24 + 1) (fun f25 => z_ald 40 f12 i3 (fun y26 => if y23 < y26 then ((p_X8_spread_j153 y21 (p_X8_spread_j164 f15 i3 f11 y21 f12 y23 f13 f14 f25 K f16 f17 y19 kb_73)))
  else (z_ald 40 f12 i3 (fun y64 => if y23 = y64 then (z_ald 40 f15 i3 (fun y66 => if y66 ≤ y21 then ((p_X8_spread_j158 f15 i3 (p_X8_spread_j164 f15 i3 f11 y21 f12 y23 f13 f14 f25 K f16 f17 y19 kb_73)))
  else ((p_X8_spread_j153 y21 (p_X8_spread_j164 f15 i3 f11 y21 f12 y23 f13 f14 f25 K f16 f17 y19 kb_73)))))
  else ((p_X8_spread_j158 f15 i3 (p_X8_spread_j164 f15 i3 f11 y21 f12 y23 f13 f14 f25 K f16 f17 y19 kb_73))))))))))))))
def p_X8_spread (K : Nat) (f_this_area : Nat → Int32) (f_this_x0 : Nat → Int32) (f_this_y0 : Nat → Int32) (f_this_x1 : Nat → Int32) (f_this_y1 : Nat → Int32) (f_this_head : Nat → Int32) (f_this_left : Nat → Int64) (f_this_pile : Nat → Int32) (i1 : Int32) (i2 : Int32) (i3 : Int32) : Option ((Nat → Int32) × (Nat → Int32) × (Nat → Int32) × (Nat → Int32) × (Nat → Int32) × (Nat → Int32) × (Nat → Int64) × (Nat → Int32)) :=
  z_ast 40 f_this_area i3 0 (fun f1 => z_ast 40 f_this_x0 i3 i1 (fun f2 => z_ast 40 f_this_y0 i3 i2 (fun f3 => z_ast 40 f_this_x1 i3 i1 (fun f4 => z_ast 40 f_this_y1 i3 i2 (fun f5 => z_ast 40 f_this_head i3 i1 (fun f6 => z_ast 1920 f_this_pile 0 ((60 * i2) + i1) (fun f7 => z_ald 32 f_this_left i2 (fun y8 => z_astL 32 f_this_left i2 (y8 &&& ((((1 : Int64) <<< (i1.toInt64 &&& 63))) ^^^ (-1))) (fun f9 => z_lp9 (p_X8_spread_l73 i3 K) K f1 f2 f3 f4 f5 f6 f9 f7 1)))))))))
def p_X8_order_l9 (x7 : Int32) (kb_2 : (Nat → Int32) → (Nat → Int32) → (Nat → Int32) → (Nat → Int32) → (Nat → Int32) → (Nat → Int32) → Int32 → Option ((Nat → Int32) × (Nat → Int32) × (Nat → Int32) × (Nat → Int32) × (Nat → Int32) × (Nat → Int32))) (kb_9 : (Nat → Int32) → (Nat → Int32) → (Nat → Int32) → (Nat → Int32) → (Nat → Int32) → (Nat → Int32) → Int32 → Option ((Nat → Int32) × (Nat → Int32) × (Nat → Int32) × (Nat → Int32) × (Nat → Int32) × (Nat → Int32))) (f8 : Nat → Int32) (f9 : Nat → Int32) (f10 : Nat → Int32) (f11 : Nat → Int32) (f12 : Nat → Int32) (f13 : Nat → Int32) (x14 : Int32) : Option ((Nat → Int32) × (Nat → Int32) × (Nat → Int32) × (Nat → Int32) × (Nat → Int32) × (Nat → Int32)) :=
  if x14 ≤ 0 then (z_let (x7 + 1) (fun y15 => kb_2 f8 f9 f10 f11 f12 f13 y15))
  else (z_b1 (p_X8_isAhead f9 f10 f13 x14 (x14 - 1)) (fun y16 => if y16 = 0 then (z_let (x7 + 1) (fun y17 => kb_2 f8 f9 f10 f11 f12 f13 y17))
  else (z_b1 (p_X8_swap 40 f8 x14 (x14 - 1)) (fun f18 => z_b1 (p_X8_swap 40 f13 x14 (x14 - 1)) (fun f19 => z_b1 (p_X8_swap 40 f9 x14 (x14 - 1)) (fun f20 => z_b1 (p_X8_swap 40 f10 x14 (x14 - 1)) (fun f21 => z_b1 (p_X8_swap 40 f11 x14 (x14 - 1)) (fun f22 => z_b1 (p_X8_swap 40 f12 x14 (x14 - 1)) (fun f23 => z_let (x14 + (-1)) (fun y24 => kb_9 f18 f20 f21 f22 f23 f19 y24))))))))))
def p_X8_order_l2 (i1 : Int32) (K : Nat) (kb_2 : (Nat → Int32) → (Nat → Int32) → (Nat → Int32) → (Nat → Int32) → (Nat → Int32) → (Nat → Int32) → Int32 → Option ((Nat → Int32) × (Nat → Int32) × (Nat → Int32) × (Nat → Int32) × (Nat → Int32) × (Nat → Int32))) (f1 : Nat → Int32) (f2 : Nat → Int32) (f3 : Nat → Int32) (f4 : Nat → Int32) (f5 : Nat → Int32) (f6 : Nat → Int32) (x7 : Int32) : Option ((Nat → Int32) × (Nat → Int32) × (Nat → Int32) × (Nat → Int32) × (Nat → Int32) × (Nat → Int32)) :=
  if i1 ≤ x7 then (some (f1, f2, f3, f4, f5, f6))
  else (z_lp7 (p_X8_order_l9 x7 kb_2) K f1 f2 f3 f4 f5 f6 x7)
def p_X8_order (K : Nat) (f_this_area : Nat → Int32) (f_this_x0 : Nat → Int32) (f_this_y0 : Nat → Int32) (f_this_x1 : Nat → Int32) (f_this_y1 : Nat → Int32) (f_this_head : Nat → Int32) (i1 : Int32) : Option ((Nat → Int32) × (Nat → Int32) × (Nat → Int32) × (Nat → Int32) × (Nat → Int32) × (Nat → Int32)) :=
  z_lp7 (p_X8_order_l2 i1 K) K f_this_area f_this_x0 f_this_y0 f_this_x1 f_this_y1 f_this_head 1
def p_X8_find_j95 (x13 : Int32) (v1 : Int32) (f14 : Nat → Int32) (f15 : Nat → Int32) (f16 : Nat → Int32) (f17 : Nat → Int32) (f18 : Nat → Int32) (f19 : Nat → Int32) (f2 : Nat → Int32) (f3 : Nat → Int32) (f11 : Nat → Int64) (f12 : Nat → Int32) (f20 : Nat → Int32) : Option (Int32 × Int32 × Int32 × Int32 × (Nat → Int32) × (Nat → Int32) × (Nat → Int32) × (Nat → Int32) × (Nat → Int32) × (Nat → Int32) × (Nat → Int32) × (Nat → Int32) × (Nat → Int32) × (Nat → Int64) × (Nat → Int32)) :=
  some (x13, x13, x13, v1, f14, f15, f16, f17, f18, f19, f20, f2, f3, f11, f12)
def p_X8_find_j73 (K : Nat) (v_this_lastSigns : Int32) (v1 : Int32) (f2 : Nat → Int32) (f3 : Nat → Int32) (f_this_said : Nat → Int32) (f5 : Nat → Int32) (f6 : Nat → Int32) (f7 : Nat → Int32) (f8 : Nat → Int32) (f9 : Nat → Int32) (f10 : Nat → Int32) (f11 : Nat → Int64) (f12 : Nat → Int32) (x13 : Int32) : Option (Int32 × Int32 × Int32 × Int32 × (Nat → Int32) × (Nat → Int32) × (Nat → Int32) × (Nat → Int32) × (Nat → Int32) × (Nat → Int32) × (Nat → Int32) × (Nat → Int32) × (Nat → Int32) × (Nat → Int64) × (Nat → Int32)) :=
  z_b6 (p_X8_order K f5 f6 f7 f8 f9 f10 x13) (fun f14 f15 f16 f17 f18 f19 => if x13 = v_this_lastSigns then ((p_X8_find_j95 x13 v1 f14 f15 f16 f17 f18 f19 f2 f3 f11 f12) f_this_said)
  else (z_b1 (p_X8_forget K f_this_said) (fun f21 => (p_X8_find_j95 x13 v1 f14 f15 f16 f17 f18 f19 f2 f3 f11 f12) f21)))
def p_X8_find_l21 (x31 : Int32) (v_this_lastSigns : Int32) (v1 : Int32) (f_this_said : Nat → Int32) (f2 : Nat → Int32) (f3 : Nat → Int32) (K : Nat) (kb_13 : (Nat → Int32) → (Nat → Int32) → (Nat → Int32) → (Nat → Int32) → (Nat → Int32) → (Nat → Int32) → (Nat → Int64) → (Nat → Int32) → Int32 → Int32 → Option (Int32 × Int32 × Int32 × Int32 × (Nat → Int32) × (Nat → Int32) × (Nat → Int32) × (Nat → Int32) × (Nat → Int32) × (Nat → Int32) × (Nat → Int32) × (Nat → Int32) × (Nat → Int32) × (Nat → Int64) × (Nat → Int32))) (kb_21 : (Nat → Int32) → (Nat → Int32) → (Nat → Int32) → (Nat → Int32) → (Nat → Int32) → (Nat → Int32) → (Nat → Int64) → (Nat → Int32) → Int32 → Int32 → Option (Int32 × Int32 × Int32 × Int32 × (Nat → Int32) × (Nat → Int32) × (Nat → Int32) × (Nat → Int32) × (Nat → Int32) × (Nat → Int32) × (Nat → Int32) × (Nat → Int32) × (Nat → Int32) × (Nat → Int64) × (Nat → Int32))) (f32 : Nat → Int32) (f33 : Nat → Int32) (f34 : Nat → Int32) (f35 : Nat → Int32) (f36 : Nat → Int32) (f37 : Nat → Int32) (f38 : Nat → Int64) (f39 : Nat → Int32) (x40 : Int32) (x41 : Int32) : Option (Int32 × Int32 × Int32 × Int32 × (Nat → Int32) × (Nat → Int32) × (Nat → Int32) × (Nat → Int32) × (Nat → Int32) × (Nat → Int32) × (Nat → Int32) × (Nat → Int32) × (Nat → Int32) × (Nat → Int64) × (Nat → Int32)) :=
  if 32 ≤ x41 then (z_let (x31 + 1) (fun y42 => kb_13 f32 f33 f34 f35 f36 f37 f38 f39 x40 y42))
  else (z_ald 32 f38 x41 (fun y43 => if (lg_cmp (((y43 >>> (x31.toInt64 &&& 63))) &&& 1) 1) = 0 then (if x40 = 40 then (some ((-4), (-1), v_this_lastSigns, v1, f32, f33, f34, f35, f36, f37, f_this_said, f2, f3, f38, f39))
  else (z_b8 (p_X8_spread K f32 f33 f34 f35 f36 f37 f38 f39 x31 x41 x40) (fun f45 f46 f47 f48 f49 f50 f51 f52 => z_let (x40 + 1) (fun y53 => z_let (x41 + 1) (fun y54 => kb_21 f45 f46 f47 f48 f49 f50 f51 f52 y53 y54)))))
  else (z_let (x41 + 1) (fun y44 => kb_21 f32 f33 f34 f35 f36 f37 f38 f39 x40 y44))))
def p_X8_find_l13 (v_this_lastSigns : Int32) (v1 : Int32) (f_this_said : Nat → Int32) (f2 : Nat → Int32) (f3 : Nat → Int32) (K : Nat) (kj_73 : (Nat → Int32) → (Nat → Int32) → (Nat → Int32) → (Nat → Int32) → (Nat → Int32) → (Nat → Int32) → (Nat → Int64) → (Nat → Int32) → Int32 → Option (Int32 × Int32 × Int32 × Int32 × (Nat → Int32) × (Nat → Int32) × (Nat → Int32) × (Nat → Int32) × (Nat → Int32) × (Nat → Int32) × (Nat → Int32) × (Nat → Int32) × (Nat → Int32) × (Nat → Int64) × (Nat → Int32))) (kb_13 : (Nat → Int32) → (Nat → Int32) → (Nat → Int32) → (Nat → Int32) → (Nat → Int32) → (Nat → Int32) → (Nat → Int64) → (Nat → Int32) → Int32 → Int32 → Option (Int32 × Int32 × Int32 × Int32 × (Nat → Int32) × (Nat → Int32) × (Nat → Int32) × (Nat → Int32) × (Nat → Int32) × (Nat → Int32) × (Nat → Int32) × (Nat → Int32) × (Nat → Int32) × (Nat → Int64) × (Nat → Int32))) (f22 : Nat → Int32) (f23 : Nat → Int32) (f24 : Nat → Int32) (f25 : Nat → Int32) (f26 : Nat → Int32) (f27 : Nat → Int32) (f28 : Nat → Int64) (f29 : Nat → Int32) (x30 : Int32) (x31 : Int32) : Option (Int32 × Int32 × Int32 × Int32 × (Nat → Int32) × (Nat → Int32) × (Nat → Int32) × (Nat → Int32) × (Nat → Int32) × (Nat → Int32) × (Nat → Int32) × (Nat → Int32) × (Nat → Int32) × (Nat → Int64) × (Nat → Int32)) :=
  if 60 ≤ x31 then (kj_73 f22 f23 f24 f25 f26 f27 f28 f29 x30)
  else (z_lp10 (p_X8_find_l21 x31 v_this_lastSigns v1 f_this_said f2 f3 K kb_13) K f22 f23 f24 f25 f26 f27 f28 f29 x30 0)
def p_X8_find (K : Nat) (v_this_run : Int32) (v_this_signs : Int32) (v_this_lastSigns : Int32) (v_this_lineMany : Int32) (f_this_board : Nat → Int64) (f_this_area : Nat → Int32) (f_this_x0 : Nat → Int32) (f_this_y0 : Nat → Int32) (f_this_x1 : Nat → Int32) (f_this_y1 : Nat → Int32) (f_this_head : Nat → Int32) (f_this_said : Nat → Int32) (f_this_lineFirst : Nat → Int32) (f_this_lineLast : Nat → Int32) (f_this_left : Nat → Int64) (f_this_pile : Nat → Int32) : Option (Int32 × Int32 × Int32 × Int32 × (Nat → Int32) × (Nat → Int32) × (Nat → Int32) × (Nat → Int32) × (Nat → Int32) × (Nat → Int32) × (Nat → Int32) × (Nat → Int32) × (Nat → Int32) × (Nat → Int64) × (Nat → Int32)) :=
  z_b4 (p_X8_takeOff K v_this_run v_this_lineMany f_this_board f_this_lineFirst f_this_lineLast f_this_left) (fun v1 f2 f3 f4 => z_lp10 (p_X8_find_l13 v_this_lastSigns v1 f_this_said f2 f3 K (p_X8_find_j73 K v_this_lastSigns v1 f2 f3 f_this_said)) K f_this_area f_this_x0 f_this_y0 f_this_x1 f_this_y1 f_this_head f4 f_this_pile 0 0)
def p_X8_stepOf (K : Nat) (v_this_run : Int32) (v_this_lineMany : Int32) (f_this_board : Nat → Int64) (f_this_y0 : Nat → Int32) (f_this_y1 : Nat → Int32) (f_this_lineFirst : Nat → Int32) (f_this_lineLast : Nat → Int32) (i1 : Int32) : Option (Int32 × Int32 × (Nat → Int32) × (Nat → Int32)) :=
  z_b4 (p_X8_findStaff K v_this_run v_this_lineMany f_this_board f_this_lineFirst f_this_lineLast) (fun y1 v2 f3 f4 => if y1 = (-1) then (some ((-1001), v2, f3, f4))
  else (z_ald 32 f4 (y1 + 4) (fun y5 => z_ald 40 f_this_y0 i1 (fun y6 => z_ald 40 f_this_y1 i1 (fun y7 => z_div (y6 + y7) 2 (fun y8 => z_let ((2 * (y5 - y8))) (fun y9 => z_ald 32 f3 (y1 + 1) (fun y10 => z_ald 32 f3 y1 (fun y11 => z_let ((y10 - y11)) (fun y12 => if y9 < 0 then (z_div ((y12 - 1) - y9) y12 (fun y13 => some ((-y13), v2, f3, f4)))
  else (z_div y9 y12 (fun y14 => some (y14, v2, f3, f4)))))))))))))
def p_X8_sign (K : Nat) (v_this_run : Int32) (v_this_signs : Int32) (v_this_lineMany : Int32) (f_this_board : Nat → Int64) (f_this_area : Nat → Int32) (f_this_x0 : Nat → Int32) (f_this_y0 : Nat → Int32) (f_this_x1 : Nat → Int32) (f_this_y1 : Nat → Int32) (f_this_said : Nat → Int32) (f_this_lineFirst : Nat → Int32) (f_this_lineLast : Nat → Int32) (i1 : Int32) (i2 : Int32) : Option (Int32 × Int32 × (Nat → Int32) × (Nat → Int32)) :=
  z_b1 (p_X8_isSign v_this_signs i1) (fun y1 => if y1 = 0 then (some ((-2147483648), v_this_lineMany, f_this_lineFirst, f_this_lineLast))
  else (if i2 = 0 then (z_ald 40 f_this_area i1 (fun y2 => some (y2, v_this_lineMany, f_this_lineFirst, f_this_lineLast)))
  else if i2 = 1 then (z_ald 40 f_this_x0 i1 (fun y3 => some (y3, v_this_lineMany, f_this_lineFirst, f_this_lineLast)))
  else if i2 = 2 then (z_ald 40 f_this_y0 i1 (fun y4 => some (y4, v_this_lineMany, f_this_lineFirst, f_this_lineLast)))
  else if i2 = 3 then (z_ald 40 f_this_x1 i1 (fun y5 => some (y5, v_this_lineMany, f_this_lineFirst, f_this_lineLast)))
  else if i2 = 4 then (z_ald 40 f_this_y1 i1 (fun y6 => some (y6, v_this_lineMany, f_this_lineFirst, f_this_lineLast)))
  else if i2 = 5 then (z_b4 (p_X8_stepOf K v_this_run v_this_lineMany f_this_board f_this_y0 f_this_y1 f_this_lineFirst f_this_lineLast i1) (fun y7 v8 f9 f10 => some (y7, v8, f9, f10)))
  else if i2 = 6 then (z_ald 40 f_this_said i1 (fun y11 => some (y11, v_this_lineMany, f_this_lineFirst, f_this_lineLast)))
  else (some ((-2147483648), v_this_lineMany, f_this_lineFirst, f_this_lineLast))))
def p_X8_costOf_j120 (f_this_least : Nat → Int32) (i2 : Int32) (f_this_y1 : Nat → Int32) (i1 : Int32) (f_this_y0 : Nat → Int32) (f_this_price : Nat → Int32) (z4 : Int32) : Option (Int32) :=
  z_ald 6 f_this_least i2 (fun y5 => z_ald 40 f_this_y1 i1 (fun y6 => z_ald 40 f_this_y0 i1 (fun y7 => z_let ((y5 - ((y6 - y7) + 1))) (fun y8 => z_ald 6 f_this_price i2 (fun y9 => if y8 ≤ 0 then (some ((y9 + z4) + 0))
  else (some ((y9 + z4) + (5 * y8))))))))
def p_X8_costOf_j19 (f_this_said : Nat → Int32) (i1 : Int32) (i2 : Int32) (v_this_dirt : Int32) (f_this_area : Nat → Int32) (f_this_low : Nat → Int32) (f_this_high : Nat → Int32) (f_this_least : Nat → Int32) (f_this_y1 : Nat → Int32) (f_this_y0 : Nat → Int32) (f_this_price : Nat → Int32) : Option (Int32) :=
  z_ald 40 f_this_said i1 (fun y1 => if y1 = (-1) then (if i2 = 6 then (some v_this_dirt)
  else (z_ald 40 f_this_area i1 (fun y2 => z_ald 6 f_this_low i2 (fun y3 => if y3 ≤ y2 then (z_ald 40 f_this_area i1 (fun y10 => z_ald 6 f_this_high i2 (fun y11 => if y10 ≤ y11 then ((p_X8_costOf_j120 f_this_least i2 f_this_y1 i1 f_this_y0 f_this_price) 0)
  else (z_ald 40 f_this_area i1 (fun y12 => z_ald 6 f_this_high i2 (fun y13 => (p_X8_costOf_j120 f_this_least i2 f_this_y1 i1 f_this_y0 f_this_price) (y12 - y13)))))))
  else (z_ald 6 f_this_low i2 (fun y14 => z_ald 40 f_this_area i1 (fun y15 => (p_X8_costOf_j120 f_this_least i2 f_this_y1 i1 f_this_y0 f_this_price) (y14 - y15))))))))
  else (z_ald 40 f_this_said i1 (fun y16 => if y16 = i2 then (some 0)
  else (some 10000000))))
def p_X8_costOf (v_this_dirt : Int32) (v_this_notSign : Int32) (v_this_notKind : Int32) (f_this_area : Nat → Int32) (f_this_y0 : Nat → Int32) (f_this_y1 : Nat → Int32) (f_this_said : Nat → Int32) (f_this_low : Nat → Int32) (f_this_high : Nat → Int32) (f_this_least : Nat → Int32) (f_this_price : Nat → Int32) (i1 : Int32) (i2 : Int32) : Option (Int32) :=
  if i1 = v_this_notSign then (if i2 = v_this_notKind then (some 10000000)
  else ((p_X8_costOf_j19 f_this_said i1 i2 v_this_dirt f_this_area f_this_low f_this_high f_this_least f_this_y1 f_this_y0 f_this_price)))
  else ((p_X8_costOf_j19 f_this_said i1 i2 v_this_dirt f_this_area f_this_low f_this_high f_this_least f_this_y1 f_this_y0 f_this_price))
def p_X8_withKind_j158 (i1 : Int32) (i2 : Int32) (z2 : Int32) (f_this_rest : Nat → Int32) (y1 : Int32) (z3 : Int32) : Option (Int32) :=
  z_b1 (p_X8_restAt (i1 + 1) (i2 + z2) z3) (fun y4 => z_ald 6027 f_this_rest y4 (fun y5 => some (y1 + y5)))
def p_X8_withKind_j109 (i2 : Int32) (v_this_time : Int32) (i4 : Int32) (i1 : Int32) (f_this_rest : Nat → Int32) (y1 : Int32) (z2 : Int32) : Option (Int32) :=
  if (i2 + z2) ≤ v_this_time then (if i4 = 0 then ((p_X8_withKind_j158 i1 i2 z2 f_this_rest y1) 1)
  else (if i4 = 1 then ((p_X8_withKind_j158 i1 i2 z2 f_this_rest y1) 2)
  else ((p_X8_withKind_j158 i1 i2 z2 f_this_rest y1) 0)))
  else (some 10000000)
def p_X8_withKind_j61 (i1 : Int32) (f_this_rest : Nat → Int32) (y1 : Int32) : Option (Int32) :=
  z_b1 (p_X8_restAt (i1 + 1) 0 0) (fun y7 => z_ald 6027 f_this_rest y7 (fun y8 => some (y1 + y8)))
def p_X8_withKind (v_this_dirt : Int32) (v_this_time : Int32) (v_this_notSign : Int32) (v_this_notKind : Int32) (f_this_area : Nat → Int32) (f_this_y0 : Nat → Int32) (f_this_y1 : Nat → Int32) (f_this_said : Nat → Int32) (f_this_low : Nat → Int32) (f_this_high : Nat → Int32) (f_this_least : Nat → Int32) (f_this_price : Nat → Int32) (f_this_rest : Nat → Int32) (i1 : Int32) (i2 : Int32) (i3 : Int32) (i4 : Int32) : Option (Int32) :=
  z_b1 (p_X8_costOf v_this_dirt v_this_notSign v_this_notKind f_this_area f_this_y0 f_this_y1 f_this_said f_this_low f_this_high f_this_least f_this_price i1 i4) (fun y1 => if y1 = 10000000 then (some 10000000)
  else (if i4 = 6 then (z_b1 (p_X8_restAt (i1 + 1) i2 i3) (fun y9 => z_ald 6027 f_this_rest y9 (fun y10 => some (y1 + y10))))
  else (if i4 = 5 then (if i2 = 0 then ((p_X8_withKind_j61 i1 f_this_rest y1))
  else (if i2 = v_this_time then ((p_X8_withKind_j61 i1 f_this_rest y1))
  else (some 10000000)))
  else (if i4 = 4 then (if i3 = 0 then ((p_X8_withKind_j109 i2 v_this_time i4 i1 f_this_rest y1) 100)
  else ((p_X8_withKind_j109 i2 v_this_time i4 i1 f_this_rest y1) (2 * i3)))
  else (z_b1 (p_X8_timeOf i4) (fun y6 => (p_X8_withKind_j109 i2 v_this_time i4 i1 f_this_rest y1) y6))))))
def p_X8_leastNow_j105 (x2 : Int32) (x5 : Int32) (x8 : Int32) (f7 : Nat → Int32) (kb_21 : (Nat → Int32) → Int32 → Option (Int32 × (Nat → Int32))) (x11 : Int32) : Option (Int32 × (Nat → Int32)) :=
  z_b1 (p_X8_restAt x2 x5 x8) (fun y12 => z_ast 6027 f7 y12 x11 (fun f13 => z_let (x8 + 1) (fun y14 => kb_21 f13 y14)))
def p_X8_leastNow_l57 (v_this_signs : Int32) (x2 : Int32) (v_this_dirt : Int32) (v_this_time : Int32) (v_this_notSign : Int32) (v_this_notKind : Int32) (f_this_area : Nat → Int32) (f_this_y0 : Nat → Int32) (f_this_y1 : Nat → Int32) (f_this_said : Nat → Int32) (f_this_low : Nat → Int32) (f_this_high : Nat → Int32) (f_this_least : Nat → Int32) (f_this_price : Nat → Int32) (f7 : Nat → Int32) (x5 : Int32) (x8 : Int32) (kj_105 : Int32 → Option (Int32 × (Nat → Int32))) (kb_57 : Int32 → Int32 → Option (Int32 × (Nat → Int32))) (x15 : Int32) (x16 : Int32) : Option (Int32 × (Nat → Int32)) :=
  if 6 < x16 then (kj_105 x15)
  else (if v_this_signs ≤ x2 then (kj_105 x15)
  else (z_b1 (p_X8_withKind v_this_dirt v_this_time v_this_notSign v_this_notKind f_this_area f_this_y0 f_this_y1 f_this_said f_this_low f_this_high f_this_least f_this_price f7 x2 x5 x8 x16) (fun y17 => if x15 ≤ y17 then (z_let (x16 + 1) (fun y18 => kb_57 x15 y18))
  else (z_let (x16 + 1) (fun y19 => kb_57 y17 y19)))))
def p_X8_leastNow_j52 (v_this_signs : Int32) (x2 : Int32) (v_this_dirt : Int32) (v_this_time : Int32) (v_this_notSign : Int32) (v_this_notKind : Int32) (f_this_area : Nat → Int32) (f_this_y0 : Nat → Int32) (f_this_y1 : Nat → Int32) (f_this_said : Nat → Int32) (f_this_low : Nat → Int32) (f_this_high : Nat → Int32) (f_this_least : Nat → Int32) (f_this_price : Nat → Int32) (f7 : Nat → Int32) (x5 : Int32) (x8 : Int32) (K : Nat) (kb_21 : (Nat → Int32) → Int32 → Option (Int32 × (Nat → Int32))) (z10 : Int32) : Option (Int32 × (Nat → Int32)) :=
  z_lp2 (p_X8_leastNow_l57 v_this_signs x2 v_this_dirt v_this_time v_this_notSign v_this_notKind f_this_area f_this_y0 f_this_y1 f_this_said f_this_low f_this_high f_this_least f_this_price f7 x5 x8 (p_X8_leastNow_j105 x2 x5 x8 f7 kb_21)) K z10 0
def p_X8_leastNow_j50 (kj_52 : Int32 → Option (Int32 × (Nat → Int32))) : Option (Int32 × (Nat → Int32)) :=
  kj_52 10000000
def p_X8_leastNow_j46 (kj_52 : Int32 → Option (Int32 × (Nat → Int32))) : Option (Int32 × (Nat → Int32)) :=
  kj_52 0
def p_X8_leastNow_l21 (x5 : Int32) (x2 : Int32) (v_this_signs : Int32) (v_this_dirt : Int32) (v_this_time : Int32) (v_this_notSign : Int32) (v_this_notKind : Int32) (f_this_area : Nat → Int32) (f_this_y0 : Nat → Int32) (f_this_y1 : Nat → Int32) (f_this_said : Nat → Int32) (f_this_low : Nat → Int32) (f_this_high : Nat → Int32) (f_this_least : Nat → Int32) (f_this_price : Nat → Int32) (K : Nat) (kb_11 : (Nat → Int32) → Int32 → Option (Int32 × (Nat → Int32))) (kb_21 : (Nat → Int32) → Int32 → Option (Int32 × (Nat → Int32))) (f7 : Nat → Int32) (x8 : Int32) : Option (Int32 × (Nat → Int32)) :=
  if 3 ≤ x8 then (z_let (x5 + 1) (fun y9 => kb_11 f7 y9))
  else (if x2 = v_this_signs then (if x5 = 0 then ((p_X8_leastNow_j46 (p_X8_leastNow_j52 v_this_signs x2 v_this_dirt v_this_time v_this_notSign v_this_notKind f_this_area f_this_y0 f_this_y1 f_this_said f_this_low f_this_high f_this_least f_this_price f7 x5 x8 K kb_21)))
  else (if x5 = v_this_time then ((p_X8_leastNow_j46 (p_X8_leastNow_j52 v_this_signs x2 v_this_dirt v_this_time v_this_notSign v_this_notKind f_this_area f_this_y0 f_this_y1 f_this_said f_this_low f_this_high f_this_least f_this_price f7 x5 x8 K kb_21)))
  else ((p_X8_leastNow_j50 (p_X8_leastNow_j52 v_this_signs x2 v_this_dirt v_this_time v_this_notSign v_this_notKind f_this_area f_this_y0 f_this_y1 f_this_said f_this_low f_this_high f_this_least f_this_price f7 x5 x8 K kb_21)))))
  else ((p_X8_leastNow_j50 (p_X8_leastNow_j52 v_this_signs x2 v_this_dirt v_this_time v_this_notSign v_this_notKind f_this_area f_this_y0 f_this_y1 f_this_said f_this_low f_this_high f_this_least f_this_price f7 x5 x8 K kb_21))))
def p_X8_leastNow_l11 (v_this_time : Int32) (x2 : Int32) (v_this_signs : Int32) (v_this_dirt : Int32) (v_this_notSign : Int32) (v_this_notKind : Int32) (f_this_area : Nat → Int32) (f_this_y0 : Nat → Int32) (f_this_y1 : Nat → Int32) (f_this_said : Nat → Int32) (f_this_low : Nat → Int32) (f_this_high : Nat → Int32) (f_this_least : Nat → Int32) (f_this_price : Nat → Int32) (K : Nat) (kb_5 : (Nat → Int32) → Int32 → Option (Int32 × (Nat → Int32))) (kb_11 : (Nat → Int32) → Int32 → Option (Int32 × (Nat → Int32))) (f4 : Nat → Int32) (x5 : Int32) : Option (Int32 × (Nat → Int32)) :=
  if v_this_time < x5 then (z_let (x2 + (-1)) (fun y6 => kb_5 f4 y6))
  else (z_lp2 (p_X8_leastNow_l21 x5 x2 v_this_signs v_this_dirt v_this_time v_this_notSign v_this_notKind f_this_area f_this_y0 f_this_y1 f_this_said f_this_low f_this_high f_this_least f_this_price K kb_11) K f4 0)
def p_X8_leastNow_l5 (v_this_time : Int32) (v_this_signs : Int32) (v_this_dirt : Int32) (v_this_notSign : Int32) (v_this_notKind : Int32) (f_this_area : Nat → Int32) (f_this_y0 : Nat → Int32) (f_this_y1 : Nat → Int32) (f_this_said : Nat → Int32) (f_this_low : Nat → Int32) (f_this_high : Nat → Int32) (f_this_least : Nat → Int32) (f_this_price : Nat → Int32) (K : Nat) (kb_5 : (Nat → Int32) → Int32 → Option (Int32 × (Nat → Int32))) (f1 : Nat → Int32) (x2 : Int32) : Option (Int32 × (Nat → Int32)) :=
  if x2 < 0 then (z_ald 6027 f1 0 (fun y3 => some (y3, f1)))
  else (z_lp2 (p_X8_leastNow_l11 v_this_time x2 v_this_signs v_this_dirt v_this_notSign v_this_notKind f_this_area f_this_y0 f_this_y1 f_this_said f_this_low f_this_high f_this_least f_this_price K kb_5) K f1 0)
def p_X8_leastNow (K : Nat) (v_this_signs : Int32) (v_this_dirt : Int32) (v_this_time : Int32) (v_this_notSign : Int32) (v_this_notKind : Int32) (f_this_area : Nat → Int32) (f_this_y0 : Nat → Int32) (f_this_y1 : Nat → Int32) (f_this_said : Nat → Int32) (f_this_low : Nat → Int32) (f_this_high : Nat → Int32) (f_this_least : Nat → Int32) (f_this_price : Nat → Int32) (f_this_rest : Nat → Int32) : Option (Int32 × (Nat → Int32)) :=
  z_lp2 (p_X8_leastNow_l5 v_this_time v_this_signs v_this_dirt v_this_notSign v_this_notKind f_this_area f_this_y0 f_this_y1 f_this_said f_this_low f_this_high f_this_least f_this_price K) K f_this_rest v_this_signs
def p_X8_findBest_j122 (x4 : Int32) (x7 : Int32) (x6 : Int32) (f8 : Nat → Int32) (kb_32 : (Nat → Int32) → Int32 → Int32 → Int32 → Option (Int32 × (Nat → Int32) × (Nat → Int32))) (z10 : Int32) : Option (Int32 × (Nat → Int32) × (Nat → Int32)) :=
  z_let ((x4 + z10)) (fun y11 => if x7 = 0 then (z_let (x6 + 1) (fun y14 => kb_32 f8 y11 1 y14))
  else (if x7 = 1 then (z_let (x6 + 1) (fun y13 => kb_32 f8 y11 2 y13))
  else (z_let (x6 + 1) (fun y12 => kb_32 f8 y11 0 y12))))
def p_X8_findBest_j75 (f3 : Nat → Int32) (x6 : Int32) (x4 : Int32) (x5 : Int32) (kb_32 : (Nat → Int32) → Int32 → Int32 → Int32 → Option (Int32 × (Nat → Int32) × (Nat → Int32))) (x7 : Int32) : Option (Int32 × (Nat → Int32) × (Nat → Int32)) :=
  z_ast 40 f3 x6 x7 (fun f8 => if x7 = 5 then (z_let (x6 + 1) (fun y16 => kb_32 f8 0 0 y16))
  else (if x7 = 6 then (z_let (x6 + 1) (fun y9 => kb_32 f8 x4 x5 y9))
  else (if x7 = 4 then ((p_X8_findBest_j122 x4 x7 x6 f8 kb_32) (2 * x5))
  else (z_b1 (p_X8_timeOf x7) (fun y15 => (p_X8_findBest_j122 x4 x7 x6 f8 kb_32) y15)))))
def p_X8_findBest_l44 (v_this_dirt : Int32) (v_this_time : Int32) (v_this_notSign : Int32) (v_this_notKind : Int32) (f_this_area : Nat → Int32) (f_this_y0 : Nat → Int32) (f_this_y1 : Nat → Int32) (f_this_said : Nat → Int32) (f_this_low : Nat → Int32) (f_this_high : Nat → Int32) (f_this_least : Nat → Int32) (f_this_price : Nat → Int32) (f2 : Nat → Int32) (x6 : Int32) (x4 : Int32) (x5 : Int32) (kj_75 : Int32 → Option (Int32 × (Nat → Int32) × (Nat → Int32))) (kb_44 : Int32 → Option (Int32 × (Nat → Int32) × (Nat → Int32))) (x17 : Int32) : Option (Int32 × (Nat → Int32) × (Nat → Int32)) :=
  z_b1 (p_X8_withKind v_this_dirt v_this_time v_this_notSign v_this_notKind f_this_area f_this_y0 f_this_y1 f_this_said f_this_low f_this_high f_this_least f_this_price f2 x6 x4 x5 x17) (fun y18 => z_b1 (p_X8_restAt x6 x4 x5) (fun y19 => z_ald 6027 f2 y19 (fun y20 => if y18 = y20 then (kj_75 x17)
  else (z_let (x17 + 1) (fun y21 => kb_44 y21)))))
def p_X8_findBest_l32 (v_this_signs : Int32) (y1 : Int32) (f2 : Nat → Int32) (v_this_dirt : Int32) (v_this_time : Int32) (v_this_notSign : Int32) (v_this_notKind : Int32) (f_this_area : Nat → Int32) (f_this_y0 : Nat → Int32) (f_this_y1 : Nat → Int32) (f_this_said : Nat → Int32) (f_this_low : Nat → Int32) (f_this_high : Nat → Int32) (f_this_least : Nat → Int32) (f_this_price : Nat → Int32) (K : Nat) (kb_32 : (Nat → Int32) → Int32 → Int32 → Int32 → Option (Int32 × (Nat → Int32) × (Nat → Int32))) (f3 : Nat → Int32) (x4 : Int32) (x5 : Int32) (x6 : Int32) : Option (Int32 × (Nat → Int32) × (Nat → Int32)) :=
  if v_this_signs ≤ x6 then (some (y1, f2, f3))
  else (z_lp1 (p_X8_findBest_l44 v_this_dirt v_this_time v_this_notSign v_this_notKind f_this_area f_this_y0 f_this_y1 f_this_said f_this_low f_this_high f_this_least f_this_price f2 x6 x4 x5 (p_X8_findBest_j75 f3 x6 x4 x5 kb_32)) K 0)
def p_X8_findBest (K : Nat) (v_this_signs : Int32) (v_this_dirt : Int32) (v_this_time : Int32) (v_this_notSign : Int32) (v_this_notKind : Int32) (f_this_area : Nat → Int32) (f_this_y0 : Nat → Int32) (f_this_y1 : Nat → Int32) (f_this_said : Nat → Int32) (f_this_low : Nat → Int32) (f_this_high : Nat → Int32) (f_this_least : Nat → Int32) (f_this_price : Nat → Int32) (f_this_rest : Nat → Int32) (f_this_read : Nat → Int32) : Option (Int32 × (Nat → Int32) × (Nat → Int32)) :=
  if v_this_signs = (-1) then (some ((-3), f_this_rest, f_this_read))
  else (z_b2 (p_X8_leastNow K v_this_signs v_this_dirt v_this_time v_this_notSign v_this_notKind f_this_area f_this_y0 f_this_y1 f_this_said f_this_low f_this_high f_this_least f_this_price f_this_rest) (fun y1 f2 => if y1 < 10000000 then (z_lp4 (p_X8_findBest_l32 v_this_signs y1 f2 v_this_dirt v_this_time v_this_notSign v_this_notKind f_this_area f_this_y0 f_this_y1 f_this_said f_this_low f_this_high f_this_least f_this_price K) K f_this_read 0 0 0)
  else (some ((-3), f2, f_this_read))))
def p_X8_best (K : Nat) (v_this_signs : Int32) (v_this_dirt : Int32) (v_this_time : Int32) (v_this_notSign : Int32) (v_this_notKind : Int32) (f_this_area : Nat → Int32) (f_this_y0 : Nat → Int32) (f_this_y1 : Nat → Int32) (f_this_said : Nat → Int32) (f_this_low : Nat → Int32) (f_this_high : Nat → Int32) (f_this_least : Nat → Int32) (f_this_price : Nat → Int32) (f_this_rest : Nat → Int32) (f_this_read : Nat → Int32) : Option (Int32 × (Nat → Int32) × (Nat → Int32)) :=
  z_b3 (p_X8_findBest K v_this_signs v_this_dirt v_this_time v_this_notSign v_this_notKind f_this_area f_this_y0 f_this_y1 f_this_said f_this_low f_this_high f_this_least f_this_price f_this_rest f_this_read) (fun y1 f2 f3 => some (y1, f2, f3))
def p_X8_read (K : Nat) (v_this_signs : Int32) (v_this_dirt : Int32) (v_this_time : Int32) (v_this_notSign : Int32) (v_this_notKind : Int32) (f_this_area : Nat → Int32) (f_this_y0 : Nat → Int32) (f_this_y1 : Nat → Int32) (f_this_said : Nat → Int32) (f_this_low : Nat → Int32) (f_this_high : Nat → Int32) (f_this_least : Nat → Int32) (f_this_price : Nat → Int32) (f_this_rest : Nat → Int32) (f_this_read : Nat → Int32) (i1 : Int32) : Option (Int32 × (Nat → Int32) × (Nat → Int32)) :=
  if v_this_signs = (-1) then (some ((-3), f_this_rest, f_this_read))
  else (z_b1 (p_X8_isSign v_this_signs i1) (fun y1 => if y1 = 0 then (some ((-2), f_this_rest, f_this_read))
  else (z_b3 (p_X8_findBest K v_this_signs v_this_dirt v_this_time v_this_notSign v_this_notKind f_this_area f_this_y0 f_this_y1 f_this_said f_this_low f_this_high f_this_least f_this_price f_this_rest f_this_read) (fun y2 f3 f4 => if 0 ≤ y2 then (z_ald 40 f4 i1 (fun y5 => some (y5, f3, f4)))
  else (some ((-3), f3, f4))))))
def p_X8_doubtOf (K : Nat) (v_this_signs : Int32) (v_this_dirt : Int32) (v_this_time : Int32) (v_this_notSign : Int32) (v_this_notKind : Int32) (f_this_area : Nat → Int32) (f_this_y0 : Nat → Int32) (f_this_y1 : Nat → Int32) (f_this_said : Nat → Int32) (f_this_low : Nat → Int32) (f_this_high : Nat → Int32) (f_this_least : Nat → Int32) (f_this_price : Nat → Int32) (f_this_rest : Nat → Int32) (f_this_read : Nat → Int32) (i1 : Int32) (i2 : Int32) : Option (Int32 × Int32 × Int32 × (Nat → Int32)) :=
  z_ald 40 f_this_read i1 (fun y1 => z_b2 (p_X8_leastNow K v_this_signs v_this_dirt v_this_time i1 y1 f_this_area f_this_y0 f_this_y1 f_this_said f_this_low f_this_high f_this_least f_this_price f_this_rest) (fun y2 f3 => if y2 < 10000000 then (some ((y2 - i2), (-1), (-1), f3))
  else (some ((-1), (-1), (-1), f3))))
def p_X8_doubt (K : Nat) (v_this_signs : Int32) (v_this_dirt : Int32) (v_this_time : Int32) (v_this_notSign : Int32) (v_this_notKind : Int32) (f_this_area : Nat → Int32) (f_this_y0 : Nat → Int32) (f_this_y1 : Nat → Int32) (f_this_said : Nat → Int32) (f_this_low : Nat → Int32) (f_this_high : Nat → Int32) (f_this_least : Nat → Int32) (f_this_price : Nat → Int32) (f_this_rest : Nat → Int32) (f_this_read : Nat → Int32) (i1 : Int32) : Option (Int32 × Int32 × Int32 × (Nat → Int32) × (Nat → Int32)) :=
  if v_this_signs = (-1) then (some ((-3), v_this_notSign, v_this_notKind, f_this_rest, f_this_read))
  else (z_b1 (p_X8_isSign v_this_signs i1) (fun y1 => if y1 = 0 then (some ((-2), v_this_notSign, v_this_notKind, f_this_rest, f_this_read))
  else (z_b3 (p_X8_findBest K v_this_signs v_this_dirt v_this_time v_this_notSign v_this_notKind f_this_area f_this_y0 f_this_y1 f_this_said f_this_low f_this_high f_this_least f_this_price f_this_rest f_this_read) (fun y2 f3 f4 => if 0 ≤ y2 then (z_b4 (p_X8_doubtOf K v_this_signs v_this_dirt v_this_time v_this_notSign v_this_notKind f_this_area f_this_y0 f_this_y1 f_this_said f_this_low f_this_high f_this_least f_this_price f3 f4 i1 y2) (fun y5 v6 v7 f8 => some (y5, v6, v7, f8, f4)))
  else (some ((-3), v_this_notSign, v_this_notKind, f3, f4))))))
def p_X8_question_l20 (v_this_signs : Int32) (f3 : Nat → Int32) (K : Nat) (v_this_dirt : Int32) (v_this_time : Int32) (f_this_area : Nat → Int32) (f_this_y0 : Nat → Int32) (f_this_y1 : Nat → Int32) (f_this_said : Nat → Int32) (f_this_low : Nat → Int32) (f_this_high : Nat → Int32) (f_this_least : Nat → Int32) (f_this_price : Nat → Int32) (y1 : Int32) (kb_20 : Int32 → Int32 → (Nat → Int32) → Int32 → Int32 → Int32 → Option (Int32 × Int32 × Int32 × (Nat → Int32) × (Nat → Int32))) (v4 : Int32) (v5 : Int32) (f6 : Nat → Int32) (x7 : Int32) (x8 : Int32) (x9 : Int32) : Option (Int32 × Int32 × Int32 × (Nat → Int32) × (Nat → Int32)) :=
  if v_this_signs ≤ x9 then (some (x7, v4, v5, f6, f3))
  else (z_b4 (p_X8_doubtOf K v_this_signs v_this_dirt v_this_time v4 v5 f_this_area f_this_y0 f_this_y1 f_this_said f_this_low f_this_high f_this_least f_this_price f6 f3 x9 y1) (fun y10 v11 v12 f13 => if y10 = (-1) then (z_let (x9 + 1) (fun y14 => kb_20 v11 v12 f13 x7 x8 y14))
  else (if x8 ≤ y10 then (z_let (x9 + 1) (fun y15 => kb_20 v11 v12 f13 x7 x8 y15))
  else (z_let (x9 + 1) (fun y16 => kb_20 v11 v12 f13 x9 y10 y16)))))
def p_X8_question (K : Nat) (v_this_signs : Int32) (v_this_dirt : Int32) (v_this_time : Int32) (v_this_notSign : Int32) (v_this_notKind : Int32) (f_this_area : Nat → Int32) (f_this_y0 : Nat → Int32) (f_this_y1 : Nat → Int32) (f_this_said : Nat → Int32) (f_this_low : Nat → Int32) (f_this_high : Nat → Int32) (f_this_least : Nat → Int32) (f_this_price : Nat → Int32) (f_this_rest : Nat → Int32) (f_this_read : Nat → Int32) : Option (Int32 × Int32 × Int32 × (Nat → Int32) × (Nat → Int32)) :=
  z_b3 (p_X8_findBest K v_this_signs v_this_dirt v_this_time v_this_notSign v_this_notKind f_this_area f_this_y0 f_this_y1 f_this_said f_this_low f_this_high f_this_least f_this_price f_this_rest f_this_read) (fun y1 f2 f3 => if 0 ≤ y1 then (z_lp6 (p_X8_question_l20 v_this_signs f3 K v_this_dirt v_this_time f_this_area f_this_y0 f_this_y1 f_this_said f_this_low f_this_high f_this_least f_this_price y1) K v_this_notSign v_this_notKind f2 (-1) 10000000 0)
  else (some ((-3), v_this_notSign, v_this_notKind, f2, f3)))
def p_X8_findMeasures_j73 (v4 : Int32) (f8 : Nat → Int32) (x7 : Int32) (kb_18 : Int32 → (Nat → Int32) → Int32 → Int32 → Option (Int32 × Int32 × (Nat → Int32) × (Nat → Int32) × (Nat → Int32))) (z12 : Int32) : Option (Int32 × Int32 × (Nat → Int32) × (Nat → Int32) × (Nat → Int32)) :=
  z_let ((v4 + z12)) (fun y13 => z_ast 40 f8 x7 (y13 - 1) (fun f14 => z_let (x7 + 1) (fun y15 => kb_18 y13 f14 1 y15)))
def p_X8_findMeasures_l18 (v_this_signs : Int32) (f2 : Nat → Int32) (f3 : Nat → Int32) (kb_18 : Int32 → (Nat → Int32) → Int32 → Int32 → Option (Int32 × Int32 × (Nat → Int32) × (Nat → Int32) × (Nat → Int32))) (v4 : Int32) (f5 : Nat → Int32) (x6 : Int32) (x7 : Int32) : Option (Int32 × Int32 × (Nat → Int32) × (Nat → Int32) × (Nat → Int32)) :=
  if v_this_signs ≤ x7 then (some (1, v4, f2, f3, f5))
  else (z_ast 40 f5 x7 (-1) (fun f8 => z_ald 40 f3 x7 (fun y9 => if y9 = 5 then (z_let (x7 + 1) (fun y16 => kb_18 v4 f8 0 y16))
  else (z_ald 40 f3 x7 (fun y10 => if y10 = 6 then (z_let (x7 + 1) (fun y11 => kb_18 v4 f8 x6 y11))
  else (if x6 = 0 then ((p_X8_findMeasures_j73 v4 f8 x7 kb_18) 1)
  else ((p_X8_findMeasures_j73 v4 f8 x7 kb_18) 0)))))))
def p_X8_findMeasures (K : Nat) (v_this_signs : Int32) (v_this_dirt : Int32) (v_this_time : Int32) (v_this_notSign : Int32) (v_this_notKind : Int32) (v_this_measureMany : Int32) (f_this_area : Nat → Int32) (f_this_y0 : Nat → Int32) (f_this_y1 : Nat → Int32) (f_this_said : Nat → Int32) (f_this_low : Nat → Int32) (f_this_high : Nat → Int32) (f_this_least : Nat → Int32) (f_this_price : Nat → Int32) (f_this_rest : Nat → Int32) (f_this_read : Nat → Int32) (f_this_measure : Nat → Int32) : Option (Int32 × Int32 × (Nat → Int32) × (Nat → Int32) × (Nat → Int32)) :=
  z_b3 (p_X8_findBest K v_this_signs v_this_dirt v_this_time v_this_notSign v_this_notKind f_this_area f_this_y0 f_this_y1 f_this_said f_this_low f_this_high f_this_least f_this_price f_this_rest f_this_read) (fun y1 f2 f3 => if 0 ≤ y1 then (z_lp4 (p_X8_findMeasures_l18 v_this_signs f2 f3) K 0 f_this_measure 0 0)
  else (some (0, v_this_measureMany, f2, f3, f_this_measure)))
def p_X8_measures (K : Nat) (v_this_signs : Int32) (v_this_dirt : Int32) (v_this_time : Int32) (v_this_notSign : Int32) (v_this_notKind : Int32) (v_this_measureMany : Int32) (f_this_area : Nat → Int32) (f_this_y0 : Nat → Int32) (f_this_y1 : Nat → Int32) (f_this_said : Nat → Int32) (f_this_low : Nat → Int32) (f_this_high : Nat → Int32) (f_this_least : Nat → Int32) (f_this_price : Nat → Int32) (f_this_rest : Nat → Int32) (f_this_read : Nat → Int32) (f_this_measure : Nat → Int32) : Option (Int32 × Int32 × (Nat → Int32) × (Nat → Int32) × (Nat → Int32)) :=
  z_b5 (p_X8_findMeasures K v_this_signs v_this_dirt v_this_time v_this_notSign v_this_notKind v_this_measureMany f_this_area f_this_y0 f_this_y1 f_this_said f_this_low f_this_high f_this_least f_this_price f_this_rest f_this_read f_this_measure) (fun y1 v2 f3 f4 f5 => if y1 = 0 then (some ((-3), v2, f3, f4, f5))
  else (some (v2, v2, f3, f4, f5)))
def p_X8_isDotted_j29 (v_this_signs : Int32) (f_this_read : Nat → Int32) (x2 : Int32) : Option (Int32) :=
  if v_this_signs ≤ x2 then (some 0)
  else (z_ald 40 f_this_read x2 (fun y3 => if y3 = 4 then (some 1)
  else (some 0)))
def p_X8_isDotted_l4 (v_this_signs : Int32) (f_this_read : Nat → Int32) (kj_29 : Int32 → Option (Int32)) (kb_4 : Int32 → Option (Int32)) (x4 : Int32) : Option (Int32) :=
  if v_this_signs ≤ x4 then (kj_29 x4)
  else (z_ald 40 f_this_read x4 (fun y5 => if y5 = 6 then (z_let (x4 + 1) (fun y6 => kb_4 y6))
  else (kj_29 x4)))
def p_X8_isDotted (K : Nat) (v_this_signs : Int32) (f_this_read : Nat → Int32) (i1 : Int32) : Option (Int32) :=
  z_let ((i1 + 1)) (fun y1 => z_lp1 (p_X8_isDotted_l4 v_this_signs f_this_read (p_X8_isDotted_j29 v_this_signs f_this_read)) K y1)
def p_X8_note_j80 (f5 : Nat → Int32) (i3 : Int32) (v_this_lineMany : Int32) (v3 : Int32) (f_this_lineFirst : Nat → Int32) (f_this_lineLast : Nat → Int32) (f4 : Nat → Int32) (f6 : Nat → Int32) (K : Nat) (v_this_run : Int32) (f_this_board : Nat → Int64) (f_this_y0 : Nat → Int32) (f_this_y1 : Nat → Int32) (v_this_signs : Int32) (x8 : Int32) : Option (Int32 × Int32 × Int32 × (Nat → Int32) × (Nat → Int32) × (Nat → Int32) × (Nat → Int32) × (Nat → Int32)) :=
  z_ald 40 f5 x8 (fun y9 => z_b1 (p_X8_timeOf y9) (fun y10 => if i3 = 0 then (some (x8, v_this_lineMany, v3, f_this_lineFirst, f_this_lineLast, f4, f5, f6))
  else (if i3 = 1 then (z_b4 (p_X8_stepOf K v_this_run v_this_lineMany f_this_board f_this_y0 f_this_y1 f_this_lineFirst f_this_lineLast x8) (fun y13 v14 f15 f16 => some (y13, v14, v3, f15, f16, f4, f5, f6)))
  else (z_b1 (p_X8_isDotted K v_this_signs f5 x8) (fun y11 => if y11 = 0 then (some (y10, v_this_lineMany, v3, f_this_lineFirst, f_this_lineLast, f4, f5, f6))
  else (z_div y10 2 (fun y12 => some ((y10 + y12), v_this_lineMany, v3, f_this_lineFirst, f_this_lineLast, f4, f5, f6))))))))
def p_X8_note_l43 (v_this_signs : Int32) (v_this_lineMany : Int32) (v3 : Int32) (f_this_lineFirst : Nat → Int32) (f_this_lineLast : Nat → Int32) (f4 : Nat → Int32) (f5 : Nat → Int32) (f6 : Nat → Int32) (i1 : Int32) (i2 : Int32) (kj_80 : Int32 → Option (Int32 × Int32 × Int32 × (Nat → Int32) × (Nat → Int32) × (Nat → Int32) × (Nat → Int32) × (Nat → Int32))) (kb_43 : Int32 → Int32 → Option (Int32 × Int32 × Int32 × (Nat → Int32) × (Nat → Int32) × (Nat → Int32) × (Nat → Int32) × (Nat → Int32))) (x17 : Int32) (x18 : Int32) : Option (Int32 × Int32 × Int32 × (Nat → Int32) × (Nat → Int32) × (Nat → Int32) × (Nat → Int32) × (Nat → Int32)) :=
  if v_this_signs ≤ x18 then (some ((-2147483648), v_this_lineMany, v3, f_this_lineFirst, f_this_lineLast, f4, f5, f6))
  else (z_ald 40 f6 x18 (fun y19 => if y19 = i1 then (z_ald 40 f5 x18 (fun y21 => if 3 ≤ y21 then (z_let (x18 + 1) (fun y22 => kb_43 x17 y22))
  else (if x17 = i2 then (kj_80 x18)
  else (z_let (x17 + 1) (fun y23 => z_let (x18 + 1) (fun y24 => kb_43 y23 y24))))))
  else (z_let (x18 + 1) (fun y20 => kb_43 x17 y20))))
def p_X8_note (K : Nat) (v_this_run : Int32) (v_this_signs : Int32) (v_this_dirt : Int32) (v_this_time : Int32) (v_this_lineMany : Int32) (v_this_notSign : Int32) (v_this_notKind : Int32) (v_this_measureMany : Int32) (f_this_board : Nat → Int64) (f_this_area : Nat → Int32) (f_this_y0 : Nat → Int32) (f_this_y1 : Nat → Int32) (f_this_said : Nat → Int32) (f_this_low : Nat → Int32) (f_this_high : Nat → Int32) (f_this_least : Nat → Int32) (f_this_price : Nat → Int32) (f_this_lineFirst : Nat → Int32) (f_this_lineLast : Nat → Int32) (f_this_rest : Nat → Int32) (f_this_read : Nat → Int32) (f_this_measure : Nat → Int32) (i1 : Int32) (i2 : Int32) (i3 : Int32) : Option (Int32 × Int32 × Int32 × (Nat → Int32) × (Nat → Int32) × (Nat → Int32) × (Nat → Int32) × (Nat → Int32)) :=
  z_b1 (p_X8_in i3 0 2) (fun y1 => if y1 = 0 then (some ((-2147483648), v_this_lineMany, v_this_measureMany, f_this_lineFirst, f_this_lineLast, f_this_rest, f_this_read, f_this_measure))
  else (if i2 < 0 then (some ((-2147483648), v_this_lineMany, v_this_measureMany, f_this_lineFirst, f_this_lineLast, f_this_rest, f_this_read, f_this_measure))
  else (z_b5 (p_X8_findMeasures K v_this_signs v_this_dirt v_this_time v_this_notSign v_this_notKind v_this_measureMany f_this_area f_this_y0 f_this_y1 f_this_said f_this_low f_this_high f_this_least f_this_price f_this_rest f_this_read f_this_measure) (fun y2 v3 f4 f5 f6 => if y2 = 0 then (some ((-2147483648), v_this_lineMany, v3, f_this_lineFirst, f_this_lineLast, f4, f5, f6))
  else (z_b1 (p_X8_in i1 0 (v3 - 1)) (fun y7 => if y7 = 0 then (some ((-2147483648), v_this_lineMany, v3, f_this_lineFirst, f_this_lineLast, f4, f5, f6))
  else (z_lp2 (p_X8_note_l43 v_this_signs v_this_lineMany v3 f_this_lineFirst f_this_lineLast f4 f5 f6 i1 i2 (p_X8_note_j80 f5 i3 v_this_lineMany v3 f_this_lineFirst f_this_lineLast f4 f6 K v_this_run f_this_board f_this_y0 f_this_y1 v_this_signs)) K 0 0)))))))
def p_X8_after_l32 (f3 : Nat → Int32) (f_this_way : Nat → Int32) (i1 : Int32) (kb_32 : Int32 → Option (Int32 × (Nat → Int32))) (x4 : Int32) : Option (Int32 × (Nat → Int32)) :=
  if x4 ≤ 0 then (some (x4, f3))
  else (z_ald 40 f_this_way i1 (fun y5 => if y5 = 4 then (z_let (x4 + (-1)) (fun y6 => kb_32 y6))
  else (z_ald 40 f_this_way x4 (fun y7 => if y7 = 1 then (some (x4, f3))
  else (z_let (x4 + (-1)) (fun y8 => kb_32 y8))))))
def p_X8_after (K : Nat) (f_this_way : Nat → Int32) (f_this_wentBack : Nat → Int32) (i1 : Int32) : Option (Int32 × (Nat → Int32)) :=
  z_ald 40 f_this_way i1 (fun y1 => if y1 < 2 then (some ((i1 + 1), f_this_wentBack))
  else (z_ald 40 f_this_wentBack i1 (fun y2 => if y2 = 0 then (z_astZ 40 f_this_wentBack i1 1 (fun f3 => z_lp1 (p_X8_after_l32 f3 f_this_way i1) K i1))
  else (some ((i1 + 1), f_this_wentBack)))))
def p_X8_played_j82 (x9 : Int32) (i1 : Int32) (x10 : Int32) (v3 : Int32) (f4 : Nat → Int32) (f5 : Nat → Int32) (f6 : Nat → Int32) (f8 : Nat → Int32) (K : Nat) (f_this_way : Nat → Int32) (kb_49 : (Nat → Int32) → Int32 → Int32 → Option (Int32 × Int32 × (Nat → Int32) × (Nat → Int32) × (Nat → Int32) × (Nat → Int32))) : Option (Int32 × Int32 × (Nat → Int32) × (Nat → Int32) × (Nat → Int32) × (Nat → Int32)) :=
  if x9 = i1 then (some (x10, v3, f4, f5, f6, f8))
  else (z_let (x9 + 1) (fun y12 => z_b2 (p_X8_after K f_this_way f8 x10) (fun y13 f14 => kb_49 f14 y12 y13)))
def p_X8_played_l49 (v3 : Int32) (f4 : Nat → Int32) (f5 : Nat → Int32) (f6 : Nat → Int32) (f_this_way : Nat → Int32) (i1 : Int32) (K : Nat) (kb_49 : (Nat → Int32) → Int32 → Int32 → Option (Int32 × Int32 × (Nat → Int32) × (Nat → Int32) × (Nat → Int32) × (Nat → Int32))) (f8 : Nat → Int32) (x9 : Int32) (x10 : Int32) : Option (Int32 × Int32 × (Nat → Int32) × (Nat → Int32) × (Nat → Int32) × (Nat → Int32)) :=
  if v3 ≤ x10 then (some ((-1), v3, f4, f5, f6, f8))
  else (z_ald 40 f_this_way x10 (fun y11 => if y11 = 3 then (z_ald 40 f8 x10 (fun y15 => if y15 = 0 then ((p_X8_played_j82 x9 i1 x10 v3 f4 f5 f6 f8 K f_this_way kb_49))
  else (z_let (x10 + 1) (fun y16 => kb_49 f8 x9 y16))))
  else ((p_X8_played_j82 x9 i1 x10 v3 f4 f5 f6 f8 K f_this_way kb_49))))
def p_X8_played_j45 (v3 : Int32) (f4 : Nat → Int32) (f5 : Nat → Int32) (f6 : Nat → Int32) (f_this_way : Nat → Int32) (i1 : Int32) (K : Nat) (f7 : Nat → Int32) : Option (Int32 × Int32 × (Nat → Int32) × (Nat → Int32) × (Nat → Int32) × (Nat → Int32)) :=
  z_lp3 (p_X8_played_l49 v3 f4 f5 f6 f_this_way i1 K) K f7 0 0
def p_X8_played_l26 (kj_45 : (Nat → Int32) → Option (Int32 × Int32 × (Nat → Int32) × (Nat → Int32) × (Nat → Int32) × (Nat → Int32))) (kb_26 : (Nat → Int32) → Int32 → Option (Int32 × Int32 × (Nat → Int32) × (Nat → Int32) × (Nat → Int32) × (Nat → Int32))) (f17 : Nat → Int32) (x18 : Int32) : Option (Int32 × Int32 × (Nat → Int32) × (Nat → Int32) × (Nat → Int32) × (Nat → Int32)) :=
  if 40 ≤ x18 then (kj_45 f17)
  else (z_astZ 40 f17 x18 0 (fun f19 => z_let (x18 + 1) (fun y20 => kb_26 f19 y20)))
def p_X8_played (K : Nat) (v_this_signs : Int32) (v_this_dirt : Int32) (v_this_time : Int32) (v_this_notSign : Int32) (v_this_notKind : Int32) (v_this_measureMany : Int32) (f_this_area : Nat → Int32) (f_this_y0 : Nat → Int32) (f_this_y1 : Nat → Int32) (f_this_said : Nat → Int32) (f_this_low : Nat → Int32) (f_this_high : Nat → Int32) (f_this_least : Nat → Int32) (f_this_price : Nat → Int32) (f_this_way : Nat → Int32) (f_this_rest : Nat → Int32) (f_this_read : Nat → Int32) (f_this_measure : Nat → Int32) (f_this_wentBack : Nat → Int32) (i1 : Int32) : Option (Int32 × Int32 × (Nat → Int32) × (Nat → Int32) × (Nat → Int32) × (Nat → Int32)) :=
  z_b1 (p_X8_in i1 0 199) (fun y1 => if y1 = 0 then (some ((-2), v_this_measureMany, f_this_rest, f_this_read, f_this_measure, f_this_wentBack))
  else (z_b5 (p_X8_findMeasures K v_this_signs v_this_dirt v_this_time v_this_notSign v_this_notKind v_this_measureMany f_this_area f_this_y0 f_this_y1 f_this_said f_this_low f_this_high f_this_least f_this_price f_this_rest f_this_read f_this_measure) (fun y2 v3 f4 f5 f6 => if y2 = 0 then (some ((-3), v3, f4, f5, f6, f_this_wentBack))
  else (z_lp2 (p_X8_played_l26 (p_X8_played_j45 v3 f4 f5 f6 f_this_way i1 K)) K f_this_wentBack 0))))
def p_X8_count_l88 (v_this_lineMany : Int32) (f_this_lineFirst : Nat → Int32) (f_this_lineLast : Nat → Int32) (f_this_said : Nat → Int32) (kb_88 : Int32 → Int32 → Option (Int32 × Int32 × (Nat → Int32) × (Nat → Int32))) (x11 : Int32) (x12 : Int32) : Option (Int32 × Int32 × (Nat → Int32) × (Nat → Int32)) :=
  if 40 ≤ x12 then (some (x11, v_this_lineMany, f_this_lineFirst, f_this_lineLast))
  else (z_ald 40 f_this_said x12 (fun y13 => if y13 = (-1) then (z_let ((x11 + 0)) (fun y14 => z_let (x12 + 1) (fun y15 => kb_88 y14 y15)))
  else (z_let ((x11 + 1)) (fun y16 => z_let (x12 + 1) (fun y17 => kb_88 y16 y17)))))
def p_X8_count_l125 (v_this_lineMany : Int32) (f_this_lineFirst : Nat → Int32) (f_this_lineLast : Nat → Int32) (f_this_board : Nat → Int64) (K : Nat) (kb_125 : Int32 → Int32 → Option (Int32 × Int32 × (Nat → Int32) × (Nat → Int32))) (x18 : Int32) (x19 : Int32) : Option (Int32 × Int32 × (Nat → Int32) × (Nat → Int32)) :=
  if 32 ≤ x19 then (some (x18, v_this_lineMany, f_this_lineFirst, f_this_lineLast))
  else (z_ald 32 f_this_board x19 (fun y20 => z_b1 (p_X8_ones K y20) (fun y21 => z_let ((x18 + y21)) (fun y22 => z_let (x19 + 1) (fun y23 => kb_125 y22 y23)))))
def p_X8_count (K : Nat) (v_this_run : Int32) (v_this_signs : Int32) (v_this_lineMany : Int32) (f_this_board : Nat → Int64) (f_this_said : Nat → Int32) (f_this_lineFirst : Nat → Int32) (f_this_lineLast : Nat → Int32) (i1 : Int32) : Option (Int32 × Int32 × (Nat → Int32) × (Nat → Int32)) :=
  if i1 = 0 then (some (v_this_signs, v_this_lineMany, f_this_lineFirst, f_this_lineLast))
  else if i1 = 1 then (z_b4 (p_X8_findStaff K v_this_run v_this_lineMany f_this_board f_this_lineFirst f_this_lineLast) (fun y1 v2 f3 f4 => if y1 = (-1) then (some (0, v2, f3, f4))
  else (some (1, v2, f3, f4))))
  else if i1 = 2 then (z_b4 (p_X8_findStaff K v_this_run v_this_lineMany f_this_board f_this_lineFirst f_this_lineLast) (fun y5 v6 f7 f8 => if y5 = (-1) then (some ((-1), v6, f7, f8))
  else (z_ald 32 f7 (y5 + 1) (fun y9 => z_ald 32 f7 y5 (fun y10 => some ((y9 - y10), v6, f7, f8))))))
  else if i1 = 3 then (z_lp2 (p_X8_count_l88 v_this_lineMany f_this_lineFirst f_this_lineLast f_this_said) K 0 0)
  else if i1 = 4 then (z_lp2 (p_X8_count_l125 v_this_lineMany f_this_lineFirst f_this_lineLast f_this_board K) K 0 0)
  else (some ((-2), v_this_lineMany, f_this_lineFirst, f_this_lineLast))
def p_X8_init_j257 (K : Nat) (f_this_said : Nat → Int32) (f1 : Nat → Int32) (f2 : Nat → Int32) (f3 : Nat → Int32) (f4 : Nat → Int32) : Option ((Nat → Int32) × (Nat → Int32) × (Nat → Int32) × (Nat → Int32) × (Nat → Int32)) :=
  z_b1 (p_X8_forget K f_this_said) (fun f5 => some (f5, f1, f2, f3, f4))
def p_X8_init_l214 (kj_257 : (Nat → Int32) → (Nat → Int32) → (Nat → Int32) → (Nat → Int32) → Option ((Nat → Int32) × (Nat → Int32) × (Nat → Int32) × (Nat → Int32) × (Nat → Int32))) (kb_214 : (Nat → Int32) → (Nat → Int32) → (Nat → Int32) → (Nat → Int32) → Int32 → Option ((Nat → Int32) × (Nat → Int32) × (Nat → Int32) × (Nat → Int32) × (Nat → Int32))) (f6 : Nat → Int32) (f7 : Nat → Int32) (f8 : Nat → Int32) (f9 : Nat → Int32) (x10 : Int32) : Option ((Nat → Int32) × (Nat → Int32) × (Nat → Int32) × (Nat → Int32) × (Nat → Int32)) :=
  if 6 ≤ x10 then (kj_257 f6 f7 f8 f9)
  else (z_ast 6 f6 x10 1 (fun f11 => z_ast 6 f7 x10 2000 (fun f12 => z_ast 6 f8 x10 1 (fun f13 => z_ast 6 f9 x10 50 (fun f14 => z_let (x10 + 1) (fun y15 => kb_214 f11 f12 f13 f14 y15))))))
def p_X8_init (K : Nat) (f_this_said : Nat → Int32) (f_this_low : Nat → Int32) (f_this_high : Nat → Int32) (f_this_least : Nat → Int32) (f_this_price : Nat → Int32) : Option ((Nat → Int32) × (Nat → Int32) × (Nat → Int32) × (Nat → Int32) × (Nat → Int32)) :=
  z_lp5 (p_X8_init_l214 (p_X8_init_j257 K f_this_said)) K f_this_low f_this_high f_this_least f_this_price 0
