theorem k_fill {K n : Nat} {f : Nat → Int32} {v : Int32} (hn : n < 2 ^ 31) (hK : n < K) : Ok (p_X3_fill K n f v) (fun g => ∀ j : Nat, j < n → g j = v) := by
  have e := i_nI hn
  unfold p_X3_fill
  refine Ok_lp2 (fun g x => 0 ≤ x.toInt ∧ x.toInt ≤ (n : Int) ∧ ∀ j : Nat, (j : Int) < x.toInt → g j = v) (fun _ x => n - x.toInt.toNat) ?_ K f 0 ⟨by rw [i_lit0]; omega, by rw [i_lit0]; omega, fun j hj => by rw [i_lit0] at hj; omega⟩ (by rw [i_lit0]; omega)
  intro rec g x ⟨h1, h2, h3⟩ ih
  unfold p_X3_fill_l2
  refine Ok_ite.mpr ⟨fun c => Ok_some.mpr (fun j hj => h3 j (by have := i_le.mp c; omega)), fun c => ?_⟩
  have c' : x.toInt < (n : Int) := by have := mt i_le.mpr c; omega
  refine Ok_ast (i_in h1 c') (Ok_let.mpr ?_)
  have e1 := i_inc c' (by omega)
  refine ih _ _ ⟨by omega, by omega, fun j hj => ?_⟩ (by omega)
  show upd g x.toInt.toNat v j = v
  unfold upd
  split
  · rfl
  · exact h3 j (by omega)
theorem k_copy {K n m : Nat} {f g : Nat → Int32} (hn : n < 2 ^ 31) (hm : m < 2 ^ 31) (hK : n < K) : Ok (p_X3_copy K n m f g) (fun r => ∀ j : Nat, j < n → r j = if j < m then g j else 0) := by
  have e := i_nI hn
  unfold p_X3_copy
  refine Ok_lp2 (fun r x => 0 ≤ x.toInt ∧ x.toInt ≤ (n : Int) ∧ ∀ j : Nat, (j : Int) < x.toInt → r j = if j < m then g j else 0) (fun _ x => n - x.toInt.toNat) ?_ K f 0 ⟨by rw [i_lit0]; omega, by rw [i_lit0]; omega, fun j hj => by rw [i_lit0] at hj; omega⟩ (by rw [i_lit0]; omega)
  intro rec r x ⟨h1, h2, h3⟩ ih
  unfold p_X3_copy_l2
  refine Ok_ite.mpr ⟨fun c => Ok_some.mpr (fun j hj => h3 j (by have := i_le.mp c; omega)), fun c => ?_⟩
  have c' : x.toInt < (n : Int) := by have := mt i_le.mpr c; omega
  rw [q_get hm, z_b1_i]
  refine Ok_ast (i_in h1 c') (Ok_let.mpr ?_)
  have e1 := i_inc c' (by omega)
  refine ih _ _ ⟨by omega, by omega, fun j hj => ?_⟩ (by omega)
  show upd r x.toInt.toNat (rg m g x) j = _
  unfold upd
  split
  · next hj2 =>
    unfold rg
    subst hj2
    by_cases hm2 : x.toInt < m
    · rw [if_pos ⟨h1, hm2⟩, if_pos (by omega)]
    · rw [if_neg (fun z => hm2 z.2), if_neg (by omega)]
  · exact h3 j (by omega)
theorem k_scopy {K : Nat} {f g : Nat → Int64} (hK : 32 < K) : Ok (p_X4_copy K f g) (fun r => ∀ j : Nat, j < 32 → r j = g j) := by
  unfold p_X4_copy
  refine Ok_lp2 (fun r x => 0 ≤ x.toInt ∧ x.toInt ≤ 32 ∧ ∀ j : Nat, (j : Int) < x.toInt → r j = g j) (fun _ x => 32 - x.toInt.toNat) ?_ K f 0 ⟨by rw [i_lit0]; omega, by rw [i_lit0]; omega, fun j hj => by rw [i_lit0] at hj; omega⟩ (by rw [i_lit0]; omega)
  intro rec r x ⟨h1, h2, h3⟩ ih
  unfold p_X4_copy_l2
  refine Ok_ite.mpr ⟨fun c => Ok_some.mpr (fun j hj => h3 j (by have := i_le.mp c; rw [i_lit32] at this; omega)), fun c => ?_⟩
  have c' : x.toInt < 32 := by have := mt i_le.mpr c; rw [i_lit32] at this; omega
  rw [q_at, z_b1_i]
  refine Ok_astL (i_in h1 c') (Ok_let.mpr ?_)
  have e1 := i_inc c' (by omega)
  refine ih _ _ ⟨by omega, by omega, fun j hj => ?_⟩ (by omega)
  show vp_updL r x.toInt.toNat (sg g x) j = _
  unfold vp_updL
  split
  · next hj2 =>
    unfold sg
    subst hj2
    rw [if_pos ⟨h1, c'⟩]
  · exact h3 j (by omega)
def bc (x : Int64) : Int32 := (p_J13_bitCount_95d88 x).getD 0
theorem q_bc {x : Int64} : p_J13_bitCount_95d88 x = some (bc x) := rfl
/-- what paint makes of a row -/
def pnt (b : Int32) (d was : Int64) : Int64 := if b = 0 then was &&& (d ^^^ (-1)) else was ||| d
theorem k_paint {K : Nat} {f : Nat → Int64} {y h : Int32} {d : Int64} {b : Int32} (hy0 : 0 ≤ y.toInt) (hh : 0 ≤ h.toInt) (hyh : y.toInt + h.toInt ≤ 32) (hK : 32 < K) :
    Ok (p_X4_paint K f y h d b) (fun r => (∀ j : Nat, j < 32 → r.2 j = if y.toInt ≤ j ∧ j < y.toInt + h.toInt then pnt b d (f j) else f j) ∧ r.1 = (List.range h.toInt.toNat).foldl (fun s k => s + bc (f (y.toInt.toNat + k) ^^^ pnt b d (f (y.toInt.toNat + k)))) 0) := by
  unfold p_X4_paint
  refine Ok_lp3 (fun g s x => 0 ≤ x.toInt ∧ x.toInt ≤ h.toInt ∧ (∀ j : Nat, j < 32 → g j = if y.toInt ≤ j ∧ j < y.toInt + x.toInt then pnt b d (f j) else f j) ∧ s = (List.range x.toInt.toNat).foldl (fun s k => s + bc (f (y.toInt.toNat + k) ^^^ pnt b d (f (y.toInt.toNat + k)))) 0) (fun _ _ x => h.toInt.toNat - x.toInt.toNat) ?_ K f 0 0 ⟨by rw [i_lit0]; omega, by rw [i_lit0]; omega, fun j hj => by rw [i_lit0, if_neg (by omega)], by rw [i_lit0]; rfl⟩ (by rw [i_lit0]; omega)
  intro rec g s x ⟨h1, h2, h3, h4⟩ ih
  unfold p_X4_paint_l6
  refine Ok_ite.mpr ⟨fun c => Ok_some.mpr ?_, fun c => ?_⟩
  · have := i_le.mp c
    have e : x.toInt = h.toInt := by omega
    rw [e] at h3 h4
    exact ⟨h3, h4⟩
  have c' : x.toInt < h.toInt := by have := mt i_le.mpr c; omega
  have e1 := i_inc c' (by omega)
  have e2 : (y + x).toInt = y.toInt + x.toInt := i_add (by omega) (by omega)
  have e3 : sg g (y + x) = f (y.toInt.toNat + x.toInt.toNat) := by
    unfold sg
    rw [e2, if_pos (by omega), show (y.toInt + x.toInt).toNat = y.toInt.toNat + x.toInt.toNat by omega, h3 _ (by omega), if_neg (by omega)]
  rw [q_at, z_b1_i, e3]
  have key : ∀ z : Int64, z = pnt b d (f (y.toInt.toNat + x.toInt.toNat)) → Ok (p_X4_paint_j42 (f (y.toInt.toNat + x.toInt.toNat)) s g y x rec z) (fun r => (∀ j : Nat, j < 32 → r.2 j = if y.toInt ≤ j ∧ j < y.toInt + h.toInt then pnt b d (f j) else f j) ∧ r.1 = (List.range h.toInt.toNat).foldl (fun s k => s + bc (f (y.toInt.toNat + k) ^^^ pnt b d (f (y.toInt.toNat + k)))) 0) := by
    intro z hz
    unfold p_X4_paint_j42
    rw [q_bc, z_b1_i]
    refine Ok_let.mpr ?_
    rw [q_sput, z_b1_i]
    refine Ok_let.mpr (ih _ _ _ ⟨by omega, by omega, fun j hj => ?_, ?_⟩ (by omega))
    · unfold sp
      rw [e2, if_pos (by omega)]
      unfold vp_updL
      rw [show (y.toInt + x.toInt).toNat = y.toInt.toNat + x.toInt.toNat by omega]
      by_cases hj2 : j = y.toInt.toNat + x.toInt.toNat
      · rw [if_pos hj2, if_pos (by omega), hz, hj2]
      · rw [if_neg hj2, h3 j hj]
        by_cases hj3 : y.toInt ≤ j ∧ j < y.toInt + x.toInt
        · rw [if_pos hj3, if_pos (by omega)]
        · rw [if_neg hj3, if_neg (by omega)]
    · rw [e1, show (x.toInt + 1).toNat = x.toInt.toNat + 1 by omega, List.range_succ, List.foldl_append, h4, hz]
      rfl
  refine Ok_ite.mpr ⟨fun c2 => key _ ?_, fun c2 => key _ ?_⟩
  · unfold pnt; rw [if_pos c2]
  · unfold pnt; rw [if_neg c2]
theorem k_blackDots {K : Nat} {f : Nat → Int64} (hK : 32 < K) : Ok (p_X4_blackDots K f) (fun r => r = (List.range 32).foldl (fun s k => s + bc (f k)) 0) := by
  unfold p_X4_blackDots
  refine Ok_lp2 (fun s x => 0 ≤ x.toInt ∧ x.toInt ≤ 32 ∧ s = (List.range x.toInt.toNat).foldl (fun s k => s + bc (f k)) 0) (fun _ x => 32 - x.toInt.toNat) ?_ K 0 0 ⟨by rw [i_lit0]; omega, by rw [i_lit0]; omega, by rw [i_lit0]; rfl⟩ (by rw [i_lit0]; omega)
  intro rec s x ⟨h1, h2, h3⟩ ih
  unfold p_X4_blackDots_l4
  refine Ok_ite.mpr ⟨fun c => Ok_some.mpr ?_, fun c => ?_⟩
  · have := i_le.mp c
    rw [i_lit32] at this
    rw [show x.toInt.toNat = 32 by omega] at h3
    exact h3
  have c' : x.toInt < 32 := by have := mt i_le.mpr c; rw [i_lit32] at this; omega
  have e1 := i_inc c' (by omega)
  refine Ok_ald (i_in h1 c') ?_
  rw [q_bc, z_b1_i]
  refine Ok_let.mpr (Ok_let.mpr (ih _ _ ⟨by omega, by omega, ?_⟩ (by omega)))
  rw [e1, show (x.toInt + 1).toNat = x.toInt.toNat + 1 by omega, List.range_succ, List.foldl_append, h3]
  rfl
