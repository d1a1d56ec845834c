/-! LINES out of which rows are rules: how many, their first and last rows, and whether the row behind stands in one -/
def nup (f : Nat → Nat) (k v : Nat) : Nat → Nat := fun j => if j = k then v else f j
def lnF (r : Nat → Bool) : Nat → Nat × (Nat → Nat) × (Nat → Nat) × Bool
  | 0 => (0, fun _ => 0, fun _ => 0, false)
  | y + 1 => if r y = true then (if (lnF r y).2.2.2 = true then ((lnF r y).1, (lnF r y).2.1, nup (lnF r y).2.2.1 ((lnF r y).1 - 1) y, true) else ((lnF r y).1 + 1, nup (lnF r y).2.1 (lnF r y).1 y, nup (lnF r y).2.2.1 (lnF r y).1 y, true)) else ((lnF r y).1, (lnF r y).2.1, (lnF r y).2.2.1, false)
def lnM (r : Nat → Bool) (y : Nat) : Nat := (lnF r y).1
def lnA (r : Nat → Bool) (y k : Nat) : Nat := (lnF r y).2.1 k
def lnZ (r : Nat → Bool) (y k : Nat) : Nat := (lnF r y).2.2.1 k
def lnI (r : Nat → Bool) (y : Nat) : Bool := (lnF r y).2.2.2
theorem ln_0 (r : Nat → Bool) : lnM r 0 = 0 ∧ lnI r 0 = false := ⟨rfl, rfl⟩
theorem ln_no {r : Nat → Bool} {y : Nat} (h : r y = false) : lnM r (y + 1) = lnM r y ∧ (∀ k, lnA r (y + 1) k = lnA r y k) ∧ (∀ k, lnZ r (y + 1) k = lnZ r y k) ∧ lnI r (y + 1) = false := by
  unfold lnM lnA lnZ lnI
  simp [lnF, h]
theorem ln_in {r : Nat → Bool} {y : Nat} (h : r y = true) (hi : lnI r y = true) : lnM r (y + 1) = lnM r y ∧ (∀ k, lnA r (y + 1) k = lnA r y k) ∧ (∀ k, lnZ r (y + 1) k = if k = lnM r y - 1 then y else lnZ r y k) ∧ lnI r (y + 1) = true := by
  unfold lnI at hi
  unfold lnM lnA lnZ lnI
  simp [lnF, h, hi, nup]
theorem ln_new {r : Nat → Bool} {y : Nat} (h : r y = true) (hi : lnI r y = false) : lnM r (y + 1) = lnM r y + 1 ∧ (∀ k, lnA r (y + 1) k = if k = lnM r y then y else lnA r y k) ∧ (∀ k, lnZ r (y + 1) k = if k = lnM r y then y else lnZ r y k) ∧ lnI r (y + 1) = true := by
  unfold lnI at hi
  unfold lnM lnA lnZ lnI
  simp [lnF, h, hi, nup]
/-- what holds of them -/
def lnOk (r : Nat → Bool) (y : Nat) : Prop := lnM r y ≤ y ∧ (∀ k, k < lnM r y → lnA r y k ≤ lnZ r y k ∧ lnZ r y k < y) ∧ (∀ k, k + 1 < lnM r y → lnZ r y k + 1 < lnA r y (k + 1)) ∧ (lnI r y = true → 0 < lnM r y ∧ lnZ r y (lnM r y - 1) + 1 = y) ∧ (lnI r y = false → 0 < lnM r y → lnZ r y (lnM r y - 1) + 1 < y)
theorem ln_ok (r : Nat → Bool) : ∀ y, lnOk r y
  | 0 => ⟨by rw [(ln_0 r).1]; omega, fun k hk => by rw [(ln_0 r).1] at hk; omega, fun k hk => by rw [(ln_0 r).1] at hk; omega, fun h => (by rw [(ln_0 r).2] at h; cases h), fun _ h => by rw [(ln_0 r).1] at h; omega⟩
  | y + 1 => by
    obtain ⟨h1, h2, h3, h4, h5⟩ := ln_ok r y
    by_cases hr : r y = true
    · cases hi : lnI r y with
      | true =>
        obtain ⟨e1, e2, e3, e4⟩ := ln_in hr hi
        obtain ⟨h6, h7⟩ := h4 hi
        refine ⟨by omega, fun k hk => ?_, fun k hk => ?_, fun _ => ⟨by omega, ?_⟩, fun h => (by rw [e4] at h; cases h)⟩
        · rw [e2, e3]
          have := h2 k (by omega)
          split <;> omega
        · rw [e2, e3, if_neg (by omega)]
          exact h3 k (by omega)
        · rw [e1, e3, if_pos rfl]
      | false =>
        obtain ⟨e1, e2, e3, e4⟩ := ln_new hr hi
        refine ⟨by omega, fun k hk => ?_, fun k hk => ?_, fun _ => ⟨by omega, ?_⟩, fun h => (by rw [e4] at h; cases h)⟩
        · rw [e2, e3]
          by_cases hk2 : k = lnM r y
          · rw [if_pos hk2, if_pos hk2]; omega
          · rw [if_neg hk2, if_neg hk2]
            have := h2 k (by omega)
            omega
        · rw [e2, e3, if_neg (by omega)]
          by_cases hk2 : k + 1 = lnM r y
          · rw [if_pos hk2]
            have := h5 hi (by omega)
            rw [show lnM r y - 1 = k by omega] at this
            exact this
          · rw [if_neg hk2]
            exact h3 k (by omega)
        · rw [e1, e3, if_pos (by omega)]
    · have hr' : r y = false := by simpa using hr
      obtain ⟨e1, e2, e3, e4⟩ := ln_no hr'
      refine ⟨by omega, fun k hk => ?_, fun k hk => ?_, fun h => by rw [e4] at h; (cases h), fun _ h => ?_⟩
      · rw [e2, e3]
        have := h2 k (by omega)
        omega
      · rw [e2, e3]; exact h3 k (by omega)
      · rw [e1, e3]
        cases hi : lnI r y with
        | true => have := (h4 hi).2; omega
        | false => have := h5 hi (by omega); omega
/-- the cells hold them -/
def lnS (r : Nat → Bool) (y : Nat) (n : Int32) (F L : Nat → Int32) : Prop := n.toInt = lnM r y ∧ ∀ k, k < lnM r y → (F k).toInt = lnA r y k ∧ (L k).toInt = lnZ r y k
/-- every cell of a row of 32 lies in the board -/
def in32 (F : Nat → Int32) : Prop := ∀ k : Nat, k < 32 → 0 ≤ (F k).toInt ∧ (F k).toInt < 32
theorem i_of32 {a b : Int32} (h : a.toInt = b.toInt) : a = b := Int32.toInt_inj.mp h
theorem bit01 {x : Int32} (h : x = 0 ∨ x = 1) : ¬ x = 0 ↔ x = 1 := by
  rcases h with rfl | rfl
  · exact ⟨fun h => absurd rfl h, fun h => absurd h (by decide)⟩
  · exact ⟨fun _ => rfl, fun _ => by decide⟩
theorem k_hasRun {K : Nat} {d : Int64} {v : Int32} (hv : v.toInt ≤ 60) (hK : 100 < K) : Ok (p_X1_hasRun K d v) (fun r => r = 0 ∨ r = 1) := by
  have hj : ∀ x, Ok (p_X1_hasRun_j29 x) (fun r => r = 0 ∨ r = 1) := fun x => by
    unfold p_X1_hasRun_j29
    exact Ok_ite.mpr ⟨fun _ => Ok_some.mpr (Or.inl rfl), fun _ => Ok_some.mpr (Or.inr rfl)⟩
  unfold p_X1_hasRun
  refine Ok_lp2 (fun _ x => 1 ≤ x.toInt ∧ x.toInt ≤ 61) (fun _ x => 61 - x.toInt.toNat) ?_ K d 1 ⟨by decide, by decide⟩ (by omega)
  intro rec g x ⟨h1, h2⟩ ih
  unfold p_X1_hasRun_l5
  refine Ok_ite.mpr ⟨fun c => hj _, fun c => ?_⟩
  have c' : x.toInt < v.toInt := by have := mt i_le.mpr c; omega
  refine Ok_ite.mpr ⟨fun _ => hj _, fun _ => ?_⟩
  have e1 := i_inc c' (by omega)
  exact Ok_let.mpr (Ok_let.mpr (ih _ _ ⟨by omega, by omega⟩ (by omega)))
/-- which rows are rules, as the class works it out -/
def ruC (K : Nat) (rows : Nat → Int64) (v : Int32) (y : Nat) : Bool := decide (p_X1_hasRun K (rows y) v = some 1)
theorem q_hasRun {K : Nat} {rows : Nat → Int64} {v : Int32} (hv : v.toInt ≤ 60) (hK : 100 < K) (y : Nat) : p_X1_hasRun K (rows y) v = some (if ruC K rows v y = true then 1 else 0) := by
  obtain ⟨o, h1, h2⟩ := k_hasRun (d := rows y) hv hK
  unfold ruC
  rw [h1]
  rcases h2 with rfl | rfl <;> rfl
theorem rg_in {n : Nat} {f : Nat → Int32} {i : Int32} {k : Nat} (h : i.toInt = k) (hk : k < n) : rg n f i = f k := by
  unfold rg
  rw [if_pos (by omega), h]
  rfl
theorem rp_in {n : Nat} {f : Nat → Int32} {i x : Int32} {k : Nat} (h : i.toInt = k) (hk : k < n) : rp n f i x = upd f k x := by
  unfold rp
  rw [if_pos (by omega), h]
  rfl
theorem upd_at {f : Nat → Int32} {k j : Nat} {x : Int32} : upd f k x j = if j = k then x else f j := rfl
theorem in32_upd {F : Nat → Int32} {k : Nat} {x : Int32} (h : in32 F) (h1 : 0 ≤ x.toInt) (h2 : x.toInt < 32) : in32 (upd F k x) := fun j hj => by
  rw [upd_at]
  split
  · exact ⟨h1, h2⟩
  · exact h j hj
theorem k_lookLines {K : Nat} {rows : Nat → Int64} {v : Int32} {A Z : Nat → Int32} {P : Int32 × Int32 × (Nat → Int32) × (Nat → Int32) → Prop} (hv : v.toInt ≤ 60) (hK : 100 < K) (hA : in32 A) (hZ : in32 Z)
    (hj : ∀ n F L, lnS (ruC K rows v) 32 n F L → in32 F → in32 L → Ok (p_X1_look_j90 K n F L) P) (n0 s0 : Int32) : Ok (p_X1_look K n0 s0 A Z rows v) P := by
  unfold p_X1_look
  refine Ok_lp5 (fun n F L b y => 0 ≤ y.toInt ∧ y.toInt ≤ 32 ∧ lnS (ruC K rows v) y.toInt.toNat n F L ∧ in32 F ∧ in32 L ∧ b = if lnI (ruC K rows v) y.toInt.toNat = true then 1 else 0) (fun _ _ _ _ y => 32 - y.toInt.toNat) ?_ K 0 A Z 0 0 ⟨by decide, by decide, ⟨rfl, fun k hk => absurd hk (Nat.not_lt_zero _)⟩, hA, hZ, rfl⟩ (by rw [i_lit0]; omega)
  intro rec n F L b y ⟨h1, h2, ⟨h3, h4⟩, h5, h6, h7⟩ ih
  unfold p_X1_look_l10
  refine Ok_ite.mpr ⟨fun c => ?_, fun c => ?_⟩
  · have := i_le.mp c
    rw [i_lit32] at this
    rw [show y.toInt.toNat = 32 by omega] at h3 h4
    exact hj _ _ _ ⟨h3, h4⟩ h5 h6
  have c' : y.toInt < 32 := by have := mt i_le.mpr c; rw [i_lit32] at this; omega
  have e1 := i_inc c' (by omega)
  have e2 : (y + 1).toInt.toNat = y.toInt.toNat + 1 := by omega
  have hsg : sg rows y = rows y.toInt.toNat := by unfold sg; rw [if_pos ⟨h1, c'⟩]
  rw [q_at, z_b1_i, hsg, q_hasRun hv hK, z_b1_i]
  obtain ⟨o1, o2, o3, o4, o5⟩ := ln_ok (ruC K rows v) y.toInt.toNat
  cases hr : ruC K rows v y.toInt.toNat with
  | false =>
    obtain ⟨f1, f2, f3, f4⟩ := ln_no hr
    rw [show (if false = true then (1 : Int32) else 0) = 0 from rfl]
    refine Ok_ite.mpr ⟨fun _ => ?_, fun c => absurd rfl c⟩
    unfold p_X1_look_j61
    refine Ok_ite.mpr ⟨fun _ => Ok_let.mpr (ih _ _ _ _ _ ⟨by omega, by omega, ?_, h5, h6, ?_⟩ (by omega)), fun c => absurd rfl c⟩
    · rw [e2]
      exact ⟨by rw [f1]; exact h3, fun k hk => by rw [f2, f3]; exact h4 k (by omega)⟩
    · rw [e2, f4]; rfl
  | true =>
    rw [show (if true = true then (1 : Int32) else 0) = 1 from rfl]
    refine Ok_ite.mpr ⟨fun c => absurd c (by decide), fun _ => ?_⟩
    cases hi : lnI (ruC K rows v) y.toInt.toNat with
    | false =>
      obtain ⟨f1, f2, f3, f4⟩ := ln_new hr hi
      rw [hi] at h7
      refine Ok_ite.mpr ⟨fun _ => ?_, fun c => absurd h7 c⟩
      rw [q_put (by decide), z_b1_i, rp_in h3 (by omega)]
      refine Ok_let.mpr ?_
      have e3 := i_inc (x := n) (N := 32) (by omega) (by omega)
      unfold p_X1_look_j61
      refine Ok_ite.mpr ⟨fun c => absurd c (by decide), fun _ => ?_⟩
      have e4 : (n + 1 - 1).toInt = lnM (ruC K rows v) y.toInt.toNat := by rw [i_subk 1 rfl (by omega) (by omega)]; omega
      rw [q_put (by decide), z_b1_i, rp_in e4 (by omega)]
      refine Ok_let.mpr (ih _ _ _ _ _ ⟨by omega, by omega, ?_, in32_upd h5 h1 c', in32_upd h6 h1 c', ?_⟩ (by omega))
      · rw [e2]
        refine ⟨by rw [f1]; omega, fun k hk => ?_⟩
        rw [f2, f3, upd_at, upd_at]
        by_cases hk2 : k = lnM (ruC K rows v) y.toInt.toNat
        · rw [if_pos hk2, if_pos hk2, if_pos hk2, if_pos hk2]; omega
        · rw [if_neg hk2, if_neg hk2, if_neg hk2, if_neg hk2]; exact h4 k (by omega)
      · rw [e2, f4]; rfl
    | true =>
      obtain ⟨f1, f2, f3, f4⟩ := ln_in hr hi
      obtain ⟨o6, o7⟩ := o4 hi
      rw [hi, if_pos rfl] at h7
      refine Ok_ite.mpr ⟨fun c => by rw [h7] at c; exact absurd c (by decide), fun _ => ?_⟩
      unfold p_X1_look_j61
      refine Ok_ite.mpr ⟨fun c => absurd c (by decide), fun _ => ?_⟩
      have e4 : (n - 1).toInt = ((lnM (ruC K rows v) y.toInt.toNat - 1 : Nat) : Int) := by rw [i_subk 1 rfl (by omega) (by omega)]; omega
      rw [q_put (by decide), z_b1_i, rp_in e4 (by omega)]
      refine Ok_let.mpr (ih _ _ _ _ _ ⟨by omega, by omega, ?_, h5, in32_upd h6 h1 c', ?_⟩ (by omega))
      · rw [e2]
        refine ⟨by rw [f1]; omega, fun k hk => ?_⟩
        rw [f2, f3, upd_at]
        by_cases hk2 : k = lnM (ruC K rows v) y.toInt.toNat - 1
        · rw [if_pos hk2, if_pos hk2]; exact ⟨(h4 k (by omega)).1, by omega⟩
        · rw [if_neg hk2, if_neg hk2]; exact h4 k (by omega)
      · rw [e2, f4]; rfl
