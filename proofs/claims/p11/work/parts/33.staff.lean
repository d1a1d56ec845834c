/-! THE STAFF: the first five lines whose gaps are alike -/
def gp (f : Nat → Nat) (k : Nat) : Nat := f (k + 1) - f k
def mnU (a : Nat) (f : Nat → Nat) (i : Nat) : Nat → Nat
  | 0 => a
  | j + 1 => min (mnU a f i j) (gp f (i + j))
def mxU (f : Nat → Nat) (i : Nat) : Nat → Nat
  | 0 => 0
  | j + 1 => max (mxU f i j) (gp f (i + j))
def evn (f : Nat → Nat) (i : Nat) : Bool := decide (mxU f i 4 ≤ mnU 32 f i 4 + 1)
def stS (f : Nat → Nat) : Nat → Nat → Option Nat
  | 0, _ => none
  | n + 1, i => if evn f i = true then some i else stS f n (i + 1)
def stf (m : Nat) (f : Nat → Nat) : Option Nat := stS f (m - 4) 0
def stv (o : Option Nat) : Int := match o with
  | none => -1
  | some i => i
theorem mn_32 {f : Nat → Nat} {i : Nat} (h : ∀ j, j < 4 → gp f (i + j) ≤ 32) : mnU 100 f i 4 = mnU 32 f i 4 := by
  have h0 := h 0 (by omega)
  have h1 := h 1 (by omega)
  have h2 := h 2 (by omega)
  have h3 := h 3 (by omega)
  simp only [mnU]
  omega
theorem st_some {f : Nat → Nat} : ∀ {n i k : Nat}, stS f n i = some k → i ≤ k ∧ k < i + n ∧ evn f k = true
  | 0, i, k, h => by cases h
  | n + 1, i, k, h => by
    unfold stS at h
    split at h
    · next he => cases h; exact ⟨by omega, by omega, he⟩
    · obtain ⟨h1, h2, h3⟩ := st_some h
      exact ⟨by omega, by omega, h3⟩
theorem stf_some {m k : Nat} {f : Nat → Nat} (h : stf m f = some k) : k + 5 ≤ m ∧ evn f k = true := by
  obtain ⟨h1, h2, h3⟩ := st_some h
  exact ⟨by omega, h3⟩
/-- rising lines in the board -/
def risU (m : Nat) (f : Nat → Nat) : Prop := (∀ k, k < m → f k < 32) ∧ ∀ k, k + 1 < m → f k < f (k + 1)
theorem gp_le {m : Nat} {f : Nat → Nat} (h : risU m f) {k : Nat} (hk : k + 1 < m) : 1 ≤ gp f k ∧ gp f k ≤ 31 ∧ f (k + 1) = f k + gp f k := by
  have h1 := h.2 k hk
  have h2 := h.1 (k + 1) hk
  unfold gp
  omega
theorem ln_ris (r : Nat → Bool) {y : Nat} (hy : y ≤ 32) : risU (lnM r y) (lnA r y) := by
  obtain ⟨h1, h2, h3, h4, h5⟩ := ln_ok r y
  refine ⟨fun k hk => ?_, fun k hk => ?_⟩
  · have := h2 k hk; omega
  · have := h2 k (by omega)
    have := h3 k hk
    omega
theorem k_gapBehind {F : Nat → Int32} {m : Nat} {f : Nat → Nat} {i : Int32} {k : Nat} (hF : ∀ k, k < m → (F k).toInt = f k) (h : risU m f) (hm : m ≤ 32) (hi : i.toInt = k) (hk : k + 1 < m) : ∃ g : Int32, p_X1_gapBehind F i = some g ∧ g.toInt = gp f k := by
  have e1 : (i + 1).toInt = ((k + 1 : Nat) : Int) := by rw [i_inc (N := 32) (by omega) (by omega)]; omega
  unfold p_X1_gapBehind
  rw [q_get (by decide), z_b1_i, q_get (by decide), z_b1_i, rg_in e1 (by omega), rg_in hi (by omega)]
  refine ⟨_, rfl, ?_⟩
  obtain ⟨h1, h2, h3⟩ := gp_le h hk
  have h4 := h.1 (k + 1) hk
  rw [i_sub (by rw [hF _ hk, hF _ (by omega)]; omega) (by rw [hF _ hk, hF _ (by omega)]; omega), hF _ hk, hF _ (by omega)]
  omega
theorem k_isEven {K : Nat} {F : Nat → Int32} {m : Nat} {f : Nat → Nat} {i : Int32} {k : Nat} (hK : 100 < K) (hF : ∀ k, k < m → (F k).toInt = f k) (h : risU m f) (hm : m ≤ 32) (hi : i.toInt = k) (hk : k + 5 ≤ m) : p_X1_isEven K F i = some (if evn f k = true then 1 else 0) := by
  have e5 : (i + 5 - 1).toInt = k + 4 := by
    rw [i_subk 1 rfl (by rw [i_addk 5 rfl (by omega) (by omega)]; omega) (by rw [i_addk 5 rfl (by omega) (by omega)]; omega), i_addk 5 rfl (by omega) (by omega)]
    omega
  have key : Ok (p_X1_isEven K F i) (fun r => r = if evn f k = true then 1 else 0) := by
    unfold p_X1_isEven
    refine Ok_lp3 (fun (a b x : Int32) => ∃ j : Nat, j ≤ 4 ∧ x.toInt = k + j ∧ a.toInt = mnU 32 f k j ∧ b.toInt = mxU f k j ∧ mnU 32 f k j ≤ 32 ∧ mxU f k j ≤ 31) (fun _ _ x => k + 4 - x.toInt.toNat) ?_ K 32 0 i ⟨0, by omega, by omega, rfl, rfl, Nat.le_refl 32, Nat.zero_le _⟩ (by omega)
    intro rec a b x ⟨j, h1, h2, h3, h4, h5, h6⟩ ih
    unfold p_X1_isEven_l8
    refine Ok_ite.mpr ⟨fun c => ?_, fun c => ?_⟩
    · have := i_le.mp c
      have hj : j = 4 := by omega
      subst hj
      have e6 : (b - a).toInt = b.toInt - a.toInt := i_sub (by omega) (by omega)
      unfold p_X1_isEven_j46 evn
      refine Ok_ite.mpr ⟨fun c2 => Ok_some.mpr ?_, fun c2 => Ok_some.mpr ?_⟩
      · have := i_lt.mp c2
        rw [i_lit1, e6] at this
        rw [if_neg (by rw [decide_eq_true_eq]; omega)]
      · have c3 : ¬ (1 : Int32).toInt < (b - a).toInt := fun z => c2 (i_lt.mpr z)
        rw [i_lit1, e6] at c3
        rw [if_pos (by rw [decide_eq_true_eq]; omega)]
    · have c3 : ¬ (i + 5 - 1).toInt ≤ x.toInt := fun z => c (i_le.mpr z)
      obtain ⟨g, g1, g2⟩ := k_gapBehind hF h hm (i := x) (k := k + j) (by omega) (by omega)
      obtain ⟨h7, h8, h9⟩ := gp_le h (k := k + j) (by omega)
      rw [g1, z_b1_i, q_min, z_b1_i, z_b1_i, q_max, z_b1_i]
      have e1 := i_inc (x := x) (N := 40) (by omega) (by omega)
      refine Ok_let.mpr (ih _ _ _ ⟨j + 1, by omega, by omega, ?_, ?_, ?_, ?_⟩ (by omega))
      · show _ = ((min (mnU 32 f k j) (gp f (k + j)) : Nat) : Int)
        by_cases hc : g < a
        · have := i_lt.mp hc
          rw [if_pos hc]; omega
        · have hc' : ¬ g.toInt < a.toInt := fun z => hc (i_lt.mpr z)
          rw [if_neg hc]; omega
      · show _ = ((max (mxU f k j) (gp f (k + j)) : Nat) : Int)
        by_cases hc : b < g
        · have := i_lt.mp hc
          rw [if_pos hc]; omega
        · have hc' : ¬ b.toInt < g.toInt := fun z => hc (i_lt.mpr z)
          rw [if_neg hc]; omega
      · show min (mnU 32 f k j) (gp f (k + j)) ≤ 32
        omega
      · show max (mxU f k j) (gp f (k + j)) ≤ 31
        omega
  obtain ⟨o, h1, h2⟩ := key
  rw [h1, h2]
theorem k_firstStaff {K : Nat} {F : Nat → Int32} {n : Int32} {m : Nat} {f : Nat → Nat} (hK : 100 < K) (hF : ∀ k, k < m → (F k).toInt = f k) (h : risU m f) (hm : m ≤ 32) (hn : n.toInt = m) : Ok (p_X1_firstStaff K n F) (fun r => r.toInt = stv (stf m f)) := by
  unfold p_X1_firstStaff
  refine Ok_lp1 (fun (x : Int32) => ∃ j : Nat, x.toInt = j ∧ j ≤ 32 ∧ stf m f = stS f (m - 4 - j) j) (fun x => 32 - x.toInt.toNat) ?_ K 0 ⟨0, rfl, by omega, rfl⟩ (by rw [i_lit0]; omega)
  intro rec x ⟨j, h1, h2, h3⟩ ih
  have e1 : (x + 5).toInt = j + 5 := by rw [i_addk 5 rfl (by omega) (by omega)]; omega
  unfold p_X1_firstStaff_l2
  refine Ok_ite.mpr ⟨fun c => Ok_some.mpr ?_, fun c => ?_⟩
  · have := i_lt.mp c
    rw [h3, show m - 4 - j = 0 by omega]
    exact i_litm1
  · have c' : ¬ n.toInt < (x + 5).toInt := fun z => c (i_lt.mpr z)
    rw [k_isEven hK hF h hm h1 (by omega), z_b1_i]
    have e2 : m - 4 - j = (m - 4 - (j + 1)) + 1 := by omega
    rw [e2] at h3
    unfold stS at h3
    cases he : evn f j with
    | true =>
      rw [if_pos he] at h3
      rw [show (if true = true then (1 : Int32) else 0) = 1 from rfl]
      refine Ok_ite.mpr ⟨fun c => absurd c (by decide), fun _ => Ok_some.mpr ?_⟩
      rw [h3]
      exact h1
    | false =>
      rw [if_neg (by rw [he]; decide)] at h3
      rw [show (if false = true then (1 : Int32) else 0) = 0 from rfl]
      refine Ok_ite.mpr ⟨fun _ => Ok_let.mpr ?_, fun c => absurd rfl c⟩
      have e3 := i_inc (x := x) (N := 40) (by omega) (by omega)
      exact ih _ ⟨j + 1, by omega, by omega, h3⟩ (by omega)
/-- what look leaves in the class -/
def lookC (r : Nat → Bool) (o : Int32 × Int32 × (Nat → Int32) × (Nat → Int32)) : Prop := lnS r 32 o.1 o.2.2.1 o.2.2.2 ∧ o.2.1.toInt = stv (stf (lnM r 32) (lnA r 32)) ∧ in32 o.2.2.1 ∧ in32 o.2.2.2
theorem k_look {K : Nat} {rows : Nat → Int64} {v : Int32} {A Z : Nat → Int32} (hv : v.toInt ≤ 60) (hK : 100 < K) (hA : in32 A) (hZ : in32 Z) (n0 s0 : Int32) : Ok (p_X1_look K n0 s0 A Z rows v) (lookC (ruC K rows v)) := by
  refine k_lookLines hv hK hA hZ (fun n F L h1 h2 h3 => ?_) n0 s0
  unfold p_X1_look_j90
  refine Ok_b1 (k_firstStaff hK (fun k hk => (h1.2 k hk).1) (ln_ris _ (Nat.le_refl 32)) (by have := (ln_ok (ruC K rows v) 32).1; omega) h1.1) (fun s hs => Ok_some.mpr ⟨h1, hs, h2, h3⟩)
