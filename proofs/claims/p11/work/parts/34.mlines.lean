/-! the reference's lines and staff -/
theorem q_in {a l h : Int32} : p_X8_in a l h = some (if l.toInt ≤ a.toInt ∧ a.toInt ≤ h.toInt then 1 else 0) := by
  unfold p_X8_in
  by_cases h1 : a < l
  · have := i_lt.mp h1
    rw [if_pos h1, if_neg (by omega)]
  · have h1' : ¬ a.toInt < l.toInt := fun z => h1 (i_lt.mpr z)
    rw [if_neg h1]
    by_cases h2 : h < a
    · have := i_lt.mp h2
      rw [if_pos h2, if_neg (by omega)]
    · have h2' : ¬ h.toInt < a.toInt := fun z => h2 (i_lt.mpr z)
      rw [if_neg h2, if_pos (by omega)]
theorem q_within {a l h : Int32} : p_X7_within a l h = some (if l.toInt ≤ a.toInt ∧ a.toInt ≤ h.toInt then 1 else 0) := q_in
/-- a dot, as the reference works it out -/
def mb (f : Nat → Int64) (x y : Int32) : Int32 := if 0 ≤ x.toInt ∧ x.toInt ≤ 59 ∧ 0 ≤ y.toInt ∧ y.toInt ≤ 31 then (if lg_cmp ((f y.toInt.toNat >>> (x.toInt64 &&& 63)) &&& 1) 1 = 0 then 1 else 0) else 0
theorem mb_01 (f : Nat → Int64) (x y : Int32) : mb f x y = 0 ∨ mb f x y = 1 := by
  unfold mb
  split
  · split
    · exact Or.inr rfl
    · exact Or.inl rfl
  · exact Or.inl rfl
theorem ite10 {c : Prop} [Decidable c] : ((if c then (1 : Int32) else 0) = 0) ↔ ¬ c := by
  by_cases h : c
  · rw [if_pos h]; exact ⟨fun z => absurd z (by decide), fun z => absurd h z⟩
  · rw [if_neg h]; exact ⟨fun _ => h, fun _ => rfl⟩
theorem q_mblack {f : Nat → Int64} {x y : Int32} : p_X8_isBlack f x y = some (mb f x y) := by
  unfold p_X8_isBlack
  rw [q_in, z_b1_i]
  by_cases h1 : (0 : Int32).toInt ≤ x.toInt ∧ x.toInt ≤ (59 : Int32).toInt
  · rw [if_neg (fun z => (ite10.mp z) h1), q_in, z_b1_i]
    by_cases h2 : (0 : Int32).toInt ≤ y.toInt ∧ y.toInt ≤ (31 : Int32).toInt
    · have h3 : 0 ≤ x.toInt ∧ x.toInt ≤ 59 ∧ 0 ≤ y.toInt ∧ y.toInt ≤ 31 := ⟨h1.1, h1.2, h2.1, h2.2⟩
      rw [if_neg (fun z => (ite10.mp z) h2), z_ald_i (i_in h2.1 (by have := h3.2.2.2; omega))]
      unfold mb
      rw [if_pos h3, i_nat]
      split <;> rfl
    · rw [if_pos (ite10.mpr h2)]
      unfold mb
      rw [if_neg (fun z => h2 ⟨z.2.2.1, z.2.2.2⟩)]
  · rw [if_pos (ite10.mpr h1)]
    unfold mb
    rw [if_neg (fun z => h1 ⟨z.1, z.2.1⟩)]
theorem k_isRule {K : Nat} {f : Nat → Int64} {v y : Int32} (hK : 100 < K) : Ok (p_X8_isRule K v f y) (fun r => r = 0 ∨ r = 1) := by
  unfold p_X8_isRule
  refine Ok_lp3 (fun _ b x => 0 ≤ x.toInt ∧ x.toInt ≤ 60 ∧ (b = 0 ∨ b = 1)) (fun _ _ x => 60 - x.toInt.toNat) ?_ K 0 0 0 ⟨by decide, by decide, Or.inl rfl⟩ (by rw [i_lit0]; omega)
  intro rec a b x ⟨h1, h2, h3⟩ ih
  unfold p_X8_isRule_l7
  refine Ok_ite.mpr ⟨fun _ => Ok_bool h3 (Ok_some.mpr h3), fun c => ?_⟩
  have c' : ¬ (60 : Int32).toInt ≤ x.toInt := fun z => c (i_le.mpr z)
  rw [i_lit60] at c'
  have e1 := i_inc (x := x) (N := 60) (by omega) (by omega)
  have key : ∀ z, Ok (p_X8_isRule_j31 b v x rec z) (fun r => r = 0 ∨ r = 1) := fun z => by
    have k2 : Ok (p_X8_isRule_j44 x z rec) (fun r => r = 0 ∨ r = 1) := by
      unfold p_X8_isRule_j44
      exact Ok_let.mpr (ih _ _ _ ⟨by omega, by omega, Or.inr rfl⟩ (by omega))
    unfold p_X8_isRule_j31
    exact Ok_ite.mpr ⟨fun _ => Ok_ite.mpr ⟨fun _ => Ok_let.mpr (ih _ _ _ ⟨by omega, by omega, Or.inl rfl⟩ (by omega)), fun _ => k2⟩, fun _ => k2⟩
  rw [q_mblack, z_b1_i]
  exact Ok_ite.mpr ⟨fun _ => key _, fun _ => key _⟩
/-- which rows are rules, as the reference works it out -/
def ruM (K : Nat) (v : Int32) (f : Nat → Int64) (y : Nat) : Bool := decide (p_X8_isRule K v f (nI y) = some 1)
theorem q_isRule {K : Nat} {f : Nat → Int64} {v y : Int32} (hK : 100 < K) {k : Nat} (hy : y.toInt = k) (hk : k < 32) : p_X8_isRule K v f y = some (if ruM K v f k = true then 1 else 0) := by
  have hy' : y = nI k := i_of hy (by omega)
  subst hy'
  obtain ⟨o, h1, h2⟩ := k_isRule (K := K) (f := f) (v := v) (y := nI k) hK
  unfold ruM
  rw [h1]
  rcases h2 with rfl | rfl <;> rfl
theorem k_findLines {K : Nat} {f : Nat → Int64} {v : Int32} {A Z : Nat → Int32} (hK : 100 < K) (n0 : Int32) : Ok (p_X8_findLines K v n0 f A Z) (fun o => lnS (ruM K v f) 32 o.1 o.2.1 o.2.2) := by
  unfold p_X8_findLines
  refine Ok_lp4 (fun n F L y => 0 ≤ y.toInt ∧ y.toInt ≤ 32 ∧ lnS (ruM K v f) y.toInt.toNat n F L) (fun _ _ _ y => 32 - y.toInt.toNat) ?_ K 0 A Z 0 ⟨by decide, by decide, ⟨rfl, fun k hk => absurd hk (Nat.not_lt_zero _)⟩⟩ (by rw [i_lit0]; omega)
  intro rec n F L y ⟨h1, h2, ⟨h3, h4⟩⟩ ih
  unfold p_X8_findLines_l7
  refine Ok_ite.mpr ⟨fun c => Ok_some.mpr ?_, fun c => ?_⟩
  · have := i_le.mp c
    rw [i_lit32] at this
    rw [show y.toInt.toNat = 32 by omega] at h3 h4
    exact ⟨h3, h4⟩
  have c' : ¬ (32 : Int32).toInt ≤ y.toInt := fun z => c (i_le.mpr z)
  rw [i_lit32] at c'
  have e1 := i_inc (x := y) (N := 32) (by omega) (by omega)
  have e2 : (y + 1).toInt.toNat = y.toInt.toNat + 1 := by omega
  rw [q_isRule hK (k := y.toInt.toNat) (by omega) (by omega), z_b1_i]
  obtain ⟨o1, o2, o3, o4, o5⟩ := ln_ok (ruM K v f) y.toInt.toNat
  cases hr : ruM K v f y.toInt.toNat with
  | false =>
    obtain ⟨f1, f2, f3, f4⟩ := ln_no hr
    rw [show (if false = true then (1 : Int32) else 0) = 0 from rfl]
    refine Ok_ite.mpr ⟨fun _ => Ok_let.mpr (ih _ _ _ _ ⟨by omega, by omega, ?_⟩ (by omega)), fun c => absurd rfl c⟩
    rw [e2]
    exact ⟨by rw [f1]; exact h3, fun k hk => by rw [f2, f3]; exact h4 k (by omega)⟩
  | true =>
    rw [show (if true = true then (1 : Int32) else 0) = 1 from rfl]
    refine Ok_ite.mpr ⟨fun c => absurd c (by decide), fun _ => ?_⟩
    -- a new line
    have hnew : lnI (ruM K v f) y.toInt.toNat = false → Ok (p_X8_findLines_j49 F n y (p_X8_findLines_j69 L y rec)) (fun o => lnS (ruM K v f) 32 o.1 o.2.1 o.2.2) := fun hi => by
      obtain ⟨f1, f2, f3, f4⟩ := ln_new hr hi
      unfold p_X8_findLines_j49
      refine Ok_ast (i_in (by omega) (by omega)) (Ok_let.mpr ?_)
      have e3 := i_inc (x := n) (N := 32) (by omega) (by omega)
      have e4 : (n + 1 - 1).toInt = lnM (ruM K v f) y.toInt.toNat := by rw [i_subk 1 rfl (by omega) (by omega)]; omega
      unfold p_X8_findLines_j69
      refine Ok_ast (i_in (by omega) (by omega)) (Ok_let.mpr (ih _ _ _ _ ⟨by omega, by omega, ?_⟩ (by omega)))
      rw [e2]
      refine ⟨by rw [f1]; omega, fun k hk => ?_⟩
      show (upd F n.toInt.toNat y k).toInt = _ ∧ (upd L (n + 1 - 1).toInt.toNat y k).toInt = _
      rw [f2, f3, e4, h3, upd_at, upd_at]
      simp only [Int.toNat_natCast]
      by_cases hk2 : k = lnM (ruM K v f) y.toInt.toNat
      · rw [if_pos hk2, if_pos hk2, if_pos hk2, if_pos hk2]; omega
      · rw [if_neg hk2, if_neg hk2, if_neg hk2, if_neg hk2]; exact h4 k (by omega)
    cases hi : lnI (ruM K v f) y.toInt.toNat with
    | false =>
      refine Ok_ite.mpr ⟨fun _ => hnew hi, fun c2 => Ok_ite.mpr ⟨fun _ => hnew hi, fun c3 => ?_⟩⟩
      have c3' : ¬ n.toInt = 0 := fun z => c3 (i_eq.mpr z)
      have e5 : (n - 1).toInt = ((lnM (ruM K v f) y.toInt.toNat - 1 : Nat) : Int) := by rw [i_subk 1 rfl (by omega) (by omega)]; omega
      refine Ok_ald (i_in (by omega) (by omega)) (Ok_ite.mpr ⟨fun c4 => ?_, fun _ => hnew hi⟩)
      have h6 := o5 hi (by omega)
      have h7 := (h4 (lnM (ruM K v f) y.toInt.toNat - 1) (by omega)).2
      have c4' : (L (n - 1).toNatClampNeg).toInt = (y - 1).toInt := by rw [c4]
      rw [i_nat, e5, Int.toNat_natCast, h7, i_subk 1 rfl (by omega) (by omega)] at c4'
      omega
    | true =>
      obtain ⟨f1, f2, f3, f4⟩ := ln_in hr hi
      obtain ⟨o6, o7⟩ := o4 hi
      refine Ok_ite.mpr ⟨fun c2 => ?_, fun c2 => Ok_ite.mpr ⟨fun c3 => ?_, fun c3 => ?_⟩⟩
      · have : y.toInt = 0 := by rw [c2]; rfl
        omega
      · have : n.toInt = 0 := by rw [c3]; rfl
        omega
      have e5 : (n - 1).toInt = ((lnM (ruM K v f) y.toInt.toNat - 1 : Nat) : Int) := by rw [i_subk 1 rfl (by omega) (by omega)]; omega
      have h7 := (h4 (lnM (ruM K v f) y.toInt.toNat - 1) (by omega)).2
      refine Ok_ald (i_in (by omega) (by omega)) (Ok_ite.mpr ⟨fun c4 => ?_, fun c4 => ?_⟩)
      · unfold p_X8_findLines_j69
        refine Ok_ast (i_in (by omega) (by omega)) (Ok_let.mpr (ih _ _ _ _ ⟨by omega, by omega, ?_⟩ (by omega)))
        rw [e2]
        refine ⟨by rw [f1]; omega, fun k hk => ?_⟩
        show (F k).toInt = _ ∧ (upd L (n - 1).toInt.toNat y k).toInt = _
        rw [f2, f3, e5, upd_at]
        simp only [Int.toNat_natCast]
        by_cases hk2 : k = lnM (ruM K v f) y.toInt.toNat - 1
        · rw [if_pos hk2, if_pos hk2]; exact ⟨(h4 k (by omega)).1, by omega⟩
        · rw [if_neg hk2, if_neg hk2]; exact h4 k (by omega)
      · exfalso
        apply c4
        apply i_of32
        rw [i_nat, e5, Int.toNat_natCast, h7, i_subk 1 rfl (by omega) (by omega)]
        omega
/-- what findStaff leaves in the reference -/
def staffM (r : Nat → Bool) (o : Int32 × Int32 × (Nat → Int32) × (Nat → Int32)) : Prop := lnS r 32 o.2.1 o.2.2.1 o.2.2.2 ∧ o.1.toInt = stv (stf (lnM r 32) (lnA r 32))
theorem k_findStaff {K : Nat} {rows : Nat → Int64} {v : Int32} {A Z : Nat → Int32} (hK : 100 < K) (n0 : Int32) : Ok (p_X8_findStaff K v n0 rows A Z) (staffM (ruM K v rows)) := by
  unfold p_X8_findStaff
  refine Ok_b3 (k_findLines hK n0) (fun n F L h => ?_)
  obtain ⟨hn, hk⟩ := h
  have hn : n.toInt = lnM (ruM K v rows) 32 := hn
  have hF : ∀ k, k < lnM (ruM K v rows) 32 → (F k).toInt = lnA (ruM K v rows) 32 k := fun k h => (hk k h).1
  have hris := ln_ris (ruM K v rows) (Nat.le_refl 32)
  have hm : lnM (ruM K v rows) 32 ≤ 32 := (ln_ok (ruM K v rows) 32).1
  generalize hM : lnM (ruM K v rows) 32 = M at *
  generalize hf : lnA (ruM K v rows) 32 = f at *
  refine Ok_lp1 (fun (x : Int32) => ∃ j : Nat, x.toInt = j ∧ j ≤ 32 ∧ stf M f = stS f (M - 4 - j) j) (fun x => 32 - x.toInt.toNat) ?_ K 0 ⟨0, rfl, by omega, rfl⟩ (by rw [i_lit0]; omega)
  intro rec x ⟨j, h1, h2, h3⟩ ih
  have e4 : (x + 4).toInt = j + 4 := by rw [i_addk 4 rfl (by omega) (by omega)]; omega
  unfold p_X8_findStaff_l6
  refine Ok_ite.mpr ⟨fun c => Ok_some.mpr ?_, fun c => ?_⟩
  · have := i_le.mp c
    refine ⟨⟨by rw [hM]; exact hn, fun k h => by rw [hM] at h; show (F k).toInt = _ ∧ (L k).toInt = _; rw [hf]; exact hk k h⟩, ?_⟩
    rw [hM, hf, h3, show M - 4 - j = 0 by omega]
    exact i_litm1
  have c' : ¬ n.toInt ≤ (x + 4).toInt := fun z => c (i_le.mpr z)
  have e2 : M - 4 - j = (M - 4 - (j + 1)) + 1 := by omega
  rw [e2] at h3
  unfold stS at h3
  refine Ok_lp3 (fun (a b z : Int32) => ∃ i : Nat, i ≤ 4 ∧ z.toInt = j + i ∧ a.toInt = mnU 100 f j i ∧ b.toInt = mxU f j i ∧ mnU 100 f j i ≤ 100 ∧ mxU f j i ≤ 31) (fun _ _ z => j + 4 - z.toInt.toNat) ?_ K 100 0 x ⟨0, by omega, by omega, rfl, rfl, Nat.le_refl 100, Nat.zero_le _⟩ (by omega)
  intro rec2 a b z ⟨i, g1, g2, g3, g4, g5, g6⟩ ih2
  unfold p_X8_findStaff_l24
  refine Ok_ite.mpr ⟨fun c2 => ?_, fun c2 => ?_⟩
  · have := i_le.mp c2
    have hi : i = 4 := by omega
    subst hi
    rw [mn_32 (fun q hq => by have := (gp_le hris (k := j + q) (by omega)).2.1; omega)] at g3 g5
    have e6 : (b - a).toInt = b.toInt - a.toInt := i_sub (by omega) (by omega)
    unfold p_X8_findStaff_j83
    refine Ok_ite.mpr ⟨fun c3 => Ok_let.mpr ?_, fun c3 => Ok_some.mpr ?_⟩
    · have := i_lt.mp c3
      rw [i_lit1, e6] at this
      rw [if_neg (by unfold evn; rw [decide_eq_true_eq]; omega)] at h3
      have e3 := i_inc (x := x) (N := 40) (by omega) (by omega)
      exact ih _ ⟨j + 1, by omega, by omega, h3⟩ (by omega)
    · have c4 : ¬ (1 : Int32).toInt < (b - a).toInt := fun z => c3 (i_lt.mpr z)
      rw [i_lit1, e6] at c4
      rw [if_pos (by unfold evn; rw [decide_eq_true_eq]; omega)] at h3
      refine ⟨⟨by rw [hM]; exact hn, fun k h => by rw [hM] at h; show (F k).toInt = _ ∧ (L k).toInt = _; rw [hf]; exact hk k h⟩, ?_⟩
      rw [hM, hf, h3]
      exact h1
  have c3 : ¬ (x + 4).toInt ≤ z.toInt := fun q => c2 (i_le.mpr q)
  have e1 := i_inc (x := z) (N := 40) (by omega) (by omega)
  obtain ⟨h7, h8, h9⟩ := gp_le hris (k := j + i) (by omega)
  have hlt := hris.1 (j + i + 1) (by omega)
  refine Ok_ald (i_in (by omega) (by omega)) (Ok_ald (i_in (by omega) (by omega)) (Ok_let.mpr ?_))
  have e7 : (F (z + 1).toNatClampNeg).toInt = f (j + i + 1) := by rw [i_nat, show (z + 1).toInt.toNat = j + i + 1 by omega]; exact hF _ (by omega)
  have e8 : (F z.toNatClampNeg).toInt = f (j + i) := by rw [i_nat, show z.toInt.toNat = j + i by omega]; exact hF _ (by omega)
  have e9 : (F (z + 1).toNatClampNeg - F z.toNatClampNeg).toInt = gp f (j + i) := by rw [i_sub (by omega) (by omega)]; omega
  generalize F (z + 1).toNatClampNeg - F z.toNatClampNeg = g at e9
  have key : ∀ a2 : Int32, a2.toInt = mnU 100 f j (i + 1) → Ok (p_X8_findStaff_j63 g b z rec2 a2) (staffM (ruM K v rows)) := fun a2 ha => by
    have hle : mnU 100 f j (i + 1) ≤ 100 := by show min (mnU 100 f j i) (gp f (j + i)) ≤ 100; omega
    have hle2 : mxU f j (i + 1) ≤ 31 := by show max (mxU f j i) (gp f (j + i)) ≤ 31; omega
    have hmx : mxU f j (i + 1) = max (mxU f j i) (gp f (j + i)) := rfl
    unfold p_X8_findStaff_j63
    refine Ok_ite.mpr ⟨fun c5 => Ok_let.mpr (ih2 _ _ _ ⟨i + 1, by omega, by omega, ha, ?_, hle, hle2⟩ (by omega)), fun c5 => Ok_let.mpr (ih2 _ _ _ ⟨i + 1, by omega, by omega, ha, ?_, hle, hle2⟩ (by omega))⟩
    · have := i_le.mp c5; omega
    · have c6 : ¬ g.toInt ≤ b.toInt := fun q => c5 (i_le.mpr q)
      omega
  have hmn : mnU 100 f j (i + 1) = min (mnU 100 f j i) (gp f (j + i)) := rfl
  refine Ok_ite.mpr ⟨fun c5 => key _ ?_, fun c5 => key _ ?_⟩
  · have := i_le.mp c5; omega
  · have c6 : ¬ a.toInt ≤ g.toInt := fun q => c5 (i_le.mpr q)
    omega
