/-! ===== what the reference's small methods answer ===== -/
def hoOk (v : Int32) : Prop := v = 0 ∨ (∃ k : Nat, k < 10 ∧ v = -1 - nI k) ∨ ∃ k : Nat, k < 12 ∧ v = nI (k + 1)
theorem lab_neg : ∀ k, k < 10 → (-1 - nI k : Int32) < 0 := by decide +kernel
theorem lab_ix : ∀ k, k < 10 → (-1 - (-1 - nI k) : Int32) = nI k := by decide +kernel
theorem row_pos : ∀ k, k < 12 → (0 : Int32) < nI (k + 1) := by decide +kernel
theorem row_nn {k : Nat} (h : k < 12) : ¬ nI (k + 1) < 0 := nI_pos (by omega)
theorem row_n0 {k : Nat} (h : k < 12) : ¬ nI (k + 1) = 0 := nI_ne0 (by omega) (by omega)
theorem lab_n0 {k : Nat} (h : k < 10) : ¬ (-1 - nI k : Int32) = 0 := fun z => by
  have := lab_neg k h
  rw [z] at this
  exact absurd this (by decide)
theorem hoOk.row {v : Int32} (h : hoOk v) (h1 : ¬ v = 0) (h2 : ¬ v < 0) : ∃ k : Nat, k < 12 ∧ v = nI (k + 1) := by
  rcases h with h | ⟨k, hk, rfl⟩ | h
  · exact absurd h h1
  · exact absurd (lab_neg k hk) h2
  · exact h
theorem hoOk.rowP {v : Int32} (h : hoOk v) (h1 : 0 < v) : ∃ k : Nat, k < 12 ∧ v = nI (k + 1) := by
  refine h.row (fun z => ?_) (fun z => ?_)
  · rw [z] at h1; exact absurd h1 (by decide)
  · have a := Int32.lt_iff_toInt_lt.mp h1
    have b := Int32.lt_iff_toInt_lt.mp z
    omega
theorem hoOk.lab {v : Int32} (h : hoOk v) (h1 : v < 0) : ∃ k : Nat, k < 10 ∧ v = -1 - nI k := by
  rcases h with h | h | ⟨k, hk, rfl⟩
  · rw [h] at h1; exact absurd h1 (by decide)
  · exact h
  · exact absurd h1 (row_nn hk)
/-- the row that spindle j holds -/
def rIx (σ : RS) (j : Nat) : Nat := (sHo σ j - 1).toNatClampNeg
def kOf (σ : RS) (j : Nat) : Int32 := if sHo σ j = 0 then 0 else if sHo σ j < 0 then 1 else sKi σ (rIx σ j)
def hasP (σ : RS) (j : Nat) : Bool := decide (0 < sHo σ j)
def szOf (σ : RS) (j : Nat) : Int32 := if hasP σ j = true then sSi σ (rIx σ j) else 0
def rkOf (σ : RS) (j : Nat) : Bool := decide (4 ≤ kOf σ j)
def cIx (v : Int64) : Nat := (v.toInt32 - 1).toNatClampNeg
def plainV (σ : RS) (v : Int64) : Bool := !decide (v = 0) && decide (sCn σ (cIx v) &&& 1 = 1)
def anyN (P : Nat → Bool) : Nat → Bool
  | 0 => false
  | n + 1 => anyN P n || P n
def heldB (σ : RS) (t : Int32) : Bool := anyN (fun j => decide (sHo σ j = t)) 10
def beyB (i n z : Int32) : Bool := decide (i < 0) || (decide (n < 0) || decide (z.toInt64 < i.toInt64 + n.toInt64))
def hindI (σ : RS) (j : Nat) (i n : Int32) : Int32 := if sHo σ j = 0 then 1 else if hasP σ j = true then (if beyB i n (szOf σ j) = true then 3 else 0) else 2
theorem rIx_row {σ : RS} {j k : Nat} (hk : k < 12) (h : sHo σ j = nI (k + 1)) : rIx σ j = k := by
  unfold rIx
  rw [h, nI_pred, nI_clamp (by omega)]
theorem kOf_row {σ : RS} {j k : Nat} (hk : k < 12) (h : sHo σ j = nI (k + 1)) : kOf σ j = sKi σ k := by
  unfold kOf
  rw [rIx_row hk h, h, if_neg (row_n0 hk), if_neg (row_nn hk)]
theorem kOf_lab {σ : RS} {j k : Nat} (hk : k < 10) (h : sHo σ j = -1 - nI k) : kOf σ j = 1 := by
  unfold kOf
  rw [h, if_neg (lab_n0 hk), if_pos (lab_neg k hk)]
theorem kOf_0 {σ : RS} {j : Nat} (h : sHo σ j = 0) : kOf σ j = 0 := by
  unfold kOf
  rw [if_pos h]
theorem hasP_row {σ : RS} {j k : Nat} (hk : k < 12) (h : sHo σ j = nI (k + 1)) : hasP σ j = true := by
  unfold hasP
  rw [h]
  exact decide_eq_true (row_pos k hk)
theorem hasP_lab {σ : RS} {j k : Nat} (hk : k < 10) (h : sHo σ j = -1 - nI k) : hasP σ j = false := by
  unfold hasP
  rw [h]
  refine decide_eq_false (fun z => ?_)
  have a := Int32.lt_iff_toInt_lt.mp z
  have b := Int32.lt_iff_toInt_lt.mp (lab_neg k hk)
  omega
theorem hasP_0 {σ : RS} {j : Nat} (h : sHo σ j = 0) : hasP σ j = false := by
  unfold hasP
  rw [h]
  decide
theorem szOf_row {σ : RS} {j k : Nat} (hk : k < 12) (h : sHo σ j = nI (k + 1)) : szOf σ j = sSi σ k := by
  unfold szOf
  rw [if_pos (hasP_row hk h), rIx_row hk h]
theorem szOf_n {σ : RS} {j : Nat} (h : hasP σ j = false) : szOf σ j = 0 := by
  unfold szOf
  rw [if_neg (by rw [h]; decide)]
theorem cIx_lN {c : Nat} (h : c < 2000) : cIx (lN (c + 1)) = c := by
  unfold cIx
  rw [lN_i, nI_pred, nI_clamp (by omega)]
theorem lN_n0 {c : Nat} (h : c < 2000) : ¬ lN (c + 1) = 0 := fun z => by
  have := (lN_eq (a := c + 1) (b := 0) (by omega) (by omega)).mp z
  omega
theorem beyB_of {i n : Int32} {pn : Nat} (hp : pn ≤ 80) : beyB i n (nI pn) = !inPls i n (nI pn) := by
  unfold beyB inPls
  by_cases h1 : i < 0
  · simp [h1]
  · by_cases h2 : n < 0
    · simp [h1, h2]
    · obtain ⟨a, ha, rfl⟩ := nI_of h1
      obtain ⟨b, hb, rfl⟩ := nI_of h2
      have e1 : ((nI pn).toInt64 < (nI a).toInt64 + (nI b).toInt64) ↔ pn < a + b := by
        rw [nI_l (show pn < 2 ^ 31 by omega), nI_l ha, nI_l hb, lN_add]
        exact pk_lLT (by omega) (by omega)
      have h6 : (nI pn - nI a).toInt = (pn : Int) - a := by
        rw [Int32.toInt_sub, nI_toInt ha, nI_toInt (show pn < 2 ^ 31 by omega)]
        rw [Int.bmod_eq_of_le] <;> omega
      have e2 : (nI pn - nI a < nI b) ↔ pn < a + b := by
        rw [Int32.lt_iff_toInt_lt, h6, nI_toInt hb]
        omega
      simp [h1, h2, e1, e2]
