/-! ===== numbers and answers ===== -/
def bI (b : Bool) : Int32 := if b = true then 1 else 0
theorem bI_t : bI true = 1 := rfl
theorem bI_f : bI false = 0 := rfl
theorem bI_e {b : Bool} (h : bI b = 0) : b = false := by
  cases b with
  | false => rfl
  | true => exact absurd h (by decide)
theorem bI_n {b : Bool} (h : ¬ bI b = 0) : b = true := by
  cases b with
  | false => exact absurd rfl h
  | true => rfl
theorem bI_nar (b : Bool) : narrow .boolean (.int (bI b)) = .int (bI b) := by
  cases b <;> rfl
def kRack (k : Int32) : Bool := decide (k = 4) || decide (k = 5)
def kStrip (k : Int32) : Bool := decide (k = 2) || decide (k = 3)
def kLike (k k' : Int32) : Bool := if kRack k = true then kRack k' else kStrip k && decide (k = k')
def inPl (i p : Int32) : Bool := !decide (i < 0) && !decide (p ≤ i)
def inPls (i n p : Int32) : Bool := !decide (i < 0) && (!decide (n < 0) && !decide (p - i < n))
def isSp (s : Int32) : Bool := !decide (s < 0) && !decide (10 ≤ s)
theorem inPl_in {i : Int32} {pn : Nat} (hp : pn ≤ 80) (h : inPl i (nI pn) = true) : vp_in i pn := by
  simp [inPl] at h
  rcases pk_ix i (n := pn) (by omega) with h1 | h1 | ⟨j, hj, rfl⟩
  · exact absurd (Int32.not_lt.mpr h.1) (fun z => z h1)
  · exact absurd h1 (Int32.not_le.mpr h.2)
  · exact vp_in_nI hj (by omega)
theorem inPl_nI {j pn : Nat} (hj : j < 2 ^ 31) (hp : pn < 2 ^ 31) : inPl (nI j) (nI pn) = decide (j < pn) := by
  simp only [inPl]
  rw [decide_eq_false (nI_pos hj)]
  simp only [Bool.not_false, Bool.true_and, nI_leI hp hj]
  by_cases h : j < pn
  · simp [h]
  · simp [h]; omega
theorem inPl_of {i : Int32} {pn : Nat} (hp : pn ≤ 80) (h : inPl i (nI pn) = true) : ∃ j, j < pn ∧ i = nI j := vp_in_of (inPl_in hp h) (by omega)
theorem inPls_of {i n : Int32} {pn : Nat} (hp : pn ≤ 80) (h : inPls i n (nI pn) = true) : ∃ i' n' : Nat, i = nI i' ∧ n = nI n' ∧ i' + n' ≤ pn := by
  simp only [inPls, Bool.and_eq_true, Bool.not_eq_true', decide_eq_false_iff_not] at h
  obtain ⟨h1, h2, h3⟩ := h
  obtain ⟨a, ha, rfl⟩ := nI_of h1
  obtain ⟨b, hb, rfl⟩ := nI_of h2
  have h4 := Int32.not_lt.mp h3
  have h5 : ((nI b).toInt : Int) ≤ (nI pn - nI a).toInt := Int32.le_iff_toInt_le.mp h4
  rw [nI_toInt hb] at h5
  have h6 : (nI pn - nI a).toInt = (pn : Int) - a := by
    rw [Int32.toInt_sub, nI_toInt ha, nI_toInt (by omega)]
    rw [Int.bmod_eq_of_le] <;> omega
  rw [h6] at h5
  exact ⟨a, b, rfl, rfl, by omega⟩
theorem inPls_nI {i n pn : Nat} (hi : i < 2 ^ 31) (hn : n < 2 ^ 31) (hp : pn < 2 ^ 31) : inPls (nI i) (nI n) (nI pn) = decide (i + n ≤ pn) := by
  simp only [inPls]
  rw [decide_eq_false (nI_pos hi), decide_eq_false (nI_pos hn)]
  simp only [Bool.not_false, Bool.true_and]
  have h6 : (nI pn - nI i).toInt = (pn : Int) - i := by
    rw [Int32.toInt_sub, nI_toInt hi, nI_toInt hp]
    rw [Int.bmod_eq_of_le] <;> omega
  have h7 : (nI pn - nI i < nI n) ↔ ¬ (i + n ≤ pn) := by
    rw [Int32.lt_iff_toInt_lt, h6, nI_toInt hn]
    omega
  by_cases h : i + n ≤ pn
  · simp [h7, h]
  · simp [h7, h]
/-- how many of the first n hold ahead of the first that does not -/
def lead (P : Nat → Bool) : Nat → Nat
  | 0 => 0
  | n + 1 => if lead P n = n ∧ P n = true then n + 1 else lead P n
theorem lead_le (P : Nat → Bool) : ∀ n, lead P n ≤ n
  | 0 => Nat.le_refl 0
  | n + 1 => by
    have := lead_le P n
    unfold lead
    split <;> omega
theorem lead_all (P : Nat → Bool) : ∀ n j, j < lead P n → P j = true
  | 0, j, h => absurd h (Nat.not_lt_zero j)
  | n + 1, j, h => by
    unfold lead at h
    split at h
    · rename_i h1
      by_cases hj : j < n
      · exact lead_all P n j (by omega)
      · rw [show j = n by omega]; exact h1.2
    · exact lead_all P n j h
theorem lead_stop (P : Nat → Bool) : ∀ n, lead P n < n → P (lead P n) = false
  | 0, h => absurd h (Nat.not_lt_zero _)
  | n + 1, h => by
    unfold lead at h ⊢
    split at h
    · omega
    · rename_i h1
      rw [if_neg h1]
      by_cases h2 : lead P n < n
      · exact lead_stop P n h2
      · have h3 : lead P n = n := by have := lead_le P n; omega
        cases hq : P (lead P n) with
        | false => rfl
        | true => exact absurd ⟨h3, by rw [h3] at hq; exact hq⟩ h1
theorem lead_eq {P : Nat → Bool} {n q : Nat} (h1 : q ≤ n) (h2 : ∀ j, j < q → P j = true) (h3 : q < n → P q = false) : q = lead P n := by
  rcases Nat.lt_trichotomy q (lead P n) with h | h | h
  · have := lead_all P n q h
    have hq := h3 (by have := lead_le P n; omega)
    rw [this] at hq
    cases hq
  · exact h
  · have := lead_stop P n (by omega)
    rw [h2 _ h] at this
    cases this
theorem lead_congr {P P' : Nat → Bool} {n : Nat} (h : ∀ j, j < n → P j = P' j) : lead P n = lead P' n := by
  refine lead_eq (lead_le P n) (fun j hj => ?_) (fun hq => ?_)
  · rw [← h j (by have := lead_le P n; omega)]
    exact lead_all P n j hj
  · rw [← h _ hq]
    exact lead_stop P n hq
/-- how many of the first n hold -/
def cntF (P : Nat → Bool) : Nat → Nat
  | 0 => 0
  | n + 1 => cntF P n + (if P n = true then 1 else 0)
theorem cntF_le (P : Nat → Bool) : ∀ n, cntF P n ≤ n
  | 0 => Nat.le_refl 0
  | n + 1 => by
    have := cntF_le P n
    unfold cntF
    split <;> omega
theorem cntF_congr {P P' : Nat → Bool} : ∀ {n : Nat}, (∀ j, j < n → P j = P' j) → cntF P n = cntF P' n
  | 0, _ => rfl
  | n + 1, h => by
    unfold cntF
    rw [cntF_congr (fun j hj => h j (by omega)), h n (by omega)]
/-! ===== a holding's cells ===== -/
abbrev tyL (cI cJ cC cH : ClassId) : List (ClassId × FieldType) := [(cI, .int), (cJ, .long), (cC, .object RX0), (cH, .object RX1)]
def hOk (M : Nat → Option va_E) (cJ cC : ClassId) (h : Nat) (k : Int32) (pn na ca : Nat) (lb : Int32) (f : Nat → Int64) (g : Nat → Option Nat) : Prop :=
  M h = some (.inr (1, [.int k, .int (nI pn), .ref na, .ref ca, .int lb])) ∧ pn ≤ 80 ∧ M na = some (.inl (cJ, if kStrip k = true then pn else 0, .inr (.inl f))) ∧ M ca = some (.inl (cC, if kRack k = true then pn else 0, .inr (.inr (.inr (.inr g)))))
/-- what a place of a holding has for a card -/
def cdAt (k : Int32) (pn : Nat) (g : Nat → Option Nat) (i : Int32) : Option Nat := if kRack k = true ∧ inPl i (nI pn) = true then g i.toNatClampNeg else none
