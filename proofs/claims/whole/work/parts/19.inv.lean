/-! ===== the invariant, and what the public methods answer and do ===== -/
def liveR (σ : RS) (k : Nat) : Prop := sCov σ = nI k ∨ ∃ j, j < 10 ∧ sHo σ j = nI (k + 1)
def okP (σ : RS) (b k : Nat) (v : Int64) : Prop := v = 0 ∨ ∃ c, c < b ∧ v = lN (c + 1) ∧ (sKi σ k = 5 → evn (sCn σ c) = true)
def Inv (σ : RS) (cc : Nat) : Prop :=
  cc ≤ 512 ∧ (∀ j, j < 10 → hoOk (sHo σ j)) ∧ (sCov σ = -1 ∨ ∃ k, k < 12 ∧ sCov σ = nI k) ∧ (∀ k, k < 12 → liveR σ k → kStrip (sKi σ k) = true ∨ kRack (sKi σ k) = true) ∧ (∀ k, k < 12 → ∃ n, n ≤ 80 ∧ sSi σ k = nI n) ∧ (∃ a, a ≤ cc ∧ sRow σ = nI a) ∧
  ∃ b, b ≤ cc ∧ sCar σ = nI b ∧ (∀ k, k < 12 → liveR σ k → kRack (sKi σ k) = true → ∀ i n, sSi σ k = nI n → n ≤ 80 → i < n → okP σ b k (sPl σ (80 * k + i))) ∧ (∀ k, k < 12 → sCov σ = nI k → kRack (sKi σ k) = true → ∀ i n, sSi σ k = nI n → n ≤ 80 → i < n → okP σ b k (sWa σ i))
theorem isSp_of {s : Int32} (h : isSp s = true) : ∃ j : Nat, j < 10 ∧ s = nI j := by
  simp only [isSp, Bool.and_eq_true, Bool.not_eq_true', decide_eq_false_iff_not] at h
  rcases pk_ix s (n := 10) (by omega) with h1 | h1 | h1
  · exact absurd h1 h.1
  · exact absurd h1 h.2
  · exact h1
theorem isSp_nI {j : Nat} (h : j < 10) : isSp (nI j) = true := by
  simp only [isSp, Bool.and_eq_true, Bool.not_eq_true', decide_eq_false_iff_not]
  exact ⟨nI_pos (by omega), fun z => by have := (nI_leI (a := 10) (b := j) (by omega) (by omega)).mp z; omega⟩
theorem rk4 {k : Int32} (h : kStrip k = true ∨ kRack k = true) : decide (4 ≤ k) = kRack k := by
  simp only [kStrip, kRack, Bool.or_eq_true, decide_eq_true_eq] at h
  rcases h with (rfl | rfl) | (rfl | rfl) <;> decide
section IV
variable {σ : RS} {cc : Nat}
theorem Inv.ho (hI : Inv σ cc) {j : Nat} (hj : j < 10) : hoOk (sHo σ j) := hI.2.1 j hj
theorem Inv.cov (hI : Inv σ cc) : sCov σ = -1 ∨ ∃ k, k < 12 ∧ sCov σ = nI k := hI.2.2.1
theorem Inv.kd (hI : Inv σ cc) {k : Nat} (hk : k < 12) (h : liveR σ k) : kStrip (sKi σ k) = true ∨ kRack (sKi σ k) = true := hI.2.2.2.1 k hk h
theorem Inv.sz (hI : Inv σ cc) {k : Nat} (hk : k < 12) : ∃ n, n ≤ 80 ∧ sSi σ k = nI n := hI.2.2.2.2.1 k hk
theorem Inv.live {j k : Nat} (hj : j < 10) (h : sHo σ j = nI (k + 1)) : liveR σ k := Or.inr ⟨j, hj, h⟩
theorem Inv.rk (hI : Inv σ cc) {j k : Nat} (hj : j < 10) (hk : k < 12) (h : sHo σ j = nI (k + 1)) : rkOf σ j = kRack (sKi σ k) := by
  unfold rkOf
  rw [kOf_row hk h]
  exact rk4 (hI.kd hk (Inv.live hj h))
theorem rk_lab {j k : Nat} (hk : k < 10) (h : sHo σ j = -1 - nI k) : rkOf σ j = false := by
  unfold rkOf
  rw [kOf_lab hk h]
  decide
theorem rk_0 {j : Nat} (h : sHo σ j = 0) : rkOf σ j = false := by
  unfold rkOf
  rw [kOf_0 h]
  decide
theorem Inv.place (hI : Inv σ cc) {j : Nat} (hj : j < 10) {i : Int32} (h : inPl i (szOf σ j) = true) : ∃ k n i' : Nat, k < 12 ∧ sHo σ j = nI (k + 1) ∧ n ≤ 80 ∧ sSi σ k = nI n ∧ i' < n ∧ i = nI i' := by
  rcases hI.ho hj with h0 | ⟨k, hk, h0⟩ | ⟨k, hk, h0⟩
  · rw [szOf_n (hasP_0 h0)] at h
    obtain ⟨i', hi', -⟩ := inPl_of (pn := 0) (by omega) h
    omega
  · rw [szOf_n (hasP_lab hk h0)] at h
    obtain ⟨i', hi', -⟩ := inPl_of (pn := 0) (by omega) h
    omega
  · obtain ⟨n, hn, e⟩ := hI.sz hk
    rw [szOf_row hk h0, e] at h
    obtain ⟨i', hi', e2⟩ := inPl_of hn h
    exact ⟨k, n, i', hk, h0, hn, e, hi', e2⟩
theorem Inv.okv (hI : Inv σ cc) {j k n i : Nat} (hj : j < 10) (hk : k < 12) (h : sHo σ j = nI (k + 1)) (hr : kRack (sKi σ k) = true) (hn : n ≤ 80) (e : sSi σ k = nI n) (hi : i < n) : ∃ b, b ≤ cc ∧ sCar σ = nI b ∧ okP σ b k (sPl σ (80 * k + i)) := by
  obtain ⟨b, h1, h2, h3, -⟩ := hI.2.2.2.2.2.2
  exact ⟨b, h1, h2, h3 k hk (Inv.live hj h) hr i n e hn hi⟩
theorem Inv.v2 (hI : Inv σ cc) {j k n i : Nat} (hj : j < 10) (hk : k < 12) (h : sHo σ j = nI (k + 1)) (hr : kRack (sKi σ k) = true) (hn : n ≤ 80) (e : sSi σ k = nI n) (hi : i < n) : sPl σ (80 * k + i) = 0 ∨ ∃ c, c < 2000 ∧ sPl σ (80 * k + i) = lN (c + 1) := by
  obtain ⟨b, h1, h2, h3⟩ := hI.okv hj hk h hr hn e hi
  have := hI.1
  rcases h3 with h3 | ⟨c, hc, h4, -⟩
  · exact Or.inl h3
  · exact Or.inr ⟨c, by omega, h4⟩
theorem rk_row (hI : Inv σ cc) {j : Nat} (hj : j < 10) (h : rkOf σ j = true) : ∃ k n : Nat, k < 12 ∧ sHo σ j = nI (k + 1) ∧ n ≤ 80 ∧ sSi σ k = nI n ∧ kRack (sKi σ k) = true := by
  rcases hI.ho hj with h0 | ⟨k, hk, h0⟩ | ⟨k, hk, h0⟩
  · rw [rk_0 h0] at h; cases h
  · rw [rk_lab hk h0] at h; cases h
  · obtain ⟨n, hn, e⟩ := hI.sz hk
    rw [hI.rk hj hk h0] at h
    exact ⟨k, n, hk, h0, hn, e, h⟩
end IV
/-- what place i of what spindle j holds has -/
def pV (σ : RS) (j : Nat) (i : Nat) : Int64 := sPl σ (80 * rIx σ j + i)
theorem pV_row {σ : RS} {j k i : Nat} (hk : k < 12) (h : sHo σ j = nI (k + 1)) : pV σ j i = sPl σ (80 * k + i) := by
  unfold pV
  rw [rIx_row hk h]
abbrev ix (s : Int32) : Nat := s.toNatClampNeg
def anCount (σ : RS) (w : Int32) : Int32 := if w = 0 then sCam σ else if w = 1 ∨ w = 2 ∨ w = 3 ∨ w = 4 then sFa σ (ix w) else if w = 5 then sGoo σ else if w = 6 then sRow σ else if w = 7 then sCar σ else if w = 8 then (if sCov σ = -1 then 0 else 1) else -1
def cntH (σ : RS) (j n : Nat) : Nat := cntF (fun i => !decide (pV σ j i = 0)) n
def anHeld (σ : RS) (s w : Int32) : Int32 := if isSp s = true then (if w = 0 then kOf σ (ix s) else if w = 1 then szOf σ (ix s) else if w = 2 then nI (cntH σ (ix s) (ix (szOf σ (ix s)))) else -1) else -9
def anSort (σ : RS) (s i : Int32) : Int32 := if isSp s = true then (if inPl i (szOf σ (ix s)) = true then (if rkOf σ (ix s) = true then (if pV σ (ix s) (ix i) = 0 then 0 else if plainV σ (pV σ (ix s) (ix i)) = true then 2 else 3) else 1) else -1) else -9
def anNumber (σ : RS) (s i : Int32) : Int64 := if isSp s = true then (if kOf σ (ix s) = 1 then (sLa σ (ix (-1 - sHo σ (ix s)))).toInt64 else if inPl i (szOf σ (ix s)) = true then (if rkOf σ (ix s) = true then (if pV σ (ix s) (ix i) = 0 then 0 else sCn σ (cIx (pV σ (ix s) (ix i)))) else pV σ (ix s) (ix i)) else 0) else 0
def anShown (σ : RS) (s i : Int32) : Int32 := if isSp s = true then (if rkOf σ (ix s) = true ∧ inPl i (szOf σ (ix s)) = true ∧ ¬ pV σ (ix s) (ix i) = 0 then sCs σ (cIx (pV σ (ix s) (ix i))) else -1) else -9
def anSame (σ : RS) (s i t j : Int32) : Int32 := if isSp s = true ∧ isSp t = true then (if i < 0 ∧ j < 0 then (if ¬ sHo σ (ix s) = 0 ∧ sHo σ (ix s) = sHo σ (ix t) then 1 else 0) else if rkOf σ (ix s) = true ∧ rkOf σ (ix t) = true ∧ inPl i (szOf σ (ix s)) = true ∧ inPl j (szOf σ (ix t)) = true ∧ ¬ pV σ (ix s) (ix i) = 0 ∧ pV σ (ix s) (ix i) = pV σ (ix t) (ix j) then 1 else 0) else -9
def rfThread (σ : RS) (s t : Int32) : Int32 × RS := if isSp s = true ∧ isSp t = true then (kOf (wHo σ (upd (sHo σ) (ix s) (sHo σ (ix t)))) (ix s), wHo σ (upd (sHo σ) (ix s) (sHo σ (ix t)))) else (-9, σ)
/-- the cards' counts when the n first places of a row are shown -/
def shN (P : Nat → Int64) (cs : Nat → Int32) : Nat → Nat → Int32
  | 0 => cs
  | n + 1 => if P n = 0 then shN P cs n else upd (shN P cs n) (cIx (P n)) (shN P cs n (cIx (P n)) + 1)
def rfShow (σ : RS) (s : Int32) : Int32 × RS := if isSp s = true then (if rkOf σ (ix s) = true then (nI (cntH σ (ix s) (ix (szOf σ (ix s)))), wCs σ (shN (pV σ (ix s)) (sCs σ) (ix (szOf σ (ix s))))) else (-1, σ)) else (-9, σ)
def rfBack (σ : RS) : Int32 × RS := if sCov σ = -1 then (0, σ) else (1, wCov (wPl σ (va_cpy (sWa σ) (sPl σ) 0 (80 * ix (sCov σ)) (ix (sSi σ (ix (sCov σ)))))) (-1))
