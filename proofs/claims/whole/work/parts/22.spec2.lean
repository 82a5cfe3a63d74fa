/-! ===== what put, hold, open, close and move do ===== -/
theorem pig : ∀ (n : Nat) (f : Nat → Nat), (∀ q, q ≤ n → f q < n) → ∃ a b, a < b ∧ b ≤ n ∧ f a = f b
  | 0, f, h => absurd (h 0 (Nat.le_refl 0)) (Nat.not_lt_zero _)
  | n + 1, f, h => by
    by_cases h1 : ∃ a, a ≤ n ∧ f a = f (n + 1)
    · obtain ⟨a, ha, e⟩ := h1
      exact ⟨a, n + 1, by omega, Nat.le_refl _, e⟩
    · have h2 : ∀ a, a ≤ n → f a ≠ f (n + 1) := fun a ha e => h1 ⟨a, ha, e⟩
      obtain ⟨a, b, hab, hb, e⟩ := pig n (fun q => if f q = n then f (n + 1) else f q) (fun q hq => by
        have h3 := h q (by omega)
        have h4 := h (n + 1) (Nat.le_refl _)
        have h5 := h2 q hq
        show (if f q = n then f (n + 1) else f q) < n
        split <;> omega)
      have ha2 := h2 a (by omega)
      have hb2 := h2 b hb
      refine ⟨a, b, hab, by omega, ?_⟩
      have e' : (if f a = n then f (n + 1) else f a) = (if f b = n then f (n + 1) else f b) := e
      split at e' <;> split at e' <;> omega
theorem anyN_t {P : Nat → Bool} : ∀ {n : Nat}, anyN P n = true → ∃ j, j < n ∧ P j = true
  | 0, h => by cases h
  | n + 1, h => by
    simp only [anyN, Bool.or_eq_true] at h
    rcases h with h | h
    · obtain ⟨j, hj, e⟩ := anyN_t h
      exact ⟨j, by omega, e⟩
    · exact ⟨n, by omega, h⟩
theorem anyN_f {P : Nat → Bool} : ∀ {n : Nat}, anyN P n = false → ∀ j, j < n → P j = false
  | 0, _, j, h => absurd h (Nat.not_lt_zero j)
  | n + 1, h, j, hj => by
    simp only [anyN, Bool.or_eq_false_iff] at h
    by_cases h1 : j < n
    · exact anyN_f h.1 j h1
    · rw [show j = n by omega]; exact h.2
theorem heldB_t {σ : RS} {t : Int32} (h : heldB σ t = true) : ∃ j, j < 10 ∧ sHo σ j = t := by
  obtain ⟨j, hj, e⟩ := anyN_t h
  exact ⟨j, hj, of_decide_eq_true e⟩
theorem heldB_f {σ : RS} {t : Int32} (h : heldB σ t = false) {j : Nat} (hj : j < 10) : ¬ sHo σ j = t := of_decide_eq_false (anyN_f h j hj)
theorem lab_inj : ∀ a, a < 10 → ∀ b, b < 10 → (-1 - nI a : Int32) = -1 - nI b → a = b := by decide +kernel
theorem row_inj : ∀ a, a < 12 → ∀ b, b < 12 → nI (a + 1) = nI (b + 1) → a = b := by decide +kernel
theorem nI12_inj : ∀ a, a < 12 → ∀ b, b < 12 → nI a = nI b → a = b := by decide +kernel
theorem lab_row : ∀ a, a < 10 → ∀ b, b < 12 → ¬ (-1 - nI a : Int32) = nI (b + 1) := by decide +kernel
/-- a label's place is free -/
theorem lab_free {σ : RS} {j : Nat} (hj : j < 10) (h0 : sHo σ j = 0) : lead (fun q => heldB σ (-1 - nI q)) 10 < 10 := by
  rcases Nat.lt_or_ge (lead (fun q => heldB σ (-1 - nI q)) 10) 10 with h | h
  · exact h
  · exfalso
    have e : lead (fun q => heldB σ (-1 - nI q)) 10 = 10 := Nat.le_antisymm (lead_le _ _) h
    have hall : ∀ q, q < 10 → ∃ i, i < 10 ∧ sHo σ i = -1 - nI q := fun q hq => heldB_t (lead_all _ 10 q (by rw [e]; exact hq))
    have key : ∀ q, q < 10 → lead (fun x => !decide (sHo σ x = -1 - nI q)) 10 < 10 ∧ sHo σ (lead (fun x => !decide (sHo σ x = -1 - nI q)) 10) = -1 - nI q := by
      intro q hq
      obtain ⟨i, hi, e1⟩ := hall q hq
      have l1 : lead (fun x => !decide (sHo σ x = -1 - nI q)) 10 ≤ i := by
        rcases Nat.lt_or_ge i (lead (fun x => !decide (sHo σ x = -1 - nI q)) 10) with h9 | h9
        · have := lead_all _ 10 i h9
          simp [e1] at this
        · exact h9
      have l2 : lead (fun x => !decide (sHo σ x = -1 - nI q)) 10 < 10 := by omega
      have := lead_stop _ 10 l2
      exact ⟨l2, by simpa using this⟩
    have key2 : ∀ q, q < 10 → lead (fun x => !decide (sHo σ x = -1 - nI q)) 10 ≠ j := fun q hq z => by
      have := (key q hq).2
      rw [z, h0] at this
      exact absurd this.symm (lab_n0 hq)
    obtain ⟨a, b, hab, hb, he⟩ := pig 9 (fun q => if lead (fun x => !decide (sHo σ x = -1 - nI q)) 10 < j then lead (fun x => !decide (sHo σ x = -1 - nI q)) 10 else lead (fun x => !decide (sHo σ x = -1 - nI q)) 10 - 1) (fun q hq => by
      have k1 := key q (by omega)
      have k2 := key2 q (by omega)
      split <;> omega)
    have ka := key a (by omega)
    have kb := key b (by omega)
    have na : lead (fun x => !decide (sHo σ x = -1 - nI a)) 10 ≠ j := fun z => by rw [z, h0] at ka; exact absurd ka.2.symm (lab_n0 (by omega))
    have nb : lead (fun x => !decide (sHo σ x = -1 - nI b)) 10 ≠ j := fun z => by rw [z, h0] at kb; exact absurd kb.2.symm (lab_n0 (by omega))
    have he' : (if lead (fun x => !decide (sHo σ x = -1 - nI a)) 10 < j then lead (fun x => !decide (sHo σ x = -1 - nI a)) 10 else lead (fun x => !decide (sHo σ x = -1 - nI a)) 10 - 1) = (if lead (fun x => !decide (sHo σ x = -1 - nI b)) 10 < j then lead (fun x => !decide (sHo σ x = -1 - nI b)) 10 else lead (fun x => !decide (sHo σ x = -1 - nI b)) 10 - 1) := he
    have e3 : lead (fun x => !decide (sHo σ x = -1 - nI a)) 10 = lead (fun x => !decide (sHo σ x = -1 - nI b)) 10 := by
      split at he' <;> split at he' <;> omega
    have e4 := ka.2
    rw [e3, kb.2] at e4
    have := lab_inj b (by omega) a (by omega) e4
    omega
def occR (σ : RS) (q : Nat) : Bool := decide (nI q = sCov σ) || heldB σ (nI (q + 1))
/-- a row's place is free -/
theorem row_free {σ : RS} {j : Nat} (hj : j < 10) (h0 : sHo σ j = 0) : lead (occR σ) 12 < 12 := by
  rcases Nat.lt_or_ge (lead (occR σ) 12) 12 with h | h
  · exact h
  · exfalso
    have e : lead (occR σ) 12 = 12 := Nat.le_antisymm (lead_le _ _) h
    have hall : ∀ q, q < 12 → ¬ nI q = sCov σ → ∃ i, i < 10 ∧ sHo σ i = nI (q + 1) := fun q hq hc => by
      have := lead_all _ 12 q (by rw [e]; exact hq)
      simp only [occR, Bool.or_eq_true, decide_eq_true_eq] at this
      exact heldB_t (this.resolve_left hc)
    have key : ∀ q, q < 12 → ¬ nI q = sCov σ → lead (fun x => !decide (sHo σ x = nI (q + 1))) 10 < 10 ∧ sHo σ (lead (fun x => !decide (sHo σ x = nI (q + 1))) 10) = nI (q + 1) ∧ lead (fun x => !decide (sHo σ x = nI (q + 1))) 10 ≠ j := by
      intro q hq hc
      obtain ⟨i, hi, e1⟩ := hall q hq hc
      have l1 : lead (fun x => !decide (sHo σ x = nI (q + 1))) 10 ≤ i := by
        rcases Nat.lt_or_ge i (lead (fun x => !decide (sHo σ x = nI (q + 1))) 10) with h9 | h9
        · have := lead_all _ 10 i h9
          simp [e1] at this
        · exact h9
      have l2 : lead (fun x => !decide (sHo σ x = nI (q + 1))) 10 < 10 := by omega
      have := lead_stop _ 10 l2
      have l3 : sHo σ (lead (fun x => !decide (sHo σ x = nI (q + 1))) 10) = nI (q + 1) := by simpa using this
      exact ⟨l2, l3, fun z => by rw [z, h0] at l3; exact absurd l3.symm (row_n0 hq)⟩
    obtain ⟨a, b, hab, hb, he⟩ := pig 10 (fun q => if nI q = sCov σ then 9 else if lead (fun x => !decide (sHo σ x = nI (q + 1))) 10 < j then lead (fun x => !decide (sHo σ x = nI (q + 1))) 10 else lead (fun x => !decide (sHo σ x = nI (q + 1))) 10 - 1) (fun q hq => by
      show (if _ then _ else _) < 10
      by_cases hc : nI q = sCov σ
      · rw [if_pos hc]; decide
      · rw [if_neg hc]
        have := key q (by omega) hc
        split <;> omega)
    have he' : (if nI a = sCov σ then 9 else if lead (fun x => !decide (sHo σ x = nI (a + 1))) 10 < j then lead (fun x => !decide (sHo σ x = nI (a + 1))) 10 else lead (fun x => !decide (sHo σ x = nI (a + 1))) 10 - 1) = (if nI b = sCov σ then 9 else if lead (fun x => !decide (sHo σ x = nI (b + 1))) 10 < j then lead (fun x => !decide (sHo σ x = nI (b + 1))) 10 else lead (fun x => !decide (sHo σ x = nI (b + 1))) 10 - 1) := he
    by_cases ca : nI a = sCov σ
    · by_cases cb : nI b = sCov σ
      · have := nI12_inj a (by omega) b (by omega) (ca.trans cb.symm)
        omega
      · rw [if_pos ca, if_neg cb] at he'
        have := key b (by omega) cb
        split at he' <;> omega
    · by_cases cb : nI b = sCov σ
      · rw [if_neg ca, if_pos cb] at he'
        have := key a (by omega) ca
        split at he' <;> omega
      · rw [if_neg ca, if_neg cb] at he'
        have ka := key a (by omega) ca
        have kb := key b (by omega) cb
        have e3 : lead (fun x => !decide (sHo σ x = nI (a + 1))) 10 = lead (fun x => !decide (sHo σ x = nI (b + 1))) 10 := by
          split at he' <;> split at he' <;> omega
        have e4 := ka.2.1
        rw [e3, kb.2.1] at e4
        have := row_inj b (by omega) a (by omega) e4
        omega
/-- spindle j taken empty -/
def rfOff (σ : RS) (j : Nat) : RS := wHo σ (upd (sHo σ) j 0)
def labQ (σ : RS) (j : Nat) : Nat := lead (fun q => heldB (rfOff σ j) (-1 - nI q)) 10
def rowQ (σ : RS) (j : Nat) : Nat := lead (occR (rfOff σ j)) 12
def rfLab (σ : RS) (j : Nat) (n : Int32) : RS := wHo (wLa (rfOff σ j) (upd (sLa σ) (labQ σ j) n)) (upd (upd (sHo σ) j 0) j (-1 - nI (labQ σ j)))
def rfRow (σ : RS) (j : Nat) (k : Int32) (n : Nat) : RS := wHo (wRow (wPl (wSi (wKi (rfOff σ j) (upd (sKi σ) (rowQ σ j) k)) (upd (sSi σ) (rowQ σ j) (nI n))) (blk (80 * rowQ σ j) (80 * rowQ σ j + n) 0 (sPl σ))) (sRow σ + 1)) (upd (upd (sHo σ) j 0) j (nI (rowQ σ j + 1)))
def rfHold (σ : RS) (s k n : Int32) : Int32 × RS := if isSp s = true then (if k < 0 ∨ 5 < k then (0, σ) else if 2 ≤ k then (if n < 0 ∨ 80 < n ∨ sRow σ = 600 then (0, σ) else (1, rfRow σ (ix s) k (ix n))) else if k = 0 then (1, rfOff σ (ix s)) else (1, rfLab σ (ix s) n)) else (-9, σ)
def rfCard (σ : RS) (v : Int64) : RS := wCar (wCs (wCn σ (vp_updL (sCn σ) (ix (sCar σ)) v)) (upd (sCs σ) (ix (sCar σ)) 0)) (sCar σ + 1)
def rfPut (σ : RS) (s i : Int32) (v : Int64) : Int32 × RS := if isSp s = true then (if kOf σ (ix s) = 0 then (-1, σ) else if kOf σ (ix s) = 1 then (1, wLa σ (upd (sLa σ) (ix (-1 - sHo σ (ix s))) v.toInt32)) else if rkOf σ (ix s) = true ∧ ¬ v = 0 ∧ sCar σ = 2000 then (0, σ) else if inPl i (szOf σ (ix s)) = true then (if kOf σ (ix s) = 5 ∧ v &&& 1 = 1 then (-4, σ) else if rkOf σ (ix s) = true ∧ ¬ v = 0 then (1, wPl (rfCard σ v) (vp_updL (sPl σ) (80 * rIx σ (ix s) + ix i) (sCar σ + 1).toInt64)) else (1, wPl σ (vp_updL (sPl σ) (80 * rIx σ (ix s) + ix i) (if kOf σ (ix s) = 2 then v.toInt32.toInt64 else v)))) else (-3, σ)) else (-9, σ)
/-- a row's places behind a gap (up) or a closing -/
def shP (up : Bool) (i n e : Nat) (P : Nat → Int64) (x : Nat) : Int64 := if up = true then (if x < i + n then 0 else P (x - n)) else (if x + n < e then P (x + n) else 0)
def shPl (up : Bool) (k i n e : Nat) (P : Nat → Int64) : Nat → Int64 := fun y => if 80 * k + i ≤ y ∧ y < 80 * k + e then shP up i n e (fun x => P (80 * k + x)) (y - 80 * k) else P y
def rfShiftOk (σ : RS) (up : Bool) (k i n e : Nat) : RS := wGoo (wCam (wPl (rfCover σ k e) (shPl up k i n e (sPl σ))) (nI (e - i - n))) (sGoo σ + 1)
def rfShift (σ : RS) (s i n : Int32) (up : Bool) : Int32 × RS := if isSp s = true then (if hindI σ (ix s) i n = 0 then (1, rfShiftOk σ up (rIx σ (ix s)) (ix i) (ix n) (ix (szOf σ (ix s)))) else (-hindI σ (ix s) i n, rfFails σ (ix (hindI σ (ix s) i n)))) else (-9, σ)
def mvN (σ : RS) (js jt i n : Nat) : Nat := lead (fun q => !(decide (kOf σ jt = 5) && plainV σ (pV σ js (i + q)))) n
def rfMvCov (σ : RS) (kt et many : Nat) : RS := if 0 < many then rfCover σ kt et else σ
def rfMvPl (σ : RS) (ks kt et i j many : Nat) : RS := wPl (rfMvCov σ kt et many) (va_cpy (sPl σ) (sPl σ) (80 * ks + i) (80 * kt + j) many)
def rfMvOk (σ : RS) (ks kt et i j n many : Nat) : Int32 × RS := if many < n then (-4, wCam (rfFails (rfMvPl σ ks kt et i j many) 4) (nI many)) else (nI n, wGoo (wCam (rfMvPl σ ks kt et i j many) (nI n)) (sGoo σ + 1))
def mvF (σ : RS) (js jt : Nat) (i j n : Int32) : Nat := if kOf σ js = 0 ∨ kOf σ jt = 0 then 1 else if kOf σ js = 1 ∨ kOf σ jt = 1 ∨ (¬ kOf σ js = kOf σ jt ∧ (kOf σ js < 4 ∨ kOf σ jt < 4)) then 2 else if beyB i n (szOf σ js) = true ∨ beyB j n (szOf σ jt) = true then 3 else 0
def rfMove (σ : RS) (s i t j n : Int32) : Int32 × RS := if isSp s = true ∧ isSp t = true then (if mvF σ (ix s) (ix t) i j n = 0 then rfMvOk σ (rIx σ (ix s)) (rIx σ (ix t)) (ix (szOf σ (ix t))) (ix i) (ix j) (ix n) (mvN σ (ix s) (ix t) (ix i) (ix n)) else (-nI (mvF σ (ix s) (ix t) i j n), rfFails σ (mvF σ (ix s) (ix t) i j n))) else (-9, σ)
