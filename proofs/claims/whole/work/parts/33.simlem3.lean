section SL3
variable {cI cJ cC cH : ClassId} {x : Nat} {θ : TH} {σ : RS} {M : Nat → Option va_E} {cc : Nat}
theorem Sim.spRow (hZ : Sim cI cJ cC cH x θ σ M) {j k : Nat} (hj : j < 10) (hk : k < 12) (h9 : sHo σ j = nI (k + 1)) : tSp θ j = tRa θ k := by
  rcases hZ.2.1 j hj with ⟨h, -⟩ | ⟨q, hq, h, -⟩ | ⟨q, hq, h, e⟩
  · rw [h] at h9; exact absurd h9.symm (row_n0 hk)
  · rw [h] at h9; exact absurd h9 (lab_row q hq k hk)
  · rw [e, row_inj q hq k hk (h.symm.trans h9)]
theorem Sim.rowAt (hZ : Sim cI cJ cC cH x θ σ M) {k n : Nat} (hk : k < 12) (hl : liveR σ k) (en : sSi σ k = nI n) (hn : n ≤ 80) : ∃ f g, hOk M cJ cC (tRa θ k) (sKi σ k) n (tRn θ k) (tRc θ k) 0 f g ∧ (kStrip (sKi σ k) = true → ∀ i, i < n → f i = sPl σ (80 * k + i)) ∧ (kRack (sKi σ k) = true → ∀ i, i < n → g i = cdR (tCa θ) (sPl σ (80 * k + i))) := by
  obtain ⟨n0, f, g, h1, h2, h3, h4, h5⟩ := hZ.2.2.2.1 k hk hl
  have e : n0 = n := (nI_eq (by omega) (by omega)).mp (h2.symm.trans en)
  subst e
  exact ⟨f, g, h3, h4, h5⟩
theorem Sim.cel (hZ : Sim cI cJ cC cH x θ σ M) {b y : Nat} {v : Int64} (eb : sCar σ = nI b) (hb : b ≤ 512) (hv : v = 0 ∨ ∃ c, c < b ∧ v = lN (c + 1)) (h : cdR (tCa θ) v = some y) : ∃ fs, M y = some (.inr (0, fs)) := by
  rcases hv with rfl | ⟨c, hc, rfl⟩
  · rw [cdR_0] at h; cases h
  · obtain ⟨b2, e2, hb2, h3, -⟩ := hZ.2.2.2.2.2.1
    have : b2 = b := (nI_eq (by omega) (by omega)).mp (e2.symm.trans eb)
    rw [cdR_n (lN_n0 (by omega)), cIx_lN (by omega)] at h
    cases h
    exact ⟨_, h3 c (by omega)⟩
theorem Sim.copyC (hZ : Sim cI cJ cC cH x θ σ M) (hne : cC ≠ cH) {ks kt es et i j q : Nat} {gs gt : Nat → Option Nat} (hks : ks < 12) (hkt : kt < 12) (hlt : liveR σ kt) (hr : kRack (sKi σ kt) = true) (ent : sSi σ kt = nI et) (het : et ≤ 80) (hi : i + q ≤ es) (hes : es ≤ 80) (hj : j + q ≤ et) (h1 : ∀ w, w < es → gs w = cdR (tCa θ) (sPl σ (80 * ks + w))) (h2 : ∀ w, w < et → gt w = cdR (tCa θ) (sPl σ (80 * kt + w))) : Sim cI cJ cC cH x θ (wPl σ (va_cpy (sPl σ) (sPl σ) (80 * ks + i) (80 * kt + j) q)) (va_up M (tRc θ kt) (some (.inl (cC, et, .inr (.inr (.inr (.inr (va_cpy gs gt i j q)))))))) := by
  refine hZ.rowC hne hkt hlt hr ent het (fun k' w hk' hne' hw => pk_cpy_out (by omega)) (fun w hw => ?_)
  by_cases h : j ≤ w ∧ w < j + q
  · rw [pk_cpy_in h.1 h.2, pk_cpy_in (by omega) (by omega), h1 _ (by omega)]
    congr 2
    omega
  · rw [pk_cpy_out (by omega), pk_cpy_out (by omega), h2 w hw]
theorem Sim.copyN (hZ : Sim cI cJ cC cH x θ σ M) {ks kt es et i j q : Nat} {fs ft : Nat → Int64} (hks : ks < 12) (hkt : kt < 12) (hlt : liveR σ kt) (hr : kStrip (sKi σ kt) = true) (ent : sSi σ kt = nI et) (het : et ≤ 80) (hi : i + q ≤ es) (hes : es ≤ 80) (hj : j + q ≤ et) (h1 : ∀ w, w < es → fs w = sPl σ (80 * ks + w)) (h2 : ∀ w, w < et → ft w = sPl σ (80 * kt + w)) : Sim cI cJ cC cH x θ (wPl σ (va_cpy (sPl σ) (sPl σ) (80 * ks + i) (80 * kt + j) q)) (va_up M (tRn θ kt) (some (.inl (cJ, et, .inr (.inl (va_cpy fs ft i j q)))))) := by
  refine hZ.rowN hkt hlt hr ent het (fun k' w hk' hne' hw => pk_cpy_out (by omega)) (fun w hw => ?_)
  by_cases h : j ≤ w ∧ w < j + q
  · rw [pk_cpy_in h.1 h.2, pk_cpy_in (by omega) (by omega), h1 _ (by omega)]
    congr 1
    omega
  · rw [pk_cpy_out (by omega), pk_cpy_out (by omega), h2 w hw]
theorem blk_in {α : Type} {i j w : Nat} {b : α} {g : Nat → α} (h : i ≤ w ∧ w < j) : blk i j b g w = b := by
  unfold blk; rw [if_pos h]
theorem blk_out {α : Type} {i j w : Nat} {b : α} {g : Nat → α} (h : ¬ (i ≤ w ∧ w < j)) : blk i j b g w = g w := by
  unfold blk; rw [if_neg h]
theorem Sim.blankC (hZ : Sim cI cJ cC cH x θ σ M) (hne : cC ≠ cH) {k e i n : Nat} {g : Nat → Option Nat} (hk : k < 12) (hl : liveR σ k) (hr : kRack (sKi σ k) = true) (en : sSi σ k = nI e) (he : e ≤ 80) (hi : i + n ≤ e) (h2 : ∀ w, w < e → g w = cdR (tCa θ) (sPl σ (80 * k + w))) : Sim cI cJ cC cH x θ (wPl σ (blk (80 * k + i) (80 * k + i + n) 0 (sPl σ))) (va_up M (tRc θ k) (some (.inl (cC, e, .inr (.inr (.inr (.inr (blk i (i + n) none g)))))))) := by
  refine hZ.rowC hne hk hl hr en he (fun k' w hk' hne' hw => blk_out (by omega)) (fun w hw => ?_)
  by_cases h : i ≤ w ∧ w < i + n
  · rw [blk_in h, blk_in (by omega), cdR_0]
  · rw [blk_out h, blk_out (by omega), h2 w hw]
theorem Sim.blankN (hZ : Sim cI cJ cC cH x θ σ M) {k e i n : Nat} {f : Nat → Int64} (hk : k < 12) (hl : liveR σ k) (hr : kStrip (sKi σ k) = true) (en : sSi σ k = nI e) (he : e ≤ 80) (hi : i + n ≤ e) (h2 : ∀ w, w < e → f w = sPl σ (80 * k + w)) : Sim cI cJ cC cH x θ (wPl σ (blk (80 * k + i) (80 * k + i + n) 0 (sPl σ))) (va_up M (tRn θ k) (some (.inl (cJ, e, .inr (.inl (blk i (i + n) 0 f)))))) := by
  refine hZ.rowN hk hl hr en he (fun k' w hk' hne' hw => blk_out (by omega)) (fun w hw => ?_)
  by_cases h : i ≤ w ∧ w < i + n
  · rw [blk_in h, blk_in (by omega)]
  · rw [blk_out h, blk_out (by omega), h2 w hw]
theorem Sim.backC (hZ : Sim cI cJ cC cH x θ σ M) (hne : cC ≠ cH) {k n : Nat} {g : Nat → Option Nat} (hk : k < 12) (hl : liveR σ k) (hr : kRack (sKi σ k) = true) (en : sSi σ k = nI n) (hn : n ≤ 80) (h2 : ∀ w, w < n → tGs θ w = cdR (tCa θ) (sWa σ w)) : Sim cI cJ cC cH x θ (wPl σ (va_cpy (sWa σ) (sPl σ) 0 (80 * k) n)) (va_up M (tRc θ k) (some (.inl (cC, n, .inr (.inr (.inr (.inr (va_cpy (tGs θ) g 0 0 n)))))))) := by
  refine hZ.rowC hne hk hl hr en hn (fun k' w hk' hne' hw => pk_cpy_out (by omega)) (fun w hw => ?_)
  rw [pk_cpy_in (by omega) (by omega), pk_cpy_in (by omega) (by omega), Nat.sub_zero, Nat.zero_add, h2 w hw, Nat.zero_add, Nat.add_sub_cancel_left]
theorem Sim.backN (hZ : Sim cI cJ cC cH x θ σ M) {k n : Nat} {f : Nat → Int64} (hk : k < 12) (hl : liveR σ k) (hr : kStrip (sKi σ k) = true) (en : sSi σ k = nI n) (hn : n ≤ 80) (h2 : ∀ w, w < n → tFs θ w = sWa σ w) : Sim cI cJ cC cH x θ (wPl σ (va_cpy (sWa σ) (sPl σ) 0 (80 * k) n)) (va_up M (tRn θ k) (some (.inl (cJ, n, .inr (.inl (va_cpy (tFs θ) f 0 0 n)))))) := by
  refine hZ.rowN hk hl hr en hn (fun k' w hk' hne' hw => pk_cpy_out (by omega)) (fun w hw => ?_)
  rw [pk_cpy_in (by omega) (by omega), pk_cpy_in (by omega) (by omega), Nat.sub_zero, Nat.zero_add, h2 w hw, Nat.zero_add, Nat.add_sub_cancel_left]
theorem like5 {a b : Int32} (ha : a = 1 ∨ kStrip a = true ∨ kRack a = true) (hb : b = 1 ∨ kStrip b = true ∨ kRack b = true) : kLike a b = true ↔ ¬ (a = 1 ∨ b = 1 ∨ (¬ a = b ∧ (a < 4 ∨ b < 4))) := by
  simp only [kStrip, kRack, Bool.or_eq_true, decide_eq_true_eq] at ha hb
  rcases ha with rfl | (rfl | rfl) | (rfl | rfl) <;> rcases hb with rfl | (rfl | rfl) | (rfl | rfl) <;> decide
theorem mf_eq {cc : Nat} (hI : Inv σ cc) {js jt ps pt : Nat} {i j n : Int32} (hjs : js < 10) (hjt : jt < 10) (es : szOf σ js = nI ps) (et : szOf σ jt = nI pt) (hs : ps ≤ 80) (ht : pt ≤ 80) : mfI (kOf σ js) (kOf σ jt) ps pt i j n = nI (mvF σ js jt i j n) := by
  unfold mfI mvF
  by_cases h0 : kOf σ js = 0 ∨ kOf σ jt = 0
  · rw [if_pos h0, if_pos h0]; rfl
  · rw [if_neg h0, if_neg h0]
    have h1 : kOf σ js = 1 ∨ kStrip (kOf σ js) = true ∨ kRack (kOf σ js) = true := (kcase hI hjs).resolve_left (fun z => h0 (Or.inl z))
    have h2 : kOf σ jt = 1 ∨ kStrip (kOf σ jt) = true ∨ kRack (kOf σ jt) = true := (kcase hI hjt).resolve_left (fun z => h0 (Or.inr z))
    have hl := like5 h1 h2
    by_cases h3 : kLike (kOf σ js) (kOf σ jt) = true
    · rw [if_pos h3, if_neg (hl.mp h3), es, et, beyB_of hs, beyB_of ht]
      by_cases h4 : inPls i n (nI ps) = true ∧ inPls j n (nI pt) = true
      · rw [if_pos h4, if_neg (by rw [h4.1, h4.2]; decide)]; rfl
      · rw [if_neg h4, if_pos]
        · rfl
        · cases h5 : inPls i n (nI ps) with
          | false => exact Or.inl rfl
          | true =>
            cases h6 : inPls j n (nI pt) with
            | false => exact Or.inr rfl
            | true => exact absurd ⟨h5, h6⟩ h4
    · rw [if_neg h3, if_pos (Decidable.not_not.mp (fun z => h3 (hl.mpr z)))]; rfl
theorem sh_eq {cc : Nat} (hI : Inv σ cc) {j pn : Nat} {i n : Int32} (hj : j < 10) (ez : szOf σ j = nI pn) (hp : pn ≤ 80) : mfI (kOf σ j) (kOf σ j) pn pn i i n = hindI σ j i n := by
  unfold mfI hindI
  rcases hI.ho hj with h | ⟨k, hk, h⟩ | ⟨k, hk, h⟩
  · rw [if_pos (Or.inl (kOf_0 h)), if_pos h]
  · rw [kOf_lab hk h, if_neg (by decide), if_neg (by decide), h, if_neg (lab_n0 hk), if_neg (by rw [hasP_lab hk h]; decide)]
  · have kn := hI.kn hk (Inv.live hj h)
    have kd := hI.kd hk (Inv.live hj h)
    rw [kOf_row hk h, if_neg (fun z => kn.1 (z.elim id id)), if_pos ((like5 (Or.inr kd) (Or.inr kd)).mpr (fun z => z.elim kn.2 (fun z => z.elim kn.2 (fun z => z.1 rfl)))), h, if_neg (row_n0 hk), if_pos (hasP_row hk h), ez, beyB_of hp]
    cases h5 : inPls i n (nI pn) with
    | false => rfl
    | true => rfl
theorem mvF_lt (σ : RS) (js jt : Nat) (i j n : Int32) : mvF σ js jt i j n < 4 := by
  unfold mvF
  split
  · decide
  · split
    · decide
    · split <;> decide
/-- a gap, a closing: as a copy and a blank -/
theorem shPl_up {k i n e : Nat} (P : Nat → Int64) (h : i + n ≤ e) : shPl true k i n e P = blk (80 * k + i) (80 * k + i + n) 0 (va_cpy P P (80 * k + i) (80 * k + (i + n)) (e - i - n)) := by
  funext y
  unfold shPl shP blk va_cpy
  simp only [if_true]
  by_cases h1 : 80 * k + i ≤ y ∧ y < 80 * k + e
  · rw [if_pos h1]
    by_cases h2 : y < 80 * k + i + n
    · rw [if_pos (by omega), if_pos (by omega)]
    · rw [if_neg (by omega), if_neg (by omega), if_pos (by omega)]
      congr 1
      omega
  · rw [if_neg h1, if_neg (by omega), if_neg (by omega)]
theorem shPl_dn {k i n e : Nat} (P : Nat → Int64) (h : i + n ≤ e) : shPl false k i n e P = blk (80 * k + (i + (e - i - n))) (80 * k + (i + (e - i - n)) + n) 0 (va_cpy P P (80 * k + (i + n)) (80 * k + i) (e - i - n)) := by
  funext y
  unfold shPl shP blk va_cpy
  simp only [Bool.false_eq_true, if_false]
  by_cases h1 : 80 * k + i ≤ y ∧ y < 80 * k + e
  · rw [if_pos h1]
    by_cases h2 : y + n < 80 * k + e
    · rw [if_pos (by omega), if_neg (by omega), if_pos (by omega)]
      congr 1
      omega
    · rw [if_neg (by omega), if_pos (by omega)]
  · rw [if_neg h1, if_neg (by omega), if_neg (by omega)]
end SL3
