/-! ===== the invariant is kept ===== -/
section IV2
variable {σ : RS} {cc : Nat}
theorem Inv.mono {c2 : Nat} (hI : Inv σ cc) (h1 : cc ≤ c2) (h2 : c2 ≤ 512) : Inv σ c2 := by
  obtain ⟨-, a2, a3, a4, a5, ⟨a, a6, a7⟩, b, b1, b2, b3, b4⟩ := hI
  exact ⟨h2, a2, a3, a4, a5, ⟨a, by omega, a7⟩, b, by omega, b2, b3, b4⟩
theorem Inv.fails (hI : Inv σ cc) (t : Nat) : Inv (rfFails σ t) cc := hI
theorem Inv.cam (hI : Inv σ cc) (c : Int32) : Inv (wCam σ c) cc := hI
theorem Inv.goo (hI : Inv σ cc) (c : Int32) : Inv (wGoo σ c) cc := hI
theorem Inv.cs (hI : Inv σ cc) (c : Nat → Int32) : Inv (wCs σ c) cc := hI
theorem Inv.la (hI : Inv σ cc) (c : Nat → Int32) : Inv (wLa σ c) cc := hI
/-- the spindles change: what is held was held before -/
theorem Inv.ho2 (hI : Inv σ cc) {f : Nat → Int32} (h1 : ∀ j, j < 10 → hoOk (f j)) (h2 : ∀ k, k < 12 → (∃ j, j < 10 ∧ f j = nI (k + 1)) → ∃ j, j < 10 ∧ sHo σ j = nI (k + 1)) : Inv (wHo σ f) cc := by
  obtain ⟨a1, a2, a3, a4, a5, a6, b, b1, b2, b3, b4⟩ := hI
  exact ⟨a1, h1, a3, fun k hk hl => a4 k hk (hl.imp id (h2 k hk)), a5, a6, b, b1, b2, fun k hk hl => b3 k hk (hl.imp id (h2 k hk)), b4⟩
theorem Inv.thread (hI : Inv σ cc) {js jt : Nat} (hjt : jt < 10) : Inv (wHo σ (upd (sHo σ) js (sHo σ jt))) cc := by
  refine hI.ho2 (fun j hj => ?_) (fun k hk ⟨j, hj, e⟩ => ?_)
  · by_cases h : j = js
    · subst h; rw [pk_us]; exact hI.ho hjt
    · rw [pk_un h]; exact hI.ho hj
  · by_cases h : j = js
    · subst h; rw [pk_us] at e; exact ⟨jt, hjt, e⟩
    · rw [pk_un h] at e; exact ⟨j, hj, e⟩
theorem Inv.off (hI : Inv σ cc) (js : Nat) : Inv (rfOff σ js) cc := by
  refine hI.ho2 (fun j hj => ?_) (fun k hk ⟨j, hj, e⟩ => ?_)
  · by_cases h : j = js
    · subst h; rw [pk_us]; exact Or.inl rfl
    · rw [pk_un h]; exact hI.ho hj
  · by_cases h : j = js
    · subst h; rw [pk_us] at e; exact absurd e.symm (row_n0 hk)
    · rw [pk_un h] at e; exact ⟨j, hj, e⟩
theorem Inv.lab (hI : Inv σ cc) {js : Nat} (hjs : js < 10) (n : Int32) : Inv (rfLab σ js n) cc := by
  obtain ⟨hQ, -⟩ := labQ_free (σ := σ) hjs
  have h0 := (hI.off js).la (upd (sLa σ) (labQ σ js) n)
  refine h0.ho2 (fun j hj => ?_) (fun k hk ⟨j, hj, e⟩ => ?_)
  · by_cases h : j = js
    · subst h; rw [pk_us]; exact Or.inr (Or.inl ⟨_, hQ, rfl⟩)
    · rw [pk_un h]; exact h0.ho hj
  · by_cases h : j = js
    · subst h; rw [pk_us] at e; exact absurd e (lab_row _ hQ k hk)
    · rw [pk_un h] at e; exact ⟨j, hj, e⟩
theorem Inv.rowQ (hI : Inv σ cc) {js n Q : Nat} {kd : Int32} (hcc : cc < 512) (hn : n ≤ 80) (hkd : kStrip kd = true ∨ kRack kd = true) (hQ : Q < 12) (hfc : ¬ sCov σ = nI Q) (hfree : ∀ j, j < 10 → j ≠ js → ¬ sHo σ j = nI (Q + 1)) : Inv (rfRowQ σ js Q kd n) (cc + 1) := by
  obtain ⟨a1, a2, a3, a4, a5, ⟨a, a6, a7⟩, b, b1, b2, b3, b4⟩ := hI
  have eH : ∀ j, sHo (rfRowQ σ js Q kd n) j = if j = js then nI (Q + 1) else sHo σ j := by
    intro j
    show upd (upd (sHo σ) js 0) js (nI (Q + 1)) j = _
    by_cases h : j = js
    · subst h; rw [pk_us, if_pos rfl]
    · rw [pk_un h, pk_un h, if_neg h]
  have hlR : ∀ k, k < 12 → k ≠ Q → liveR (rfRowQ σ js Q kd n) k → liveR σ k := fun k hk hk2 hl => hl.imp id (fun ⟨j, hj, e⟩ => by
    rw [eH] at e
    by_cases h : j = js
    · rw [if_pos h] at e; exact absurd (row_inj _ hQ k hk e).symm hk2
    · rw [if_neg h] at e; exact ⟨j, hj, e⟩)
  have eSi : sSi (rfRowQ σ js Q kd n) = upd (sSi σ) Q (nI n) := rfl
  have eKi : sKi (rfRowQ σ js Q kd n) = upd (sKi σ) Q kd := rfl
  have ePl : sPl (rfRowQ σ js Q kd n) = blk (80 * Q) (80 * Q + n) 0 (sPl σ) := rfl
  refine ⟨by omega, fun j hj => ?_, a3, fun k hk hl => ?_, fun k hk => ?_, ⟨a + 1, by omega, ?_⟩, b, by omega, b2, fun k hk hl hr i n' en hn' hi => ?_, fun k hk hc hr i n' en hn' hi => ?_⟩
  · rw [eH]
    by_cases h : j = js
    · rw [if_pos h]; exact Or.inr (Or.inr ⟨Q, hQ, rfl⟩)
    · rw [if_neg h]; exact a2 j hj
  · rw [eKi]
    by_cases h : k = Q
    · rw [h, pk_us]; exact hkd
    · rw [pk_un h]; exact a4 k hk (hlR k hk h hl)
  · rw [eSi]
    by_cases h : k = Q
    · rw [h, pk_us]; exact ⟨n, hn, rfl⟩
    · rw [pk_un h]; exact a5 k hk
  · show sRow σ + 1 = _
    rw [a7, nI_1]
  · rw [ePl]
    by_cases h : k = Q
    · have : n' = n := by
        rw [eSi, h, pk_us] at en
        exact ((nI_eq (by omega) (by omega)).mp en).symm
      rw [h, blk_in (by omega)]
      exact Or.inl rfl
    · rw [blk_out (by omega)]
      have e2 := en
      rw [eSi, pk_un h] at e2
      have h2 := hr
      rw [eKi, pk_un h] at h2
      have := b3 k hk (hlR k hk h hl) h2 i n' e2 hn' hi
      unfold okP at this ⊢
      rw [eKi, pk_un h]; exact this
  · have h : k ≠ Q := fun z => hfc (by rw [← z]; exact hc)
    have e2 := en
    rw [eSi, pk_un h] at e2
    have h2 := hr
    rw [eKi, pk_un h] at h2
    have := b4 k hk hc h2 i n' e2 hn' hi
    unfold okP at this ⊢
    rw [eKi, pk_un h]; exact this
theorem Inv.hold (hI : Inv σ cc) (hcc : cc < 512) (s k n : Int32) : Inv (rfHold σ s k n).2 (cc + 1) := by
  have h0 := hI.mono (c2 := cc + 1) (by omega) (by omega)
  unfold rfHold
  by_cases hs : isSp s = true
  · rw [if_pos hs]
    obtain ⟨j, hj, rfl⟩ := isSp_of hs
    by_cases h1 : k < 0 ∨ 5 < k
    · rw [if_pos h1]; exact h0
    · rw [if_neg h1]
      by_cases h2 : 2 ≤ k
      · rw [if_pos h2]
        by_cases h3 : n < 0 ∨ 80 < n ∨ sRow σ = 600
        · rw [if_pos h3]; exact h0
        · rw [if_neg h3]
          obtain ⟨m, hm, rfl⟩ := nI_of2 (M := 80) (n := 80) rfl (fun z => h3 (Or.inl z)) (Int32.not_lt.mp (fun z => h3 (Or.inr (Or.inl z))))
          obtain ⟨hQ, hfc, hfree⟩ := rowQ_free (σ := σ) hj
          have e1 : ix (nI j) = j := nI_clamp (by omega)
          have e2 : ix (nI m) = m := nI_clamp (by omega)
          rw [e1, e2]
          exact hI.rowQ hcc hm (kd_of (fun z => h1 (Or.inl z)) (fun z => h1 (Or.inr z)) (fun z => by rw [z] at h2; exact absurd h2 (by decide)) (fun z => by rw [z] at h2; exact absurd h2 (by decide))).1 hQ hfc hfree
      · rw [if_neg h2]
        have e1 : ix (nI j) = j := nI_clamp (by omega)
        rw [e1]
        by_cases h3 : k = 0
        · rw [if_pos h3]; exact h0.off j
        · rw [if_neg h3]; exact h0.lab hj n
  · rw [if_neg hs]; exact h0
/-- places change -/
theorem Inv.pl (hI : Inv σ cc) {P : Nat → Int64} (h : ∀ b, b ≤ cc → sCar σ = nI b → (∀ k, k < 12 → liveR σ k → kRack (sKi σ k) = true → ∀ i n, sSi σ k = nI n → n ≤ 80 → i < n → okP σ b k (sPl σ (80 * k + i))) → (∀ k, k < 12 → sCov σ = nI k → kRack (sKi σ k) = true → ∀ i n, sSi σ k = nI n → n ≤ 80 → i < n → okP σ b k (sWa σ i)) → ∀ k, k < 12 → liveR σ k → kRack (sKi σ k) = true → ∀ i n, sSi σ k = nI n → n ≤ 80 → i < n → okP σ b k (P (80 * k + i))) : Inv (wPl σ P) cc := by
  obtain ⟨a1, a2, a3, a4, a5, a6, b, b1, b2, b3, b4⟩ := hI
  exact ⟨a1, a2, a3, a4, a5, a6, b, b1, b2, h b b1 b2 b3 b4, b4⟩
theorem Inv.cover (hI : Inv σ cc) {k n j : Nat} (hk : k < 12) (hj : j < 10) (h9 : sHo σ j = nI (k + 1)) (en : sSi σ k = nI n) (hn : n ≤ 80) : Inv (rfCover σ k n) cc := by
  have hlv := cov_live (n := n) hk hj h9
  obtain ⟨a1, a2, a3, a4, a5, a6, b, b1, b2, b3, b4⟩ := hI
  refine ⟨a1, a2, Or.inr ⟨k, hk, rfl⟩, fun q hq hl => a4 q hq (hlv q hq hl), a5, a6, b, b1, b2, fun q hq hl => b3 q hq (hlv q hq hl), fun q hq hc hr i n' en' hn' hi => ?_⟩
  have e1 : k = q := nI12_inj k hk q hq hc
  subst e1
  have e2 : n' = n := (nI_eq (by omega) (by omega)).mp (en'.symm.trans en)
  show okP σ b k (va_cpy (sPl σ) (sWa σ) (80 * k) 0 n i)
  rw [pk_cpy_in (by omega) (by omega), Nat.sub_zero]
  exact b3 k hk (Or.inr ⟨j, hj, h9⟩) hr i n en hn (by omega)
theorem Inv.uncov (hI : Inv σ cc) : Inv (wCov σ (-1)) cc := by
  obtain ⟨a1, a2, a3, a4, a5, a6, b, b1, b2, b3, b4⟩ := hI
  have hlv : ∀ q, q < 12 → liveR (wCov σ (-1)) q → liveR σ q := by
    intro q hq hl
    rcases hl with h1 | h1
    · exact absurd h1.symm (nI_nm1 q hq)
    · exact Or.inr h1
  exact ⟨a1, a2, Or.inl rfl, fun q hq hl => a4 q hq (hlv q hq hl), a5, a6, b, b1, b2, fun q hq hl => b3 q hq (hlv q hq hl), fun q hq hc => absurd hc.symm (nI_nm1 q hq)⟩
theorem Inv.back (hI : Inv σ cc) : Inv (rfBack σ).2 cc := by
  unfold rfBack
  by_cases h : sCov σ = -1
  · rw [if_pos h]; exact hI
  · rw [if_neg h]
    obtain ⟨k, hk, hc⟩ := hI.cov.resolve_left h
    obtain ⟨n, hn, en⟩ := hI.sz hk
    have e1 : ix (sCov σ) = k := by rw [hc]; exact nI_clamp (by omega)
    have e2 : ix (sSi σ k) = n := by rw [en]; exact nI_clamp (by omega)
    rw [e1, e2]
    refine Inv.uncov (hI.pl (fun b hb eb b3 b4 q hq hl hr i n' en' hn' hi => ?_))
    by_cases hqk : q = k
    · subst hqk
      have e3 : n' = n := (nI_eq (by omega) (by omega)).mp (en'.symm.trans en)
      rw [pk_cpy_in (by omega) (by omega), Nat.zero_add, Nat.add_sub_cancel_left]
      exact b4 q hq hc hr i n en hn (by omega)
    · rw [pk_cpy_out (by omega)]
      exact b3 q hq hl hr i n' en' hn' hi
theorem Inv.shift (hI : Inv σ cc) (s i n : Int32) (up : Bool) : Inv (rfShift σ s i n up).2 cc := by
  unfold rfShift
  by_cases hs : isSp s = true
  · rw [if_pos hs]
    obtain ⟨j, hj, rfl⟩ := isSp_of hs
    have e1 : ix (nI j) = j := nI_clamp (by omega)
    rw [e1]
    by_cases h : hindI σ j i n = 0
    · rw [if_pos h]
      obtain ⟨k, e, i', n', hk, e9, he, en, rfl, rfl, hin⟩ := hind0 hI hj h
      have e2 : ix (nI i') = i' := nI_clamp (by omega)
      have e3 : ix (nI n') = n' := nI_clamp (by omega)
      have e4 : ix (nI e) = e := nI_clamp (by omega)
      rw [rIx_row hk e9, szOf_row hk e9, en, e2, e3, e4]
      have h1 := hI.cover hk hj e9 en he
      refine Inv.goo (Inv.cam (h1.pl (fun b hb eb b3 b4 q hq hl hr w n2 en2 hn2 hw => ?_)) _) _
      have b3' : ∀ w, w < n2 → okP (rfCover σ k e) b q (sPl σ (80 * q + w)) := fun w hw => b3 q hq hl hr w n2 en2 hn2 hw
      unfold shPl
      split
      · rename_i hr9
        have hqk : q = k := by omega
        subst hqk
        have e5 : n2 = e := (nI_eq (by omega) (by omega)).mp (en2.symm.trans en)
        unfold shP
        split
        · split
          · exact Or.inl rfl
          · exact b3' _ (by omega)
        · split
          · exact b3' _ (by omega)
          · exact Or.inl rfl
      · exact b3' w hw
    · rw [if_neg h]; exact hI
  · rw [if_neg hs]; exact hI
theorem Inv.show (hI : Inv σ cc) (s : Int32) : Inv (rfShow σ s).2 cc := by
  unfold rfShow
  by_cases hs : isSp s = true
  · rw [if_pos hs]
    by_cases h : rkOf σ (ix s) = true
    · rw [if_pos h]; exact hI
    · rw [if_neg h]; exact hI
  · rw [if_neg hs]; exact hI
theorem Inv.thr (hI : Inv σ cc) (s t : Int32) : Inv (rfThread σ s t).2 cc := by
  unfold rfThread
  by_cases hs : isSp s = true ∧ isSp t = true
  · rw [if_pos hs]
    obtain ⟨j, hj, rfl⟩ := isSp_of hs.2
    have e1 : ix (nI j) = j := nI_clamp (by omega)
    rw [e1]
    exact hI.thread hj
  · rw [if_neg hs]; exact hI
end IV2
