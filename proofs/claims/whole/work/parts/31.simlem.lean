/-! ===== how a write keeps Sim ===== -/
section SL
variable {cI cJ cC cH : ClassId} {x : Nat} {θ : TH} {σ : RS} {M : Nat → Option va_E} {cc : Nat}
variable {h : Nat} {k : Int32} {pn na ca : Nat} {lb : Int32} {f : Nat → Int64} {g : Nat → Option Nat}
/-- a cell that is no holding's part -/
def oth (cJ cC : ClassId) (o : Option va_E) : Prop := (∀ fs, o ≠ some (.inr (1, fs))) ∧ (∀ n f, o ≠ some (.inl (cJ, n, .inr (.inl f)))) ∧ ∀ n g, o ≠ some (.inl (cC, n, .inr (.inr (.inr (.inr g)))))
theorem oth_none : oth cJ cC none := ⟨fun _ z => (by cases z), fun _ _ z => (by cases z), fun _ _ z => (by cases z)⟩
theorem oth_obj {c : Nat} {fs : List Value} (hc : c ≠ 1) : oth cJ cC (some (.inr (c, fs))) := ⟨fun _ z => hc (by simp at z; exact z.1), fun _ _ z => (by cases z), fun _ _ z => (by cases z)⟩
theorem oth_int {n : Nat} {f : Nat → Int32} : oth cJ cC (some (.inl (cI, n, .inl f))) := ⟨fun _ z => (by cases z), fun _ _ z => (by simp at z), fun _ _ z => by simp at z⟩
theorem oth_hold {n : Nat} {g : Nat → Option Nat} (hne : cC ≠ cH) : oth cJ cC (some (.inl (cH, n, .inr (.inr (.inr (.inr g)))))) := ⟨fun _ z => (by cases z), fun _ _ z => (by simp at z), fun _ _ z => by simp at z; exact hne z.1.symm⟩
theorem hOk.oth (hh : hOk M cJ cC h k pn na ca lb f g) {b : Nat} {e : Option va_E} (ho : oth cJ cC (M b)) : hOk (va_up M b e) cJ cC h k pn na ca lb f g := by
  refine hh.out (fun z => ?_) (fun z => ?_) (fun z => ?_)
  · subst z; exact ho.1 _ hh.1
  · subst z; exact ho.2.1 _ _ hh.2.2.1
  · subst z; exact ho.2.2 _ _ hh.2.2.2
theorem hEx.oth {b : Nat} {e : Option va_E} (hh : hEx M cJ cC h k pn lb) (ho : oth cJ cC (M b)) : hEx (va_up M b e) cJ cC h k pn lb := by
  obtain ⟨na, ca, f, g, hh⟩ := hh
  exact ⟨na, ca, f, g, hh.oth ho⟩
/-- a row of cards is written -/
theorem hOk.upC (hh : hOk M cJ cC h k pn na ca lb f g) {b n : Nat} {g0 g1 : Nat → Option Nat} (hb : M b = some (.inl (cC, n, .inr (.inr (.inr (.inr g0)))))) : ∃ g2, hOk (va_up M b (some (.inl (cC, n, .inr (.inr (.inr (.inr g1))))))) cJ cC h k pn na ca lb f g2 ∧ (ca ≠ b → g2 = g) := by
  have h1 : h ≠ b := mw_neq hh.1 hb (fun z => by cases z)
  have h2 : na ≠ b := mw_neq hh.2.2.1 hb (fun z => by simp at z)
  by_cases hc : ca = b
  · subst hc
    refine ⟨g1, ⟨by rw [va_up_ne _ _ h1]; exact hh.1, hh.2.1, by rw [va_up_ne _ _ h2]; exact hh.2.2.1, ?_⟩, fun z => absurd rfl z⟩
    have q := hh.2.2.2
    rw [hb] at q
    simp at q
    rw [va_up_self, q.1]
  · exact ⟨g, hh.out h1 h2 hc, fun _ => rfl⟩
theorem hOk.upN (hh : hOk M cJ cC h k pn na ca lb f g) {b n : Nat} {f0 f1 : Nat → Int64} (hb : M b = some (.inl (cJ, n, .inr (.inl f0)))) : ∃ f2, hOk (va_up M b (some (.inl (cJ, n, .inr (.inl f1))))) cJ cC h k pn na ca lb f2 g ∧ (na ≠ b → f2 = f) := by
  have h1 : h ≠ b := mw_neq hh.1 hb (fun z => by cases z)
  have h2 : ca ≠ b := mw_neq hh.2.2.2 hb (fun z => by simp at z)
  by_cases hc : na = b
  · subst hc
    refine ⟨f1, ⟨by rw [va_up_ne _ _ h1]; exact hh.1, hh.2.1, ?_, by rw [va_up_ne _ _ h2]; exact hh.2.2.2⟩, fun z => absurd rfl z⟩
    have q := hh.2.2.1
    rw [hb] at q
    simp at q
    rw [va_up_self, q.1]
  · exact ⟨f, hh.out h1 hc h2, fun _ => rfl⟩
theorem hEx.upC {b n : Nat} {g0 g1 : Nat → Option Nat} (hh : hEx M cJ cC h k pn lb) (hb : M b = some (.inl (cC, n, .inr (.inr (.inr (.inr g0)))))) : hEx (va_up M b (some (.inl (cC, n, .inr (.inr (.inr (.inr g1))))))) cJ cC h k pn lb := by
  obtain ⟨na, ca, f, g, hh⟩ := hh
  obtain ⟨g2, h2, -⟩ := hh.upC (g1 := g1) hb
  exact ⟨na, ca, f, g2, h2⟩
theorem hEx.upN {b n : Nat} {f0 f1 : Nat → Int64} (hh : hEx M cJ cC h k pn lb) (hb : M b = some (.inl (cJ, n, .inr (.inl f0)))) : hEx (va_up M b (some (.inl (cJ, n, .inr (.inl f1))))) cJ cC h k pn lb := by
  obtain ⟨na, ca, f, g, hh⟩ := hh
  obtain ⟨f2, h2, -⟩ := hh.upN (f1 := f1) hb
  exact ⟨na, ca, f2, g, h2⟩
/-- the things on the spindles -/
def coreOk (M : Nat → Option va_E) (cJ cC : ClassId) (θ : TH) (σ : RS) : Prop :=
  (∃ c g, hOk M cJ cC (tSt θ) 3 80 (tSn θ) c 0 (tFs θ) g) ∧ (∃ n f, hOk M cJ cC (tRk θ) 4 80 n (tRq θ) 0 f (tGs θ)) ∧ (∀ j, j < 10 → spOk M cJ cC σ (tLa θ) (tRa θ) j (tSp θ j)) ∧ (∀ k, k < 10 → liveL σ k → hEx M cJ cC (tLa θ k) 1 0 (sLa σ k)) ∧ ∀ k, k < 12 → liveR σ k → rowOk M cJ cC σ (tCa θ) k (tRa θ k) (tRn θ k) (tRc θ k)
theorem spOk.to {M' : Nat → Option va_E} {j q : Nat} (hs : spOk M cJ cC σ (tLa θ) (tRa θ) j q) (hE : ∀ lb, hEx M cJ cC q 0 0 lb → hEx M' cJ cC q 0 0 lb) : spOk M' cJ cC σ (tLa θ) (tRa θ) j q := by
  rcases hs with ⟨a, lb, b⟩ | a | a
  · exact Or.inl ⟨a, lb, hE lb b⟩
  · exact Or.inr (Or.inl a)
  · exact Or.inr (Or.inr a)
theorem coreOk.oth {b : Nat} {e : Option va_E} (hh : coreOk M cJ cC θ σ) (ho : oth cJ cC (M b)) : coreOk (va_up M b e) cJ cC θ σ := by
  obtain ⟨⟨c, g, h1⟩, ⟨n, f, h2⟩, h3, h4, h5⟩ := hh
  refine ⟨⟨c, g, h1.oth ho⟩, ⟨n, f, h2.oth ho⟩, fun j hj => (h3 j hj).to (fun lb z => z.oth ho), fun k hk hl => (h4 k hk hl).oth ho, fun k hk hl => ?_⟩
  obtain ⟨n, f, g, a1, a2, a3, a4⟩ := h5 k hk hl
  exact ⟨n, f, g, a1, a2, a3.oth ho, a4⟩
theorem Sim.core (h : Sim cI cJ cC cH x θ σ M) : coreOk M cJ cC θ σ := ⟨h.1.2.2.2.2.2.1, h.1.2.2.2.2.2.2, h.2.1, h.2.2.1, h.2.2.2.1⟩
/-- the bench's own three cells -/
def ownOk (M : Nat → Option va_E) (cI cH : ClassId) (x : Nat) (θ : TH) (σ : RS) : Prop :=
  M x = some (.inr (2, [.ref (tA1 θ), .ref (tA2 θ), .int (sCam σ), .int (sRow σ), .int (sCar σ), va_rf (tCv θ), .ref (tSt θ), .ref (tRk θ)])) ∧ M (tA1 θ) = some (.inl (cH, 10, .inr (.inr (.inr (.inr (fun j => some (tSp θ j))))))) ∧ M (tA2 θ) = some (.inl (cI, 5, .inl (tEn θ))) ∧ tEn θ 0 = sGoo σ ∧ ∀ t, 1 ≤ t → t < 5 → tEn θ t = sFa σ t
theorem Sim.own (h : Sim cI cJ cC cH x θ σ M) : ownOk M cI cH x θ σ := ⟨h.1.1, h.1.2.1, h.1.2.2.1, h.1.2.2.2.1, h.1.2.2.2.2.1⟩
theorem Sim.mk (h1 : ownOk M cI cH x θ σ) (h2 : coreOk M cJ cC θ σ) (h3 : apartR σ θ) (h4 : cardsOk M σ (tCa θ)) (h5 : covOk σ (tRa θ) (tCa θ) (tCv θ) (tFs θ) (tGs θ)) : Sim cI cJ cC cH x θ σ M :=
  ⟨⟨h1.1, h1.2.1, h1.2.2.1, h1.2.2.2.1, h1.2.2.2.2, h2.1, h2.2.1⟩, h2.2.2.1, h2.2.2.2.1, h2.2.2.2.2, h3, h4, h5⟩
theorem ownOk.ne {b : Nat} {e : Option va_E} (h1 : ownOk M cI cH x θ σ) (a : x ≠ b) (c : tA1 θ ≠ b) (d : tA2 θ ≠ b) : ownOk (va_up M b e) cI cH x θ σ :=
  ⟨by rw [va_up_ne _ _ a]; exact h1.1, by rw [va_up_ne _ _ c]; exact h1.2.1, by rw [va_up_ne _ _ d]; exact h1.2.2.1, h1.2.2.2⟩
theorem cardsOk.ne {b : Nat} {e : Option va_E} (h : cardsOk M σ (tCa θ)) (hb : ∀ fs, M b ≠ some (.inr (0, fs))) : cardsOk (va_up M b e) σ (tCa θ) := by
  obtain ⟨n, h1, h2, h3, h4⟩ := h
  exact ⟨n, h1, h2, fun c hc => by rw [va_up_ne _ _ (fun z => hb _ (z ▸ h3 c hc))]; exact h3 c hc, h4⟩
/-- the row of cards that a spindle holds or that is covered gets new places -/
theorem Sim.rowC (hZ : Sim cI cJ cC cH x θ σ M) (hne : cC ≠ cH) {k n : Nat} (hk : k < 12) (hl : liveR σ k) (hr : kRack (sKi σ k) = true) (en : sSi σ k = nI n) (hn : n ≤ 80) {P' : Nat → Int64} {g' : Nat → Option Nat} (hP : ∀ k' i, k' < 12 → k' ≠ k → i < 80 → P' (80 * k' + i) = sPl σ (80 * k' + i)) (hg : ∀ i, i < n → g' i = cdR (tCa θ) (P' (80 * k + i))) : Sim cI cJ cC cH x θ (wPl σ P') (va_up M (tRc θ k) (some (.inl (cC, n, .inr (.inr (.inr (.inr g'))))))) := by
  obtain ⟨n0, f0, g0, hn0, en0, hh0, -, -⟩ := hZ.2.2.2.1 k hk hl
  have e0 : n0 = n := (nI_eq (by omega) (by omega)).mp (en0.symm.trans en)
  subst e0
  have hb := hh0.cds hr
  obtain ⟨⟨c1, g1, h1⟩, ⟨n2, f2, h2⟩, h3, h4, h5⟩ := hZ.core
  obtain ⟨a1, a2, a3⟩ := hZ.2.2.2.2.1
  obtain ⟨o1, o2, o3, o4⟩ := hZ.own
  refine Sim.mk (ownOk.ne ⟨o1, o2, o3, o4⟩ (mw_neq o1 hb (fun z => by cases z)) (mw_neq o2 hb (fun z => by simp at z; exact hne z.1.symm)) (mw_neq o3 hb (fun z => by simp at z))) ⟨?_, ?_, fun j hj => ?_, fun q hq hlq => (h4 q hq hlq).upC hb, fun q hq hlq => ?_⟩ ⟨a1, a2, a3⟩ (cardsOk.ne hZ.2.2.2.2.2.1 (fun fs z => by rw [hb] at z; cases z)) hZ.2.2.2.2.2.2
  · obtain ⟨g2, z, -⟩ := h1.upC (g1 := g') hb
    exact ⟨c1, g2, z⟩
  · obtain ⟨g2, z, zz⟩ := h2.upC (g1 := g') hb
    rw [zz (a2 k hk hl).2] at z
    exact ⟨n2, f2, z⟩
  · exact (h3 j hj).to (fun lb z => z.upC hb)
  · by_cases hqk : q = k
    · subst hqk
      refine ⟨n0, f0, g', hn0, en0, hh0.setC hr g', fun z => ?_, fun _ i hi => hg i hi⟩
      have z' : kStrip (sKi σ q) = true := z
      rw [kRS hr] at z'; cases z'
    · obtain ⟨n9, f9, g9, b1, b2, b3, b4, b5⟩ := h5 q hq hlq
      obtain ⟨g2, z, zz⟩ := b3.upC (g1 := g') hb
      rw [zz (fun w => hqk (a1 q k hq hk hlq hl (Or.inr (Or.inr w))))] at z
      exact ⟨n9, f9, g9, b1, b2, z, fun w i hi => (b4 w i hi).trans (hP q i hq hqk (by omega)).symm, fun w i hi => (b5 w i hi).trans (congrArg _ (hP q i hq hqk (by omega)).symm)⟩
theorem Sim.rowN (hZ : Sim cI cJ cC cH x θ σ M) {k n : Nat} (hk : k < 12) (hl : liveR σ k) (hr : kStrip (sKi σ k) = true) (en : sSi σ k = nI n) (hn : n ≤ 80) {P' : Nat → Int64} {f' : Nat → Int64} (hP : ∀ k' i, k' < 12 → k' ≠ k → i < 80 → P' (80 * k' + i) = sPl σ (80 * k' + i)) (hg : ∀ i, i < n → f' i = P' (80 * k + i)) : Sim cI cJ cC cH x θ (wPl σ P') (va_up M (tRn θ k) (some (.inl (cJ, n, .inr (.inl f'))))) := by
  obtain ⟨n0, f0, g0, hn0, en0, hh0, -, -⟩ := hZ.2.2.2.1 k hk hl
  have e0 : n0 = n := (nI_eq (by omega) (by omega)).mp (en0.symm.trans en)
  subst e0
  have hb := hh0.nms hr
  obtain ⟨⟨c1, g1, h1⟩, ⟨n2, f2, h2⟩, h3, h4, h5⟩ := hZ.core
  obtain ⟨a1, a2, a3⟩ := hZ.2.2.2.2.1
  obtain ⟨o1, o2, o3, o4⟩ := hZ.own
  refine Sim.mk (ownOk.ne ⟨o1, o2, o3, o4⟩ (mw_neq o1 hb (fun z => by cases z)) (mw_neq o2 hb (fun z => by simp at z)) (mw_neq o3 hb (fun z => by simp at z))) ⟨?_, ?_, fun j hj => ?_, fun q hq hlq => (h4 q hq hlq).upN hb, fun q hq hlq => ?_⟩ ⟨a1, a2, a3⟩ (cardsOk.ne hZ.2.2.2.2.2.1 (fun fs z => by rw [hb] at z; cases z)) hZ.2.2.2.2.2.2
  · obtain ⟨g2, z, zz⟩ := h1.upN (f1 := f') hb
    rw [zz (a2 k hk hl).1] at z
    exact ⟨c1, g1, z⟩
  · obtain ⟨g2, z, -⟩ := h2.upN (f1 := f') hb
    exact ⟨n2, g2, z⟩
  · exact (h3 j hj).to (fun lb z => z.upN hb)
  · by_cases hqk : q = k
    · subst hqk
      refine ⟨n0, f', g0, hn0, en0, hh0.setN hr f', fun _ i hi => hg i hi, fun z => ?_⟩
      have z' : kRack (sKi σ q) = true := z
      rw [kSR hr] at z'; cases z'
    · obtain ⟨n9, f9, g9, b1, b2, b3, b4, b5⟩ := h5 q hq hlq
      obtain ⟨g2, z, zz⟩ := b3.upN (f1 := f') hb
      rw [zz (fun w => hqk (a1 q k hq hk hlq hl (Or.inr (Or.inl w))))] at z
      exact ⟨n9, f9, g9, b1, b2, z, fun w i hi => (b4 w i hi).trans (hP q i hq hqk (by omega)).symm, fun w i hi => (b5 w i hi).trans (congrArg _ (hP q i hq hqk (by omega)).symm)⟩
/-- the bench's own object gets new numbers -/
theorem Sim.upX (hZ : Sim cI cJ cC cH x θ σ M) {θ' : TH} {σ' : RS} {e : va_E} (he : e = .inr (2, [.ref (tA1 θ'), .ref (tA2 θ'), .int (sCam σ'), .int (sRow σ'), .int (sCar σ'), va_rf (tCv θ'), .ref (tSt θ'), .ref (tRk θ')])) (h1 : tA1 θ' = tA1 θ) (h2 : tA2 θ' = tA2 θ) (h3 : tSp θ' = tSp θ) (h4 : tEn θ' = tEn θ) (h5 : sGoo σ' = sGoo σ) (h6 : sFa σ' = sFa σ) (hc : coreOk M cJ cC θ σ → coreOk M cJ cC θ' σ') (ha : apartR σ' θ') (hd : cardsOk M σ' (tCa θ')) (hv : covOk σ' (tRa θ') (tCa θ') (tCv θ') (tFs θ') (tGs θ')) : Sim cI cJ cC cH x θ' σ' (va_up M x (some e)) := by
  obtain ⟨o1, o2, o3, o4, o5⟩ := hZ.own
  refine Sim.mk ⟨by rw [va_up_self, he], ?_, ?_, by rw [h4, h5]; exact o4, fun t a b => by rw [h4, h6]; exact o5 t a b⟩ ((hc hZ.core).oth (by rw [o1]; exact oth_obj (by decide))) ha (cardsOk.ne hd (fun fs z => by rw [o1] at z; simp at z)) hv
  · rw [h1, h3, va_up_ne _ _ (mw_neq o2 o1 (fun z => by cases z))]; exact o2
  · rw [h2, h4, va_up_ne _ _ (mw_neq o3 o1 (fun z => by cases z))]; exact o3
end SL
