section SL2
variable {cI cJ cC cH : ClassId} {x : Nat} {θ : TH} {σ : RS} {M : Nat → Option va_E} {cc : Nat}
theorem Sim.fin {θ : TH} {σ : RS} {fs0 : List Value} (o1 : M x = some (.inr (2, fs0))) (o2 : M (tA1 θ) = some (.inl (cH, 10, .inr (.inr (.inr (.inr (fun j => some (tSp θ j)))))))) (o3 : M (tA2 θ) = some (.inl (cI, 5, .inl (tEn θ)))) (o4 : tEn θ 0 = sGoo σ) (o5 : ∀ t, 1 ≤ t → t < 5 → tEn θ t = sFa σ t) (hc : coreOk M cJ cC θ σ) (ha : apartR σ θ) (hd : cardsOk M σ (tCa θ)) (hv : covOk σ (tRa θ) (tCa θ) (tCv θ) (tFs θ) (tGs θ)) : Sim cI cJ cC cH x θ σ (va_up M x (some (.inr (2, [.ref (tA1 θ), .ref (tA2 θ), .int (sCam σ), .int (sRow σ), .int (sCar σ), va_rf (tCv θ), .ref (tSt θ), .ref (tRk θ)])))) := by
  refine Sim.mk ⟨va_up_self _ _ _, ?_, ?_, o4, o5⟩ (hc.oth (by rw [o1]; exact oth_obj (by decide))) ha (cardsOk.ne hd (fun fs z => by rw [o1] at z; simp at z)) hv
  · rw [va_up_ne _ _ (mw_neq o2 o1 (fun z => by cases z))]; exact o2
  · rw [va_up_ne _ _ (mw_neq o3 o1 (fun z => by cases z))]; exact o3
theorem coreOk.mono {σ' : RS} (h : coreOk M cJ cC θ σ) (e1 : sHo σ' = sHo σ) (e2 : sLa σ' = sLa σ) (e3 : sKi σ' = sKi σ) (e4 : sSi σ' = sSi σ) (e5 : sPl σ' = sPl σ) (hl : ∀ q, q < 12 → liveR σ' q → liveR σ q) : coreOk M cJ cC θ σ' := by
  obtain ⟨h1, h2, h3, h4, h5⟩ := h
  refine ⟨h1, h2, fun j hj => ?_, fun q hq hlq => ?_, fun q hq hlq => ?_⟩
  · have := h3 j hj
    unfold spOk at this ⊢
    rw [e1]; exact this
  · rw [e2]
    refine h4 q hq ?_
    unfold liveL at hlq ⊢
    rw [e1] at hlq; exact hlq
  · have := h5 q hq (hl q hq hlq)
    unfold rowOk at this ⊢
    rw [e3, e4, e5]; exact this
theorem apartR.mono {σ' : RS} (h : apartR σ θ) (e1 : sHo σ' = sHo σ) (hl : ∀ q, q < 12 → liveR σ' q → liveR σ q) : apartR σ' θ := by
  obtain ⟨h1, h2, h3⟩ := h
  refine ⟨fun a b ha hb la lb => h1 a b ha hb (hl a ha la) (hl b hb lb), fun a ha la => h2 a ha (hl a ha la), fun a b ha hb la lb => h3 a b ha hb ?_ ?_⟩
  · unfold liveL at la ⊢; rw [e1] at la; exact la
  · unfold liveL at lb ⊢; rw [e1] at lb; exact lb
/-- the endings' counts: one more of the sort t -/
def bumpE (σ : RS) (t : Nat) : RS := if t = 0 then wGoo σ (sGoo σ + 1) else wFa σ (upd (sFa σ) t (sFa σ t + 1))
theorem Sim.bump (hZ : Sim cI cJ cC cH x θ σ M) {t : Nat} (ht : t < 5) (c : Int32) : Sim cI cJ cC cH x (uEn θ (upd (tEn θ) t (tEn θ t + 1))) (wCam (bumpE σ t) c) (va_up (va_up M (tA2 θ) (some (.inl (cI, 5, .inl (upd (tEn θ) t (tEn θ t + 1)))))) x (some (.inr (2, [.ref (tA1 θ), .ref (tA2 θ), .int c, .int (sRow σ), .int (sCar σ), va_rf (tCv θ), .ref (tSt θ), .ref (tRk θ)])))) := by
  obtain ⟨o1, o2, o3, o4, o5⟩ := hZ.own
  have h0 := hZ.core.oth (b := tA2 θ) (e := some (.inl (cI, 5, .inl (upd (tEn θ) t (tEn θ t + 1))))) (by rw [o3]; exact oth_int)
  have hd := cardsOk.ne (b := tA2 θ) (e := some (.inl (cI, 5, .inl (upd (tEn θ) t (tEn θ t + 1))))) hZ.2.2.2.2.2.1 (fun fs z => by rw [o3] at z; cases z)
  have p1 : (va_up M (tA2 θ) (some (.inl (cI, 5, .inl (upd (tEn θ) t (tEn θ t + 1)))))) x = _ := (va_up_ne _ _ (mw_neq o1 o3 (fun z => by cases z))).trans o1
  have p2 : (va_up M (tA2 θ) (some (.inl (cI, 5, .inl (upd (tEn θ) t (tEn θ t + 1)))))) (tA1 θ) = _ := (va_up_ne _ _ (mw_neq o2 o3 (fun z => by simp at z))).trans o2
  by_cases h : t = 0
  · subst h
    exact Sim.fin (θ := uEn θ (upd (tEn θ) 0 (tEn θ 0 + 1))) (σ := wCam (wGoo σ (sGoo σ + 1)) c) p1 p2 (va_up_self _ _ _) (by show upd (tEn θ) 0 (tEn θ 0 + 1) 0 = sGoo σ + 1; rw [pk_us, o4]) (fun q a b => by show upd (tEn θ) 0 (tEn θ 0 + 1) q = sFa σ q; rw [pk_un (by omega)]; exact o5 q a b) h0 hZ.2.2.2.2.1 hd hZ.2.2.2.2.2.2
  · have e : bumpE σ t = wFa σ (upd (sFa σ) t (sFa σ t + 1)) := if_neg h
    rw [e]
    refine Sim.fin (θ := uEn θ (upd (tEn θ) t (tEn θ t + 1))) (σ := wCam (wFa σ (upd (sFa σ) t (sFa σ t + 1))) c) p1 p2 (va_up_self _ _ _) (by show upd (tEn θ) t (tEn θ t + 1) 0 = sGoo σ; rw [pk_un (by omega)]; exact o4) (fun q a b => ?_) h0 hZ.2.2.2.2.1 hd hZ.2.2.2.2.2.2
    show upd (tEn θ) t (tEn θ t + 1) q = upd (sFa σ) t (sFa σ t + 1) q
    by_cases hq : q = t
    · subst hq; rw [pk_us, pk_us, o5 q a b]
    · rw [pk_un hq, pk_un hq]; exact o5 q a b
theorem bump_fails (σ : RS) {t : Nat} (ht : t ≠ 0) : wCam (bumpE σ t) 0 = rfFails σ t := by
  unfold bumpE
  rw [if_neg ht]; rfl
/-- a row that a spindle holds is covered -/
theorem cov_live {σ : RS} {k n j : Nat} (hk : k < 12) (hj : j < 10) (h : sHo σ j = nI (k + 1)) : ∀ q, q < 12 → liveR (rfCover σ k n) q → liveR σ q := by
  intro q hq hl
  rcases hl with h1 | h1
  · have : k = q := nI12_inj k hk q hq h1
    subst this
    exact Or.inr ⟨j, hj, h⟩
  · exact Or.inr h1
theorem Sim.coverC (hZ : Sim cI cJ cC cH x θ σ M) (hne : cC ≠ cH) {k n j : Nat} {f : Nat → Int64} {g : Nat → Option Nat} (hk : k < 12) (hj : j < 10) (h9 : sHo σ j = nI (k + 1)) (hr : kRack (sKi σ k) = true) (en : sSi σ k = nI n) (hn : n ≤ 80) (hg : ∀ i, i < n → g i = cdR (tCa θ) (sPl σ (80 * k + i))) : Sim cI cJ cC cH x (uGs (uCv θ (some (tRa θ k))) (va_cpy g (tGs θ) 0 0 n)) (rfCover σ k n) (va_up (va_up M (tRq θ) (some (.inl (cC, 80, .inr (.inr (.inr (.inr (va_cpy g (tGs θ) 0 0 n)))))))) x (some (.inr (2, [.ref (tA1 θ), .ref (tA2 θ), .int (sCam σ), .int (sRow σ), .int (sCar σ), .ref (tRa θ k), .ref (tSt θ), .ref (tRk θ)])))) := by
  obtain ⟨o1, o2, o3, o4, o5⟩ := hZ.own
  obtain ⟨⟨c1, g1, h1⟩, ⟨n2, f2, h2⟩, h3, h4, h5⟩ := hZ.core
  obtain ⟨a1, a2, a3⟩ := hZ.2.2.2.2.1
  have hb : M (tRq θ) = some (.inl (cC, 80, .inr (.inr (.inr (.inr (tGs θ)))))) := h2.cds rfl
  have hlv := cov_live (n := n) hk hj h9
  refine Sim.fin (θ := uGs (uCv θ (some (tRa θ k))) (va_cpy g (tGs θ) 0 0 n)) (σ := rfCover σ k n) ((va_up_ne _ _ (mw_neq o1 hb (fun z => by cases z))).trans o1) ((va_up_ne _ _ (mw_neq o2 hb (fun z => by simp at z))).trans o2) ((va_up_ne _ _ (mw_neq o3 hb (fun z => by simp at z))).trans o3) o4 o5 (coreOk.mono (σ := σ) ⟨?_, ⟨n2, f2, h2.setC rfl _⟩, fun i hi => (h3 i hi).to (fun lb z => z.upC hb), fun q hq hlq => (h4 q hq hlq).upC hb, fun q hq hlq => ?_⟩ rfl rfl rfl rfl rfl hlv) (apartR.mono (σ := σ) ⟨a1, a2, a3⟩ rfl hlv) (cardsOk.ne hZ.2.2.2.2.2.1 (fun fs z => by rw [hb] at z; cases z)) (Or.inr ⟨k, n, hk, rfl, rfl, en, hn, fun z => ?_, fun _ i hi => ?_⟩)
  · obtain ⟨g2, z, -⟩ := h1.upC (g1 := va_cpy g (tGs θ) 0 0 n) hb
    exact ⟨c1, g2, z⟩
  · obtain ⟨n9, f9, g9, b1, b2, b3, b4⟩ := h5 q hq hlq
    obtain ⟨g2, z, zz⟩ := b3.upC (g1 := va_cpy g (tGs θ) 0 0 n) hb
    rw [zz (a2 q hq hlq).2.symm] at z
    exact ⟨n9, f9, g9, b1, b2, z, b4⟩
  · have z' : kStrip (sKi σ k) = true := z
    rw [kRS hr] at z'; cases z'
  · show va_cpy g (tGs θ) 0 0 n i = cdR (tCa θ) (va_cpy (sPl σ) (sWa σ) (80 * k) 0 n i)
    rw [pk_cpy_in (by omega) (by omega), pk_cpy_in (by omega) (by omega), Nat.sub_zero, Nat.zero_add]
    exact hg i hi
theorem Sim.coverN (hZ : Sim cI cJ cC cH x θ σ M) {k n j : Nat} {f : Nat → Int64} (hk : k < 12) (hj : j < 10) (h9 : sHo σ j = nI (k + 1)) (hr : kStrip (sKi σ k) = true) (en : sSi σ k = nI n) (hn : n ≤ 80) (hg : ∀ i, i < n → f i = sPl σ (80 * k + i)) : Sim cI cJ cC cH x (uFs (uCv θ (some (tRa θ k))) (va_cpy f (tFs θ) 0 0 n)) (rfCover σ k n) (va_up (va_up M (tSn θ) (some (.inl (cJ, 80, .inr (.inl (va_cpy f (tFs θ) 0 0 n)))))) x (some (.inr (2, [.ref (tA1 θ), .ref (tA2 θ), .int (sCam σ), .int (sRow σ), .int (sCar σ), .ref (tRa θ k), .ref (tSt θ), .ref (tRk θ)])))) := by
  obtain ⟨o1, o2, o3, o4, o5⟩ := hZ.own
  obtain ⟨⟨c1, g1, h1⟩, ⟨n2, f2, h2⟩, h3, h4, h5⟩ := hZ.core
  obtain ⟨a1, a2, a3⟩ := hZ.2.2.2.2.1
  have hb : M (tSn θ) = some (.inl (cJ, 80, .inr (.inl (tFs θ)))) := h1.nms rfl
  have hlv := cov_live (n := n) hk hj h9
  refine Sim.fin (θ := uFs (uCv θ (some (tRa θ k))) (va_cpy f (tFs θ) 0 0 n)) (σ := rfCover σ k n) ((va_up_ne _ _ (mw_neq o1 hb (fun z => by cases z))).trans o1) ((va_up_ne _ _ (mw_neq o2 hb (fun z => by simp at z))).trans o2) ((va_up_ne _ _ (mw_neq o3 hb (fun z => by simp at z))).trans o3) o4 o5 (coreOk.mono (σ := σ) ⟨⟨c1, g1, h1.setN rfl _⟩, ?_, fun i hi => (h3 i hi).to (fun lb z => z.upN hb), fun q hq hlq => (h4 q hq hlq).upN hb, fun q hq hlq => ?_⟩ rfl rfl rfl rfl rfl hlv) (apartR.mono (σ := σ) ⟨a1, a2, a3⟩ rfl hlv) (cardsOk.ne hZ.2.2.2.2.2.1 (fun fs z => by rw [hb] at z; cases z)) (Or.inr ⟨k, n, hk, rfl, rfl, en, hn, fun _ i hi => ?_, fun z => ?_⟩)
  · obtain ⟨g2, z, -⟩ := h2.upN (f1 := va_cpy f (tFs θ) 0 0 n) hb
    exact ⟨n2, g2, z⟩
  · obtain ⟨n9, f9, g9, b1, b2, b3, b4⟩ := h5 q hq hlq
    obtain ⟨g2, z, zz⟩ := b3.upN (f1 := va_cpy f (tFs θ) 0 0 n) hb
    rw [zz (a2 q hq hlq).1.symm] at z
    exact ⟨n9, f9, g9, b1, b2, z, b4⟩
  · show va_cpy f (tFs θ) 0 0 n i = va_cpy (sPl σ) (sWa σ) (80 * k) 0 n i
    rw [pk_cpy_in (by omega) (by omega), pk_cpy_in (by omega) (by omega), Nat.sub_zero, Nat.zero_add]
    exact hg i hi
  · have z' : kRack (sKi σ k) = true := z
    rw [kSR hr] at z'; cases z'
/-- nothing is covered any more -/
theorem Sim.uncover (hZ : Sim cI cJ cC cH x θ σ M) : Sim cI cJ cC cH x (uCv θ none) (wCov σ (-1)) (va_up M x (some (.inr (2, [.ref (tA1 θ), .ref (tA2 θ), .int (sCam σ), .int (sRow σ), .int (sCar σ), .null, .ref (tSt θ), .ref (tRk θ)])))) := by
  obtain ⟨o1, o2, o3, o4, o5⟩ := hZ.own
  have hlv : ∀ q, q < 12 → liveR (wCov σ (-1)) q → liveR σ q := by
    intro q hq hl
    rcases hl with h1 | h1
    · exact absurd h1.symm (nI_nm1 q hq)
    · exact Or.inr h1
  exact Sim.fin (θ := uCv θ none) (σ := wCov σ (-1)) o1 o2 o3 o4 o5 (coreOk.mono (σ := σ) hZ.core rfl rfl rfl rfl rfl hlv) (apartR.mono (σ := σ) hZ.2.2.2.2.1 rfl hlv) hZ.2.2.2.2.2.1 (Or.inl ⟨rfl, rfl⟩)
theorem kCH {D : va_G} {s : State} (hK : va_K D vwCl (tyL cI cJ cC cH) s) : cC ≠ cH := by
  intro e
  subst e
  obtain ⟨k1, c1, a1, b1, -⟩ := (hK.2 2 _ rfl).2
  obtain ⟨k2, c2, a2, b2, -⟩ := (hK.2 3 _ rfl).2
  have : k1 = k2 := Option.some.inj (a1.symm.trans a2)
  subst this
  have h := b1.symm.trans b2
  injection h with h1 h2
  injection h2 with h3
  exact absurd h3 (by decide)
end SL2
