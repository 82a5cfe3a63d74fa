section SL4
variable {cI cJ cC cH : ClassId} {x : Nat} {θ : TH} {σ : RS} {M : Nat → Option va_E} {cc : Nat}
variable {h : Nat} {k : Int32} {pn na ca : Nat} {lb : Int32} {f : Nat → Int64} {g : Nat → Option Nat}
/-- more cells -/
theorem hOk.ext {M' : Nat → Option va_E} (hh : hOk M cJ cC h k pn na ca lb f g) (e : ∀ a y, M a = some y → M' a = some y) : hOk M' cJ cC h k pn na ca lb f g := ⟨e _ _ hh.1, hh.2.1, e _ _ hh.2.2.1, e _ _ hh.2.2.2⟩
theorem hEx.ext {M' : Nat → Option va_E} (hh : hEx M cJ cC h k pn lb) (e : ∀ a y, M a = some y → M' a = some y) : hEx M' cJ cC h k pn lb := by
  obtain ⟨na, ca, f, g, hh⟩ := hh
  exact ⟨na, ca, f, g, hh.ext e⟩
theorem Sim.ext {M' : Nat → Option va_E} (hZ : Sim cI cJ cC cH x θ σ M) (e : ∀ a y, M a = some y → M' a = some y) : Sim cI cJ cC cH x θ σ M' := by
  obtain ⟨o1, o2, o3, o4⟩ := hZ.own
  obtain ⟨⟨c1, g1, h1⟩, ⟨n2, f2, h2⟩, h3, h4, h5⟩ := hZ.core
  obtain ⟨b, d1, d2, d3, d4⟩ := hZ.2.2.2.2.2.1
  refine Sim.mk ⟨e _ _ o1, e _ _ o2, e _ _ o3, o4⟩ ⟨⟨c1, g1, h1.ext e⟩, ⟨n2, f2, h2.ext e⟩, fun j hj => (h3 j hj).to (fun lb z => z.ext e), fun q hq hl => (h4 q hq hl).ext e, fun q hq hl => ?_⟩ hZ.2.2.2.2.1 ⟨b, d1, d2, fun c hc => e _ _ (d3 c hc), d4⟩ hZ.2.2.2.2.2.2
  obtain ⟨n, f, g, a1, a2, a3, a4⟩ := h5 q hq hl
  exact ⟨n, f, g, a1, a2, a3.ext e, a4⟩
theorem ext_new {b : Nat} {y : Option va_E} (hb : M b = none) : ∀ a z, M a = some z → va_up M b y a = some z := fun a z ha => by
  rw [va_up_ne _ _ (mw_nnew ha hb)]; exact ha
theorem sp_up (sp : Nat → Nat) (j v : Nat) : va_up (fun i => some (sp i)) j (some v) = fun i => some (va_up sp j v i) := by
  funext i
  unfold va_up
  split <;> rfl
/-- a spindle is threaded -/
theorem Sim.thread (hZ : Sim cI cJ cC cH x θ σ M) (hne : cC ≠ cH) {js jt : Nat} (hjs : js < 10) (hjt : jt < 10) : Sim cI cJ cC cH x (uSp θ (va_up (tSp θ) js (tSp θ jt))) (wHo σ (upd (sHo σ) js (sHo σ jt))) (va_up M (tA1 θ) (some (.inl (cH, 10, .inr (.inr (.inr (.inr (va_up (fun j => some (tSp θ j)) js (some (tSp θ jt))))))))))  := by
  obtain ⟨o1, o2, o3, o4⟩ := hZ.own
  have ho : oth cJ cC (M (tA1 θ)) := by rw [o2]; exact oth_hold hne
  have hc := hZ.core.oth (e := some (.inl (cH, 10, .inr (.inr (.inr (.inr (va_up (fun j => some (tSp θ j)) js (some (tSp θ jt))))))))) ho
  have hL : ∀ t, (∃ j, j < 10 ∧ upd (sHo σ) js (sHo σ jt) j = t) → ∃ j, j < 10 ∧ sHo σ j = t := by
    intro t hl
    obtain ⟨j, hj, e⟩ := hl
    by_cases hjj : j = js
    · subst hjj; rw [pk_us] at e; exact ⟨jt, hjt, e⟩
    · rw [pk_un hjj] at e; exact ⟨j, hj, e⟩
  have hlR : ∀ q, liveR (wHo σ (upd (sHo σ) js (sHo σ jt))) q → liveR σ q := fun q hl => hl.imp id (hL _)
  have hlL : ∀ q, liveL (wHo σ (upd (sHo σ) js (sHo σ jt))) q → liveL σ q := fun q hl => hL _ hl
  obtain ⟨h1, h2, h3, h4, h5⟩ := hc
  obtain ⟨a1, a2, a3⟩ := hZ.2.2.2.2.1
  refine Sim.mk ⟨(va_up_ne _ _ (mw_neq o1 o2 (fun z => by cases z))).trans o1, (va_up_self _ _ _).trans (by rw [sp_up]; rfl), (va_up_ne _ _ (mw_neq o3 o2 (fun z => by simp at z))).trans o3, o4⟩ ⟨h1, h2, fun j hj => ?_, fun q hq hl => h4 q hq (hlL q hl), fun q hq hl => h5 q hq (hlR q hl)⟩ ⟨fun a b ha hb la lb => a1 a b ha hb (hlR a la) (hlR b lb), fun a ha la => a2 a ha (hlR a la), fun a b ha hb la lb => a3 a b ha hb (hlL a la) (hlL b lb)⟩ (cardsOk.ne hZ.2.2.2.2.2.1 (fun fs z => by rw [o2] at z; cases z)) hZ.2.2.2.2.2.2
  show spOk _ cJ cC (wHo σ (upd (sHo σ) js (sHo σ jt))) (tLa θ) (tRa θ) j (va_up (tSp θ) js (tSp θ jt) j)
  unfold spOk
  show (upd (sHo σ) js (sHo σ jt) j = 0 ∧ _) ∨ _
  by_cases hjj : j = js
  · subst hjj
    have := h3 jt hjt
    unfold spOk at this
    rw [va_up_self]
    show (upd (sHo σ) j (sHo σ jt) j = 0 ∧ _) ∨ (∃ k, _ ∧ upd (sHo σ) j (sHo σ jt) j = _ ∧ _) ∨ ∃ k, _ ∧ upd (sHo σ) j (sHo σ jt) j = _ ∧ _
    rw [pk_us]; exact this
  · have := h3 j hj
    unfold spOk at this
    rw [va_up_ne _ _ hjj]
    show (upd (sHo σ) js (sHo σ jt) j = 0 ∧ _) ∨ (∃ k, _ ∧ upd (sHo σ) js (sHo σ jt) j = _ ∧ _) ∨ ∃ k, _ ∧ upd (sHo σ) js (sHo σ jt) j = _ ∧ _
    rw [pk_un hjj]; exact this
theorem kOf_thread (σ : RS) (js jt : Nat) : kOf (wHo σ (upd (sHo σ) js (sHo σ jt))) js = kOf σ jt := by
  unfold kOf rIx
  show (if upd (sHo σ) js (sHo σ jt) js = 0 then _ else if upd (sHo σ) js (sHo σ jt) js < 0 then _ else sKi σ ((upd (sHo σ) js (sHo σ jt) js - 1).toNatClampNeg)) = _
  rw [pk_us]
/-- a card is shown once more -/
theorem Sim.show1 (hZ : Sim cI cJ cC cH x θ σ M) {b c : Nat} (eb : sCar σ = nI b) (hb : b ≤ 512) (hc : c < b) : Sim cI cJ cC cH x θ (wCs σ (upd (sCs σ) c (sCs σ c + 1))) (va_up M (tCa θ c) (some (.inr (0, [.long (sCn σ c), .int (bI (evn (sCn σ c))), .int (sCs σ c + 1)])))) := by
  obtain ⟨o1, o2, o3, o4⟩ := hZ.own
  obtain ⟨b2, d1, d2, d3, d4⟩ := hZ.2.2.2.2.2.1
  have e2 : b2 = b := (nI_eq (by omega) (by omega)).mp (d1.symm.trans eb)
  subst e2
  have hq := d3 c hc
  refine Sim.mk (ownOk.ne ⟨o1, o2, o3, o4⟩ (mw_neq o1 hq (fun z => by simp at z)) (mw_neq o2 hq (fun z => by cases z)) (mw_neq o3 hq (fun z => by cases z))) (hZ.core.oth (by rw [hq]; exact oth_obj (by decide))) hZ.2.2.2.2.1 ⟨b2, d1, d2, fun c' hc' => ?_, d4⟩ hZ.2.2.2.2.2.2
  show _ = some (Sum.inr (0, [Value.long (sCn σ c'), Value.int (bI (evn (sCn σ c'))), Value.int (upd (sCs σ) c (sCs σ c + 1) c')]))
  by_cases h : c' = c
  · subst h; rw [va_up_self, pk_us]
  · rw [va_up_ne _ _ (fun z => h (d4 c' c hc' hc z)), pk_un h]; exact d3 c' hc'
/-- a label's number -/
theorem hOk.upH (hh : hOk M cJ cC h k pn na ca lb f g) {b : Nat} {fs : List Value} {e : Option va_E} (hb : M b = some (.inr (1, fs))) (hn : h ≠ b) : hOk (va_up M b e) cJ cC h k pn na ca lb f g :=
  hh.out hn (mw_neq hh.2.2.1 hb (fun z => by cases z)) (mw_neq hh.2.2.2 hb (fun z => by cases z))
theorem Sim.putLab (hZ : Sim cI cJ cC cH x θ σ M) {cc : Nat} (hI : Inv σ cc) {j k : Nat} {na ca : Nat} {lb v : Int32} {f : Nat → Int64} {g : Nat → Option Nat} (hj : j < 10) (hk : k < 10) (h9 : sHo σ j = -1 - nI k) (hh : hOk M cJ cC (tLa θ k) 1 0 na ca lb f g) : Sim cI cJ cC cH x θ (wLa σ (upd (sLa σ) k v)) (va_up M (tLa θ k) (some (.inr (1, [.int 1, .int (nI 0), .ref na, .ref ca, .int v])))) := by
  obtain ⟨o1, o2, o3, o4⟩ := hZ.own
  obtain ⟨⟨c1, g1, h1⟩, ⟨n2, f2, h2⟩, h3, h4, h5⟩ := hZ.core
  obtain ⟨a1, a2, a3⟩ := hZ.2.2.2.2.1
  have hb := hh.1
  have hl : liveL σ k := ⟨j, hj, h9⟩
  have kd : ∀ {h' : Nat} {k' : Int32} {pn' na' ca' : Nat} {lb' : Int32} {f' : Nat → Int64} {g' : Nat → Option Nat}, hOk M cJ cC h' k' pn' na' ca' lb' f' g' → k' ≠ 1 → h' ≠ tLa θ k := fun hh' hk' z => by
    have q := hh'.1
    rw [z, hb] at q
    simp at q
    exact hk' q.1.symm
  refine Sim.mk (ownOk.ne ⟨o1, o2, o3, o4⟩ (mw_neq o1 hb (fun z => by simp at z)) (mw_neq o2 hb (fun z => by cases z)) (mw_neq o3 hb (fun z => by cases z))) ⟨⟨c1, g1, h1.upH hb (kd h1 (by decide))⟩, ⟨n2, f2, h2.upH hb (kd h2 (by decide))⟩, fun i hi => ?_, fun q hq hlq => ?_, fun q hq hlq => ?_⟩ ⟨a1, a2, a3⟩ (cardsOk.ne hZ.2.2.2.2.2.1 (fun fs z => by rw [hb] at z; simp at z)) hZ.2.2.2.2.2.2
  · refine (h3 i hi).to (fun lb z => ?_)
    obtain ⟨na', ca', f', g', hh'⟩ := z
    exact ⟨na', ca', f', g', hh'.upH hb (kd hh' (by decide))⟩
  · show hEx _ cJ cC (tLa θ q) 1 0 (upd (sLa σ) k v q)
    by_cases hqk : q = k
    · subst hqk
      rw [pk_us]
      exact ⟨na, ca, f, g, va_up_self _ _ _, hh.2.1, by rw [va_up_ne _ _ hh.h_ne_na.symm]; exact hh.2.2.1, by rw [va_up_ne _ _ hh.h_ne_ca.symm]; exact hh.2.2.2⟩
    · rw [pk_un hqk]
      obtain ⟨na', ca', f', g', hh'⟩ := h4 q hq hlq
      exact ⟨na', ca', f', g', hh'.upH hb (fun z => hqk (a3 q k hq hk hlq hl z))⟩
  · obtain ⟨n9, f9, g9, b1, b2, b3, b4⟩ := h5 q hq hlq
    exact ⟨n9, f9, g9, b1, b2, b3.upH hb (kd b3 (hI.kn hq hlq).2), b4⟩
/-- a card comes -/
theorem Sim.newCard (hZ : Sim cI cJ cC cH x θ σ M) {b q : Nat} {v : Int64} (eb : sCar σ = nI b) (hb : b < 512) (hq : M q = some (.inr (0, [.long v, .int (bI (evn v)), .int 0]))) (hnew : ∀ c, c < b → tCa θ c ≠ q) (hok : ∀ k, k < 12 → liveR σ k → kRack (sKi σ k) = true → ∀ i n, sSi σ k = nI n → n ≤ 80 → i < n → sPl σ (80 * k + i) = 0 ∨ ∃ c, c < b ∧ sPl σ (80 * k + i) = lN (c + 1)) (hokw : ∀ k, k < 12 → sCov σ = nI k → kRack (sKi σ k) = true → ∀ i n, sSi σ k = nI n → n ≤ 80 → i < n → sWa σ i = 0 ∨ ∃ c, c < b ∧ sWa σ i = lN (c + 1)) : Sim cI cJ cC cH x (uCa θ (va_up (tCa θ) b q)) (rfCard σ v) (va_up M x (some (.inr (2, [.ref (tA1 θ), .ref (tA2 θ), .int (sCam σ), .int (sRow σ), .int (sCar σ + 1), va_rf (tCv θ), .ref (tSt θ), .ref (tRk θ)])))) := by
  obtain ⟨o1, o2, o3, o4, o5⟩ := hZ.own
  obtain ⟨h1, h2, h3, h4, h5⟩ := hZ.core
  obtain ⟨b2, d1, d2, d3, d4⟩ := hZ.2.2.2.2.2.1
  have e2 : b2 = b := (nI_eq (by omega) (by omega)).mp (d1.symm.trans eb)
  subst e2
  have ei : ix (sCar σ) = b2 := by rw [eb]; exact nI_clamp (by omega)
  have hcd : ∀ w : Int64, (w = 0 ∨ ∃ c, c < b2 ∧ w = lN (c + 1)) → cdR (tCa θ) w = cdR (va_up (tCa θ) b2 q) w := by
    intro w hw
    rcases hw with rfl | ⟨c, hc, rfl⟩
    · rfl
    · rw [cdR_n (lN_n0 (by omega)), cdR_n (lN_n0 (by omega)), cIx_lN (by omega), va_up_ne _ _ (show c ≠ b2 by omega)]
  refine Sim.fin (θ := uCa θ (va_up (tCa θ) b2 q)) (σ := rfCard σ v) o1 o2 o3 o4 o5 ⟨h1, h2, h3, h4, fun k hk hl => ?_⟩ hZ.2.2.2.2.1 ⟨b2 + 1, ?_, by omega, fun c hc => ?_, fun c c' hc hc' e => ?_⟩ ?_
  · obtain ⟨n, f, g, a1, a2, a3, a4, a5⟩ := h5 k hk hl
    exact ⟨n, f, g, a1, a2, a3, a4, fun hr i hi => (a5 hr i hi).trans (hcd _ (hok k hk hl hr i n a2 a1 hi))⟩
  · show sCar σ + 1 = nI (b2 + 1)
    rw [eb, nI_1]
  · show M (va_up (tCa θ) b2 q c) = some (Sum.inr (0, [Value.long (vp_updL (sCn σ) (ix (sCar σ)) v c), Value.int (bI (evn (vp_updL (sCn σ) (ix (sCar σ)) v c))), Value.int (upd (sCs σ) (ix (sCar σ)) 0 c)]))
    rw [ei]
    by_cases h : c = b2
    · subst h; rw [va_up_self, pk_uLs, pk_us]; exact hq
    · rw [va_up_ne _ _ h, pk_uLn h, pk_un h]; exact d3 c (by omega)
  · have e' : va_up (tCa θ) b2 q c = va_up (tCa θ) b2 q c' := e
    by_cases h : c = b2
    · by_cases h' : c' = b2
      · omega
      · rw [h, va_up_self, va_up_ne _ _ h'] at e'
        exact absurd e'.symm (hnew c' (by omega))
    · by_cases h' : c' = b2
      · rw [h', va_up_self, va_up_ne _ _ h] at e'
        exact absurd e' (hnew c (by omega))
      · rw [va_up_ne _ _ h, va_up_ne _ _ h'] at e'
        exact d4 c c' (by omega) (by omega) e'
  · rcases hZ.2.2.2.2.2.2 with z | ⟨k, n, hk, hc, hcv, en, hn, w1, w2⟩
    · exact Or.inl z
    · exact Or.inr ⟨k, n, hk, hc, hcv, en, hn, w1, fun hr i hi => (w2 hr i hi).trans (hcd _ (hokw k hk hc hr i n en hn hi))⟩
end SL4
