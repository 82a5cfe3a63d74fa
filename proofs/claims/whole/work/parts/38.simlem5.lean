section SL5
variable {cI cJ cC cH : ClassId} {x : Nat} {θ : TH} {σ : RS} {M : Nat → Option va_E} {cc : Nat}
/-- a spindle takes a new thing: what the others hold stays -/
theorem spOk.keep {σ' : RS} {la ra la' ra' : Nat → Nat} {j q : Nat} (h : spOk M cJ cC σ la ra j q) (e : sHo σ' j = sHo σ j) (hl : ∀ k, k < 10 → sHo σ j = -1 - nI k → la' k = la k) (hr : ∀ k, k < 12 → sHo σ j = nI (k + 1) → ra' k = ra k) : spOk M cJ cC σ' la' ra' j q := by
  unfold spOk at h ⊢
  rw [e]
  rcases h with a | ⟨k, a, b, c⟩ | ⟨k, a, b, c⟩
  · exact Or.inl a
  · exact Or.inr (Or.inl ⟨k, a, b, by rw [hl k a b]; exact c⟩)
  · exact Or.inr (Or.inr ⟨k, a, b, by rw [hr k a b]; exact c⟩)
theorem Sim.a1 (hZ : Sim cI cJ cC cH x θ σ M) (hne : cC ≠ cH) (js q : Nat) : (∀ a y, a ≠ tA1 θ → M a = some y → va_up M (tA1 θ) (some (.inl (cH, 10, .inr (.inr (.inr (.inr (va_up (fun j => some (tSp θ j)) js (some q)))))))) a = some y) ∧ coreOk (va_up M (tA1 θ) (some (.inl (cH, 10, .inr (.inr (.inr (.inr (va_up (fun j => some (tSp θ j)) js (some q))))))))) cJ cC θ σ ∧ cardsOk (va_up M (tA1 θ) (some (.inl (cH, 10, .inr (.inr (.inr (.inr (va_up (fun j => some (tSp θ j)) js (some q))))))))) σ (tCa θ) ∧ oth cJ cC (M (tA1 θ)) := by
  have o2 := hZ.own.2.1
  have ho : oth cJ cC (M (tA1 θ)) := by rw [o2]; exact oth_hold hne
  exact ⟨fun a y ha hy => by rw [va_up_ne _ _ ha]; exact hy, hZ.core.oth ho, cardsOk.ne hZ.2.2.2.2.2.1 (fun fs z => by rw [o2] at z; cases z), ho⟩
theorem Sim.holdN (hZ : Sim cI cJ cC cH x θ σ M) (hne : cC ≠ cH) {js q : Nat} {lb : Int32} (hjs : js < 10) (hq : hEx M cJ cC q 0 0 lb) : Sim cI cJ cC cH x (uSp θ (va_up (tSp θ) js q)) (rfOff σ js) (va_up M (tA1 θ) (some (.inl (cH, 10, .inr (.inr (.inr (.inr (va_up (fun j => some (tSp θ j)) js (some q))))))))) := by
  obtain ⟨o1, o2, o3, o4⟩ := hZ.own
  obtain ⟨he, ⟨h1, h2, h3, h4, h5⟩, hd, ho⟩ := hZ.a1 hne js q
  obtain ⟨a1, a2, a3⟩ := hZ.2.2.2.2.1
  have hL : ∀ t : Int32, ¬ t = 0 → (∃ j, j < 10 ∧ upd (sHo σ) js 0 j = t) → ∃ j, j < 10 ∧ sHo σ j = t := by
    intro t ht hl
    obtain ⟨j, hj, e⟩ := hl
    by_cases hjj : j = js
    · subst hjj; rw [pk_us] at e; exact absurd e.symm ht
    · rw [pk_un hjj] at e; exact ⟨j, hj, e⟩
  have hlR : ∀ q, q < 12 → liveR (rfOff σ js) q → liveR σ q := fun q hq hl => hl.imp id (hL _ (row_n0 hq))
  have hlL : ∀ q, q < 10 → liveL (rfOff σ js) q → liveL σ q := fun q hq hl => hL _ (lab_n0 hq) hl
  refine Sim.mk ⟨he _ _ (mw_neq o1 o2 (fun z => by cases z)) o1, (va_up_self _ _ _).trans (by rw [sp_up]; rfl), he _ _ (mw_neq o3 o2 (fun z => by simp at z)) o3, o4⟩ ⟨h1, h2, fun j hj => ?_, fun q hq hl => h4 q hq (hlL q hq hl), fun q hq hl => h5 q hq (hlR q hq hl)⟩ ⟨fun a b ha hb la lb => a1 a b ha hb (hlR a ha la) (hlR b hb lb), fun a ha la => a2 a ha (hlR a ha la), fun a b ha hb la lb => a3 a b ha hb (hlL a ha la) (hlL b hb lb)⟩ hd hZ.2.2.2.2.2.2
  show spOk _ cJ cC (rfOff σ js) (tLa θ) (tRa θ) j (va_up (tSp θ) js q j)
  by_cases hjj : j = js
  · subst hjj
    rw [va_up_self]
    exact Or.inl ⟨pk_us, lb, hq.oth ho⟩
  · rw [va_up_ne _ _ hjj]
    exact (h3 j hj).keep (pk_un hjj) (fun _ _ _ => rfl) (fun _ _ _ => rfl)
theorem labQ_free {σ : RS} {js : Nat} (hjs : js < 10) : labQ σ js < 10 ∧ ∀ j, j < 10 → j ≠ js → ¬ sHo σ j = -1 - nI (labQ σ js) := by
  have h0 : sHo (rfOff σ js) js = 0 := pk_us
  have hQ : labQ σ js < 10 := lab_free hjs h0
  refine ⟨hQ, fun j hj hne e => ?_⟩
  have := lead_stop (fun q => heldB (rfOff σ js) (-1 - nI q)) 10 hQ
  refine heldB_f this hj ?_
  show upd (sHo σ) js 0 j = _
  rw [pk_un hne]; exact e
theorem rowQ_free {σ : RS} {js : Nat} (hjs : js < 10) : rowQ σ js < 12 ∧ ¬ sCov σ = nI (rowQ σ js) ∧ ∀ j, j < 10 → j ≠ js → ¬ sHo σ j = nI (rowQ σ js + 1) := by
  have h0 : sHo (rfOff σ js) js = 0 := pk_us
  have hQ : rowQ σ js < 12 := row_free hjs h0
  have := lead_stop (occR (rfOff σ js)) 12 hQ
  unfold occR at this
  rw [Bool.or_eq_false_iff] at this
  refine ⟨hQ, fun e => of_decide_eq_false this.1 e.symm, fun j hj hne e => ?_⟩
  refine heldB_f this.2 hj ?_
  show upd (sHo σ) js 0 j = _
  rw [pk_un hne]; exact e
theorem Sim.holdL (hZ : Sim cI cJ cC cH x θ σ M) (hne : cC ≠ cH) {js q : Nat} {n : Int32} (hjs : js < 10) (hq : hEx M cJ cC q 1 0 n) (hqL : ∀ k, k < 10 → liveL σ k → tLa θ k ≠ q) : Sim cI cJ cC cH x (uLa (uSp θ (va_up (tSp θ) js q)) (va_up (tLa θ) (labQ σ js) q)) (rfLab σ js n) (va_up M (tA1 θ) (some (.inl (cH, 10, .inr (.inr (.inr (.inr (va_up (fun j => some (tSp θ j)) js (some q))))))))) := by
  obtain ⟨o1, o2, o3, o4⟩ := hZ.own
  obtain ⟨he, ⟨h1, h2, h3, h4, h5⟩, hd, ho⟩ := hZ.a1 hne js q
  obtain ⟨a1, a2, a3⟩ := hZ.2.2.2.2.1
  obtain ⟨hQ, hfree⟩ := labQ_free (σ := σ) hjs
  have eH : ∀ j, sHo (rfLab σ js n) j = if j = js then -1 - nI (labQ σ js) else sHo σ j := by
    intro j
    show upd (upd (sHo σ) js 0) js (-1 - nI (labQ σ js)) j = _
    by_cases h : j = js
    · subst h; rw [pk_us, if_pos rfl]
    · rw [pk_un h, pk_un h, if_neg h]
  have hlR : ∀ q, q < 12 → liveR (rfLab σ js n) q → liveR σ q := fun q hq hl => hl.imp id (fun ⟨j, hj, e⟩ => by
    rw [eH] at e
    by_cases h : j = js
    · rw [if_pos h] at e; exact absurd e (lab_row _ hQ q hq)
    · rw [if_neg h] at e; exact ⟨j, hj, e⟩)
  have hlL : ∀ k, k < 10 → liveL (rfLab σ js n) k → k = labQ σ js ∨ (k ≠ labQ σ js ∧ liveL σ k) := fun k hk hl => by
    obtain ⟨j, hj, e⟩ := hl
    rw [eH] at e
    by_cases h : j = js
    · rw [if_pos h] at e; exact Or.inl (lab_inj _ hQ k hk e).symm
    · rw [if_neg h] at e
      by_cases hk2 : k = labQ σ js
      · exact Or.inl hk2
      · exact Or.inr ⟨hk2, j, hj, e⟩
  refine Sim.mk ⟨he _ _ (mw_neq o1 o2 (fun z => by cases z)) o1, (va_up_self _ _ _).trans (by rw [sp_up]; rfl), he _ _ (mw_neq o3 o2 (fun z => by simp at z)) o3, o4⟩ ⟨h1, h2, fun j hj => ?_, fun k hk hl => ?_, fun q hq hl => h5 q hq (hlR q hq hl)⟩ ⟨fun a b ha hb la lb => a1 a b ha hb (hlR a ha la) (hlR b hb lb), fun a ha la => a2 a ha (hlR a ha la), fun a b ha hb la lb e => ?_⟩ hd hZ.2.2.2.2.2.2
  · show spOk _ cJ cC (rfLab σ js n) (va_up (tLa θ) (labQ σ js) q) (tRa θ) j (va_up (tSp θ) js q j)
    by_cases hjj : j = js
    · rw [hjj, va_up_self]
      exact Or.inr (Or.inl ⟨labQ σ js, hQ, by rw [eH, if_pos rfl], (va_up_self _ _ _).symm⟩)
    · rw [va_up_ne _ _ hjj]
      refine (h3 j hj).keep (by rw [eH, if_neg hjj]) (fun k hk e => va_up_ne _ _ (fun z => ?_)) (fun _ _ _ => rfl)
      rw [z] at e
      exact hfree j hj hjj e
  · show hEx _ cJ cC (va_up (tLa θ) (labQ σ js) q k) 1 0 (upd (sLa σ) (labQ σ js) n k)
    rcases hlL k hk hl with rfl | ⟨hk2, hl2⟩
    · rw [va_up_self, pk_us]; exact hq.oth ho
    · rw [va_up_ne _ _ hk2, pk_un hk2]; exact h4 k hk hl2
  · have e' : va_up (tLa θ) (labQ σ js) q a = va_up (tLa θ) (labQ σ js) q b := e
    rcases hlL a ha la with h | ⟨ha2, la2⟩ <;> rcases hlL b hb lb with h' | ⟨hb2, lb2⟩
    · omega
    · rw [h, va_up_self, va_up_ne _ _ hb2] at e'
      exact absurd e'.symm (hqL b hb lb2)
    · rw [h', va_up_self, va_up_ne _ _ ha2] at e'
      exact absurd e' (hqL a ha la2)
    · rw [va_up_ne _ _ ha2, va_up_ne _ _ hb2] at e'
      exact a3 a b ha hb la2 lb2 e'
def rfRowQ (σ : RS) (j Q : Nat) (k : Int32) (n : Nat) : RS := wHo (wRow (wPl (wSi (wKi (rfOff σ j) (upd (sKi σ) Q k)) (upd (sSi σ) Q (nI n))) (blk (80 * Q) (80 * Q + n) 0 (sPl σ))) (sRow σ + 1)) (upd (upd (sHo σ) j 0) j (nI (Q + 1)))
set_option maxHeartbeats 4000000 in
theorem Sim.holdRQ (hZ : Sim cI cJ cC cH x θ σ M) (hne : cC ≠ cH) {js q rn rc n : Nat} {kd : Int32} (hjs : js < 10) (hn : n ≤ 80) (hkd : kStrip kd = true ∨ kRack kd = true) (hq : hOk M cJ cC q kd n rn rc 0 (fun _ => 0) (fun _ => none)) (hqR : ∀ k, k < 12 → liveR σ k → tRa θ k ≠ q ∧ tRn θ k ≠ rn ∧ tRc θ k ≠ rc) (hqS : tSn θ ≠ rn ∧ tRq θ ≠ rc) {Q : Nat} (hQ : Q < 12) (hfc : ¬ sCov σ = nI Q) (hfree : ∀ j, j < 10 → j ≠ js → ¬ sHo σ j = nI (Q + 1)) : Sim cI cJ cC cH x (uRc (uRn (uRa (uSp θ (va_up (tSp θ) js q)) (va_up (tRa θ) (Q) q)) (va_up (tRn θ) (Q) rn)) (va_up (tRc θ) (Q) rc)) (rfRowQ σ js Q kd n) (va_up (va_up M (tA1 θ) (some (.inl (cH, 10, .inr (.inr (.inr (.inr (va_up (fun j => some (tSp θ j)) js (some q))))))))) x (some (.inr (2, [.ref (tA1 θ), .ref (tA2 θ), .int (sCam σ), .int (sRow σ + 1), .int (sCar σ), va_rf (tCv θ), .ref (tSt θ), .ref (tRk θ)])))) := by
  obtain ⟨o1, o2, o3, o4, o5⟩ := hZ.own
  obtain ⟨he, ⟨h1, h2, h3, h4, h5⟩, hd, ho⟩ := hZ.a1 hne js q
  obtain ⟨a1, a2, a3⟩ := hZ.2.2.2.2.1
  have eH : ∀ j, sHo (rfRowQ σ js Q kd n) j = if j = js then nI (Q + 1) else sHo σ j := by
    intro j
    show upd (upd (sHo σ) js 0) js (nI (Q + 1)) j = _
    by_cases h : j = js
    · subst h; rw [pk_us, if_pos rfl]
    · rw [pk_un h, pk_un h, if_neg h]
  have eSi : sSi (rfRowQ σ js Q kd n) = upd (sSi σ) (Q) (nI n) := rfl
  have eKi : sKi (rfRowQ σ js Q kd n) = upd (sKi σ) (Q) kd := rfl
  have ePl : sPl (rfRowQ σ js Q kd n) = blk (80 * Q) (80 * Q + n) 0 (sPl σ) := rfl
  have hlL : ∀ k, k < 10 → liveL (rfRowQ σ js Q kd n) k → liveL σ k := fun k hk hl => by
    obtain ⟨j, hj, e⟩ := hl
    rw [eH] at e
    by_cases h : j = js
    · rw [if_pos h] at e; exact absurd e.symm (lab_row k hk _ hQ)
    · rw [if_neg h] at e; exact ⟨j, hj, e⟩
  have hlR : ∀ k, k < 12 → liveR (rfRowQ σ js Q kd n) k → k = Q ∨ (k ≠ Q ∧ liveR σ k) := fun k hk hl => by
    by_cases hk2 : k = Q
    · exact Or.inl hk2
    · refine Or.inr ⟨hk2, hl.imp id (fun ⟨j, hj, e⟩ => ?_)⟩
      rw [eH] at e
      by_cases h : j = js
      · rw [if_pos h] at e; exact absurd (row_inj _ hQ k hk e).symm hk2
      · rw [if_neg h] at e; exact ⟨j, hj, e⟩
  refine Sim.fin (θ := uRc (uRn (uRa (uSp θ (va_up (tSp θ) js q)) (va_up (tRa θ) (Q) q)) (va_up (tRn θ) (Q) rn)) (va_up (tRc θ) (Q) rc)) (σ := rfRowQ σ js Q kd n) (he _ _ (mw_neq o1 o2 (fun z => by cases z)) o1) ((va_up_self _ _ _).trans (by rw [sp_up]; rfl)) (he _ _ (mw_neq o3 o2 (fun z => by simp at z)) o3) o4 o5 ⟨h1, h2, fun j hj => ?_, fun k hk hl => h4 k hk (hlL k hk hl), fun k hk hl => ?_⟩ ⟨fun a b ha hb la lb e => ?_, fun a ha la => ?_, fun a b ha hb la lb => a3 a b ha hb (hlL a ha la) (hlL b hb lb)⟩ hd ?_
  · show spOk _ cJ cC (rfRowQ σ js Q kd n) (tLa θ) (va_up (tRa θ) (Q) q) j (va_up (tSp θ) js q j)
    by_cases hjj : j = js
    · rw [hjj, va_up_self]
      exact Or.inr (Or.inr ⟨Q, hQ, by rw [eH, if_pos rfl], (va_up_self _ _ _).symm⟩)
    · rw [va_up_ne _ _ hjj]
      refine (h3 j hj).keep (by rw [eH, if_neg hjj]) (fun _ _ _ => rfl) (fun k hk e => va_up_ne _ _ (fun z => ?_))
      rw [z] at e
      exact hfree j hj hjj e
  · show rowOk _ cJ cC (rfRowQ σ js Q kd n) (tCa θ) k (va_up (tRa θ) (Q) q k) (va_up (tRn θ) (Q) rn k) (va_up (tRc θ) (Q) rc k)
    unfold rowOk
    rw [eSi, eKi, ePl]
    rcases hlR k hk hl with rfl | ⟨hk2, hl2⟩
    · rw [va_up_self, va_up_self, va_up_self, pk_us, pk_us]
      exact ⟨n, _, _, hn, rfl, hq.oth ho, fun _ i hi => (blk_in (by omega)).symm, fun _ i hi => by rw [blk_in (by omega), cdR_0]⟩
    · rw [va_up_ne _ _ hk2, va_up_ne _ _ hk2, va_up_ne _ _ hk2, pk_un hk2, pk_un hk2]
      obtain ⟨n', f, g, b1, b2, b3, b4, b5⟩ := h5 k hk hl2
      exact ⟨n', f, g, b1, b2, b3, fun z i hi => (b4 z i hi).trans (blk_out (by omega)).symm, fun z i hi => (b5 z i hi).trans (congrArg _ (blk_out (by omega)).symm)⟩
  · have e' : va_up (tRa θ) (Q) q a = va_up (tRa θ) (Q) q b ∨ va_up (tRn θ) (Q) rn a = va_up (tRn θ) (Q) rn b ∨ va_up (tRc θ) (Q) rc a = va_up (tRc θ) (Q) rc b := e
    rcases hlR a ha la with h | ⟨ha2, la2⟩ <;> rcases hlR b hb lb with h' | ⟨hb2, lb2⟩
    · omega
    · rw [h, va_up_self, va_up_self, va_up_self, va_up_ne _ _ hb2, va_up_ne _ _ hb2, va_up_ne _ _ hb2] at e'
      obtain ⟨z1, z2, z3⟩ := hqR b hb lb2
      exact (e'.elim (fun z => z1 z.symm) (fun z => z.elim (fun z => z2 z.symm) (fun z => z3 z.symm))).elim
    · rw [h', va_up_self, va_up_self, va_up_self, va_up_ne _ _ ha2, va_up_ne _ _ ha2, va_up_ne _ _ ha2] at e'
      obtain ⟨z1, z2, z3⟩ := hqR a ha la2
      exact (e'.elim z1 (fun z => z.elim z2 z3)).elim
    · rw [va_up_ne _ _ ha2, va_up_ne _ _ ha2, va_up_ne _ _ ha2, va_up_ne _ _ hb2, va_up_ne _ _ hb2, va_up_ne _ _ hb2] at e'
      exact a1 a b ha hb la2 lb2 e'
  · show tSn θ ≠ va_up (tRn θ) (Q) rn a ∧ tRq θ ≠ va_up (tRc θ) (Q) rc a
    rcases hlR a ha la with rfl | ⟨ha2, la2⟩
    · rw [va_up_self, va_up_self]; exact hqS
    · rw [va_up_ne _ _ ha2, va_up_ne _ _ ha2]; exact a2 a ha la2
  · rcases hZ.2.2.2.2.2.2 with z | ⟨k, n', hk, hc, hcv, en, hn', w1, w2⟩
    · exact Or.inl z
    · have hk2 : k ≠ Q := fun z => hfc (by rw [← z]; exact hc)
      refine Or.inr ⟨k, n', hk, hc, ?_, ?_, hn', ?_, ?_⟩
      · show tCv θ = some (va_up (tRa θ) (Q) q k)
        rw [va_up_ne _ _ hk2]; exact hcv
      · show upd (sSi σ) (Q) (nI n) k = nI n'
        rw [pk_un hk2]; exact en
      · show kStrip (upd (sKi σ) (Q) kd k) = true → _
        rw [pk_un hk2]; exact w1
      · show kRack (upd (sKi σ) (Q) kd k) = true → _
        rw [pk_un hk2]; exact w2
theorem Sim.holdR (hZ : Sim cI cJ cC cH x θ σ M) (hne : cC ≠ cH) {js q rn rc n : Nat} {kd : Int32} (hjs : js < 10) (hn : n ≤ 80) (hkd : kStrip kd = true ∨ kRack kd = true) (hq : hOk M cJ cC q kd n rn rc 0 (fun _ => 0) (fun _ => none)) (hqR : ∀ k, k < 12 → liveR σ k → tRa θ k ≠ q ∧ tRn θ k ≠ rn ∧ tRc θ k ≠ rc) (hqS : tSn θ ≠ rn ∧ tRq θ ≠ rc) : Sim cI cJ cC cH x (uRc (uRn (uRa (uSp θ (va_up (tSp θ) js q)) (va_up (tRa θ) (rowQ σ js) q)) (va_up (tRn θ) (rowQ σ js) rn)) (va_up (tRc θ) (rowQ σ js) rc)) (rfRow σ js kd n) (va_up (va_up M (tA1 θ) (some (.inl (cH, 10, .inr (.inr (.inr (.inr (va_up (fun j => some (tSp θ j)) js (some q))))))))) x (some (.inr (2, [.ref (tA1 θ), .ref (tA2 θ), .int (sCam σ), .int (sRow σ + 1), .int (sCar σ), va_rf (tCv θ), .ref (tSt θ), .ref (tRk θ)])))) := by
  obtain ⟨hQ, hfc, hfree⟩ := rowQ_free (σ := σ) hjs
  exact hZ.holdRQ hne hjs hn hkd hq hqR hqS hQ hfc hfree
end SL5
